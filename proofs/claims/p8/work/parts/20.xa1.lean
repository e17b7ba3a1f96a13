/-! contracts: spec2 J6,J9,X6,X2 -/
set_option maxRecDepth 100000 in
set_option maxHeartbeats 4000000 in
theorem c_J6_bitCount_0f7a4 {X : jX} (hs : X.1.stackTraces = false) {d : Nat} (hd : 0 ≤ d) {w : List jC} (a : Int32) {kc ks : Nat} : jMet X mJ6_bitCount_0f7a4 d kc ks [.int a] w (pI (fun v => ∃ k : Nat, v = nI k ∧ k < 64) (fun w' => w' = w)) := by
  refine jMet_of hs (by decide +kernel) (Nat.le_of_ble_eq_true rfl) (L := [some (.int a)]) rfl ?_
  refine J_iload_n (pc := 0) dJ6_bitCount_0f7a4_0 rfl rfl ?_
  refine J_iload_n (pc := 1) dJ6_bitCount_0f7a4_1 rfl rfl ?_
  refine J_iconst (pc := 2) (v := nI 1) dJ6_bitCount_0f7a4_2 (by decide) ?_
  refine J_iushr (pc := 3) dJ6_bitCount_0f7a4_3 (J_absI fun x1 => ?_)
  refine J_ldcw (pc := 4) (v := nI 1431655765) dJ6_bitCount_0f7a4_4 (by have := fk_J6_265; exact this) ?_
  refine J_iand (pc := 7) dJ6_bitCount_0f7a4_7 (J_absI fun x2 => ?_)
  refine J_isub (pc := 8) dJ6_bitCount_0f7a4_8 (J_absI fun x3 => ?_)
  refine J_istore_n (pc := 9) dJ6_bitCount_0f7a4_9 rfl (by decide) rfl ?_
  show J X mJ6_bitCount_0f7a4 d kc ks 10 [some (.int x3)] [] w _
  refine J_iload_n (pc := 10) dJ6_bitCount_0f7a4_10 rfl rfl ?_
  refine J_ldcw (pc := 11) (v := nI 858993459) dJ6_bitCount_0f7a4_11 (by have := fk_J6_266; exact this) ?_
  refine J_iand (pc := 14) dJ6_bitCount_0f7a4_14 (J_absI fun x4 => ?_)
  refine J_iload_n (pc := 15) dJ6_bitCount_0f7a4_15 rfl rfl ?_
  refine J_iconst (pc := 16) (v := nI 2) dJ6_bitCount_0f7a4_16 (by decide) ?_
  refine J_iushr (pc := 17) dJ6_bitCount_0f7a4_17 (J_absI fun x5 => ?_)
  refine J_ldcw (pc := 18) (v := nI 858993459) dJ6_bitCount_0f7a4_18 (by have := fk_J6_266; exact this) ?_
  refine J_iand (pc := 21) dJ6_bitCount_0f7a4_21 (J_absI fun x6 => ?_)
  refine J_iadd (pc := 22) dJ6_bitCount_0f7a4_22 (J_absI fun x7 => ?_)
  refine J_istore_n (pc := 23) dJ6_bitCount_0f7a4_23 rfl (by decide) rfl ?_
  show J X mJ6_bitCount_0f7a4 d kc ks 24 [some (.int x7)] [] w _
  refine J_iload_n (pc := 24) dJ6_bitCount_0f7a4_24 rfl rfl ?_
  refine J_iload_n (pc := 25) dJ6_bitCount_0f7a4_25 rfl rfl ?_
  refine J_iconst (pc := 26) (v := nI 4) dJ6_bitCount_0f7a4_26 (by decide) ?_
  refine J_iushr (pc := 27) dJ6_bitCount_0f7a4_27 (J_absI fun x8 => ?_)
  refine J_iadd (pc := 28) dJ6_bitCount_0f7a4_28 (J_absI fun x9 => ?_)
  refine J_ldcw (pc := 29) (v := nI 252645135) dJ6_bitCount_0f7a4_29 (by have := fk_J6_267; exact this) ?_
  refine J_iand (pc := 32) dJ6_bitCount_0f7a4_32 (J_absI fun x10 => ?_)
  refine J_istore_n (pc := 33) dJ6_bitCount_0f7a4_33 rfl (by decide) rfl ?_
  show J X mJ6_bitCount_0f7a4 d kc ks 34 [some (.int x10)] [] w _
  refine J_iload_n (pc := 34) dJ6_bitCount_0f7a4_34 rfl rfl ?_
  refine J_iload_n (pc := 35) dJ6_bitCount_0f7a4_35 rfl rfl ?_
  refine J_bipush (pc := 36) (v := nI 8) dJ6_bitCount_0f7a4_36 (by decide) ?_
  refine J_iushr (pc := 38) dJ6_bitCount_0f7a4_38 (J_absI fun x11 => ?_)
  refine J_iadd (pc := 39) dJ6_bitCount_0f7a4_39 (J_absI fun x12 => ?_)
  refine J_istore_n (pc := 40) dJ6_bitCount_0f7a4_40 rfl (by decide) rfl ?_
  show J X mJ6_bitCount_0f7a4 d kc ks 41 [some (.int x12)] [] w _
  refine J_iload_n (pc := 41) dJ6_bitCount_0f7a4_41 rfl rfl ?_
  refine J_iload_n (pc := 42) dJ6_bitCount_0f7a4_42 rfl rfl ?_
  refine J_bipush (pc := 43) (v := nI 16) dJ6_bitCount_0f7a4_43 (by decide) ?_
  refine J_iushr (pc := 45) dJ6_bitCount_0f7a4_45 (J_absI fun x13 => ?_)
  refine J_iadd (pc := 46) dJ6_bitCount_0f7a4_46 (J_absI fun x14 => ?_)
  refine J_istore_n (pc := 47) dJ6_bitCount_0f7a4_47 rfl (by decide) rfl ?_
  show J X mJ6_bitCount_0f7a4 d kc ks 48 [some (.int x14)] [] w _
  refine J_iload_n (pc := 48) dJ6_bitCount_0f7a4_48 rfl rfl ?_
  refine J_bipush (pc := 49) (v := nI 63) dJ6_bitCount_0f7a4_49 (by decide) ?_
  refine J_iand (pc := 51) dJ6_bitCount_0f7a4_51 (J_andE 6 63 (by decide) fun k15 hk15 => ?_)
  exact J_iret (pc := 52) dJ6_bitCount_0f7a4_52 rfl ⟨⟨k15, rfl, by omega⟩, rfl⟩
set_option maxRecDepth 100000 in
set_option maxHeartbeats 4000000 in
theorem c_J9_abs_0f7a4 {X : jX} (hs : X.1.stackTraces = false) {d : Nat} (hd : 0 ≤ d) {w : List jC} (a : Int32) {kc ks : Nat} : jMet X mJ9_abs_0f7a4 d kc ks [.int a] w (pI (fun _ => True) (fun w' => w' = w)) := by
  refine jMet_ofF hs pf_J9_abs_0f7a4 rfl (Nat.le_of_ble_eq_true rfl) (L := [some (.int a)]) rfl ?_
  refine J_iload_n (pc := 0) dJ9_abs_0f7a4_0 rfl rfl ?_
  refine J_if_ge (pc := 1) (tgt := 9) dJ9_abs_0f7a4_1 (by decide) (fun ht1 => ?_) (fun hf2 => ?_)
  · refine J_iload_n (pc := 9) dJ9_abs_0f7a4_9 rfl rfl ?_
    exact J_iret (pc := 10) dJ9_abs_0f7a4_10 rfl ⟨trivial, rfl⟩
  · refine J_iload_n (pc := 4) dJ9_abs_0f7a4_4 rfl rfl ?_
    refine J_ineg (pc := 5) dJ9_abs_0f7a4_5 (J_absI fun x3 => ?_)
    refine J_goto (pc := 6) (tgt := 10) dJ9_abs_0f7a4_6 (by decide) ?_
    exact J_iret (pc := 10) dJ9_abs_0f7a4_10 rfl ⟨trivial, rfl⟩
set_option maxRecDepth 100000 in
set_option maxHeartbeats 4000000 in
theorem c_J9_floorMod_7cf53 {X : jX} (hs : X.1.stackTraces = false) {d : Nat} (hd : 0 ≤ d) {w : List jC} (a : Int32) (b : Int32) (hy0 : ¬ b = 0) {kc ks : Nat} : jMet X mJ9_floorMod_7cf53 d kc ks [.int a, .int b] w (pI (fun _ => True) (fun w' => w' = w)) := by
  refine jMet_ofF hs pf_J9_floorMod_7cf53 rfl (Nat.le_of_ble_eq_true rfl) (L := [some (.int a), some (.int b), none]) rfl ?_
  refine J_iload_n (pc := 0) dJ9_floorMod_7cf53_0 rfl rfl ?_
  refine J_iload_n (pc := 1) dJ9_floorMod_7cf53_1 rfl rfl ?_
  refine J_irem (pc := 2) dJ9_floorMod_7cf53_2 (by first | assumption | exact nz1 (by assumption) | exact nz1' (by assumption)) (J_absI fun x1 => ?_)
  refine J_istore_n (pc := 3) dJ9_floorMod_7cf53_3 rfl (by decide) rfl ?_
  show J X mJ9_floorMod_7cf53 d kc ks 4 [some (.int a), some (.int b), some (.int x1)] [] w _
  refine J_iload_n (pc := 4) dJ9_floorMod_7cf53_4 rfl rfl ?_
  refine J_iload_n (pc := 5) dJ9_floorMod_7cf53_5 rfl rfl ?_
  refine J_ixor (pc := 6) dJ9_floorMod_7cf53_6 (J_absI fun x2 => ?_)
  refine J_if_ge (pc := 7) (tgt := 18) dJ9_floorMod_7cf53_7 (by decide) (fun ht3 => ?_) (fun hf4 => ?_)
  · refine J_iload_n (pc := 18) dJ9_floorMod_7cf53_18 rfl rfl ?_
    exact J_iret (pc := 19) dJ9_floorMod_7cf53_19 rfl ⟨trivial, rfl⟩
  · refine J_iload_n (pc := 10) dJ9_floorMod_7cf53_10 rfl rfl ?_
    refine J_if_eq (pc := 11) (tgt := 18) dJ9_floorMod_7cf53_11 (by decide) (fun ht5 => ?_) (fun hf6 => ?_)
    · refine J_iload_n (pc := 18) dJ9_floorMod_7cf53_18 rfl rfl ?_
      exact J_iret (pc := 19) dJ9_floorMod_7cf53_19 rfl ⟨trivial, rfl⟩
    · refine J_iload_n (pc := 14) dJ9_floorMod_7cf53_14 rfl rfl ?_
      refine J_iload_n (pc := 15) dJ9_floorMod_7cf53_15 rfl rfl ?_
      refine J_iadd (pc := 16) dJ9_floorMod_7cf53_16 (J_absI fun x7 => ?_)
      exact J_iret (pc := 17) dJ9_floorMod_7cf53_17 rfl ⟨trivial, rfl⟩
set_option maxRecDepth 100000 in
set_option maxHeartbeats 4000000 in
theorem c_X6_has {X : jX} (hs : X.1.stackTraces = false) {d : Nat} (hd : 0 ≤ d) {w : List jC} (a : Int32) (b : Int32) {kc ks : Nat} : jMet X mX6_has d kc ks [.int a, .int b] w (pI (fun v => ∃ k : Nat, v = nI k ∧ k < 2) (fun w' => w' = w)) := by
  refine jMet_of hs (by decide +kernel) (Nat.le_of_ble_eq_true rfl) (L := [some (.int a), some (.int b)]) rfl ?_
  refine J_iload_n (pc := 0) dX6_has_0 rfl rfl ?_
  refine J_iload_n (pc := 1) dX6_has_1 rfl rfl ?_
  refine J_ishr (pc := 2) dX6_has_2 (J_absI fun x1 => ?_)
  refine J_iconst (pc := 3) (v := nI 1) dX6_has_3 (by decide) ?_
  refine J_iand (pc := 4) dX6_has_4 (J_andE 1 1 (by decide) fun k2 hk2 => ?_)
  refine J_iconst (pc := 5) (v := nI 1) dX6_has_5 (by decide) ?_
  refine J_icmp_neN (pc := 6) (tgt := 13) dX6_has_6 (by decide) (by omega) (by omega) (fun ht3 => ?_) (fun hf4 => ?_)
  · refine J_iconst (pc := 13) (v := nI 0) dX6_has_13 (by decide) ?_
    exact J_zret (pc := 14) dX6_has_14 rfl (nar_b (by omega)) ⟨⟨0, rfl, by omega⟩, rfl⟩
  · refine J_iconst (pc := 9) (v := nI 1) dX6_has_9 (by decide) ?_
    refine J_goto (pc := 10) (tgt := 14) dX6_has_10 (by decide) ?_
    exact J_zret (pc := 14) dX6_has_14 rfl (nar_b (by omega)) ⟨⟨1, rfl, by omega⟩, rfl⟩
set_option maxRecDepth 100000 in
set_option maxHeartbeats 4000000 in
theorem c_X6_howManyBelow {X : jX} (hs : X.1.stackTraces = false) {d : Nat} (hd : 1 ≤ d) {w : List jC} (a : Int32) (b : Int32) {kc ks : Nat} : jMet X mX6_howManyBelow d kc ks [.int a, .int b] w (pI (fun v => ∃ k : Nat, v = nI k ∧ k < 64) (fun w' => w' = w)) := by
  refine jMet_of hs (by decide +kernel) (Nat.le_of_ble_eq_true rfl) (L := [some (.int a), some (.int b)]) rfl ?_
  refine J_iload_n (pc := 0) dX6_howManyBelow_0 rfl rfl ?_
  refine J_iconst (pc := 1) (v := nI 1) dX6_howManyBelow_1 (by decide) ?_
  refine J_iload_n (pc := 2) dX6_howManyBelow_2 rfl rfl ?_
  refine J_ishl (pc := 3) dX6_howManyBelow_3 (J_absI fun x1 => ?_)
  refine J_iconst (pc := 4) (v := nI 1) dX6_howManyBelow_4 (by decide) ?_
  refine J_isub (pc := 5) dX6_howManyBelow_5 (J_absI fun x2 => ?_)
  refine J_iand (pc := 6) dX6_howManyBelow_6 (J_absI fun x3 => ?_)
  refine J_callS0 (pc := 7) (M := mX6_howManyBelow) (as := [.int x3]) dX6_howManyBelow_7 fw_J6_bitCount_0f7a4 fl_X6_220 fs_J6_bitCount_0f7a4 rfl (c_J6_bitCount_0f7a4 hs (d := d - 1) (by omega) (w := w) x3 (kc := 0) (ks := 0)) (by omega) (st := []) (Nat.le_of_ble_eq_true rfl) rfl (kr_P fun v4 hv4 => ?_) kx_I
  obtain ⟨k4, rfl, hk4⟩ := hv4
  exact J_iret (pc := 10) dX6_howManyBelow_10 rfl ⟨⟨k4, rfl, by omega⟩, rfl⟩
set_option maxRecDepth 100000 in
set_option maxHeartbeats 4000000 in
theorem c_X6_quotient {X : jX} (hs : X.1.stackTraces = false) {d : Nat} (hd : 0 ≤ d) {w : List jC} (a : Int32) (b : Int32) {kc ks : Nat} : jMet X mX6_quotient d kc ks [.int a, .int b] w (pI (fun _ => True) (fun w' => w' = w)) := by
  refine jMet_of hs (by decide +kernel) (Nat.le_of_ble_eq_true rfl) (L := [some (.int a), some (.int b)]) rfl ?_
  refine J_iload_n (pc := 0) dX6_quotient_0 rfl rfl ?_
  refine J_iconst (pc := 1) (v := nI 1) dX6_quotient_1 (by decide) ?_
  refine J_icmp_ge (pc := 2) (tgt := 9) dX6_quotient_2 (by decide) (fun ht1 => ?_) (fun hf2 => ?_)
  · refine J_iload_n (pc := 9) dX6_quotient_9 rfl rfl ?_
    refine J_iload_n (pc := 10) dX6_quotient_10 rfl rfl ?_
    refine J_idiv (pc := 11) dX6_quotient_11 (by first | assumption | exact nz1 (by assumption) | exact nz1' (by assumption)) (J_absI fun x3 => ?_)
    exact J_iret (pc := 12) dX6_quotient_12 rfl ⟨trivial, rfl⟩
  · refine J_iconst (pc := 5) (v := nI 0) dX6_quotient_5 (by decide) ?_
    refine J_goto (pc := 6) (tgt := 12) dX6_quotient_6 (by decide) ?_
    exact J_iret (pc := 12) dX6_quotient_12 rfl ⟨trivial, rfl⟩
set_option maxRecDepth 100000 in
set_option maxHeartbeats 4000000 in
theorem c_X6_remainder {X : jX} (hs : X.1.stackTraces = false) {d : Nat} (hd : 1 ≤ d) {w : List jC} (a : Int32) (b : Int32) {kc ks : Nat} : jMet X mX6_remainder d kc ks [.int a, .int b] w (pI (fun _ => True) (fun w' => w' = w)) := by
  refine jMet_of hs (by decide +kernel) (Nat.le_of_ble_eq_true rfl) (L := [some (.int a), some (.int b)]) rfl ?_
  refine J_iload_n (pc := 0) dX6_remainder_0 rfl rfl ?_
  refine J_iconst (pc := 1) (v := nI 1) dX6_remainder_1 (by decide) ?_
  refine J_icmp_ge (pc := 2) (tgt := 9) dX6_remainder_2 (by decide) (fun ht1 => ?_) (fun hf2 => ?_)
  · refine J_iload_n (pc := 9) dX6_remainder_9 rfl rfl ?_
    refine J_iload_n (pc := 10) dX6_remainder_10 rfl rfl ?_
    refine J_callS0 (pc := 11) (M := mX6_remainder) (as := [.int a, .int b]) dX6_remainder_11 fw_J9_floorMod_7cf53 fl_X6_311 fs_J9_floorMod_7cf53 rfl (c_J9_floorMod_7cf53 hs (d := d - 1) (by omega) (w := w) a b (by first | assumption | exact nz1 (by assumption) | exact nz1' (by assumption)) (kc := 0) (ks := 0)) (by omega) (st := []) (Nat.le_of_ble_eq_true rfl) rfl (kr_P fun v3 hv3 => ?_) kx_I
    exact J_iret (pc := 14) dX6_remainder_14 rfl ⟨trivial, rfl⟩
  · refine J_iconst (pc := 5) (v := nI 0) dX6_remainder_5 (by decide) ?_
    refine J_goto (pc := 6) (tgt := 14) dX6_remainder_6 (by decide) ?_
    exact J_iret (pc := 14) dX6_remainder_14 rfl ⟨trivial, rfl⟩
set_option maxRecDepth 100000 in
set_option maxHeartbeats 4000000 in
theorem c_X6_divides {X : jX} (hs : X.1.stackTraces = false) {d : Nat} (hd : 0 ≤ d) {w : List jC} (a : Int32) (b : Int32) {kc ks : Nat} : jMet X mX6_divides d kc ks [.int a, .int b] w (pI (fun v => ∃ k : Nat, v = nI k ∧ k < 2) (fun w' => w' = w)) := by
  refine jMet_of hs (by decide +kernel) (Nat.le_of_ble_eq_true rfl) (L := [some (.int a), some (.int b)]) rfl ?_
  refine J_iload_n (pc := 0) dX6_divides_0 rfl rfl ?_
  refine J_iconst (pc := 1) (v := nI 1) dX6_divides_1 (by decide) ?_
  refine J_icmp_lt (pc := 2) (tgt := 15) dX6_divides_2 (by decide) (fun ht1 => ?_) (fun hf2 => ?_)
  · refine J_iconst (pc := 15) (v := nI 0) dX6_divides_15 (by decide) ?_
    exact J_zret (pc := 16) dX6_divides_16 rfl (nar_b (by omega)) ⟨⟨0, rfl, by omega⟩, rfl⟩
  · refine J_iload_n (pc := 5) dX6_divides_5 rfl rfl ?_
    refine J_iload_n (pc := 6) dX6_divides_6 rfl rfl ?_
    refine J_irem (pc := 7) dX6_divides_7 (by first | assumption | exact nz1 (by assumption) | exact nz1' (by assumption)) (J_absI fun x3 => ?_)
    refine J_if_ne (pc := 8) (tgt := 15) dX6_divides_8 (by decide) (fun ht4 => ?_) (fun hf5 => ?_)
    · refine J_iconst (pc := 15) (v := nI 0) dX6_divides_15 (by decide) ?_
      exact J_zret (pc := 16) dX6_divides_16 rfl (nar_b (by omega)) ⟨⟨0, rfl, by omega⟩, rfl⟩
    · refine J_iconst (pc := 11) (v := nI 1) dX6_divides_11 (by decide) ?_
      refine J_goto (pc := 12) (tgt := 16) dX6_divides_12 (by decide) ?_
      exact J_zret (pc := 16) dX6_divides_16 rfl (nar_b (by omega)) ⟨⟨1, rfl, by omega⟩, rfl⟩
set_option maxRecDepth 100000 in
set_option maxHeartbeats 4000000 in
theorem c_X6_mix {X : jX} (hs : X.1.stackTraces = false) {d : Nat} (hd : 0 ≤ d) {w : List jC} (a : Int64) (b : Int64) {kc ks : Nat} : jMet X mX6_mix d kc ks [.long a, .long b] w (pL (fun _ => True) (fun w' => w' = w)) := by
  refine jMet_of hs (by decide +kernel) (Nat.le_of_ble_eq_true rfl) (L := [some (.long a), none, some (.long b), none]) rfl ?_
  refine J_lload_n (pc := 0) dX6_mix_0 rfl rfl ?_
  refine J_ldc2 (pc := 1) dX6_mix_1 fk_X6_309 (J_absL fun y1 => ?_)
  refine J_lmul (pc := 4) dX6_mix_4 (J_absL fun y2 => ?_)
  refine J_lload_n (pc := 5) dX6_mix_5 rfl rfl ?_
  refine J_ladd (pc := 6) dX6_mix_6 (J_absL fun y3 => ?_)
  exact J_lret (pc := 7) dX6_mix_7 rfl ⟨trivial, rfl⟩
set_option maxRecDepth 100000 in
set_option maxHeartbeats 4000000 in
theorem c_X2_goal {X : jX} (hs : X.1.stackTraces = false) {d : Nat} (hd : 0 ≤ d) {w : List jC} (a : Int32) (b : Int32) {kc ks : Nat} : jMet X mX2_goal d kc ks [.int a, .int b] w (pI (fun v => ∃ k : Nat, v = nI k ∧ k < 8) (fun w' => w' = w)) := by
  refine jMet_of hs (by decide +kernel) (Nat.le_of_ble_eq_true rfl) (L := [some (.int a), some (.int b)]) rfl ?_
  refine J_iload_n (pc := 0) dX2_goal_0 rfl rfl ?_
  refine J_iconst (pc := 1) (v := nI 3) dX2_goal_1 (by decide) ?_
  refine J_iload_n (pc := 2) dX2_goal_2 rfl rfl ?_
  refine J_imul (pc := 3) dX2_goal_3 (J_absI fun x1 => ?_)
  refine J_ishr (pc := 4) dX2_goal_4 (J_absI fun x2 => ?_)
  refine J_bipush (pc := 5) (v := nI 7) dX2_goal_5 (by decide) ?_
  refine J_iand (pc := 7) dX2_goal_7 (J_andE 3 7 (by decide) fun k3 hk3 => ?_)
  exact J_iret (pc := 8) dX2_goal_8 rfl ⟨⟨k3, rfl, by omega⟩, rfl⟩
set_option maxRecDepth 100000 in
set_option maxHeartbeats 4000000 in
theorem c_X2_with {X : jX} (hs : X.1.stackTraces = false) {d : Nat} (hd : 0 ≤ d) {w : List jC} (a : Int32) (b : Int32) (c : Int32) {kc ks : Nat} : jMet X mX2_with d kc ks [.int a, .int b, .int c] w (pI (fun _ => True) (fun w' => w' = w)) := by
  refine jMet_of hs (by decide +kernel) (Nat.le_of_ble_eq_true rfl) (L := [some (.int a), some (.int b), some (.int c)]) rfl ?_
  refine J_iload_n (pc := 0) dX2_with_0 rfl rfl ?_
  refine J_bipush (pc := 1) (v := nI 7) dX2_with_1 (by decide) ?_
  refine J_iconst (pc := 3) (v := nI 3) dX2_with_3 (by decide) ?_
  refine J_iload_n (pc := 4) dX2_with_4 rfl rfl ?_
  refine J_imul (pc := 5) dX2_with_5 (J_absI fun x1 => ?_)
  refine J_ishl (pc := 6) dX2_with_6 (J_absI fun x2 => ?_)
  refine J_iconst (pc := 7) (v := (-1)) dX2_with_7 (by decide) ?_
  refine J_ixor (pc := 8) dX2_with_8 (J_absI fun x3 => ?_)
  refine J_iand (pc := 9) dX2_with_9 (J_absI fun x4 => ?_)
  refine J_iload_n (pc := 10) dX2_with_10 rfl rfl ?_
  refine J_iconst (pc := 11) (v := nI 3) dX2_with_11 (by decide) ?_
  refine J_iload_n (pc := 12) dX2_with_12 rfl rfl ?_
  refine J_imul (pc := 13) dX2_with_13 (J_absI fun x5 => ?_)
  refine J_ishl (pc := 14) dX2_with_14 (J_absI fun x6 => ?_)
  refine J_ior (pc := 15) dX2_with_15 (J_absI fun x7 => ?_)
  exact J_iret (pc := 16) dX2_with_16 rfl ⟨trivial, rfl⟩
set_option maxRecDepth 100000 in
set_option maxHeartbeats 4000000 in
theorem c_X2_both {X : jX} (hs : X.1.stackTraces = false) {d : Nat} (hd : 0 ≤ d) {w : List jC} (a : Int32) (b : Int32) {kc ks : Nat} : jMet X mX2_both d kc ks [.int a, .int b] w (pI (fun _ => True) (fun w' => w' = w)) := by
  refine jMet_of hs (by decide +kernel) (Nat.le_of_ble_eq_true rfl) (L := [some (.int a), some (.int b), none, none]) rfl ?_
  refine J_iconst (pc := 0) (v := nI 0) dX2_both_0 (by decide) ?_
  refine J_istore_n (pc := 1) dX2_both_1 rfl (by decide) rfl ?_
  show J X mX2_both d kc ks 2 [some (.int a), some (.int b), some (.int (nI 0)), none] [] w _
  refine J_iconst (pc := 2) (v := nI 0) dX2_both_2 (by decide) ?_
  refine J_istore_n (pc := 3) dX2_both_3 rfl (by decide) rfl ?_
  show J X mX2_both d kc ks 4 [some (.int a), some (.int b), some (.int (nI 0)), some (.int (nI 0))] [] w _
  have lp4_1 : ∀ (fuel : Nat) (z2 : Int32) (c3 : Nat), c3 < 2147483648 → 21 - c3 < fuel → J X mX2_both d kc ks 4 [some (.int a), some (.int b), some (.int z2), some (.int (nI c3))] [] w (pI (fun _ => True) (fun w' => w' = w)) := by
    intro fuellp4_1
    induction fuellp4_1 with
    | zero => intros; omega
    | succ fuellp4_1 ihlp4_1 =>
      intro z2 c3 hi2 hf3
      refine J_iload_n (pc := 4) dX2_both_4 rfl rfl ?_
      refine J_bipush (pc := 5) (v := nI 21) dX2_both_5 (by decide) ?_
      refine J_icmp_geN (pc := 7) (tgt := 34) dX2_both_7 (by decide) (by omega) (by omega) (fun ht4 => ?_) (fun hf5 => ?_)
      · refine J_iload_n (pc := 34) dX2_both_34 rfl rfl ?_
        exact J_iret (pc := 35) dX2_both_35 rfl ⟨trivial, rfl⟩
      · refine J_iload_n (pc := 10) dX2_both_10 rfl rfl ?_
        refine J_iload_n (pc := 11) dX2_both_11 rfl rfl ?_
        refine J_iconst (pc := 12) (v := nI 3) dX2_both_12 (by decide) ?_
        refine J_iload_n (pc := 13) dX2_both_13 rfl rfl ?_
        refine J_iload_n (pc := 14) dX2_both_14 rfl rfl ?_
        refine J_ishr (pc := 15) dX2_both_15 (J_absI fun x6 => ?_)
        refine J_bipush (pc := 16) (v := nI 7) dX2_both_16 (by decide) ?_
        refine J_iand (pc := 18) dX2_both_18 (J_andE 3 7 (by decide) fun k7 hk7 => ?_)
        refine J_imulN (pc := 19) dX2_both_19 ?_
        refine J_ishr (pc := 20) dX2_both_20 (J_absI fun x8 => ?_)
        refine J_bipush (pc := 21) (v := nI 7) dX2_both_21 (by decide) ?_
        refine J_iand (pc := 23) dX2_both_23 (J_andE 3 7 (by decide) fun k9 hk9 => ?_)
        refine J_iload_n (pc := 24) dX2_both_24 rfl rfl ?_
        refine J_ishl (pc := 25) dX2_both_25 (J_absI fun x10 => ?_)
        refine J_ior (pc := 26) dX2_both_26 (J_absI fun x11 => ?_)
        refine J_istore_n (pc := 27) dX2_both_27 rfl (by decide) rfl ?_
        show J X mX2_both d kc ks 28 [some (.int a), some (.int b), some (.int x11), some (.int (nI c3))] [] w _
        refine J_iincN (pc := 28) (b := 3) dX2_both_28 rfl (by decide) (by decide) rfl ?_
        show J X mX2_both d kc ks 31 [some (.int a), some (.int b), some (.int x11), some (.int (nI (c3 + 3)))] [] w _
        refine J_goto (pc := 31) (tgt := 4) dX2_both_31 (by decide) ?_
        exact J_sub (L' := [some (.int a), some (.int b), some (.int x11), some (.int (nI (c3 + 3)))]) ⟨rfl, ⟨rfl, ⟨rfl, ⟨rfl, trivial⟩⟩⟩⟩ (ihlp4_1 x11 (c3 + 3) (by first | assumption | omega) (by omega))
  exact J_sub (L' := [some (.int a), some (.int b), some (.int (nI 0)), some (.int (nI 0))]) ⟨rfl, ⟨rfl, ⟨rfl, ⟨rfl, trivial⟩⟩⟩⟩ (lp4_1 _ (nI 0) 0 (by first | assumption | omega) (Nat.lt_succ_self _))
set_option maxRecDepth 100000 in
set_option maxHeartbeats 4000000 in
theorem c_X2_undone {X : jX} (hs : X.1.stackTraces = false) {d : Nat} (hd : 0 ≤ d) {w : List jC} (a : Int32) {kc ks : Nat} : jMet X mX2_undone d kc ks [.int a] w (pI (fun _ => True) (fun w' => w' = w)) := by
  refine jMet_of hs (by decide +kernel) (Nat.le_of_ble_eq_true rfl) (L := [some (.int a), none, none]) rfl ?_
  refine J_iconst (pc := 0) (v := nI 0) dX2_undone_0 (by decide) ?_
  refine J_istore_n (pc := 1) dX2_undone_1 rfl (by decide) rfl ?_
  show J X mX2_undone d kc ks 2 [some (.int a), some (.int (nI 0)), none] [] w _
  refine J_iconst (pc := 2) (v := nI 0) dX2_undone_2 (by decide) ?_
  refine J_istore_n (pc := 3) dX2_undone_3 rfl (by decide) rfl ?_
  show J X mX2_undone d kc ks 4 [some (.int a), some (.int (nI 0)), some (.int (nI 0))] [] w _
  have lp4_1 : ∀ (fuel : Nat) (z1 : Int32) (c2 : Nat), c2 < 2147483648 → 7 - c2 < fuel → J X mX2_undone d kc ks 4 [some (.int a), some (.int z1), some (.int (nI c2))] [] w (pI (fun _ => True) (fun w' => w' = w)) := by
    intro fuellp4_1
    induction fuellp4_1 with
    | zero => intros; omega
    | succ fuellp4_1 ihlp4_1 =>
      intro z1 c2 hi2 hf3
      refine J_iload_n (pc := 4) dX2_undone_4 rfl rfl ?_
      refine J_bipush (pc := 5) (v := nI 7) dX2_undone_5 (by decide) ?_
      refine J_icmp_geN (pc := 7) (tgt := 31) dX2_undone_7 (by decide) (by omega) (by omega) (fun ht4 => ?_) (fun hf5 => ?_)
      · refine J_iload_n (pc := 31) dX2_undone_31 rfl rfl ?_
        exact J_iret (pc := 32) dX2_undone_32 rfl ⟨trivial, rfl⟩
      · refine J_iload_n (pc := 10) dX2_undone_10 rfl rfl ?_
        refine J_iload_n (pc := 11) dX2_undone_11 rfl rfl ?_
        refine J_iconst (pc := 12) (v := nI 3) dX2_undone_12 (by decide) ?_
        refine J_iload_n (pc := 13) dX2_undone_13 rfl rfl ?_
        refine J_iconst (pc := 14) (v := nI 3) dX2_undone_14 (by decide) ?_
        refine J_iload_n (pc := 15) dX2_undone_15 rfl rfl ?_
        refine J_imulN (pc := 16) dX2_undone_16 ?_
        refine J_ishr (pc := 17) dX2_undone_17 (J_absI fun x6 => ?_)
        refine J_bipush (pc := 18) (v := nI 7) dX2_undone_18 (by decide) ?_
        refine J_iand (pc := 20) dX2_undone_20 (J_andE 3 7 (by decide) fun k7 hk7 => ?_)
        refine J_imulN (pc := 21) dX2_undone_21 ?_
        refine J_ishl (pc := 22) dX2_undone_22 (J_absI fun x8 => ?_)
        refine J_ior (pc := 23) dX2_undone_23 (J_absI fun x9 => ?_)
        refine J_istore_n (pc := 24) dX2_undone_24 rfl (by decide) rfl ?_
        show J X mX2_undone d kc ks 25 [some (.int a), some (.int x9), some (.int (nI c2))] [] w _
        refine J_iincN (pc := 25) (b := 1) dX2_undone_25 rfl (by decide) (by decide) rfl ?_
        show J X mX2_undone d kc ks 28 [some (.int a), some (.int x9), some (.int (nI (c2 + 1)))] [] w _
        refine J_goto (pc := 28) (tgt := 4) dX2_undone_28 (by decide) ?_
        exact J_sub (L' := [some (.int a), some (.int x9), some (.int (nI (c2 + 1)))]) ⟨rfl, ⟨rfl, ⟨rfl, trivial⟩⟩⟩ (ihlp4_1 x9 (c2 + 1) (by first | assumption | omega) (by omega))
  exact J_sub (L' := [some (.int a), some (.int (nI 0)), some (.int (nI 0))]) ⟨rfl, ⟨rfl, ⟨rfl, trivial⟩⟩⟩ (lp4_1 _ (nI 0) 0 (by first | assumption | omega) (Nat.lt_succ_self _))
set_option maxRecDepth 100000 in
set_option maxHeartbeats 4000000 in
theorem c_X2_often {X : jX} (hs : X.1.stackTraces = false) {d : Nat} (hd : 1 ≤ d) {w : List jC} (a : Int32) (t : Int32) {kc ks : Nat} : jMet X mX2_often d kc ks [.int a, .int t] w (pI (fun _ => True) (fun w' => w' = w)) := by
  refine jMet_of hs (by decide +kernel) (Nat.le_of_ble_eq_true rfl) (L := [some (.int a), some (.int t), none, none]) rfl ?_
  refine J_ldc (pc := 0) (v := nI 1754760) dX2_often_0 (by have := fk_X2_11; exact this) ?_
  refine J_istore_n (pc := 2) dX2_often_2 rfl (by decide) rfl ?_
  show J X mX2_often d kc ks 3 [some (.int a), some (.int t), some (.int (nI 1754760)), none] [] w _
  refine J_iconst (pc := 3) (v := nI 0) dX2_often_3 (by decide) ?_
  refine J_istore_n (pc := 4) dX2_often_4 rfl (by decide) rfl ?_
  show J X mX2_often d kc ks 5 [some (.int a), some (.int t), some (.int (nI 1754760)), some (.int (nI 0))] [] w _
  have htn3 := tN_lt t
  have lp5_1 : ∀ (fuel : Nat) (z2 : Int32) (c3 : Nat), c3 < 2147483648 → (tN t) - c3 < fuel → J X mX2_often d kc ks 5 [some (.int a), some (.int t), some (.int z2), some (.int (nI c3))] [] w (pI (fun _ => True) (fun w' => w' = w)) := by
    intro fuellp5_1
    induction fuellp5_1 with
    | zero => intros; omega
    | succ fuellp5_1 ihlp5_1 =>
      intro z2 c3 hi2 hf4
      refine J_iload_n (pc := 5) dX2_often_5 rfl rfl ?_
      refine J_iload_n (pc := 6) dX2_often_6 rfl rfl ?_
      refine J_icmp_geI (pc := 7) (tgt := 22) dX2_often_7 (by decide) (by omega) (fun ht5 => ?_) (fun hf6 => ?_)
      · refine J_iload_n (pc := 22) dX2_often_22 rfl rfl ?_
        exact J_iret (pc := 23) dX2_often_23 rfl ⟨trivial, rfl⟩
      · refine J_iload_n (pc := 10) dX2_often_10 rfl rfl ?_
        refine J_iload_n (pc := 11) dX2_often_11 rfl rfl ?_
        refine J_callS0 (pc := 12) (M := mX2_often) (as := [.int z2, .int a]) dX2_often_12 fw_X2_both fl_X2_12 fs_X2_both rfl (c_X2_both hs (d := d - 1) (by omega) (w := w) z2 a (kc := 0) (ks := 0)) (by omega) (st := []) (Nat.le_of_ble_eq_true rfl) rfl (kr_P fun v7 hv7 => ?_) kx_I
        refine J_istore_n (pc := 15) dX2_often_15 rfl (by decide) rfl ?_
        show J X mX2_often d kc ks 16 [some (.int a), some (.int t), some (.int v7), some (.int (nI c3))] [] w _
        refine J_iincN (pc := 16) (b := 1) dX2_often_16 rfl (by decide) (by decide) rfl ?_
        show J X mX2_often d kc ks 19 [some (.int a), some (.int t), some (.int v7), some (.int (nI (c3 + 1)))] [] w _
        refine J_goto (pc := 19) (tgt := 5) dX2_often_19 (by decide) ?_
        exact J_sub (L' := [some (.int a), some (.int t), some (.int v7), some (.int (nI (c3 + 1)))]) ⟨rfl, ⟨rfl, ⟨rfl, ⟨rfl, trivial⟩⟩⟩⟩ (ihlp5_1 v7 (c3 + 1) (by first | assumption | omega) (by omega))
  exact J_sub (L' := [some (.int a), some (.int t), some (.int (nI 1754760)), some (.int (nI 0))]) ⟨rfl, ⟨rfl, ⟨rfl, ⟨rfl, trivial⟩⟩⟩⟩ (lp5_1 _ (nI 1754760) 0 (by first | assumption | omega) (Nat.lt_succ_self _))
set_option maxRecDepth 100000 in
set_option maxHeartbeats 4000000 in
theorem c_X2_factorial {X : jX} (hs : X.1.stackTraces = false) {d : Nat} (hd : 0 ≤ d) {w : List jC} (t : Nat) (hy0 : t ≤ 12) {kc ks : Nat} : jMet X mX2_factorial d kc ks [.int (nI t)] w (pI (fun _ => True) (fun w' => w' = w)) := by
  refine jMet_of hs (by decide +kernel) (Nat.le_of_ble_eq_true rfl) (L := [some (.int (nI t)), none, none]) rfl ?_
  refine J_iconst (pc := 0) (v := nI 1) dX2_factorial_0 (by decide) ?_
  refine J_istore_n (pc := 1) dX2_factorial_1 rfl (by decide) rfl ?_
  show J X mX2_factorial d kc ks 2 [some (.int (nI t)), some (.int (nI 1)), none] [] w _
  refine J_iconst (pc := 2) (v := nI 2) dX2_factorial_2 (by decide) ?_
  refine J_istore_n (pc := 3) dX2_factorial_3 rfl (by decide) rfl ?_
  show J X mX2_factorial d kc ks 4 [some (.int (nI t)), some (.int (nI 1)), some (.int (nI 2))] [] w _
  have lp4_1 : ∀ (fuel : Nat) (z1 : Int32) (c2 : Nat), c2 < 2147483648 → t + 1 - c2 < fuel → J X mX2_factorial d kc ks 4 [some (.int (nI t)), some (.int z1), some (.int (nI c2))] [] w (pI (fun _ => True) (fun w' => w' = w)) := by
    intro fuellp4_1
    induction fuellp4_1 with
    | zero => intros; omega
    | succ fuellp4_1 ihlp4_1 =>
      intro z1 c2 hi2 hf3
      refine J_iload_n (pc := 4) dX2_factorial_4 rfl rfl ?_
      refine J_iload_n (pc := 5) dX2_factorial_5 rfl rfl ?_
      refine J_icmp_gtN (pc := 6) (tgt := 19) dX2_factorial_6 (by decide) (by omega) (by omega) (fun ht4 => ?_) (fun hf5 => ?_)
      · refine J_iload_n (pc := 19) dX2_factorial_19 rfl rfl ?_
        exact J_iret (pc := 20) dX2_factorial_20 rfl ⟨trivial, rfl⟩
      · refine J_iload_n (pc := 9) dX2_factorial_9 rfl rfl ?_
        refine J_iload_n (pc := 10) dX2_factorial_10 rfl rfl ?_
        refine J_imul (pc := 11) dX2_factorial_11 (J_absI fun x6 => ?_)
        refine J_istore_n (pc := 12) dX2_factorial_12 rfl (by decide) rfl ?_
        show J X mX2_factorial d kc ks 13 [some (.int (nI t)), some (.int x6), some (.int (nI c2))] [] w _
        refine J_iincN (pc := 13) (b := 1) dX2_factorial_13 rfl (by decide) (by decide) rfl ?_
        show J X mX2_factorial d kc ks 16 [some (.int (nI t)), some (.int x6), some (.int (nI (c2 + 1)))] [] w _
        refine J_goto (pc := 16) (tgt := 4) dX2_factorial_16 (by decide) ?_
        exact J_sub (L' := [some (.int (nI t)), some (.int x6), some (.int (nI (c2 + 1)))]) ⟨rfl, ⟨rfl, ⟨rfl, trivial⟩⟩⟩ (ihlp4_1 x6 (c2 + 1) (by first | assumption | omega) (by omega))
  exact J_sub (L' := [some (.int (nI t)), some (.int (nI 1)), some (.int (nI 2))]) ⟨rfl, ⟨rfl, ⟨rfl, trivial⟩⟩⟩ (lp4_1 _ (nI 1) 2 (by first | assumption | omega) (Nat.lt_succ_self _))
set_option maxRecDepth 100000 in
set_option maxHeartbeats 4000000 in
theorem c_X2_numberOf {X : jX} (hs : X.1.stackTraces = false) {d : Nat} (hd : 2 ≤ d) {w : List jC} (a : Int32) (k : Nat) (hy0 : k ≤ 7) {kc ks : Nat} : jMet X mX2_numberOf d kc ks [.int a, .int (nI k)] w (pI (fun _ => True) (fun w' => w' = w)) := by
  refine jMet_of hs (by decide +kernel) (Nat.le_of_ble_eq_true rfl) (L := [some (.int a), some (.int (nI k)), none, none, none, none]) rfl ?_
  refine J_iconst (pc := 0) (v := nI 0) dX2_numberOf_0 (by decide) ?_
  refine J_istore_n (pc := 1) dX2_numberOf_1 rfl (by decide) rfl ?_
  show J X mX2_numberOf d kc ks 2 [some (.int a), some (.int (nI k)), some (.int (nI 0)), none, none, none] [] w _
  refine J_iconst (pc := 2) (v := nI 1) dX2_numberOf_2 (by decide) ?_
  refine J_iload_n (pc := 3) dX2_numberOf_3 rfl rfl ?_
  refine J_ishl (pc := 4) dX2_numberOf_4 (J_absI fun x1 => ?_)
  refine J_iconst (pc := 5) (v := nI 1) dX2_numberOf_5 (by decide) ?_
  refine J_isub (pc := 6) dX2_numberOf_6 (J_absI fun x2 => ?_)
  refine J_istore_n (pc := 7) dX2_numberOf_7 rfl (by decide) rfl ?_
  show J X mX2_numberOf d kc ks 8 [some (.int a), some (.int (nI k)), some (.int (nI 0)), some (.int x2), none, none] [] w _
  refine J_iconst (pc := 8) (v := nI 0) dX2_numberOf_8 (by decide) ?_
  refine J_istore (pc := 9) dX2_numberOf_9 (by decide) rfl ?_
  show J X mX2_numberOf d kc ks 11 [some (.int a), some (.int (nI k)), some (.int (nI 0)), some (.int x2), some (.int (nI 0)), none] [] w _
  have lp11_3 : ∀ (fuel : Nat) (z2 : Int32) (z3 : Int32) (c4 : Nat), c4 < 2147483648 → k - c4 < fuel → J X mX2_numberOf d kc ks 11 [some (.int a), some (.int (nI k)), some (.int z2), some (.int z3), some (.int (nI c4)), none] [] w (pI (fun _ => True) (fun w' => w' = w)) := by
    intro fuellp11_3
    induction fuellp11_3 with
    | zero => intros; omega
    | succ fuellp11_3 ihlp11_3 =>
      intro z2 z3 c4 hi4 hf5
      refine J_iload (pc := 11) dX2_numberOf_11 rfl ?_
      refine J_iload_n (pc := 13) dX2_numberOf_13 rfl rfl ?_
      refine J_icmp_geN (pc := 14) (tgt := 54) dX2_numberOf_14 (by decide) (by omega) (by omega) (fun ht6 => ?_) (fun hf7 => ?_)
      · refine J_iload_n (pc := 54) dX2_numberOf_54 rfl rfl ?_
        exact J_iret (pc := 55) dX2_numberOf_55 rfl ⟨trivial, rfl⟩
      · refine J_iload_n (pc := 17) dX2_numberOf_17 rfl rfl ?_
        refine J_iload (pc := 18) dX2_numberOf_18 rfl ?_
        refine J_callS0 (pc := 20) (M := mX2_numberOf) (as := [.int a, .int (nI c4)]) dX2_numberOf_20 fw_X2_goal fl_X2_16 fs_X2_goal rfl (c_X2_goal hs (d := d - 1) (by omega) (w := w) a (nI c4) (kc := 0) (ks := 0)) (by omega) (st := []) (Nat.le_of_ble_eq_true rfl) rfl (kr_P fun v8 hv8 => ?_) kx_I
        obtain ⟨k8, rfl, hk8⟩ := hv8
        refine J_istore (pc := 23) dX2_numberOf_23 (by decide) rfl ?_
        show J X mX2_numberOf d kc ks 25 [some (.int a), some (.int (nI k)), some (.int z2), some (.int z3), some (.int (nI c4)), some (.int (nI k8))] [] w _
        refine J_iload_n (pc := 25) dX2_numberOf_25 rfl rfl ?_
        refine J_iload_n (pc := 26) dX2_numberOf_26 rfl rfl ?_
        refine J_iload (pc := 27) dX2_numberOf_27 rfl ?_
        refine J_isubN (pc := 29) dX2_numberOf_29 (by omega) ?_
        refine J_imul (pc := 30) dX2_numberOf_30 (J_absI fun x9 => ?_)
        refine J_iload_n (pc := 31) dX2_numberOf_31 rfl rfl ?_
        refine J_iload (pc := 32) dX2_numberOf_32 rfl ?_
        refine J_callSN0 (pc := 34) (M := mX2_numberOf) (as := [.int z3, .int (nI k8)]) dX2_numberOf_34 fw_X6_howManyBelow fl_X2_19 fs_X6_howManyBelow rfl (c_X6_howManyBelow hs (d := d - 1) (by omega) (w := w) z3 (nI k8) (kc := 0) (ks := 0)) (by omega) (st := [.int x9]) (Nat.le_of_ble_eq_true rfl) rfl (kr_P fun v10 hv10 => ?_) kx_I
        obtain ⟨k10, rfl, hk10⟩ := hv10
        refine J_iadd (pc := 37) dX2_numberOf_37 (J_absI fun x11 => ?_)
        refine J_istore_n (pc := 38) dX2_numberOf_38 rfl (by decide) rfl ?_
        show J X mX2_numberOf d kc ks 39 [some (.int a), some (.int (nI k)), some (.int x11), some (.int z3), some (.int (nI c4)), some (.int (nI k8))] [] w _
        refine J_iload_n (pc := 39) dX2_numberOf_39 rfl rfl ?_
        refine J_iconst (pc := 40) (v := nI 1) dX2_numberOf_40 (by decide) ?_
        refine J_iload (pc := 41) dX2_numberOf_41 rfl ?_
        refine J_ishl (pc := 43) dX2_numberOf_43 (J_absI fun x12 => ?_)
        refine J_iconst (pc := 44) (v := (-1)) dX2_numberOf_44 (by decide) ?_
        refine J_ixor (pc := 45) dX2_numberOf_45 (J_absI fun x13 => ?_)
        refine J_iand (pc := 46) dX2_numberOf_46 (J_absI fun x14 => ?_)
        refine J_istore_n (pc := 47) dX2_numberOf_47 rfl (by decide) rfl ?_
        show J X mX2_numberOf d kc ks 48 [some (.int a), some (.int (nI k)), some (.int x11), some (.int x14), some (.int (nI c4)), some (.int (nI k8))] [] w _
        refine J_iincN (pc := 48) (b := 1) dX2_numberOf_48 rfl (by decide) (by decide) rfl ?_
        show J X mX2_numberOf d kc ks 51 [some (.int a), some (.int (nI k)), some (.int x11), some (.int x14), some (.int (nI (c4 + 1))), some (.int (nI k8))] [] w _
        refine J_goto (pc := 51) (tgt := 11) dX2_numberOf_51 (by decide) ?_
        exact J_sub (L' := [some (.int a), some (.int (nI k)), some (.int x11), some (.int x14), some (.int (nI (c4 + 1))), none]) ⟨rfl, ⟨rfl, ⟨rfl, ⟨rfl, ⟨rfl, trivial⟩⟩⟩⟩⟩ (ihlp11_3 x11 x14 (c4 + 1) (by first | assumption | omega) (by omega))
  exact J_sub (L' := [some (.int a), some (.int (nI k)), some (.int (nI 0)), some (.int x2), some (.int (nI 0)), none]) ⟨rfl, ⟨rfl, ⟨rfl, ⟨rfl, ⟨rfl, trivial⟩⟩⟩⟩⟩ (lp11_3 _ (nI 0) x2 0 (by first | assumption | omega) (Nat.lt_succ_self _))
set_option maxRecDepth 100000 in
set_option maxHeartbeats 4000000 in
theorem c_X2_bitAt {X : jX} (hs : X.1.stackTraces = false) {d : Nat} (hd : 2 ≤ d) {w : List jC} (a : Int32) (b : Int32) {kc ks : Nat} : jMet X mX2_bitAt d kc ks [.int a, .int b] w (pI (fun v => ∃ k : Nat, v = nI k ∧ k < 7) (fun w' => w' = w)) := by
  refine jMet_of hs (by decide +kernel) (Nat.le_of_ble_eq_true rfl) (L := [some (.int a), some (.int b), none]) rfl ?_
  refine J_iconst (pc := 0) (v := nI 0) dX2_bitAt_0 (by decide) ?_
  refine J_istore_n (pc := 1) dX2_bitAt_1 rfl (by decide) rfl ?_
  show J X mX2_bitAt d kc ks 2 [some (.int a), some (.int b), some (.int (nI 0))] [] w _
  have lp2_1 : ∀ (fuel : Nat) (c2 : Nat), c2 < 2147483648 → 7 - c2 < fuel → J X mX2_bitAt d kc ks 2 [some (.int a), some (.int b), some (.int (nI c2))] [] w (pI (fun v => ∃ k : Nat, v = nI k ∧ k < 7) (fun w' => w' = w)) := by
    intro fuellp2_1
    induction fuellp2_1 with
    | zero => intros; omega
    | succ fuellp2_1 ihlp2_1 =>
      intro c2 hi2 hf3
      refine J_iload_n (pc := 2) dX2_bitAt_2 rfl rfl ?_
      refine J_bipush (pc := 3) (v := nI 7) dX2_bitAt_3 (by decide) ?_
      refine J_icmp_geN (pc := 5) (tgt := 33) dX2_bitAt_5 (by decide) (by omega) (by omega) (fun ht4 => ?_) (fun hf5 => ?_)
      · refine J_iconst (pc := 33) (v := nI 0) dX2_bitAt_33 (by decide) ?_
        exact J_iret (pc := 34) dX2_bitAt_34 rfl ⟨⟨0, rfl, by omega⟩, rfl⟩
      · refine J_iload_n (pc := 8) dX2_bitAt_8 rfl rfl ?_
        refine J_iload_n (pc := 9) dX2_bitAt_9 rfl rfl ?_
        refine J_callSN0 (pc := 10) (M := mX2_bitAt) (as := [.int a, .int (nI c2)]) dX2_bitAt_10 fw_X6_has fl_X2_36 fs_X6_has rfl (c_X6_has hs (d := d - 1) (by omega) (w := w) a (nI c2) (kc := 0) (ks := 0)) (by omega) (st := []) (Nat.le_of_ble_eq_true rfl) rfl (kr_P fun v6 hv6 => ?_) kx_I
        obtain ⟨k6, rfl, hk6⟩ := hv6
        refine J_if_eqN (pc := 13) (tgt := 27) dX2_bitAt_13 (by decide) (by omega) (fun ht7 => ?_) (fun hf8 => ?_)
        · refine J_iincN (pc := 27) (b := 1) dX2_bitAt_27 rfl (by decide) (by decide) rfl ?_
          show J X mX2_bitAt d kc ks 30 [some (.int a), some (.int b), some (.int (nI (c2 + 1)))] [] w _
          refine J_goto (pc := 30) (tgt := 2) dX2_bitAt_30 (by decide) ?_
          exact J_sub (L' := [some (.int a), some (.int b), some (.int (nI (c2 + 1)))]) ⟨rfl, ⟨rfl, ⟨rfl, trivial⟩⟩⟩ (ihlp2_1 (c2 + 1) (by first | assumption | omega) (by omega))
        · refine J_iload_n (pc := 16) dX2_bitAt_16 rfl rfl ?_
          refine J_iload_n (pc := 17) dX2_bitAt_17 rfl rfl ?_
          refine J_callSN0 (pc := 18) (M := mX2_bitAt) (as := [.int a, .int (nI c2)]) dX2_bitAt_18 fw_X6_howManyBelow fl_X2_19 fs_X6_howManyBelow rfl (c_X6_howManyBelow hs (d := d - 1) (by omega) (w := w) a (nI c2) (kc := 0) (ks := 0)) (by omega) (st := []) (Nat.le_of_ble_eq_true rfl) rfl (kr_P fun v9 hv9 => ?_) kx_I
          obtain ⟨k9, rfl, hk9⟩ := hv9
          refine J_iload_n (pc := 21) dX2_bitAt_21 rfl rfl ?_
          refine J_icmp_ne (pc := 22) (tgt := 27) dX2_bitAt_22 (by decide) (fun ht10 => ?_) (fun hf11 => ?_)
          · refine J_iincN (pc := 27) (b := 1) dX2_bitAt_27 rfl (by decide) (by decide) rfl ?_
            show J X mX2_bitAt d kc ks 30 [some (.int a), some (.int b), some (.int (nI (c2 + 1)))] [] w _
            refine J_goto (pc := 30) (tgt := 2) dX2_bitAt_30 (by decide) ?_
            exact J_sub (L' := [some (.int a), some (.int b), some (.int (nI (c2 + 1)))]) ⟨rfl, ⟨rfl, ⟨rfl, trivial⟩⟩⟩ (ihlp2_1 (c2 + 1) (by first | assumption | omega) (by omega))
          · refine J_iload_n (pc := 25) dX2_bitAt_25 rfl rfl ?_
            exact J_iret (pc := 26) dX2_bitAt_26 rfl ⟨⟨c2, rfl, by omega⟩, rfl⟩
  exact J_sub (L' := [some (.int a), some (.int b), some (.int (nI 0))]) ⟨rfl, ⟨rfl, ⟨rfl, trivial⟩⟩⟩ (lp2_1 _ 0 (by first | assumption | omega) (Nat.lt_succ_self _))
set_option maxRecDepth 100000 in
set_option maxHeartbeats 4000000 in
theorem c_X2_withNumber {X : jX} (hs : X.1.stackTraces = false) {d : Nat} (hd : 3 ≤ d) {w : List jC} (a : Int32) (k : Nat) (hy0 : k ≤ 7) {kc ks : Nat} : jMet X mX2_withNumber d kc ks [.int a, .int (nI k)] w (pI (fun _ => True) (fun w' => w' = w)) := by
  refine jMet_of hs (by decide +kernel) (Nat.le_of_ble_eq_true rfl) (L := [some (.int a), some (.int (nI k)), none, none, none, none, none, none, none]) rfl ?_
  refine J_ldc (pc := 0) (v := nI 1754760) dX2_withNumber_0 (by have := fk_X2_11; exact this) ?_
  refine J_istore_n (pc := 2) dX2_withNumber_2 rfl (by decide) rfl ?_
  show J X mX2_withNumber d kc ks 3 [some (.int a), some (.int (nI k)), some (.int (nI 1754760)), none, none, none, none, none, none] [] w _
  refine J_iload_n (pc := 3) dX2_withNumber_3 rfl rfl ?_
  refine J_istore_n (pc := 4) dX2_withNumber_4 rfl (by decide) rfl ?_
  show J X mX2_withNumber d kc ks 5 [some (.int a), some (.int (nI k)), some (.int (nI 1754760)), some (.int a), none, none, none, none, none] [] w _
  refine J_iconst (pc := 5) (v := nI 1) dX2_withNumber_5 (by decide) ?_
  refine J_iload_n (pc := 6) dX2_withNumber_6 rfl rfl ?_
  refine J_ishl (pc := 7) dX2_withNumber_7 (J_absI fun x1 => ?_)
  refine J_iconst (pc := 8) (v := nI 1) dX2_withNumber_8 (by decide) ?_
  refine J_isub (pc := 9) dX2_withNumber_9 (J_absI fun x2 => ?_)
  refine J_istore (pc := 10) dX2_withNumber_10 (by decide) rfl ?_
  show J X mX2_withNumber d kc ks 12 [some (.int a), some (.int (nI k)), some (.int (nI 1754760)), some (.int a), some (.int x2), none, none, none, none] [] w _
  refine J_iconst (pc := 12) (v := nI 0) dX2_withNumber_12 (by decide) ?_
  refine J_istore (pc := 13) dX2_withNumber_13 (by decide) rfl ?_
  show J X mX2_withNumber d kc ks 15 [some (.int a), some (.int (nI k)), some (.int (nI 1754760)), some (.int a), some (.int x2), some (.int (nI 0)), none, none, none] [] w _
  have lp15_3 : ∀ (fuel : Nat) (z2 : Int32) (z3 : Int32) (z4 : Int32) (c5 : Nat), c5 < 2147483648 → k - c5 < fuel → J X mX2_withNumber d kc ks 15 [some (.int a), some (.int (nI k)), some (.int z2), some (.int z3), some (.int z4), some (.int (nI c5)), none, none, none] [] w (pI (fun _ => True) (fun w' => w' = w)) := by
    intro fuellp15_3
    induction fuellp15_3 with
    | zero => intros; omega
    | succ fuellp15_3 ihlp15_3 =>
      intro z2 z3 z4 c5 hi4 hf5
      refine J_iload (pc := 15) dX2_withNumber_15 rfl ?_
      refine J_iload_n (pc := 17) dX2_withNumber_17 rfl rfl ?_
      refine J_icmp_geN (pc := 18) (tgt := 83) dX2_withNumber_18 (by decide) (by omega) (by omega) (fun ht6 => ?_) (fun hf7 => ?_)
      · refine J_iload_n (pc := 83) dX2_withNumber_83 rfl rfl ?_
        exact J_iret (pc := 84) dX2_withNumber_84 rfl ⟨trivial, rfl⟩
      · refine J_iload_n (pc := 21) dX2_withNumber_21 rfl rfl ?_
        refine J_iconst (pc := 22) (v := nI 1) dX2_withNumber_22 (by decide) ?_
        refine J_isubN (pc := 23) dX2_withNumber_23 (by omega) ?_
        refine J_iload (pc := 24) dX2_withNumber_24 rfl ?_
        refine J_isubN (pc := 26) dX2_withNumber_26 (by omega) ?_
        refine J_callS0 (pc := 27) (M := mX2_withNumber) (as := [.int (nI ((k - 1) - c5))]) dX2_withNumber_27 fw_X2_factorial fl_X2_22 fs_X2_factorial rfl (c_X2_factorial hs (d := d - 1) (by omega) (w := w) ((k - 1) - c5) (by omega) (kc := 0) (ks := 0)) (by omega) (st := []) (Nat.le_of_ble_eq_true rfl) rfl (kr_P fun v8 hv8 => ?_) kx_I
        refine J_istore (pc := 30) dX2_withNumber_30 (by decide) rfl ?_
        show J X mX2_withNumber d kc ks 32 [some (.int a), some (.int (nI k)), some (.int z2), some (.int z3), some (.int z4), some (.int (nI c5)), some (.int v8), none, none] [] w _
        refine J_iload_n (pc := 32) dX2_withNumber_32 rfl rfl ?_
        refine J_iload (pc := 33) dX2_withNumber_33 rfl ?_
        refine J_callSN0 (pc := 35) (M := mX2_withNumber) (as := [.int z3, .int v8]) dX2_withNumber_35 fw_X6_quotient fl_X2_26 fs_X6_quotient rfl (c_X6_quotient hs (d := d - 1) (by omega) (w := w) z3 v8 (kc := 0) (ks := 0)) (by omega) (st := []) (Nat.le_of_ble_eq_true rfl) rfl (kr_P fun v9 hv9 => ?_) kx_I
        refine J_istore (pc := 38) dX2_withNumber_38 (by decide) rfl ?_
        show J X mX2_withNumber d kc ks 40 [some (.int a), some (.int (nI k)), some (.int z2), some (.int z3), some (.int z4), some (.int (nI c5)), some (.int v8), some (.int v9), none] [] w _
        refine J_iload (pc := 40) dX2_withNumber_40 rfl ?_
        refine J_iload (pc := 42) dX2_withNumber_42 rfl ?_
        refine J_callS0 (pc := 44) (M := mX2_withNumber) (as := [.int z4, .int v9]) dX2_withNumber_44 fw_X2_bitAt fl_X2_29 fs_X2_bitAt rfl (c_X2_bitAt hs (d := d - 1) (by omega) (w := w) z4 v9 (kc := 0) (ks := 0)) (by omega) (st := []) (Nat.le_of_ble_eq_true rfl) rfl (kr_P fun v10 hv10 => ?_) kx_I
        obtain ⟨k10, rfl, hk10⟩ := hv10
        refine J_istore (pc := 47) dX2_withNumber_47 (by decide) rfl ?_
        show J X mX2_withNumber d kc ks 49 [some (.int a), some (.int (nI k)), some (.int z2), some (.int z3), some (.int z4), some (.int (nI c5)), some (.int v8), some (.int v9), some (.int (nI k10))] [] w _
        refine J_iload_n (pc := 49) dX2_withNumber_49 rfl rfl ?_
        refine J_iload (pc := 50) dX2_withNumber_50 rfl ?_
        refine J_iload (pc := 52) dX2_withNumber_52 rfl ?_
        refine J_imul (pc := 54) dX2_withNumber_54 (J_absI fun x11 => ?_)
        refine J_isub (pc := 55) dX2_withNumber_55 (J_absI fun x12 => ?_)
        refine J_istore_n (pc := 56) dX2_withNumber_56 rfl (by decide) rfl ?_
        show J X mX2_withNumber d kc ks 57 [some (.int a), some (.int (nI k)), some (.int z2), some (.int x12), some (.int z4), some (.int (nI c5)), some (.int v8), some (.int v9), some (.int (nI k10))] [] w _
        refine J_iload (pc := 57) dX2_withNumber_57 rfl ?_
        refine J_iconst (pc := 59) (v := nI 1) dX2_withNumber_59 (by decide) ?_
        refine J_iload (pc := 60) dX2_withNumber_60 rfl ?_
        refine J_ishl (pc := 62) dX2_withNumber_62 (J_absI fun x13 => ?_)
        refine J_iconst (pc := 63) (v := (-1)) dX2_withNumber_63 (by decide) ?_
        refine J_ixor (pc := 64) dX2_withNumber_64 (J_absI fun x14 => ?_)
        refine J_iand (pc := 65) dX2_withNumber_65 (J_absI fun x15 => ?_)
        refine J_istore (pc := 66) dX2_withNumber_66 (by decide) rfl ?_
        show J X mX2_withNumber d kc ks 68 [some (.int a), some (.int (nI k)), some (.int z2), some (.int x12), some (.int x15), some (.int (nI c5)), some (.int v8), some (.int v9), some (.int (nI k10))] [] w _
        refine J_iload_n (pc := 68) dX2_withNumber_68 rfl rfl ?_
        refine J_iload (pc := 69) dX2_withNumber_69 rfl ?_
        refine J_iload (pc := 71) dX2_withNumber_71 rfl ?_
        refine J_callS0 (pc := 73) (M := mX2_withNumber) (as := [.int z2, .int (nI c5), .int (nI k10)]) dX2_withNumber_73 fw_X2_with fl_X2_32 fs_X2_with rfl (c_X2_with hs (d := d - 1) (by omega) (w := w) z2 (nI c5) (nI k10) (kc := 0) (ks := 0)) (by omega) (st := []) (Nat.le_of_ble_eq_true rfl) rfl (kr_P fun v16 hv16 => ?_) kx_I
        refine J_istore_n (pc := 76) dX2_withNumber_76 rfl (by decide) rfl ?_
        show J X mX2_withNumber d kc ks 77 [some (.int a), some (.int (nI k)), some (.int v16), some (.int x12), some (.int x15), some (.int (nI c5)), some (.int v8), some (.int v9), some (.int (nI k10))] [] w _
        refine J_iincN (pc := 77) (b := 1) dX2_withNumber_77 rfl (by decide) (by decide) rfl ?_
        show J X mX2_withNumber d kc ks 80 [some (.int a), some (.int (nI k)), some (.int v16), some (.int x12), some (.int x15), some (.int (nI (c5 + 1))), some (.int v8), some (.int v9), some (.int (nI k10))] [] w _
        refine J_goto (pc := 80) (tgt := 15) dX2_withNumber_80 (by decide) ?_
        exact J_sub (L' := [some (.int a), some (.int (nI k)), some (.int v16), some (.int x12), some (.int x15), some (.int (nI (c5 + 1))), none, none, none]) ⟨rfl, ⟨rfl, ⟨rfl, ⟨rfl, ⟨rfl, ⟨rfl, trivial⟩⟩⟩⟩⟩⟩ (ihlp15_3 v16 x12 x15 (c5 + 1) (by first | assumption | omega) (by omega))
  exact J_sub (L' := [some (.int a), some (.int (nI k)), some (.int (nI 1754760)), some (.int a), some (.int x2), some (.int (nI 0)), none, none, none]) ⟨rfl, ⟨rfl, ⟨rfl, ⟨rfl, ⟨rfl, ⟨rfl, trivial⟩⟩⟩⟩⟩⟩ (lp15_3 _ (nI 1754760) a x2 0 (by first | assumption | omega) (Nat.lt_succ_self _))
set_option maxRecDepth 100000 in
set_option maxHeartbeats 4000000 in
theorem c_X2_goals {X : jX} (hs : X.1.stackTraces = false) {d : Nat} (hd : 1 ≤ d) {w : List jC} (a : Int32) (b : Int32) {kc ks : Nat} : jMet X mX2_goals d kc ks [.int a, .int b] w (pI (fun _ => True) (fun w' => w' = w)) := by
  refine jMet_of hs (by decide +kernel) (Nat.le_of_ble_eq_true rfl) (L := [some (.int a), some (.int b), none, none]) rfl ?_
  refine J_iconst (pc := 0) (v := nI 0) dX2_goals_0 (by decide) ?_
  refine J_istore_n (pc := 1) dX2_goals_1 rfl (by decide) rfl ?_
  show J X mX2_goals d kc ks 2 [some (.int a), some (.int b), some (.int (nI 0)), none] [] w _
  refine J_iconst (pc := 2) (v := nI 0) dX2_goals_2 (by decide) ?_
  refine J_istore_n (pc := 3) dX2_goals_3 rfl (by decide) rfl ?_
  show J X mX2_goals d kc ks 4 [some (.int a), some (.int b), some (.int (nI 0)), some (.int (nI 0))] [] w _
  have lp4_1 : ∀ (fuel : Nat) (z2 : Int32) (c3 : Nat), c3 < 2147483648 → 7 - c3 < fuel → J X mX2_goals d kc ks 4 [some (.int a), some (.int b), some (.int z2), some (.int (nI c3))] [] w (pI (fun _ => True) (fun w' => w' = w)) := by
    intro fuellp4_1
    induction fuellp4_1 with
    | zero => intros; omega
    | succ fuellp4_1 ihlp4_1 =>
      intro z2 c3 hi2 hf3
      refine J_iload_n (pc := 4) dX2_goals_4 rfl rfl ?_
      refine J_bipush (pc := 5) (v := nI 7) dX2_goals_5 (by decide) ?_
      refine J_icmp_geN (pc := 7) (tgt := 34) dX2_goals_7 (by decide) (by omega) (by omega) (fun ht4 => ?_) (fun hf5 => ?_)
      · refine J_iload_n (pc := 34) dX2_goals_34 rfl rfl ?_
        exact J_iret (pc := 35) dX2_goals_35 rfl ⟨trivial, rfl⟩
      · refine J_iload_n (pc := 10) dX2_goals_10 rfl rfl ?_
        refine J_iload_n (pc := 11) dX2_goals_11 rfl rfl ?_
        refine J_callSN0 (pc := 12) (M := mX2_goals) (as := [.int b, .int (nI c3)]) dX2_goals_12 fw_X6_has fl_X2_36 fs_X6_has rfl (c_X6_has hs (d := d - 1) (by omega) (w := w) b (nI c3) (kc := 0) (ks := 0)) (by omega) (st := []) (Nat.le_of_ble_eq_true rfl) rfl (kr_P fun v6 hv6 => ?_) kx_I
        obtain ⟨k6, rfl, hk6⟩ := hv6
        refine J_if_eqN (pc := 15) (tgt := 28) dX2_goals_15 (by decide) (by omega) (fun ht7 => ?_) (fun hf8 => ?_)
        · refine J_iincN (pc := 28) (b := 1) dX2_goals_28 rfl (by decide) (by decide) rfl ?_
          show J X mX2_goals d kc ks 31 [some (.int a), some (.int b), some (.int z2), some (.int (nI (c3 + 1)))] [] w _
          refine J_goto (pc := 31) (tgt := 4) dX2_goals_31 (by decide) ?_
          exact J_sub (L' := [some (.int a), some (.int b), some (.int z2), some (.int (nI (c3 + 1)))]) ⟨rfl, ⟨rfl, ⟨rfl, ⟨rfl, trivial⟩⟩⟩⟩ (ihlp4_1 z2 (c3 + 1) (by first | assumption | omega) (by omega))
        · refine J_iload_n (pc := 18) dX2_goals_18 rfl rfl ?_
          refine J_iconst (pc := 19) (v := nI 1) dX2_goals_19 (by decide) ?_
          refine J_iload_n (pc := 20) dX2_goals_20 rfl rfl ?_
          refine J_iload_n (pc := 21) dX2_goals_21 rfl rfl ?_
          refine J_callS0 (pc := 22) (M := mX2_goals) (as := [.int a, .int (nI c3)]) dX2_goals_22 fw_X2_goal fl_X2_16 fs_X2_goal rfl (c_X2_goal hs (d := d - 1) (by omega) (w := w) a (nI c3) (kc := 0) (ks := 0)) (by omega) (st := [.int (nI 1), .int z2]) (Nat.le_of_ble_eq_true rfl) rfl (kr_P fun v9 hv9 => ?_) kx_I
          obtain ⟨k9, rfl, hk9⟩ := hv9
          refine J_ishl (pc := 25) dX2_goals_25 (J_absI fun x10 => ?_)
          refine J_ior (pc := 26) dX2_goals_26 (J_absI fun x11 => ?_)
          refine J_istore_n (pc := 27) dX2_goals_27 rfl (by decide) rfl ?_
          show J X mX2_goals d kc ks 28 [some (.int a), some (.int b), some (.int x11), some (.int (nI c3))] [] w _
          refine J_iincN (pc := 28) (b := 1) dX2_goals_28 rfl (by decide) (by decide) rfl ?_
          show J X mX2_goals d kc ks 31 [some (.int a), some (.int b), some (.int x11), some (.int (nI (c3 + 1)))] [] w _
          refine J_goto (pc := 31) (tgt := 4) dX2_goals_31 (by decide) ?_
          exact J_sub (L' := [some (.int a), some (.int b), some (.int x11), some (.int (nI (c3 + 1)))]) ⟨rfl, ⟨rfl, ⟨rfl, ⟨rfl, trivial⟩⟩⟩⟩ (ihlp4_1 x11 (c3 + 1) (by first | assumption | omega) (by omega))
  exact J_sub (L' := [some (.int a), some (.int b), some (.int (nI 0)), some (.int (nI 0))]) ⟨rfl, ⟨rfl, ⟨rfl, ⟨rfl, trivial⟩⟩⟩⟩ (lp4_1 _ (nI 0) 0 (by first | assumption | omega) (Nat.lt_succ_self _))
set_option maxRecDepth 100000 in
set_option maxHeartbeats 4000000 in
theorem c_X2_source {X : jX} (hs : X.1.stackTraces = false) {d : Nat} (hd : 1 ≤ d) {w : List jC} (a : Int32) (b : Int32) {kc ks : Nat} : jMet X mX2_source d kc ks [.int a, .int b] w (pI (fun v => ∃ k : Nat, v = nI k ∧ k < 7) (fun w' => w' = w)) := by
  refine jMet_of hs (by decide +kernel) (Nat.le_of_ble_eq_true rfl) (L := [some (.int a), some (.int b), none]) rfl ?_
  refine J_iconst (pc := 0) (v := nI 0) dX2_source_0 (by decide) ?_
  refine J_istore_n (pc := 1) dX2_source_1 rfl (by decide) rfl ?_
  show J X mX2_source d kc ks 2 [some (.int a), some (.int b), some (.int (nI 0))] [] w _
  have lp2_1 : ∀ (fuel : Nat) (c2 : Nat), c2 < 2147483648 → 7 - c2 < fuel → J X mX2_source d kc ks 2 [some (.int a), some (.int b), some (.int (nI c2))] [] w (pI (fun v => ∃ k : Nat, v = nI k ∧ k < 7) (fun w' => w' = w)) := by
    intro fuellp2_1
    induction fuellp2_1 with
    | zero => intros; omega
    | succ fuellp2_1 ihlp2_1 =>
      intro c2 hi2 hf3
      refine J_iload_n (pc := 2) dX2_source_2 rfl rfl ?_
      refine J_bipush (pc := 3) (v := nI 7) dX2_source_3 (by decide) ?_
      refine J_icmp_geN (pc := 5) (tgt := 25) dX2_source_5 (by decide) (by omega) (by omega) (fun ht4 => ?_) (fun hf5 => ?_)
      · refine J_iconst (pc := 25) (v := nI 0) dX2_source_25 (by decide) ?_
        exact J_iret (pc := 26) dX2_source_26 rfl ⟨⟨0, rfl, by omega⟩, rfl⟩
      · refine J_iload_n (pc := 8) dX2_source_8 rfl rfl ?_
        refine J_iload_n (pc := 9) dX2_source_9 rfl rfl ?_
        refine J_callS0 (pc := 10) (M := mX2_source) (as := [.int a, .int (nI c2)]) dX2_source_10 fw_X2_goal fl_X2_16 fs_X2_goal rfl (c_X2_goal hs (d := d - 1) (by omega) (w := w) a (nI c2) (kc := 0) (ks := 0)) (by omega) (st := []) (Nat.le_of_ble_eq_true rfl) rfl (kr_P fun v6 hv6 => ?_) kx_I
        obtain ⟨k6, rfl, hk6⟩ := hv6
        refine J_iload_n (pc := 13) dX2_source_13 rfl rfl ?_
        refine J_icmp_ne (pc := 14) (tgt := 19) dX2_source_14 (by decide) (fun ht7 => ?_) (fun hf8 => ?_)
        · refine J_iincN (pc := 19) (b := 1) dX2_source_19 rfl (by decide) (by decide) rfl ?_
          show J X mX2_source d kc ks 22 [some (.int a), some (.int b), some (.int (nI (c2 + 1)))] [] w _
          refine J_goto (pc := 22) (tgt := 2) dX2_source_22 (by decide) ?_
          exact J_sub (L' := [some (.int a), some (.int b), some (.int (nI (c2 + 1)))]) ⟨rfl, ⟨rfl, ⟨rfl, trivial⟩⟩⟩ (ihlp2_1 (c2 + 1) (by first | assumption | omega) (by omega))
        · refine J_iload_n (pc := 17) dX2_source_17 rfl rfl ?_
          exact J_iret (pc := 18) dX2_source_18 rfl ⟨⟨c2, rfl, by omega⟩, rfl⟩
  exact J_sub (L' := [some (.int a), some (.int b), some (.int (nI 0))]) ⟨rfl, ⟨rfl, ⟨rfl, trivial⟩⟩⟩ (lp2_1 _ 0 (by first | assumption | omega) (Nat.lt_succ_self _))
set_option maxRecDepth 100000 in
set_option maxHeartbeats 4000000 in
theorem c_X2_ringOf {X : jX} (hs : X.1.stackTraces = false) {d : Nat} (hd : 1 ≤ d) {w : List jC} (a : Int32) (b : Int32) {kc ks : Nat} : jMet X mX2_ringOf d kc ks [.int a, .int b] w (pI (fun _ => True) (fun w' => w' = w)) := by
  refine jMet_of hs (by decide +kernel) (Nat.le_of_ble_eq_true rfl) (L := [some (.int a), some (.int b), none, none, none]) rfl ?_
  refine J_iconst (pc := 0) (v := nI 0) dX2_ringOf_0 (by decide) ?_
  refine J_istore_n (pc := 1) dX2_ringOf_1 rfl (by decide) rfl ?_
  show J X mX2_ringOf d kc ks 2 [some (.int a), some (.int b), some (.int (nI 0)), none, none] [] w _
  refine J_iload_n (pc := 2) dX2_ringOf_2 rfl rfl ?_
  refine J_istore_n (pc := 3) dX2_ringOf_3 rfl (by decide) rfl ?_
  show J X mX2_ringOf d kc ks 4 [some (.int a), some (.int b), some (.int (nI 0)), some (.int b), none] [] w _
  refine J_iconst (pc := 4) (v := nI 0) dX2_ringOf_4 (by decide) ?_
  refine J_istore (pc := 5) dX2_ringOf_5 (by decide) rfl ?_
  show J X mX2_ringOf d kc ks 7 [some (.int a), some (.int b), some (.int (nI 0)), some (.int b), some (.int (nI 0))] [] w _
  have lp7_1 : ∀ (fuel : Nat) (z2 : Int32) (z3 : Int32) (c4 : Nat), c4 < 2147483648 → 7 - c4 < fuel → J X mX2_ringOf d kc ks 7 [some (.int a), some (.int b), some (.int z2), some (.int z3), some (.int (nI c4))] [] w (pI (fun _ => True) (fun w' => w' = w)) := by
    intro fuellp7_1
    induction fuellp7_1 with
    | zero => intros; omega
    | succ fuellp7_1 ihlp7_1 =>
      intro z2 z3 c4 hi2 hf3
      refine J_iload (pc := 7) dX2_ringOf_7 rfl ?_
      refine J_bipush (pc := 9) (v := nI 7) dX2_ringOf_9 (by decide) ?_
      refine J_icmp_geN (pc := 11) (tgt := 40) dX2_ringOf_11 (by decide) (by omega) (by omega) (fun ht4 => ?_) (fun hf5 => ?_)
      · refine J_iload_n (pc := 40) dX2_ringOf_40 rfl rfl ?_
        exact J_iret (pc := 41) dX2_ringOf_41 rfl ⟨trivial, rfl⟩
      · refine J_iload_n (pc := 14) dX2_ringOf_14 rfl rfl ?_
        refine J_iload_n (pc := 15) dX2_ringOf_15 rfl rfl ?_
        refine J_callSN0 (pc := 16) (M := mX2_ringOf) (as := [.int z2, .int z3]) dX2_ringOf_16 fw_X6_has fl_X2_36 fs_X6_has rfl (c_X6_has hs (d := d - 1) (by omega) (w := w) z2 z3 (kc := 0) (ks := 0)) (by omega) (st := []) (Nat.le_of_ble_eq_true rfl) rfl (kr_P fun v6 hv6 => ?_) kx_I
        obtain ⟨k6, rfl, hk6⟩ := hv6
        refine J_if_neN (pc := 19) (tgt := 40) dX2_ringOf_19 (by decide) (by omega) (fun ht7 => ?_) (fun hf8 => ?_)
        · refine J_iload_n (pc := 40) dX2_ringOf_40 rfl rfl ?_
          exact J_iret (pc := 41) dX2_ringOf_41 rfl ⟨trivial, rfl⟩
        · refine J_iload_n (pc := 22) dX2_ringOf_22 rfl rfl ?_
          refine J_iconst (pc := 23) (v := nI 1) dX2_ringOf_23 (by decide) ?_
          refine J_iload_n (pc := 24) dX2_ringOf_24 rfl rfl ?_
          refine J_ishl (pc := 25) dX2_ringOf_25 (J_absI fun x9 => ?_)
          refine J_ior (pc := 26) dX2_ringOf_26 (J_absI fun x10 => ?_)
          refine J_istore_n (pc := 27) dX2_ringOf_27 rfl (by decide) rfl ?_
          show J X mX2_ringOf d kc ks 28 [some (.int a), some (.int b), some (.int x10), some (.int z3), some (.int (nI c4))] [] w _
          refine J_iload_n (pc := 28) dX2_ringOf_28 rfl rfl ?_
          refine J_iload_n (pc := 29) dX2_ringOf_29 rfl rfl ?_
          refine J_callS0 (pc := 30) (M := mX2_ringOf) (as := [.int a, .int z3]) dX2_ringOf_30 fw_X2_goal fl_X2_16 fs_X2_goal rfl (c_X2_goal hs (d := d - 1) (by omega) (w := w) a z3 (kc := 0) (ks := 0)) (by omega) (st := []) (Nat.le_of_ble_eq_true rfl) rfl (kr_P fun v11 hv11 => ?_) kx_I
          obtain ⟨k11, rfl, hk11⟩ := hv11
          refine J_istore_n (pc := 33) dX2_ringOf_33 rfl (by decide) rfl ?_
          show J X mX2_ringOf d kc ks 34 [some (.int a), some (.int b), some (.int x10), some (.int (nI k11)), some (.int (nI c4))] [] w _
          refine J_iincN (pc := 34) (b := 1) dX2_ringOf_34 rfl (by decide) (by decide) rfl ?_
          show J X mX2_ringOf d kc ks 37 [some (.int a), some (.int b), some (.int x10), some (.int (nI k11)), some (.int (nI (c4 + 1)))] [] w _
          refine J_goto (pc := 37) (tgt := 7) dX2_ringOf_37 (by decide) ?_
          exact J_sub (L' := [some (.int a), some (.int b), some (.int x10), some (.int (nI k11)), some (.int (nI (c4 + 1)))]) ⟨rfl, ⟨rfl, ⟨rfl, ⟨rfl, ⟨rfl, trivial⟩⟩⟩⟩⟩ (ihlp7_1 x10 (nI k11) (c4 + 1) (by first | assumption | omega) (by omega))
  exact J_sub (L' := [some (.int a), some (.int b), some (.int (nI 0)), some (.int b), some (.int (nI 0))]) ⟨rfl, ⟨rfl, ⟨rfl, ⟨rfl, ⟨rfl, trivial⟩⟩⟩⟩⟩ (lp7_1 _ (nI 0) b 0 (by first | assumption | omega) (Nat.lt_succ_self _))
set_option maxRecDepth 100000 in
set_option maxHeartbeats 4000000 in
theorem c_X2_ringLength {X : jX} (hs : X.1.stackTraces = false) {d : Nat} (hd : 2 ≤ d) {w : List jC} (a : Int32) (b : Int32) {kc ks : Nat} : jMet X mX2_ringLength d kc ks [.int a, .int b] w (pI (fun v => ∃ k : Nat, v = nI k ∧ k < 64) (fun w' => w' = w)) := by
  refine jMet_of hs (by decide +kernel) (Nat.le_of_ble_eq_true rfl) (L := [some (.int a), some (.int b)]) rfl ?_
  refine J_iload_n (pc := 0) dX2_ringLength_0 rfl rfl ?_
  refine J_iload_n (pc := 1) dX2_ringLength_1 rfl rfl ?_
  refine J_callS0 (pc := 2) (M := mX2_ringLength) (as := [.int a, .int b]) dX2_ringLength_2 fw_X2_ringOf fl_X2_40 fs_X2_ringOf rfl (c_X2_ringOf hs (d := d - 1) (by omega) (w := w) a b (kc := 0) (ks := 0)) (by omega) (st := []) (Nat.le_of_ble_eq_true rfl) rfl (kr_P fun v1 hv1 => ?_) kx_I
  refine J_callS0 (pc := 5) (M := mX2_ringLength) (as := [.int v1]) dX2_ringLength_5 fw_J6_bitCount_0f7a4 fl_X2_43 fs_J6_bitCount_0f7a4 rfl (c_J6_bitCount_0f7a4 hs (d := d - 1) (by omega) (w := w) v1 (kc := 0) (ks := 0)) (by omega) (st := []) (Nat.le_of_ble_eq_true rfl) rfl (kr_P fun v2 hv2 => ?_) kx_I
  obtain ⟨k2, rfl, hk2⟩ := hv2
  exact J_iret (pc := 8) dX2_ringLength_8 rfl ⟨⟨k2, rfl, by omega⟩, rfl⟩
set_option maxRecDepth 100000 in
set_option maxHeartbeats 4000000 in
theorem c_X2_ringsOfLength {X : jX} (hs : X.1.stackTraces = false) {d : Nat} (hd : 2 ≤ d) {w : List jC} (a : Int32) (b : Int32) (k : Nat) (hy0 : k ≤ 7) {kc ks : Nat} : jMet X mX2_ringsOfLength d kc ks [.int a, .int b, .int (nI k)] w (pI (fun v => ∃ j : Nat, v = nI j ∧ j ≤ k) (fun w' => w' = w)) := by
  refine jMet_of hs (by decide +kernel) (Nat.le_of_ble_eq_true rfl) (L := [some (.int a), some (.int b), some (.int (nI k)), none, none, none]) rfl ?_
  refine J_iconst (pc := 0) (v := nI 0) dX2_ringsOfLength_0 (by decide) ?_
  refine J_istore_n (pc := 1) dX2_ringsOfLength_1 rfl (by decide) rfl ?_
  show J X mX2_ringsOfLength d kc ks 2 [some (.int a), some (.int b), some (.int (nI k)), some (.int (nI 0)), none, none] [] w _
  refine J_iconst (pc := 2) (v := nI 0) dX2_ringsOfLength_2 (by decide) ?_
  refine J_istore (pc := 3) dX2_ringsOfLength_3 (by decide) rfl ?_
  show J X mX2_ringsOfLength d kc ks 5 [some (.int a), some (.int b), some (.int (nI k)), some (.int (nI 0)), some (.int (nI 0)), none] [] w _
  have lp5_1 : ∀ (fuel : Nat) (b3 : Nat) (c4 : Nat), c4 < 2147483648 → b3 ≤ c4 → c4 ≤ k → k - c4 < fuel → J X mX2_ringsOfLength d kc ks 5 [some (.int a), some (.int b), some (.int (nI k)), some (.int (nI b3)), some (.int (nI c4)), none] [] w (pI (fun v => ∃ j : Nat, v = nI j ∧ j ≤ k) (fun w' => w' = w)) := by
    intro fuellp5_1
    induction fuellp5_1 with
    | zero => intros; omega
    | succ fuellp5_1 ihlp5_1 =>
      intro b3 c4 hi2 hi3 hi4 hf5
      refine J_iload (pc := 5) dX2_ringsOfLength_5 rfl ?_
      refine J_iload_n (pc := 7) dX2_ringsOfLength_7 rfl rfl ?_
      refine J_icmp_geN (pc := 8) (tgt := 47) dX2_ringsOfLength_8 (by decide) (by omega) (by omega) (fun ht6 => ?_) (fun hf7 => ?_)
      · refine J_iload_n (pc := 47) dX2_ringsOfLength_47 rfl rfl ?_
        exact J_iret (pc := 48) dX2_ringsOfLength_48 rfl ⟨⟨b3, rfl, by omega⟩, rfl⟩
      · refine J_iload_n (pc := 11) dX2_ringsOfLength_11 rfl rfl ?_
        refine J_iload (pc := 12) dX2_ringsOfLength_12 rfl ?_
        refine J_callS0 (pc := 14) (M := mX2_ringsOfLength) (as := [.int a, .int (nI c4)]) dX2_ringsOfLength_14 fw_X2_ringOf fl_X2_40 fs_X2_ringOf rfl (c_X2_ringOf hs (d := d - 1) (by omega) (w := w) a (nI c4) (kc := 0) (ks := 0)) (by omega) (st := []) (Nat.le_of_ble_eq_true rfl) rfl (kr_P fun v8 hv8 => ?_) kx_I
        refine J_istore (pc := 17) dX2_ringsOfLength_17 (by decide) rfl ?_
        show J X mX2_ringsOfLength d kc ks 19 [some (.int a), some (.int b), some (.int (nI k)), some (.int (nI b3)), some (.int (nI c4)), some (.int v8)] [] w _
        refine J_iload (pc := 19) dX2_ringsOfLength_19 rfl ?_
        refine J_iload (pc := 21) dX2_ringsOfLength_21 rfl ?_
        refine J_callSN0 (pc := 23) (M := mX2_ringsOfLength) (as := [.int v8, .int (nI c4)]) dX2_ringsOfLength_23 fw_X6_howManyBelow fl_X2_19 fs_X6_howManyBelow rfl (c_X6_howManyBelow hs (d := d - 1) (by omega) (w := w) v8 (nI c4) (kc := 0) (ks := 0)) (by omega) (st := []) (Nat.le_of_ble_eq_true rfl) rfl (kr_P fun v9 hv9 => ?_) kx_I
        obtain ⟨k9, rfl, hk9⟩ := hv9
        refine J_if_neN (pc := 26) (tgt := 41) dX2_ringsOfLength_26 (by decide) (by omega) (fun ht10 => ?_) (fun hf11 => ?_)
        · refine J_iincN (pc := 41) (b := 1) dX2_ringsOfLength_41 rfl (by decide) (by decide) rfl ?_
          show J X mX2_ringsOfLength d kc ks 44 [some (.int a), some (.int b), some (.int (nI k)), some (.int (nI b3)), some (.int (nI (c4 + 1))), some (.int v8)] [] w _
          refine J_goto (pc := 44) (tgt := 5) dX2_ringsOfLength_44 (by decide) ?_
          exact J_sub (L' := [some (.int a), some (.int b), some (.int (nI k)), some (.int (nI b3)), some (.int (nI (c4 + 1))), none]) ⟨rfl, ⟨rfl, ⟨rfl, ⟨rfl, ⟨rfl, trivial⟩⟩⟩⟩⟩ (ihlp5_1 b3 (c4 + 1) (by first | assumption | omega) (by first | assumption | omega) (by first | assumption | omega) (by omega))
        · refine J_iload (pc := 29) dX2_ringsOfLength_29 rfl ?_
          refine J_callS0 (pc := 31) (M := mX2_ringsOfLength) (as := [.int v8]) dX2_ringsOfLength_31 fw_J6_bitCount_0f7a4 fl_X2_43 fs_J6_bitCount_0f7a4 rfl (c_J6_bitCount_0f7a4 hs (d := d - 1) (by omega) (w := w) v8 (kc := 0) (ks := 0)) (by omega) (st := []) (Nat.le_of_ble_eq_true rfl) rfl (kr_P fun v12 hv12 => ?_) kx_I
          obtain ⟨k12, rfl, hk12⟩ := hv12
          refine J_iload_n (pc := 34) dX2_ringsOfLength_34 rfl rfl ?_
          refine J_icmp_ne (pc := 35) (tgt := 41) dX2_ringsOfLength_35 (by decide) (fun ht13 => ?_) (fun hf14 => ?_)
          · refine J_iincN (pc := 41) (b := 1) dX2_ringsOfLength_41 rfl (by decide) (by decide) rfl ?_
            show J X mX2_ringsOfLength d kc ks 44 [some (.int a), some (.int b), some (.int (nI k)), some (.int (nI b3)), some (.int (nI (c4 + 1))), some (.int v8)] [] w _
            refine J_goto (pc := 44) (tgt := 5) dX2_ringsOfLength_44 (by decide) ?_
            exact J_sub (L' := [some (.int a), some (.int b), some (.int (nI k)), some (.int (nI b3)), some (.int (nI (c4 + 1))), none]) ⟨rfl, ⟨rfl, ⟨rfl, ⟨rfl, ⟨rfl, trivial⟩⟩⟩⟩⟩ (ihlp5_1 b3 (c4 + 1) (by first | assumption | omega) (by first | assumption | omega) (by first | assumption | omega) (by omega))
          · refine J_iincN (pc := 38) (b := 1) dX2_ringsOfLength_38 rfl (by decide) (by decide) rfl ?_
            show J X mX2_ringsOfLength d kc ks 41 [some (.int a), some (.int b), some (.int (nI k)), some (.int (nI (b3 + 1))), some (.int (nI c4)), some (.int v8)] [] w _
            refine J_iincN (pc := 41) (b := 1) dX2_ringsOfLength_41 rfl (by decide) (by decide) rfl ?_
            show J X mX2_ringsOfLength d kc ks 44 [some (.int a), some (.int b), some (.int (nI k)), some (.int (nI (b3 + 1))), some (.int (nI (c4 + 1))), some (.int v8)] [] w _
            refine J_goto (pc := 44) (tgt := 5) dX2_ringsOfLength_44 (by decide) ?_
            exact J_sub (L' := [some (.int a), some (.int b), some (.int (nI k)), some (.int (nI (b3 + 1))), some (.int (nI (c4 + 1))), none]) ⟨rfl, ⟨rfl, ⟨rfl, ⟨rfl, ⟨rfl, trivial⟩⟩⟩⟩⟩ (ihlp5_1 (b3 + 1) (c4 + 1) (by first | assumption | omega) (by first | assumption | omega) (by first | assumption | omega) (by omega))
  exact J_sub (L' := [some (.int a), some (.int b), some (.int (nI k)), some (.int (nI 0)), some (.int (nI 0)), none]) ⟨rfl, ⟨rfl, ⟨rfl, ⟨rfl, ⟨rfl, trivial⟩⟩⟩⟩⟩ (lp5_1 _ 0 0 (by first | assumption | omega) (by first | assumption | omega) (by first | assumption | omega) (Nat.lt_succ_self _))
set_option maxRecDepth 100000 in
set_option maxHeartbeats 4000000 in
theorem c_X2_howManyRings {X : jX} (hs : X.1.stackTraces = false) {d : Nat} (hd : 2 ≤ d) {w : List jC} (a : Int32) (k : Nat) (hy0 : k ≤ 7) {kc ks : Nat} : jMet X mX2_howManyRings d kc ks [.int a, .int (nI k)] w (pI (fun v => ∃ j : Nat, v = nI j ∧ j ≤ k) (fun w' => w' = w)) := by
  refine jMet_of hs (by decide +kernel) (Nat.le_of_ble_eq_true rfl) (L := [some (.int a), some (.int (nI k)), none, none, none]) rfl ?_
  refine J_iconst (pc := 0) (v := nI 0) dX2_howManyRings_0 (by decide) ?_
  refine J_istore_n (pc := 1) dX2_howManyRings_1 rfl (by decide) rfl ?_
  show J X mX2_howManyRings d kc ks 2 [some (.int a), some (.int (nI k)), some (.int (nI 0)), none, none] [] w _
  refine J_iconst (pc := 2) (v := nI 0) dX2_howManyRings_2 (by decide) ?_
  refine J_istore_n (pc := 3) dX2_howManyRings_3 rfl (by decide) rfl ?_
  show J X mX2_howManyRings d kc ks 4 [some (.int a), some (.int (nI k)), some (.int (nI 0)), some (.int (nI 0)), none] [] w _
  refine J_iconst (pc := 4) (v := nI 0) dX2_howManyRings_4 (by decide) ?_
  refine J_istore (pc := 5) dX2_howManyRings_5 (by decide) rfl ?_
  show J X mX2_howManyRings d kc ks 7 [some (.int a), some (.int (nI k)), some (.int (nI 0)), some (.int (nI 0)), some (.int (nI 0))] [] w _
  have lp7_1 : ∀ (fuel : Nat) (b2 : Nat) (z3 : Int32) (c4 : Nat), c4 < 2147483648 → b2 ≤ c4 → c4 ≤ k → k - c4 < fuel → J X mX2_howManyRings d kc ks 7 [some (.int a), some (.int (nI k)), some (.int (nI b2)), some (.int z3), some (.int (nI c4))] [] w (pI (fun v => ∃ j : Nat, v = nI j ∧ j ≤ k) (fun w' => w' = w)) := by
    intro fuellp7_1
    induction fuellp7_1 with
    | zero => intros; omega
    | succ fuellp7_1 ihlp7_1 =>
      intro b2 z3 c4 hi2 hi3 hi4 hf5
      refine J_iload (pc := 7) dX2_howManyRings_7 rfl ?_
      refine J_iload_n (pc := 9) dX2_howManyRings_9 rfl rfl ?_
      refine J_icmp_geN (pc := 10) (tgt := 40) dX2_howManyRings_10 (by decide) (by omega) (by omega) (fun ht6 => ?_) (fun hf7 => ?_)
      · refine J_iload_n (pc := 40) dX2_howManyRings_40 rfl rfl ?_
        exact J_iret (pc := 41) dX2_howManyRings_41 rfl ⟨⟨b2, rfl, by omega⟩, rfl⟩
      · refine J_iload_n (pc := 13) dX2_howManyRings_13 rfl rfl ?_
        refine J_iload (pc := 14) dX2_howManyRings_14 rfl ?_
        refine J_callSN0 (pc := 16) (M := mX2_howManyRings) (as := [.int z3, .int (nI c4)]) dX2_howManyRings_16 fw_X6_has fl_X2_36 fs_X6_has rfl (c_X6_has hs (d := d - 1) (by omega) (w := w) z3 (nI c4) (kc := 0) (ks := 0)) (by omega) (st := []) (Nat.le_of_ble_eq_true rfl) rfl (kr_P fun v8 hv8 => ?_) kx_I
        obtain ⟨k8, rfl, hk8⟩ := hv8
        refine J_if_neN (pc := 19) (tgt := 34) dX2_howManyRings_19 (by decide) (by omega) (fun ht9 => ?_) (fun hf10 => ?_)
        · refine J_iincN (pc := 34) (b := 1) dX2_howManyRings_34 rfl (by decide) (by decide) rfl ?_
          show J X mX2_howManyRings d kc ks 37 [some (.int a), some (.int (nI k)), some (.int (nI b2)), some (.int z3), some (.int (nI (c4 + 1)))] [] w _
          refine J_goto (pc := 37) (tgt := 7) dX2_howManyRings_37 (by decide) ?_
          exact J_sub (L' := [some (.int a), some (.int (nI k)), some (.int (nI b2)), some (.int z3), some (.int (nI (c4 + 1)))]) ⟨rfl, ⟨rfl, ⟨rfl, ⟨rfl, ⟨rfl, trivial⟩⟩⟩⟩⟩ (ihlp7_1 b2 z3 (c4 + 1) (by first | assumption | omega) (by first | assumption | omega) (by first | assumption | omega) (by omega))
        · refine J_iload_n (pc := 22) dX2_howManyRings_22 rfl rfl ?_
          refine J_iload_n (pc := 23) dX2_howManyRings_23 rfl rfl ?_
          refine J_iload (pc := 24) dX2_howManyRings_24 rfl ?_
          refine J_callS0 (pc := 26) (M := mX2_howManyRings) (as := [.int a, .int (nI c4)]) dX2_howManyRings_26 fw_X2_ringOf fl_X2_40 fs_X2_ringOf rfl (c_X2_ringOf hs (d := d - 1) (by omega) (w := w) a (nI c4) (kc := 0) (ks := 0)) (by omega) (st := [.int z3]) (Nat.le_of_ble_eq_true rfl) rfl (kr_P fun v11 hv11 => ?_) kx_I
          refine J_ior (pc := 29) dX2_howManyRings_29 (J_absI fun x12 => ?_)
          refine J_istore_n (pc := 30) dX2_howManyRings_30 rfl (by decide) rfl ?_
          show J X mX2_howManyRings d kc ks 31 [some (.int a), some (.int (nI k)), some (.int (nI b2)), some (.int x12), some (.int (nI c4))] [] w _
          refine J_iincN (pc := 31) (b := 1) dX2_howManyRings_31 rfl (by decide) (by decide) rfl ?_
          show J X mX2_howManyRings d kc ks 34 [some (.int a), some (.int (nI k)), some (.int (nI (b2 + 1))), some (.int x12), some (.int (nI c4))] [] w _
          refine J_iincN (pc := 34) (b := 1) dX2_howManyRings_34 rfl (by decide) (by decide) rfl ?_
          show J X mX2_howManyRings d kc ks 37 [some (.int a), some (.int (nI k)), some (.int (nI (b2 + 1))), some (.int x12), some (.int (nI (c4 + 1)))] [] w _
          refine J_goto (pc := 37) (tgt := 7) dX2_howManyRings_37 (by decide) ?_
          exact J_sub (L' := [some (.int a), some (.int (nI k)), some (.int (nI (b2 + 1))), some (.int x12), some (.int (nI (c4 + 1)))]) ⟨rfl, ⟨rfl, ⟨rfl, ⟨rfl, ⟨rfl, trivial⟩⟩⟩⟩⟩ (ihlp7_1 (b2 + 1) x12 (c4 + 1) (by first | assumption | omega) (by first | assumption | omega) (by first | assumption | omega) (by omega))
  exact J_sub (L' := [some (.int a), some (.int (nI k)), some (.int (nI 0)), some (.int (nI 0)), some (.int (nI 0))]) ⟨rfl, ⟨rfl, ⟨rfl, ⟨rfl, ⟨rfl, trivial⟩⟩⟩⟩⟩ (lp7_1 _ 0 (nI 0) 0 (by first | assumption | omega) (by first | assumption | omega) (by first | assumption | omega) (Nat.lt_succ_self _))
set_option maxRecDepth 100000 in
set_option maxHeartbeats 4000000 in
theorem c_X2_orderOf {X : jX} (hs : X.1.stackTraces = false) {d : Nat} (hd : 1 ≤ d) {w : List jC} (a : Int32) {kc ks : Nat} : jMet X mX2_orderOf d kc ks [.int a] w (pI (fun v => ∃ j : Nat, v = nI j ∧ 1 ≤ j ∧ j ≤ 12) (fun w' => w' = w)) := by
  refine jMet_of hs (by decide +kernel) (Nat.le_of_ble_eq_true rfl) (L := [some (.int a), none, none]) rfl ?_
  refine J_iload_n (pc := 0) dX2_orderOf_0 rfl rfl ?_
  refine J_istore_n (pc := 1) dX2_orderOf_1 rfl (by decide) rfl ?_
  show J X mX2_orderOf d kc ks 2 [some (.int a), some (.int a), none] [] w _
  refine J_iconst (pc := 2) (v := nI 1) dX2_orderOf_2 (by decide) ?_
  refine J_istore_n (pc := 3) dX2_orderOf_3 rfl (by decide) rfl ?_
  show J X mX2_orderOf d kc ks 4 [some (.int a), some (.int a), some (.int (nI 1))] [] w _
  have lp4_1 : ∀ (fuel : Nat) (z1 : Int32) (c2 : Nat), c2 < 2147483648 → 1 ≤ c2 → c2 ≤ 12 → 12 - c2 < fuel → J X mX2_orderOf d kc ks 4 [some (.int a), some (.int z1), some (.int (nI c2))] [] w (pI (fun v => ∃ j : Nat, v = nI j ∧ 1 ≤ j ∧ j ≤ 12) (fun w' => w' = w)) := by
    intro fuellp4_1
    induction fuellp4_1 with
    | zero => intros; omega
    | succ fuellp4_1 ihlp4_1 =>
      intro z1 c2 hi2 hi3 hi4 hf5
      refine J_iload_n (pc := 4) dX2_orderOf_4 rfl rfl ?_
      refine J_bipush (pc := 5) (v := nI 12) dX2_orderOf_5 (by decide) ?_
      refine J_icmp_geN (pc := 7) (tgt := 28) dX2_orderOf_7 (by decide) (by omega) (by omega) (fun ht6 => ?_) (fun hf7 => ?_)
      · refine J_iload_n (pc := 28) dX2_orderOf_28 rfl rfl ?_
        exact J_iret (pc := 29) dX2_orderOf_29 rfl ⟨⟨c2, rfl, by omega⟩, rfl⟩
      · refine J_iload_n (pc := 10) dX2_orderOf_10 rfl rfl ?_
        refine J_ldc (pc := 11) (v := nI 1754760) dX2_orderOf_11 (by have := fk_X2_11; exact this) ?_
        refine J_icmp_eq (pc := 13) (tgt := 28) dX2_orderOf_13 (by decide) (fun ht8 => ?_) (fun hf9 => ?_)
        · refine J_iload_n (pc := 28) dX2_orderOf_28 rfl rfl ?_
          exact J_iret (pc := 29) dX2_orderOf_29 rfl ⟨⟨c2, rfl, by omega⟩, rfl⟩
        · refine J_iload_n (pc := 16) dX2_orderOf_16 rfl rfl ?_
          refine J_iload_n (pc := 17) dX2_orderOf_17 rfl rfl ?_
          refine J_callS0 (pc := 18) (M := mX2_orderOf) (as := [.int z1, .int a]) dX2_orderOf_18 fw_X2_both fl_X2_12 fs_X2_both rfl (c_X2_both hs (d := d - 1) (by omega) (w := w) z1 a (kc := 0) (ks := 0)) (by omega) (st := []) (Nat.le_of_ble_eq_true rfl) rfl (kr_P fun v10 hv10 => ?_) kx_I
          refine J_istore_n (pc := 21) dX2_orderOf_21 rfl (by decide) rfl ?_
          show J X mX2_orderOf d kc ks 22 [some (.int a), some (.int v10), some (.int (nI c2))] [] w _
          refine J_iincN (pc := 22) (b := 1) dX2_orderOf_22 rfl (by decide) (by decide) rfl ?_
          show J X mX2_orderOf d kc ks 25 [some (.int a), some (.int v10), some (.int (nI (c2 + 1)))] [] w _
          refine J_goto (pc := 25) (tgt := 4) dX2_orderOf_25 (by decide) ?_
          exact J_sub (L' := [some (.int a), some (.int v10), some (.int (nI (c2 + 1)))]) ⟨rfl, ⟨rfl, ⟨rfl, trivial⟩⟩⟩ (ihlp4_1 v10 (c2 + 1) (by first | assumption | omega) (by first | assumption | omega) (by first | assumption | omega) (by omega))
  exact J_sub (L' := [some (.int a), some (.int a), some (.int (nI 1))]) ⟨rfl, ⟨rfl, ⟨rfl, trivial⟩⟩⟩ (lp4_1 _ a 1 (by first | assumption | omega) (by first | assumption | omega) (by first | assumption | omega) (Nat.lt_succ_self _))
set_option maxRecDepth 100000 in
set_option maxHeartbeats 4000000 in
theorem c_X2_signOf {X : jX} (hs : X.1.stackTraces = false) {d : Nat} (hd : 3 ≤ d) {w : List jC} (a : Int32) (k : Nat) (hy0 : k ≤ 7) {kc ks : Nat} : jMet X mX2_signOf d kc ks [.int a, .int (nI k)] w (pI (fun _ => True) (fun w' => w' = w)) := by
  refine jMet_of hs (by decide +kernel) (Nat.le_of_ble_eq_true rfl) (L := [some (.int a), some (.int (nI k))]) rfl ?_
  refine J_iload_n (pc := 0) dX2_signOf_0 rfl rfl ?_
  refine J_iload_n (pc := 1) dX2_signOf_1 rfl rfl ?_
  refine J_iload_n (pc := 2) dX2_signOf_2 rfl rfl ?_
  refine J_callS0 (pc := 3) (M := mX2_signOf) (as := [.int a, .int (nI k)]) dX2_signOf_3 fw_X2_howManyRings fl_X2_48 fs_X2_howManyRings rfl (c_X2_howManyRings hs (d := d - 1) (by omega) (w := w) a k (by omega) (kc := 0) (ks := 0)) (by omega) (st := [.int (nI k)]) (Nat.le_of_ble_eq_true rfl) rfl (kr_P fun v1 hv1 => ?_) kx_I
  obtain ⟨k1, rfl, hk1⟩ := hv1
  refine J_isubN (pc := 6) dX2_signOf_6 (by omega) ?_
  refine J_iconst (pc := 7) (v := nI 2) dX2_signOf_7 (by decide) ?_
  refine J_iremN (pc := 8) dX2_signOf_8 (by omega) (by omega) (by omega) ?_
  refine J_if_neN (pc := 9) (tgt := 16) dX2_signOf_9 (by decide) (by omega) (fun ht2 => ?_) (fun hf3 => ?_)
  · refine J_iconst (pc := 16) (v := (-1)) dX2_signOf_16 (by decide) ?_
    exact J_iret (pc := 17) dX2_signOf_17 rfl ⟨trivial, rfl⟩
  · refine J_iconst (pc := 12) (v := nI 1) dX2_signOf_12 (by decide) ?_
    refine J_goto (pc := 13) (tgt := 17) dX2_signOf_13 (by decide) ?_
    exact J_iret (pc := 17) dX2_signOf_17 rfl ⟨trivial, rfl⟩
set_option maxRecDepth 100000 in
set_option maxHeartbeats 4000000 in
theorem c_X2_haveLikeRings {X : jX} (hs : X.1.stackTraces = false) {d : Nat} (hd : 3 ≤ d) {w : List jC} (a : Int32) (b : Int32) {kc ks : Nat} : jMet X mX2_haveLikeRings d kc ks [.int a, .int b] w (pI (fun v => ∃ k : Nat, v = nI k ∧ k < 2) (fun w' => w' = w)) := by
  refine jMet_of hs (by decide +kernel) (Nat.le_of_ble_eq_true rfl) (L := [some (.int a), some (.int b), none]) rfl ?_
  refine J_iconst (pc := 0) (v := nI 1) dX2_haveLikeRings_0 (by decide) ?_
  refine J_istore_n (pc := 1) dX2_haveLikeRings_1 rfl (by decide) rfl ?_
  show J X mX2_haveLikeRings d kc ks 2 [some (.int a), some (.int b), some (.int (nI 1))] [] w _
  have lp2_1 : ∀ (fuel : Nat) (c2 : Nat), c2 < 2147483648 → 7 + 1 - c2 < fuel → J X mX2_haveLikeRings d kc ks 2 [some (.int a), some (.int b), some (.int (nI c2))] [] w (pI (fun v => ∃ k : Nat, v = nI k ∧ k < 2) (fun w' => w' = w)) := by
    intro fuellp2_1
    induction fuellp2_1 with
    | zero => intros; omega
    | succ fuellp2_1 ihlp2_1 =>
      intro c2 hi2 hf3
      refine J_iload_n (pc := 2) dX2_haveLikeRings_2 rfl rfl ?_
      refine J_bipush (pc := 3) (v := nI 7) dX2_haveLikeRings_3 (by decide) ?_
      refine J_icmp_gtN (pc := 5) (tgt := 33) dX2_haveLikeRings_5 (by decide) (by omega) (by omega) (fun ht4 => ?_) (fun hf5 => ?_)
      · refine J_iconst (pc := 33) (v := nI 1) dX2_haveLikeRings_33 (by decide) ?_
        exact J_zret (pc := 34) dX2_haveLikeRings_34 rfl (nar_b (by omega)) ⟨⟨1, rfl, by omega⟩, rfl⟩
      · refine J_iload_n (pc := 8) dX2_haveLikeRings_8 rfl rfl ?_
        refine J_iload_n (pc := 9) dX2_haveLikeRings_9 rfl rfl ?_
        refine J_bipush (pc := 10) (v := nI 7) dX2_haveLikeRings_10 (by decide) ?_
        refine J_callS0 (pc := 12) (M := mX2_haveLikeRings) (as := [.int a, .int (nI c2), .int (nI 7)]) dX2_haveLikeRings_12 fw_X2_ringsOfLength fl_X2_51 fs_X2_ringsOfLength rfl (c_X2_ringsOfLength hs (d := d - 1) (by omega) (w := w) a (nI c2) 7 (by omega) (kc := 0) (ks := 0)) (by omega) (st := []) (Nat.le_of_ble_eq_true rfl) rfl (kr_P fun v6 hv6 => ?_) kx_I
        obtain ⟨k6, rfl, hk6⟩ := hv6
        refine J_iload_n (pc := 15) dX2_haveLikeRings_15 rfl rfl ?_
        refine J_iload_n (pc := 16) dX2_haveLikeRings_16 rfl rfl ?_
        refine J_bipush (pc := 17) (v := nI 7) dX2_haveLikeRings_17 (by decide) ?_
        refine J_callS0 (pc := 19) (M := mX2_haveLikeRings) (as := [.int b, .int (nI c2), .int (nI 7)]) dX2_haveLikeRings_19 fw_X2_ringsOfLength fl_X2_51 fs_X2_ringsOfLength rfl (c_X2_ringsOfLength hs (d := d - 1) (by omega) (w := w) b (nI c2) 7 (by omega) (kc := 0) (ks := 0)) (by omega) (st := [.int (nI k6)]) (Nat.le_of_ble_eq_true rfl) rfl (kr_P fun v7 hv7 => ?_) kx_I
        obtain ⟨k7, rfl, hk7⟩ := hv7
        refine J_icmp_eqN (pc := 22) (tgt := 27) dX2_haveLikeRings_22 (by decide) (by omega) (by omega) (fun ht8 => ?_) (fun hf9 => ?_)
        · refine J_iincN (pc := 27) (b := 1) dX2_haveLikeRings_27 rfl (by decide) (by decide) rfl ?_
          show J X mX2_haveLikeRings d kc ks 30 [some (.int a), some (.int b), some (.int (nI (c2 + 1)))] [] w _
          refine J_goto (pc := 30) (tgt := 2) dX2_haveLikeRings_30 (by decide) ?_
          exact J_sub (L' := [some (.int a), some (.int b), some (.int (nI (c2 + 1)))]) ⟨rfl, ⟨rfl, ⟨rfl, trivial⟩⟩⟩ (ihlp2_1 (c2 + 1) (by first | assumption | omega) (by omega))
        · refine J_iconst (pc := 25) (v := nI 0) dX2_haveLikeRings_25 (by decide) ?_
          exact J_zret (pc := 26) dX2_haveLikeRings_26 rfl (nar_b (by omega)) ⟨⟨0, rfl, by omega⟩, rfl⟩
  exact J_sub (L' := [some (.int a), some (.int b), some (.int (nI 1))]) ⟨rfl, ⟨rfl, ⟨rfl, trivial⟩⟩⟩ (lp2_1 _ 1 (by first | assumption | omega) (Nat.lt_succ_self _))
set_option maxRecDepth 100000 in
set_option maxHeartbeats 4000000 in
theorem c_X2_firstFree {X : jX} (hs : X.1.stackTraces = false) {d : Nat} (hd : 3 ≤ d) {w : List jC} (a : Int32) (b : Int32) (c : Int32) (k : Nat) (hy0 : k ≤ 7) {kc ks : Nat} : jMet X mX2_firstFree d kc ks [.int a, .int b, .int c, .int (nI k)] w (pI (fun v => ∃ j : Nat, v = nI j ∧ j < 7) (fun w' => w' = w)) := by
  refine jMet_of hs (by decide +kernel) (Nat.le_of_ble_eq_true rfl) (L := [some (.int a), some (.int b), some (.int c), some (.int (nI k)), none]) rfl ?_
  refine J_iconst (pc := 0) (v := nI 0) dX2_firstFree_0 (by decide) ?_
  refine J_istore (pc := 1) dX2_firstFree_1 (by decide) rfl ?_
  show J X mX2_firstFree d kc ks 3 [some (.int a), some (.int b), some (.int c), some (.int (nI k)), some (.int (nI 0))] [] w _
  have lp3_1 : ∀ (fuel : Nat) (c4 : Nat), c4 < 2147483648 → k - c4 < fuel → J X mX2_firstFree d kc ks 3 [some (.int a), some (.int b), some (.int c), some (.int (nI k)), some (.int (nI c4))] [] w (pI (fun v => ∃ j : Nat, v = nI j ∧ j < 7) (fun w' => w' = w)) := by
    intro fuellp3_1
    induction fuellp3_1 with
    | zero => intros; omega
    | succ fuellp3_1 ihlp3_1 =>
      intro c4 hi2 hf3
      refine J_iload (pc := 3) dX2_firstFree_3 rfl ?_
      refine J_iload_n (pc := 5) dX2_firstFree_5 rfl rfl ?_
      refine J_icmp_geN (pc := 6) (tgt := 37) dX2_firstFree_6 (by decide) (by omega) (by omega) (fun ht4 => ?_) (fun hf5 => ?_)
      · refine J_iconst (pc := 37) (v := nI 0) dX2_firstFree_37 (by decide) ?_
        exact J_iret (pc := 38) dX2_firstFree_38 rfl ⟨⟨0, rfl, by omega⟩, rfl⟩
      · refine J_iload_n (pc := 9) dX2_firstFree_9 rfl rfl ?_
        refine J_iload (pc := 10) dX2_firstFree_10 rfl ?_
        refine J_callSN0 (pc := 12) (M := mX2_firstFree) (as := [.int b, .int (nI c4)]) dX2_firstFree_12 fw_X6_has fl_X2_36 fs_X6_has rfl (c_X6_has hs (d := d - 1) (by omega) (w := w) b (nI c4) (kc := 0) (ks := 0)) (by omega) (st := []) (Nat.le_of_ble_eq_true rfl) rfl (kr_P fun v6 hv6 => ?_) kx_I
        obtain ⟨k6, rfl, hk6⟩ := hv6
        refine J_if_neN (pc := 15) (tgt := 31) dX2_firstFree_15 (by decide) (by omega) (fun ht7 => ?_) (fun hf8 => ?_)
        · refine J_iincN (pc := 31) (b := 1) dX2_firstFree_31 rfl (by decide) (by decide) rfl ?_
          show J X mX2_firstFree d kc ks 34 [some (.int a), some (.int b), some (.int c), some (.int (nI k)), some (.int (nI (c4 + 1)))] [] w _
          refine J_goto (pc := 34) (tgt := 3) dX2_firstFree_34 (by decide) ?_
          exact J_sub (L' := [some (.int a), some (.int b), some (.int c), some (.int (nI k)), some (.int (nI (c4 + 1)))]) ⟨rfl, ⟨rfl, ⟨rfl, ⟨rfl, ⟨rfl, trivial⟩⟩⟩⟩⟩ (ihlp3_1 (c4 + 1) (by first | assumption | omega) (by omega))
        · refine J_iload_n (pc := 18) dX2_firstFree_18 rfl rfl ?_
          refine J_iload (pc := 19) dX2_firstFree_19 rfl ?_
          refine J_callS0 (pc := 21) (M := mX2_firstFree) (as := [.int a, .int (nI c4)]) dX2_firstFree_21 fw_X2_ringLength fl_X2_54 fs_X2_ringLength rfl (c_X2_ringLength hs (d := d - 1) (by omega) (w := w) a (nI c4) (kc := 0) (ks := 0)) (by omega) (st := []) (Nat.le_of_ble_eq_true rfl) rfl (kr_P fun v9 hv9 => ?_) kx_I
          obtain ⟨k9, rfl, hk9⟩ := hv9
          refine J_iload_n (pc := 24) dX2_firstFree_24 rfl rfl ?_
          refine J_icmp_ne (pc := 25) (tgt := 31) dX2_firstFree_25 (by decide) (fun ht10 => ?_) (fun hf11 => ?_)
          · refine J_iincN (pc := 31) (b := 1) dX2_firstFree_31 rfl (by decide) (by decide) rfl ?_
            show J X mX2_firstFree d kc ks 34 [some (.int a), some (.int b), some (.int c), some (.int (nI k)), some (.int (nI (c4 + 1)))] [] w _
            refine J_goto (pc := 34) (tgt := 3) dX2_firstFree_34 (by decide) ?_
            exact J_sub (L' := [some (.int a), some (.int b), some (.int c), some (.int (nI k)), some (.int (nI (c4 + 1)))]) ⟨rfl, ⟨rfl, ⟨rfl, ⟨rfl, ⟨rfl, trivial⟩⟩⟩⟩⟩ (ihlp3_1 (c4 + 1) (by first | assumption | omega) (by omega))
          · refine J_iload (pc := 28) dX2_firstFree_28 rfl ?_
            exact J_iret (pc := 30) dX2_firstFree_30 rfl ⟨⟨c4, rfl, by omega⟩, rfl⟩
  exact J_sub (L' := [some (.int a), some (.int b), some (.int c), some (.int (nI k)), some (.int (nI 0))]) ⟨rfl, ⟨rfl, ⟨rfl, ⟨rfl, ⟨rfl, trivial⟩⟩⟩⟩⟩ (lp3_1 _ 0 (by first | assumption | omega) (Nat.lt_succ_self _))
set_option maxRecDepth 100000 in
set_option maxHeartbeats 4000000 in
theorem c_X2_withRing {X : jX} (hs : X.1.stackTraces = false) {d : Nat} (hd : 3 ≤ d) {w : List jC} (a : Int32) (b : Int32) (c : Int32) (f : Int32) (g : Int32) {kc ks : Nat} : jMet X mX2_withRing d kc ks [.int a, .int b, .int c, .int f, .int g] w (pI (fun _ => True) (fun w' => w' = w)) := by
  refine jMet_of hs (by decide +kernel) (Nat.le_of_ble_eq_true rfl) (L := [some (.int a), some (.int b), some (.int c), some (.int f), some (.int g), none, none, none, none]) rfl ?_
  refine J_iload_n (pc := 0) dX2_withRing_0 rfl rfl ?_
  refine J_istore (pc := 1) dX2_withRing_1 (by decide) rfl ?_
  show J X mX2_withRing d kc ks 3 [some (.int a), some (.int b), some (.int c), some (.int f), some (.int g), some (.int a), none, none, none] [] w _
  refine J_iload_n (pc := 3) dX2_withRing_3 rfl rfl ?_
  refine J_istore (pc := 4) dX2_withRing_4 (by decide) rfl ?_
  show J X mX2_withRing d kc ks 6 [some (.int a), some (.int b), some (.int c), some (.int f), some (.int g), some (.int a), some (.int c), none, none] [] w _
  refine J_iload (pc := 6) dX2_withRing_6 rfl ?_
  refine J_istore (pc := 8) dX2_withRing_8 (by decide) rfl ?_
  show J X mX2_withRing d kc ks 10 [some (.int a), some (.int b), some (.int c), some (.int f), some (.int g), some (.int a), some (.int c), some (.int g), none] [] w _
  refine J_iload_n (pc := 10) dX2_withRing_10 rfl rfl ?_
  refine J_iload_n (pc := 11) dX2_withRing_11 rfl rfl ?_
  refine J_callS0 (pc := 12) (M := mX2_withRing) (as := [.int b, .int c]) dX2_withRing_12 fw_X2_ringLength fl_X2_54 fs_X2_ringLength rfl (c_X2_ringLength hs (d := d - 1) (by omega) (w := w) b c (kc := 0) (ks := 0)) (by omega) (st := []) (Nat.le_of_ble_eq_true rfl) rfl (kr_P fun v1 hv1 => ?_) kx_I
  obtain ⟨k1, rfl, hk1⟩ := hv1
  refine J_istore (pc := 15) dX2_withRing_15 (by decide) rfl ?_
  show J X mX2_withRing d kc ks 17 [some (.int a), some (.int b), some (.int c), some (.int f), some (.int g), some (.int a), some (.int c), some (.int g), some (.int (nI k1))] [] w _
  have lp17_2 : ∀ (fuel : Nat) (z5 : Int32) (z6 : Int32) (z7 : Int32) (c8 : Nat), c8 < 2147483648 → c8 < fuel → J X mX2_withRing d kc ks 17 [some (.int a), some (.int b), some (.int c), some (.int f), some (.int g), some (.int z5), some (.int z6), some (.int z7), some (.int (nI c8))] [] w (pI (fun _ => True) (fun w' => w' = w)) := by
    intro fuellp17_2
    induction fuellp17_2 with
    | zero => intros; omega
    | succ fuellp17_2 ihlp17_2 =>
      intro z5 z6 z7 c8 hi3 hf4
      refine J_iload (pc := 17) dX2_withRing_17 rfl ?_
      refine J_if_leN (pc := 19) (tgt := 55) dX2_withRing_19 (by decide) (by omega) (fun ht5 => ?_) (fun hf6 => ?_)
      · refine J_iload (pc := 55) dX2_withRing_55 rfl ?_
        exact J_iret (pc := 57) dX2_withRing_57 rfl ⟨trivial, rfl⟩
      · refine J_iload (pc := 22) dX2_withRing_22 rfl ?_
        refine J_iload (pc := 24) dX2_withRing_24 rfl ?_
        refine J_iload (pc := 26) dX2_withRing_26 rfl ?_
        refine J_callS0 (pc := 28) (M := mX2_withRing) (as := [.int z5, .int z6, .int z7]) dX2_withRing_28 fw_X2_with fl_X2_32 fs_X2_with rfl (c_X2_with hs (d := d - 1) (by omega) (w := w) z5 z6 z7 (kc := 0) (ks := 0)) (by omega) (st := []) (Nat.le_of_ble_eq_true rfl) rfl (kr_P fun v7 hv7 => ?_) kx_I
        refine J_istore (pc := 31) dX2_withRing_31 (by decide) rfl ?_
        show J X mX2_withRing d kc ks 33 [some (.int a), some (.int b), some (.int c), some (.int f), some (.int g), some (.int v7), some (.int z6), some (.int z7), some (.int (nI c8))] [] w _
        refine J_iload_n (pc := 33) dX2_withRing_33 rfl rfl ?_
        refine J_iload (pc := 34) dX2_withRing_34 rfl ?_
        refine J_callS0 (pc := 36) (M := mX2_withRing) (as := [.int b, .int z6]) dX2_withRing_36 fw_X2_goal fl_X2_16 fs_X2_goal rfl (c_X2_goal hs (d := d - 1) (by omega) (w := w) b z6 (kc := 0) (ks := 0)) (by omega) (st := []) (Nat.le_of_ble_eq_true rfl) rfl (kr_P fun v8 hv8 => ?_) kx_I
        obtain ⟨k8, rfl, hk8⟩ := hv8
        refine J_istore (pc := 39) dX2_withRing_39 (by decide) rfl ?_
        show J X mX2_withRing d kc ks 41 [some (.int a), some (.int b), some (.int c), some (.int f), some (.int g), some (.int v7), some (.int (nI k8)), some (.int z7), some (.int (nI c8))] [] w _
        refine J_iload_n (pc := 41) dX2_withRing_41 rfl rfl ?_
        refine J_iload (pc := 42) dX2_withRing_42 rfl ?_
        refine J_callS0 (pc := 44) (M := mX2_withRing) (as := [.int f, .int z7]) dX2_withRing_44 fw_X2_goal fl_X2_16 fs_X2_goal rfl (c_X2_goal hs (d := d - 1) (by omega) (w := w) f z7 (kc := 0) (ks := 0)) (by omega) (st := []) (Nat.le_of_ble_eq_true rfl) rfl (kr_P fun v9 hv9 => ?_) kx_I
        obtain ⟨k9, rfl, hk9⟩ := hv9
        refine J_istore (pc := 47) dX2_withRing_47 (by decide) rfl ?_
        show J X mX2_withRing d kc ks 49 [some (.int a), some (.int b), some (.int c), some (.int f), some (.int g), some (.int v7), some (.int (nI k8)), some (.int (nI k9)), some (.int (nI c8))] [] w _
        refine J_iincM (pc := 49) dX2_withRing_49 rfl (by omega) (by decide) rfl ?_
        show J X mX2_withRing d kc ks 52 [some (.int a), some (.int b), some (.int c), some (.int f), some (.int g), some (.int v7), some (.int (nI k8)), some (.int (nI k9)), some (.int (nI (c8 - 1)))] [] w _
        refine J_goto (pc := 52) (tgt := 17) dX2_withRing_52 (by decide) ?_
        exact J_sub (L' := [some (.int a), some (.int b), some (.int c), some (.int f), some (.int g), some (.int v7), some (.int (nI k8)), some (.int (nI k9)), some (.int (nI (c8 - 1)))]) ⟨rfl, ⟨rfl, ⟨rfl, ⟨rfl, ⟨rfl, ⟨rfl, ⟨rfl, ⟨rfl, ⟨rfl, trivial⟩⟩⟩⟩⟩⟩⟩⟩⟩ (ihlp17_2 v7 (nI k8) (nI k9) (c8 - 1) (by first | assumption | omega) (by omega))
  exact J_sub (L' := [some (.int a), some (.int b), some (.int c), some (.int f), some (.int g), some (.int a), some (.int c), some (.int g), some (.int (nI k1))]) ⟨rfl, ⟨rfl, ⟨rfl, ⟨rfl, ⟨rfl, ⟨rfl, ⟨rfl, ⟨rfl, ⟨rfl, trivial⟩⟩⟩⟩⟩⟩⟩⟩⟩ (lp17_2 _ a c g k1 (by first | assumption | omega) (Nat.lt_succ_self _))
set_option maxRecDepth 100000 in
set_option maxHeartbeats 4000000 in
theorem c_X2_firstRenamer {X : jX} (hs : X.1.stackTraces = false) {d : Nat} (hd : 4 ≤ d) {w : List jC} (a : Int32) (b : Int32) (k : Nat) (hy0 : k ≤ 7) {kc ks : Nat} : jMet X mX2_firstRenamer d kc ks [.int a, .int b, .int (nI k)] w (pI (fun _ => True) (fun w' => w' = w)) := by
  refine jMet_of hs (by decide +kernel) (Nat.le_of_ble_eq_true rfl) (L := [some (.int a), some (.int b), some (.int (nI k)), none, none, none, none, none, none]) rfl ?_
  refine J_ldc (pc := 0) (v := nI 1754760) dX2_firstRenamer_0 (by have := fk_X2_11; exact this) ?_
  refine J_istore_n (pc := 2) dX2_firstRenamer_2 rfl (by decide) rfl ?_
  show J X mX2_firstRenamer d kc ks 3 [some (.int a), some (.int b), some (.int (nI k)), some (.int (nI 1754760)), none, none, none, none, none] [] w _
  refine J_iconst (pc := 3) (v := nI 0) dX2_firstRenamer_3 (by decide) ?_
  refine J_istore (pc := 4) dX2_firstRenamer_4 (by decide) rfl ?_
  show J X mX2_firstRenamer d kc ks 6 [some (.int a), some (.int b), some (.int (nI k)), some (.int (nI 1754760)), some (.int (nI 0)), none, none, none, none] [] w _
  refine J_iconst (pc := 6) (v := nI 0) dX2_firstRenamer_6 (by decide) ?_
  refine J_istore (pc := 7) dX2_firstRenamer_7 (by decide) rfl ?_
  show J X mX2_firstRenamer d kc ks 9 [some (.int a), some (.int b), some (.int (nI k)), some (.int (nI 1754760)), some (.int (nI 0)), some (.int (nI 0)), none, none, none] [] w _
  refine J_iconst (pc := 9) (v := nI 0) dX2_firstRenamer_9 (by decide) ?_
  refine J_istore (pc := 10) dX2_firstRenamer_10 (by decide) rfl ?_
  show J X mX2_firstRenamer d kc ks 12 [some (.int a), some (.int b), some (.int (nI k)), some (.int (nI 1754760)), some (.int (nI 0)), some (.int (nI 0)), some (.int (nI 0)), none, none] [] w _
  have lp12_1 : ∀ (fuel : Nat) (z3 : Int32) (z4 : Int32) (z5 : Int32) (c6 : Nat), c6 < 2147483648 → k - c6 < fuel → J X mX2_firstRenamer d kc ks 12 [some (.int a), some (.int b), some (.int (nI k)), some (.int z3), some (.int z4), some (.int z5), some (.int (nI c6)), none, none] [] w (pI (fun _ => True) (fun w' => w' = w)) := by
    intro fuellp12_1
    induction fuellp12_1 with
    | zero => intros; omega
    | succ fuellp12_1 ihlp12_1 =>
      intro z3 z4 z5 c6 hi2 hf3
      refine J_iload (pc := 12) dX2_firstRenamer_12 rfl ?_
      refine J_iload_n (pc := 14) dX2_firstRenamer_14 rfl rfl ?_
      refine J_icmp_geN (pc := 15) (tgt := 86) dX2_firstRenamer_15 (by decide) (by omega) (by omega) (fun ht4 => ?_) (fun hf5 => ?_)
      · refine J_iload_n (pc := 86) dX2_firstRenamer_86 rfl rfl ?_
        exact J_iret (pc := 87) dX2_firstRenamer_87 rfl ⟨trivial, rfl⟩
      · refine J_iload (pc := 18) dX2_firstRenamer_18 rfl ?_
        refine J_iload (pc := 20) dX2_firstRenamer_20 rfl ?_
        refine J_callSN0 (pc := 22) (M := mX2_firstRenamer) (as := [.int z4, .int (nI c6)]) dX2_firstRenamer_22 fw_X6_has fl_X2_36 fs_X6_has rfl (c_X6_has hs (d := d - 1) (by omega) (w := w) z4 (nI c6) (kc := 0) (ks := 0)) (by omega) (st := []) (Nat.le_of_ble_eq_true rfl) rfl (kr_P fun v6 hv6 => ?_) kx_I
        obtain ⟨k6, rfl, hk6⟩ := hv6
        refine J_if_neN (pc := 25) (tgt := 80) dX2_firstRenamer_25 (by decide) (by omega) (fun ht7 => ?_) (fun hf8 => ?_)
        · refine J_iincN (pc := 80) (b := 1) dX2_firstRenamer_80 rfl (by decide) (by decide) rfl ?_
          show J X mX2_firstRenamer d kc ks 83 [some (.int a), some (.int b), some (.int (nI k)), some (.int z3), some (.int z4), some (.int z5), some (.int (nI (c6 + 1))), none, none] [] w _
          refine J_goto (pc := 83) (tgt := 12) dX2_firstRenamer_83 (by decide) ?_
          exact J_sub (L' := [some (.int a), some (.int b), some (.int (nI k)), some (.int z3), some (.int z4), some (.int z5), some (.int (nI (c6 + 1))), none, none]) ⟨rfl, ⟨rfl, ⟨rfl, ⟨rfl, ⟨rfl, ⟨rfl, ⟨rfl, trivial⟩⟩⟩⟩⟩⟩⟩ (ihlp12_1 z3 z4 z5 (c6 + 1) (by first | assumption | omega) (by omega))
        · refine J_iload_n (pc := 28) dX2_firstRenamer_28 rfl rfl ?_
          refine J_iload (pc := 29) dX2_firstRenamer_29 rfl ?_
          refine J_callS0 (pc := 31) (M := mX2_firstRenamer) (as := [.int a, .int (nI c6)]) dX2_firstRenamer_31 fw_X2_ringLength fl_X2_54 fs_X2_ringLength rfl (c_X2_ringLength hs (d := d - 1) (by omega) (w := w) a (nI c6) (kc := 0) (ks := 0)) (by omega) (st := []) (Nat.le_of_ble_eq_true rfl) rfl (kr_P fun v9 hv9 => ?_) kx_I
          obtain ⟨k9, rfl, hk9⟩ := hv9
          refine J_istore (pc := 34) dX2_firstRenamer_34 (by decide) rfl ?_
          show J X mX2_firstRenamer d kc ks 36 [some (.int a), some (.int b), some (.int (nI k)), some (.int z3), some (.int z4), some (.int z5), some (.int (nI c6)), some (.int (nI k9)), none] [] w _
          refine J_iload_n (pc := 36) dX2_firstRenamer_36 rfl rfl ?_
          refine J_iload (pc := 37) dX2_firstRenamer_37 rfl ?_
          refine J_iload (pc := 39) dX2_firstRenamer_39 rfl ?_
          refine J_iload_n (pc := 41) dX2_firstRenamer_41 rfl rfl ?_
          refine J_callS0 (pc := 42) (M := mX2_firstRenamer) (as := [.int b, .int z5, .int (nI k9), .int (nI k)]) dX2_firstRenamer_42 fw_X2_firstFree fl_X2_57 fs_X2_firstFree rfl (c_X2_firstFree hs (d := d - 1) (by omega) (w := w) b z5 (nI k9) k (by omega) (kc := 0) (ks := 0)) (by omega) (st := []) (Nat.le_of_ble_eq_true rfl) rfl (kr_P fun v10 hv10 => ?_) kx_I
          obtain ⟨k10, rfl, hk10⟩ := hv10
          refine J_istore (pc := 45) dX2_firstRenamer_45 (by decide) rfl ?_
          show J X mX2_firstRenamer d kc ks 47 [some (.int a), some (.int b), some (.int (nI k)), some (.int z3), some (.int z4), some (.int z5), some (.int (nI c6)), some (.int (nI k9)), some (.int (nI k10))] [] w _
          refine J_iload_n (pc := 47) dX2_firstRenamer_47 rfl rfl ?_
          refine J_iload_n (pc := 48) dX2_firstRenamer_48 rfl rfl ?_
          refine J_iload (pc := 49) dX2_firstRenamer_49 rfl ?_
          refine J_iload_n (pc := 51) dX2_firstRenamer_51 rfl rfl ?_
          refine J_iload (pc := 52) dX2_firstRenamer_52 rfl ?_
          refine J_callS0 (pc := 54) (M := mX2_firstRenamer) (as := [.int z3, .int a, .int (nI c6), .int b, .int (nI k10)]) dX2_firstRenamer_54 fw_X2_withRing fl_X2_61 fs_X2_withRing rfl (c_X2_withRing hs (d := d - 1) (by omega) (w := w) z3 a (nI c6) b (nI k10) (kc := 0) (ks := 0)) (by omega) (st := []) (Nat.le_of_ble_eq_true rfl) rfl (kr_P fun v11 hv11 => ?_) kx_I
          refine J_istore_n (pc := 57) dX2_firstRenamer_57 rfl (by decide) rfl ?_
          show J X mX2_firstRenamer d kc ks 58 [some (.int a), some (.int b), some (.int (nI k)), some (.int v11), some (.int z4), some (.int z5), some (.int (nI c6)), some (.int (nI k9)), some (.int (nI k10))] [] w _
          refine J_iload (pc := 58) dX2_firstRenamer_58 rfl ?_
          refine J_iload_n (pc := 60) dX2_firstRenamer_60 rfl rfl ?_
          refine J_iload (pc := 61) dX2_firstRenamer_61 rfl ?_
          refine J_callS0 (pc := 63) (M := mX2_firstRenamer) (as := [.int a, .int (nI c6)]) dX2_firstRenamer_63 fw_X2_ringOf fl_X2_40 fs_X2_ringOf rfl (c_X2_ringOf hs (d := d - 1) (by omega) (w := w) a (nI c6) (kc := 0) (ks := 0)) (by omega) (st := [.int z4]) (Nat.le_of_ble_eq_true rfl) rfl (kr_P fun v12 hv12 => ?_) kx_I
          refine J_ior (pc := 66) dX2_firstRenamer_66 (J_absI fun x13 => ?_)
          refine J_istore (pc := 67) dX2_firstRenamer_67 (by decide) rfl ?_
          show J X mX2_firstRenamer d kc ks 69 [some (.int a), some (.int b), some (.int (nI k)), some (.int v11), some (.int x13), some (.int z5), some (.int (nI c6)), some (.int (nI k9)), some (.int (nI k10))] [] w _
          refine J_iload (pc := 69) dX2_firstRenamer_69 rfl ?_
          refine J_iload_n (pc := 71) dX2_firstRenamer_71 rfl rfl ?_
          refine J_iload (pc := 72) dX2_firstRenamer_72 rfl ?_
          refine J_callS0 (pc := 74) (M := mX2_firstRenamer) (as := [.int b, .int (nI k10)]) dX2_firstRenamer_74 fw_X2_ringOf fl_X2_40 fs_X2_ringOf rfl (c_X2_ringOf hs (d := d - 1) (by omega) (w := w) b (nI k10) (kc := 0) (ks := 0)) (by omega) (st := [.int z5]) (Nat.le_of_ble_eq_true rfl) rfl (kr_P fun v14 hv14 => ?_) kx_I
          refine J_ior (pc := 77) dX2_firstRenamer_77 (J_absI fun x15 => ?_)
          refine J_istore (pc := 78) dX2_firstRenamer_78 (by decide) rfl ?_
          show J X mX2_firstRenamer d kc ks 80 [some (.int a), some (.int b), some (.int (nI k)), some (.int v11), some (.int x13), some (.int x15), some (.int (nI c6)), some (.int (nI k9)), some (.int (nI k10))] [] w _
          refine J_iincN (pc := 80) (b := 1) dX2_firstRenamer_80 rfl (by decide) (by decide) rfl ?_
          show J X mX2_firstRenamer d kc ks 83 [some (.int a), some (.int b), some (.int (nI k)), some (.int v11), some (.int x13), some (.int x15), some (.int (nI (c6 + 1))), some (.int (nI k9)), some (.int (nI k10))] [] w _
          refine J_goto (pc := 83) (tgt := 12) dX2_firstRenamer_83 (by decide) ?_
          exact J_sub (L' := [some (.int a), some (.int b), some (.int (nI k)), some (.int v11), some (.int x13), some (.int x15), some (.int (nI (c6 + 1))), none, none]) ⟨rfl, ⟨rfl, ⟨rfl, ⟨rfl, ⟨rfl, ⟨rfl, ⟨rfl, trivial⟩⟩⟩⟩⟩⟩⟩ (ihlp12_1 v11 x13 x15 (c6 + 1) (by first | assumption | omega) (by omega))
  exact J_sub (L' := [some (.int a), some (.int b), some (.int (nI k)), some (.int (nI 1754760)), some (.int (nI 0)), some (.int (nI 0)), some (.int (nI 0)), none, none]) ⟨rfl, ⟨rfl, ⟨rfl, ⟨rfl, ⟨rfl, ⟨rfl, ⟨rfl, trivial⟩⟩⟩⟩⟩⟩⟩ (lp12_1 _ (nI 1754760) (nI 0) (nI 0) 0 (by first | assumption | omega) (Nat.lt_succ_self _))
