/-! contracts: spec2 X0 -/
set_option maxRecDepth 100000 in
set_option maxHeartbeats 4000000 in
theorem c_X0_place {X : jX} (hs : X.1.stackTraces = false) {d : Nat} (hd : 0 ≤ d) {w : List jC} (a : Nat) (b : Nat) {kc ks : Nat} : jMet X mX0_place d kc ks [.int (nI a), .int (nI b)] w (pI (fun v => ∃ k : Nat, v = nI k ∧ k = a * 8 + b) (fun w' => w' = w)) := by
  refine jMet_of hs (by decide +kernel) (Nat.le_of_ble_eq_true rfl) (L := [some (.int (nI a)), some (.int (nI b))]) rfl ?_
  refine J_iload_n (pc := 0) dX0_place_0 rfl rfl ?_
  refine J_bipush (pc := 1) (v := nI 8) dX0_place_1 (by decide) ?_
  refine J_imulN (pc := 3) dX0_place_3 ?_
  refine J_iload_n (pc := 4) dX0_place_4 rfl rfl ?_
  refine J_iaddN (pc := 5) dX0_place_5 ?_
  exact J_iret (pc := 6) dX0_place_6 rfl ⟨⟨(a * 8) + b, rfl, by omega⟩, rfl⟩
set_option maxRecDepth 100000 in
set_option maxHeartbeats 4000000 in
theorem c_X0_total {X : jX} (hs : X.1.stackTraces = false) {d : Nat} (hd : 0 ≤ d) {n : Nat} {e r q : Int32} (hn1 : 2 ≤ n) (hn2 : n ≤ 7) {w : List jC} (hS : SH (rX n e r q) w) {kc ks : Nat} : jMet X mX0_total d kc ks [.ref 2] w (pI (fun _ => True) (fun w' => w' = w)) := by
  refine jMet_of hs (by decide +kernel) (Nat.le_of_ble_eq_true rfl) (L := [some (.ref 2)]) rfl ?_
  have hG : Fr kX w w := Fr.rf
  refine J_aload_n (pc := 0) dX0_total_0 rfl rfl rfl ?_
  obtain ⟨_, hc1, ka1, kf1, kb1, kg1, rfl, hb1_0, hb1_1⟩ := hS 2 _ rfl
  refine J_get (pc := 1) (k := 3) dX0_total_1 kC2 (by decide) ff_X0_21 hc1 rfl ?_
  refine J_iconst (pc := 4) (v := nI 0) dX0_total_4 (by decide) ?_
  obtain ⟨_, hc2, xs2, rfl, hl2⟩ := hS 6 _ rfl
  refine J_iald (pc := 5) dX0_total_5 hc2 (nI_in (by omega) (by omega)) (J_absI fun x3 => ?_)
  exact J_iret (pc := 6) dX0_total_6 rfl ⟨trivial, rfl⟩
set_option maxRecDepth 100000 in
set_option maxHeartbeats 4000000 in
theorem c_X0_takenCells {X : jX} (hs : X.1.stackTraces = false) {d : Nat} (hd : 0 ≤ d) {n : Nat} {e r q : Int32} (hn1 : 2 ≤ n) (hn2 : n ≤ 7) {w : List jC} (hS : SH (rX n e r q) w) {kc ks : Nat} : jMet X mX0_takenCells d kc ks [.ref 2] w (pI (fun _ => True) (fun w' => w' = w)) := by
  refine jMet_of hs (by decide +kernel) (Nat.le_of_ble_eq_true rfl) (L := [some (.ref 2)]) rfl ?_
  have hG : Fr kX w w := Fr.rf
  refine J_aload_n (pc := 0) dX0_takenCells_0 rfl rfl rfl ?_
  obtain ⟨_, hc1, ka1, kf1, kb1, kg1, rfl, hb1_0, hb1_1⟩ := hS 2 _ rfl
  refine J_get (pc := 1) (k := 6) dX0_takenCells_1 kC2 (by decide) ff_X0_31 hc1 rfl ?_
  exact J_iret (pc := 4) dX0_takenCells_4 rfl ⟨trivial, rfl⟩
set_option maxRecDepth 100000 in
set_option maxHeartbeats 4000000 in
theorem c_X0_reachAt {X : jX} (hs : X.1.stackTraces = false) {d : Nat} (hd : 0 ≤ d) {n : Nat} {e r q : Int32} (hn1 : 2 ≤ n) (hn2 : n ≤ 7) {w : List jC} (hS : SH (rX n e r q) w) (a : Int32) {kc ks : Nat} : jMet X mX0_reachAt d kc ks [.ref 2, .int a] w (pI (fun _ => True) (fun w' => w' = w)) := by
  refine jMet_of hs (by decide +kernel) (Nat.le_of_ble_eq_true rfl) (L := [some (.ref 2), some (.int a)]) rfl ?_
  have hG : Fr kX w w := Fr.rf
  refine J_iload_n (pc := 0) dX0_reachAt_0 rfl rfl ?_
  refine J_if_lt (pc := 1) (tgt := 12) dX0_reachAt_1 (by decide) (fun ht1 => ?_) (fun hf2 => ?_)
  · refine J_iconst (pc := 12) (v := nI 0) dX0_reachAt_12 (by decide) ?_
    refine J_goto (pc := 13) (tgt := 22) dX0_reachAt_13 (by decide) ?_
    exact J_iret (pc := 22) dX0_reachAt_22 rfl ⟨trivial, rfl⟩
  · refine J_iload_n (pc := 4) dX0_reachAt_4 rfl rfl ?_
    refine J_aload_n (pc := 5) dX0_reachAt_5 rfl rfl rfl ?_
    obtain ⟨_, hc3, ka3, kf3, kb3, kg3, rfl, hb3_0, hb3_1⟩ := hS 2 _ rfl
    refine J_get (pc := 6) (k := 8) dX0_reachAt_6 kC2 (by decide) ff_X0_38 hc3 rfl ?_
    refine J_icmp_lt (pc := 9) (tgt := 16) dX0_reachAt_9 (by decide) (fun ht4 => ?_) (fun hf5 => ?_)
    · refine J_aload_n (pc := 16) dX0_reachAt_16 rfl rfl rfl ?_
      refine J_get (pc := 17) (k := 2) dX0_reachAt_17 kC2 (by decide) ff_X0_18 hc3 rfl ?_
      refine J_iload_n (pc := 20) dX0_reachAt_20 rfl rfl ?_
      obtain ⟨k6, hk6, rfl⟩ := nI_k2 ht4 (by omega) hf2
      obtain ⟨_, hc7, xs7, rfl, hl7⟩ := hS 5 _ rfl
      refine J_iald (pc := 21) dX0_reachAt_21 hc7 (nI_in (by omega) (by omega)) (J_absI fun x8 => ?_)
      exact J_iret (pc := 22) dX0_reachAt_22 rfl ⟨trivial, rfl⟩
    · refine J_iconst (pc := 12) (v := nI 0) dX0_reachAt_12 (by decide) ?_
      refine J_goto (pc := 13) (tgt := 22) dX0_reachAt_13 (by decide) ?_
      exact J_iret (pc := 22) dX0_reachAt_22 rfl ⟨trivial, rfl⟩
set_option maxRecDepth 100000 in
set_option maxHeartbeats 4000000 in
theorem c_X0_rankOf {X : jX} (hs : X.1.stackTraces = false) {d : Nat} (hd : 2 ≤ d) {n : Nat} {e r q : Int32} (hn1 : 2 ≤ n) (hn2 : n ≤ 7) {w : List jC} (hS : SH (rX n e r q) w) (a : Int32) {kc ks : Nat} : jMet X mX0_rankOf d kc ks [.ref 2, .int a] w (pI (fun _ => True) (fun w' => w' = w)) := by
  refine jMet_of hs (by decide +kernel) (Nat.le_of_ble_eq_true rfl) (L := [some (.ref 2), some (.int a), none, none, none, none, none]) rfl ?_
  have hG : Fr kX w w := Fr.rf
  refine J_iconst (pc := 0) (v := nI 0) dX0_rankOf_0 (by decide) ?_
  refine J_istore_n (pc := 1) dX0_rankOf_1 rfl (by decide) rfl ?_
  show J X mX0_rankOf d kc ks 2 [some (.ref 2), some (.int a), some (.int (nI 0)), none, none, none, none] [] w _
  refine J_ldc (pc := 2) (v := nI 1754760) dX0_rankOf_2 (by have := fk_X0_34; exact this) ?_
  refine J_istore_n (pc := 4) dX0_rankOf_4 rfl (by decide) rfl ?_
  show J X mX0_rankOf d kc ks 5 [some (.ref 2), some (.int a), some (.int (nI 0)), some (.int (nI 1754760)), none, none, none] [] w _
  refine J_iconst (pc := 5) (v := nI 0) dX0_rankOf_5 (by decide) ?_
  refine J_istore (pc := 6) dX0_rankOf_6 (by decide) rfl ?_
  show J X mX0_rankOf d kc ks 8 [some (.ref 2), some (.int a), some (.int (nI 0)), some (.int (nI 1754760)), some (.int (nI 0)), none, none] [] w _
  have lp8_1 : ∀ (fuel : Nat) (z2 : Int32) (z3 : Int32) (c4 : Nat), c4 < 2147483648 → 7 - c4 < fuel → J X mX0_rankOf d kc ks 8 [some (.ref 2), some (.int a), some (.int z2), some (.int z3), some (.int (nI c4)), none, none] [] w (pI (fun _ => True) (fun w' => w' = w)) := by
    intro fuellp8_1
    induction fuellp8_1 with
    | zero => intros; omega
    | succ fuellp8_1 ihlp8_1 =>
      intro z2 z3 c4 hi2 hf3
      refine J_iload (pc := 8) dX0_rankOf_8 rfl ?_
      refine J_aload_n (pc := 10) dX0_rankOf_10 rfl rfl rfl ?_
      obtain ⟨_, hc4, ka4, kf4, kb4, kg4, rfl, hb4_0, hb4_1⟩ := hS 2 _ rfl
      refine J_get (pc := 11) (k := 8) dX0_rankOf_11 kC2 (by decide) ff_X0_38 hc4 rfl ?_
      refine J_icmp_geN (pc := 14) (tgt := 104) dX0_rankOf_14 (by decide) (by omega) (by omega) (fun ht5 => ?_) (fun hf6 => ?_)
      · refine J_iload_n (pc := 104) dX0_rankOf_104 rfl rfl ?_
        exact J_iret (pc := 105) dX0_rankOf_105 rfl ⟨trivial, rfl⟩
      · refine J_iload_n (pc := 17) dX0_rankOf_17 rfl rfl ?_
        refine J_aload_n (pc := 18) dX0_rankOf_18 rfl rfl rfl ?_
        refine J_get (pc := 19) (k := 2) dX0_rankOf_19 kC2 (by decide) ff_X0_18 hc4 rfl ?_
        refine J_iload (pc := 22) dX0_rankOf_22 rfl ?_
        obtain ⟨_, hc7, xs7, rfl, hl7⟩ := hS 5 _ rfl
        refine J_iald (pc := 24) dX0_rankOf_24 hc7 (nI_in (by omega) (by omega)) (J_absI fun x8 => ?_)
        refine J_callS0 (pc := 25) (M := mX0_rankOf) (as := [.int z3, .int x8]) dX0_rankOf_25 fw_X2_goals fl_X0_71 fs_X2_goals rfl (c_X2_goals hs (d := d - 1) (by omega) (w := w) z3 x8 (kc := 0) (ks := 0)) (by omega) (st := []) (Nat.le_of_ble_eq_true rfl) rfl (kr_P fun v9 hv9 => ?_) kx_I
        refine J_istore (pc := 28) dX0_rankOf_28 (by decide) rfl ?_
        show J X mX0_rankOf d kc ks 30 [some (.ref 2), some (.int a), some (.int z2), some (.int z3), some (.int (nI c4)), some (.int v9), none] [] w _
        refine J_iload_n (pc := 30) dX0_rankOf_30 rfl rfl ?_
        refine J_aload_n (pc := 31) dX0_rankOf_31 rfl rfl rfl ?_
        refine J_get (pc := 32) (k := 7) dX0_rankOf_32 kC2 (by decide) ff_X0_35 hc4 rfl ?_
        refine J_iload (pc := 35) dX0_rankOf_35 rfl ?_
        refine J_callS0 (pc := 37) (M := mX0_rankOf) (as := [.int kg4, .int (nI c4)]) dX0_rankOf_37 fw_X2_goal fl_X0_41 fs_X2_goal rfl (c_X2_goal hs (d := d - 1) (by omega) (w := w) kg4 (nI c4) (kc := 0) (ks := 0)) (by omega) (st := [.int a]) (Nat.le_of_ble_eq_true rfl) rfl (kr_P fun v10 hv10 => ?_) kx_I
        obtain ⟨k10, rfl, hk10⟩ := hv10
        refine J_callS0 (pc := 40) (M := mX0_rankOf) (as := [.int a, .int (nI k10)]) dX0_rankOf_40 fw_X2_goal fl_X0_41 fs_X2_goal rfl (c_X2_goal hs (d := d - 1) (by omega) (w := w) a (nI k10) (kc := 0) (ks := 0)) (by omega) (st := []) (Nat.le_of_ble_eq_true rfl) rfl (kr_P fun v11 hv11 => ?_) kx_I
        obtain ⟨k11, rfl, hk11⟩ := hv11
        refine J_istore (pc := 43) dX0_rankOf_43 (by decide) rfl ?_
        show J X mX0_rankOf d kc ks 45 [some (.ref 2), some (.int a), some (.int z2), some (.int z3), some (.int (nI c4)), some (.int v9), some (.int (nI k11))] [] w _
        refine J_iload (pc := 45) dX0_rankOf_45 rfl ?_
        refine J_iload (pc := 47) dX0_rankOf_47 rfl ?_
        refine J_callSN0 (pc := 49) (M := mX0_rankOf) (as := [.int v9, .int (nI k11)]) dX0_rankOf_49 fw_X6_has fl_X0_48 fs_X6_has rfl (c_X6_has hs (d := d - 1) (by omega) (w := w) v9 (nI k11) (kc := 0) (ks := 0)) (by omega) (st := []) (Nat.le_of_ble_eq_true rfl) rfl (kr_P fun v12 hv12 => ?_) kx_I
        obtain ⟨k12, rfl, hk12⟩ := hv12
        refine J_if_neN (pc := 52) (tgt := 57) dX0_rankOf_52 (by decide) (by omega) (fun ht13 => ?_) (fun hf14 => ?_)
        · refine J_iload_n (pc := 57) dX0_rankOf_57 rfl rfl ?_
          refine J_iload (pc := 58) dX0_rankOf_58 rfl ?_
          refine J_iload (pc := 60) dX0_rankOf_60 rfl ?_
          refine J_callSN0 (pc := 62) (M := mX0_rankOf) (as := [.int v9, .int (nI k11)]) dX0_rankOf_62 fw_X6_howManyBelow fl_X0_74 fs_X6_howManyBelow rfl (c_X6_howManyBelow hs (d := d - 1) (by omega) (w := w) v9 (nI k11) (kc := 0) (ks := 0)) (by omega) (st := [.int z2]) (Nat.le_of_ble_eq_true rfl) rfl (kr_P fun v15 hv15 => ?_) kx_I
          obtain ⟨k15, rfl, hk15⟩ := hv15
          refine J_aload_n (pc := 65) dX0_rankOf_65 rfl rfl rfl ?_
          refine J_get (pc := 66) (k := 3) dX0_rankOf_66 kC2 (by decide) ff_X0_21 hc4 rfl ?_
          refine J_iload (pc := 69) dX0_rankOf_69 rfl ?_
          refine J_iconst (pc := 71) (v := nI 1) dX0_rankOf_71 (by decide) ?_
          refine J_iaddN (pc := 72) dX0_rankOf_72 ?_
          obtain ⟨_, hc16, xs16, rfl, hl16⟩ := hS 6 _ rfl
          refine J_iald (pc := 73) dX0_rankOf_73 hc16 (nI_in (by omega) (by omega)) (J_absI fun x17 => ?_)
          refine J_imul (pc := 74) dX0_rankOf_74 (J_absI fun x18 => ?_)
          refine J_iadd (pc := 75) dX0_rankOf_75 (J_absI fun x19 => ?_)
          refine J_istore_n (pc := 76) dX0_rankOf_76 rfl (by decide) rfl ?_
          show J X mX0_rankOf d kc ks 77 [some (.ref 2), some (.int a), some (.int x19), some (.int z3), some (.int (nI c4)), some (.int v9), some (.int (nI k11))] [] w _
          refine J_aload_n (pc := 77) dX0_rankOf_77 rfl rfl rfl ?_
          refine J_get (pc := 78) (k := 0) dX0_rankOf_78 kC2 (by decide) ff_X0_9 hc4 rfl ?_
          refine J_iload (pc := 81) dX0_rankOf_81 rfl ?_
          refine J_iload_n (pc := 83) dX0_rankOf_83 rfl rfl ?_
          refine J_iload (pc := 84) dX0_rankOf_84 rfl ?_
          refine J_callS0 (pc := 86) (M := mX0_rankOf) (as := [.int z3, .int (nI k11)]) dX0_rankOf_86 fw_X2_source fl_X0_77 fs_X2_source rfl (c_X2_source hs (d := d - 1) (by omega) (w := w) z3 (nI k11) (kc := 0) (ks := 0)) (by omega) (st := [.int (nI c4), .ref 3]) (Nat.le_of_ble_eq_true rfl) rfl (kr_P fun v20 hv20 => ?_) kx_I
          obtain ⟨k20, rfl, hk20⟩ := hv20
          refine J_callS0 (pc := 89) (M := mX0_rankOf) (as := [.int (nI c4), .int (nI k20)]) dX0_rankOf_89 fw_X0_place fl_X0_45 fs_X0_place rfl (c_X0_place hs (d := d - 1) (by omega) (w := w) c4 k20 (kc := 0) (ks := 0)) (by omega) (st := [.ref 3]) (Nat.le_of_ble_eq_true rfl) rfl (kr_P fun v21 hv21 => ?_) kx_I
          obtain ⟨k21, rfl, hk21⟩ := hv21
          obtain ⟨_, hc22, xs22, rfl, hl22⟩ := hS 3 _ rfl
          refine J_iald (pc := 92) dX0_rankOf_92 hc22 (nI_in (by omega) (by omega)) (J_absI fun x23 => ?_)
          refine J_iload_n (pc := 93) dX0_rankOf_93 rfl rfl ?_
          refine J_callS0 (pc := 94) (M := mX0_rankOf) (as := [.int x23, .int z3]) dX0_rankOf_94 fw_X2_both fl_X0_80 fs_X2_both rfl (c_X2_both hs (d := d - 1) (by omega) (w := w) x23 z3 (kc := 0) (ks := 0)) (by omega) (st := []) (Nat.le_of_ble_eq_true rfl) rfl (kr_P fun v24 hv24 => ?_) kx_I
          refine J_istore_n (pc := 97) dX0_rankOf_97 rfl (by decide) rfl ?_
          show J X mX0_rankOf d kc ks 98 [some (.ref 2), some (.int a), some (.int x19), some (.int v24), some (.int (nI c4)), some (.int v9), some (.int (nI k11))] [] w _
          refine J_iincN (pc := 98) (b := 1) dX0_rankOf_98 rfl (by decide) (by decide) rfl ?_
          show J X mX0_rankOf d kc ks 101 [some (.ref 2), some (.int a), some (.int x19), some (.int v24), some (.int (nI (c4 + 1))), some (.int v9), some (.int (nI k11))] [] w _
          refine J_goto (pc := 101) (tgt := 8) dX0_rankOf_101 (by decide) ?_
          exact J_sub (L' := [some (.ref 2), some (.int a), some (.int x19), some (.int v24), some (.int (nI (c4 + 1))), none, none]) ⟨rfl, ⟨rfl, ⟨rfl, ⟨rfl, ⟨rfl, trivial⟩⟩⟩⟩⟩ (ihlp8_1 x19 v24 (c4 + 1) (by first | assumption | omega) (by omega))
        · refine J_iconst (pc := 55) (v := (-1)) dX0_rankOf_55 (by decide) ?_
          exact J_iret (pc := 56) dX0_rankOf_56 rfl ⟨trivial, rfl⟩
  exact J_sub (L' := [some (.ref 2), some (.int a), some (.int (nI 0)), some (.int (nI 1754760)), some (.int (nI 0)), none, none]) ⟨rfl, ⟨rfl, ⟨rfl, ⟨rfl, ⟨rfl, trivial⟩⟩⟩⟩⟩ (lp8_1 _ (nI 0) (nI 1754760) 0 (by first | assumption | omega) (Nat.lt_succ_self _))
set_option maxRecDepth 100000 in
set_option maxHeartbeats 4000000 in
theorem c_X0_holds {X : jX} (hs : X.1.stackTraces = false) {d : Nat} (hd : 3 ≤ d) {n : Nat} {e r q : Int32} (hn1 : 2 ≤ n) (hn2 : n ≤ 7) {w : List jC} (hS : SH (rX n e r q) w) (a : Int32) {kc ks : Nat} : jMet X mX0_holds d kc ks [.ref 2, .int a] w (pI (fun v => ∃ k : Nat, v = nI k ∧ k < 2) (fun w' => w' = w)) := by
  refine jMet_of hs (by decide +kernel) (Nat.le_of_ble_eq_true rfl) (L := [some (.ref 2), some (.int a)]) rfl ?_
  have hG : Fr kX w w := Fr.rf
  refine J_aload_n (pc := 0) dX0_holds_0 rfl rfl rfl ?_
  refine J_iload_n (pc := 1) dX0_holds_1 rfl rfl ?_
  obtain ⟨_, hc2, ka2, kf2, kb2, kg2, rfl, hb2_0, hb2_1⟩ := hS 2 _ rfl
  refine J_callV0 (pc := 2) (M := mX0_holds) (as := [.int a]) dX0_holds_2 fw_X0_rankOf fl_X0_64 fm_X0_rankOf fe_X0_rankOf hc2 (by decide) rfl rfl rfl (c_X0_rankOf hs (d := d - 1) (by omega) (e := e) (r := r) (q := q) hn1 hn2 hS (w := w) a (kc := 0) (ks := 0)) (by omega) (st := []) (Nat.le_of_ble_eq_true rfl) rfl (kr_P fun v1 hv1 => ?_) kx_I
  refine J_if_lt (pc := 5) (tgt := 12) dX0_holds_5 (by decide) (fun ht3 => ?_) (fun hf4 => ?_)
  · refine J_iconst (pc := 12) (v := nI 0) dX0_holds_12 (by decide) ?_
    exact J_zret (pc := 13) dX0_holds_13 rfl (nar_b (by omega)) ⟨⟨0, rfl, by omega⟩, rfl⟩
  · refine J_iconst (pc := 8) (v := nI 1) dX0_holds_8 (by decide) ?_
    refine J_goto (pc := 9) (tgt := 13) dX0_holds_9 (by decide) ?_
    exact J_zret (pc := 13) dX0_holds_13 rfl (nar_b (by omega)) ⟨⟨1, rfl, by omega⟩, rfl⟩
set_option maxRecDepth 100000 in
set_option maxHeartbeats 4000000 in
theorem c_X0_holdsAll {X : jX} (hs : X.1.stackTraces = false) {d : Nat} (hd : 4 ≤ d) {n : Nat} {e r q : Int32} (hn1 : 2 ≤ n) (hn2 : n ≤ 7) {w : List jC} (hS : SH (rX n e r q) w) (a : Int32) {kc ks : Nat} : jMet X mX0_holdsAll d kc ks [.ref 2, .ref 1, .int a] w (pI (fun v => ∃ k : Nat, v = nI k ∧ k < 2) (fun w' => w' = w)) := by
  refine jMet_of hs (by decide +kernel) (Nat.le_of_ble_eq_true rfl) (L := [some (.ref 2), some (.ref 1), some (.int a), none]) rfl ?_
  have hG : Fr kX w w := Fr.rf
  refine J_iconst (pc := 0) (v := nI 0) dX0_holdsAll_0 (by decide) ?_
  refine J_istore_n (pc := 1) dX0_holdsAll_1 rfl (by decide) rfl ?_
  show J X mX0_holdsAll d kc ks 2 [some (.ref 2), some (.ref 1), some (.int a), some (.int (nI 0))] [] w _
  have lp2_1 : ∀ (fuel : Nat) (c3 : Nat), c3 < 2147483648 → 6 - c3 < fuel → J X mX0_holdsAll d kc ks 2 [some (.ref 2), some (.ref 1), some (.int a), some (.int (nI c3))] [] w (pI (fun v => ∃ k : Nat, v = nI k ∧ k < 2) (fun w' => w' = w)) := by
    intro fuellp2_1
    induction fuellp2_1 with
    | zero => intros; omega
    | succ fuellp2_1 ihlp2_1 =>
      intro c3 hi2 hf3
      refine J_iload_n (pc := 2) dX0_holdsAll_2 rfl rfl ?_
      refine J_aload_n (pc := 3) dX0_holdsAll_3 rfl rfl rfl ?_
      obtain ⟨_, hc4, xs4, rfl, hl4⟩ := hS 1 _ rfl
      refine J_alen (pc := 4) (n := nI 6) dX0_holdsAll_4 hc4 (by decide) (by rw [hl4]; rfl) ?_
      refine J_icmp_geN (pc := 5) (tgt := 34) dX0_holdsAll_5 (by decide) (by omega) (by omega) (fun ht5 => ?_) (fun hf6 => ?_)
      · refine J_iconst (pc := 34) (v := nI 1) dX0_holdsAll_34 (by decide) ?_
        exact J_zret (pc := 35) dX0_holdsAll_35 rfl (nar_b (by omega)) ⟨⟨1, rfl, by omega⟩, rfl⟩
      · refine J_iload_n (pc := 8) dX0_holdsAll_8 rfl rfl ?_
        refine J_iload_n (pc := 9) dX0_holdsAll_9 rfl rfl ?_
        refine J_callSN0 (pc := 10) (M := mX0_holdsAll) (as := [.int a, .int (nI c3)]) dX0_holdsAll_10 fw_X6_has fl_X0_48 fs_X6_has rfl (c_X6_has hs (d := d - 1) (by omega) (w := w) a (nI c3) (kc := 0) (ks := 0)) (by omega) (st := []) (Nat.le_of_ble_eq_true rfl) rfl (kr_P fun v7 hv7 => ?_) kx_I
        obtain ⟨k7, rfl, hk7⟩ := hv7
        refine J_if_eqN (pc := 13) (tgt := 28) dX0_holdsAll_13 (by decide) (by omega) (fun ht8 => ?_) (fun hf9 => ?_)
        · refine J_iincN (pc := 28) (b := 1) dX0_holdsAll_28 rfl (by decide) (by decide) rfl ?_
          show J X mX0_holdsAll d kc ks 31 [some (.ref 2), some (.ref 1), some (.int a), some (.int (nI (c3 + 1)))] [] w _
          refine J_goto (pc := 31) (tgt := 2) dX0_holdsAll_31 (by decide) ?_
          exact J_sub (L' := [some (.ref 2), some (.ref 1), some (.int a), some (.int (nI (c3 + 1)))]) ⟨rfl, ⟨rfl, ⟨rfl, ⟨rfl, trivial⟩⟩⟩⟩ (ihlp2_1 (c3 + 1) (by first | assumption | omega) (by omega))
        · refine J_aload_n (pc := 16) dX0_holdsAll_16 rfl rfl rfl ?_
          refine J_aload_n (pc := 17) dX0_holdsAll_17 rfl rfl rfl ?_
          refine J_iload_n (pc := 18) dX0_holdsAll_18 rfl rfl ?_
          refine J_iald (pc := 19) dX0_holdsAll_19 hc4 (nI_in (by omega) (by omega)) (J_absI fun x10 => ?_)
          obtain ⟨_, hc12, ka12, kf12, kb12, kg12, rfl, hb12_0, hb12_1⟩ := hS 2 _ rfl
          refine J_callV0 (pc := 20) (M := mX0_holdsAll) (as := [.int x10]) dX0_holdsAll_20 fw_X0_holds fl_X0_68 fm_X0_holds fe_X0_holds hc12 (by decide) rfl rfl rfl (c_X0_holds hs (d := d - 1) (by omega) (e := e) (r := r) (q := q) hn1 hn2 hS (w := w) x10 (kc := 0) (ks := 0)) (by omega) (st := []) (Nat.le_of_ble_eq_true rfl) rfl (kr_P fun v11 hv11 => ?_) kx_I
          obtain ⟨k11, rfl, hk11⟩ := hv11
          refine J_if_neN (pc := 23) (tgt := 28) dX0_holdsAll_23 (by decide) (by omega) (fun ht13 => ?_) (fun hf14 => ?_)
          · refine J_iincN (pc := 28) (b := 1) dX0_holdsAll_28 rfl (by decide) (by decide) rfl ?_
            show J X mX0_holdsAll d kc ks 31 [some (.ref 2), some (.ref 1), some (.int a), some (.int (nI (c3 + 1)))] [] w _
            refine J_goto (pc := 31) (tgt := 2) dX0_holdsAll_31 (by decide) ?_
            exact J_sub (L' := [some (.ref 2), some (.ref 1), some (.int a), some (.int (nI (c3 + 1)))]) ⟨rfl, ⟨rfl, ⟨rfl, ⟨rfl, trivial⟩⟩⟩⟩ (ihlp2_1 (c3 + 1) (by first | assumption | omega) (by omega))
          · refine J_iconst (pc := 26) (v := nI 0) dX0_holdsAll_26 (by decide) ?_
            exact J_zret (pc := 27) dX0_holdsAll_27 rfl (nar_b (by omega)) ⟨⟨0, rfl, by omega⟩, rfl⟩
  exact J_sub (L' := [some (.ref 2), some (.ref 1), some (.int a), some (.int (nI 0))]) ⟨rfl, ⟨rfl, ⟨rfl, ⟨rfl, trivial⟩⟩⟩⟩ (lp2_1 _ 0 (by first | assumption | omega) (Nat.lt_succ_self _))
set_option maxRecDepth 100000 in
set_option maxHeartbeats 4000000 in
theorem c_X0_moveAt {X : jX} (hs : X.1.stackTraces = false) {d : Nat} (hd : 3 ≤ d) {n : Nat} {e r q : Int32} (hn1 : 2 ≤ n) (hn2 : n ≤ 7) {w : List jC} (hS : SH (rX n e r q) w) (a : Int32) (b : Int32) {kc ks : Nat} : jMet X mX0_moveAt d kc ks [.ref 2, .int a, .int b] w (pI (fun _ => True) (fun w' => w' = w)) := by
  refine jMet_of hs (by decide +kernel) (Nat.le_of_ble_eq_true rfl) (L := [some (.ref 2), some (.int a), some (.int b), none, none, none, none, none, none]) rfl ?_
  have hG : Fr kX w w := Fr.rf
  refine J_iload_n (pc := 0) dX0_moveAt_0 rfl rfl ?_
  refine J_istore_n (pc := 1) dX0_moveAt_1 rfl (by decide) rfl ?_
  show J X mX0_moveAt d kc ks 2 [some (.ref 2), some (.int a), some (.int b), some (.int a), none, none, none, none, none] [] w _
  refine J_iload_n (pc := 2) dX0_moveAt_2 rfl rfl ?_
  refine J_istore (pc := 3) dX0_moveAt_3 (by decide) rfl ?_
  show J X mX0_moveAt d kc ks 5 [some (.ref 2), some (.int a), some (.int b), some (.int a), some (.int b), none, none, none, none] [] w _
  refine J_iconst (pc := 5) (v := nI 0) dX0_moveAt_5 (by decide) ?_
  refine J_istore (pc := 6) dX0_moveAt_6 (by decide) rfl ?_
  show J X mX0_moveAt d kc ks 8 [some (.ref 2), some (.int a), some (.int b), some (.int a), some (.int b), some (.int (nI 0)), none, none, none] [] w _
  have lp8_1 : ∀ (fuel : Nat) (z3 : Int32) (z4 : Int32) (c5 : Nat), c5 < 2147483648 → 7 - c5 < fuel → J X mX0_moveAt d kc ks 8 [some (.ref 2), some (.int a), some (.int b), some (.int z3), some (.int z4), some (.int (nI c5)), none, none, none] [] w (pI (fun _ => True) (fun w' => w' = w)) := by
    intro fuellp8_1
    induction fuellp8_1 with
    | zero => intros; omega
    | succ fuellp8_1 ihlp8_1 =>
      intro z3 z4 c5 hi2 hf3
      refine J_iload (pc := 8) dX0_moveAt_8 rfl ?_
      refine J_aload_n (pc := 10) dX0_moveAt_10 rfl rfl rfl ?_
      obtain ⟨_, hc4, ka4, kf4, kb4, kg4, rfl, hb4_0, hb4_1⟩ := hS 2 _ rfl
      refine J_get (pc := 11) (k := 8) dX0_moveAt_11 kC2 (by decide) ff_X0_38 hc4 rfl ?_
      refine J_icmp_geN (pc := 14) (tgt := 100) dX0_moveAt_14 (by decide) (by omega) (by omega) (fun ht5 => ?_) (fun hf6 => ?_)
      · refine J_iload (pc := 100) dX0_moveAt_100 rfl ?_
        exact J_iret (pc := 102) dX0_moveAt_102 rfl ⟨trivial, rfl⟩
      · refine J_iload (pc := 17) dX0_moveAt_17 rfl ?_
        refine J_aload_n (pc := 19) dX0_moveAt_19 rfl rfl rfl ?_
        refine J_get (pc := 20) (k := 2) dX0_moveAt_20 kC2 (by decide) ff_X0_18 hc4 rfl ?_
        refine J_iload (pc := 23) dX0_moveAt_23 rfl ?_
        obtain ⟨_, hc7, xs7, rfl, hl7⟩ := hS 5 _ rfl
        refine J_iald (pc := 25) dX0_moveAt_25 hc7 (nI_in (by omega) (by omega)) (J_absI fun x8 => ?_)
        refine J_callS0 (pc := 26) (M := mX0_moveAt) (as := [.int z4, .int x8]) dX0_moveAt_26 fw_X2_goals fl_X0_71 fs_X2_goals rfl (c_X2_goals hs (d := d - 1) (by omega) (w := w) z4 x8 (kc := 0) (ks := 0)) (by omega) (st := []) (Nat.le_of_ble_eq_true rfl) rfl (kr_P fun v9 hv9 => ?_) kx_I
        refine J_istore (pc := 29) dX0_moveAt_29 (by decide) rfl ?_
        show J X mX0_moveAt d kc ks 31 [some (.ref 2), some (.int a), some (.int b), some (.int z3), some (.int z4), some (.int (nI c5)), some (.int v9), none, none] [] w _
        refine J_iload_n (pc := 31) dX0_moveAt_31 rfl rfl ?_
        refine J_aload_n (pc := 32) dX0_moveAt_32 rfl rfl rfl ?_
        refine J_get (pc := 33) (k := 3) dX0_moveAt_33 kC2 (by decide) ff_X0_21 hc4 rfl ?_
        refine J_iload (pc := 36) dX0_moveAt_36 rfl ?_
        refine J_iconst (pc := 38) (v := nI 1) dX0_moveAt_38 (by decide) ?_
        refine J_iaddN (pc := 39) dX0_moveAt_39 ?_
        obtain ⟨_, hc10, xs10, rfl, hl10⟩ := hS 6 _ rfl
        refine J_iald (pc := 40) dX0_moveAt_40 hc10 (nI_in (by omega) (by omega)) (J_absI fun x11 => ?_)
        refine J_callSN0 (pc := 41) (M := mX0_moveAt) (as := [.int z3, .int x11]) dX0_moveAt_41 fw_X6_quotient fl_X0_83 fs_X6_quotient rfl (c_X6_quotient hs (d := d - 1) (by omega) (w := w) z3 x11 (kc := 0) (ks := 0)) (by omega) (st := []) (Nat.le_of_ble_eq_true rfl) rfl (kr_P fun v12 hv12 => ?_) kx_I
        refine J_istore (pc := 44) dX0_moveAt_44 (by decide) rfl ?_
        show J X mX0_moveAt d kc ks 46 [some (.ref 2), some (.int a), some (.int b), some (.int z3), some (.int z4), some (.int (nI c5)), some (.int v9), some (.int v12), none] [] w _
        refine J_iload_n (pc := 46) dX0_moveAt_46 rfl rfl ?_
        refine J_iload (pc := 47) dX0_moveAt_47 rfl ?_
        refine J_aload_n (pc := 49) dX0_moveAt_49 rfl rfl rfl ?_
        refine J_get (pc := 50) (k := 3) dX0_moveAt_50 kC2 (by decide) ff_X0_21 hc4 rfl ?_
        refine J_iload (pc := 53) dX0_moveAt_53 rfl ?_
        refine J_iconst (pc := 55) (v := nI 1) dX0_moveAt_55 (by decide) ?_
        refine J_iaddN (pc := 56) dX0_moveAt_56 ?_
        refine J_iald (pc := 57) dX0_moveAt_57 hc10 (nI_in (by omega) (by omega)) (J_absI fun x13 => ?_)
        refine J_imul (pc := 58) dX0_moveAt_58 (J_absI fun x14 => ?_)
        refine J_isub (pc := 59) dX0_moveAt_59 (J_absI fun x15 => ?_)
        refine J_istore_n (pc := 60) dX0_moveAt_60 rfl (by decide) rfl ?_
        show J X mX0_moveAt d kc ks 61 [some (.ref 2), some (.int a), some (.int b), some (.int x15), some (.int z4), some (.int (nI c5)), some (.int v9), some (.int v12), none] [] w _
        refine J_iload (pc := 61) dX0_moveAt_61 rfl ?_
        refine J_iload (pc := 63) dX0_moveAt_63 rfl ?_
        refine J_iload (pc := 65) dX0_moveAt_65 rfl ?_
        refine J_callS0 (pc := 67) (M := mX0_moveAt) (as := [.int v9, .int v12]) dX0_moveAt_67 fw_X2_bitAt fl_X0_86 fs_X2_bitAt rfl (c_X2_bitAt hs (d := d - 1) (by omega) (w := w) v9 v12 (kc := 0) (ks := 0)) (by omega) (st := [.int z4]) (Nat.le_of_ble_eq_true rfl) rfl (kr_P fun v16 hv16 => ?_) kx_I
        obtain ⟨k16, rfl, hk16⟩ := hv16
        refine J_callS0 (pc := 70) (M := mX0_moveAt) (as := [.int z4, .int (nI k16)]) dX0_moveAt_70 fw_X2_source fl_X0_77 fs_X2_source rfl (c_X2_source hs (d := d - 1) (by omega) (w := w) z4 (nI k16) (kc := 0) (ks := 0)) (by omega) (st := []) (Nat.le_of_ble_eq_true rfl) rfl (kr_P fun v17 hv17 => ?_) kx_I
        obtain ⟨k17, rfl, hk17⟩ := hv17
        refine J_istore (pc := 73) dX0_moveAt_73 (by decide) rfl ?_
        show J X mX0_moveAt d kc ks 75 [some (.ref 2), some (.int a), some (.int b), some (.int x15), some (.int z4), some (.int (nI c5)), some (.int v9), some (.int v12), some (.int (nI k17))] [] w _
        refine J_aload_n (pc := 75) dX0_moveAt_75 rfl rfl rfl ?_
        refine J_get (pc := 76) (k := 0) dX0_moveAt_76 kC2 (by decide) ff_X0_9 hc4 rfl ?_
        refine J_iload (pc := 79) dX0_moveAt_79 rfl ?_
        refine J_iload (pc := 81) dX0_moveAt_81 rfl ?_
        refine J_callS0 (pc := 83) (M := mX0_moveAt) (as := [.int (nI c5), .int (nI k17)]) dX0_moveAt_83 fw_X0_place fl_X0_45 fs_X0_place rfl (c_X0_place hs (d := d - 1) (by omega) (w := w) c5 k17 (kc := 0) (ks := 0)) (by omega) (st := [.ref 3]) (Nat.le_of_ble_eq_true rfl) rfl (kr_P fun v18 hv18 => ?_) kx_I
        obtain ⟨k18, rfl, hk18⟩ := hv18
        obtain ⟨_, hc19, xs19, rfl, hl19⟩ := hS 3 _ rfl
        refine J_iald (pc := 86) dX0_moveAt_86 hc19 (nI_in (by omega) (by omega)) (J_absI fun x20 => ?_)
        refine J_iload (pc := 87) dX0_moveAt_87 rfl ?_
        refine J_callS0 (pc := 89) (M := mX0_moveAt) (as := [.int x20, .int z4]) dX0_moveAt_89 fw_X2_both fl_X0_80 fs_X2_both rfl (c_X2_both hs (d := d - 1) (by omega) (w := w) x20 z4 (kc := 0) (ks := 0)) (by omega) (st := []) (Nat.le_of_ble_eq_true rfl) rfl (kr_P fun v21 hv21 => ?_) kx_I
        refine J_istore (pc := 92) dX0_moveAt_92 (by decide) rfl ?_
        show J X mX0_moveAt d kc ks 94 [some (.ref 2), some (.int a), some (.int b), some (.int x15), some (.int v21), some (.int (nI c5)), some (.int v9), some (.int v12), some (.int (nI k17))] [] w _
        refine J_iincN (pc := 94) (b := 1) dX0_moveAt_94 rfl (by decide) (by decide) rfl ?_
        show J X mX0_moveAt d kc ks 97 [some (.ref 2), some (.int a), some (.int b), some (.int x15), some (.int v21), some (.int (nI (c5 + 1))), some (.int v9), some (.int v12), some (.int (nI k17))] [] w _
        refine J_goto (pc := 97) (tgt := 8) dX0_moveAt_97 (by decide) ?_
        exact J_sub (L' := [some (.ref 2), some (.int a), some (.int b), some (.int x15), some (.int v21), some (.int (nI (c5 + 1))), none, none, none]) ⟨rfl, ⟨rfl, ⟨rfl, ⟨rfl, ⟨rfl, ⟨rfl, trivial⟩⟩⟩⟩⟩⟩ (ihlp8_1 x15 v21 (c5 + 1) (by first | assumption | omega) (by omega))
  exact J_sub (L' := [some (.ref 2), some (.int a), some (.int b), some (.int a), some (.int b), some (.int (nI 0)), none, none, none]) ⟨rfl, ⟨rfl, ⟨rfl, ⟨rfl, ⟨rfl, ⟨rfl, trivial⟩⟩⟩⟩⟩⟩ (lp8_1 _ a b 0 (by first | assumption | omega) (Nat.lt_succ_self _))
set_option maxRecDepth 100000 in
set_option maxHeartbeats 4000000 in
theorem c_X0_addStep {X : jX} (hs : X.1.stackTraces = false) {d : Nat} (hd : 0 ≤ d) {n : Nat} {e r q : Int32} (hn1 : 2 ≤ n) (hn2 : n ≤ 7) {w : List jC} (hS : SH (rX n e r q) w) (p : Nat) (a : Int32) (b : Int32) (hy0 : p < 64) {kc ks : Nat} : jMet X mX0_addStep d kc ks [.ref 2, .int (nI p), .int a, .int b] w (pV (fun w' => rS n e r q w w')) := by
  refine jMet_of hs (by decide +kernel) (Nat.le_of_ble_eq_true rfl) (L := [some (.ref 2), some (.int (nI p)), some (.int a), some (.int b)]) rfl ?_
  have hG : Fr kX w w := Fr.rf
  refine J_aload_n (pc := 0) dX0_addStep_0 rfl rfl rfl ?_
  obtain ⟨_, hc1, ka1, kf1, kb1, kg1, rfl, hb1_0, hb1_1⟩ := hS 2 _ rfl
  refine J_get (pc := 1) (k := 0) dX0_addStep_1 kC2 (by decide) ff_X0_9 hc1 rfl ?_
  refine J_iload_n (pc := 4) dX0_addStep_4 rfl rfl ?_
  refine J_iload_n (pc := 5) dX0_addStep_5 rfl rfl ?_
  obtain ⟨_, hc2, xs2, rfl, hl2⟩ := hS 3 _ rfl
  refine J_iastS (pc := 6) kX dX0_addStep_6 hS hc2 (nI_in (by omega) (by omega)) rfl ⟨_, rfl, by rw [List.length_set]; exact hl2⟩ (by decide) (fun w3 hS3 hc3 hne3 hF3 => ?_)
  have hG3 := hG.tr hF3
  have hl3 : (List.set xs2 (nI p).toNatClampNeg a).length = 64 := by rw [List.length_set]; exact hl2
  generalize List.set xs2 (nI p).toNatClampNeg a = xs3 at hc3 hl3
  have hc1_v3 := (hne3 2 (by decide)).trans hc1
  refine J_aload_n (pc := 7) dX0_addStep_7 rfl rfl rfl ?_
  refine J_get (pc := 8) (k := 1) dX0_addStep_8 kC2 (by decide) ff_X0_15 hc1_v3 rfl ?_
  refine J_iload_n (pc := 11) dX0_addStep_11 rfl rfl ?_
  refine J_iload_n (pc := 12) dX0_addStep_12 rfl rfl ?_
  obtain ⟨_, hc4, xs4, rfl, hl4⟩ := hS3 4 _ rfl
  refine J_iastS (pc := 13) kX dX0_addStep_13 hS3 hc4 (nI_in (by omega) (by omega)) rfl ⟨_, rfl, by rw [List.length_set]; exact hl4⟩ (by decide) (fun w5 hS5 hc5 hne5 hF5 => ?_)
  have hG5 := hG3.tr hF5
  have hl5 : (List.set xs4 (nI p).toNatClampNeg b).length = 64 := by rw [List.length_set]; exact hl4
  generalize List.set xs4 (nI p).toNatClampNeg b = xs5 at hc5 hl5
  have hc1_v5 := (hne5 2 (by decide)).trans hc1_v3
  have hc3_v5 := (hne5 3 (by decide)).trans hc3
  refine J_aload_n (pc := 14) dX0_addStep_14 rfl rfl rfl ?_
  refine J_get (pc := 15) (k := 5) dX0_addStep_15 kC2 (by decide) ff_X0_27 hc1_v5 rfl ?_
  refine J_bipush (pc := 18) (v := nI 21) dX0_addStep_18 (by decide) ?_
  refine J_icmp_geN (pc := 20) (tgt := 43) dX0_addStep_20 (by decide) (by omega) (by omega) (fun ht6 => ?_) (fun hf7 => ?_)
  · exact J_vret (pc := 43) dX0_addStep_43 rfl (⟨hS5, hG5⟩)
  · refine J_aload_n (pc := 23) dX0_addStep_23 rfl rfl rfl ?_
    refine J_get (pc := 24) (k := 4) dX0_addStep_24 kC2 (by decide) ff_X0_24 hc1_v5 rfl ?_
    refine J_aload_n (pc := 27) dX0_addStep_27 rfl rfl rfl ?_
    refine J_get (pc := 28) (k := 5) dX0_addStep_28 kC2 (by decide) ff_X0_27 hc1_v5 rfl ?_
    refine J_iload_n (pc := 31) dX0_addStep_31 rfl rfl ?_
    obtain ⟨_, hc8, xs8, rfl, hl8⟩ := hS5 7 _ rfl
    refine J_iastS (pc := 32) kX dX0_addStep_32 hS5 hc8 (nI_in (by omega) (by omega)) rfl ⟨_, rfl, by rw [List.length_set]; exact hl8⟩ (by decide) (fun w9 hS9 hc9 hne9 hF9 => ?_)
    have hG9 := hG5.tr hF9
    have hl9 : (List.set xs8 (nI ka1).toNatClampNeg a).length = 21 := by rw [List.length_set]; exact hl8
    generalize List.set xs8 (nI ka1).toNatClampNeg a = xs9 at hc9 hl9
    have hc1_v9 := (hne9 2 (by decide)).trans hc1_v5
    have hc3_v9 := (hne9 3 (by decide)).trans hc3_v5
    have hc5_v9 := (hne9 4 (by decide)).trans hc5
    refine J_aload_n (pc := 33) dX0_addStep_33 rfl rfl rfl ?_
    refine J_dup (pc := 34) dX0_addStep_34 rfl ?_
    refine J_get (pc := 35) (k := 5) dX0_addStep_35 kC2 (by decide) ff_X0_27 hc1_v9 rfl ?_
    refine J_iconst (pc := 38) (v := nI 1) dX0_addStep_38 (by decide) ?_
    refine J_iaddN (pc := 39) dX0_addStep_39 ?_
    refine J_putS (pc := 40) (k := 5) kX dX0_addStep_40 kC2 (by decide) ff_X0_27 (Or.inl rfl) ⟨rfl, rfl⟩ hS9 hc1_v9 (Nat.le_of_ble_eq_true rfl) rfl ⟨(ka1 + 1), kf1, kb1, kg1, rfl, (by omega), (by omega)⟩ (by decide) (fun w10 hS10 hc10 hne10 hF10 => ?_)
    have hG10 := hG9.tr hF10
    have hc3_v10 := (hne10 3 (by decide)).trans hc3_v9
    have hc5_v10 := (hne10 4 (by decide)).trans hc5_v9
    have hc9_v10 := (hne10 7 (by decide)).trans hc9
    exact J_vret (pc := 43) dX0_addStep_43 rfl (⟨hS10, hG10⟩)
set_option maxRecDepth 100000 in
set_option maxHeartbeats 4000000 in
theorem c_X0_admit {X : jX} (hs : X.1.stackTraces = false) {d : Nat} (hd : 1 ≤ d) {n : Nat} {e r q : Int32} (hn1 : 2 ≤ n) (hn2 : n ≤ 7) {w : List jC} (hS : SH (rX n e r q) w) (a : Int32) {kc ks : Nat} : jMet X mX0_admit d kc ks [.ref 2, .int a] w (pI (fun v => ∃ k : Nat, v = nI k ∧ k < 2) (fun w' => rS n e r q w w')) := by
  refine jMet_of hs (by decide +kernel) (Nat.le_of_ble_eq_true rfl) (L := [some (.ref 2), some (.int a), none, none, none, none, none]) rfl ?_
  have hG : Fr kX w w := Fr.rf
  refine J_iload_n (pc := 0) dX0_admit_0 rfl rfl ?_
  refine J_istore_n (pc := 1) dX0_admit_1 rfl (by decide) rfl ?_
  show J X mX0_admit d kc ks 2 [some (.ref 2), some (.int a), some (.int a), none, none, none, none] [] w _
  refine J_iconst (pc := 2) (v := nI 0) dX0_admit_2 (by decide) ?_
  refine J_istore_n (pc := 3) dX0_admit_3 rfl (by decide) rfl ?_
  show J X mX0_admit d kc ks 4 [some (.ref 2), some (.int a), some (.int a), some (.int (nI 0)), none, none, none] [] w _
  have lp4_1 : ∀ (fuel : Nat) (w2 : List jC) (z2 : Int32) (c3 : Nat), SH (rX n e r q) w2 → Fr kX w w2 → c3 < 2147483648 → 7 - c3 < fuel → J X mX0_admit d kc ks 4 [some (.ref 2), some (.int a), some (.int z2), some (.int (nI c3)), none, none, none] [] w2 (pI (fun v => ∃ k : Nat, v = nI k ∧ k < 2) (fun w' => rS n e r q w w')) := by
    intro fuellp4_1
    induction fuellp4_1 with
    | zero => intros; omega
    | succ fuellp4_1 ihlp4_1 =>
      intro w2 z2 c3 hS3 hG4 hi5 hf6
      refine J_iload_n (pc := 4) dX0_admit_4 rfl rfl ?_
      refine J_aload_n (pc := 5) dX0_admit_5 rfl rfl rfl ?_
      obtain ⟨_, hc7, ka7, kf7, kb7, kg7, rfl, hb7_0, hb7_1⟩ := hS3 2 _ rfl
      refine J_get (pc := 6) (k := 8) dX0_admit_6 kC2 (by decide) ff_X0_38 hc7 rfl ?_
      refine J_icmp_geN (pc := 9) (tgt := 103) dX0_admit_9 (by decide) (by omega) (by omega) (fun ht8 => ?_) (fun hf9 => ?_)
      · refine J_iconst (pc := 103) (v := nI 0) dX0_admit_103 (by decide) ?_
        exact J_zret (pc := 104) dX0_admit_104 rfl (nar_b (by omega)) ⟨⟨0, rfl, by omega⟩, ⟨hS3, hG4⟩⟩
      · refine J_aload_n (pc := 12) dX0_admit_12 rfl rfl rfl ?_
        refine J_get (pc := 13) (k := 7) dX0_admit_13 kC2 (by decide) ff_X0_35 hc7 rfl ?_
        refine J_iload_n (pc := 16) dX0_admit_16 rfl rfl ?_
        refine J_callS0 (pc := 17) (M := mX0_admit) (as := [.int kg7, .int (nI c3)]) dX0_admit_17 fw_X2_goal fl_X0_41 fs_X2_goal rfl (c_X2_goal hs (d := d - 1) (by omega) (w := w2) kg7 (nI c3) (kc := 0) (ks := 0)) (by omega) (st := []) (Nat.le_of_ble_eq_true rfl) rfl (kr_P fun v10 hv10 => ?_) kx_I
        obtain ⟨k10, rfl, hk10⟩ := hv10
        refine J_istore (pc := 20) dX0_admit_20 (by decide) rfl ?_
        show J X mX0_admit d kc ks 22 [some (.ref 2), some (.int a), some (.int z2), some (.int (nI c3)), some (.int (nI k10)), none, none] [] w2 _
        refine J_iload_n (pc := 22) dX0_admit_22 rfl rfl ?_
        refine J_iload (pc := 23) dX0_admit_23 rfl ?_
        refine J_callS0 (pc := 25) (M := mX0_admit) (as := [.int z2, .int (nI k10)]) dX0_admit_25 fw_X2_goal fl_X0_41 fs_X2_goal rfl (c_X2_goal hs (d := d - 1) (by omega) (w := w2) z2 (nI k10) (kc := 0) (ks := 0)) (by omega) (st := []) (Nat.le_of_ble_eq_true rfl) rfl (kr_P fun v11 hv11 => ?_) kx_I
        obtain ⟨k11, rfl, hk11⟩ := hv11
        refine J_istore (pc := 28) dX0_admit_28 (by decide) rfl ?_
        show J X mX0_admit d kc ks 30 [some (.ref 2), some (.int a), some (.int z2), some (.int (nI c3)), some (.int (nI k10)), some (.int (nI k11)), none] [] w2 _
        refine J_iload_n (pc := 30) dX0_admit_30 rfl rfl ?_
        refine J_iload (pc := 31) dX0_admit_31 rfl ?_
        refine J_callS0 (pc := 33) (M := mX0_admit) (as := [.int (nI c3), .int (nI k11)]) dX0_admit_33 fw_X0_place fl_X0_45 fs_X0_place rfl (c_X0_place hs (d := d - 1) (by omega) (w := w2) c3 k11 (kc := 0) (ks := 0)) (by omega) (st := []) (Nat.le_of_ble_eq_true rfl) rfl (kr_P fun v12 hv12 => ?_) kx_I
        obtain ⟨k12, rfl, hk12⟩ := hv12
        refine J_istore (pc := 36) dX0_admit_36 (by decide) rfl ?_
        show J X mX0_admit d kc ks 38 [some (.ref 2), some (.int a), some (.int z2), some (.int (nI c3)), some (.int (nI k10)), some (.int (nI k11)), some (.int (nI k12))] [] w2 _
        refine J_aload_n (pc := 38) dX0_admit_38 rfl rfl rfl ?_
        refine J_get (pc := 39) (k := 2) dX0_admit_39 kC2 (by decide) ff_X0_18 hc7 rfl ?_
        refine J_iload_n (pc := 42) dX0_admit_42 rfl rfl ?_
        obtain ⟨_, hc13, xs13, rfl, hl13⟩ := hS3 5 _ rfl
        refine J_iald (pc := 43) dX0_admit_43 hc13 (nI_in (by omega) (by omega)) (J_absI fun x14 => ?_)
        refine J_iload (pc := 44) dX0_admit_44 rfl ?_
        refine J_callSN0 (pc := 46) (M := mX0_admit) (as := [.int x14, .int (nI k11)]) dX0_admit_46 fw_X6_has fl_X0_48 fs_X6_has rfl (c_X6_has hs (d := d - 1) (by omega) (w := w2) x14 (nI k11) (kc := 0) (ks := 0)) (by omega) (st := []) (Nat.le_of_ble_eq_true rfl) rfl (kr_P fun v15 hv15 => ?_) kx_I
        obtain ⟨k15, rfl, hk15⟩ := hv15
        refine J_if_neN (pc := 49) (tgt := 78) dX0_admit_49 (by decide) (by omega) (fun ht16 => ?_) (fun hf17 => ?_)
        · refine J_iload (pc := 78) dX0_admit_78 rfl ?_
          refine J_iload (pc := 80) dX0_admit_80 rfl ?_
          refine J_icmp_eqN (pc := 82) (tgt := 97) dX0_admit_82 (by decide) (by omega) (by omega) (fun ht18 => ?_) (fun hf19 => ?_)
          · refine J_iincN (pc := 97) (b := 1) dX0_admit_97 rfl (by decide) (by decide) rfl ?_
            show J X mX0_admit d kc ks 100 [some (.ref 2), some (.int a), some (.int z2), some (.int (nI (c3 + 1))), some (.int (nI k10)), some (.int (nI k11)), some (.int (nI k12))] [] w2 _
            refine J_goto (pc := 100) (tgt := 4) dX0_admit_100 (by decide) ?_
            exact J_sub (L' := [some (.ref 2), some (.int a), some (.int z2), some (.int (nI (c3 + 1))), none, none, none]) ⟨rfl, ⟨rfl, ⟨rfl, ⟨rfl, trivial⟩⟩⟩⟩ (ihlp4_1 w2 z2 (c3 + 1) hS3 hG4 (by first | assumption | omega) (by omega))
          · refine J_iload_n (pc := 85) dX0_admit_85 rfl rfl ?_
            refine J_aload_n (pc := 86) dX0_admit_86 rfl rfl rfl ?_
            refine J_get (pc := 87) (k := 1) dX0_admit_87 kC2 (by decide) ff_X0_15 hc7 rfl ?_
            refine J_iload (pc := 90) dX0_admit_90 rfl ?_
            obtain ⟨_, hc20, xs20, rfl, hl20⟩ := hS3 4 _ rfl
            refine J_iald (pc := 92) dX0_admit_92 hc20 (nI_in (by omega) (by omega)) (J_absI fun x21 => ?_)
            refine J_callS0 (pc := 93) (M := mX0_admit) (as := [.int z2, .int x21]) dX0_admit_93 fw_X2_both fl_X0_80 fs_X2_both rfl (c_X2_both hs (d := d - 1) (by omega) (w := w2) z2 x21 (kc := 0) (ks := 0)) (by omega) (st := []) (Nat.le_of_ble_eq_true rfl) rfl (kr_P fun v22 hv22 => ?_) kx_I
            refine J_istore_n (pc := 96) dX0_admit_96 rfl (by decide) rfl ?_
            show J X mX0_admit d kc ks 97 [some (.ref 2), some (.int a), some (.int v22), some (.int (nI c3)), some (.int (nI k10)), some (.int (nI k11)), some (.int (nI k12))] [] w2 _
            refine J_iincN (pc := 97) (b := 1) dX0_admit_97 rfl (by decide) (by decide) rfl ?_
            show J X mX0_admit d kc ks 100 [some (.ref 2), some (.int a), some (.int v22), some (.int (nI (c3 + 1))), some (.int (nI k10)), some (.int (nI k11)), some (.int (nI k12))] [] w2 _
            refine J_goto (pc := 100) (tgt := 4) dX0_admit_100 (by decide) ?_
            exact J_sub (L' := [some (.ref 2), some (.int a), some (.int v22), some (.int (nI (c3 + 1))), none, none, none]) ⟨rfl, ⟨rfl, ⟨rfl, ⟨rfl, trivial⟩⟩⟩⟩ (ihlp4_1 w2 v22 (c3 + 1) hS3 hG4 (by first | assumption | omega) (by omega))
        · refine J_aload_n (pc := 52) dX0_admit_52 rfl rfl rfl ?_
          refine J_get (pc := 53) (k := 2) dX0_admit_53 kC2 (by decide) ff_X0_18 hc7 rfl ?_
          refine J_iload_n (pc := 56) dX0_admit_56 rfl rfl ?_
          refine J_dup2 (pc := 57) dX0_admit_57 rfl rfl ?_
          refine J_iald (pc := 58) dX0_admit_58 hc13 (nI_in (by omega) (by omega)) (J_absI fun x23 => ?_)
          refine J_iconst (pc := 59) (v := nI 1) dX0_admit_59 (by decide) ?_
          refine J_iload (pc := 60) dX0_admit_60 rfl ?_
          refine J_ishl (pc := 62) dX0_admit_62 (J_absI fun x24 => ?_)
          refine J_ior (pc := 63) dX0_admit_63 (J_absI fun x25 => ?_)
          refine J_iastS (pc := 64) kX dX0_admit_64 hS3 hc13 (nI_in (by omega) (by omega)) rfl ⟨_, rfl, by rw [List.length_set]; exact hl13⟩ (by decide) (fun w26 hS26 hc26 hne26 hF26 => ?_)
          have hG26 := hG4.tr hF26
          have hl26 : (List.set xs13 (nI c3).toNatClampNeg x25).length = 8 := by rw [List.length_set]; exact hl13
          generalize List.set xs13 (nI c3).toNatClampNeg x25 = xs26 at hc26 hl26
          have hc7_v26 := (hne26 2 (by decide)).trans hc7
          refine J_aload_n (pc := 65) dX0_admit_65 rfl rfl rfl ?_
          refine J_iload (pc := 66) dX0_admit_66 rfl ?_
          refine J_iload_n (pc := 68) dX0_admit_68 rfl rfl ?_
          refine J_iload_n (pc := 69) dX0_admit_69 rfl rfl ?_
          refine J_callS0 (pc := 70) (M := mX0_admit) (as := [.int z2]) dX0_admit_70 fw_X2_undone fl_X0_89 fs_X2_undone rfl (c_X2_undone hs (d := d - 1) (by omega) (w := w26) z2 (kc := 0) (ks := 0)) (by omega) (st := [.int z2, .int (nI k12), .ref 2]) (Nat.le_of_ble_eq_true rfl) rfl (kr_P fun v27 hv27 => ?_) kx_I
          refine J_callV0 (pc := 73) (M := mX0_admit) (as := [.int (nI k12), .int z2, .int v27]) dX0_admit_73 fw_X0_addStep fl_X0_92 fm_X0_addStep fe_X0_addStep hc7_v26 (by decide) rfl rfl rfl (c_X0_addStep hs (d := d - 1) (by omega) (e := e) (r := r) (q := q) hn1 hn2 hS26 (w := w26) k12 z2 v27 (by omega) (kc := 0) (ks := 0)) (by omega) (st := []) (Nat.le_of_ble_eq_true rfl) rfl (kr_V fun w28 hw28 => ?_) kx_V
          obtain ⟨hS28, hF28⟩ := hw28
          have hG28 := hG26.tr hF28
          refine J_iconst (pc := 76) (v := nI 1) dX0_admit_76 (by decide) ?_
          exact J_zret (pc := 77) dX0_admit_77 rfl (nar_b (by omega)) ⟨⟨1, rfl, by omega⟩, ⟨hS28, hG28⟩⟩
  exact J_sub (L' := [some (.ref 2), some (.int a), some (.int a), some (.int (nI 0)), none, none, none]) ⟨rfl, ⟨rfl, ⟨rfl, ⟨rfl, trivial⟩⟩⟩⟩ (lp4_1 _ w a 0 hS hG (by first | assumption | omega) (Nat.lt_succ_self _))
set_option maxRecDepth 100000 in
set_option maxHeartbeats 4000000 in
theorem c_X0_close {X : jX} (hs : X.1.stackTraces = false) {d : Nat} (hd : 2 ≤ d) {n : Nat} {e r q : Int32} (hn1 : 2 ≤ n) (hn2 : n ≤ 7) {w : List jC} (hS : SH (rX n e r q) w) {kc ks : Nat} : jMet X mX0_close d kc ks [.ref 2] w (pV (fun w' => rS n e r q w w')) := by
  refine jMet_of hs (by decide +kernel) (Nat.le_of_ble_eq_true rfl) (L := [some (.ref 2), none, none]) rfl ?_
  have hG : Fr kX w w := Fr.rf
  refine J_iconst (pc := 0) (v := nI 0) dX0_close_0 (by decide) ?_
  refine J_istore_n (pc := 1) dX0_close_1 rfl (by decide) rfl ?_
  show J X mX0_close d kc ks 2 [some (.ref 2), some (.int (nI 0)), none] [] w _
  have lp2_1 : ∀ (fuel : Nat) (w2 : List jC) (c1 : Nat), SH (rX n e r q) w2 → Fr kX w w2 → c1 < 2147483648 → 21 - c1 < fuel → J X mX0_close d kc ks 2 [some (.ref 2), some (.int (nI c1)), none] [] w2 (pV (fun w' => rS n e r q w w')) := by
    intro fuellp2_1
    induction fuellp2_1 with
    | zero => intros; omega
    | succ fuellp2_1 ihlp2_1 =>
      intro w2 c1 hS3 hG4 hi5 hf6
      refine J_iload_n (pc := 2) dX0_close_2 rfl rfl ?_
      refine J_bipush (pc := 3) (v := nI 21) dX0_close_3 (by decide) ?_
      refine J_icmp_geN (pc := 5) (tgt := 75) dX0_close_5 (by decide) (by omega) (by omega) (fun ht7 => ?_) (fun hf8 => ?_)
      · exact J_vret (pc := 75) dX0_close_75 rfl (⟨hS3, hG4⟩)
      · refine J_iload_n (pc := 8) dX0_close_8 rfl rfl ?_
        refine J_aload_n (pc := 9) dX0_close_9 rfl rfl rfl ?_
        obtain ⟨_, hc9, ka9, kf9, kb9, kg9, rfl, hb9_0, hb9_1⟩ := hS3 2 _ rfl
        refine J_get (pc := 10) (k := 5) dX0_close_10 kC2 (by decide) ff_X0_27 hc9 rfl ?_
        refine J_icmp_geN (pc := 13) (tgt := 75) dX0_close_13 (by decide) (by omega) (by omega) (fun ht10 => ?_) (fun hf11 => ?_)
        · exact J_vret (pc := 75) dX0_close_75 rfl (⟨hS3, hG4⟩)
        · refine J_iconst (pc := 16) (v := nI 0) dX0_close_16 (by decide) ?_
          refine J_istore_n (pc := 17) dX0_close_17 rfl (by decide) rfl ?_
          show J X mX0_close d kc ks 18 [some (.ref 2), some (.int (nI c1)), some (.int (nI 0))] [] w2 _
          have lp18_12 : ∀ (fuel : Nat) (w13 : List jC) (c2 : Nat), SH (rX n e r q) w13 → Fr kX w w13 → c2 < 2147483648 → c1 + 1 - c2 < fuel → J X mX0_close d kc ks 18 [some (.ref 2), some (.int (nI c1)), some (.int (nI c2))] [] w13 (pV (fun w' => rS n e r q w w')) := by
            intro fuellp18_12
            induction fuellp18_12 with
            | zero => intros; omega
            | succ fuellp18_12 ihlp18_12 =>
              intro w13 c2 hS14 hG15 hi16 hf17
              refine J_iload_n (pc := 18) dX0_close_18 rfl rfl ?_
              refine J_iload_n (pc := 19) dX0_close_19 rfl rfl ?_
              refine J_icmp_gtN (pc := 20) (tgt := 69) dX0_close_20 (by decide) (by omega) (by omega) (fun ht18 => ?_) (fun hf19 => ?_)
              · refine J_iincN (pc := 69) (b := 1) dX0_close_69 rfl (by decide) (by decide) rfl ?_
                show J X mX0_close d kc ks 72 [some (.ref 2), some (.int (nI (c1 + 1))), some (.int (nI c2))] [] w13 _
                refine J_goto (pc := 72) (tgt := 2) dX0_close_72 (by decide) ?_
                exact J_sub (L' := [some (.ref 2), some (.int (nI (c1 + 1))), none]) ⟨rfl, ⟨rfl, trivial⟩⟩ (ihlp2_1 w13 (c1 + 1) hS14 hG15 (by first | assumption | omega) (by omega))
              · refine J_aload_n (pc := 23) dX0_close_23 rfl rfl rfl ?_
                refine J_aload_n (pc := 24) dX0_close_24 rfl rfl rfl ?_
                obtain ⟨_, hc20, ka20, kf20, kb20, kg20, rfl, hb20_0, hb20_1⟩ := hS14 2 _ rfl
                refine J_get (pc := 25) (k := 4) dX0_close_25 kC2 (by decide) ff_X0_24 hc20 rfl ?_
                refine J_iload_n (pc := 28) dX0_close_28 rfl rfl ?_
                obtain ⟨_, hc21, xs21, rfl, hl21⟩ := hS14 7 _ rfl
                refine J_iald (pc := 29) dX0_close_29 hc21 (nI_in (by omega) (by omega)) (J_absI fun x22 => ?_)
                refine J_aload_n (pc := 30) dX0_close_30 rfl rfl rfl ?_
                refine J_get (pc := 31) (k := 4) dX0_close_31 kC2 (by decide) ff_X0_24 hc20 rfl ?_
                refine J_iload_n (pc := 34) dX0_close_34 rfl rfl ?_
                refine J_iald (pc := 35) dX0_close_35 hc21 (nI_in (by omega) (by omega)) (J_absI fun x23 => ?_)
                refine J_callS0 (pc := 36) (M := mX0_close) (as := [.int x22, .int x23]) dX0_close_36 fw_X2_both fl_X0_80 fs_X2_both rfl (c_X2_both hs (d := d - 1) (by omega) (w := w13) x22 x23 (kc := 0) (ks := 0)) (by omega) (st := [.ref 2]) (Nat.le_of_ble_eq_true rfl) rfl (kr_P fun v24 hv24 => ?_) kx_I
                refine J_callV0 (pc := 39) (M := mX0_close) (as := [.int v24]) dX0_close_39 fw_X0_admit fl_X0_54 fm_X0_admit fe_X0_admit hc20 (by decide) rfl rfl rfl (c_X0_admit hs (d := d - 1) (by omega) (e := e) (r := r) (q := q) hn1 hn2 hS14 (w := w13) v24 (kc := 0) (ks := 0)) (by omega) (st := []) (Nat.le_of_ble_eq_true rfl) rfl (kr_I fun v25 w25 hv25 hw25 => ?_) kx_I
                obtain ⟨k25, rfl, hk25⟩ := hv25
                obtain ⟨hS25, hF25⟩ := hw25
                have hG25 := hG15.tr hF25
                refine J_pop (pc := 42) dX0_close_42 rfl ?_
                refine J_aload_n (pc := 43) dX0_close_43 rfl rfl rfl ?_
                refine J_aload_n (pc := 44) dX0_close_44 rfl rfl rfl ?_
                obtain ⟨_, hc26, ka26, kf26, kb26, kg26, rfl, hb26_0, hb26_1⟩ := hS25 2 _ rfl
                refine J_get (pc := 45) (k := 4) dX0_close_45 kC2 (by decide) ff_X0_24 hc26 rfl ?_
                refine J_iload_n (pc := 48) dX0_close_48 rfl rfl ?_
                obtain ⟨_, hc27, xs27, rfl, hl27⟩ := hS25 7 _ rfl
                refine J_iald (pc := 49) dX0_close_49 hc27 (nI_in (by omega) (by omega)) (J_absI fun x28 => ?_)
                refine J_aload_n (pc := 50) dX0_close_50 rfl rfl rfl ?_
                refine J_get (pc := 51) (k := 4) dX0_close_51 kC2 (by decide) ff_X0_24 hc26 rfl ?_
                refine J_iload_n (pc := 54) dX0_close_54 rfl rfl ?_
                refine J_iald (pc := 55) dX0_close_55 hc27 (nI_in (by omega) (by omega)) (J_absI fun x29 => ?_)
                refine J_callS0 (pc := 56) (M := mX0_close) (as := [.int x28, .int x29]) dX0_close_56 fw_X2_both fl_X0_80 fs_X2_both rfl (c_X2_both hs (d := d - 1) (by omega) (w := w25) x28 x29 (kc := 0) (ks := 0)) (by omega) (st := [.ref 2]) (Nat.le_of_ble_eq_true rfl) rfl (kr_P fun v30 hv30 => ?_) kx_I
                refine J_callV0 (pc := 59) (M := mX0_close) (as := [.int v30]) dX0_close_59 fw_X0_admit fl_X0_54 fm_X0_admit fe_X0_admit hc26 (by decide) rfl rfl rfl (c_X0_admit hs (d := d - 1) (by omega) (e := e) (r := r) (q := q) hn1 hn2 hS25 (w := w25) v30 (kc := 0) (ks := 0)) (by omega) (st := []) (Nat.le_of_ble_eq_true rfl) rfl (kr_I fun v31 w31 hv31 hw31 => ?_) kx_I
                obtain ⟨k31, rfl, hk31⟩ := hv31
                obtain ⟨hS31, hF31⟩ := hw31
                have hG31 := hG25.tr hF31
                refine J_pop (pc := 62) dX0_close_62 rfl ?_
                refine J_iincN (pc := 63) (b := 1) dX0_close_63 rfl (by decide) (by decide) rfl ?_
                show J X mX0_close d kc ks 66 [some (.ref 2), some (.int (nI c1)), some (.int (nI (c2 + 1)))] [] w31 _
                refine J_goto (pc := 66) (tgt := 18) dX0_close_66 (by decide) ?_
                exact J_sub (L' := [some (.ref 2), some (.int (nI c1)), some (.int (nI (c2 + 1)))]) ⟨rfl, ⟨rfl, ⟨rfl, trivial⟩⟩⟩ (ihlp18_12 w31 (c2 + 1) hS31 hG31 (by first | assumption | omega) (by omega))
          exact J_sub (L' := [some (.ref 2), some (.int (nI c1)), some (.int (nI 0))]) ⟨rfl, ⟨rfl, ⟨rfl, trivial⟩⟩⟩ (lp18_12 _ w2 0 hS3 hG4 (by first | assumption | omega) (Nat.lt_succ_self _))
  exact J_sub (L' := [some (.ref 2), some (.int (nI 0)), none]) ⟨rfl, ⟨rfl, trivial⟩⟩ (lp2_1 _ w 0 hS hG (by first | assumption | omega) (Nat.lt_succ_self _))
set_option maxRecDepth 100000 in
set_option maxHeartbeats 4000000 in
theorem c_X0_measure {X : jX} (hs : X.1.stackTraces = false) {d : Nat} (hd : 1 ≤ d) {n : Nat} {e r q : Int32} (hn1 : 2 ≤ n) (hn2 : n ≤ 7) {w : List jC} (hS : SH (rX n e r q) w) {kc ks : Nat} : jMet X mX0_measure d kc ks [.ref 2] w (pV (fun w' => rS n e r q w w')) := by
  refine jMet_of hs (by decide +kernel) (Nat.le_of_ble_eq_true rfl) (L := [some (.ref 2), none]) rfl ?_
  have hG : Fr kX w w := Fr.rf
  refine J_aload_n (pc := 0) dX0_measure_0 rfl rfl rfl ?_
  obtain ⟨_, hc1, ka1, kf1, kb1, kg1, rfl, hb1_0, hb1_1⟩ := hS 2 _ rfl
  refine J_get (pc := 1) (k := 3) dX0_measure_1 kC2 (by decide) ff_X0_21 hc1 rfl ?_
  refine J_aload_n (pc := 4) dX0_measure_4 rfl rfl rfl ?_
  refine J_get (pc := 5) (k := 8) dX0_measure_5 kC2 (by decide) ff_X0_38 hc1 rfl ?_
  refine J_iconst (pc := 8) (v := nI 1) dX0_measure_8 (by decide) ?_
  obtain ⟨_, hc2, xs2, rfl, hl2⟩ := hS 6 _ rfl
  refine J_iastS (pc := 9) kX dX0_measure_9 hS hc2 (nI_in (by omega) (by omega)) rfl ⟨_, rfl, by rw [List.length_set]; exact hl2⟩ (by decide) (fun w3 hS3 hc3 hne3 hF3 => ?_)
  have hG3 := hG.tr hF3
  have hl3 : (List.set xs2 (nI kf1).toNatClampNeg (nI 1)).length = 8 := by rw [List.length_set]; exact hl2
  generalize List.set xs2 (nI kf1).toNatClampNeg (nI 1) = xs3 at hc3 hl3
  have hc1_v3 := (hne3 2 (by decide)).trans hc1
  refine J_aload_n (pc := 10) dX0_measure_10 rfl rfl rfl ?_
  refine J_get (pc := 11) (k := 8) dX0_measure_11 kC2 (by decide) ff_X0_38 hc1_v3 rfl ?_
  refine J_iconst (pc := 14) (v := nI 1) dX0_measure_14 (by decide) ?_
  refine J_isubM (pc := 15) dX0_measure_15 ?_
  refine J_istore_n (pc := 16) dX0_measure_16 rfl (by decide) rfl ?_
  show J X mX0_measure d kc ks 17 [some (.ref 2), some (.int (nI kf1 + Int32.ofInt (-1)))] [] w3 _
  have lp17_4 : ∀ (fuel : Nat) (w5 : List jC) (c1 : Nat), SH (rX n e r q) w5 → Fr kX w w5 → c1 ≤ 7 → c1 < fuel → J X mX0_measure d kc ks 17 [some (.ref 2), some (.int (nI c1 + Int32.ofInt (-1)))] [] w5 (pV (fun w' => rS n e r q w w')) := by
    intro fuellp17_4
    induction fuellp17_4 with
    | zero => intros; omega
    | succ fuellp17_4 ihlp17_4 =>
      intro w5 c1 hS6 hG7 hi8 hf9
      refine J_iload_n (pc := 17) dX0_measure_17 rfl rfl ?_
      refine J_if_ltM (pc := 18) (tgt := 51) dX0_measure_18 (by decide) (by omega) (fun ht10 => ?_) (fun hf11 => ?_)
      · exact J_vret (pc := 51) dX0_measure_51 rfl (⟨hS6, hG7⟩)
      · rw [nI_m1 hf11]
        refine J_aload_n (pc := 21) dX0_measure_21 rfl rfl rfl ?_
        obtain ⟨_, hc12, ka12, kf12, kb12, kg12, rfl, hb12_0, hb12_1⟩ := hS6 2 _ rfl
        refine J_get (pc := 22) (k := 3) dX0_measure_22 kC2 (by decide) ff_X0_21 hc12 rfl ?_
        refine J_iload_n (pc := 25) dX0_measure_25 rfl rfl ?_
        refine J_aload_n (pc := 26) dX0_measure_26 rfl rfl rfl ?_
        refine J_get (pc := 27) (k := 3) dX0_measure_27 kC2 (by decide) ff_X0_21 hc12 rfl ?_
        refine J_iload_n (pc := 30) dX0_measure_30 rfl rfl ?_
        refine J_iconst (pc := 31) (v := nI 1) dX0_measure_31 (by decide) ?_
        refine J_iaddN (pc := 32) dX0_measure_32 ?_
        obtain ⟨_, hc13, xs13, rfl, hl13⟩ := hS6 6 _ rfl
        refine J_iald (pc := 33) dX0_measure_33 hc13 (nI_in (by omega) (by omega)) (J_absI fun x14 => ?_)
        refine J_aload_n (pc := 34) dX0_measure_34 rfl rfl rfl ?_
        refine J_get (pc := 35) (k := 2) dX0_measure_35 kC2 (by decide) ff_X0_18 hc12 rfl ?_
        refine J_iload_n (pc := 38) dX0_measure_38 rfl rfl ?_
        obtain ⟨_, hc15, xs15, rfl, hl15⟩ := hS6 5 _ rfl
        refine J_iald (pc := 39) dX0_measure_39 hc15 (nI_in (by omega) (by omega)) (J_absI fun x16 => ?_)
        refine J_callS0 (pc := 40) (M := mX0_measure) (as := [.int x16]) dX0_measure_40 fw_J6_bitCount_0f7a4 fl_X0_96 fs_J6_bitCount_0f7a4 rfl (c_J6_bitCount_0f7a4 hs (d := d - 1) (by omega) (w := w5) x16 (kc := 0) (ks := 0)) (by omega) (st := [.int x14, .int (nI (c1 - 1)), .ref 6]) (Nat.le_of_ble_eq_true rfl) rfl (kr_P fun v17 hv17 => ?_) kx_I
        obtain ⟨k17, rfl, hk17⟩ := hv17
        refine J_imul (pc := 43) dX0_measure_43 (J_absI fun x18 => ?_)
        refine J_iastS (pc := 44) kX dX0_measure_44 hS6 hc13 (nI_in (by omega) (by omega)) rfl ⟨_, rfl, by rw [List.length_set]; exact hl13⟩ (by decide) (fun w19 hS19 hc19 hne19 hF19 => ?_)
        have hG19 := hG7.tr hF19
        have hl19 : (List.set xs13 (nI (c1 - 1)).toNatClampNeg x18).length = 8 := by rw [List.length_set]; exact hl13
        generalize List.set xs13 (nI (c1 - 1)).toNatClampNeg x18 = xs19 at hc19 hl19
        have hc12_v19 := (hne19 2 (by decide)).trans hc12
        have hc15_v19 := (hne19 5 (by decide)).trans hc15
        refine J_iinc (pc := 45) dX0_measure_45 rfl rfl (by decide) rfl ?_
        show J X mX0_measure d kc ks 48 [some (.ref 2), some (.int (nI (c1 - 1) + Int32.ofInt (-1)))] [] w19 _
        refine J_goto (pc := 48) (tgt := 17) dX0_measure_48 (by decide) ?_
        exact J_sub (L' := [some (.ref 2), some (.int (nI (c1 - 1) + Int32.ofInt (-1)))]) ⟨rfl, ⟨rfl, trivial⟩⟩ (ihlp17_4 w19 (c1 - 1) hS19 hG19 (by first | assumption | omega) (by omega))
  exact J_sub (L' := [some (.ref 2), some (.int (nI kf1 + Int32.ofInt (-1)))]) ⟨rfl, ⟨rfl, trivial⟩⟩ (lp17_4 _ w3 kf1 hS3 hG3 (by first | assumption | omega) (Nat.lt_succ_self _))
set_option maxRecDepth 100000 in
set_option maxHeartbeats 4000000 in
theorem c_X0_raise {X : jX} (hs : X.1.stackTraces = false) {d : Nat} (hd : 3 ≤ d) {n : Nat} {e r q : Int32} (hn1 : 2 ≤ n) (hn2 : n ≤ 7) {w : List jC} (hS : SH (rX n e r q) w) (a : Int32) (b : Int32) {kc ks : Nat} : jMet X mX0_raise d kc ks [.ref 2, .ref 1, .int a, .int b, .int (nI n)] w (pV (fun w' => rS n e r q w w')) := by
  refine jMet_of hs (by decide +kernel) (Nat.le_of_ble_eq_true rfl) (L := [some (.ref 2), some (.ref 1), some (.int a), some (.int b), some (.int (nI n)), none, none]) rfl ?_
  have hG : Fr kX w w := Fr.rf
  refine J_aload_n (pc := 0) dX0_raise_0 rfl rfl rfl ?_
  refine J_iload (pc := 1) dX0_raise_1 rfl ?_
  obtain ⟨_, hc1, ka1, kf1, kb1, kg1, rfl, hb1_0, hb1_1⟩ := hS 2 _ rfl
  refine J_putS (pc := 3) (k := 8) kX dX0_raise_3 kC2 (by decide) ff_X0_38 (Or.inl rfl) ⟨rfl, rfl⟩ hS hc1 (Nat.le_of_ble_eq_true rfl) rfl ⟨ka1, n, kb1, kg1, rfl, (by omega), (by omega)⟩ (by decide) (fun w2 hS2 hc2 hne2 hF2 => ?_)
  have hG2 := hG.tr hF2
  refine J_aload_n (pc := 6) dX0_raise_6 rfl rfl rfl ?_
  refine J_iload_n (pc := 7) dX0_raise_7 rfl rfl ?_
  refine J_putS (pc := 8) (k := 7) kX dX0_raise_8 kC2 (by decide) ff_X0_35 (Or.inl rfl) ⟨rfl, rfl⟩ hS2 hc2 (Nat.le_of_ble_eq_true rfl) rfl ⟨ka1, n, kb1, b, rfl, (by omega), (by omega)⟩ (by decide) (fun w3 hS3 hc3 hne3 hF3 => ?_)
  have hG3 := hG2.tr hF3
  refine J_aload_n (pc := 11) dX0_raise_11 rfl rfl rfl ?_
  refine J_iconst (pc := 12) (v := nI 0) dX0_raise_12 (by decide) ?_
  refine J_putS (pc := 13) (k := 5) kX dX0_raise_13 kC2 (by decide) ff_X0_27 (Or.inl rfl) ⟨rfl, rfl⟩ hS3 hc3 (Nat.le_of_ble_eq_true rfl) rfl ⟨0, n, kb1, b, rfl, (by omega), (by omega)⟩ (by decide) (fun w4 hS4 hc4 hne4 hF4 => ?_)
  have hG4 := hG3.tr hF4
  refine J_aload_n (pc := 16) dX0_raise_16 rfl rfl rfl ?_
  refine J_iconst (pc := 17) (v := nI 0) dX0_raise_17 (by decide) ?_
  refine J_putS (pc := 18) (k := 6) kX dX0_raise_18 kC2 (by decide) ff_X0_31 (Or.inl rfl) ⟨rfl, rfl⟩ hS4 hc4 (Nat.le_of_ble_eq_true rfl) rfl ⟨0, n, (nI 0), b, rfl, (by omega), (by omega)⟩ (by decide) (fun w5 hS5 hc5 hne5 hF5 => ?_)
  have hG5 := hG4.tr hF5
  refine J_iconst (pc := 21) (v := nI 0) dX0_raise_21 (by decide) ?_
  refine J_istore (pc := 22) dX0_raise_22 (by decide) rfl ?_
  show J X mX0_raise d kc ks 24 [some (.ref 2), some (.ref 1), some (.int a), some (.int b), some (.int (nI n)), some (.int (nI 0)), none] [] w5 _
  have lp24_6 : ∀ (fuel : Nat) (w7 : List jC) (c5 : Nat), SH (rX n e r q) w7 → Fr kX w w7 → c5 < 2147483648 → 7 - c5 < fuel → J X mX0_raise d kc ks 24 [some (.ref 2), some (.ref 1), some (.int a), some (.int b), some (.int (nI n)), some (.int (nI c5)), none] [] w7 (pV (fun w' => rS n e r q w w')) := by
    intro fuellp24_6
    induction fuellp24_6 with
    | zero => intros; omega
    | succ fuellp24_6 ihlp24_6 =>
      intro w7 c5 hS8 hG9 hi10 hf11
      refine J_iload (pc := 24) dX0_raise_24 rfl ?_
      refine J_aload_n (pc := 26) dX0_raise_26 rfl rfl rfl ?_
      obtain ⟨_, hc12, ka12, kf12, kb12, kg12, rfl, hb12_0, hb12_1⟩ := hS8 2 _ rfl
      refine J_get (pc := 27) (k := 8) dX0_raise_27 kC2 (by decide) ff_X0_38 hc12 rfl ?_
      refine J_icmp_geN (pc := 30) (tgt := 75) dX0_raise_30 (by decide) (by omega) (by omega) (fun ht13 => ?_) (fun hf14 => ?_)
      · refine J_iconst (pc := 75) (v := nI 0) dX0_raise_75 (by decide) ?_
        refine J_istore (pc := 76) dX0_raise_76 (by decide) rfl ?_
        show J X mX0_raise d kc ks 78 [some (.ref 2), some (.ref 1), some (.int a), some (.int b), some (.int (nI n)), some (.int (nI 0)), none] [] w7 _
        have lp78_15 : ∀ (fuel : Nat) (w16 : List jC) (c5 : Nat), SH (rX n e r q) w16 → Fr kX w w16 → c5 < 2147483648 → 6 - c5 < fuel → J X mX0_raise d kc ks 78 [some (.ref 2), some (.ref 1), some (.int a), some (.int b), some (.int (nI n)), some (.int (nI c5)), none] [] w16 (pV (fun w' => rS n e r q w w')) := by
          intro fuellp78_15
          induction fuellp78_15 with
          | zero => intros; omega
          | succ fuellp78_15 ihlp78_15 =>
            intro w16 c5 hS17 hG18 hi19 hf20
            refine J_iload (pc := 78) dX0_raise_78 rfl ?_
            refine J_aload_n (pc := 80) dX0_raise_80 rfl rfl rfl ?_
            obtain ⟨_, hc21, xs21, rfl, hl21⟩ := hS17 1 _ rfl
            refine J_alen (pc := 81) (n := nI 6) dX0_raise_81 hc21 (by decide) (by rw [hl21]; rfl) ?_
            refine J_icmp_geN (pc := 82) (tgt := 128) dX0_raise_82 (by decide) (by omega) (by omega) (fun ht22 => ?_) (fun hf23 => ?_)
            · refine J_aload_n (pc := 128) dX0_raise_128 rfl rfl rfl ?_
              obtain ⟨_, hc25, ka25, kf25, kb25, kg25, rfl, hb25_0, hb25_1⟩ := hS17 2 _ rfl
              refine J_callV0 (pc := 129) (M := mX0_raise) (as := []) dX0_raise_129 fw_X0_measure fl_X0_61 fm_X0_measure fe_X0_measure hc25 (by decide) rfl rfl rfl (c_X0_measure hs (d := d - 1) (by omega) (e := e) (r := r) (q := q) hn1 hn2 hS17 (w := w16)  (kc := 0) (ks := 0)) (by omega) (st := []) (Nat.le_of_ble_eq_true rfl) rfl (kr_V fun w24 hw24 => ?_) kx_V
              obtain ⟨hS24, hF24⟩ := hw24
              have hG24 := hG18.tr hF24
              exact J_vret (pc := 132) dX0_raise_132 rfl (⟨hS24, hG24⟩)
            · refine J_iload_n (pc := 85) dX0_raise_85 rfl rfl ?_
              refine J_iload (pc := 86) dX0_raise_86 rfl ?_
              refine J_callSN0 (pc := 88) (M := mX0_raise) (as := [.int a, .int (nI c5)]) dX0_raise_88 fw_X6_has fl_X0_48 fs_X6_has rfl (c_X6_has hs (d := d - 1) (by omega) (w := w16) a (nI c5) (kc := 0) (ks := 0)) (by omega) (st := []) (Nat.le_of_ble_eq_true rfl) rfl (kr_P fun v26 hv26 => ?_) kx_I
              obtain ⟨k26, rfl, hk26⟩ := hv26
              refine J_if_eqN (pc := 91) (tgt := 122) dX0_raise_91 (by decide) (by omega) (fun ht27 => ?_) (fun hf28 => ?_)
              · refine J_iincN (pc := 122) (b := 1) dX0_raise_122 rfl (by decide) (by decide) rfl ?_
                show J X mX0_raise d kc ks 125 [some (.ref 2), some (.ref 1), some (.int a), some (.int b), some (.int (nI n)), some (.int (nI (c5 + 1))), none] [] w16 _
                refine J_goto (pc := 125) (tgt := 78) dX0_raise_125 (by decide) ?_
                exact J_sub (L' := [some (.ref 2), some (.ref 1), some (.int a), some (.int b), some (.int (nI n)), some (.int (nI (c5 + 1))), none]) ⟨rfl, ⟨rfl, ⟨rfl, ⟨rfl, ⟨rfl, ⟨rfl, trivial⟩⟩⟩⟩⟩⟩ (ihlp78_15 w16 (c5 + 1) hS17 hG18 (by first | assumption | omega) (by omega))
              · refine J_aload_n (pc := 94) dX0_raise_94 rfl rfl rfl ?_
                refine J_aload_n (pc := 95) dX0_raise_95 rfl rfl rfl ?_
                refine J_iload (pc := 96) dX0_raise_96 rfl ?_
                refine J_iald (pc := 98) dX0_raise_98 hc21 (nI_in (by omega) (by omega)) (J_absI fun x29 => ?_)
                obtain ⟨_, hc31, ka31, kf31, kb31, kg31, rfl, hb31_0, hb31_1⟩ := hS17 2 _ rfl
                refine J_callV0 (pc := 99) (M := mX0_raise) (as := [.int x29]) dX0_raise_99 fw_X0_admit fl_X0_54 fm_X0_admit fe_X0_admit hc31 (by decide) rfl rfl rfl (c_X0_admit hs (d := d - 1) (by omega) (e := e) (r := r) (q := q) hn1 hn2 hS17 (w := w16) x29 (kc := 0) (ks := 0)) (by omega) (st := []) (Nat.le_of_ble_eq_true rfl) rfl (kr_I fun v30 w30 hv30 hw30 => ?_) kx_I
                obtain ⟨k30, rfl, hk30⟩ := hv30
                obtain ⟨hS30, hF30⟩ := hw30
                have hG30 := hG18.tr hF30
                refine J_if_eqN (pc := 102) (tgt := 122) dX0_raise_102 (by decide) (by omega) (fun ht32 => ?_) (fun hf33 => ?_)
                · refine J_iincN (pc := 122) (b := 1) dX0_raise_122 rfl (by decide) (by decide) rfl ?_
                  show J X mX0_raise d kc ks 125 [some (.ref 2), some (.ref 1), some (.int a), some (.int b), some (.int (nI n)), some (.int (nI (c5 + 1))), none] [] w30 _
                  refine J_goto (pc := 125) (tgt := 78) dX0_raise_125 (by decide) ?_
                  exact J_sub (L' := [some (.ref 2), some (.ref 1), some (.int a), some (.int b), some (.int (nI n)), some (.int (nI (c5 + 1))), none]) ⟨rfl, ⟨rfl, ⟨rfl, ⟨rfl, ⟨rfl, ⟨rfl, trivial⟩⟩⟩⟩⟩⟩ (ihlp78_15 w30 (c5 + 1) hS30 hG30 (by first | assumption | omega) (by omega))
                · refine J_aload_n (pc := 105) dX0_raise_105 rfl rfl rfl ?_
                  refine J_dup (pc := 106) dX0_raise_106 rfl ?_
                  obtain ⟨_, hc34, ka34, kf34, kb34, kg34, rfl, hb34_0, hb34_1⟩ := hS30 2 _ rfl
                  refine J_get (pc := 107) (k := 6) dX0_raise_107 kC2 (by decide) ff_X0_31 hc34 rfl ?_
                  refine J_iconst (pc := 110) (v := nI 1) dX0_raise_110 (by decide) ?_
                  refine J_iload (pc := 111) dX0_raise_111 rfl ?_
                  refine J_ishl (pc := 113) dX0_raise_113 (J_absI fun x35 => ?_)
                  refine J_ior (pc := 114) dX0_raise_114 (J_absI fun x36 => ?_)
                  refine J_putS (pc := 115) (k := 6) kX dX0_raise_115 kC2 (by decide) ff_X0_31 (Or.inl rfl) ⟨rfl, rfl⟩ hS30 hc34 (Nat.le_of_ble_eq_true rfl) rfl ⟨ka34, kf34, x36, kg34, rfl, (by omega), (by omega)⟩ (by decide) (fun w37 hS37 hc37 hne37 hF37 => ?_)
                  have hG37 := hG30.tr hF37
                  refine J_aload_n (pc := 118) dX0_raise_118 rfl rfl rfl ?_
                  refine J_callV0 (pc := 119) (M := mX0_raise) (as := []) dX0_raise_119 fw_X0_close fl_X0_58 fm_X0_close fe_X0_close hc37 (by decide) rfl rfl rfl (c_X0_close hs (d := d - 1) (by omega) (e := e) (r := r) (q := q) hn1 hn2 hS37 (w := w37)  (kc := 0) (ks := 0)) (by omega) (st := []) (Nat.le_of_ble_eq_true rfl) rfl (kr_V fun w38 hw38 => ?_) kx_V
                  obtain ⟨hS38, hF38⟩ := hw38
                  have hG38 := hG37.tr hF38
                  refine J_iincN (pc := 122) (b := 1) dX0_raise_122 rfl (by decide) (by decide) rfl ?_
                  show J X mX0_raise d kc ks 125 [some (.ref 2), some (.ref 1), some (.int a), some (.int b), some (.int (nI n)), some (.int (nI (c5 + 1))), none] [] w38 _
                  refine J_goto (pc := 125) (tgt := 78) dX0_raise_125 (by decide) ?_
                  exact J_sub (L' := [some (.ref 2), some (.ref 1), some (.int a), some (.int b), some (.int (nI n)), some (.int (nI (c5 + 1))), none]) ⟨rfl, ⟨rfl, ⟨rfl, ⟨rfl, ⟨rfl, ⟨rfl, trivial⟩⟩⟩⟩⟩⟩ (ihlp78_15 w38 (c5 + 1) hS38 hG38 (by first | assumption | omega) (by omega))
        exact J_sub (L' := [some (.ref 2), some (.ref 1), some (.int a), some (.int b), some (.int (nI n)), some (.int (nI 0)), none]) ⟨rfl, ⟨rfl, ⟨rfl, ⟨rfl, ⟨rfl, ⟨rfl, trivial⟩⟩⟩⟩⟩⟩ (lp78_15 _ w7 0 hS8 hG9 (by first | assumption | omega) (Nat.lt_succ_self _))
      · refine J_aload_n (pc := 33) dX0_raise_33 rfl rfl rfl ?_
        refine J_get (pc := 34) (k := 7) dX0_raise_34 kC2 (by decide) ff_X0_35 hc12 rfl ?_
        refine J_iload (pc := 37) dX0_raise_37 rfl ?_
        refine J_callS0 (pc := 39) (M := mX0_raise) (as := [.int kg12, .int (nI c5)]) dX0_raise_39 fw_X2_goal fl_X0_41 fs_X2_goal rfl (c_X2_goal hs (d := d - 1) (by omega) (w := w7) kg12 (nI c5) (kc := 0) (ks := 0)) (by omega) (st := []) (Nat.le_of_ble_eq_true rfl) rfl (kr_P fun v39 hv39 => ?_) kx_I
        obtain ⟨k39, rfl, hk39⟩ := hv39
        refine J_istore (pc := 42) dX0_raise_42 (by decide) rfl ?_
        show J X mX0_raise d kc ks 44 [some (.ref 2), some (.ref 1), some (.int a), some (.int b), some (.int (nI n)), some (.int (nI c5)), some (.int (nI k39))] [] w7 _
        refine J_aload_n (pc := 44) dX0_raise_44 rfl rfl rfl ?_
        refine J_get (pc := 45) (k := 2) dX0_raise_45 kC2 (by decide) ff_X0_18 hc12 rfl ?_
        refine J_iload (pc := 48) dX0_raise_48 rfl ?_
        refine J_iconst (pc := 50) (v := nI 1) dX0_raise_50 (by decide) ?_
        refine J_iload (pc := 51) dX0_raise_51 rfl ?_
        refine J_ishl (pc := 53) dX0_raise_53 (J_absI fun x40 => ?_)
        obtain ⟨_, hc41, xs41, rfl, hl41⟩ := hS8 5 _ rfl
        refine J_iastS (pc := 54) kX dX0_raise_54 hS8 hc41 (nI_in (by omega) (by omega)) rfl ⟨_, rfl, by rw [List.length_set]; exact hl41⟩ (by decide) (fun w42 hS42 hc42 hne42 hF42 => ?_)
        have hG42 := hG9.tr hF42
        have hl42 : (List.set xs41 (nI c5).toNatClampNeg x40).length = 8 := by rw [List.length_set]; exact hl41
        generalize List.set xs41 (nI c5).toNatClampNeg x40 = xs42 at hc42 hl42
        have hc12_v42 := (hne42 2 (by decide)).trans hc12
        refine J_aload_n (pc := 55) dX0_raise_55 rfl rfl rfl ?_
        refine J_get (pc := 56) (k := 0) dX0_raise_56 kC2 (by decide) ff_X0_9 hc12_v42 rfl ?_
        refine J_iload (pc := 59) dX0_raise_59 rfl ?_
        refine J_iload (pc := 61) dX0_raise_61 rfl ?_
        refine J_callS0 (pc := 63) (M := mX0_raise) (as := [.int (nI c5), .int (nI k39)]) dX0_raise_63 fw_X0_place fl_X0_45 fs_X0_place rfl (c_X0_place hs (d := d - 1) (by omega) (w := w42) c5 k39 (kc := 0) (ks := 0)) (by omega) (st := [.ref 3]) (Nat.le_of_ble_eq_true rfl) rfl (kr_P fun v43 hv43 => ?_) kx_I
        obtain ⟨k43, rfl, hk43⟩ := hv43
        refine J_ldc (pc := 66) (v := nI 1754760) dX0_raise_66 (by have := fk_X0_34; exact this) ?_
        obtain ⟨_, hc44, xs44, rfl, hl44⟩ := hS42 3 _ rfl
        refine J_iastS (pc := 68) kX dX0_raise_68 hS42 hc44 (nI_in (by omega) (by omega)) rfl ⟨_, rfl, by rw [List.length_set]; exact hl44⟩ (by decide) (fun w45 hS45 hc45 hne45 hF45 => ?_)
        have hG45 := hG42.tr hF45
        have hl45 : (List.set xs44 (nI k43).toNatClampNeg (nI 1754760)).length = 64 := by rw [List.length_set]; exact hl44
        generalize List.set xs44 (nI k43).toNatClampNeg (nI 1754760) = xs45 at hc45 hl45
        have hc12_v45 := (hne45 2 (by decide)).trans hc12_v42
        have hc42_v45 := (hne45 5 (by decide)).trans hc42
        refine J_iincN (pc := 69) (b := 1) dX0_raise_69 rfl (by decide) (by decide) rfl ?_
        show J X mX0_raise d kc ks 72 [some (.ref 2), some (.ref 1), some (.int a), some (.int b), some (.int (nI n)), some (.int (nI (c5 + 1))), some (.int (nI k39))] [] w45 _
        refine J_goto (pc := 72) (tgt := 24) dX0_raise_72 (by decide) ?_
        exact J_sub (L' := [some (.ref 2), some (.ref 1), some (.int a), some (.int b), some (.int (nI n)), some (.int (nI (c5 + 1))), none]) ⟨rfl, ⟨rfl, ⟨rfl, ⟨rfl, ⟨rfl, ⟨rfl, trivial⟩⟩⟩⟩⟩⟩ (ihlp24_6 w45 (c5 + 1) hS45 hG45 (by first | assumption | omega) (by omega))
  exact J_sub (L' := [some (.ref 2), some (.ref 1), some (.int a), some (.int b), some (.int (nI n)), some (.int (nI 0)), none]) ⟨rfl, ⟨rfl, ⟨rfl, ⟨rfl, ⟨rfl, ⟨rfl, trivial⟩⟩⟩⟩⟩⟩ (lp24_6 _ w5 0 hS5 hG5 (by first | assumption | omega) (Nat.lt_succ_self _))
