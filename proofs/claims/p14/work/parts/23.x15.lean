/-! contracts of the class -/
set_option maxRecDepth 100000 in
set_option maxHeartbeats 4000000 in
theorem c_X6_ranksAgree {X : jX} (hs : X.1.stackTraces = false) {d : Nat} (hd : 4 ≤ d) {n : Nat} {e r q : Int32} (hn1 : 2 ≤ n) (hn2 : n ≤ 7) {w : List jC} (hS : SH (rX n e r q) w) {kc ks : Nat} : jMet X mX6_ranksAgree d kc ks [.ref 0] w (pI (fun v => ∃ k : Nat, v = nI k ∧ k < 2) (fun w' => w' = w)) := by
  refine jMet_of hs (by decide +kernel) (Nat.le_of_ble_eq_true rfl) (L := [some (.ref 0), none, none, none]) rfl ?_
  have hG : Fr kX w w := Fr.rf
  refine J_aload_n (pc := 0) dX6_ranksAgree_0 rfl rfl rfl ?_
  obtain ⟨_, hc1, rfl⟩ := hS 0 _ rfl
  refine J_get (pc := 1) (k := 1) dX6_ranksAgree_1 kC7 (by decide) ff_X6_16 hc1 rfl ?_
  obtain ⟨_, hc3, ka3, kf3, kb3, kg3, rfl, hb3_0, hb3_1⟩ := hS 2 _ rfl
  refine J_callV0 (pc := 4) (M := mX6_ranksAgree) (as := []) dX6_ranksAgree_4 fw_X0_total fl_X6_138 fm_X0_total fe_X0_total hc3 (by decide) rfl rfl rfl (c_X0_total hs (d := d - 1) (by omega) (e := e) (r := r) (q := q) hn1 hn2 hS (w := w)  (kc := 0) (ks := 0)) (by omega) (st := []) (Nat.le_of_ble_eq_true rfl) rfl (kr_P fun v2 hv2 => ?_) kx_I
  refine J_istore_n (pc := 7) dX6_ranksAgree_7 rfl (by decide) rfl ?_
  show J X mX6_ranksAgree d kc ks 8 [some (.ref 0), some (.int v2), none, none] [] w _
  refine J_iconst (pc := 8) (v := nI 0) dX6_ranksAgree_8 (by decide) ?_
  refine J_istore_n (pc := 9) dX6_ranksAgree_9 rfl (by decide) rfl ?_
  show J X mX6_ranksAgree d kc ks 10 [some (.ref 0), some (.int v2), some (.int (nI 0)), none] [] w _
  have htn6 := tN_lt v2
  have lp10_4 : ∀ (fuel : Nat) (c2 : Nat), c2 < 2147483648 → (tN v2) - c2 < fuel → J X mX6_ranksAgree d kc ks 10 [some (.ref 0), some (.int v2), some (.int (nI c2)), none] [] w (pI (fun v => ∃ k : Nat, v = nI k ∧ k < 2) (fun w' => w' = w)) := by
    intro fuellp10_4
    induction fuellp10_4 with
    | zero => intros; omega
    | succ fuellp10_4 ihlp10_4 =>
      intro c2 hi5 hf7
      refine J_iload_n (pc := 10) dX6_ranksAgree_10 rfl rfl ?_
      refine J_iload_n (pc := 11) dX6_ranksAgree_11 rfl rfl ?_
      refine J_icmp_geI (pc := 12) (tgt := 57) dX6_ranksAgree_12 (by decide) (by omega) (fun ht8 => ?_) (fun hf9 => ?_)
      · refine J_iconst (pc := 57) (v := nI 1) dX6_ranksAgree_57 (by decide) ?_
        exact J_zret (pc := 58) dX6_ranksAgree_58 rfl (nar_b (by omega)) ⟨⟨1, rfl, by omega⟩, rfl⟩
      · refine J_aload_n (pc := 15) dX6_ranksAgree_15 rfl rfl rfl ?_
        refine J_get (pc := 16) (k := 1) dX6_ranksAgree_16 kC7 (by decide) ff_X6_16 hc1 rfl ?_
        refine J_iload_n (pc := 19) dX6_ranksAgree_19 rfl rfl ?_
        refine J_ldc (pc := 20) (v := nI 1754760) dX6_ranksAgree_20 (by have := fk_X6_56; exact this) ?_
        refine J_callV0 (pc := 22) (M := mX6_ranksAgree) (as := [.int (nI c2), .int (nI 1754760)]) dX6_ranksAgree_22 fw_X0_moveAt fl_X6_141 fm_X0_moveAt fe_X0_moveAt hc3 (by decide) rfl rfl rfl (c_X0_moveAt hs (d := d - 1) (by omega) (e := e) (r := r) (q := q) hn1 hn2 hS (w := w) (nI c2) (nI 1754760) (kc := 0) (ks := 0)) (by omega) (st := []) (Nat.le_of_ble_eq_true rfl) rfl (kr_P fun v10 hv10 => ?_) kx_I
        refine J_istore_n (pc := 25) dX6_ranksAgree_25 rfl (by decide) rfl ?_
        show J X mX6_ranksAgree d kc ks 26 [some (.ref 0), some (.int v2), some (.int (nI c2)), some (.int v10)] [] w _
        refine J_aload_n (pc := 26) dX6_ranksAgree_26 rfl rfl rfl ?_
        refine J_get (pc := 27) (k := 1) dX6_ranksAgree_27 kC7 (by decide) ff_X6_16 hc1 rfl ?_
        refine J_iload_n (pc := 30) dX6_ranksAgree_30 rfl rfl ?_
        refine J_callV0 (pc := 31) (M := mX6_ranksAgree) (as := [.int v10]) dX6_ranksAgree_31 fw_X0_rankOf fl_X6_184 fm_X0_rankOf fe_X0_rankOf hc3 (by decide) rfl rfl rfl (c_X0_rankOf hs (d := d - 1) (by omega) (e := e) (r := r) (q := q) hn1 hn2 hS (w := w) v10 (kc := 0) (ks := 0)) (by omega) (st := []) (Nat.le_of_ble_eq_true rfl) rfl (kr_P fun v11 hv11 => ?_) kx_I
        refine J_iload_n (pc := 34) dX6_ranksAgree_34 rfl rfl ?_
        refine J_icmp_ne (pc := 35) (tgt := 49) dX6_ranksAgree_35 (by decide) (fun ht12 => ?_) (fun hf13 => ?_)
        · refine J_iconst (pc := 49) (v := nI 0) dX6_ranksAgree_49 (by decide) ?_
          exact J_zret (pc := 50) dX6_ranksAgree_50 rfl (nar_b (by omega)) ⟨⟨0, rfl, by omega⟩, rfl⟩
        · refine J_iload_n (pc := 38) dX6_ranksAgree_38 rfl rfl ?_
          refine J_callS0 (pc := 39) (M := mX6_ranksAgree) (as := [.int v10]) dX6_ranksAgree_39 fw_X2_orderOf fl_X6_164 fs_X2_orderOf rfl (c_X2_orderOf hs (d := d - 1) (by omega) (w := w) v10 (kc := 0) (ks := 0)) (by omega) (st := []) (Nat.le_of_ble_eq_true rfl) rfl (kr_P fun v14 hv14 => ?_) kx_I
          obtain ⟨k14, rfl, hk14⟩ := hv14
          refine J_iload_n (pc := 42) dX6_ranksAgree_42 rfl rfl ?_
          refine J_callS0 (pc := 43) (M := mX6_ranksAgree) (as := [.int (nI k14), .int v2]) dX6_ranksAgree_43 fw_X6_divides fl_X6_284 fs_X6_divides rfl (c_X6_divides hs (d := d - 1) (by omega) (w := w) (nI k14) v2 (kc := 0) (ks := 0)) (by omega) (st := []) (Nat.le_of_ble_eq_true rfl) rfl (kr_P fun v15 hv15 => ?_) kx_I
          obtain ⟨k15, rfl, hk15⟩ := hv15
          refine J_if_neN (pc := 46) (tgt := 51) dX6_ranksAgree_46 (by decide) (by omega) (fun ht16 => ?_) (fun hf17 => ?_)
          · refine J_iincN (pc := 51) (b := 1) dX6_ranksAgree_51 rfl (by decide) (by decide) rfl ?_
            show J X mX6_ranksAgree d kc ks 54 [some (.ref 0), some (.int v2), some (.int (nI (c2 + 1))), some (.int v10)] [] w _
            refine J_goto (pc := 54) (tgt := 10) dX6_ranksAgree_54 (by decide) ?_
            exact J_sub (L' := [some (.ref 0), some (.int v2), some (.int (nI (c2 + 1))), none]) ⟨rfl, ⟨rfl, ⟨rfl, trivial⟩⟩⟩ (ihlp10_4 (c2 + 1) (by first | assumption | omega) (by omega))
          · refine J_iconst (pc := 49) (v := nI 0) dX6_ranksAgree_49 (by decide) ?_
            exact J_zret (pc := 50) dX6_ranksAgree_50 rfl (nar_b (by omega)) ⟨⟨0, rfl, by omega⟩, rfl⟩
  exact J_sub (L' := [some (.ref 0), some (.int v2), some (.int (nI 0)), none]) ⟨rfl, ⟨rfl, ⟨rfl, trivial⟩⟩⟩ (lp10_4 _ 0 (by first | assumption | omega) (Nat.lt_succ_self _))
set_option maxRecDepth 100000 in
set_option maxHeartbeats 4000000 in
theorem c_X6_signsAgree {X : jX} (hs : X.1.stackTraces = false) {d : Nat} (hd : 5 ≤ d) {n : Nat} {e r q : Int32} (hn1 : 2 ≤ n) (hn2 : n ≤ 7) {w : List jC} (hS : SH (rX n e r q) w) {kc ks : Nat} : jMet X mX6_signsAgree d kc ks [.ref 0] w (pI (fun v => ∃ k : Nat, v = nI k ∧ k < 2) (fun w' => w' = w)) := by
  refine jMet_of hs (by decide +kernel) (Nat.le_of_ble_eq_true rfl) (L := [some (.ref 0), none]) rfl ?_
  have hG : Fr kX w w := Fr.rf
  refine J_aload_n (pc := 0) dX6_signsAgree_0 rfl rfl rfl ?_
  obtain ⟨_, hc1, rfl⟩ := hS 0 _ rfl
  refine J_get (pc := 1) (k := 2) dX6_signsAgree_1 kC7 (by decide) ff_X6_23 hc1 rfl ?_
  obtain ⟨_, hc3, ka3, rfl, hb3_0⟩ := hS 8 _ rfl
  refine J_callV0 (pc := 4) (M := mX6_signsAgree) (as := []) dX6_signsAgree_4 fw_X5_howManyEven fl_X6_199 fm_X5_howManyEven fe_X5_howManyEven hc3 (by decide) rfl rfl rfl (c_X5_howManyEven hs (d := d - 1) (by omega) (e := e) (r := r) (q := q) hn1 hn2 hS (w := w)  (kc := 0) (ks := 0)) (by omega) (st := []) (Nat.le_of_ble_eq_true rfl) rfl (kr_P fun v2 hv2 => ?_) kx_I
  refine J_istore_n (pc := 7) dX6_signsAgree_7 rfl (by decide) rfl ?_
  show J X mX6_signsAgree d kc ks 8 [some (.ref 0), some (.int v2)] [] w _
  refine J_iload_n (pc := 8) dX6_signsAgree_8 rfl rfl ?_
  refine J_aload_n (pc := 9) dX6_signsAgree_9 rfl rfl rfl ?_
  refine J_get (pc := 10) (k := 2) dX6_signsAgree_10 kC7 (by decide) ff_X6_23 hc1 rfl ?_
  refine J_callV0 (pc := 13) (M := mX6_signsAgree) (as := []) dX6_signsAgree_13 fw_X5_length fl_X6_283 fm_X5_length fe_X5_length hc3 (by decide) rfl rfl rfl (c_X5_length hs (d := d - 1) (by omega) (e := e) (r := r) (q := q) hn1 hn2 hS (w := w)  (kc := 0) (ks := 0)) (by omega) (st := [.int v2]) (Nat.le_of_ble_eq_true rfl) rfl (kr_P fun v4 hv4 => ?_) kx_I
  obtain ⟨k4, rfl, hk4⟩ := hv4
  refine J_icmp_eq (pc := 16) (tgt := 32) dX6_signsAgree_16 (by decide) (fun ht5 => ?_) (fun hf6 => ?_)
  · refine J_iconst (pc := 32) (v := nI 1) dX6_signsAgree_32 (by decide) ?_
    refine J_goto (pc := 33) (tgt := 37) dX6_signsAgree_33 (by decide) ?_
    exact J_zret (pc := 37) dX6_signsAgree_37 rfl (nar_b (by omega)) ⟨⟨1, rfl, by omega⟩, rfl⟩
  · refine J_iconst (pc := 19) (v := nI 2) dX6_signsAgree_19 (by decide) ?_
    refine J_iload_n (pc := 20) dX6_signsAgree_20 rfl rfl ?_
    refine J_imul (pc := 21) dX6_signsAgree_21 (J_absI fun x7 => ?_)
    refine J_aload_n (pc := 22) dX6_signsAgree_22 rfl rfl rfl ?_
    refine J_get (pc := 23) (k := 2) dX6_signsAgree_23 kC7 (by decide) ff_X6_23 hc1 rfl ?_
    refine J_callV0 (pc := 26) (M := mX6_signsAgree) (as := []) dX6_signsAgree_26 fw_X5_length fl_X6_283 fm_X5_length fe_X5_length hc3 (by decide) rfl rfl rfl (c_X5_length hs (d := d - 1) (by omega) (e := e) (r := r) (q := q) hn1 hn2 hS (w := w)  (kc := 0) (ks := 0)) (by omega) (st := [.int x7]) (Nat.le_of_ble_eq_true rfl) rfl (kr_P fun v8 hv8 => ?_) kx_I
    obtain ⟨k8, rfl, hk8⟩ := hv8
    refine J_icmp_ne (pc := 29) (tgt := 36) dX6_signsAgree_29 (by decide) (fun ht9 => ?_) (fun hf10 => ?_)
    · refine J_iconst (pc := 36) (v := nI 0) dX6_signsAgree_36 (by decide) ?_
      exact J_zret (pc := 37) dX6_signsAgree_37 rfl (nar_b (by omega)) ⟨⟨0, rfl, by omega⟩, rfl⟩
    · refine J_iconst (pc := 32) (v := nI 1) dX6_signsAgree_32 (by decide) ?_
      refine J_goto (pc := 33) (tgt := 37) dX6_signsAgree_33 (by decide) ?_
      exact J_zret (pc := 37) dX6_signsAgree_37 rfl (nar_b (by omega)) ⟨⟨1, rfl, by omega⟩, rfl⟩
set_option maxRecDepth 100000 in
set_option maxHeartbeats 4000000 in
theorem c_X6_colouringsAgree {X : jX} (hs : X.1.stackTraces = false) {d : Nat} (hd : 4 ≤ d) {n : Nat} {e r q : Int32} (hn1 : 2 ≤ n) (hn2 : n ≤ 7) {w : List jC} (hS : SH (rX n e r q) w) {kc ks : Nat} : jMet X mX6_colouringsAgree d kc ks [.ref 0] w (pI (fun v => ∃ k : Nat, v = nI k ∧ k < 2) (fun w' => rS n e r q w w')) := by
  refine jMet_of hs (by decide +kernel) (Nat.le_of_ble_eq_true rfl) (L := [some (.ref 0)]) rfl ?_
  have hG : Fr kX w w := Fr.rf
  refine J_aload_n (pc := 0) dX6_colouringsAgree_0 rfl rfl rfl ?_
  obtain ⟨_, hc1, rfl⟩ := hS 0 _ rfl
  refine J_get (pc := 1) (k := 2) dX6_colouringsAgree_1 kC7 (by decide) ff_X6_23 hc1 rfl ?_
  refine J_iconst (pc := 4) (v := nI 2) dX6_colouringsAgree_4 (by decide) ?_
  obtain ⟨_, hc3, ka3, rfl, hb3_0⟩ := hS 8 _ rfl
  refine J_callV0 (pc := 5) (M := mX6_colouringsAgree) (as := [.int (nI 2)]) dX6_colouringsAgree_5 fw_X5_colouringsByMean fl_X6_202 fm_X5_colouringsByMean fe_X5_colouringsByMean hc3 (by decide) rfl rfl rfl (c_X5_colouringsByMean hs (d := d - 1) (by omega) (e := e) (r := r) (q := q) hn1 hn2 hS (w := w) (nI 2) (kc := 0) (ks := 0)) (by omega) (st := []) (Nat.le_of_ble_eq_true rfl) rfl (kr_P fun v2 hv2 => ?_) kx_I
  refine J_aload_n (pc := 8) dX6_colouringsAgree_8 rfl rfl rfl ?_
  refine J_get (pc := 9) (k := 4) dX6_colouringsAgree_9 kC7 (by decide) ff_X6_37 hc1 rfl ?_
  refine J_aload_n (pc := 12) dX6_colouringsAgree_12 rfl rfl rfl ?_
  refine J_get (pc := 13) (k := 0) dX6_colouringsAgree_13 kC7 (by decide) ff_X6_9 hc1 rfl ?_
  refine J_bipush (pc := 16) (v := nI 63) dX6_colouringsAgree_16 (by decide) ?_
  refine J_iconst (pc := 18) (v := nI 2) dX6_colouringsAgree_18 (by decide) ?_
  refine J_aload_n (pc := 19) dX6_colouringsAgree_19 rfl rfl rfl ?_
  refine J_get (pc := 20) (k := 5) dX6_colouringsAgree_20 kC7 (by decide) ff_X6_41 hc1 rfl ?_
  obtain ⟨_, hc5, ka5, kb5, rfl, hb5_0, hb5_1, hb5_2⟩ := hS 14 _ rfl
  refine J_callV0 (pc := 23) (M := mX6_colouringsAgree) (as := [.ref 1, .int (nI 63), .int (nI 2), .int (nI n)]) dX6_colouringsAgree_23 fw_X3_colouringsOneByOne fl_X6_205 fm_X3_colouringsOneByOne fe_X3_colouringsOneByOne hc5 (by decide) rfl rfl rfl (c_X3_colouringsOneByOne hs (d := d - 1) (by omega) (e := e) (r := r) (q := q) hn1 hn2 hS (w := w) (nI 63) 2 (by omega) (by omega) (kc := 0) (ks := 0)) (by omega) (st := [.int v2]) (Nat.le_of_ble_eq_true rfl) rfl (kr_I fun v4 w4 hv4 hw4 => ?_) kx_I
  obtain ⟨hS4, hF4⟩ := hw4
  have hG4 := hG.tr hF4
  refine J_icmp_ne (pc := 26) (tgt := 33) dX6_colouringsAgree_26 (by decide) (fun ht6 => ?_) (fun hf7 => ?_)
  · refine J_iconst (pc := 33) (v := nI 0) dX6_colouringsAgree_33 (by decide) ?_
    exact J_zret (pc := 34) dX6_colouringsAgree_34 rfl (nar_b (by omega)) ⟨⟨0, rfl, by omega⟩, ⟨hS4, hG4⟩⟩
  · refine J_iconst (pc := 29) (v := nI 1) dX6_colouringsAgree_29 (by decide) ?_
    refine J_goto (pc := 30) (tgt := 34) dX6_colouringsAgree_30 (by decide) ?_
    exact J_zret (pc := 34) dX6_colouringsAgree_34 rfl (nar_b (by omega)) ⟨⟨1, rfl, by omega⟩, ⟨hS4, hG4⟩⟩
