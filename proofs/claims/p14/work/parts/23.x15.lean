section
/-! contracts of the class -/
set_option maxRecDepth 100000 in
set_option maxHeartbeats 4000000 in
theorem c_X6_ranksAgree {X : jX} (hs : X.1.stackTraces = false) {d : Nat} (hd : 4 ≤ d) {n : Nat} {e r q : Int32} (hn1 : 2 ≤ n) (hn2 : n ≤ 7) {w : List jC} (hS : SH (rX n e r q) w) {kc ks : Nat} : jMet X mX6_ranksAgree d kc ks [.ref 0] w (pI (fun v => ∃ k : Nat, v = nI k ∧ k < 2) (fun w' => w' = w)) := by
  refine jMet_of hs (by decide +kernel) (Nat.le_of_ble_eq_true rfl) (L := [some (.ref 0), none, none, none]) rfl ?_
  have hG : Fr kX w w := Fr.rf
  refine J_aload_n (pc := 0) dX6_ranksAgree_0 rfl rfl rfl ?_
  obtain ⟨_, hc1, rfl⟩ := hS 0 _ rfl
  refine J_get (pc := 1) (k := 1) dX6_ranksAgree_1 kC7 (by decide) ff_X6_16 hc1 rfl ?_
  obtain ⟨_, hc3, ka3, kf3, kb3, kg3, rfl, hb3_0, hb3_1⟩ := hS 2 _ rfl
  refine J_callV0 (pc := 4) (M := mX6_ranksAgree) (as := []) dX6_ranksAgree_4 fw_X0_total fl_X6_138 fm_X0_total fe_X0_total hc3 (by decide) rfl rfl rfl (c_X0_total hs (d := d - 1) (by omega) (e := e) (r := r) (q := q) hn1 hn2 hS (w := w)  (kc := 0) (ks := 0)) (by omega) (st := []) (Nat.le_of_ble_eq_true rfl) rfl (kr_P fun v2 hv2 => ?_) kx_I
  refine J_istore_n (pc := 7) dX6_ranksAgree_7 rfl (by decide) rfl ?_
  show J X mX6_ranksAgree d kc ks 8 [some (.ref 0), some (.int v2), none, none] [] w _
  refine J_iconst (pc := 8) (v := nI 0) dX6_ranksAgree_8 (by decide) ?_
  refine J_istore_n (pc := 9) dX6_ranksAgree_9 rfl (by decide) rfl ?_
  show J X mX6_ranksAgree d kc ks 10 [some (.ref 0), some (.int v2), some (.int (nI 0)), none] [] w _
  have htn6 := tN_lt v2
  have lp10_4 : ∀ (fuel : Nat) (c2 : Nat), c2 < 2147483648 → (tN v2) - c2 < fuel → J X mX6_ranksAgree d kc ks 10 [some (.ref 0), some (.int v2), some (.int (nI c2)), none] [] w (pI (fun v => ∃ k : Nat, v = nI k ∧ k < 2) (fun w' => w' = w)) := by
    intro fuellp10_4
    induction fuellp10_4 with
    | zero => intros; omega
    | succ fuellp10_4 ihlp10_4 =>
      intro c2 hi5 hf7
      refine J_iload_n (pc := 10) dX6_ranksAgree_10 rfl rfl ?_
      refine J_iload_n (pc := 11) dX6_ranksAgree_11 rfl rfl ?_
      refine J_icmp_geI (pc := 12) (tgt := 57) dX6_ranksAgree_12 (by decide) (by omega) (fun ht8 => ?_) (fun hf9 => ?_)
      · refine J_iconst (pc := 57) (v := nI 1) dX6_ranksAgree_57 (by decide) ?_
        exact J_zret (pc := 58) dX6_ranksAgree_58 rfl (nar_b (by omega)) ⟨⟨1, rfl, by omega⟩, rfl⟩
      · refine J_aload_n (pc := 15) dX6_ranksAgree_15 rfl rfl rfl ?_
        refine J_get (pc := 16) (k := 1) dX6_ranksAgree_16 kC7 (by decide) ff_X6_16 hc1 rfl ?_
        refine J_iload_n (pc := 19) dX6_ranksAgree_19 rfl rfl ?_
        refine J_ldc (pc := 20) (v := nI 1754760) dX6_ranksAgree_20 (by have := fk_X6_56; exact this) ?_
        refine J_callV0 (pc := 22) (M := mX6_ranksAgree) (as := [.int (nI c2), .int (nI 1754760)]) dX6_ranksAgree_22 fw_X0_moveAt fl_X6_141 fm_X0_moveAt fe_X0_moveAt hc3 (by decide) rfl rfl rfl (c_X0_moveAt hs (d := d - 1) (by omega) (e := e) (r := r) (q := q) hn1 hn2 hS (w := w) (nI c2) (nI 1754760) (kc := 0) (ks := 0)) (by omega) (st := []) (Nat.le_of_ble_eq_true rfl) rfl (kr_P fun v10 hv10 => ?_) kx_I
        refine J_istore_n (pc := 25) dX6_ranksAgree_25 rfl (by decide) rfl ?_
        show J X mX6_ranksAgree d kc ks 26 [some (.ref 0), some (.int v2), some (.int (nI c2)), some (.int v10)] [] w _
        refine J_aload_n (pc := 26) dX6_ranksAgree_26 rfl rfl rfl ?_
        refine J_get (pc := 27) (k := 1) dX6_ranksAgree_27 kC7 (by decide) ff_X6_16 hc1 rfl ?_
        refine J_iload_n (pc := 30) dX6_ranksAgree_30 rfl rfl ?_
        refine J_callV0 (pc := 31) (M := mX6_ranksAgree) (as := [.int v10]) dX6_ranksAgree_31 fw_X0_rankOf fl_X6_184 fm_X0_rankOf fe_X0_rankOf hc3 (by decide) rfl rfl rfl (c_X0_rankOf hs (d := d - 1) (by omega) (e := e) (r := r) (q := q) hn1 hn2 hS (w := w) v10 (kc := 0) (ks := 0)) (by omega) (st := []) (Nat.le_of_ble_eq_true rfl) rfl (kr_P fun v11 hv11 => ?_) kx_I
        refine J_iload_n (pc := 34) dX6_ranksAgree_34 rfl rfl ?_
        refine J_icmp_ne (pc := 35) (tgt := 49) dX6_ranksAgree_35 (by decide) (fun ht12 => ?_) (fun hf13 => ?_)
        · refine J_iconst (pc := 49) (v := nI 0) dX6_ranksAgree_49 (by decide) ?_
          exact J_zret (pc := 50) dX6_ranksAgree_50 rfl (nar_b (by omega)) ⟨⟨0, rfl, by omega⟩, rfl⟩
        · refine J_iload_n (pc := 38) dX6_ranksAgree_38 rfl rfl ?_
          refine J_callS0 (pc := 39) (M := mX6_ranksAgree) (as := [.int v10]) dX6_ranksAgree_39 fw_X2_orderOf fl_X6_164 fs_X2_orderOf rfl (c_X2_orderOf hs (d := d - 1) (by omega) (w := w) v10 (kc := 0) (ks := 0)) (by omega) (st := []) (Nat.le_of_ble_eq_true rfl) rfl (kr_P fun v14 hv14 => ?_) kx_I
          obtain ⟨k14, rfl, hk14⟩ := hv14
          refine J_iload_n (pc := 42) dX6_ranksAgree_42 rfl rfl ?_
          refine J_callS0 (pc := 43) (M := mX6_ranksAgree) (as := [.int (nI k14), .int v2]) dX6_ranksAgree_43 fw_X6_divides fl_X6_284 fs_X6_divides rfl (c_X6_divides hs (d := d - 1) (by omega) (w := w) (nI k14) v2 (kc := 0) (ks := 0)) (by omega) (st := []) (Nat.le_of_ble_eq_true rfl) rfl (kr_P fun v15 hv15 => ?_) kx_I
          obtain ⟨k15, rfl, hk15⟩ := hv15
          refine J_if_neN (pc := 46) (tgt := 51) dX6_ranksAgree_46 (by decide) (by omega) (fun ht16 => ?_) (fun hf17 => ?_)
          · refine J_iincN (pc := 51) (b := 1) dX6_ranksAgree_51 rfl (by decide) (by decide) rfl ?_
            show J X mX6_ranksAgree d kc ks 54 [some (.ref 0), some (.int v2), some (.int (nI (c2 + 1))), some (.int v10)] [] w _
            refine J_goto (pc := 54) (tgt := 10) dX6_ranksAgree_54 (by decide) ?_
            exact J_sub (L' := [some (.ref 0), some (.int v2), some (.int (nI (c2 + 1))), none]) ⟨rfl, ⟨rfl, ⟨rfl, trivial⟩⟩⟩ (ihlp10_4 (c2 + 1) (by first | assumption | omega) (by omega))
          · refine J_iconst (pc := 49) (v := nI 0) dX6_ranksAgree_49 (by decide) ?_
            exact J_zret (pc := 50) dX6_ranksAgree_50 rfl (nar_b (by omega)) ⟨⟨0, rfl, by omega⟩, rfl⟩
  exact J_sub (L' := [some (.ref 0), some (.int v2), some (.int (nI 0)), none]) ⟨rfl, ⟨rfl, ⟨rfl, trivial⟩⟩⟩ (lp10_4 _ 0 (by first | assumption | omega) (Nat.lt_succ_self _))
set_option maxRecDepth 100000 in
set_option maxHeartbeats 4000000 in
theorem c_X6_signsAgree {X : jX} (hs : X.1.stackTraces = false) {d : Nat} (hd : 5 ≤ d) {n : Nat} {e r q : Int32} (hn1 : 2 ≤ n) (hn2 : n ≤ 7) {w : List jC} (hS : SH (rX n e r q) w) {kc ks : Nat} : jMet X mX6_signsAgree d kc ks [.ref 0] w (pI (fun v => ∃ k : Nat, v = nI k ∧ k < 2) (fun w' => w' = w)) := by
  refine jMet_of hs (by decide +kernel) (Nat.le_of_ble_eq_true rfl) (L := [some (.ref 0), none]) rfl ?_
  have hG : Fr kX w w := Fr.rf
  refine J_aload_n (pc := 0) dX6_signsAgree_0 rfl rfl rfl ?_
  obtain ⟨_, hc1, rfl⟩ := hS 0 _ rfl
  refine J_get (pc := 1) (k := 2) dX6_signsAgree_1 kC7 (by decide) ff_X6_23 hc1 rfl ?_
  obtain ⟨_, hc3, ka3, rfl, hb3_0⟩ := hS 8 _ rfl
  refine J_callV0 (pc := 4) (M := mX6_signsAgree) (as := []) dX6_signsAgree_4 fw_X5_howManyEven fl_X6_199 fm_X5_howManyEven fe_X5_howManyEven hc3 (by decide) rfl rfl rfl (c_X5_howManyEven hs (d := d - 1) (by omega) (e := e) (r := r) (q := q) hn1 hn2 hS (w := w)  (kc := 0) (ks := 0)) (by omega) (st := []) (Nat.le_of_ble_eq_true rfl) rfl (kr_P fun v2 hv2 => ?_) kx_I
  refine J_istore_n (pc := 7) dX6_signsAgree_7 rfl (by decide) rfl ?_
  show J X mX6_signsAgree d kc ks 8 [some (.ref 0), some (.int v2)] [] w _
  refine J_iload_n (pc := 8) dX6_signsAgree_8 rfl rfl ?_
  refine J_aload_n (pc := 9) dX6_signsAgree_9 rfl rfl rfl ?_
  refine J_get (pc := 10) (k := 2) dX6_signsAgree_10 kC7 (by decide) ff_X6_23 hc1 rfl ?_
  refine J_callV0 (pc := 13) (M := mX6_signsAgree) (as := []) dX6_signsAgree_13 fw_X5_length fl_X6_283 fm_X5_length fe_X5_length hc3 (by decide) rfl rfl rfl (c_X5_length hs (d := d - 1) (by omega) (e := e) (r := r) (q := q) hn1 hn2 hS (w := w)  (kc := 0) (ks := 0)) (by omega) (st := [.int v2]) (Nat.le_of_ble_eq_true rfl) rfl (kr_P fun v4 hv4 => ?_) kx_I
  obtain ⟨k4, rfl, hk4⟩ := hv4
  refine J_icmp_eq (pc := 16) (tgt := 32) dX6_signsAgree_16 (by decide) (fun ht5 => ?_) (fun hf6 => ?_)
  · refine J_iconst (pc := 32) (v := nI 1) dX6_signsAgree_32 (by decide) ?_
    refine J_goto (pc := 33) (tgt := 37) dX6_signsAgree_33 (by decide) ?_
    exact J_zret (pc := 37) dX6_signsAgree_37 rfl (nar_b (by omega)) ⟨⟨1, rfl, by omega⟩, rfl⟩
  · refine J_iconst (pc := 19) (v := nI 2) dX6_signsAgree_19 (by decide) ?_
    refine J_iload_n (pc := 20) dX6_signsAgree_20 rfl rfl ?_
    refine J_imul (pc := 21) dX6_signsAgree_21 (J_absI fun x7 => ?_)
    refine J_aload_n (pc := 22) dX6_signsAgree_22 rfl rfl rfl ?_
    refine J_get (pc := 23) (k := 2) dX6_signsAgree_23 kC7 (by decide) ff_X6_23 hc1 rfl ?_
    refine J_callV0 (pc := 26) (M := mX6_signsAgree) (as := []) dX6_signsAgree_26 fw_X5_length fl_X6_283 fm_X5_length fe_X5_length hc3 (by decide) rfl rfl rfl (c_X5_length hs (d := d - 1) (by omega) (e := e) (r := r) (q := q) hn1 hn2 hS (w := w)  (kc := 0) (ks := 0)) (by omega) (st := [.int x7]) (Nat.le_of_ble_eq_true rfl) rfl (kr_P fun v8 hv8 => ?_) kx_I
    obtain ⟨k8, rfl, hk8⟩ := hv8
    refine J_icmp_ne (pc := 29) (tgt := 36) dX6_signsAgree_29 (by decide) (fun ht9 => ?_) (fun hf10 => ?_)
    · refine J_iconst (pc := 36) (v := nI 0) dX6_signsAgree_36 (by decide) ?_
      exact J_zret (pc := 37) dX6_signsAgree_37 rfl (nar_b (by omega)) ⟨⟨0, rfl, by omega⟩, rfl⟩
    · refine J_iconst (pc := 32) (v := nI 1) dX6_signsAgree_32 (by decide) ?_
      refine J_goto (pc := 33) (tgt := 37) dX6_signsAgree_33 (by decide) ?_
      exact J_zret (pc := 37) dX6_signsAgree_37 rfl (nar_b (by omega)) ⟨⟨1, rfl, by omega⟩, rfl⟩
set_option maxRecDepth 100000 in
set_option maxHeartbeats 4000000 in
theorem c_X6_colouringsAgree {X : jX} (hs : X.1.stackTraces = false) {d : Nat} (hd : 4 ≤ d) {n : Nat} {e r q : Int32} (hn1 : 2 ≤ n) (hn2 : n ≤ 7) {w : List jC} (hS : SH (rX n e r q) w) {kc ks : Nat} : jMet X mX6_colouringsAgree d kc ks [.ref 0] w (pI (fun v => ∃ k : Nat, v = nI k ∧ k < 2) (fun w' => rS n e r q w w')) := by
  refine jMet_of hs (by decide +kernel) (Nat.le_of_ble_eq_true rfl) (L := [some (.ref 0)]) rfl ?_
  have hG : Fr kX w w := Fr.rf
  refine J_aload_n (pc := 0) dX6_colouringsAgree_0 rfl rfl rfl ?_
  obtain ⟨_, hc1, rfl⟩ := hS 0 _ rfl
  refine J_get (pc := 1) (k := 2) dX6_colouringsAgree_1 kC7 (by decide) ff_X6_23 hc1 rfl ?_
  refine J_iconst (pc := 4) (v := nI 2) dX6_colouringsAgree_4 (by decide) ?_
  obtain ⟨_, hc3, ka3, rfl, hb3_0⟩ := hS 8 _ rfl
  refine J_callV0 (pc := 5) (M := mX6_colouringsAgree) (as := [.int (nI 2)]) dX6_colouringsAgree_5 fw_X5_colouringsByMean fl_X6_202 fm_X5_colouringsByMean fe_X5_colouringsByMean hc3 (by decide) rfl rfl rfl (c_X5_colouringsByMean hs (d := d - 1) (by omega) (e := e) (r := r) (q := q) hn1 hn2 hS (w := w) (nI 2) (kc := 0) (ks := 0)) (by omega) (st := []) (Nat.le_of_ble_eq_true rfl) rfl (kr_P fun v2 hv2 => ?_) kx_I
  refine J_aload_n (pc := 8) dX6_colouringsAgree_8 rfl rfl rfl ?_
  refine J_get (pc := 9) (k := 4) dX6_colouringsAgree_9 kC7 (by decide) ff_X6_37 hc1 rfl ?_
  refine J_aload_n (pc := 12) dX6_colouringsAgree_12 rfl rfl rfl ?_
  refine J_get (pc := 13) (k := 0) dX6_colouringsAgree_13 kC7 (by decide) ff_X6_9 hc1 rfl ?_
  refine J_bipush (pc := 16) (v := nI 63) dX6_colouringsAgree_16 (by decide) ?_
  refine J_iconst (pc := 18) (v := nI 2) dX6_colouringsAgree_18 (by decide) ?_
  refine J_aload_n (pc := 19) dX6_colouringsAgree_19 rfl rfl rfl ?_
  refine J_get (pc := 20) (k := 5) dX6_colouringsAgree_20 kC7 (by decide) ff_X6_41 hc1 rfl ?_
  obtain ⟨_, hc5, ka5, kb5, rfl, hb5_0, hb5_1, hb5_2⟩ := hS 14 _ rfl
  refine J_callV0 (pc := 23) (M := mX6_colouringsAgree) (as := [.ref 1, .int (nI 63), .int (nI 2), .int (nI n)]) dX6_colouringsAgree_23 fw_X3_colouringsOneByOne fl_X6_205 fm_X3_colouringsOneByOne fe_X3_colouringsOneByOne hc5 (by decide) rfl rfl rfl (c_X3_colouringsOneByOne hs (d := d - 1) (by omega) (e := e) (r := r) (q := q) hn1 hn2 hS (w := w) (nI 63) 2 (by omega) (by omega) (kc := 0) (ks := 0)) (by omega) (st := [.int v2]) (Nat.le_of_ble_eq_true rfl) rfl (kr_I fun v4 w4 hv4 hw4 => ?_) kx_I
  obtain ⟨hS4, hF4⟩ := hw4
  have hG4 := hG.tr hF4
  refine J_icmp_ne (pc := 26) (tgt := 33) dX6_colouringsAgree_26 (by decide) (fun ht6 => ?_) (fun hf7 => ?_)
  · refine J_iconst (pc := 33) (v := nI 0) dX6_colouringsAgree_33 (by decide) ?_
    exact J_zret (pc := 34) dX6_colouringsAgree_34 rfl (nar_b (by omega)) ⟨⟨0, rfl, by omega⟩, ⟨hS4, hG4⟩⟩
  · refine J_iconst (pc := 29) (v := nI 1) dX6_colouringsAgree_29 (by decide) ?_
    refine J_goto (pc := 30) (tgt := 34) dX6_colouringsAgree_30 (by decide) ?_
    exact J_zret (pc := 34) dX6_colouringsAgree_34 rfl (nar_b (by omega)) ⟨⟨1, rfl, by omega⟩, ⟨hS4, hG4⟩⟩
end
section
/-! contracts of the class -/
set_option maxRecDepth 100000 in
set_option maxHeartbeats 4000000 in
theorem c_X6_enoughSuffices {X : jX} (hs : X.1.stackTraces = false) {d : Nat} (hd : 4 ≤ d) {n : Nat} {e r q : Int32} (hn1 : 2 ≤ n) (hn2 : n ≤ 7) {w : List jC} (hS : SH (rX n e r q) w) {kc ks : Nat} : jMet X mX6_enoughSuffices d kc ks [.ref 0] w (pI (fun v => ∃ k : Nat, v = nI k ∧ k < 2) (fun w' => rS n e r q w w')) := by
  refine jMet_of hs (by decide +kernel) (Nat.le_of_ble_eq_true rfl) (L := [some (.ref 0), none, none]) rfl ?_
  have hG : Fr kX w w := Fr.rf
  refine J_aload_n (pc := 0) dX6_enoughSuffices_0 rfl rfl rfl ?_
  obtain ⟨_, hc1, rfl⟩ := hS 0 _ rfl
  refine J_get (pc := 1) (k := 1) dX6_enoughSuffices_1 kC7 (by decide) ff_X6_16 hc1 rfl ?_
  obtain ⟨_, hc3, ka3, kf3, kb3, kg3, rfl, hb3_0, hb3_1⟩ := hS 2 _ rfl
  refine J_callV0 (pc := 4) (M := mX6_enoughSuffices) (as := []) dX6_enoughSuffices_4 fw_X0_total fl_X6_138 fm_X0_total fe_X0_total hc3 (by decide) rfl rfl rfl (c_X0_total hs (d := d - 1) (by omega) (e := e) (r := r) (q := q) hn1 hn2 hS (w := w)  (kc := 0) (ks := 0)) (by omega) (st := []) (Nat.le_of_ble_eq_true rfl) rfl (kr_P fun v2 hv2 => ?_) kx_I
  refine J_istore_n (pc := 7) dX6_enoughSuffices_7 rfl (by decide) rfl ?_
  show J X mX6_enoughSuffices d kc ks 8 [some (.ref 0), some (.int v2), none] [] w _
  refine J_aload_n (pc := 8) dX6_enoughSuffices_8 rfl rfl rfl ?_
  refine J_get (pc := 9) (k := 1) dX6_enoughSuffices_9 kC7 (by decide) ff_X6_16 hc1 rfl ?_
  refine J_callV0 (pc := 12) (M := mX6_enoughSuffices) (as := []) dX6_enoughSuffices_12 fw_X0_takenCells fl_X6_225 fm_X0_takenCells fe_X0_takenCells hc3 (by decide) rfl rfl rfl (c_X0_takenCells hs (d := d - 1) (by omega) (e := e) (r := r) (q := q) hn1 hn2 hS (w := w)  (kc := 0) (ks := 0)) (by omega) (st := []) (Nat.le_of_ble_eq_true rfl) rfl (kr_P fun v4 hv4 => ?_) kx_I
  refine J_istore_n (pc := 15) dX6_enoughSuffices_15 rfl (by decide) rfl ?_
  show J X mX6_enoughSuffices d kc ks 16 [some (.ref 0), some (.int v2), some (.int v4)] [] w _
  refine J_aload_n (pc := 16) dX6_enoughSuffices_16 rfl rfl rfl ?_
  refine J_get (pc := 17) (k := 1) dX6_enoughSuffices_17 kC7 (by decide) ff_X6_16 hc1 rfl ?_
  refine J_aload_n (pc := 20) dX6_enoughSuffices_20 rfl rfl rfl ?_
  refine J_get (pc := 21) (k := 0) dX6_enoughSuffices_21 kC7 (by decide) ff_X6_9 hc1 rfl ?_
  refine J_iload_n (pc := 24) dX6_enoughSuffices_24 rfl rfl ?_
  refine J_aload_n (pc := 25) dX6_enoughSuffices_25 rfl rfl rfl ?_
  refine J_get (pc := 26) (k := 0) dX6_enoughSuffices_26 kC7 (by decide) ff_X6_9 hc1 rfl ?_
  refine J_iconst (pc := 29) (v := nI 0) dX6_enoughSuffices_29 (by decide) ?_
  obtain ⟨_, hc5, xs5, rfl, hl5⟩ := hS 1 _ rfl
  refine J_iald (pc := 30) dX6_enoughSuffices_30 hc5 (nI_in (by omega) (by omega)) (J_absI fun x6 => ?_)
  refine J_aload_n (pc := 31) dX6_enoughSuffices_31 rfl rfl rfl ?_
  refine J_get (pc := 32) (k := 5) dX6_enoughSuffices_32 kC7 (by decide) ff_X6_41 hc1 rfl ?_
  refine J_callV0 (pc := 35) (M := mX6_enoughSuffices) (as := [.ref 1, .int v4, .int x6, .int (nI n)]) dX6_enoughSuffices_35 fw_X0_raise fl_X6_134 fm_X0_raise fe_X0_raise hc3 (by decide) rfl rfl rfl (c_X0_raise hs (d := d - 1) (by omega) (e := e) (r := r) (q := q) hn1 hn2 hS (w := w) v4 x6 (kc := 0) (ks := 0)) (by omega) (st := []) (Nat.le_of_ble_eq_true rfl) rfl (kr_V fun w7 hw7 => ?_) kx_V
  obtain ⟨hS7, hF7⟩ := hw7
  have hG7 := hG.tr hF7
  refine J_aload_n (pc := 38) dX6_enoughSuffices_38 rfl rfl rfl ?_
  obtain ⟨_, hc8, rfl⟩ := hS7 0 _ rfl
  refine J_get (pc := 39) (k := 1) dX6_enoughSuffices_39 kC7 (by decide) ff_X6_16 hc8 rfl ?_
  obtain ⟨_, hc10, ka10, kf10, kb10, kg10, rfl, hb10_0, hb10_1⟩ := hS7 2 _ rfl
  refine J_callV0 (pc := 42) (M := mX6_enoughSuffices) (as := []) dX6_enoughSuffices_42 fw_X0_total fl_X6_138 fm_X0_total fe_X0_total hc10 (by decide) rfl rfl rfl (c_X0_total hs (d := d - 1) (by omega) (e := e) (r := r) (q := q) hn1 hn2 hS7 (w := w7)  (kc := 0) (ks := 0)) (by omega) (st := []) (Nat.le_of_ble_eq_true rfl) rfl (kr_P fun v9 hv9 => ?_) kx_I
  refine J_iload_n (pc := 45) dX6_enoughSuffices_45 rfl rfl ?_
  refine J_icmp_ne (pc := 46) (tgt := 63) dX6_enoughSuffices_46 (by decide) (fun ht11 => ?_) (fun hf12 => ?_)
  · refine J_iconst (pc := 63) (v := nI 0) dX6_enoughSuffices_63 (by decide) ?_
    exact J_zret (pc := 64) dX6_enoughSuffices_64 rfl (nar_b (by omega)) ⟨⟨0, rfl, by omega⟩, ⟨hS7, hG7⟩⟩
  · refine J_iload_n (pc := 49) dX6_enoughSuffices_49 rfl rfl ?_
    refine J_iconst (pc := 50) (v := nI 1) dX6_enoughSuffices_50 (by decide) ?_
    refine J_iload_n (pc := 51) dX6_enoughSuffices_51 rfl rfl ?_
    refine J_callS0 (pc := 52) (M := mX6_enoughSuffices) (as := [.int v4]) dX6_enoughSuffices_52 fw_J6_bitCount_0f7a4 fl_X6_220 fs_J6_bitCount_0f7a4 rfl (c_J6_bitCount_0f7a4 hs (d := d - 1) (by omega) (w := w7) v4 (kc := 0) (ks := 0)) (by omega) (st := [.int (nI 1), .int v2]) (Nat.le_of_ble_eq_true rfl) rfl (kr_P fun v13 hv13 => ?_) kx_I
    obtain ⟨k13, rfl, hk13⟩ := hv13
    refine J_ishl (pc := 55) dX6_enoughSuffices_55 (J_absI fun x14 => ?_)
    refine J_icmp_lt (pc := 56) (tgt := 63) dX6_enoughSuffices_56 (by decide) (fun ht15 => ?_) (fun hf16 => ?_)
    · refine J_iconst (pc := 63) (v := nI 0) dX6_enoughSuffices_63 (by decide) ?_
      exact J_zret (pc := 64) dX6_enoughSuffices_64 rfl (nar_b (by omega)) ⟨⟨0, rfl, by omega⟩, ⟨hS7, hG7⟩⟩
    · refine J_iconst (pc := 59) (v := nI 1) dX6_enoughSuffices_59 (by decide) ?_
      refine J_goto (pc := 60) (tgt := 64) dX6_enoughSuffices_60 (by decide) ?_
      exact J_zret (pc := 64) dX6_enoughSuffices_64 rfl (nar_b (by omega)) ⟨⟨1, rfl, by omega⟩, ⟨hS7, hG7⟩⟩
set_option maxRecDepth 100000 in
set_option maxHeartbeats 4000000 in
theorem c_X6_allAgrees {X : jX} (hs : X.1.stackTraces = false) {d : Nat} (hd : 6 ≤ d) {n : Nat} {e r q : Int32} (hn1 : 2 ≤ n) (hn2 : n ≤ 7) {w : List jC} (hS : SH (rX n e r q) w) {kc ks : Nat} : jMet X mX6_allAgrees d kc ks [.ref 0] w (pI (fun v => ∃ k : Nat, v = nI k ∧ k < 2) (fun w' => rS n e r q w w')) := by
  refine jMet_of hs (by decide +kernel) (Nat.le_of_ble_eq_true rfl) (L := [some (.ref 0)]) rfl ?_
  have hG : Fr kX w w := Fr.rf
  refine J_aload_n (pc := 0) dX6_allAgrees_0 rfl rfl rfl ?_
  obtain ⟨_, hc2, rfl⟩ := hS 0 _ rfl
  refine J_callV0 (pc := 1) (M := mX6_allAgrees) (as := []) dX6_allAgrees_1 fw_X6_sizesAgree fl_X6_268 fm_X6_sizesAgree fe_X6_sizesAgree hc2 (by decide) rfl rfl rfl (c_X6_sizesAgree hs (d := d - 1) (by omega) (e := e) (r := r) (q := q) hn1 hn2 hS (w := w)  (kc := 0) (ks := 0)) (by omega) (st := []) (Nat.le_of_ble_eq_true rfl) rfl (kr_P fun v1 hv1 => ?_) kx_I
  obtain ⟨k1, rfl, hk1⟩ := hv1
  refine J_if_eqN (pc := 4) (tgt := 55) dX6_allAgrees_4 (by decide) (by omega) (fun ht3 => ?_) (fun hf4 => ?_)
  · refine J_iconst (pc := 55) (v := nI 0) dX6_allAgrees_55 (by decide) ?_
    exact J_zret (pc := 56) dX6_allAgrees_56 rfl (nar_b (by omega)) ⟨⟨0, rfl, by omega⟩, ⟨hS, hG⟩⟩
  · refine J_aload_n (pc := 7) dX6_allAgrees_7 rfl rfl rfl ?_
    refine J_callV0 (pc := 8) (M := mX6_allAgrees) (as := []) dX6_allAgrees_8 fw_X6_ranksAgree fl_X6_271 fm_X6_ranksAgree fe_X6_ranksAgree hc2 (by decide) rfl rfl rfl (c_X6_ranksAgree hs (d := d - 1) (by omega) (e := e) (r := r) (q := q) hn1 hn2 hS (w := w)  (kc := 0) (ks := 0)) (by omega) (st := []) (Nat.le_of_ble_eq_true rfl) rfl (kr_P fun v5 hv5 => ?_) kx_I
    obtain ⟨k5, rfl, hk5⟩ := hv5
    refine J_if_eqN (pc := 11) (tgt := 55) dX6_allAgrees_11 (by decide) (by omega) (fun ht6 => ?_) (fun hf7 => ?_)
    · refine J_iconst (pc := 55) (v := nI 0) dX6_allAgrees_55 (by decide) ?_
      exact J_zret (pc := 56) dX6_allAgrees_56 rfl (nar_b (by omega)) ⟨⟨0, rfl, by omega⟩, ⟨hS, hG⟩⟩
    · refine J_aload_n (pc := 14) dX6_allAgrees_14 rfl rfl rfl ?_
      refine J_callV0 (pc := 15) (M := mX6_allAgrees) (as := []) dX6_allAgrees_15 fw_X6_signsAgree fl_X6_274 fm_X6_signsAgree fe_X6_signsAgree hc2 (by decide) rfl rfl rfl (c_X6_signsAgree hs (d := d - 1) (by omega) (e := e) (r := r) (q := q) hn1 hn2 hS (w := w)  (kc := 0) (ks := 0)) (by omega) (st := []) (Nat.le_of_ble_eq_true rfl) rfl (kr_P fun v8 hv8 => ?_) kx_I
      obtain ⟨k8, rfl, hk8⟩ := hv8
      refine J_if_eqN (pc := 18) (tgt := 55) dX6_allAgrees_18 (by decide) (by omega) (fun ht9 => ?_) (fun hf10 => ?_)
      · refine J_iconst (pc := 55) (v := nI 0) dX6_allAgrees_55 (by decide) ?_
        exact J_zret (pc := 56) dX6_allAgrees_56 rfl (nar_b (by omega)) ⟨⟨0, rfl, by omega⟩, ⟨hS, hG⟩⟩
      · refine J_aload_n (pc := 21) dX6_allAgrees_21 rfl rfl rfl ?_
        refine J_get (pc := 22) (k := 1) dX6_allAgrees_22 kC7 (by decide) ff_X6_16 hc2 rfl ?_
        refine J_aload_n (pc := 25) dX6_allAgrees_25 rfl rfl rfl ?_
        refine J_get (pc := 26) (k := 0) dX6_allAgrees_26 kC7 (by decide) ff_X6_9 hc2 rfl ?_
        refine J_bipush (pc := 29) (v := nI 63) dX6_allAgrees_29 (by decide) ?_
        obtain ⟨_, hc12, ka12, kf12, kb12, kg12, rfl, hb12_0, hb12_1⟩ := hS 2 _ rfl
        refine J_callV0 (pc := 31) (M := mX6_allAgrees) (as := [.ref 1, .int (nI 63)]) dX6_allAgrees_31 fw_X0_holdsAll fl_X6_209 fm_X0_holdsAll fe_X0_holdsAll hc12 (by decide) rfl rfl rfl (c_X0_holdsAll hs (d := d - 1) (by omega) (e := e) (r := r) (q := q) hn1 hn2 hS (w := w) (nI 63) (kc := 0) (ks := 0)) (by omega) (st := []) (Nat.le_of_ble_eq_true rfl) rfl (kr_P fun v11 hv11 => ?_) kx_I
        obtain ⟨k11, rfl, hk11⟩ := hv11
        refine J_if_eqN (pc := 34) (tgt := 55) dX6_allAgrees_34 (by decide) (by omega) (fun ht13 => ?_) (fun hf14 => ?_)
        · refine J_iconst (pc := 55) (v := nI 0) dX6_allAgrees_55 (by decide) ?_
          exact J_zret (pc := 56) dX6_allAgrees_56 rfl (nar_b (by omega)) ⟨⟨0, rfl, by omega⟩, ⟨hS, hG⟩⟩
        · refine J_aload_n (pc := 37) dX6_allAgrees_37 rfl rfl rfl ?_
          refine J_callV0 (pc := 38) (M := mX6_allAgrees) (as := []) dX6_allAgrees_38 fw_X6_colouringsAgree fl_X6_277 fm_X6_colouringsAgree fe_X6_colouringsAgree hc2 (by decide) rfl rfl rfl (c_X6_colouringsAgree hs (d := d - 1) (by omega) (e := e) (r := r) (q := q) hn1 hn2 hS (w := w)  (kc := 0) (ks := 0)) (by omega) (st := []) (Nat.le_of_ble_eq_true rfl) rfl (kr_I fun v15 w15 hv15 hw15 => ?_) kx_I
          obtain ⟨k15, rfl, hk15⟩ := hv15
          obtain ⟨hS15, hF15⟩ := hw15
          have hG15 := hG.tr hF15
          refine J_if_eqN (pc := 41) (tgt := 55) dX6_allAgrees_41 (by decide) (by omega) (fun ht16 => ?_) (fun hf17 => ?_)
          · refine J_iconst (pc := 55) (v := nI 0) dX6_allAgrees_55 (by decide) ?_
            exact J_zret (pc := 56) dX6_allAgrees_56 rfl (nar_b (by omega)) ⟨⟨0, rfl, by omega⟩, ⟨hS15, hG15⟩⟩
          · refine J_aload_n (pc := 44) dX6_allAgrees_44 rfl rfl rfl ?_
            obtain ⟨_, hc19, rfl⟩ := hS15 0 _ rfl
            refine J_callV0 (pc := 45) (M := mX6_allAgrees) (as := []) dX6_allAgrees_45 fw_X6_enoughSuffices fl_X6_280 fm_X6_enoughSuffices fe_X6_enoughSuffices hc19 (by decide) rfl rfl rfl (c_X6_enoughSuffices hs (d := d - 1) (by omega) (e := e) (r := r) (q := q) hn1 hn2 hS15 (w := w15)  (kc := 0) (ks := 0)) (by omega) (st := []) (Nat.le_of_ble_eq_true rfl) rfl (kr_I fun v18 w18 hv18 hw18 => ?_) kx_I
            obtain ⟨k18, rfl, hk18⟩ := hv18
            obtain ⟨hS18, hF18⟩ := hw18
            have hG18 := hG15.tr hF18
            refine J_if_eqN (pc := 48) (tgt := 55) dX6_allAgrees_48 (by decide) (by omega) (fun ht20 => ?_) (fun hf21 => ?_)
            · refine J_iconst (pc := 55) (v := nI 0) dX6_allAgrees_55 (by decide) ?_
              exact J_zret (pc := 56) dX6_allAgrees_56 rfl (nar_b (by omega)) ⟨⟨0, rfl, by omega⟩, ⟨hS18, hG18⟩⟩
            · refine J_iconst (pc := 51) (v := nI 1) dX6_allAgrees_51 (by decide) ?_
              refine J_goto (pc := 52) (tgt := 56) dX6_allAgrees_52 (by decide) ?_
              exact J_zret (pc := 56) dX6_allAgrees_56 rfl (nar_b (by omega)) ⟨⟨1, rfl, by omega⟩, ⟨hS18, hG18⟩⟩
set_option maxRecDepth 100000 in
set_option maxHeartbeats 4000000 in
theorem c_X6_isSound {X : jX} (hs : X.1.stackTraces = false) {d : Nat} (hd : 7 ≤ d) {n : Nat} {e r q : Int32} (hn1 : 2 ≤ n) (hn2 : n ≤ 7) {w : List jC} (hS : SH (rX n e r q) w) {kc ks : Nat} : jMet X mX6_isSound d kc ks [.ref 0] w (pI (fun v => ∃ k : Nat, v = nI k ∧ k < 2) (fun w' => rS n e r q w w')) := by
  refine jMet_of hs (by decide +kernel) (Nat.le_of_ble_eq_true rfl) (L := [some (.ref 0)]) rfl ?_
  have hG : Fr kX w w := Fr.rf
  refine J_aload_n (pc := 0) dX6_isSound_0 rfl rfl rfl ?_
  obtain ⟨_, hc2, rfl⟩ := hS 0 _ rfl
  refine J_callV0 (pc := 1) (M := mX6_isSound) (as := []) dX6_isSound_1 fw_X6_raiseAll fl_X6_228 fm_X6_raiseAll fe_X6_raiseAll hc2 (by decide) rfl rfl rfl (c_X6_raiseAll hs (d := d - 1) (by omega) (e := e) (r := r) (q := q) hn1 hn2 hS (w := w)  (kc := 0) (ks := 0)) (by omega) (st := []) (Nat.le_of_ble_eq_true rfl) rfl (kr_V fun w1 hw1 => ?_) kx_V
  obtain ⟨hS1, hF1⟩ := hw1
  have hG1 := hG.tr hF1
  refine J_aload_n (pc := 4) dX6_isSound_4 rfl rfl rfl ?_
  obtain ⟨_, hc4, rfl⟩ := hS1 0 _ rfl
  refine J_callV0 (pc := 5) (M := mX6_isSound) (as := []) dX6_isSound_5 fw_X6_allAgrees fl_X6_231 fm_X6_allAgrees fe_X6_allAgrees hc4 (by decide) rfl rfl rfl (c_X6_allAgrees hs (d := d - 1) (by omega) (e := e) (r := r) (q := q) hn1 hn2 hS1 (w := w1)  (kc := 0) (ks := 0)) (by omega) (st := []) (Nat.le_of_ble_eq_true rfl) rfl (kr_I fun v3 w3 hv3 hw3 => ?_) kx_I
  obtain ⟨k3, rfl, hk3⟩ := hv3
  obtain ⟨hS3, hF3⟩ := hw3
  have hG3 := hG1.tr hF3
  exact J_zret (pc := 8) dX6_isSound_8 rfl (nar_b (by omega)) ⟨⟨k3, rfl, by omega⟩, ⟨hS3, hG3⟩⟩
end
section
/-! exact contracts of the class: espec1 -/
set_option maxRecDepth 100000 in
set_option maxHeartbeats 4000000 in
theorem c_X6_has_atx {X : jX} (hs : X.1.stackTraces = false) {d : Nat} (hd : 0 ≤ d) {w : List jC} (m : Nat) (s : Nat) (hy0 : m < 2 ^ 31) (hy1 : s < 32) {kc ks : Nat} : jMet X mX6_has d kc ks [.int (nI m), .int (nI s)] w (pI (fun v => (v = nI 0 ∧ m.testBit s = false) ∨ (v = nI 1 ∧ m.testBit s = true)) (fun w' => w' = w)) := by
  refine jMet_of hs (by decide +kernel) (Nat.le_of_ble_eq_true rfl) (L := [some (.int (nI m)), some (.int (nI s))]) rfl ?_
  have h0 := Nat.div_le_self m (2 ^ s)
  have h1 := Nat.mod_lt (m / 2 ^ s) (show 0 < 2 ^ 1 by decide)
  refine J_iload_n (pc := 0) dX6_has_0 rfl rfl ?_
  refine J_iload_n (pc := 1) dX6_has_1 rfl rfl ?_
  refine J_ishrN (pc := 2) dX6_has_2 (by omega) (by omega) ?_
  refine J_iconst (pc := 3) (v := nI 1) dX6_has_3 (by decide) ?_
  refine J_iandN (pc := 4) 1 dX6_has_4 (by omega) (by decide) ?_
  refine J_iconst (pc := 5) (v := nI 1) dX6_has_5 (by decide) ?_
  refine J_icmp_neN (pc := 6) (tgt := 13) dX6_has_6 (by decide) (by omega) (by omega) (fun ht1 => ?_) (fun hf2 => ?_)
  · refine J_iconst (pc := 13) (v := nI 0) dX6_has_13 (by decide) ?_
    exact J_zret (pc := 14) dX6_has_14 rfl (nar_b (by first | decide | omega)) ⟨Or.inl ⟨rfl, (by exact tb_0 (by assumption))⟩, rfl⟩
  · refine J_iconst (pc := 9) (v := nI 1) dX6_has_9 (by decide) ?_
    refine J_goto (pc := 10) (tgt := 14) dX6_has_10 (by decide) ?_
    exact J_zret (pc := 14) dX6_has_14 rfl (nar_b (by first | decide | omega)) ⟨Or.inr (⟨rfl, (by exact tb_1 (by assumption))⟩), rfl⟩
set_option maxRecDepth 100000 in
set_option maxHeartbeats 4000000 in
theorem c_X6_howManyBelow_atx {X : jX} (hs : X.1.stackTraces = false) {d : Nat} (hd : 1 ≤ d) {w : List jC} (m : Nat) (s : Nat) (hy0 : m < 2 ^ 31) (hy1 : s < 31) {kc ks : Nat} : jMet X mX6_howManyBelow d kc ks [.int (nI m), .int (nI s)] w (pI (fun v => v = nI (cnt (fun i => m.testBit i) s)) (fun w' => w' = w)) := by
  refine jMet_of hs (by decide +kernel) (Nat.le_of_ble_eq_true rfl) (L := [some (.int (nI m)), some (.int (nI s))]) rfl ?_
  have hdm : 0 ≤ d - 1 := by omega
  have hdp : d - 1 + 1 ≤ d := by omega
  refine J_iload_n (pc := 0) dX6_howManyBelow_0 rfl rfl ?_
  refine J_iconst (pc := 1) (v := nI 1) dX6_howManyBelow_1 (by decide) ?_
  refine J_iload_n (pc := 2) dX6_howManyBelow_2 rfl rfl ?_
  refine J_shlOne (pc := 3) dX6_howManyBelow_3 (by omega) ?_
  refine J_iconst (pc := 4) (v := nI 1) dX6_howManyBelow_4 (by decide) ?_
  refine J_isubN (pc := 5) dX6_howManyBelow_5 Nat.one_le_two_pow ?_
  refine J_iandP (pc := 6) dX6_howManyBelow_6 (by omega) (by omega) ?_
  refine J_callS0 (pc := 7) (M := mX6_howManyBelow) (as := [.int (nI (m % 2 ^ s))]) dX6_howManyBelow_7 fw_J6_bitCount_0f7a4 fl_X6_220 fs_J6_bitCount_0f7a4 rfl (c_J6_bitCount_0f7a4_atx hs (d := d - 1) (Nat.le_trans (by decide) hdm) (w := w) (nI (m % 2 ^ s)) (kc := 0) (ks := 0)) hdp (st := []) (Nat.le_of_ble_eq_true rfl) rfl (kr_P fun v1 hv1 => ?_) kx_I
  subst hv1
  exact J_iret (pc := 10) dX6_howManyBelow_10 rfl ⟨(congrArg nI (by exact pc_below hy0 (by omega))), rfl⟩
set_option maxRecDepth 100000 in
set_option maxHeartbeats 4000000 in
theorem c_X6_quotient_atx {X : jX} (hs : X.1.stackTraces = false) {d : Nat} (hd : 0 ≤ d) {w : List jC} (a : Nat) (s : Nat) (hy0 : a < 2 ^ 31) (hy1 : s < 2 ^ 31) (hy2 : 1 ≤ s) {kc ks : Nat} : jMet X mX6_quotient d kc ks [.int (nI a), .int (nI s)] w (pI (fun v => v = nI (a / s)) (fun w' => w' = w)) := by
  refine jMet_of hs (by decide +kernel) (Nat.le_of_ble_eq_true rfl) (L := [some (.int (nI a)), some (.int (nI s))]) rfl ?_
  refine J_iload_n (pc := 0) dX6_quotient_0 rfl rfl ?_
  refine J_iconst (pc := 1) (v := nI 1) dX6_quotient_1 (by decide) ?_
  refine J_icmp_geN (pc := 2) (tgt := 9) dX6_quotient_2 (by decide) (by omega) (by omega) (fun ht1 => ?_) (fun hf2 => ?_)
  · refine J_iload_n (pc := 9) dX6_quotient_9 rfl rfl ?_
    refine J_iload_n (pc := 10) dX6_quotient_10 rfl rfl ?_
    refine J_idivN (pc := 11) dX6_quotient_11 (by omega) (by omega) (by omega) ?_
    exact J_iret (pc := 12) dX6_quotient_12 rfl ⟨rfl, rfl⟩
  · exact absurd hf2 (by omega)
set_option maxRecDepth 100000 in
set_option maxHeartbeats 4000000 in
theorem c_X2_goal_atx {X : jX} (hs : X.1.stackTraces = false) {d : Nat} (hd : 0 ≤ d) {w : List jC} (x : Nat) (p : Nat) (hy0 : x < 2 ^ (3 * 7)) (hy1 : p < 8) {kc ks : Nat} : jMet X mX2_goal d kc ks [.int (nI x), .int (nI p)] w (pI (fun v => v = nI (d8 x p)) (fun w' => w' = w)) := by
  refine jMet_of hs (by decide +kernel) (Nat.le_of_ble_eq_true rfl) (L := [some (.int (nI x)), some (.int (nI p))]) rfl ?_
  have h31_0 := lt31 hy0
  refine J_iload_n (pc := 0) dX2_goal_0 rfl rfl ?_
  refine J_iconst (pc := 1) (v := nI 3) dX2_goal_1 (by decide) ?_
  refine J_iload_n (pc := 2) dX2_goal_2 rfl rfl ?_
  refine J_imulN (pc := 3) dX2_goal_3 ?_
  refine J_ishrN (pc := 4) dX2_goal_4 (by omega) (by omega) ?_
  refine J_bipush (pc := 5) (v := nI 7) dX2_goal_5 (by decide) ?_
  have hm1 := Nat.div_le_self x (2 ^ (3 * p))
  refine J_iandN (pc := 7) 3 dX2_goal_7 (by omega) (by decide) ?_
  have hq2 := d8_lt x p
  show J X mX2_goal d kc ks 8 [some (.int (nI x)), some (.int (nI p))] [.int (nI (d8 x p))] w _
  exact J_iret (pc := 8) dX2_goal_8 rfl ⟨rfl, rfl⟩
set_option maxRecDepth 100000 in
set_option maxHeartbeats 4000000 in
theorem c_X2_with_atx {X : jX} (hs : X.1.stackTraces = false) {d : Nat} (hd : 0 ≤ d) {w : List jC} (x : Nat) (p : Nat) (g : Nat) (hy0 : x < 2 ^ (3 * 7)) (hy1 : p < 7) (hy2 : g < 8) {kc ks : Nat} : jMet X mX2_with d kc ks [.int (nI x), .int (nI p), .int (nI g)] w (pI (fun v => v = nI (w8 x p g)) (fun w' => w' = w)) := by
  refine jMet_of hs (by decide +kernel) (Nat.le_of_ble_eq_true rfl) (L := [some (.int (nI x)), some (.int (nI p)), some (.int (nI g))]) rfl ?_
  have h31_0 := lt31 hy0
  refine J_iload_n (pc := 0) dX2_with_0 rfl rfl ?_
  refine J_bipush (pc := 1) (v := nI 7) dX2_with_1 (by decide) ?_
  refine J_iconst (pc := 3) (v := nI 3) dX2_with_3 (by decide) ?_
  refine J_iload_n (pc := 4) dX2_with_4 rfl rfl ?_
  refine J_imulN (pc := 5) dX2_with_5 ?_
  refine J_ishlN (pc := 6) dX2_with_6 (by omega) (by exact put31 (by decide) (by omega)) ?_
  refine J_iconst (pc := 7) (v := (-1)) dX2_with_7 (by decide) ?_
  refine J_inv (pc := 8) dX2_with_8 (by exact put31 (by decide) (by omega)) ?_
  refine J_iandM (pc := 9) dX2_with_9 (by omega) (nt_lt _) ?_
  refine J_iload_n (pc := 10) dX2_with_10 rfl rfl ?_
  refine J_iconst (pc := 11) (v := nI 3) dX2_with_11 (by decide) ?_
  refine J_iload_n (pc := 12) dX2_with_12 rfl rfl ?_
  refine J_imulN (pc := 13) dX2_with_13 ?_
  refine J_ishlN (pc := 14) dX2_with_14 (by omega) (by exact put31 hy2 (by omega)) ?_
  refine J_iorN (pc := 15) dX2_with_15 (by exact Nat.lt_of_le_of_lt Nat.and_le_left h31_0) (by exact put31 hy2 (by omega)) ?_
  exact J_iret (pc := 16) dX2_with_16 rfl ⟨(congrArg nI (by rfl)), rfl⟩
set_option maxRecDepth 100000 in
set_option maxHeartbeats 4000000 in
theorem c_X2_both_atx {X : jX} (hs : X.1.stackTraces = false) {d : Nat} (hd : 0 ≤ d) {w : List jC} (x : Nat) (y : Nat) (hy0 : x < 2 ^ (3 * 7)) (hy1 : y < 2 ^ (3 * 7)) {kc ks : Nat} : jMet X mX2_both d kc ks [.int (nI x), .int (nI y)] w (pI (fun v => v = nI (c7 x y)) (fun w' => w' = w)) := by
  refine jMet_of hs (by decide +kernel) (Nat.le_of_ble_eq_true rfl) (L := [some (.int (nI x)), some (.int (nI y)), none, none]) rfl ?_
  have h31_0 := lt31 hy0
  have h31_1 := lt31 hy1
  refine J_iconst (pc := 0) (v := nI 0) dX2_both_0 (by decide) ?_
  refine J_istore_n (pc := 1) dX2_both_1 rfl (by decide) rfl ?_
  show J X mX2_both d kc ks 2 [some (.int (nI x)), some (.int (nI y)), some (.int (nI 0)), none] [] w _
  refine J_iconst (pc := 2) (v := nI 0) dX2_both_2 (by decide) ?_
  refine J_istore_n (pc := 3) dX2_both_3 rfl (by decide) rfl ?_
  show J X mX2_both d kc ks 4 [some (.int (nI x)), some (.int (nI y)), some (.int (nI 0)), some (.int (nI 0))] [] w _
  have lp4_1 : ∀ (fuel : Nat) (g : Nat), (g ≤ 7) → (7 - g < fuel) → J X mX2_both d kc ks 4 [some (.int (nI x)), some (.int (nI y)), some (.int (nI (mk8 (fun p => d8 y (d8 x p)) g))), some (.int (nI (3 * g)))] [] w (pI (fun v => v = nI (c7 x y)) (fun w' => w' = w)) := by
    intro fuellp4_1
    induction fuellp4_1 with
    | zero => intros; omega
    | succ fuellp4_1 ihlp4_1 =>
      intro g hv4_0 hf2
      refine J_iload_n (pc := 4) dX2_both_4 rfl rfl ?_
      refine J_bipush (pc := 5) (v := nI 21) dX2_both_5 (by decide) ?_
      refine J_icmp_geN (pc := 7) (tgt := 34) dX2_both_7 (by decide) (by omega) (by omega) (fun ht3 => ?_) (fun hf4 => ?_)
      · refine J_iload_n (pc := 34) dX2_both_34 rfl rfl ?_
        exact J_iret (pc := 35) dX2_both_35 rfl ⟨(congrArg nI (by rw [show g = 7 by omega]; rfl)), rfl⟩
      · refine J_iload_n (pc := 10) dX2_both_10 rfl rfl ?_
        refine J_iload_n (pc := 11) dX2_both_11 rfl rfl ?_
        refine J_iconst (pc := 12) (v := nI 3) dX2_both_12 (by decide) ?_
        refine J_iload_n (pc := 13) dX2_both_13 rfl rfl ?_
        refine J_iload_n (pc := 14) dX2_both_14 rfl rfl ?_
        refine J_ishrN (pc := 15) dX2_both_15 (by omega) (by omega) ?_
        refine J_bipush (pc := 16) (v := nI 7) dX2_both_16 (by decide) ?_
        have hm5 := Nat.div_le_self x (2 ^ (3 * g))
        refine J_iandN (pc := 18) 3 dX2_both_18 (by omega) (by decide) ?_
        have hq6 := d8_lt x g
        show J X mX2_both d kc ks 19 [some (.int (nI x)), some (.int (nI y)), some (.int (nI (mk8 (fun p => d8 y (d8 x p)) g))), some (.int (nI (3 * g)))] [.int (nI (d8 x g)), .int (nI 3), .int (nI y), .int (nI (mk8 (fun p => d8 y (d8 x p)) g))] w _
        refine J_imulN (pc := 19) dX2_both_19 ?_
        refine J_ishrN (pc := 20) dX2_both_20 (by omega) (by omega) ?_
        refine J_bipush (pc := 21) (v := nI 7) dX2_both_21 (by decide) ?_
        have hm7 := Nat.div_le_self y (2 ^ (3 * (d8 x g)))
        refine J_iandN (pc := 23) 3 dX2_both_23 (by omega) (by decide) ?_
        have hq8 := d8_lt y (d8 x g)
        show J X mX2_both d kc ks 24 [some (.int (nI x)), some (.int (nI y)), some (.int (nI (mk8 (fun p => d8 y (d8 x p)) g))), some (.int (nI (3 * g)))] [.int (nI (d8 y (d8 x g))), .int (nI (mk8 (fun p => d8 y (d8 x p)) g))] w _
        refine J_iload_n (pc := 24) dX2_both_24 rfl rfl ?_
        refine J_ishlN (pc := 25) dX2_both_25 (by omega) (by exact put31 (d8_lt _ _) (by omega)) ?_
        refine J_iorN (pc := 26) dX2_both_26 (by exact Nat.lt_of_lt_of_le (mk8_lt (fun _ => d8_lt _ _) g) (Nat.pow_le_pow_right (by decide) (by omega))) (by exact put31 (d8_lt _ _) (by omega)) ?_
        refine J_istore_n (pc := 27) dX2_both_27 rfl (by decide) rfl ?_
        show J X mX2_both d kc ks 28 [some (.int (nI x)), some (.int (nI y)), some (.int (nI ((mk8 (fun p => d8 y (d8 x p)) g) ||| ((d8 y (d8 x g)) * 2 ^ (3 * g))))), some (.int (nI (3 * g)))] [] w _
        refine J_iincN (pc := 28) (b := 3) dX2_both_28 rfl (by decide) (by decide) rfl ?_
        show J X mX2_both d kc ks 31 [some (.int (nI x)), some (.int (nI y)), some (.int (nI ((mk8 (fun p => d8 y (d8 x p)) g) ||| ((d8 y (d8 x g)) * 2 ^ (3 * g))))), some (.int (nI ((3 * g) + 3)))] [] w _
        refine J_goto (pc := 31) (tgt := 4) dX2_both_31 (by decide) ?_
        exact J_sub (L' := [some (.int (nI x)), some (.int (nI y)), some (.int (nI (mk8 (fun p => d8 y (d8 x p)) (g + 1)))), some (.int (nI (3 * (g + 1))))]) ⟨rfl, ⟨rfl, ⟨(congrArg (fun z => some (Value.int (nI z))) (show (mk8 (fun p => d8 y (d8 x p)) g) ||| ((d8 y (d8 x g)) * 2 ^ (3 * g)) = mk8 (fun p => d8 y (d8 x p)) (g + 1) by exact or_mk8 (f := fun p => d8 y (d8 x p)) (fun _ => d8_lt _ _) g)), ⟨(congrArg (fun z => some (Value.int (nI z))) (show (3 * g) + 3 = 3 * (g + 1) by omega)), trivial⟩⟩⟩⟩ (ihlp4_1 (g + 1) (by first | assumption | omega) (by omega))
  exact J_sub (L' := [some (.int (nI x)), some (.int (nI y)), some (.int (nI (mk8 (fun p => d8 y (d8 x p)) 0))), some (.int (nI (3 * 0)))]) ⟨rfl, ⟨rfl, ⟨(congrArg (fun z => some (Value.int (nI z))) (show 0 = mk8 (fun p => d8 y (d8 x p)) 0 by rfl)), ⟨(congrArg (fun z => some (Value.int (nI z))) (show 0 = 3 * 0 by rfl)), trivial⟩⟩⟩⟩ (lp4_1 _ 0 (by first | assumption | omega) (Nat.lt_succ_self _))
set_option maxRecDepth 100000 in
set_option maxHeartbeats 4000000 in
theorem c_X2_undone_atx {X : jX} (hs : X.1.stackTraces = false) {d : Nat} (hd : 0 ≤ d) {w : List jC} (x : Nat) (hy0 : x < 2 ^ (3 * 7)) (hy1 : ∀ p, p < 7 → d8 x p < 7) (hy2 : ∀ p q, p < 7 → q < 7 → d8 x p = d8 x q → p = q) {kc ks : Nat} : jMet X mX2_undone d kc ks [.int (nI x)] w (pI (fun v => v = nI (i7 x)) (fun w' => w' = w)) := by
  refine jMet_of hs (by decide +kernel) (Nat.le_of_ble_eq_true rfl) (L := [some (.int (nI x)), none, none]) rfl ?_
  have h31_0 := lt31 hy0
  refine J_iconst (pc := 0) (v := nI 0) dX2_undone_0 (by decide) ?_
  refine J_istore_n (pc := 1) dX2_undone_1 rfl (by decide) rfl ?_
  show J X mX2_undone d kc ks 2 [some (.int (nI x)), some (.int (nI 0)), none] [] w _
  refine J_iconst (pc := 2) (v := nI 0) dX2_undone_2 (by decide) ?_
  refine J_istore_n (pc := 3) dX2_undone_3 rfl (by decide) rfl ?_
  show J X mX2_undone d kc ks 4 [some (.int (nI x)), some (.int (nI 0)), some (.int (nI 0))] [] w _
  have lp4_1 : ∀ (fuel : Nat) (c2 : Nat), (c2 ≤ 7) → (7 - c2 < fuel) → J X mX2_undone d kc ks 4 [some (.int (nI x)), some (.int (nI (mk8 (fun v => so (d8 x) v c2) 7))), some (.int (nI c2))] [] w (pI (fun v => v = nI (i7 x)) (fun w' => w' = w)) := by
    intro fuellp4_1
    induction fuellp4_1 with
    | zero => intros; omega
    | succ fuellp4_1 ihlp4_1 =>
      intro c2 hv4_0 hf2
      refine J_iload_n (pc := 4) dX2_undone_4 rfl rfl ?_
      refine J_bipush (pc := 5) (v := nI 7) dX2_undone_5 (by decide) ?_
      refine J_icmp_geN (pc := 7) (tgt := 31) dX2_undone_7 (by decide) (by omega) (by omega) (fun ht3 => ?_) (fun hf4 => ?_)
      · refine J_iload_n (pc := 31) dX2_undone_31 rfl rfl ?_
        exact J_iret (pc := 32) dX2_undone_32 rfl ⟨(congrArg nI (by rw [show c2 = 7 by omega]; rfl)), rfl⟩
      · refine J_iload_n (pc := 10) dX2_undone_10 rfl rfl ?_
        refine J_iload_n (pc := 11) dX2_undone_11 rfl rfl ?_
        refine J_iconst (pc := 12) (v := nI 3) dX2_undone_12 (by decide) ?_
        refine J_iload_n (pc := 13) dX2_undone_13 rfl rfl ?_
        refine J_iconst (pc := 14) (v := nI 3) dX2_undone_14 (by decide) ?_
        refine J_iload_n (pc := 15) dX2_undone_15 rfl rfl ?_
        refine J_imulN (pc := 16) dX2_undone_16 ?_
        refine J_ishrN (pc := 17) dX2_undone_17 (by omega) (by omega) ?_
        refine J_bipush (pc := 18) (v := nI 7) dX2_undone_18 (by decide) ?_
        have hm5 := Nat.div_le_self x (2 ^ (3 * c2))
        refine J_iandN (pc := 20) 3 dX2_undone_20 (by omega) (by decide) ?_
        have hq6 := d8_lt x c2
        show J X mX2_undone d kc ks 21 [some (.int (nI x)), some (.int (nI (mk8 (fun v => so (d8 x) v c2) 7))), some (.int (nI c2))] [.int (nI (d8 x c2)), .int (nI 3), .int (nI c2), .int (nI (mk8 (fun v => so (d8 x) v c2) 7))] w _
        refine J_imulN (pc := 21) dX2_undone_21 ?_
        refine J_ishlN (pc := 22) dX2_undone_22 (by omega) (by exact put31 (by omega) (d8_lt _ _)) ?_
        refine J_iorN (pc := 23) dX2_undone_23 (by exact lt31 (mk8_lt (fun v => so_lt8 _ v _ (by omega)) 7)) (by exact put31 (by omega) (d8_lt _ _)) ?_
        refine J_istore_n (pc := 24) dX2_undone_24 rfl (by decide) rfl ?_
        show J X mX2_undone d kc ks 25 [some (.int (nI x)), some (.int (nI ((mk8 (fun v => so (d8 x) v c2) 7) ||| (c2 * 2 ^ (3 * (d8 x c2)))))), some (.int (nI c2))] [] w _
        refine J_iincN (pc := 25) (b := 1) dX2_undone_25 rfl (by decide) (by decide) rfl ?_
        show J X mX2_undone d kc ks 28 [some (.int (nI x)), some (.int (nI ((mk8 (fun v => so (d8 x) v c2) 7) ||| (c2 * 2 ^ (3 * (d8 x c2)))))), some (.int (nI (c2 + 1)))] [] w _
        refine J_goto (pc := 28) (tgt := 4) dX2_undone_28 (by decide) ?_
        exact J_sub (L' := [some (.int (nI x)), some (.int (nI (mk8 (fun v => so (d8 x) v (c2 + 1)) 7))), some (.int (nI (c2 + 1)))]) ⟨rfl, ⟨(congrArg (fun z => some (Value.int (nI z))) (show (mk8 (fun v => so (d8 x) v c2) 7) ||| (c2 * 2 ^ (3 * (d8 x c2))) = mk8 (fun v => so (d8 x) v (c2 + 1)) 7 by exact so_step (by omega) hy1 hy2)), ⟨rfl, trivial⟩⟩⟩ (ihlp4_1 (c2 + 1) (by first | assumption | omega) (by omega))
  exact J_sub (L' := [some (.int (nI x)), some (.int (nI (mk8 (fun v => so (d8 x) v 0) 7))), some (.int (nI 0))]) ⟨rfl, ⟨(congrArg (fun z => some (Value.int (nI z))) (show 0 = mk8 (fun v => so (d8 x) v 0) 7 by exact (mk8_0 7).symm)), ⟨rfl, trivial⟩⟩⟩ (lp4_1 _ 0 (by first | assumption | omega) (Nat.lt_succ_self _))
set_option maxRecDepth 100000 in
set_option maxHeartbeats 4000000 in
theorem c_X2_often_atx {X : jX} (hs : X.1.stackTraces = false) {d : Nat} (hd : 1 ≤ d) {w : List jC} (x : Nat) (t : Nat) (hy0 : x < 2 ^ (3 * 7)) (hy1 : t < 2 ^ 31) {kc ks : Nat} : jMet X mX2_often d kc ks [.int (nI x), .int (nI t)] w (pI (fun v => v = nI (it7 x t)) (fun w' => w' = w)) := by
  refine jMet_of hs (by decide +kernel) (Nat.le_of_ble_eq_true rfl) (L := [some (.int (nI x)), some (.int (nI t)), none, none]) rfl ?_
  have hdm : 0 ≤ d - 1 := by omega
  have hdp : d - 1 + 1 ≤ d := by omega
  refine J_ldc (pc := 0) (v := nI 1754760) dX2_often_0 (by have := fk_X2_11; exact this) ?_
  refine J_istore_n (pc := 2) dX2_often_2 rfl (by decide) rfl ?_
  show J X mX2_often d kc ks 3 [some (.int (nI x)), some (.int (nI t)), some (.int (nI 1754760)), none] [] w _
  refine J_iconst (pc := 3) (v := nI 0) dX2_often_3 (by decide) ?_
  refine J_istore_n (pc := 4) dX2_often_4 rfl (by decide) rfl ?_
  show J X mX2_often d kc ks 5 [some (.int (nI x)), some (.int (nI t)), some (.int (nI 1754760)), some (.int (nI 0))] [] w _
  have lp5_1 : ∀ (fuel : Nat) (c3 : Nat), (c3 ≤ t) → (t - c3 < fuel) → J X mX2_often d kc ks 5 [some (.int (nI x)), some (.int (nI t)), some (.int (nI (it7 x c3))), some (.int (nI c3))] [] w (pI (fun v => v = nI (it7 x t)) (fun w' => w' = w)) := by
    intro fuellp5_1
    induction fuellp5_1 with
    | zero => intros; omega
    | succ fuellp5_1 ihlp5_1 =>
      intro c3 hv5_0 hf2
      refine J_iload_n (pc := 5) dX2_often_5 rfl rfl ?_
      refine J_iload_n (pc := 6) dX2_often_6 rfl rfl ?_
      refine J_icmp_geN (pc := 7) (tgt := 22) dX2_often_7 (by decide) (by omega) (by omega) (fun ht3 => ?_) (fun hf4 => ?_)
      · refine J_iload_n (pc := 22) dX2_often_22 rfl rfl ?_
        exact J_iret (pc := 23) dX2_often_23 rfl ⟨(congrArg nI (by rw [show c3 = t by omega])), rfl⟩
      · refine J_iload_n (pc := 10) dX2_often_10 rfl rfl ?_
        refine J_iload_n (pc := 11) dX2_often_11 rfl rfl ?_
        refine J_callS0 (pc := 12) (M := mX2_often) (as := [.int (nI (it7 x c3)), .int (nI x)]) dX2_often_12 fw_X2_both fl_X2_12 fs_X2_both rfl (c_X2_both_atx hs (d := d - 1) (Nat.le_trans (by decide) hdm) (w := w) (it7 x c3) x (by exact it7_lt x c3) (by first | assumption | omega) (kc := 0) (ks := 0)) hdp (st := []) (Nat.le_of_ble_eq_true rfl) rfl (kr_P fun v5 hv5 => ?_) kx_I
        subst hv5
        refine J_istore_n (pc := 15) dX2_often_15 rfl (by decide) rfl ?_
        show J X mX2_often d kc ks 16 [some (.int (nI x)), some (.int (nI t)), some (.int (nI (c7 (it7 x c3) x))), some (.int (nI c3))] [] w _
        refine J_iincN (pc := 16) (b := 1) dX2_often_16 rfl (by decide) (by decide) rfl ?_
        show J X mX2_often d kc ks 19 [some (.int (nI x)), some (.int (nI t)), some (.int (nI (c7 (it7 x c3) x))), some (.int (nI (c3 + 1)))] [] w _
        refine J_goto (pc := 19) (tgt := 5) dX2_often_19 (by decide) ?_
        exact J_sub (L' := [some (.int (nI x)), some (.int (nI t)), some (.int (nI (it7 x (c3 + 1)))), some (.int (nI (c3 + 1)))]) ⟨rfl, ⟨rfl, ⟨(congrArg (fun z => some (Value.int (nI z))) (show c7 (it7 x c3) x = it7 x (c3 + 1) by rfl)), ⟨rfl, trivial⟩⟩⟩⟩ (ihlp5_1 (c3 + 1) (by first | assumption | omega) (by omega))
  exact J_sub (L' := [some (.int (nI x)), some (.int (nI t)), some (.int (nI (it7 x 0))), some (.int (nI 0))]) ⟨rfl, ⟨rfl, ⟨(congrArg (fun z => some (Value.int (nI z))) (show 1754760 = it7 x 0 by rfl)), ⟨rfl, trivial⟩⟩⟩⟩ (lp5_1 _ 0 (by first | assumption | omega) (Nat.lt_succ_self _))
set_option maxRecDepth 100000 in
set_option maxHeartbeats 4000000 in
theorem c_X2_factorial_atx {X : jX} (hs : X.1.stackTraces = false) {d : Nat} (hd : 0 ≤ d) {w : List jC} (t : Nat) (hy0 : t ≤ 12) {kc ks : Nat} : jMet X mX2_factorial d kc ks [.int (nI t)] w (pI (fun v => v = nI (fc t)) (fun w' => w' = w)) := by
  refine jMet_of hs (by decide +kernel) (Nat.le_of_ble_eq_true rfl) (L := [some (.int (nI t)), none, none]) rfl ?_
  refine J_iconst (pc := 0) (v := nI 1) dX2_factorial_0 (by decide) ?_
  refine J_istore_n (pc := 1) dX2_factorial_1 rfl (by decide) rfl ?_
  show J X mX2_factorial d kc ks 2 [some (.int (nI t)), some (.int (nI 1)), none] [] w _
  refine J_iconst (pc := 2) (v := nI 2) dX2_factorial_2 (by decide) ?_
  refine J_istore_n (pc := 3) dX2_factorial_3 rfl (by decide) rfl ?_
  show J X mX2_factorial d kc ks 4 [some (.int (nI t)), some (.int (nI 1)), some (.int (nI 2))] [] w _
  have lp4_1 : ∀ (fuel : Nat) (y1 : Nat) (c2 : Nat), (2 ≤ c2) → (c2 ≤ t + 1 ∨ c2 = 2) → (y1 = fc (c2 - 1)) → (t + 1 - c2 < fuel) → J X mX2_factorial d kc ks 4 [some (.int (nI t)), some (.int (nI y1)), some (.int (nI c2))] [] w (pI (fun v => v = nI (fc t)) (fun w' => w' = w)) := by
    intro fuellp4_1
    induction fuellp4_1 with
    | zero => intros; omega
    | succ fuellp4_1 ihlp4_1 =>
      intro y1 c2 hv4_0 hv4_1 hv4_2 hf2
      refine J_iload_n (pc := 4) dX2_factorial_4 rfl rfl ?_
      refine J_iload_n (pc := 5) dX2_factorial_5 rfl rfl ?_
      refine J_icmp_gtN (pc := 6) (tgt := 19) dX2_factorial_6 (by decide) (by omega) (by omega) (fun ht3 => ?_) (fun hf4 => ?_)
      · refine J_iload_n (pc := 19) dX2_factorial_19 rfl rfl ?_
        exact J_iret (pc := 20) dX2_factorial_20 rfl ⟨(congrArg nI (by rw [hv4_2]; exact fc_end hv4_0 (by omega) hv4_1)), rfl⟩
      · refine J_iload_n (pc := 9) dX2_factorial_9 rfl rfl ?_
        refine J_iload_n (pc := 10) dX2_factorial_10 rfl rfl ?_
        refine J_imulN (pc := 11) dX2_factorial_11 ?_
        refine J_istore_n (pc := 12) dX2_factorial_12 rfl (by decide) rfl ?_
        show J X mX2_factorial d kc ks 13 [some (.int (nI t)), some (.int (nI (y1 * c2))), some (.int (nI c2))] [] w _
        refine J_iincN (pc := 13) (b := 1) dX2_factorial_13 rfl (by decide) (by decide) rfl ?_
        show J X mX2_factorial d kc ks 16 [some (.int (nI t)), some (.int (nI (y1 * c2))), some (.int (nI (c2 + 1)))] [] w _
        refine J_goto (pc := 16) (tgt := 4) dX2_factorial_16 (by decide) ?_
        exact J_sub (L' := [some (.int (nI t)), some (.int (nI (y1 * c2))), some (.int (nI (c2 + 1)))]) ⟨rfl, ⟨rfl, ⟨rfl, trivial⟩⟩⟩ (ihlp4_1 (y1 * c2) (c2 + 1) (by first | assumption | omega) (by exact Or.inl (by omega)) (by rw [hv4_2, Nat.add_sub_cancel]; exact fc_s (by omega)) (by omega))
  exact J_sub (L' := [some (.int (nI t)), some (.int (nI 1)), some (.int (nI 2))]) ⟨rfl, ⟨rfl, ⟨rfl, trivial⟩⟩⟩ (lp4_1 _ 1 2 (by first | assumption | omega) (by exact Or.inr rfl) (by rfl) (Nat.lt_succ_self _))
set_option maxRecDepth 100000 in
set_option maxHeartbeats 4000000 in
theorem c_X2_numberOf_atx {X : jX} (hs : X.1.stackTraces = false) {d : Nat} (hd : 2 ≤ d) {w : List jC} (x : Nat) (k : Nat) (hy0 : x < 2 ^ (3 * 7)) (hy1 : k ≤ 7) (hy2 : Pn k (d8 x)) {kc ks : Nat} : jMet X mX2_numberOf d kc ks [.int (nI x), .int (nI k)] w (pI (fun v => v = nI (nuF (d8 x) 0 k k)) (fun w' => w' = w)) := by
  refine jMet_of hs (by decide +kernel) (Nat.le_of_ble_eq_true rfl) (L := [some (.int (nI x)), some (.int (nI k)), none, none, none, none]) rfl ?_
  have hdm : 1 ≤ d - 1 := by omega
  have hdp : d - 1 + 1 ≤ d := by omega
  have h31_0 := lt31 hy0
  have h2k : 2 ^ k ≤ 128 := Nat.le_trans (Nat.pow_le_pow_right (by decide) hy1) (by decide)
  refine J_iconst (pc := 0) (v := nI 0) dX2_numberOf_0 (by decide) ?_
  refine J_istore_n (pc := 1) dX2_numberOf_1 rfl (by decide) rfl ?_
  show J X mX2_numberOf d kc ks 2 [some (.int (nI x)), some (.int (nI k)), some (.int (nI 0)), none, none, none] [] w _
  refine J_iconst (pc := 2) (v := nI 1) dX2_numberOf_2 (by decide) ?_
  refine J_iload_n (pc := 3) dX2_numberOf_3 rfl rfl ?_
  refine J_shlOne (pc := 4) dX2_numberOf_4 (by omega) ?_
  refine J_iconst (pc := 5) (v := nI 1) dX2_numberOf_5 (by decide) ?_
  refine J_isubN (pc := 6) dX2_numberOf_6 Nat.one_le_two_pow ?_
  refine J_istore_n (pc := 7) dX2_numberOf_7 rfl (by decide) rfl ?_
  show J X mX2_numberOf d kc ks 8 [some (.int (nI x)), some (.int (nI k)), some (.int (nI 0)), some (.int (nI (2 ^ k - 1))), none, none] [] w _
  refine J_iconst (pc := 8) (v := nI 0) dX2_numberOf_8 (by decide) ?_
  refine J_istore (pc := 9) dX2_numberOf_9 (by decide) rfl ?_
  show J X mX2_numberOf d kc ks 11 [some (.int (nI x)), some (.int (nI k)), some (.int (nI 0)), some (.int (nI (2 ^ k - 1))), some (.int (nI 0)), none] [] w _
  have lp11_1 : ∀ (fuel : Nat) (y2 : Nat) (y3 : Nat) (c4 : Nat), (c4 ≤ k) → (y2 = nuF (d8 x) 0 k c4) → (FM k (d8 x) c4 y3) → (k - c4 < fuel) → J X mX2_numberOf d kc ks 11 [some (.int (nI x)), some (.int (nI k)), some (.int (nI y2)), some (.int (nI y3)), some (.int (nI c4)), none] [] w (pI (fun v => v = nI (nuF (d8 x) 0 k k)) (fun w' => w' = w)) := by
    intro fuellp11_1
    induction fuellp11_1 with
    | zero => intros; omega
    | succ fuellp11_1 ihlp11_1 =>
      intro y2 y3 c4 hv11_0 hv11_1 hv11_2 hf2
      refine J_iload (pc := 11) dX2_numberOf_11 rfl ?_
      refine J_iload_n (pc := 13) dX2_numberOf_13 rfl rfl ?_
      refine J_icmp_geN (pc := 14) (tgt := 54) dX2_numberOf_14 (by decide) (by omega) (by omega) (fun ht3 => ?_) (fun hf4 => ?_)
      · refine J_iload_n (pc := 54) dX2_numberOf_54 rfl rfl ?_
        exact J_iret (pc := 55) dX2_numberOf_55 rfl ⟨(congrArg nI (by rw [hv11_1, show c4 = k by omega])), rfl⟩
      · refine J_iload_n (pc := 17) dX2_numberOf_17 rfl rfl ?_
        refine J_iload (pc := 18) dX2_numberOf_18 rfl ?_
        refine J_callS0 (pc := 20) (M := mX2_numberOf) (as := [.int (nI x), .int (nI c4)]) dX2_numberOf_20 fw_X2_goal fl_X2_16 fs_X2_goal rfl (c_X2_goal_atx hs (d := d - 1) (Nat.le_trans (by decide) hdm) (w := w) x c4 (by first | assumption | omega) (by omega) (kc := 0) (ks := 0)) hdp (st := []) (Nat.le_of_ble_eq_true rfl) rfl (kr_P fun v5 hv5 => ?_) kx_I
        subst hv5
        have hq6 := d8_lt x c4
        refine J_istore (pc := 23) dX2_numberOf_23 (by decide) rfl ?_
        show J X mX2_numberOf d kc ks 25 [some (.int (nI x)), some (.int (nI k)), some (.int (nI y2)), some (.int (nI y3)), some (.int (nI c4)), some (.int (nI (d8 x c4)))] [] w _
        have hg := hy2.1 c4 (by omega)
        refine J_iload_n (pc := 25) dX2_numberOf_25 rfl rfl ?_
        refine J_iload_n (pc := 26) dX2_numberOf_26 rfl rfl ?_
        refine J_iload (pc := 27) dX2_numberOf_27 rfl ?_
        refine J_isubN (pc := 29) dX2_numberOf_29 (by omega) ?_
        refine J_imulN (pc := 30) dX2_numberOf_30 ?_
        refine J_iload_n (pc := 31) dX2_numberOf_31 rfl rfl ?_
        refine J_iload (pc := 32) dX2_numberOf_32 rfl ?_
        refine J_callSN0 (pc := 34) (M := mX2_numberOf) (as := [.int (nI y3), .int (nI (d8 x c4))]) dX2_numberOf_34 fw_X6_howManyBelow fl_X2_19 fs_X6_howManyBelow rfl (c_X6_howManyBelow_atx hs (d := d - 1) (Nat.le_trans (by decide) hdm) (w := w) y3 (d8 x c4) (by exact hv11_2.1) (by omega) (kc := 0) (ks := 0)) hdp (st := [.int (nI (y2 * (k - c4)))]) (Nat.le_of_ble_eq_true rfl) rfl (kr_P fun v7 hv7 => ?_) kx_I
        subst hv7
        refine J_iaddN (pc := 37) dX2_numberOf_37 ?_
        refine J_istore_n (pc := 38) dX2_numberOf_38 rfl (by decide) rfl ?_
        show J X mX2_numberOf d kc ks 39 [some (.int (nI x)), some (.int (nI k)), some (.int (nI ((y2 * (k - c4)) + (cnt (fun i => y3.testBit i) (d8 x c4))))), some (.int (nI y3)), some (.int (nI c4)), some (.int (nI (d8 x c4)))] [] w _
        refine J_iload_n (pc := 39) dX2_numberOf_39 rfl rfl ?_
        refine J_iconst (pc := 40) (v := nI 1) dX2_numberOf_40 (by decide) ?_
        refine J_iload (pc := 41) dX2_numberOf_41 rfl ?_
        refine J_shlOne (pc := 43) dX2_numberOf_43 (by omega) ?_
        refine J_iconst (pc := 44) (v := (-1)) dX2_numberOf_44 (by decide) ?_
        refine J_inv (pc := 45) dX2_numberOf_45 (by exact Nat.lt_of_lt_of_le (Nat.pow_lt_pow_right (by decide) (by omega : d8 x c4 < 31)) (by decide)) ?_
        refine J_iandM (pc := 46) dX2_numberOf_46 (by exact Nat.lt_trans hv11_2.1 (by decide)) (nt_lt _) ?_
        refine J_istore_n (pc := 47) dX2_numberOf_47 rfl (by decide) rfl ?_
        show J X mX2_numberOf d kc ks 48 [some (.int (nI x)), some (.int (nI k)), some (.int (nI ((y2 * (k - c4)) + (cnt (fun i => y3.testBit i) (d8 x c4))))), some (.int (nI (y3 &&& (nt (2 ^ (d8 x c4)))))), some (.int (nI c4)), some (.int (nI (d8 x c4)))] [] w _
        refine J_iincN (pc := 48) (b := 1) dX2_numberOf_48 rfl (by decide) (by decide) rfl ?_
        show J X mX2_numberOf d kc ks 51 [some (.int (nI x)), some (.int (nI k)), some (.int (nI ((y2 * (k - c4)) + (cnt (fun i => y3.testBit i) (d8 x c4))))), some (.int (nI (y3 &&& (nt (2 ^ (d8 x c4)))))), some (.int (nI (c4 + 1))), some (.int (nI (d8 x c4)))] [] w _
        refine J_goto (pc := 51) (tgt := 11) dX2_numberOf_51 (by decide) ?_
        exact J_sub (L' := [some (.int (nI x)), some (.int (nI k)), some (.int (nI ((y2 * (k - c4)) + (cnt (fun i => y3.testBit i) (d8 x c4))))), some (.int (nI (y3 &&& (nt (2 ^ (d8 x c4)))))), some (.int (nI (c4 + 1))), none]) ⟨rfl, ⟨rfl, ⟨rfl, ⟨rfl, ⟨rfl, trivial⟩⟩⟩⟩⟩ (ihlp11_1 ((y2 * (k - c4)) + (cnt (fun i => y3.testBit i) (d8 x c4))) (y3 &&& (nt (2 ^ (d8 x c4)))) (c4 + 1) (by first | assumption | omega) (by rw [hv11_1, FM_below hv11_2 (by omega), cF_les hy2 (by omega)]; rfl) (by exact FM_s (by omega) hv11_2) (by omega))
  exact J_sub (L' := [some (.int (nI x)), some (.int (nI k)), some (.int (nI 0)), some (.int (nI (2 ^ k - 1))), some (.int (nI 0)), none]) ⟨rfl, ⟨rfl, ⟨rfl, ⟨rfl, ⟨rfl, trivial⟩⟩⟩⟩⟩ (lp11_1 _ 0 (2 ^ k - 1) 0 (by first | assumption | omega) (by rfl) (by exact FM_0 hy1 _) (Nat.lt_succ_self _))
set_option maxRecDepth 100000 in
set_option maxHeartbeats 4000000 in
theorem c_X2_bitAt_atx {X : jX} (hs : X.1.stackTraces = false) {d : Nat} (hd : 2 ≤ d) {w : List jC} (m : Nat) (i : Nat) (hy0 : m < 2 ^ 31) (hy1 : i < cnt (fun z => m.testBit z) 7) {kc ks : Nat} : jMet X mX2_bitAt d kc ks [.int (nI m), .int (nI i)] w (pI (fun v => ∃ j : Nat, v = nI j ∧ j < 7 ∧ m.testBit j = true ∧ cnt (fun z => m.testBit z) j = i) (fun w' => w' = w)) := by
  refine jMet_of hs (by decide +kernel) (Nat.le_of_ble_eq_true rfl) (L := [some (.int (nI m)), some (.int (nI i)), none]) rfl ?_
  have hdm : 1 ≤ d - 1 := by omega
  have hdp : d - 1 + 1 ≤ d := by omega
  obtain ⟨K, hK1, hK2, hK3⟩ := bit_at 7 hy1
  have hc7 := cnt_le (fun z => m.testBit z) 7
  refine J_iconst (pc := 0) (v := nI 0) dX2_bitAt_0 (by decide) ?_
  refine J_istore_n (pc := 1) dX2_bitAt_1 rfl (by decide) rfl ?_
  show J X mX2_bitAt d kc ks 2 [some (.int (nI m)), some (.int (nI i)), some (.int (nI 0))] [] w _
  have lp2_1 : ∀ (fuel : Nat) (c2 : Nat), (c2 ≤ K) → (7 - c2 < fuel) → J X mX2_bitAt d kc ks 2 [some (.int (nI m)), some (.int (nI i)), some (.int (nI c2))] [] w (pI (fun v => ∃ j : Nat, v = nI j ∧ j < 7 ∧ m.testBit j = true ∧ cnt (fun z => m.testBit z) j = i) (fun w' => w' = w)) := by
    intro fuellp2_1
    induction fuellp2_1 with
    | zero => intros; omega
    | succ fuellp2_1 ihlp2_1 =>
      intro c2 hv2_0 hf2
      refine J_iload_n (pc := 2) dX2_bitAt_2 rfl rfl ?_
      refine J_bipush (pc := 3) (v := nI 7) dX2_bitAt_3 (by decide) ?_
      refine J_icmp_geN (pc := 5) (tgt := 33) dX2_bitAt_5 (by decide) (by omega) (by omega) (fun ht3 => ?_) (fun hf4 => ?_)
      · refine J_iconst (pc := 33) (v := nI 0) dX2_bitAt_33 (by decide) ?_
        exact J_iret (pc := 34) dX2_bitAt_34 rfl ⟨⟨0, rfl, by exact absurd hK1 (by omega)⟩, rfl⟩
      · refine J_iload_n (pc := 8) dX2_bitAt_8 rfl rfl ?_
        refine J_iload_n (pc := 9) dX2_bitAt_9 rfl rfl ?_
        refine J_callSN0 (pc := 10) (M := mX2_bitAt) (as := [.int (nI m), .int (nI c2)]) dX2_bitAt_10 fw_X6_has fl_X2_36 fs_X6_has rfl (c_X6_has_atx hs (d := d - 1) (Nat.le_trans (by decide) hdm) (w := w) m c2 (by first | assumption | omega) (by first | assumption | omega) (kc := 0) (ks := 0)) hdp (st := []) (Nat.le_of_ble_eq_true rfl) rfl (kr_P fun v5 hv5 => ?_) kx_I
        rcases hv5 with ⟨rfl, hk5_0⟩ | ⟨rfl, hk5_0⟩
        · refine J_if_eqN (pc := 13) (tgt := 27) dX2_bitAt_13 (by decide) (by decide) (fun _ => ?_) (fun h => absurd h (by decide))
          refine J_iincN (pc := 27) (b := 1) dX2_bitAt_27 rfl (by decide) (by decide) rfl ?_
          show J X mX2_bitAt d kc ks 30 [some (.int (nI m)), some (.int (nI i)), some (.int (nI (c2 + 1)))] [] w _
          refine J_goto (pc := 30) (tgt := 2) dX2_bitAt_30 (by decide) ?_
          exact J_sub (L' := [some (.int (nI m)), some (.int (nI i)), some (.int (nI (c2 + 1)))]) ⟨rfl, ⟨rfl, ⟨rfl, trivial⟩⟩⟩ (ihlp2_1 (c2 + 1) (by first | exact bit_ne0 hv2_0 hK2 (by assumption) | exact bit_ne1 hv2_0 hK3 (by assumption)) (by omega))
        · refine J_if_eqN (pc := 13) (tgt := 27) dX2_bitAt_13 (by decide) (by decide) (fun h => absurd h (by decide)) (fun _ => ?_)
          refine J_iload_n (pc := 16) dX2_bitAt_16 rfl rfl ?_
          refine J_iload_n (pc := 17) dX2_bitAt_17 rfl rfl ?_
          refine J_callSN0 (pc := 18) (M := mX2_bitAt) (as := [.int (nI m), .int (nI c2)]) dX2_bitAt_18 fw_X6_howManyBelow fl_X2_19 fs_X6_howManyBelow rfl (c_X6_howManyBelow_atx hs (d := d - 1) (Nat.le_trans (by decide) hdm) (w := w) m c2 (by first | assumption | omega) (by first | assumption | omega) (kc := 0) (ks := 0)) hdp (st := []) (Nat.le_of_ble_eq_true rfl) rfl (kr_P fun v6 hv6 => ?_) kx_I
          subst hv6
          refine J_iload_n (pc := 21) dX2_bitAt_21 rfl rfl ?_
          have hcb := cnt_le (fun i => m.testBit i) c2
          refine J_icmp_neN (pc := 22) (tgt := 27) dX2_bitAt_22 (by decide) (by omega) (by omega) (fun ht7 => ?_) (fun hf8 => ?_)
          · refine J_iincN (pc := 27) (b := 1) dX2_bitAt_27 rfl (by decide) (by decide) rfl ?_
            show J X mX2_bitAt d kc ks 30 [some (.int (nI m)), some (.int (nI i)), some (.int (nI (c2 + 1)))] [] w _
            refine J_goto (pc := 30) (tgt := 2) dX2_bitAt_30 (by decide) ?_
            exact J_sub (L' := [some (.int (nI m)), some (.int (nI i)), some (.int (nI (c2 + 1)))]) ⟨rfl, ⟨rfl, ⟨rfl, trivial⟩⟩⟩ (ihlp2_1 (c2 + 1) (by first | exact bit_ne0 hv2_0 hK2 (by assumption) | exact bit_ne1 hv2_0 hK3 (by assumption)) (by omega))
          · refine J_iload_n (pc := 25) dX2_bitAt_25 rfl rfl ?_
            exact J_iret (pc := 26) dX2_bitAt_26 rfl ⟨⟨c2, rfl, by exact ⟨by omega, by assumption, by assumption⟩⟩, rfl⟩
  exact J_sub (L' := [some (.int (nI m)), some (.int (nI i)), some (.int (nI 0))]) ⟨rfl, ⟨rfl, ⟨rfl, trivial⟩⟩⟩ (lp2_1 _ 0 (by omega) (Nat.lt_succ_self _))
set_option maxRecDepth 100000 in
set_option maxHeartbeats 4000000 in
theorem c_X2_withNumber_atx {X : jX} (hs : X.1.stackTraces = false) {d : Nat} (hd : 3 ≤ d) {w : List jC} (num : Nat) (k : Nat) (hy0 : num < fc k) (hy1 : 1 ≤ k) (hy2 : k ≤ 7) {kc ks : Nat} : jMet X mX2_withNumber d kc ks [.int (nI num), .int (nI k)] w (pI (fun v => v = nI (mkM k (rwF k num))) (fun w' => w' = w)) := by
  refine jMet_of hs (by decide +kernel) (Nat.le_of_ble_eq_true rfl) (L := [some (.int (nI num)), some (.int (nI k)), none, none, none, none, none, none, none]) rfl ?_
  have hdm : 2 ≤ d - 1 := by omega
  have hdp : d - 1 + 1 ≤ d := by omega
  have hf7 := fc_7 hy2
  have h2k : 2 ^ k ≤ 128 := Nat.le_trans (Nat.pow_le_pow_right (by decide) hy2) (by decide)
  refine J_ldc (pc := 0) (v := nI 1754760) dX2_withNumber_0 (by have := fk_X2_11; exact this) ?_
  refine J_istore_n (pc := 2) dX2_withNumber_2 rfl (by decide) rfl ?_
  show J X mX2_withNumber d kc ks 3 [some (.int (nI num)), some (.int (nI k)), some (.int (nI 1754760)), none, none, none, none, none, none] [] w _
  refine J_iload_n (pc := 3) dX2_withNumber_3 rfl rfl ?_
  refine J_istore_n (pc := 4) dX2_withNumber_4 rfl (by decide) rfl ?_
  show J X mX2_withNumber d kc ks 5 [some (.int (nI num)), some (.int (nI k)), some (.int (nI 1754760)), some (.int (nI num)), none, none, none, none, none] [] w _
  refine J_iconst (pc := 5) (v := nI 1) dX2_withNumber_5 (by decide) ?_
  refine J_iload_n (pc := 6) dX2_withNumber_6 rfl rfl ?_
  refine J_shlOne (pc := 7) dX2_withNumber_7 (by omega) ?_
  refine J_iconst (pc := 8) (v := nI 1) dX2_withNumber_8 (by decide) ?_
  refine J_isubN (pc := 9) dX2_withNumber_9 Nat.one_le_two_pow ?_
  refine J_istore (pc := 10) dX2_withNumber_10 (by decide) rfl ?_
  show J X mX2_withNumber d kc ks 12 [some (.int (nI num)), some (.int (nI k)), some (.int (nI 1754760)), some (.int (nI num)), some (.int (nI (2 ^ k - 1))), none, none, none, none] [] w _
  refine J_iconst (pc := 12) (v := nI 0) dX2_withNumber_12 (by decide) ?_
  refine J_istore (pc := 13) dX2_withNumber_13 (by decide) rfl ?_
  show J X mX2_withNumber d kc ks 15 [some (.int (nI num)), some (.int (nI k)), some (.int (nI 1754760)), some (.int (nI num)), some (.int (nI (2 ^ k - 1))), some (.int (nI 0)), none, none, none] [] w _
  have lp15_1 : ∀ (fuel : Nat) (y2 : Nat) (y3 : Nat) (y4 : Nat) (c5 : Nat), (c5 ≤ k) → (WN k num c5 y2 y3 y4) → (k - c5 < fuel) → J X mX2_withNumber d kc ks 15 [some (.int (nI num)), some (.int (nI k)), some (.int (nI y2)), some (.int (nI y3)), some (.int (nI y4)), some (.int (nI c5)), none, none, none] [] w (pI (fun v => v = nI (mkM k (rwF k num))) (fun w' => w' = w)) := by
    intro fuellp15_1
    induction fuellp15_1 with
    | zero => intros; omega
    | succ fuellp15_1 ihlp15_1 =>
      intro y2 y3 y4 c5 hv15_0 hv15_1 hf2
      refine J_iload (pc := 15) dX2_withNumber_15 rfl ?_
      refine J_iload_n (pc := 17) dX2_withNumber_17 rfl rfl ?_
      refine J_icmp_geN (pc := 18) (tgt := 83) dX2_withNumber_18 (by decide) (by omega) (by omega) (fun ht3 => ?_) (fun hf4 => ?_)
      · refine J_iload_n (pc := 83) dX2_withNumber_83 rfl rfl ?_
        exact J_iret (pc := 84) dX2_withNumber_84 rfl ⟨(congrArg nI (by exact WN_end hy0 hy1 hy2 (show c5 = k by omega) hv15_1)), rfl⟩
      · refine J_iload_n (pc := 21) dX2_withNumber_21 rfl rfl ?_
        refine J_iconst (pc := 22) (v := nI 1) dX2_withNumber_22 (by decide) ?_
        refine J_isubN (pc := 23) dX2_withNumber_23 (by omega) ?_
        refine J_iload (pc := 24) dX2_withNumber_24 rfl ?_
        refine J_isubN (pc := 26) dX2_withNumber_26 (by omega) ?_
        refine J_callS0 (pc := 27) (M := mX2_withNumber) (as := [.int (nI ((k - 1) - c5))]) dX2_withNumber_27 fw_X2_factorial fl_X2_22 fs_X2_factorial rfl (c_X2_factorial_atx hs (d := d - 1) (Nat.le_trans (by decide) hdm) (w := w) ((k - 1) - c5) (by omega) (kc := 0) (ks := 0)) hdp (st := []) (Nat.le_of_ble_eq_true rfl) rfl (kr_P fun v5 hv5 => ?_) kx_I
        subst hv5
        refine J_istore (pc := 30) dX2_withNumber_30 (by decide) rfl ?_
        show J X mX2_withNumber d kc ks 32 [some (.int (nI num)), some (.int (nI k)), some (.int (nI y2)), some (.int (nI y3)), some (.int (nI y4)), some (.int (nI c5)), some (.int (nI (fc ((k - 1) - c5)))), none, none] [] w _
        refine J_iload_n (pc := 32) dX2_withNumber_32 rfl rfl ?_
        refine J_iload (pc := 33) dX2_withNumber_33 rfl ?_
        refine J_callSN0 (pc := 35) (M := mX2_withNumber) (as := [.int (nI y3), .int (nI (fc ((k - 1) - c5)))]) dX2_withNumber_35 fw_X6_quotient fl_X2_26 fs_X6_quotient rfl (c_X6_quotient_atx hs (d := d - 1) (Nat.le_trans (by decide) hdm) (w := w) y3 (fc ((k - 1) - c5)) (by have := hv15_1.2.2.1; have := fc_7 (show k - c5 ≤ 7 by omega); omega) (by have := fc_7 (show k - 1 - c5 ≤ 7 by omega); omega) (by exact fc_pos _) (kc := 0) (ks := 0)) hdp (st := []) (Nat.le_of_ble_eq_true rfl) rfl (kr_P fun v6 hv6 => ?_) kx_I
        subst hv6
        refine J_istore (pc := 38) dX2_withNumber_38 (by decide) rfl ?_
        show J X mX2_withNumber d kc ks 40 [some (.int (nI num)), some (.int (nI k)), some (.int (nI y2)), some (.int (nI y3)), some (.int (nI y4)), some (.int (nI c5)), some (.int (nI (fc ((k - 1) - c5)))), some (.int (nI (y3 / (fc ((k - 1) - c5))))), none] [] w _
        refine J_iload (pc := 40) dX2_withNumber_40 rfl ?_
        refine J_iload (pc := 42) dX2_withNumber_42 rfl ?_
        refine J_callS0 (pc := 44) (M := mX2_withNumber) (as := [.int (nI y4), .int (nI (y3 / (fc ((k - 1) - c5))))]) dX2_withNumber_44 fw_X2_bitAt fl_X2_29 fs_X2_bitAt rfl (c_X2_bitAt_atx hs (d := d - 1) (Nat.le_trans (by decide) hdm) (w := w) y4 (y3 / (fc ((k - 1) - c5))) (by exact hv15_1.2.2.2.2.1.1) (by exact WN_idx hy2 (by omega) hv15_1) (kc := 0) (ks := 0)) hdp (st := []) (Nat.le_of_ble_eq_true rfl) rfl (kr_P fun v7 hv7 => ?_) kx_I
        obtain ⟨k7, rfl, hk7⟩ := hv7
        obtain ⟨hb1, hb2, hb3⟩ := hk7
        refine J_istore (pc := 47) dX2_withNumber_47 (by decide) rfl ?_
        show J X mX2_withNumber d kc ks 49 [some (.int (nI num)), some (.int (nI k)), some (.int (nI y2)), some (.int (nI y3)), some (.int (nI y4)), some (.int (nI c5)), some (.int (nI (fc ((k - 1) - c5)))), some (.int (nI (y3 / (fc ((k - 1) - c5))))), some (.int (nI k7))] [] w _
        refine J_iload_n (pc := 49) dX2_withNumber_49 rfl rfl ?_
        refine J_iload (pc := 50) dX2_withNumber_50 rfl ?_
        refine J_iload (pc := 52) dX2_withNumber_52 rfl ?_
        refine J_imulN (pc := 54) dX2_withNumber_54 ?_
        refine J_isubN (pc := 55) dX2_withNumber_55 (by exact Nat.div_mul_le_self _ _) ?_
        refine J_istore_n (pc := 56) dX2_withNumber_56 rfl (by decide) rfl ?_
        show J X mX2_withNumber d kc ks 57 [some (.int (nI num)), some (.int (nI k)), some (.int (nI y2)), some (.int (nI (y3 - ((y3 / (fc ((k - 1) - c5))) * (fc ((k - 1) - c5)))))), some (.int (nI y4)), some (.int (nI c5)), some (.int (nI (fc ((k - 1) - c5)))), some (.int (nI (y3 / (fc ((k - 1) - c5))))), some (.int (nI k7))] [] w _
        refine J_iload (pc := 57) dX2_withNumber_57 rfl ?_
        refine J_iconst (pc := 59) (v := nI 1) dX2_withNumber_59 (by decide) ?_
        refine J_iload (pc := 60) dX2_withNumber_60 rfl ?_
        refine J_shlOne (pc := 62) dX2_withNumber_62 (by omega) ?_
        refine J_iconst (pc := 63) (v := (-1)) dX2_withNumber_63 (by decide) ?_
        refine J_inv (pc := 64) dX2_withNumber_64 (by exact Nat.pow_lt_pow_right (by decide) (by omega)) ?_
        refine J_iandM (pc := 65) dX2_withNumber_65 (by have := hv15_1.2.2.2.2.1.1; omega) (nt_lt _) ?_
        refine J_istore (pc := 66) dX2_withNumber_66 (by decide) rfl ?_
        show J X mX2_withNumber d kc ks 68 [some (.int (nI num)), some (.int (nI k)), some (.int (nI y2)), some (.int (nI (y3 - ((y3 / (fc ((k - 1) - c5))) * (fc ((k - 1) - c5)))))), some (.int (nI (y4 &&& (nt (2 ^ k7))))), some (.int (nI c5)), some (.int (nI (fc ((k - 1) - c5)))), some (.int (nI (y3 / (fc ((k - 1) - c5))))), some (.int (nI k7))] [] w _
        refine J_iload_n (pc := 68) dX2_withNumber_68 rfl rfl ?_
        refine J_iload (pc := 69) dX2_withNumber_69 rfl ?_
        refine J_iload (pc := 71) dX2_withNumber_71 rfl ?_
        refine J_callS0 (pc := 73) (M := mX2_withNumber) (as := [.int (nI y2), .int (nI c5), .int (nI k7)]) dX2_withNumber_73 fw_X2_with fl_X2_32 fs_X2_with rfl (c_X2_with_atx hs (d := d - 1) (Nat.le_trans (by decide) hdm) (w := w) y2 c5 k7 (by exact hv15_1.1) (by omega) (by omega) (kc := 0) (ks := 0)) hdp (st := []) (Nat.le_of_ble_eq_true rfl) rfl (kr_P fun v8 hv8 => ?_) kx_I
        subst hv8
        refine J_istore_n (pc := 76) dX2_withNumber_76 rfl (by decide) rfl ?_
        show J X mX2_withNumber d kc ks 77 [some (.int (nI num)), some (.int (nI k)), some (.int (nI (w8 y2 c5 k7))), some (.int (nI (y3 - ((y3 / (fc ((k - 1) - c5))) * (fc ((k - 1) - c5)))))), some (.int (nI (y4 &&& (nt (2 ^ k7))))), some (.int (nI c5)), some (.int (nI (fc ((k - 1) - c5)))), some (.int (nI (y3 / (fc ((k - 1) - c5))))), some (.int (nI k7))] [] w _
        refine J_iincN (pc := 77) (b := 1) dX2_withNumber_77 rfl (by decide) (by decide) rfl ?_
        show J X mX2_withNumber d kc ks 80 [some (.int (nI num)), some (.int (nI k)), some (.int (nI (w8 y2 c5 k7))), some (.int (nI (y3 - ((y3 / (fc ((k - 1) - c5))) * (fc ((k - 1) - c5)))))), some (.int (nI (y4 &&& (nt (2 ^ k7))))), some (.int (nI (c5 + 1))), some (.int (nI (fc ((k - 1) - c5)))), some (.int (nI (y3 / (fc ((k - 1) - c5))))), some (.int (nI k7))] [] w _
        refine J_goto (pc := 80) (tgt := 15) dX2_withNumber_80 (by decide) ?_
        exact J_sub (L' := [some (.int (nI num)), some (.int (nI k)), some (.int (nI (w8 y2 c5 k7))), some (.int (nI (y3 - ((y3 / (fc ((k - 1) - c5))) * (fc ((k - 1) - c5)))))), some (.int (nI (y4 &&& (nt (2 ^ k7))))), some (.int (nI (c5 + 1))), none, none, none]) ⟨rfl, ⟨rfl, ⟨rfl, ⟨rfl, ⟨rfl, ⟨rfl, trivial⟩⟩⟩⟩⟩⟩ (ihlp15_1 (w8 y2 c5 k7) (y3 - ((y3 / (fc ((k - 1) - c5))) * (fc ((k - 1) - c5)))) (y4 &&& (nt (2 ^ k7))) (c5 + 1) (by first | assumption | omega) (by exact WN_s hy2 (by omega) hv15_1 ⟨hb1, hb2, hb3⟩) (by omega))
  exact J_sub (L' := [some (.int (nI num)), some (.int (nI k)), some (.int (nI 1754760)), some (.int (nI num)), some (.int (nI (2 ^ k - 1))), some (.int (nI 0)), none, none, none]) ⟨rfl, ⟨rfl, ⟨rfl, ⟨rfl, ⟨rfl, ⟨rfl, trivial⟩⟩⟩⟩⟩⟩ (lp15_1 _ 1754760 num (2 ^ k - 1) 0 (by first | assumption | omega) (by exact WN_0 hy0 hy2) (Nat.lt_succ_self _))
set_option maxRecDepth 100000 in
set_option maxHeartbeats 4000000 in
theorem c_X2_source_atx {X : jX} (hs : X.1.stackTraces = false) {d : Nat} (hd : 1 ≤ d) {w : List jC} (x : Nat) (g : Nat) (hy0 : x < 2 ^ (3 * 7)) (hy1 : ∃ p, p < 7 ∧ d8 x p = g) {kc ks : Nat} : jMet X mX2_source d kc ks [.int (nI x), .int (nI g)] w (pI (fun v => ∃ j : Nat, v = nI j ∧ j < 7 ∧ d8 x j = g) (fun w' => w' = w)) := by
  refine jMet_of hs (by decide +kernel) (Nat.le_of_ble_eq_true rfl) (L := [some (.int (nI x)), some (.int (nI g)), none]) rfl ?_
  have hdm : 0 ≤ d - 1 := by omega
  have hdp : d - 1 + 1 ≤ d := by omega
  obtain ⟨K, hK1, hK2⟩ := hy1
  have hg8 := d8_lt x K
  refine J_iconst (pc := 0) (v := nI 0) dX2_source_0 (by decide) ?_
  refine J_istore_n (pc := 1) dX2_source_1 rfl (by decide) rfl ?_
  show J X mX2_source d kc ks 2 [some (.int (nI x)), some (.int (nI g)), some (.int (nI 0))] [] w _
  have lp2_1 : ∀ (fuel : Nat) (c2 : Nat), (∀ p, p < c2 → ¬ d8 x p = g) → (c2 ≤ 7) → (7 - c2 < fuel) → J X mX2_source d kc ks 2 [some (.int (nI x)), some (.int (nI g)), some (.int (nI c2))] [] w (pI (fun v => ∃ j : Nat, v = nI j ∧ j < 7 ∧ d8 x j = g) (fun w' => w' = w)) := by
    intro fuellp2_1
    induction fuellp2_1 with
    | zero => intros; omega
    | succ fuellp2_1 ihlp2_1 =>
      intro c2 hv2_0 hv2_1 hf2
      refine J_iload_n (pc := 2) dX2_source_2 rfl rfl ?_
      refine J_bipush (pc := 3) (v := nI 7) dX2_source_3 (by decide) ?_
      refine J_icmp_geN (pc := 5) (tgt := 25) dX2_source_5 (by decide) (by omega) (by omega) (fun ht3 => ?_) (fun hf4 => ?_)
      · refine J_iconst (pc := 25) (v := nI 0) dX2_source_25 (by decide) ?_
        exact J_iret (pc := 26) dX2_source_26 rfl ⟨⟨0, rfl, by exact absurd hK2 (hv2_0 K (by omega))⟩, rfl⟩
      · refine J_iload_n (pc := 8) dX2_source_8 rfl rfl ?_
        refine J_iload_n (pc := 9) dX2_source_9 rfl rfl ?_
        refine J_callS0 (pc := 10) (M := mX2_source) (as := [.int (nI x), .int (nI c2)]) dX2_source_10 fw_X2_goal fl_X2_16 fs_X2_goal rfl (c_X2_goal_atx hs (d := d - 1) (Nat.le_trans (by decide) hdm) (w := w) x c2 (by first | assumption | omega) (by first | assumption | omega) (kc := 0) (ks := 0)) hdp (st := []) (Nat.le_of_ble_eq_true rfl) rfl (kr_P fun v5 hv5 => ?_) kx_I
        subst hv5
        have hq6 := d8_lt x c2
        refine J_iload_n (pc := 13) dX2_source_13 rfl rfl ?_
        refine J_icmp_neN (pc := 14) (tgt := 19) dX2_source_14 (by decide) (by omega) (by omega) (fun ht7 => ?_) (fun hf8 => ?_)
        · refine J_iincN (pc := 19) (b := 1) dX2_source_19 rfl (by decide) (by decide) rfl ?_
          show J X mX2_source d kc ks 22 [some (.int (nI x)), some (.int (nI g)), some (.int (nI (c2 + 1)))] [] w _
          refine J_goto (pc := 22) (tgt := 2) dX2_source_22 (by decide) ?_
          exact J_sub (L' := [some (.int (nI x)), some (.int (nI g)), some (.int (nI (c2 + 1)))]) ⟨rfl, ⟨rfl, ⟨rfl, trivial⟩⟩⟩ (ihlp2_1 (c2 + 1) (by intro p hp; by_cases e : p = c2; (subst e; assumption); (exact hv2_0 p (by omega))) (by first | assumption | omega) (by omega))
        · refine J_iload_n (pc := 17) dX2_source_17 rfl rfl ?_
          exact J_iret (pc := 18) dX2_source_18 rfl ⟨⟨c2, rfl, by exact ⟨by omega, by assumption⟩⟩, rfl⟩
  exact J_sub (L' := [some (.int (nI x)), some (.int (nI g)), some (.int (nI 0))]) ⟨rfl, ⟨rfl, ⟨rfl, trivial⟩⟩⟩ (lp2_1 _ 0 (by intro p hp; omega) (by first | assumption | omega) (Nat.lt_succ_self _))
set_option maxRecDepth 100000 in
set_option maxHeartbeats 4000000 in
theorem c_X2_goals_atx {X : jX} (hs : X.1.stackTraces = false) {d : Nat} (hd : 1 ≤ d) {w : List jC} (x : Nat) (mk : Nat) (hy0 : x < 2 ^ (3 * 7)) (hy1 : mk < 2 ^ 31) {kc ks : Nat} : jMet X mX2_goals d kc ks [.int (nI x), .int (nI mk)] w (pI (fun v => ∃ r : Nat, v = nI r ∧ r < 2 ^ 8 ∧ ∀ v, r.testBit v = img (d8 x) mk v 7) (fun w' => w' = w)) := by
  refine jMet_of hs (by decide +kernel) (Nat.le_of_ble_eq_true rfl) (L := [some (.int (nI x)), some (.int (nI mk)), none, none]) rfl ?_
  have hdm : 0 ≤ d - 1 := by omega
  have hdp : d - 1 + 1 ≤ d := by omega
  refine J_iconst (pc := 0) (v := nI 0) dX2_goals_0 (by decide) ?_
  refine J_istore_n (pc := 1) dX2_goals_1 rfl (by decide) rfl ?_
  show J X mX2_goals d kc ks 2 [some (.int (nI x)), some (.int (nI mk)), some (.int (nI 0)), none] [] w _
  refine J_iconst (pc := 2) (v := nI 0) dX2_goals_2 (by decide) ?_
  refine J_istore_n (pc := 3) dX2_goals_3 rfl (by decide) rfl ?_
  show J X mX2_goals d kc ks 4 [some (.int (nI x)), some (.int (nI mk)), some (.int (nI 0)), some (.int (nI 0))] [] w _
  have lp4_1 : ∀ (fuel : Nat) (y2 : Nat) (c3 : Nat), (y2 < 2 ^ 8 ∧ ∀ v, y2.testBit v = img (d8 x) mk v c3) → (c3 ≤ 7) → (7 - c3 < fuel) → J X mX2_goals d kc ks 4 [some (.int (nI x)), some (.int (nI mk)), some (.int (nI y2)), some (.int (nI c3))] [] w (pI (fun v => ∃ r : Nat, v = nI r ∧ r < 2 ^ 8 ∧ ∀ v, r.testBit v = img (d8 x) mk v 7) (fun w' => w' = w)) := by
    intro fuellp4_1
    induction fuellp4_1 with
    | zero => intros; omega
    | succ fuellp4_1 ihlp4_1 =>
      intro y2 c3 hv4_0 hv4_1 hf2
      refine J_iload_n (pc := 4) dX2_goals_4 rfl rfl ?_
      refine J_bipush (pc := 5) (v := nI 7) dX2_goals_5 (by decide) ?_
      refine J_icmp_geN (pc := 7) (tgt := 34) dX2_goals_7 (by decide) (by omega) (by omega) (fun ht3 => ?_) (fun hf4 => ?_)
      · refine J_iload_n (pc := 34) dX2_goals_34 rfl rfl ?_
        exact J_iret (pc := 35) dX2_goals_35 rfl ⟨⟨y2, rfl, by have e : c3 = 7 := (by omega); subst e; exact hv4_0⟩, rfl⟩
      · refine J_iload_n (pc := 10) dX2_goals_10 rfl rfl ?_
        refine J_iload_n (pc := 11) dX2_goals_11 rfl rfl ?_
        refine J_callSN0 (pc := 12) (M := mX2_goals) (as := [.int (nI mk), .int (nI c3)]) dX2_goals_12 fw_X6_has fl_X2_36 fs_X6_has rfl (c_X6_has_atx hs (d := d - 1) (Nat.le_trans (by decide) hdm) (w := w) mk c3 (by first | assumption | omega) (by first | assumption | omega) (kc := 0) (ks := 0)) hdp (st := []) (Nat.le_of_ble_eq_true rfl) rfl (kr_P fun v5 hv5 => ?_) kx_I
        rcases hv5 with ⟨rfl, hk5_0⟩ | ⟨rfl, hk5_0⟩
        · refine J_if_eqN (pc := 15) (tgt := 28) dX2_goals_15 (by decide) (by decide) (fun _ => ?_) (fun h => absurd h (by decide))
          refine J_iincN (pc := 28) (b := 1) dX2_goals_28 rfl (by decide) (by decide) rfl ?_
          show J X mX2_goals d kc ks 31 [some (.int (nI x)), some (.int (nI mk)), some (.int (nI y2)), some (.int (nI (c3 + 1)))] [] w _
          refine J_goto (pc := 31) (tgt := 4) dX2_goals_31 (by decide) ?_
          exact J_sub (L' := [some (.int (nI x)), some (.int (nI mk)), some (.int (nI y2)), some (.int (nI (c3 + 1)))]) ⟨rfl, ⟨rfl, ⟨rfl, ⟨rfl, trivial⟩⟩⟩⟩ (ihlp4_1 y2 (c3 + 1) (by first | exact img_1 (d8_lt _ _) (by assumption) hv4_0 | exact img_n (by assumption) hv4_0) (by first | assumption | omega) (by omega))
        · refine J_if_eqN (pc := 15) (tgt := 28) dX2_goals_15 (by decide) (by decide) (fun h => absurd h (by decide)) (fun _ => ?_)
          refine J_iload_n (pc := 18) dX2_goals_18 rfl rfl ?_
          refine J_iconst (pc := 19) (v := nI 1) dX2_goals_19 (by decide) ?_
          refine J_iload_n (pc := 20) dX2_goals_20 rfl rfl ?_
          refine J_iload_n (pc := 21) dX2_goals_21 rfl rfl ?_
          refine J_callS0 (pc := 22) (M := mX2_goals) (as := [.int (nI x), .int (nI c3)]) dX2_goals_22 fw_X2_goal fl_X2_16 fs_X2_goal rfl (c_X2_goal_atx hs (d := d - 1) (Nat.le_trans (by decide) hdm) (w := w) x c3 (by first | assumption | omega) (by omega) (kc := 0) (ks := 0)) hdp (st := [.int (nI 1), .int (nI y2)]) (Nat.le_of_ble_eq_true rfl) rfl (kr_P fun v6 hv6 => ?_) kx_I
          subst hv6
          have hq7 := d8_lt x c3
          refine J_shlOne (pc := 25) dX2_goals_25 (by omega) ?_
          refine J_iorN (pc := 26) dX2_goals_26 (by have := hv4_0.1; omega) (by exact Nat.lt_of_lt_of_le (Nat.pow_lt_pow_right (by decide) (d8_lt x c3)) (by decide)) ?_
          refine J_istore_n (pc := 27) dX2_goals_27 rfl (by decide) rfl ?_
          show J X mX2_goals d kc ks 28 [some (.int (nI x)), some (.int (nI mk)), some (.int (nI (y2 ||| (2 ^ (d8 x c3))))), some (.int (nI c3))] [] w _
          refine J_iincN (pc := 28) (b := 1) dX2_goals_28 rfl (by decide) (by decide) rfl ?_
          show J X mX2_goals d kc ks 31 [some (.int (nI x)), some (.int (nI mk)), some (.int (nI (y2 ||| (2 ^ (d8 x c3))))), some (.int (nI (c3 + 1)))] [] w _
          refine J_goto (pc := 31) (tgt := 4) dX2_goals_31 (by decide) ?_
          exact J_sub (L' := [some (.int (nI x)), some (.int (nI mk)), some (.int (nI (y2 ||| (2 ^ (d8 x c3))))), some (.int (nI (c3 + 1)))]) ⟨rfl, ⟨rfl, ⟨rfl, ⟨rfl, trivial⟩⟩⟩⟩ (ihlp4_1 (y2 ||| (2 ^ (d8 x c3))) (c3 + 1) (by first | exact img_1 (d8_lt _ _) (by assumption) hv4_0 | exact img_n (by assumption) hv4_0) (by first | assumption | omega) (by omega))
  exact J_sub (L' := [some (.int (nI x)), some (.int (nI mk)), some (.int (nI 0)), some (.int (nI 0))]) ⟨rfl, ⟨rfl, ⟨rfl, ⟨rfl, trivial⟩⟩⟩⟩ (lp4_1 _ 0 0 (by exact img_0 _ _) (by first | assumption | omega) (Nat.lt_succ_self _))
end
section
/-! two of java/lang/Math, told exactly -/
set_option maxRecDepth 100000 in
set_option maxHeartbeats 4000000 in
theorem c_J9_abs_0f7a4_atx {X : jX} (hs : X.1.stackTraces = false) {d : Nat} (hd : 0 ≤ d) {w : List jC} (a : Int32) {kc ks : Nat} : jMet X mJ9_abs_0f7a4 d kc ks [.int a] w (pI (fun v => v = absI a) (fun w' => w' = w)) := by
  refine jMet_ofF hs pf_J9_abs_0f7a4 rfl (Nat.le_of_ble_eq_true rfl) (L := [some (.int a)]) rfl ?_
  refine J_iload_n (pc := 0) dJ9_abs_0f7a4_0 rfl rfl ?_
  refine J_if_ge (pc := 1) (tgt := 9) dJ9_abs_0f7a4_1 (by decide) (fun ht1 => ?_) (fun hf2 => ?_)
  · refine J_iload_n (pc := 9) dJ9_abs_0f7a4_9 rfl rfl ?_
    exact J_iret (pc := 10) dJ9_abs_0f7a4_10 rfl ⟨(if_pos ht1).symm, rfl⟩
  · refine J_iload_n (pc := 4) dJ9_abs_0f7a4_4 rfl rfl ?_
    refine J_ineg (pc := 5) dJ9_abs_0f7a4_5 ?_
    refine J_goto (pc := 6) (tgt := 10) dJ9_abs_0f7a4_6 (by decide) ?_
    exact J_iret (pc := 10) dJ9_abs_0f7a4_10 rfl ⟨(if_neg hf2).symm, rfl⟩
set_option maxRecDepth 100000 in
set_option maxHeartbeats 4000000 in
theorem c_J9_floorMod_7cf53_atx {X : jX} (hs : X.1.stackTraces = false) {d : Nat} (hd : 0 ≤ d) {w : List jC} (a : Int32) (b : Int32) (hy0 : ¬ b = 0) {kc ks : Nat} : jMet X mJ9_floorMod_7cf53 d kc ks [.int a, .int b] w (pI (fun v => v = fmI a b) (fun w' => w' = w)) := by
  refine jMet_ofF hs pf_J9_floorMod_7cf53 rfl (Nat.le_of_ble_eq_true rfl) (L := [some (.int a), some (.int b), none]) rfl ?_
  refine J_iload_n (pc := 0) dJ9_floorMod_7cf53_0 rfl rfl ?_
  refine J_iload_n (pc := 1) dJ9_floorMod_7cf53_1 rfl rfl ?_
  refine J_irem (pc := 2) dJ9_floorMod_7cf53_2 hy0 ?_
  refine J_istore_n (pc := 3) dJ9_floorMod_7cf53_3 rfl (by decide) rfl ?_
  show J X mJ9_floorMod_7cf53 d kc ks 4 [some (.int a), some (.int b), some (.int (a - a / b * b))] [] w _
  refine J_iload_n (pc := 4) dJ9_floorMod_7cf53_4 rfl rfl ?_
  refine J_iload_n (pc := 5) dJ9_floorMod_7cf53_5 rfl rfl ?_
  refine J_ixor (pc := 6) dJ9_floorMod_7cf53_6 ?_
  refine J_if_ge (pc := 7) (tgt := 18) dJ9_floorMod_7cf53_7 (by decide) (fun ht1 => ?_) (fun hf1 => ?_)
  · refine J_iload_n (pc := 18) dJ9_floorMod_7cf53_18 rfl rfl ?_
    exact J_iret (pc := 19) dJ9_floorMod_7cf53_19 rfl ⟨by unfold fmI; rw [if_neg (Int32.not_lt.mpr ht1)], rfl⟩
  · refine J_iload_n (pc := 10) dJ9_floorMod_7cf53_10 rfl rfl ?_
    refine J_if_eq (pc := 11) (tgt := 18) dJ9_floorMod_7cf53_11 (by decide) (fun ht2 => ?_) (fun hf2 => ?_)
    · refine J_iload_n (pc := 18) dJ9_floorMod_7cf53_18 rfl rfl ?_
      exact J_iret (pc := 19) dJ9_floorMod_7cf53_19 rfl ⟨by unfold fmI; rw [if_pos (Int32.not_le.mp hf1), if_pos ht2], rfl⟩
    · refine J_iload_n (pc := 14) dJ9_floorMod_7cf53_14 rfl rfl ?_
      refine J_iload_n (pc := 15) dJ9_floorMod_7cf53_15 rfl rfl ?_
      refine J_iadd (pc := 16) dJ9_floorMod_7cf53_16 ?_
      exact J_iret (pc := 17) dJ9_floorMod_7cf53_17 rfl ⟨by unfold fmI; rw [if_pos (Int32.not_le.mp hf1), if_neg hf2], rfl⟩
end
