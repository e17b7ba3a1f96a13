/-! contracts of the class -/
set_option maxRecDepth 100000 in
set_option maxHeartbeats 4000000 in
theorem c_X6_house {X : jX} (hs : X.1.stackTraces = false) {d : Nat} (hd : 13 ≤ d) {n : Nat} {e r q : Int32} (hn1 : 2 ≤ n) (hn2 : n ≤ 7) {w : List jC} (hS : SH (rX n e r q) w) (p0 : Int32) {kc ks : Nat} (hkc : 1 ≤ kc) (hks : 6 ≤ ks) : jMet X mX6_house d kc ks [.ref 0, .int p0] w (pX (pI (fun _ => True) (fun w' => w' = w)) (fun E w' => (E = "java/lang/IllegalArgumentException") ∧ w' = w ++ [.inr (99, [])])) := by
  refine jMet_of hs (by decide +kernel) (Nat.le_of_ble_eq_true rfl) (L := [some (.ref 0), some (.int p0)]) rfl ?_
  have hG : Fr kX w w := Fr.rf
  refine J_iload_n (pc := 0) dX6_house_0 rfl rfl ?_
  refine J_iconst (pc := 1) (v := nI 0) dX6_house_1 (by decide) ?_
  refine J_iconst (pc := 2) (v := nI 2) dX6_house_2 (by decide) ?_
  refine J_callS (pc := 3) (M := mX6_house) (as := [.int p0, .int (nI 0), .int (nI 2)]) dX6_house_3 fw_X6_needBetween fl_X6_63 fs_X6_needBetween rfl (c_X6_needBetween hs (d := d - 1) (by omega) (w := w) p0 (nI 0) (nI 2) (kc := 1) (ks := 6) (Nat.le_refl _) (Nat.le_refl _)) (by omega) (by omega) (by omega) (st := []) (Nat.le_of_ble_eq_true rfl) rfl (kr_X (kr_V fun w1 hw1 => ?_)) (kx_X fun E1 w1 hx1 => ?_)
  · obtain ⟨hq1, hpa1, hpb1⟩ := hw1
    obtain rfl := hq1.symm
    obtain ⟨b1, hb1, hc1, rfl⟩ := nI_btw hpa1 hpb1 (by omega) (by omega)
    refine J_iload_n (pc := 6) dX6_house_6 rfl rfl ?_
    refine J_if_neN (pc := 7) (tgt := 15) dX6_house_7 (by decide) (by omega) (fun ht2 => ?_) (fun hf3 => ?_)
    · refine J_iload_n (pc := 15) dX6_house_15 rfl rfl ?_
      refine J_iconst (pc := 16) (v := nI 1) dX6_house_16 (by decide) ?_
      refine J_icmp_neN (pc := 17) (tgt := 27) dX6_house_17 (by decide) (by omega) (by omega) (fun ht4 => ?_) (fun hf5 => ?_)
      · refine J_aload_n (pc := 27) dX6_house_27 rfl rfl rfl ?_
        obtain ⟨_, hc6, rfl⟩ := hS 0 _ rfl
        refine J_get (pc := 28) (k := 8) dX6_house_28 kC7 (by decide) ff_X6_51 hc6 rfl ?_
        exact J_iret (pc := 31) dX6_house_31 rfl ⟨trivial, rfl⟩
      · refine J_aload_n (pc := 20) dX6_house_20 rfl rfl rfl ?_
        obtain ⟨_, hc7, rfl⟩ := hS 0 _ rfl
        refine J_get (pc := 21) (k := 7) dX6_house_21 kC7 (by decide) ff_X6_48 hc7 rfl ?_
        refine J_goto (pc := 24) (tgt := 31) dX6_house_24 (by decide) ?_
        exact J_iret (pc := 31) dX6_house_31 rfl ⟨trivial, rfl⟩
    · refine J_aload_n (pc := 10) dX6_house_10 rfl rfl rfl ?_
      obtain ⟨_, hc8, rfl⟩ := hS 0 _ rfl
      refine J_get (pc := 11) (k := 6) dX6_house_11 kC7 (by decide) ff_X6_45 hc8 rfl ?_
      exact J_iret (pc := 14) dX6_house_14 rfl ⟨trivial, rfl⟩
  · exact JX_out (fun _ h => nomatch h) (by obtain ⟨h1, h2⟩ := hx1; exact ⟨h1, h2⟩)
set_option maxRecDepth 100000 in
set_option maxHeartbeats 4000000 in
theorem c_X6_knock {X : jX} (hs : X.1.stackTraces = false) {d : Nat} (hd : 0 ≤ d) {n : Nat} {e r q : Int32} (hn1 : 2 ≤ n) (hn2 : n ≤ 7) {w : List jC} (hS : SH (rX n e r q) w) {kc ks : Nat} : jMet X mX6_knock d kc ks [.ref 0] w (pI (fun v => v = q + nI 1) (fun w' => rS n e r (q + nI 1) w w')) := by
  refine jMet_of hs (by decide +kernel) (Nat.le_of_ble_eq_true rfl) (L := [some (.ref 0)]) rfl ?_
  have hG : Fr kX w w := Fr.rf
  refine J_aload_n (pc := 0) dX6_knock_0 rfl rfl rfl ?_
  refine J_dup (pc := 1) dX6_knock_1 rfl ?_
  obtain ⟨_, hc1, rfl⟩ := hS 0 _ rfl
  refine J_get (pc := 2) (k := 8) dX6_knock_2 kC7 (by decide) ff_X6_51 hc1 rfl ?_
  refine J_iconst (pc := 5) (v := nI 1) dX6_knock_5 (by decide) ?_
  refine J_iadd (pc := 6) dX6_knock_6 ?_
  refine J_put0 (pc := 7) (n' := n) (e' := e) (r' := r) (q' := (q + nI 1)) (k := 8) dX6_knock_7 kC7 (by decide) ff_X6_51 (Or.inl rfl) ⟨rfl, rfl⟩ hS (by decide) rfl (fun w2 hS2 hne2 hF2 => ?_)
  have hG2 := hG.tr hF2
  refine J_aload_n (pc := 10) dX6_knock_10 rfl rfl rfl ?_
  obtain ⟨_, hc3, rfl⟩ := hS2 0 _ rfl
  refine J_get (pc := 11) (k := 8) dX6_knock_11 kC7 (by decide) ff_X6_51 hc3 rfl ?_
  exact J_iret (pc := 14) dX6_knock_14 rfl ⟨rfl, ⟨hS2, hG2⟩⟩
set_option maxRecDepth 100000 in
set_option maxHeartbeats 4000000 in
theorem c_X6_raiseAll {X : jX} (hs : X.1.stackTraces = false) {d : Nat} (hd : 5 ≤ d) {n : Nat} {e r q : Int32} (hn1 : 2 ≤ n) (hn2 : n ≤ 7) {w : List jC} (hS : SH (rX n e r q) w) {kc ks : Nat} : jMet X mX6_raiseAll d kc ks [.ref 0] w (pV (fun w' => rS n e r q w w')) := by
  refine jMet_of hs (by decide +kernel) (Nat.le_of_ble_eq_true rfl) (L := [some (.ref 0)]) rfl ?_
  have hG : Fr kX w w := Fr.rf
  refine J_aload_n (pc := 0) dX6_raiseAll_0 rfl rfl rfl ?_
  obtain ⟨_, hc1, rfl⟩ := hS 0 _ rfl
  refine J_get (pc := 1) (k := 1) dX6_raiseAll_1 kC7 (by decide) ff_X6_16 hc1 rfl ?_
  refine J_aload_n (pc := 4) dX6_raiseAll_4 rfl rfl rfl ?_
  refine J_get (pc := 5) (k := 0) dX6_raiseAll_5 kC7 (by decide) ff_X6_9 hc1 rfl ?_
  refine J_bipush (pc := 8) (v := nI 63) dX6_raiseAll_8 (by decide) ?_
  refine J_aload_n (pc := 10) dX6_raiseAll_10 rfl rfl rfl ?_
  refine J_get (pc := 11) (k := 0) dX6_raiseAll_11 kC7 (by decide) ff_X6_9 hc1 rfl ?_
  refine J_iconst (pc := 14) (v := nI 0) dX6_raiseAll_14 (by decide) ?_
  obtain ⟨_, hc2, xs2, rfl, hl2⟩ := hS 1 _ rfl
  refine J_iald (pc := 15) dX6_raiseAll_15 hc2 (nI_in (by omega) (by omega)) (J_absI fun x3 => ?_)
  refine J_aload_n (pc := 16) dX6_raiseAll_16 rfl rfl rfl ?_
  refine J_get (pc := 17) (k := 5) dX6_raiseAll_17 kC7 (by decide) ff_X6_41 hc1 rfl ?_
  obtain ⟨_, hc5, ka5, kf5, kb5, kg5, rfl, hb5_0, hb5_1⟩ := hS 2 _ rfl
  refine J_callV0 (pc := 20) (M := mX6_raiseAll) (as := [.ref 1, .int (nI 63), .int x3, .int (nI n)]) dX6_raiseAll_20 fw_X0_raise fl_X6_134 fm_X0_raise fe_X0_raise hc5 (by decide) rfl rfl rfl (c_X0_raise hs (d := d - 1) (by omega) (e := e) (r := r) (q := q) hn1 hn2 hS (w := w) (nI 63) x3 (kc := 0) (ks := 0)) (by omega) (st := []) (Nat.le_of_ble_eq_true rfl) rfl (kr_V fun w4 hw4 => ?_) kx_V
  obtain ⟨hS4, hF4⟩ := hw4
  have hG4 := hG.tr hF4
  refine J_aload_n (pc := 23) dX6_raiseAll_23 rfl rfl rfl ?_
  obtain ⟨_, hc6, rfl⟩ := hS4 0 _ rfl
  refine J_get (pc := 24) (k := 2) dX6_raiseAll_24 kC7 (by decide) ff_X6_23 hc6 rfl ?_
  refine J_aload_n (pc := 27) dX6_raiseAll_27 rfl rfl rfl ?_
  refine J_get (pc := 28) (k := 0) dX6_raiseAll_28 kC7 (by decide) ff_X6_9 hc6 rfl ?_
  refine J_bipush (pc := 31) (v := nI 63) dX6_raiseAll_31 (by decide) ?_
  refine J_aload_n (pc := 33) dX6_raiseAll_33 rfl rfl rfl ?_
  refine J_get (pc := 34) (k := 5) dX6_raiseAll_34 kC7 (by decide) ff_X6_41 hc6 rfl ?_
  obtain ⟨_, hc8, ka8, rfl, hb8_0⟩ := hS4 8 _ rfl
  refine J_callV0 (pc := 37) (M := mX6_raiseAll) (as := [.ref 1, .int (nI 63), .int (nI n)]) dX6_raiseAll_37 fw_X5_goThrough fl_X6_177 fm_X5_goThrough fe_X5_goThrough hc8 (by decide) rfl rfl rfl (c_X5_goThrough hs (d := d - 1) (by omega) (e := e) (r := r) (q := q) hn1 hn2 hS4 (w := w4) (nI 63) (kc := 0) (ks := 0)) (by omega) (st := []) (Nat.le_of_ble_eq_true rfl) rfl (kr_V fun w7 hw7 => ?_) kx_V
  obtain ⟨hS7, hF7⟩ := hw7
  have hG7 := hG4.tr hF7
  exact J_vret (pc := 40) dX6_raiseAll_40 rfl (⟨hS7, hG7⟩)
set_option maxRecDepth 100000 in
set_option maxHeartbeats 4000000 in
theorem c_X6_sizesAgree {X : jX} (hs : X.1.stackTraces = false) {d : Nat} (hd : 2 ≤ d) {n : Nat} {e r q : Int32} (hn1 : 2 ≤ n) (hn2 : n ≤ 7) {w : List jC} (hS : SH (rX n e r q) w) {kc ks : Nat} : jMet X mX6_sizesAgree d kc ks [.ref 0] w (pI (fun v => ∃ k : Nat, v = nI k ∧ k < 2) (fun w' => w' = w)) := by
  refine jMet_of hs (by decide +kernel) (Nat.le_of_ble_eq_true rfl) (L := [some (.ref 0)]) rfl ?_
  have hG : Fr kX w w := Fr.rf
  refine J_aload_n (pc := 0) dX6_sizesAgree_0 rfl rfl rfl ?_
  obtain ⟨_, hc1, rfl⟩ := hS 0 _ rfl
  refine J_get (pc := 1) (k := 1) dX6_sizesAgree_1 kC7 (by decide) ff_X6_16 hc1 rfl ?_
  obtain ⟨_, hc3, ka3, kf3, kb3, kg3, rfl, hb3_0, hb3_1⟩ := hS 2 _ rfl
  refine J_callV0 (pc := 4) (M := mX6_sizesAgree) (as := []) dX6_sizesAgree_4 fw_X0_total fl_X6_138 fm_X0_total fe_X0_total hc3 (by decide) rfl rfl rfl (c_X0_total hs (d := d - 1) (by omega) (e := e) (r := r) (q := q) hn1 hn2 hS (w := w)  (kc := 0) (ks := 0)) (by omega) (st := []) (Nat.le_of_ble_eq_true rfl) rfl (kr_P fun v2 hv2 => ?_) kx_I
  refine J_aload_n (pc := 7) dX6_sizesAgree_7 rfl rfl rfl ?_
  refine J_get (pc := 8) (k := 2) dX6_sizesAgree_8 kC7 (by decide) ff_X6_23 hc1 rfl ?_
  obtain ⟨_, hc5, ka5, rfl, hb5_0⟩ := hS 8 _ rfl
  refine J_callV0 (pc := 11) (M := mX6_sizesAgree) (as := []) dX6_sizesAgree_11 fw_X5_length fl_X6_283 fm_X5_length fe_X5_length hc5 (by decide) rfl rfl rfl (c_X5_length hs (d := d - 1) (by omega) (e := e) (r := r) (q := q) hn1 hn2 hS (w := w)  (kc := 0) (ks := 0)) (by omega) (st := [.int v2]) (Nat.le_of_ble_eq_true rfl) rfl (kr_P fun v4 hv4 => ?_) kx_I
  obtain ⟨k4, rfl, hk4⟩ := hv4
  refine J_icmp_ne (pc := 14) (tgt := 41) dX6_sizesAgree_14 (by decide) (fun ht6 => ?_) (fun hf7 => ?_)
  · refine J_iconst (pc := 41) (v := nI 0) dX6_sizesAgree_41 (by decide) ?_
    exact J_zret (pc := 42) dX6_sizesAgree_42 rfl (nar_b (by omega)) ⟨⟨0, rfl, by omega⟩, rfl⟩
  · refine J_aload_n (pc := 17) dX6_sizesAgree_17 rfl rfl rfl ?_
    refine J_get (pc := 18) (k := 1) dX6_sizesAgree_18 kC7 (by decide) ff_X6_16 hc1 rfl ?_
    refine J_callV0 (pc := 21) (M := mX6_sizesAgree) (as := []) dX6_sizesAgree_21 fw_X0_total fl_X6_138 fm_X0_total fe_X0_total hc3 (by decide) rfl rfl rfl (c_X0_total hs (d := d - 1) (by omega) (e := e) (r := r) (q := q) hn1 hn2 hS (w := w)  (kc := 0) (ks := 0)) (by omega) (st := []) (Nat.le_of_ble_eq_true rfl) rfl (kr_P fun v8 hv8 => ?_) kx_I
    refine J_aload_n (pc := 24) dX6_sizesAgree_24 rfl rfl rfl ?_
    refine J_get (pc := 25) (k := 5) dX6_sizesAgree_25 kC7 (by decide) ff_X6_41 hc1 rfl ?_
    refine J_callS0 (pc := 28) (M := mX6_sizesAgree) (as := [.int (nI n)]) dX6_sizesAgree_28 fw_X2_factorial fl_X6_71 fs_X2_factorial rfl (c_X2_factorial hs (d := d - 1) (by omega) (w := w) n (by omega) (kc := 0) (ks := 0)) (by omega) (st := [.int v8]) (Nat.le_of_ble_eq_true rfl) rfl (kr_P fun v9 hv9 => ?_) kx_I
    refine J_callS0 (pc := 31) (M := mX6_sizesAgree) (as := [.int v8, .int v9]) dX6_sizesAgree_31 fw_X6_divides fl_X6_284 fs_X6_divides rfl (c_X6_divides hs (d := d - 1) (by omega) (w := w) v8 v9 (kc := 0) (ks := 0)) (by omega) (st := []) (Nat.le_of_ble_eq_true rfl) rfl (kr_P fun v10 hv10 => ?_) kx_I
    obtain ⟨k10, rfl, hk10⟩ := hv10
    refine J_if_eqN (pc := 34) (tgt := 41) dX6_sizesAgree_34 (by decide) (by omega) (fun ht11 => ?_) (fun hf12 => ?_)
    · refine J_iconst (pc := 41) (v := nI 0) dX6_sizesAgree_41 (by decide) ?_
      exact J_zret (pc := 42) dX6_sizesAgree_42 rfl (nar_b (by omega)) ⟨⟨0, rfl, by omega⟩, rfl⟩
    · refine J_iconst (pc := 37) (v := nI 1) dX6_sizesAgree_37 (by decide) ?_
      refine J_goto (pc := 38) (tgt := 42) dX6_sizesAgree_38 (by decide) ?_
      exact J_zret (pc := 42) dX6_sizesAgree_42 rfl (nar_b (by omega)) ⟨⟨1, rfl, by omega⟩, rfl⟩
