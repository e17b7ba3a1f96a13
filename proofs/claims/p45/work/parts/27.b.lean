/-! texts of the class -/
theorem pc7 : ∀ m, m < 128 → cnt (fun i => m.testBit i) 32 ≤ 7 := by decide +kernel
theorem c_J6_bitCount_0f7a4_at7 {X : jX} (hs : X.1.stackTraces = false) {d : Nat} (hd : 0 ≤ d) {w : List jC} (m : Nat) (hy0 : m < 128) {kc ks : Nat} : jMet X mJ6_bitCount_0f7a4 d kc ks [.int (nI m)] w (pI (fun v => ∃ k : Nat, v = nI k ∧ k ≤ 7) (fun w' => w' = w)) := by
  refine (c_J6_bitCount_0f7a4_atx hs hd (nI m)).mono (fun o w' h => ?_)
  match o, h with
  | .inl (some (.int v)), h => exact ⟨⟨pc32 (nI m), h.1, by rw [pc32_nI (by omega)]; exact pc7 m hy0⟩, h.2⟩
def nb (k : Nat) : Nat → Nat
  | 0 => 0
  | c + 1 => nb k c * (k - c) + 7
theorem nb_le : ∀ k, k < 8 → nb k k ≤ 6118 := by decide
theorem inc_sub {z c : Int32} : z + Int32.ofInt 1 - c = z - c + nI 1 := by
  rw [Int32.sub_eq_add_neg, Int32.sub_eq_add_neg, Int32.add_assoc, Int32.add_assoc, Int32.add_comm (Int32.ofInt 1)]
  rfl
section JVG
variable {X : jX} {M : jM} {d kc ks pc : Nat} {L : List (Option Value)} {st : List Value} {w : List jC} {Q : jQ}
theorem J_andLe {a : Nat} {y : Int32} (hdg : decode M.2.1 pc = .ok (.iand, 1)) (ha : a < 2 ^ 31) (k : ∀ j, j ≤ a → J X M d kc ks (pc + 1) L (.int (nI j) :: st) w Q) : J X M d kc ks pc L (.int y :: .int (nI a) :: st) w Q :=
  J_iand hdg (by
    have e : nI a &&& y = nI (a &&& y.toBitVec.toNat) := by
      rw [nI_self y, and_nI (by omega) y.toBitVec.isLt]
      congr 2
      show _ = (BitVec.ofNat 32 y.toBitVec.toNat).toNat
      rw [BitVec.toNat_ofNat, Nat.mod_eq_of_lt y.toBitVec.isLt]
    rw [e]
    exact k _ Nat.and_le_left)
theorem J_shl1 {s : Nat} (hdg : decode M.2.1 pc = .ok (.ishl, 1)) (hs : s < 31) (k : J X M d kc ks (pc + 1) L (.int (nI (2 ^ s)) :: st) w Q) : J X M d kc ks pc L (.int (nI s) :: .int (nI 1) :: st) w Q :=
  J_ishl hdg (by
    rw [pk_shlN (n := 1) _ s (sh_of (by omega)) (by rw [Nat.one_mul]; exact Nat.pow_lt_pow_right (by decide) (by omega)), Nat.one_mul]
    exact k)
end JVG
theorem rX_fs {n : Nat} {e r q : Int32} {a v : Nat} {w w' : List jC} (h : SH (rX n e r q) w) (h' : FS a v w w') (ha : 19 ≤ a) (hv : 19 ≤ v) : SH (rX n e r q) w' := h.fs h' ha hv
set_option maxRecDepth 100000 in
set_option maxHeartbeats 40000000 in
theorem c_X6_needCell_atok {X : jX} (hs : X.1.stackTraces = false) {d : Nat} (hd : 1 ≤ d) {w : List jC} (a : Nat) (hy0 : a < 6) {kc ks : Nat} : jMet X mX6_needCell d kc ks [.int (nI a)] w (pV (fun w' => w' = w)) := by
  refine jMet_of hs (by decide +kernel) (Nat.le_of_ble_eq_true rfl) (L := [some (.int (nI a))]) rfl ?_
  refine J_iload_n (pc := 0) dX6_needCell_0 rfl rfl ?_
  refine J_if_ltN (pc := 1) (tgt := 10) dX6_needCell_1 (by decide) (by omega) (fun hf2 => ?_)
  refine J_iload_n (pc := 4) dX6_needCell_4 rfl rfl ?_
  refine J_bipush (pc := 5) (v := nI 6) dX6_needCell_5 (by decide) ?_
  refine J_icmp_ltN (pc := 7) (tgt := 21) dX6_needCell_7 (by decide) (by omega) (by omega) (fun ht3 => ?_) (fun hf4 => ?_)
  · exact J_vret (pc := 21) dX6_needCell_21 rfl (rfl)
  · exact absurd hf4 (by omega)
set_option maxRecDepth 100000 in
set_option maxHeartbeats 40000000 in
theorem c_X6_need_atok {X : jX} (hs : X.1.stackTraces = false) {d : Nat} (hd : 1 ≤ d) {w : List jC} (a : Nat) (hy0 : a = 1) {kc ks : Nat} : jMet X mX6_need d kc ks [.int (nI a)] w (pV (fun w' => w' = w)) := by
  refine jMet_of hs (by decide +kernel) (Nat.le_of_ble_eq_true rfl) (L := [some (.int (nI a))]) rfl ?_
  refine J_iload_n (pc := 0) dX6_need_0 rfl rfl ?_
  refine J_if_neN (pc := 1) (tgt := 15) dX6_need_1 (by decide) (by omega) (fun ht1 => ?_) (fun hf2 => ?_)
  · exact J_vret (pc := 15) dX6_need_15 rfl (rfl)
  · exact absurd hf2 (by omega)
set_option maxRecDepth 100000 in
set_option maxHeartbeats 40000000 in
theorem c_X6_needBetween_atok {X : jX} (hs : X.1.stackTraces = false) {d : Nat} (hd : 2 ≤ d) {w : List jC} (a : Nat) (c : Nat) (e : Nat) (hy0 : c ≤ a) (hy1 : a ≤ e) (hy2 : e < 2147483648) {kc ks : Nat} : jMet X mX6_needBetween d kc ks [.int (nI a), .int (nI c), .int (nI e)] w (pV (fun w' => w' = w)) := by
  refine jMet_of hs (by decide +kernel) (Nat.le_of_ble_eq_true rfl) (L := [some (.int (nI a)), some (.int (nI c)), some (.int (nI e))]) rfl ?_
  refine J_iload_n (pc := 0) dX6_needBetween_0 rfl rfl ?_
  refine J_iload_n (pc := 1) dX6_needBetween_1 rfl rfl ?_
  refine J_icmp_ltN (pc := 2) (tgt := 14) dX6_needBetween_2 (by decide) (by omega) (by omega) (fun ht1 => ?_) (fun hf2 => ?_)
  · exact absurd ht1 (by omega)
  · refine J_iload_n (pc := 5) dX6_needBetween_5 rfl rfl ?_
    refine J_iload_n (pc := 6) dX6_needBetween_6 rfl rfl ?_
    refine J_icmp_gtN (pc := 7) (tgt := 14) dX6_needBetween_7 (by decide) (by omega) (by omega) (fun ht3 => ?_) (fun hf4 => ?_)
    · exact absurd ht3 (by omega)
    · refine J_iconst (pc := 10) (v := nI 1) dX6_needBetween_10 (by decide) ?_
      refine J_goto (pc := 11) (tgt := 15) dX6_needBetween_11 (by decide) ?_
      refine J_callS0 (pc := 15) (as := [.int (nI 1)]) dX6_needBetween_15 fw_X6_need fl_X6_99 fs_X6_need rfl (c_X6_need_atok hs (d := d - 1) (by omega) (w := w) 1 (by omega) (kc := 0) (ks := 0)) (by omega) (st := []) (Nat.le_of_ble_eq_true rfl) rfl (kr_V fun w5 hw5 => ?_) kx_V
      obtain rfl := hw5.symm
      exact J_vret (pc := 18) dX6_needBetween_18 rfl (rfl)
set_option maxRecDepth 100000 in
set_option maxHeartbeats 40000000 in
theorem c_X6_needSet_atok {X : jX} (hs : X.1.stackTraces = false) {d : Nat} (hd : 3 ≤ d) {w : List jC} (a : Nat) (hy0 : a < 64) {kc ks : Nat} : jMet X mX6_needSet d kc ks [.int (nI a)] w (pV (fun w' => w' = w)) := by
  refine jMet_of hs (by decide +kernel) (Nat.le_of_ble_eq_true rfl) (L := [some (.int (nI a))]) rfl ?_
  refine J_iload_n (pc := 0) dX6_needSet_0 rfl rfl ?_
  refine J_iconst (pc := 1) (v := nI 0) dX6_needSet_1 (by decide) ?_
  refine J_bipush (pc := 2) (v := nI 63) dX6_needSet_2 (by decide) ?_
  refine J_callS0 (pc := 4) (as := [.int (nI a), .int (nI 0), .int (nI 63)]) dX6_needSet_4 fw_X6_needBetween fl_X6_63 fs_X6_needBetween rfl (c_X6_needBetween_atok hs (d := d - 1) (by omega) (w := w) a 0 63 (by omega) (by omega) (by omega) (kc := 0) (ks := 0)) (by omega) (st := []) (Nat.le_of_ble_eq_true rfl) rfl (kr_V fun w1 hw1 => ?_) kx_V
  obtain rfl := hw1.symm
  exact J_vret (pc := 7) dX6_needSet_7 rfl (rfl)
set_option maxRecDepth 100000 in
set_option maxHeartbeats 40000000 in
theorem c_X6_number_atok {X : jX} (hs : X.1.stackTraces = false) {d : Nat} (hd : 6 ≤ d) {n : Nat} {e r q : Int32} (hn1 : 2 ≤ n) (hn2 : n ≤ 7) {w : List jC} (hS : SH (rX n e r q) w) (a : Nat) (hy0 : a < 6) {kc ks : Nat} : jMet X mX6_number d kc ks [.ref 0, .int (nI a)] w (pI (fun _ => True) (fun w' => w' = w)) := by
  refine jMet_of hs (by decide +kernel) (Nat.le_of_ble_eq_true rfl) (L := [some (.ref 0), some (.int (nI a))]) rfl ?_
  have hG : Fr kX w w := Fr.rf
  refine J_iload_n (pc := 0) dX6_number_0 rfl rfl ?_
  refine J_callS0 (pc := 1) (as := [.int (nI a)]) dX6_number_1 fw_X6_needCell fl_X6_67 fs_X6_needCell rfl (c_X6_needCell_atok hs (d := d - 1) (by omega) (w := w) a (by omega) (kc := 0) (ks := 0)) (by omega) (st := []) (Nat.le_of_ble_eq_true rfl) rfl (kr_V fun w1 hw1 => ?_) kx_V
  obtain rfl := hw1.symm
  refine J_aload_n (pc := 4) dX6_number_4 rfl rfl rfl ?_
  obtain ⟨_, hc2, rfl⟩ := hS 0 _ rfl
  refine J_get (pc := 5) (k := 0) dX6_number_5 kC7 (by decide) ff_X6_9 hc2 rfl ?_
  refine J_iload_n (pc := 8) dX6_number_8 rfl rfl ?_
  obtain ⟨_, hc3, xs3, rfl, hl3⟩ := hS 1 _ rfl
  refine J_iald (pc := 9) dX6_number_9 hc3 (nI_in (by omega) (by omega)) (J_absI fun x4 => ?_)
  refine J_aload_n (pc := 10) dX6_number_10 rfl rfl rfl ?_
  refine J_get (pc := 11) (k := 5) dX6_number_11 kC7 (by decide) ff_X6_41 hc2 rfl ?_
  refine J_callS0 (pc := 14) (as := [.int x4, .int (nI n)]) dX6_number_14 fw_X2_numberOf fl_X6_75 fs_X2_numberOf rfl (c_X2_numberOf hs (d := d - 1) (by omega) (w := w) x4 n (by omega) (kc := 0) (ks := 0)) (by omega) (st := []) (Nat.le_of_ble_eq_true rfl) rfl (kr_P fun v5 hv5 => ?_) kx_I
  exact J_iret (pc := 17) dX6_number_17 rfl ⟨trivial, rfl⟩
set_option maxRecDepth 100000 in
set_option maxHeartbeats 40000000 in
theorem c_X6_order_atok {X : jX} (hs : X.1.stackTraces = false) {d : Nat} (hd : 6 ≤ d) {n : Nat} {e r q : Int32} (hn1 : 2 ≤ n) (hn2 : n ≤ 7) {w : List jC} (hS : SH (rX n e r q) w) (a : Nat) (hy0 : a < 6) {kc ks : Nat} : jMet X mX6_order d kc ks [.ref 0, .int (nI a)] w (pI (fun v => ∃ k : Nat, v = nI k ∧ k < 16) (fun w' => w' = w)) := by
  refine jMet_of hs (by decide +kernel) (Nat.le_of_ble_eq_true rfl) (L := [some (.ref 0), some (.int (nI a))]) rfl ?_
  have hG : Fr kX w w := Fr.rf
  refine J_iload_n (pc := 0) dX6_order_0 rfl rfl ?_
  refine J_callS0 (pc := 1) (as := [.int (nI a)]) dX6_order_1 fw_X6_needCell fl_X6_67 fs_X6_needCell rfl (c_X6_needCell_atok hs (d := d - 1) (by omega) (w := w) a (by omega) (kc := 0) (ks := 0)) (by omega) (st := []) (Nat.le_of_ble_eq_true rfl) rfl (kr_V fun w1 hw1 => ?_) kx_V
  obtain rfl := hw1.symm
  refine J_aload_n (pc := 4) dX6_order_4 rfl rfl rfl ?_
  obtain ⟨_, hc2, rfl⟩ := hS 0 _ rfl
  refine J_get (pc := 5) (k := 0) dX6_order_5 kC7 (by decide) ff_X6_9 hc2 rfl ?_
  refine J_iload_n (pc := 8) dX6_order_8 rfl rfl ?_
  obtain ⟨_, hc3, xs3, rfl, hl3⟩ := hS 1 _ rfl
  refine J_iald (pc := 9) dX6_order_9 hc3 (nI_in (by omega) (by omega)) (J_absI fun x4 => ?_)
  refine J_callS0 (pc := 10) (as := [.int x4]) dX6_order_10 fw_X2_orderOf fl_X6_164 fs_X2_orderOf rfl (c_X2_orderOf hs (d := d - 1) (by omega) (w := w) x4 (kc := 0) (ks := 0)) (by omega) (st := []) (Nat.le_of_ble_eq_true rfl) rfl (kr_P fun v5 hv5 => ?_) kx_I
  obtain ⟨k5, rfl, hk5⟩ := hv5
  exact J_iret (pc := 13) dX6_order_13 rfl ⟨⟨k5, rfl, by omega⟩, rfl⟩
set_option maxRecDepth 100000 in
set_option maxHeartbeats 40000000 in
theorem c_X6_sign_atok {X : jX} (hs : X.1.stackTraces = false) {d : Nat} (hd : 6 ≤ d) {n : Nat} {e r q : Int32} (hn1 : 2 ≤ n) (hn2 : n ≤ 7) {w : List jC} (hS : SH (rX n e r q) w) (a : Nat) (hy0 : a < 6) {kc ks : Nat} : jMet X mX6_sign d kc ks [.ref 0, .int (nI a)] w (pI (fun _ => True) (fun w' => w' = w)) := by
  refine jMet_of hs (by decide +kernel) (Nat.le_of_ble_eq_true rfl) (L := [some (.ref 0), some (.int (nI a))]) rfl ?_
  have hG : Fr kX w w := Fr.rf
  refine J_iload_n (pc := 0) dX6_sign_0 rfl rfl ?_
  refine J_callS0 (pc := 1) (as := [.int (nI a)]) dX6_sign_1 fw_X6_needCell fl_X6_67 fs_X6_needCell rfl (c_X6_needCell_atok hs (d := d - 1) (by omega) (w := w) a (by omega) (kc := 0) (ks := 0)) (by omega) (st := []) (Nat.le_of_ble_eq_true rfl) rfl (kr_V fun w1 hw1 => ?_) kx_V
  obtain rfl := hw1.symm
  refine J_aload_n (pc := 4) dX6_sign_4 rfl rfl rfl ?_
  obtain ⟨_, hc2, rfl⟩ := hS 0 _ rfl
  refine J_get (pc := 5) (k := 0) dX6_sign_5 kC7 (by decide) ff_X6_9 hc2 rfl ?_
  refine J_iload_n (pc := 8) dX6_sign_8 rfl rfl ?_
  obtain ⟨_, hc3, xs3, rfl, hl3⟩ := hS 1 _ rfl
  refine J_iald (pc := 9) dX6_sign_9 hc3 (nI_in (by omega) (by omega)) (J_absI fun x4 => ?_)
  refine J_aload_n (pc := 10) dX6_sign_10 rfl rfl rfl ?_
  refine J_get (pc := 11) (k := 5) dX6_sign_11 kC7 (by decide) ff_X6_41 hc2 rfl ?_
  refine J_callS0 (pc := 14) (as := [.int x4, .int (nI n)]) dX6_sign_14 fw_X2_signOf fl_X6_167 fs_X2_signOf rfl (c_X2_signOf hs (d := d - 1) (by omega) (w := w) x4 n (by omega) (kc := 0) (ks := 0)) (by omega) (st := []) (Nat.le_of_ble_eq_true rfl) rfl (kr_P fun v5 hv5 => ?_) kx_I
  exact J_iret (pc := 17) dX6_sign_17 rfl ⟨trivial, rfl⟩
set_option maxRecDepth 100000 in
set_option maxHeartbeats 40000000 in
theorem c_X6_stays_atok {X : jX} (hs : X.1.stackTraces = false) {d : Nat} (hd : 6 ≤ d) {n : Nat} {e r q : Int32} (hn1 : 2 ≤ n) (hn2 : n ≤ 7) {w : List jC} (hS : SH (rX n e r q) w) (a : Nat) (hy0 : a < 6) {kc ks : Nat} : jMet X mX6_stays d kc ks [.ref 0, .int (nI a)] w (pI (fun _ => True) (fun w' => w' = w)) := by
  refine jMet_of hs (by decide +kernel) (Nat.le_of_ble_eq_true rfl) (L := [some (.ref 0), some (.int (nI a)), none, none]) rfl ?_
  have hG : Fr kX w w := Fr.rf
  refine J_iload_n (pc := 0) dX6_stays_0 rfl rfl ?_
  refine J_callS0 (pc := 1) (as := [.int (nI a)]) dX6_stays_1 fw_X6_needCell fl_X6_67 fs_X6_needCell rfl (c_X6_needCell_atok hs (d := d - 1) (by omega) (w := w) a (by omega) (kc := 0) (ks := 0)) (by omega) (st := []) (Nat.le_of_ble_eq_true rfl) rfl (kr_V fun w1 hw1 => ?_) kx_V
  obtain rfl := hw1.symm
  refine J_iconst (pc := 4) (v := nI 0) dX6_stays_4 (by decide) ?_
  refine J_istore_n (pc := 5) dX6_stays_5 rfl (by decide) rfl ?_
  show J X mX6_stays d kc ks 6 [some (.ref 0), some (.int (nI a)), some (.int (nI 0)), none] [] w _
  refine J_iconst (pc := 6) (v := nI 0) dX6_stays_6 (by decide) ?_
  refine J_istore_n (pc := 7) dX6_stays_7 rfl (by decide) rfl ?_
  show J X mX6_stays d kc ks 8 [some (.ref 0), some (.int (nI a)), some (.int (nI 0)), some (.int (nI 0))] [] w _
  have lp8_3 : ∀ (fuel : Nat) (z2 : Int32) (c3 : Nat), (c3 < 2147483648) → (7 - c3 < fuel) → J X mX6_stays d kc ks 8 [some (.ref 0), some (.int (nI a)), some (.int z2), some (.int (nI c3))] [] w (pI (fun _ => True) (fun w' => w' = w)) := by
    intro fuellp8_3
    induction fuellp8_3 with
    | zero => intros; omega
    | succ fuellp8_3 ihlp8_3 =>
      intro z2 c3 hv8_0 hf2
      refine J_iload_n (pc := 8) dX6_stays_8 rfl rfl ?_
      refine J_aload_n (pc := 9) dX6_stays_9 rfl rfl rfl ?_
      obtain ⟨_, hc4, rfl⟩ := hS 0 _ rfl
      refine J_get (pc := 10) (k := 5) dX6_stays_10 kC7 (by decide) ff_X6_41 hc4 rfl ?_
      refine J_icmp_geN (pc := 13) (tgt := 42) dX6_stays_13 (by decide) (by omega) (by omega) (fun ht5 => ?_) (fun hf6 => ?_)
      · refine J_iload_n (pc := 42) dX6_stays_42 rfl rfl ?_
        exact J_iret (pc := 43) dX6_stays_43 rfl ⟨trivial, rfl⟩
      · refine J_aload_n (pc := 16) dX6_stays_16 rfl rfl rfl ?_
        refine J_get (pc := 17) (k := 0) dX6_stays_17 kC7 (by decide) ff_X6_9 hc4 rfl ?_
        refine J_iload_n (pc := 20) dX6_stays_20 rfl rfl ?_
        obtain ⟨_, hc7, xs7, rfl, hl7⟩ := hS 1 _ rfl
        refine J_iald (pc := 21) dX6_stays_21 hc7 (nI_in (by omega) (by omega)) (J_absI fun x8 => ?_)
        refine J_iload_n (pc := 22) dX6_stays_22 rfl rfl ?_
        refine J_callS0 (pc := 23) (as := [.int x8, .int (nI c3)]) dX6_stays_23 fw_X2_goal fl_X6_144 fs_X2_goal rfl (c_X2_goal hs (d := d - 1) (by omega) (w := w) x8 (nI c3) (kc := 0) (ks := 0)) (by omega) (st := []) (Nat.le_of_ble_eq_true rfl) rfl (kr_P fun v9 hv9 => ?_) kx_I
        obtain ⟨k9, rfl, hk9⟩ := hv9
        refine J_iload_n (pc := 26) dX6_stays_26 rfl rfl ?_
        refine J_icmp_neN (pc := 27) (tgt := 36) dX6_stays_27 (by decide) (by omega) (by omega) (fun ht10 => ?_) (fun hf11 => ?_)
        · refine J_iincN (pc := 36) (b := 1) dX6_stays_36 rfl (by decide) (by decide) rfl ?_
          show J X mX6_stays d kc ks 39 [some (.ref 0), some (.int (nI a)), some (.int z2), some (.int (nI (c3 + 1)))] [] w _
          refine J_goto (pc := 39) (tgt := 8) dX6_stays_39 (by decide) ?_
          exact J_sub (L' := [some (.ref 0), some (.int (nI a)), some (.int z2), some (.int (nI (c3 + 1)))]) ⟨rfl, ⟨rfl, ⟨rfl, ⟨rfl, trivial⟩⟩⟩⟩ (ihlp8_3 z2 (c3 + 1) (by first | assumption | omega) (by omega))
        · refine J_iload_n (pc := 30) dX6_stays_30 rfl rfl ?_
          refine J_iconst (pc := 31) (v := nI 1) dX6_stays_31 (by decide) ?_
          refine J_iload_n (pc := 32) dX6_stays_32 rfl rfl ?_
          refine J_ishl (pc := 33) dX6_stays_33 (J_absI fun x12 => ?_)
          refine J_ior (pc := 34) dX6_stays_34 (J_absI fun x13 => ?_)
          refine J_istore_n (pc := 35) dX6_stays_35 rfl (by decide) rfl ?_
          show J X mX6_stays d kc ks 36 [some (.ref 0), some (.int (nI a)), some (.int x13), some (.int (nI c3))] [] w _
          refine J_iincN (pc := 36) (b := 1) dX6_stays_36 rfl (by decide) (by decide) rfl ?_
          show J X mX6_stays d kc ks 39 [some (.ref 0), some (.int (nI a)), some (.int x13), some (.int (nI (c3 + 1)))] [] w _
          refine J_goto (pc := 39) (tgt := 8) dX6_stays_39 (by decide) ?_
          exact J_sub (L' := [some (.ref 0), some (.int (nI a)), some (.int x13), some (.int (nI (c3 + 1)))]) ⟨rfl, ⟨rfl, ⟨rfl, ⟨rfl, trivial⟩⟩⟩⟩ (ihlp8_3 x13 (c3 + 1) (by first | assumption | omega) (by omega))
  exact J_sub (L' := [some (.ref 0), some (.int (nI a)), some (.int (nI 0)), some (.int (nI 0))]) ⟨rfl, ⟨rfl, ⟨rfl, ⟨rfl, trivial⟩⟩⟩⟩ (lp8_3 _ (nI 0) 0 (by first | assumption | omega) (Nat.lt_succ_self _))
set_option maxRecDepth 100000 in
set_option maxHeartbeats 40000000 in
theorem c_X6_pieces_atok {X : jX} (hs : X.1.stackTraces = false) {d : Nat} (hd : 8 ≤ d) {n : Nat} {e r q : Int32} (hn1 : 2 ≤ n) (hn2 : n ≤ 7) {w : List jC} (hS : SH (rX n e r q) w) (a : Nat) (hy0 : a < 64) {kc ks : Nat} : jMet X mX6_pieces d kc ks [.ref 0, .int (nI a)] w (pI (fun _ => True) (fun w' => rS n e r q w w')) := by
  refine jMet_of hs (by decide +kernel) (Nat.le_of_ble_eq_true rfl) (L := [some (.ref 0), some (.int (nI a))]) rfl ?_
  have hG : Fr kX w w := Fr.rf
  refine J_iload_n (pc := 0) dX6_pieces_0 rfl rfl ?_
  refine J_callS0 (pc := 1) (as := [.int (nI a)]) dX6_pieces_1 fw_X6_needSet fl_X6_131 fs_X6_needSet rfl (c_X6_needSet_atok hs (d := d - 1) (by omega) (w := w) a (by omega) (kc := 0) (ks := 0)) (by omega) (st := []) (Nat.le_of_ble_eq_true rfl) rfl (kr_V fun w1 hw1 => ?_) kx_V
  obtain rfl := hw1.symm
  refine J_aload_n (pc := 4) dX6_pieces_4 rfl rfl rfl ?_
  obtain ⟨_, hc2, rfl⟩ := hS 0 _ rfl
  refine J_get (pc := 5) (k := 3) dX6_pieces_5 kC7 (by decide) ff_X6_30 hc2 rfl ?_
  refine J_aload_n (pc := 8) dX6_pieces_8 rfl rfl rfl ?_
  refine J_get (pc := 9) (k := 0) dX6_pieces_9 kC7 (by decide) ff_X6_9 hc2 rfl ?_
  refine J_iload_n (pc := 12) dX6_pieces_12 rfl rfl ?_
  refine J_aload_n (pc := 13) dX6_pieces_13 rfl rfl rfl ?_
  refine J_get (pc := 14) (k := 5) dX6_pieces_14 kC7 (by decide) ff_X6_41 hc2 rfl ?_
  obtain ⟨_, hc4, ka4, rfl, hb4_0⟩ := hS 12 _ rfl
  refine J_callV0 (pc := 17) (as := [.ref 1, .int (nI a), .int (nI n)]) dX6_pieces_17 fw_X4_joinComing fl_X6_187 fm_X4_joinComing fe_X4_joinComing hc4 (by decide) rfl rfl rfl (c_X4_joinComing hs (d := d - 1) (by omega) (e := e) (r := r) (q := q) hn1 hn2 hS (w := w) (nI a) (kc := 0) (ks := 0)) (by omega) (st := []) (Nat.le_of_ble_eq_true rfl) rfl (kr_V fun w3 hw3 => ?_) kx_V
  obtain ⟨hS3, hF3⟩ := hw3
  have hG3 := hG.tr hF3
  refine J_aload_n (pc := 20) dX6_pieces_20 rfl rfl rfl ?_
  obtain ⟨_, hc5, rfl⟩ := hS3 0 _ rfl
  refine J_get (pc := 21) (k := 3) dX6_pieces_21 kC7 (by decide) ff_X6_30 hc5 rfl ?_
  obtain ⟨_, hc7, ka7, rfl, hb7_0⟩ := hS3 12 _ rfl
  refine J_callV0 (pc := 24) (as := []) dX6_pieces_24 fw_X4_parts fl_X6_193 fm_X4_parts fe_X4_parts hc7 (by decide) rfl rfl rfl (c_X4_parts hs (d := d - 1) (by omega) (e := e) (r := r) (q := q) hn1 hn2 hS3 (w := w3)  (kc := 0) (ks := 0)) (by omega) (st := []) (Nat.le_of_ble_eq_true rfl) rfl (kr_P fun v6 hv6 => ?_) kx_I
  exact J_iret (pc := 27) dX6_pieces_27 rfl ⟨trivial, ⟨hS3, hG3⟩⟩
set_option maxRecDepth 100000 in
set_option maxHeartbeats 40000000 in
theorem c_X6_house_atok {X : jX} (hs : X.1.stackTraces = false) {d : Nat} (hd : 4 ≤ d) {n : Nat} {e r q : Int32} (hn1 : 2 ≤ n) (hn2 : n ≤ 7) {w : List jC} (hS : SH (rX n e r q) w) (a : Nat) (hy0 : a ≤ 2) {kc ks : Nat} : jMet X mX6_house d kc ks [.ref 0, .int (nI a)] w (pI (fun _ => True) (fun w' => w' = w)) := by
  refine jMet_of hs (by decide +kernel) (Nat.le_of_ble_eq_true rfl) (L := [some (.ref 0), some (.int (nI a))]) rfl ?_
  have hG : Fr kX w w := Fr.rf
  refine J_iload_n (pc := 0) dX6_house_0 rfl rfl ?_
  refine J_iconst (pc := 1) (v := nI 0) dX6_house_1 (by decide) ?_
  refine J_iconst (pc := 2) (v := nI 2) dX6_house_2 (by decide) ?_
  refine J_callS0 (pc := 3) (as := [.int (nI a), .int (nI 0), .int (nI 2)]) dX6_house_3 fw_X6_needBetween fl_X6_63 fs_X6_needBetween rfl (c_X6_needBetween_atok hs (d := d - 1) (by omega) (w := w) a 0 2 (by omega) (by omega) (by omega) (kc := 0) (ks := 0)) (by omega) (st := []) (Nat.le_of_ble_eq_true rfl) rfl (kr_V fun w1 hw1 => ?_) kx_V
  obtain rfl := hw1.symm
  refine J_iload_n (pc := 6) dX6_house_6 rfl rfl ?_
  refine J_if_neN (pc := 7) (tgt := 15) dX6_house_7 (by decide) (by omega) (fun ht2 => ?_) (fun hf3 => ?_)
  · refine J_iload_n (pc := 15) dX6_house_15 rfl rfl ?_
    refine J_iconst (pc := 16) (v := nI 1) dX6_house_16 (by decide) ?_
    refine J_icmp_neN (pc := 17) (tgt := 27) dX6_house_17 (by decide) (by omega) (by omega) (fun ht4 => ?_) (fun hf5 => ?_)
    · refine J_aload_n (pc := 27) dX6_house_27 rfl rfl rfl ?_
      obtain ⟨_, hc6, rfl⟩ := hS 0 _ rfl
      refine J_get (pc := 28) (k := 8) dX6_house_28 kC7 (by decide) ff_X6_51 hc6 rfl ?_
      exact J_iret (pc := 31) dX6_house_31 rfl ⟨trivial, rfl⟩
    · refine J_aload_n (pc := 20) dX6_house_20 rfl rfl rfl ?_
      obtain ⟨_, hc7, rfl⟩ := hS 0 _ rfl
      refine J_get (pc := 21) (k := 7) dX6_house_21 kC7 (by decide) ff_X6_48 hc7 rfl ?_
      refine J_goto (pc := 24) (tgt := 31) dX6_house_24 (by decide) ?_
      exact J_iret (pc := 31) dX6_house_31 rfl ⟨trivial, rfl⟩
  · refine J_aload_n (pc := 10) dX6_house_10 rfl rfl rfl ?_
    obtain ⟨_, hc8, rfl⟩ := hS 0 _ rfl
    refine J_get (pc := 11) (k := 6) dX6_house_11 kC7 (by decide) ff_X6_45 hc8 rfl ?_
    exact J_iret (pc := 14) dX6_house_14 rfl ⟨trivial, rfl⟩
set_option maxRecDepth 100000 in
set_option maxHeartbeats 40000000 in
theorem c_X6_text {X : jX} (hs : X.1.stackTraces = false) {d : Nat} (hd : 14 ≤ d) (hXO : XO X) {n : Nat} {e r q : Int32} (hn1 : 2 ≤ n) (hn2 : n ≤ 7) {w : List jC} (hS : SH (rX n e r q) w) (a : Int32) {kc ks : Nat} (hkc : 40 ≤ kc) (hks : 1500 ≤ ks) : jMet X mX6_text d kc ks [.ref 0, .int a] w (pX (pA (fun r w' => SH (rX n e r q) w' ∧ Fr kX w w')) (fun E w' => (E = "java/lang/IndexOutOfBoundsException") ∧ rS n e r q w w')) := by
  refine jMet_of hs (by decide +kernel) (Nat.le_of_ble_eq_true rfl) (L := [some (.ref 0), some (.int a), none, none]) rfl ?_
  have hG : Fr kX w w := Fr.rf
  refine J_iload_n (pc := 0) dX6_text_0 rfl rfl ?_
  refine J_callS (pc := 1) (as := [.int a]) dX6_text_1 fw_X6_needCell fl_X6_67 fs_X6_needCell rfl (c_X6_needCell hs (d := d - 1) (by omega) (w := w) a (kc := 1) (ks := 6) (Nat.le_refl _) (Nat.le_refl _)) (by omega) (by omega) (by omega) (st := []) (Nat.le_of_ble_eq_true rfl) rfl (kr_X (kr_V fun w1 hw1 => ?_)) (kx_X fun E1 w1 hx1 => ?_)
  · obtain ⟨hq1, hp1⟩ := hw1
    obtain rfl := hq1.symm
    obtain ⟨b1, hb1, rfl⟩ := hp1
    have qS2 : 18 < w.length := hS.lt (by show 18 < 19; decide)
    have qG2 := hG.1
    refine J_newO (pc := 4) (fs := [.null, .int (nI 0), .int (nI 0), .int (nI 0)]) dX6_text_4 kC1 fc_X6_147 fi_J4 fz_J4 df_J4 (by omega) (by omega) (fun a4 w2 ha2 hln2 hc2 hne2 => ?_)
    have hS2 := hS.gr (fun i hi => hne2 i (by omega))
    have hG2 := hG.gr (by omega) (fun i hi => hne2 i (by omega))
    have qa2 : 19 ≤ a4 := by omega
    have qw2 : w.length ≤ a4 := by omega
    have qww : 19 ≤ w.length := Nat.lt_of_lt_of_le (by decide : 18 < 19) (Nat.succ_le_of_lt (hS.lt (a := 18) (by show 18 < 19; decide)))
    refine J_dup (pc := 7) dX6_text_7 rfl ?_
    refine J_callI (pc := 8) (as := []) dX6_text_8 fw_J4_init_da8c8 fl_X6_149 fm_J4_init_da8c8 rfl rfl rfl (c_J4_init_da8c8 hs (d := d - 1) (by omega) (w := w2) a4 hc2 (kc := 1) (ks := 16) (Nat.le_refl _) (Nat.le_refl _)) (by omega) (by omega) (by omega) (st := [.ref a4]) (Nat.le_of_ble_eq_true rfl) rfl (kr_V fun w3 hw3 => ?_) kx_V
    obtain ⟨v3', ys3, hB3, hFc3, hvv3⟩ := hw3
    have hgl3 := hFc3.1
    have hbl3 := hB3.2.2.2.2.1
    have hS3 := rX_fs hS2 hFc3 (by omega) (by omega)
    have hG3 := hG2.sb hFc3 (by omega) (by omega)
    refine J_astore_n (pc := 11) dX6_text_11 rfl (by decide) rfl rfl ?_
    show J X mX6_text d (kc - 1 - 1 - 1) (ks - 6 - 4 - 16) 12 [some (.ref 0), some (.int (nI b1)), some (.ref a4), none] [] w3 _
    refine J_iconst (pc := 12) (v := nI 0) dX6_text_12 (by decide) ?_
    refine J_istore_n (pc := 13) dX6_text_13 rfl (by decide) rfl ?_
    show J X mX6_text d (kc - 1 - 1 - 1) (ks - 6 - 4 - 16) 14 [some (.ref 0), some (.int (nI b1)), some (.ref a4), some (.int (nI 0))] [] w3 _
    have lp14_14 : ∀ (fuel : Nat) (kc4 ks5 : Nat) (w6 : List jC) (v_14 k_14 : Nat) (b_14 : List Int32) (c3 : Nat), (SH (rX n e r q) w6) → (Fr kX w w6) → (SBp a4 v_14 (nI 0) k_14 b_14 w6) → (w.length ≤ v_14) → ((620 - b_14.length) / 18 ≤ kc4) → (1240 - 2 * b_14.length ≤ ks5) → (c3 ≤ n) → (k_14 ≤ 2 * c3) → (n - c3 < fuel) → J X mX6_text d kc4 ks5 14 [some (.ref 0), some (.int (nI b1)), some (.ref a4), some (.int (nI c3))] [] w6 (pX (pA (fun r w' => SH (rX n e r q) w' ∧ Fr kX w w')) (fun E w' => (E = "java/lang/IndexOutOfBoundsException") ∧ rS n e r q w w')) := by
      intro fuellp14_14
      induction fuellp14_14 with
      | zero => intros; omega
      | succ fuellp14_14 ihlp14_14 =>
        intro kc4 ks5 w6 v_14 k_14 b_14 c3 hS7 hG8 hB9 hv10 hr11 hr12 hv14_0 hv14_1 hf13
        refine J_iload_n (pc := 14) dX6_text_14 rfl rfl ?_
        refine J_aload_n (pc := 15) dX6_text_15 rfl rfl rfl ?_
        obtain ⟨_, hc15, rfl⟩ := hS7 0 _ rfl
        refine J_get (pc := 16) (k := 5) dX6_text_16 kC7 (by decide) ff_X6_41 hc15 rfl ?_
        refine J_icmp_geN (pc := 19) (tgt := 42) dX6_text_19 (by decide) (by omega) (by omega) (fun ht16 => ?_) (fun hf17 => ?_)
        · refine J_aload_n (pc := 42) dX6_text_42 rfl rfl rfl ?_
          have hB118 := hB9.2.2.2.1
          have hB318 := hB9.2.2.2.2.2
          refine J_callV (pc := 43) (as := []) dX6_text_43 fw_J4_toString_0e30d fl_X6_154 fm_J4_toString_0e30d fe_J4_toString_0e30d hB9.1 (by decide) rfl rfl rfl (c_J4_toString_0e30d hs (d := d - 1) (by omega) (a := a4) (v := v_14) (c := k_14) (bs := b_14) (w := w6) hB9 (kc := 2) (ks := k_14 + 4) (Nat.le_refl _) (Nat.le_refl _)) (by omega) (by omega) (by omega) (st := []) (Nat.le_of_ble_eq_true rfl) rfl (kr_A fun r18 w18 hw18 => ?_) kx_A
          obtain ⟨hra18, hln18, hne18, vz18, zs18, hco18, hcn18, hyl18⟩ := hw18
          have hS18 := hS7.gr hne18
          have hG18 := hG8.gr hln18 hne18
          exact J_aret (pc := 46) dX6_text_46 rfl rfl rfl ⟨hS18, hG18⟩
        · refine J_aload_n (pc := 22) dX6_text_22 rfl rfl rfl ?_
          refine J_aload_n (pc := 23) dX6_text_23 rfl rfl rfl ?_
          refine J_get (pc := 24) (k := 0) dX6_text_24 kC7 (by decide) ff_X6_9 hc15 rfl ?_
          refine J_iload_n (pc := 27) dX6_text_27 rfl rfl ?_
          obtain ⟨_, hc19, xs19, rfl, hl19⟩ := hS7 1 _ rfl
          refine J_iald (pc := 28) dX6_text_28 hc19 (nI_in (by omega) (by omega)) (J_absI fun x20 => ?_)
          refine J_iload_n (pc := 29) dX6_text_29 rfl rfl ?_
          refine J_callS0 (pc := 30) (as := [.int x20, .int (nI c3)]) dX6_text_30 fw_X2_goal fl_X6_144 fs_X2_goal rfl (c_X2_goal hs (d := d - 1) (by omega) (w := w6) x20 (nI c3) (kc := 0) (ks := 0)) (by omega) (st := [.ref a4]) (Nat.le_of_ble_eq_true rfl) rfl (kr_P fun v21 hv21 => ?_) kx_I
          obtain ⟨k21, rfl, hk21⟩ := hv21
          have hgf23 := gw_f k_14 k21 b_14.length
          have hgf24 := dgs_le k21
          have hgf25 := dgs_1 (x := k21) (by omega)
          have hB122 := hB9.2.2.2.1
          have hB222 := hB9.2.2.2.2.1
          have hB322 := hB9.2.2.2.2.2
          refine J_callS (pc := 33) (as := [.ref a4, .int (nI k21)]) dX6_text_33 fw_X6_addWord fl_X6_150 fs_X6_addWord rfl (c_X6_addWord hs (d := d - 1) (by omega) hXO (a := a4) (v := v_14) (c := k_14) (bs := b_14) (w := w6) hB9 k21 (by omega) (by omega) (kc := ((gw k_14 k21 b_14.length - b_14.length) / 18)) (ks := (2 * (gw k_14 k21 b_14.length - b_14.length))) (Nat.le_refl _) (Nat.le_refl _)) (by omega) (by omega) (by omega) (st := []) (Nat.le_of_ble_eq_true rfl) rfl (kr_V fun w22 hw22 => ?_) kx_V
          obtain ⟨c22, v22', ys22, hB22, hFc22, hvv22, hc122, hc222, hp22⟩ := hw22
          have hgl22 := hFc22.1
          have hB422 := hB22.2.2.2.1
          have hB522 := hB22.2.2.2.2.2
          have hB622 := hB22.2.2.2.2.1
          have hS22 := rX_fs hS7 hFc22 (by omega) (by omega)
          have hG22 := hG8.sb hFc22 (by omega) (by omega)
          refine J_iincN (pc := 36) (b := 1) dX6_text_36 rfl (by decide) (by decide) rfl ?_
          show J X mX6_text d (kc4 - ((gw k_14 k21 b_14.length - b_14.length) / 18)) (ks5 - (2 * (gw k_14 k21 b_14.length - b_14.length))) 39 [some (.ref 0), some (.int (nI b1)), some (.ref a4), some (.int (nI (c3 + 1)))] [] w22 _
          refine J_goto (pc := 39) (tgt := 14) dX6_text_39 (by decide) ?_
          exact J_sub (L' := [some (.ref 0), some (.int (nI b1)), some (.ref a4), some (.int (nI (c3 + 1)))]) ⟨rfl, ⟨rfl, ⟨rfl, ⟨rfl, trivial⟩⟩⟩⟩ (ihlp14_14 _ _ w22 v22' c22 ys22 (c3 + 1) hS22 hG22 hB22 (by omega) (by omega) (by omega) (by first | assumption | omega) (by first | assumption | omega) (by omega))
    exact J_sub (L' := [some (.ref 0), some (.int (nI b1)), some (.ref a4), some (.int (nI 0))]) ⟨rfl, ⟨rfl, ⟨rfl, ⟨rfl, trivial⟩⟩⟩⟩ (lp14_14 _ _ _ w3 v3' 0 ys3 0 hS3 hG3 hB3 (by omega) (by omega) (by omega) (by first | assumption | omega) (by first | assumption | omega) (Nat.lt_succ_self _))
  · exact JX_out (fun _ h => nomatch h) (by obtain ⟨h1, h2⟩ := hx1; exact ⟨h1, by subst h2; exact ⟨hS.push, hG.tr Fr.push⟩⟩)
set_option maxRecDepth 100000 in
set_option maxHeartbeats 40000000 in
theorem c_X6_rings {X : jX} (hs : X.1.stackTraces = false) {d : Nat} (hd : 14 ≤ d) (hXO : XO X) {n : Nat} {e r q : Int32} (hn1 : 2 ≤ n) (hn2 : n ≤ 7) {w : List jC} (hS : SH (rX n e r q) w) (a : Int32) {kc ks : Nat} (hkc : 40 ≤ kc) (hks : 1500 ≤ ks) : jMet X mX6_rings d kc ks [.ref 0, .int a] w (pX (pA (fun r w' => SH (rX n e r q) w' ∧ Fr kX w w')) (fun E w' => (E = "java/lang/IndexOutOfBoundsException") ∧ rS n e r q w w')) := by
  refine jMet_of hs (by decide +kernel) (Nat.le_of_ble_eq_true rfl) (L := [some (.ref 0), some (.int a), none, none, none]) rfl ?_
  have hG : Fr kX w w := Fr.rf
  refine J_iload_n (pc := 0) dX6_rings_0 rfl rfl ?_
  refine J_callS (pc := 1) (as := [.int a]) dX6_rings_1 fw_X6_needCell fl_X6_67 fs_X6_needCell rfl (c_X6_needCell hs (d := d - 1) (by omega) (w := w) a (kc := 1) (ks := 6) (Nat.le_refl _) (Nat.le_refl _)) (by omega) (by omega) (by omega) (st := []) (Nat.le_of_ble_eq_true rfl) rfl (kr_X (kr_V fun w1 hw1 => ?_)) (kx_X fun E1 w1 hx1 => ?_)
  · obtain ⟨hq1, hp1⟩ := hw1
    obtain rfl := hq1.symm
    obtain ⟨b1, hb1, rfl⟩ := hp1
    have qS2 : 18 < w.length := hS.lt (by show 18 < 19; decide)
    have qG2 := hG.1
    refine J_newO (pc := 4) (fs := [.null, .int (nI 0), .int (nI 0), .int (nI 0)]) dX6_rings_4 kC1 fc_X6_147 fi_J4 fz_J4 df_J4 (by omega) (by omega) (fun a4 w2 ha2 hln2 hc2 hne2 => ?_)
    have hS2 := hS.gr (fun i hi => hne2 i (by omega))
    have hG2 := hG.gr (by omega) (fun i hi => hne2 i (by omega))
    have qa2 : 19 ≤ a4 := by omega
    have qw2 : w.length ≤ a4 := by omega
    have qww : 19 ≤ w.length := Nat.lt_of_lt_of_le (by decide : 18 < 19) (Nat.succ_le_of_lt (hS.lt (a := 18) (by show 18 < 19; decide)))
    refine J_dup (pc := 7) dX6_rings_7 rfl ?_
    refine J_callI (pc := 8) (as := []) dX6_rings_8 fw_J4_init_da8c8 fl_X6_149 fm_J4_init_da8c8 rfl rfl rfl (c_J4_init_da8c8 hs (d := d - 1) (by omega) (w := w2) a4 hc2 (kc := 1) (ks := 16) (Nat.le_refl _) (Nat.le_refl _)) (by omega) (by omega) (by omega) (st := [.ref a4]) (Nat.le_of_ble_eq_true rfl) rfl (kr_V fun w3 hw3 => ?_) kx_V
    obtain ⟨v3', ys3, hB3, hFc3, hvv3⟩ := hw3
    have hgl3 := hFc3.1
    have hbl3 := hB3.2.2.2.2.1
    have hS3 := rX_fs hS2 hFc3 (by omega) (by omega)
    have hG3 := hG2.sb hFc3 (by omega) (by omega)
    refine J_astore_n (pc := 11) dX6_rings_11 rfl (by decide) rfl rfl ?_
    show J X mX6_rings d (kc - 1 - 1 - 1) (ks - 6 - 4 - 16) 12 [some (.ref 0), some (.int (nI b1)), some (.ref a4), none, none] [] w3 _
    refine J_iconst (pc := 12) (v := nI 1) dX6_rings_12 (by decide) ?_
    refine J_istore_n (pc := 13) dX6_rings_13 rfl (by decide) rfl ?_
    show J X mX6_rings d (kc - 1 - 1 - 1) (ks - 6 - 4 - 16) 14 [some (.ref 0), some (.int (nI b1)), some (.ref a4), some (.int (nI 1)), none] [] w3 _
    have lp14_14 : ∀ (fuel : Nat) (kc4 ks5 : Nat) (w6 : List jC) (v_14 k_14 : Nat) (b_14 : List Int32) (c3 : Nat), (SH (rX n e r q) w6) → (Fr kX w w6) → (SBp a4 v_14 (nI 0) k_14 b_14 w6) → (w.length ≤ v_14) → ((620 - b_14.length) / 18 ≤ kc4) → (1240 - 2 * b_14.length ≤ ks5) → (1 ≤ c3) → (c3 ≤ n + 1) → (k_14 ≤ 14 * (c3 - 1)) → (n + 1 - c3 < fuel) → J X mX6_rings d kc4 ks5 14 [some (.ref 0), some (.int (nI b1)), some (.ref a4), some (.int (nI c3)), none] [] w6 (pX (pA (fun r w' => SH (rX n e r q) w' ∧ Fr kX w w')) (fun E w' => (E = "java/lang/IndexOutOfBoundsException") ∧ rS n e r q w w')) := by
      intro fuellp14_14
      induction fuellp14_14 with
      | zero => intros; omega
      | succ fuellp14_14 ihlp14_14 =>
        intro kc4 ks5 w6 v_14 k_14 b_14 c3 hS7 hG8 hB9 hv10 hr11 hr12 hv14_0 hv14_1 hv14_2 hf13
        refine J_iload_n (pc := 14) dX6_rings_14 rfl rfl ?_
        refine J_aload_n (pc := 15) dX6_rings_15 rfl rfl rfl ?_
        obtain ⟨_, hc15, rfl⟩ := hS7 0 _ rfl
        refine J_get (pc := 16) (k := 5) dX6_rings_16 kC7 (by decide) ff_X6_41 hc15 rfl ?_
        refine J_icmp_gtN (pc := 19) (tgt := 60) dX6_rings_19 (by decide) (by omega) (by omega) (fun ht16 => ?_) (fun hf17 => ?_)
        · refine J_aload_n (pc := 60) dX6_rings_60 rfl rfl rfl ?_
          have hB118 := hB9.2.2.2.1
          have hB318 := hB9.2.2.2.2.2
          refine J_callV (pc := 61) (as := []) dX6_rings_61 fw_J4_toString_0e30d fl_X6_154 fm_J4_toString_0e30d fe_J4_toString_0e30d hB9.1 (by decide) rfl rfl rfl (c_J4_toString_0e30d hs (d := d - 1) (by omega) (a := a4) (v := v_14) (c := k_14) (bs := b_14) (w := w6) hB9 (kc := 2) (ks := k_14 + 4) (Nat.le_refl _) (Nat.le_refl _)) (by omega) (by omega) (by omega) (st := []) (Nat.le_of_ble_eq_true rfl) rfl (kr_A fun r18 w18 hw18 => ?_) kx_A
          obtain ⟨hra18, hln18, hne18, vz18, zs18, hco18, hcn18, hyl18⟩ := hw18
          have hS18 := hS7.gr hne18
          have hG18 := hG8.gr hln18 hne18
          exact J_aret (pc := 64) dX6_rings_64 rfl rfl rfl ⟨hS18, hG18⟩
        · refine J_aload_n (pc := 22) dX6_rings_22 rfl rfl rfl ?_
          refine J_get (pc := 23) (k := 0) dX6_rings_23 kC7 (by decide) ff_X6_9 hc15 rfl ?_
          refine J_iload_n (pc := 26) dX6_rings_26 rfl rfl ?_
          obtain ⟨_, hc19, xs19, rfl, hl19⟩ := hS7 1 _ rfl
          refine J_iald (pc := 27) dX6_rings_27 hc19 (nI_in (by omega) (by omega)) (J_absI fun x20 => ?_)
          refine J_iload_n (pc := 28) dX6_rings_28 rfl rfl ?_
          refine J_aload_n (pc := 29) dX6_rings_29 rfl rfl rfl ?_
          refine J_get (pc := 30) (k := 5) dX6_rings_30 kC7 (by decide) ff_X6_41 hc15 rfl ?_
          refine J_callS0 (pc := 33) (as := [.int x20, .int (nI c3), .int (nI n)]) dX6_rings_33 fw_X2_ringsOfLength fl_X6_158 fs_X2_ringsOfLength rfl (c_X2_ringsOfLength hs (d := d - 1) (by omega) (w := w6) x20 (nI c3) n (by omega) (kc := 0) (ks := 0)) (by omega) (st := []) (Nat.le_of_ble_eq_true rfl) rfl (kr_P fun v21 hv21 => ?_) kx_I
          obtain ⟨k21, rfl, hk21⟩ := hv21
          refine J_istore (pc := 36) dX6_rings_36 (by decide) rfl ?_
          show J X mX6_rings d kc4 ks5 38 [some (.ref 0), some (.int (nI b1)), some (.ref a4), some (.int (nI c3)), some (.int (nI k21))] [] w6 _
          have lp38_32 : ∀ (fuel : Nat) (kc22 ks23 : Nat) (w24 : List jC) (v_38 k_38 : Nat) (b_38 : List Int32) (c4 : Nat), (SH (rX n e r q) w24) → (Fr kX w w24) → (SBp a4 v_38 (nI 0) k_38 b_38 w24) → (w.length ≤ v_38) → ((620 - b_38.length) / 18 ≤ kc22) → (1240 - 2 * b_38.length ≤ ks23) → (c4 ≤ 7) → (k_38 + 2 * c4 ≤ 14 * c3) → (c4 < fuel) → J X mX6_rings d kc22 ks23 38 [some (.ref 0), some (.int (nI b1)), some (.ref a4), some (.int (nI c3)), some (.int (nI c4))] [] w24 (pX (pA (fun r w' => SH (rX n e r q) w' ∧ Fr kX w w')) (fun E w' => (E = "java/lang/IndexOutOfBoundsException") ∧ rS n e r q w w')) := by
            intro fuellp38_32
            induction fuellp38_32 with
            | zero => intros; omega
            | succ fuellp38_32 ihlp38_32 =>
              intro kc22 ks23 w24 v_38 k_38 b_38 c4 hS25 hG26 hB27 hv28 hr29 hr30 hv38_0 hv38_1 hf31
              refine J_iload (pc := 38) dX6_rings_38 rfl ?_
              refine J_if_leN (pc := 40) (tgt := 54) dX6_rings_40 (by decide) (by omega) (fun ht33 => ?_) (fun hf34 => ?_)
              · refine J_iincN (pc := 54) (b := 1) dX6_rings_54 rfl (by decide) (by decide) rfl ?_
                show J X mX6_rings d kc22 ks23 57 [some (.ref 0), some (.int (nI b1)), some (.ref a4), some (.int (nI (c3 + 1))), some (.int (nI c4))] [] w24 _
                refine J_goto (pc := 57) (tgt := 14) dX6_rings_57 (by decide) ?_
                exact J_sub (L' := [some (.ref 0), some (.int (nI b1)), some (.ref a4), some (.int (nI (c3 + 1))), none]) ⟨rfl, ⟨rfl, ⟨rfl, ⟨rfl, trivial⟩⟩⟩⟩ (ihlp14_14 _ _ w24 v_38 k_38 b_38 (c3 + 1) hS25 hG26 hB27 (by omega) (by omega) (by omega) (by first | assumption | omega) (by first | assumption | omega) (by first | assumption | omega) (by omega))
              · refine J_aload_n (pc := 43) dX6_rings_43 rfl rfl rfl ?_
                refine J_iload_n (pc := 44) dX6_rings_44 rfl rfl ?_
                have hgf36 := gw_f k_38 c3 b_38.length
                have hgf37 := dgs_le c3
                have hgf38 := dgs_1 (x := c3) (by omega)
                have hB135 := hB27.2.2.2.1
                have hB235 := hB27.2.2.2.2.1
                have hB335 := hB27.2.2.2.2.2
                refine J_callS (pc := 45) (as := [.ref a4, .int (nI c3)]) dX6_rings_45 fw_X6_addWord fl_X6_150 fs_X6_addWord rfl (c_X6_addWord hs (d := d - 1) (by omega) hXO (a := a4) (v := v_38) (c := k_38) (bs := b_38) (w := w24) hB27 c3 (by omega) (by omega) (kc := ((gw k_38 c3 b_38.length - b_38.length) / 18)) (ks := (2 * (gw k_38 c3 b_38.length - b_38.length))) (Nat.le_refl _) (Nat.le_refl _)) (by omega) (by omega) (by omega) (st := []) (Nat.le_of_ble_eq_true rfl) rfl (kr_V fun w35 hw35 => ?_) kx_V
                obtain ⟨c35, v35', ys35, hB35, hFc35, hvv35, hc135, hc235, hp35⟩ := hw35
                have hgl35 := hFc35.1
                have hB435 := hB35.2.2.2.1
                have hB535 := hB35.2.2.2.2.2
                have hB635 := hB35.2.2.2.2.1
                have hS35 := rX_fs hS25 hFc35 (by omega) (by omega)
                have hG35 := hG26.sb hFc35 (by omega) (by omega)
                refine J_iincM (pc := 48) dX6_rings_48 rfl (by omega) (by decide) rfl ?_
                show J X mX6_rings d (kc22 - ((gw k_38 c3 b_38.length - b_38.length) / 18)) (ks23 - (2 * (gw k_38 c3 b_38.length - b_38.length))) 51 [some (.ref 0), some (.int (nI b1)), some (.ref a4), some (.int (nI c3)), some (.int (nI (c4 - 1)))] [] w35 _
                refine J_goto (pc := 51) (tgt := 38) dX6_rings_51 (by decide) ?_
                exact J_sub (L' := [some (.ref 0), some (.int (nI b1)), some (.ref a4), some (.int (nI c3)), some (.int (nI (c4 - 1)))]) ⟨rfl, ⟨rfl, ⟨rfl, ⟨rfl, ⟨rfl, trivial⟩⟩⟩⟩⟩ (ihlp38_32 _ _ w35 v35' c35 ys35 (c4 - 1) hS35 hG35 hB35 (by omega) (by omega) (by omega) (by first | assumption | omega) (by first | assumption | omega) (by omega))
          exact J_sub (L' := [some (.ref 0), some (.int (nI b1)), some (.ref a4), some (.int (nI c3)), some (.int (nI k21))]) ⟨rfl, ⟨rfl, ⟨rfl, ⟨rfl, ⟨rfl, trivial⟩⟩⟩⟩⟩ (lp38_32 _ _ _ w6 v_14 k_14 b_14 k21 hS7 hG8 hB9 (by omega) (by omega) (by omega) (by first | assumption | omega) (by first | assumption | omega) (Nat.lt_succ_self _))
    exact J_sub (L' := [some (.ref 0), some (.int (nI b1)), some (.ref a4), some (.int (nI 1)), none]) ⟨rfl, ⟨rfl, ⟨rfl, ⟨rfl, trivial⟩⟩⟩⟩ (lp14_14 _ _ _ w3 v3' 0 ys3 1 hS3 hG3 hB3 (by omega) (by omega) (by omega) (by first | assumption | omega) (by first | assumption | omega) (by first | assumption | omega) (Nat.lt_succ_self _))
  · exact JX_out (fun _ h => nomatch h) (by obtain ⟨h1, h2⟩ := hx1; exact ⟨h1, by subst h2; exact ⟨hS.push, hG.tr Fr.push⟩⟩)
set_option maxRecDepth 100000 in
set_option maxHeartbeats 40000000 in
theorem c_X6_rings_atok {X : jX} (hs : X.1.stackTraces = false) {d : Nat} (hd : 14 ≤ d) (hXO : XO X) {n : Nat} {e r q : Int32} (hn1 : 2 ≤ n) (hn2 : n ≤ 7) {w : List jC} (hS : SH (rX n e r q) w) (a : Nat) (hy0 : a < 6) {kc ks : Nat} (hkc : 40 ≤ kc) (hks : 1500 ≤ ks) : jMet X mX6_rings d kc ks [.ref 0, .int (nI a)] w (pA (fun r w' => SH (rX n e r q) w' ∧ Fr kX w w' ∧ ∃ (vz : Nat) (zs : List Int32), w'[r]? = some (.inr (0, [.ref vz, .int (nI 0), .int (nI 0), .int (nI 0)])) ∧ w'[vz]? = some (.inl (1, zs)) ∧ zs.length ≤ 270)) := by
  refine jMet_of hs (by decide +kernel) (Nat.le_of_ble_eq_true rfl) (L := [some (.ref 0), some (.int (nI a)), none, none, none]) rfl ?_
  have hG : Fr kX w w := Fr.rf
  refine J_iload_n (pc := 0) dX6_rings_0 rfl rfl ?_
  refine J_callS0 (pc := 1) (as := [.int (nI a)]) dX6_rings_1 fw_X6_needCell fl_X6_67 fs_X6_needCell rfl (c_X6_needCell_atok hs (d := d - 1) (by omega) (w := w) a (by omega) (kc := 0) (ks := 0)) (by omega) (st := []) (Nat.le_of_ble_eq_true rfl) rfl (kr_V fun w1 hw1 => ?_) kx_V
  obtain rfl := hw1.symm
  have qS2 : 18 < w.length := hS.lt (by show 18 < 19; decide)
  have qG2 := hG.1
  refine J_newO (pc := 4) (fs := [.null, .int (nI 0), .int (nI 0), .int (nI 0)]) dX6_rings_4 kC1 fc_X6_147 fi_J4 fz_J4 df_J4 (by omega) (by omega) (fun a4 w2 ha2 hln2 hc2 hne2 => ?_)
  have hS2 := hS.gr (fun i hi => hne2 i (by omega))
  have hG2 := hG.gr (by omega) (fun i hi => hne2 i (by omega))
  have qa2 : 19 ≤ a4 := by omega
  have qw2 : w.length ≤ a4 := by omega
  have qww : 19 ≤ w.length := Nat.lt_of_lt_of_le (by decide : 18 < 19) (Nat.succ_le_of_lt (hS.lt (a := 18) (by show 18 < 19; decide)))
  refine J_dup (pc := 7) dX6_rings_7 rfl ?_
  refine J_callI (pc := 8) (as := []) dX6_rings_8 fw_J4_init_da8c8 fl_X6_149 fm_J4_init_da8c8 rfl rfl rfl (c_J4_init_da8c8 hs (d := d - 1) (by omega) (w := w2) a4 hc2 (kc := 1) (ks := 16) (Nat.le_refl _) (Nat.le_refl _)) (by omega) (by omega) (by omega) (st := [.ref a4]) (Nat.le_of_ble_eq_true rfl) rfl (kr_V fun w3 hw3 => ?_) kx_V
  obtain ⟨v3', ys3, hB3, hFc3, hvv3⟩ := hw3
  have hgl3 := hFc3.1
  have hbl3 := hB3.2.2.2.2.1
  have hS3 := rX_fs hS2 hFc3 (by omega) (by omega)
  have hG3 := hG2.sb hFc3 (by omega) (by omega)
  refine J_astore_n (pc := 11) dX6_rings_11 rfl (by decide) rfl rfl ?_
  show J X mX6_rings d (kc - 1 - 1) (ks - 4 - 16) 12 [some (.ref 0), some (.int (nI a)), some (.ref a4), none, none] [] w3 _
  refine J_iconst (pc := 12) (v := nI 1) dX6_rings_12 (by decide) ?_
  refine J_istore_n (pc := 13) dX6_rings_13 rfl (by decide) rfl ?_
  show J X mX6_rings d (kc - 1 - 1) (ks - 4 - 16) 14 [some (.ref 0), some (.int (nI a)), some (.ref a4), some (.int (nI 1)), none] [] w3 _
  have lp14_14 : ∀ (fuel : Nat) (kc4 ks5 : Nat) (w6 : List jC) (v_14 k_14 : Nat) (b_14 : List Int32) (c3 : Nat), (SH (rX n e r q) w6) → (Fr kX w w6) → (SBp a4 v_14 (nI 0) k_14 b_14 w6) → (w.length ≤ v_14) → ((620 - b_14.length) / 18 ≤ kc4) → (1240 - 2 * b_14.length ≤ ks5) → (1 ≤ c3) → (c3 ≤ n + 1) → (k_14 ≤ 14 * (c3 - 1)) → (n + 1 - c3 < fuel) → J X mX6_rings d kc4 ks5 14 [some (.ref 0), some (.int (nI a)), some (.ref a4), some (.int (nI c3)), none] [] w6 (pA (fun r w' => SH (rX n e r q) w' ∧ Fr kX w w' ∧ ∃ (vz : Nat) (zs : List Int32), w'[r]? = some (.inr (0, [.ref vz, .int (nI 0), .int (nI 0), .int (nI 0)])) ∧ w'[vz]? = some (.inl (1, zs)) ∧ zs.length ≤ 270)) := by
    intro fuellp14_14
    induction fuellp14_14 with
    | zero => intros; omega
    | succ fuellp14_14 ihlp14_14 =>
      intro kc4 ks5 w6 v_14 k_14 b_14 c3 hS7 hG8 hB9 hv10 hr11 hr12 hv14_0 hv14_1 hv14_2 hf13
      refine J_iload_n (pc := 14) dX6_rings_14 rfl rfl ?_
      refine J_aload_n (pc := 15) dX6_rings_15 rfl rfl rfl ?_
      obtain ⟨_, hc15, rfl⟩ := hS7 0 _ rfl
      refine J_get (pc := 16) (k := 5) dX6_rings_16 kC7 (by decide) ff_X6_41 hc15 rfl ?_
      refine J_icmp_gtN (pc := 19) (tgt := 60) dX6_rings_19 (by decide) (by omega) (by omega) (fun ht16 => ?_) (fun hf17 => ?_)
      · refine J_aload_n (pc := 60) dX6_rings_60 rfl rfl rfl ?_
        have hB118 := hB9.2.2.2.1
        have hB318 := hB9.2.2.2.2.2
        refine J_callV (pc := 61) (as := []) dX6_rings_61 fw_J4_toString_0e30d fl_X6_154 fm_J4_toString_0e30d fe_J4_toString_0e30d hB9.1 (by decide) rfl rfl rfl (c_J4_toString_0e30d hs (d := d - 1) (by omega) (a := a4) (v := v_14) (c := k_14) (bs := b_14) (w := w6) hB9 (kc := 2) (ks := k_14 + 4) (Nat.le_refl _) (Nat.le_refl _)) (by omega) (by omega) (by omega) (st := []) (Nat.le_of_ble_eq_true rfl) rfl (kr_A fun r18 w18 hw18 => ?_) kx_A
        obtain ⟨hra18, hln18, hne18, vz18, zs18, hco18, hcn18, hyl18⟩ := hw18
        have hS18 := hS7.gr hne18
        have hG18 := hG8.gr hln18 hne18
        exact J_aret (pc := 64) dX6_rings_64 rfl rfl rfl ⟨hS18, hG18, vz18, zs18, hco18, hcn18, by omega⟩
      · refine J_aload_n (pc := 22) dX6_rings_22 rfl rfl rfl ?_
        refine J_get (pc := 23) (k := 0) dX6_rings_23 kC7 (by decide) ff_X6_9 hc15 rfl ?_
        refine J_iload_n (pc := 26) dX6_rings_26 rfl rfl ?_
        obtain ⟨_, hc19, xs19, rfl, hl19⟩ := hS7 1 _ rfl
        refine J_iald (pc := 27) dX6_rings_27 hc19 (nI_in (by omega) (by omega)) (J_absI fun x20 => ?_)
        refine J_iload_n (pc := 28) dX6_rings_28 rfl rfl ?_
        refine J_aload_n (pc := 29) dX6_rings_29 rfl rfl rfl ?_
        refine J_get (pc := 30) (k := 5) dX6_rings_30 kC7 (by decide) ff_X6_41 hc15 rfl ?_
        refine J_callS0 (pc := 33) (as := [.int x20, .int (nI c3), .int (nI n)]) dX6_rings_33 fw_X2_ringsOfLength fl_X6_158 fs_X2_ringsOfLength rfl (c_X2_ringsOfLength hs (d := d - 1) (by omega) (w := w6) x20 (nI c3) n (by omega) (kc := 0) (ks := 0)) (by omega) (st := []) (Nat.le_of_ble_eq_true rfl) rfl (kr_P fun v21 hv21 => ?_) kx_I
        obtain ⟨k21, rfl, hk21⟩ := hv21
        refine J_istore (pc := 36) dX6_rings_36 (by decide) rfl ?_
        show J X mX6_rings d kc4 ks5 38 [some (.ref 0), some (.int (nI a)), some (.ref a4), some (.int (nI c3)), some (.int (nI k21))] [] w6 _
        have lp38_32 : ∀ (fuel : Nat) (kc22 ks23 : Nat) (w24 : List jC) (v_38 k_38 : Nat) (b_38 : List Int32) (c4 : Nat), (SH (rX n e r q) w24) → (Fr kX w w24) → (SBp a4 v_38 (nI 0) k_38 b_38 w24) → (w.length ≤ v_38) → ((620 - b_38.length) / 18 ≤ kc22) → (1240 - 2 * b_38.length ≤ ks23) → (c4 ≤ 7) → (k_38 + 2 * c4 ≤ 14 * c3) → (c4 < fuel) → J X mX6_rings d kc22 ks23 38 [some (.ref 0), some (.int (nI a)), some (.ref a4), some (.int (nI c3)), some (.int (nI c4))] [] w24 (pA (fun r w' => SH (rX n e r q) w' ∧ Fr kX w w' ∧ ∃ (vz : Nat) (zs : List Int32), w'[r]? = some (.inr (0, [.ref vz, .int (nI 0), .int (nI 0), .int (nI 0)])) ∧ w'[vz]? = some (.inl (1, zs)) ∧ zs.length ≤ 270)) := by
          intro fuellp38_32
          induction fuellp38_32 with
          | zero => intros; omega
          | succ fuellp38_32 ihlp38_32 =>
            intro kc22 ks23 w24 v_38 k_38 b_38 c4 hS25 hG26 hB27 hv28 hr29 hr30 hv38_0 hv38_1 hf31
            refine J_iload (pc := 38) dX6_rings_38 rfl ?_
            refine J_if_leN (pc := 40) (tgt := 54) dX6_rings_40 (by decide) (by omega) (fun ht33 => ?_) (fun hf34 => ?_)
            · refine J_iincN (pc := 54) (b := 1) dX6_rings_54 rfl (by decide) (by decide) rfl ?_
              show J X mX6_rings d kc22 ks23 57 [some (.ref 0), some (.int (nI a)), some (.ref a4), some (.int (nI (c3 + 1))), some (.int (nI c4))] [] w24 _
              refine J_goto (pc := 57) (tgt := 14) dX6_rings_57 (by decide) ?_
              exact J_sub (L' := [some (.ref 0), some (.int (nI a)), some (.ref a4), some (.int (nI (c3 + 1))), none]) ⟨rfl, ⟨rfl, ⟨rfl, ⟨rfl, trivial⟩⟩⟩⟩ (ihlp14_14 _ _ w24 v_38 k_38 b_38 (c3 + 1) hS25 hG26 hB27 (by omega) (by omega) (by omega) (by first | assumption | omega) (by first | assumption | omega) (by first | assumption | omega) (by omega))
            · refine J_aload_n (pc := 43) dX6_rings_43 rfl rfl rfl ?_
              refine J_iload_n (pc := 44) dX6_rings_44 rfl rfl ?_
              have hgf36 := gw_f k_38 c3 b_38.length
              have hgf37 := dgs_le c3
              have hgf38 := dgs_1 (x := c3) (by omega)
              have hB135 := hB27.2.2.2.1
              have hB235 := hB27.2.2.2.2.1
              have hB335 := hB27.2.2.2.2.2
              refine J_callS (pc := 45) (as := [.ref a4, .int (nI c3)]) dX6_rings_45 fw_X6_addWord fl_X6_150 fs_X6_addWord rfl (c_X6_addWord hs (d := d - 1) (by omega) hXO (a := a4) (v := v_38) (c := k_38) (bs := b_38) (w := w24) hB27 c3 (by omega) (by omega) (kc := ((gw k_38 c3 b_38.length - b_38.length) / 18)) (ks := (2 * (gw k_38 c3 b_38.length - b_38.length))) (Nat.le_refl _) (Nat.le_refl _)) (by omega) (by omega) (by omega) (st := []) (Nat.le_of_ble_eq_true rfl) rfl (kr_V fun w35 hw35 => ?_) kx_V
              obtain ⟨c35, v35', ys35, hB35, hFc35, hvv35, hc135, hc235, hp35⟩ := hw35
              have hgl35 := hFc35.1
              have hB435 := hB35.2.2.2.1
              have hB535 := hB35.2.2.2.2.2
              have hB635 := hB35.2.2.2.2.1
              have hS35 := rX_fs hS25 hFc35 (by omega) (by omega)
              have hG35 := hG26.sb hFc35 (by omega) (by omega)
              refine J_iincM (pc := 48) dX6_rings_48 rfl (by omega) (by decide) rfl ?_
              show J X mX6_rings d (kc22 - ((gw k_38 c3 b_38.length - b_38.length) / 18)) (ks23 - (2 * (gw k_38 c3 b_38.length - b_38.length))) 51 [some (.ref 0), some (.int (nI a)), some (.ref a4), some (.int (nI c3)), some (.int (nI (c4 - 1)))] [] w35 _
              refine J_goto (pc := 51) (tgt := 38) dX6_rings_51 (by decide) ?_
              exact J_sub (L' := [some (.ref 0), some (.int (nI a)), some (.ref a4), some (.int (nI c3)), some (.int (nI (c4 - 1)))]) ⟨rfl, ⟨rfl, ⟨rfl, ⟨rfl, ⟨rfl, trivial⟩⟩⟩⟩⟩ (ihlp38_32 _ _ w35 v35' c35 ys35 (c4 - 1) hS35 hG35 hB35 (by omega) (by omega) (by omega) (by first | assumption | omega) (by first | assumption | omega) (by omega))
        exact J_sub (L' := [some (.ref 0), some (.int (nI a)), some (.ref a4), some (.int (nI c3)), some (.int (nI k21))]) ⟨rfl, ⟨rfl, ⟨rfl, ⟨rfl, ⟨rfl, trivial⟩⟩⟩⟩⟩ (lp38_32 _ _ _ w6 v_14 k_14 b_14 k21 hS7 hG8 hB9 (by omega) (by omega) (by omega) (by first | assumption | omega) (by first | assumption | omega) (Nat.lt_succ_self _))
  exact J_sub (L' := [some (.ref 0), some (.int (nI a)), some (.ref a4), some (.int (nI 1)), none]) ⟨rfl, ⟨rfl, ⟨rfl, ⟨rfl, trivial⟩⟩⟩⟩ (lp14_14 _ _ _ w3 v3' 0 ys3 1 hS3 hG3 hB3 (by omega) (by omega) (by omega) (by first | assumption | omega) (by first | assumption | omega) (by first | assumption | omega) (Nat.lt_succ_self _))
set_option maxRecDepth 100000 in
set_option maxHeartbeats 40000000 in
theorem c_X6_ringText {X : jX} (hs : X.1.stackTraces = false) {d : Nat} (hd : 14 ≤ d) (hXO : XO X) {n : Nat} {e r q : Int32} (hn1 : 2 ≤ n) (hn2 : n ≤ 7) {w : List jC} (hS : SH (rX n e r q) w) (a : Int32) (c : Int32) {kc ks : Nat} (hkc : 40 ≤ kc) (hks : 1500 ≤ ks) : jMet X mX6_ringText d kc ks [.ref 0, .int a, .int c] w (pX (pA (fun r w' => SH (rX n e r q) w' ∧ Fr kX w w')) (fun E w' => (E = "java/lang/IndexOutOfBoundsException") ∧ rS n e r q w w')) := by
  refine jMet_of hs (by decide +kernel) (Nat.le_of_ble_eq_true rfl) (L := [some (.ref 0), some (.int a), some (.int c), none, none, none]) rfl ?_
  have hG : Fr kX w w := Fr.rf
  refine J_iload_n (pc := 0) dX6_ringText_0 rfl rfl ?_
  refine J_callS (pc := 1) (as := [.int a]) dX6_ringText_1 fw_X6_needCell fl_X6_67 fs_X6_needCell rfl (c_X6_needCell hs (d := d - 1) (by omega) (w := w) a (kc := 1) (ks := 6) (Nat.le_refl _) (Nat.le_refl _)) (by omega) (by omega) (by omega) (st := []) (Nat.le_of_ble_eq_true rfl) rfl (kr_X (kr_V fun w1 hw1 => ?_)) (kx_X fun E1 w1 hx1 => ?_)
  · obtain ⟨hq1, hp1⟩ := hw1
    obtain rfl := hq1.symm
    obtain ⟨b1, hb1, rfl⟩ := hp1
    refine J_aload_n (pc := 4) dX6_ringText_4 rfl rfl rfl ?_
    refine J_iload_n (pc := 5) dX6_ringText_5 rfl rfl ?_
    obtain ⟨_, hc3, rfl⟩ := hS 0 _ rfl
    refine J_callV (pc := 6) (as := [.int c]) dX6_ringText_6 fw_X6_needPoint fl_X6_86 fm_X6_needPoint fe_X6_needPoint hc3 (by decide) rfl rfl rfl (c_X6_needPoint hs (d := d - 1) (by omega) (e := e) (r := r) (q := q) hn1 hn2 hS (w := w) c (kc := 1) (ks := 6) (Nat.le_refl _) (Nat.le_refl _)) (by omega) (by omega) (by omega) (st := []) (Nat.le_of_ble_eq_true rfl) rfl (kr_X (kr_V fun w2 hw2 => ?_)) (kx_X fun E2 w2 hx2 => ?_)
    · obtain ⟨hq2, hp2⟩ := hw2
      obtain rfl := hq2.symm
      obtain ⟨b2, hb2, rfl⟩ := hp2
      have qS4 : 18 < w.length := hS.lt (by show 18 < 19; decide)
      have qG4 := hG.1
      refine J_newO (pc := 9) (fs := [.null, .int (nI 0), .int (nI 0), .int (nI 0)]) dX6_ringText_9 kC1 fc_X6_147 fi_J4 fz_J4 df_J4 (by omega) (by omega) (fun a9 w4 ha4 hln4 hc4 hne4 => ?_)
      have hS4 := hS.gr (fun i hi => hne4 i (by omega))
      have hG4 := hG.gr (by omega) (fun i hi => hne4 i (by omega))
      have qa4 : 19 ≤ a9 := by omega
      have qw4 : w.length ≤ a9 := by omega
      have qww : 19 ≤ w.length := Nat.lt_of_lt_of_le (by decide : 18 < 19) (Nat.succ_le_of_lt (hS.lt (a := 18) (by show 18 < 19; decide)))
      refine J_dup (pc := 12) dX6_ringText_12 rfl ?_
      refine J_callI (pc := 13) (as := []) dX6_ringText_13 fw_J4_init_da8c8 fl_X6_149 fm_J4_init_da8c8 rfl rfl rfl (c_J4_init_da8c8 hs (d := d - 1) (by omega) (w := w4) a9 hc4 (kc := 1) (ks := 16) (Nat.le_refl _) (Nat.le_refl _)) (by omega) (by omega) (by omega) (st := [.ref a9]) (Nat.le_of_ble_eq_true rfl) rfl (kr_V fun w5 hw5 => ?_) kx_V
      obtain ⟨v5', ys5, hB5, hFc5, hvv5⟩ := hw5
      have hgl5 := hFc5.1
      have hbl5 := hB5.2.2.2.2.1
      have hS5 := rX_fs hS4 hFc5 (by omega) (by omega)
      have hG5 := hG4.sb hFc5 (by omega) (by omega)
      refine J_astore_n (pc := 16) dX6_ringText_16 rfl (by decide) rfl rfl ?_
      show J X mX6_ringText d (kc - 1 - 1 - 1 - 1) (ks - 6 - 6 - 4 - 16) 17 [some (.ref 0), some (.int (nI b1)), some (.int (nI b2)), some (.ref a9), none, none] [] w5 _
      refine J_iload_n (pc := 17) dX6_ringText_17 rfl rfl ?_
      refine J_istore (pc := 18) dX6_ringText_18 (by decide) rfl ?_
      show J X mX6_ringText d (kc - 1 - 1 - 1 - 1) (ks - 6 - 6 - 4 - 16) 20 [some (.ref 0), some (.int (nI b1)), some (.int (nI b2)), some (.ref a9), some (.int (nI b2)), none] [] w5 _
      refine J_aload_n (pc := 20) dX6_ringText_20 rfl rfl rfl ?_
      obtain ⟨_, hc6, rfl⟩ := hS5 0 _ rfl
      refine J_get (pc := 21) (k := 0) dX6_ringText_21 kC7 (by decide) ff_X6_9 hc6 rfl ?_
      refine J_iload_n (pc := 24) dX6_ringText_24 rfl rfl ?_
      obtain ⟨_, hc7, xs7, rfl, hl7⟩ := hS5 1 _ rfl
      refine J_iald (pc := 25) dX6_ringText_25 hc7 (nI_in (by omega) (by omega)) (J_absI fun x8 => ?_)
      refine J_iload_n (pc := 26) dX6_ringText_26 rfl rfl ?_
      refine J_callS0 (pc := 27) (as := [.int x8, .int (nI b2)]) dX6_ringText_27 fw_X2_ringLength fl_X6_161 fs_X2_ringLength rfl (c_X2_ringLength hs (d := d - 1) (by omega) (w := w5) x8 (nI b2) (kc := 0) (ks := 0)) (by omega) (st := []) (Nat.le_of_ble_eq_true rfl) rfl (kr_P fun v9 hv9 => ?_) kx_I
      obtain ⟨k9, rfl, hk9⟩ := hv9
      refine J_istore (pc := 30) dX6_ringText_30 (by decide) rfl ?_
      show J X mX6_ringText d (kc - 1 - 1 - 1 - 1) (ks - 6 - 6 - 4 - 16) 32 [some (.ref 0), some (.int (nI b1)), some (.int (nI b2)), some (.ref a9), some (.int (nI b2)), some (.int (nI k9))] [] w5 _
      have lp32_20 : ∀ (fuel : Nat) (kc10 ks11 : Nat) (w12 : List jC) (v_32 k_32 : Nat) (b_32 : List Int32) (y4 : Nat) (c5 : Nat), (SH (rX n e r q) w12) → (Fr kX w w12) → (SBp a9 v_32 (nI 0) k_32 b_32 w12) → (w.length ≤ v_32) → ((620 - b_32.length) / 18 ≤ kc10) → (1240 - 2 * b_32.length ≤ ks11) → (y4 < 8) → (c5 ≤ 63) → (k_32 + 2 * c5 ≤ 126) → (c5 < fuel) → J X mX6_ringText d kc10 ks11 32 [some (.ref 0), some (.int (nI b1)), some (.int (nI b2)), some (.ref a9), some (.int (nI y4)), some (.int (nI c5))] [] w12 (pX (pA (fun r w' => SH (rX n e r q) w' ∧ Fr kX w w')) (fun E w' => (E = "java/lang/IndexOutOfBoundsException") ∧ rS n e r q w w')) := by
        intro fuellp32_20
        induction fuellp32_20 with
        | zero => intros; omega
        | succ fuellp32_20 ihlp32_20 =>
          intro kc10 ks11 w12 v_32 k_32 b_32 y4 c5 hS13 hG14 hB15 hv16 hr17 hr18 hv32_0 hv32_1 hv32_2 hf19
          refine J_iload (pc := 32) dX6_ringText_32 rfl ?_
          refine J_if_leN (pc := 34) (tgt := 62) dX6_ringText_34 (by decide) (by omega) (fun ht21 => ?_) (fun hf22 => ?_)
          · refine J_aload_n (pc := 62) dX6_ringText_62 rfl rfl rfl ?_
            have hB123 := hB15.2.2.2.1
            have hB323 := hB15.2.2.2.2.2
            refine J_callV (pc := 63) (as := []) dX6_ringText_63 fw_J4_toString_0e30d fl_X6_154 fm_J4_toString_0e30d fe_J4_toString_0e30d hB15.1 (by decide) rfl rfl rfl (c_J4_toString_0e30d hs (d := d - 1) (by omega) (a := a9) (v := v_32) (c := k_32) (bs := b_32) (w := w12) hB15 (kc := 2) (ks := k_32 + 4) (Nat.le_refl _) (Nat.le_refl _)) (by omega) (by omega) (by omega) (st := []) (Nat.le_of_ble_eq_true rfl) rfl (kr_A fun r23 w23 hw23 => ?_) kx_A
            obtain ⟨hra23, hln23, hne23, vz23, zs23, hco23, hcn23, hyl23⟩ := hw23
            have hS23 := hS13.gr hne23
            have hG23 := hG14.gr hln23 hne23
            exact J_aret (pc := 66) dX6_ringText_66 rfl rfl rfl ⟨hS23, hG23⟩
          · refine J_aload_n (pc := 37) dX6_ringText_37 rfl rfl rfl ?_
            refine J_iload (pc := 38) dX6_ringText_38 rfl ?_
            have hgf25 := gw_f k_32 y4 b_32.length
            have hgf26 := dgs_le y4
            have hgf27 := dgs_1 (x := y4) (by omega)
            have hB124 := hB15.2.2.2.1
            have hB224 := hB15.2.2.2.2.1
            have hB324 := hB15.2.2.2.2.2
            refine J_callS (pc := 40) (as := [.ref a9, .int (nI y4)]) dX6_ringText_40 fw_X6_addWord fl_X6_150 fs_X6_addWord rfl (c_X6_addWord hs (d := d - 1) (by omega) hXO (a := a9) (v := v_32) (c := k_32) (bs := b_32) (w := w12) hB15 y4 (by omega) (by omega) (kc := ((gw k_32 y4 b_32.length - b_32.length) / 18)) (ks := (2 * (gw k_32 y4 b_32.length - b_32.length))) (Nat.le_refl _) (Nat.le_refl _)) (by omega) (by omega) (by omega) (st := []) (Nat.le_of_ble_eq_true rfl) rfl (kr_V fun w24 hw24 => ?_) kx_V
            obtain ⟨c24, v24', ys24, hB24, hFc24, hvv24, hc124, hc224, hp24⟩ := hw24
            have hgl24 := hFc24.1
            have hB424 := hB24.2.2.2.1
            have hB524 := hB24.2.2.2.2.2
            have hB624 := hB24.2.2.2.2.1
            have hS24 := rX_fs hS13 hFc24 (by omega) (by omega)
            have hG24 := hG14.sb hFc24 (by omega) (by omega)
            refine J_aload_n (pc := 43) dX6_ringText_43 rfl rfl rfl ?_
            obtain ⟨_, hc28, rfl⟩ := hS24 0 _ rfl
            refine J_get (pc := 44) (k := 0) dX6_ringText_44 kC7 (by decide) ff_X6_9 hc28 rfl ?_
            refine J_iload_n (pc := 47) dX6_ringText_47 rfl rfl ?_
            obtain ⟨_, hc29, xs29, rfl, hl29⟩ := hS24 1 _ rfl
            refine J_iald (pc := 48) dX6_ringText_48 hc29 (nI_in (by omega) (by omega)) (J_absI fun x30 => ?_)
            refine J_iload (pc := 49) dX6_ringText_49 rfl ?_
            refine J_callS0 (pc := 51) (as := [.int x30, .int (nI y4)]) dX6_ringText_51 fw_X2_goal fl_X6_144 fs_X2_goal rfl (c_X2_goal hs (d := d - 1) (by omega) (w := w24) x30 (nI y4) (kc := 0) (ks := 0)) (by omega) (st := []) (Nat.le_of_ble_eq_true rfl) rfl (kr_P fun v31 hv31 => ?_) kx_I
            obtain ⟨k31, rfl, hk31⟩ := hv31
            refine J_istore (pc := 54) dX6_ringText_54 (by decide) rfl ?_
            show J X mX6_ringText d (kc10 - ((gw k_32 y4 b_32.length - b_32.length) / 18)) (ks11 - (2 * (gw k_32 y4 b_32.length - b_32.length))) 56 [some (.ref 0), some (.int (nI b1)), some (.int (nI b2)), some (.ref a9), some (.int (nI k31)), some (.int (nI c5))] [] w24 _
            refine J_iincM (pc := 56) dX6_ringText_56 rfl (by omega) (by decide) rfl ?_
            show J X mX6_ringText d (kc10 - ((gw k_32 y4 b_32.length - b_32.length) / 18)) (ks11 - (2 * (gw k_32 y4 b_32.length - b_32.length))) 59 [some (.ref 0), some (.int (nI b1)), some (.int (nI b2)), some (.ref a9), some (.int (nI k31)), some (.int (nI (c5 - 1)))] [] w24 _
            refine J_goto (pc := 59) (tgt := 32) dX6_ringText_59 (by decide) ?_
            exact J_sub (L' := [some (.ref 0), some (.int (nI b1)), some (.int (nI b2)), some (.ref a9), some (.int (nI k31)), some (.int (nI (c5 - 1)))]) ⟨rfl, ⟨rfl, ⟨rfl, ⟨rfl, ⟨rfl, ⟨rfl, trivial⟩⟩⟩⟩⟩⟩ (ihlp32_20 _ _ w24 v24' c24 ys24 k31 (c5 - 1) hS24 hG24 hB24 (by omega) (by omega) (by omega) (by first | assumption | omega) (by first | assumption | omega) (by first | assumption | omega) (by omega))
      exact J_sub (L' := [some (.ref 0), some (.int (nI b1)), some (.int (nI b2)), some (.ref a9), some (.int (nI b2)), some (.int (nI k9))]) ⟨rfl, ⟨rfl, ⟨rfl, ⟨rfl, ⟨rfl, ⟨rfl, trivial⟩⟩⟩⟩⟩⟩ (lp32_20 _ _ _ w5 v5' 0 ys5 b2 k9 hS5 hG5 hB5 (by omega) (by omega) (by omega) (by first | assumption | omega) (by first | assumption | omega) (by first | assumption | omega) (Nat.lt_succ_self _))
    · exact JX_out (fun _ h => nomatch h) (by obtain ⟨h1, h2⟩ := hx2; exact ⟨h1, by subst h2; exact ⟨hS.push, hG.tr Fr.push⟩⟩)
  · exact JX_out (fun _ h => nomatch h) (by obtain ⟨h1, h2⟩ := hx1; exact ⟨h1, by subst h2; exact ⟨hS.push, hG.tr Fr.push⟩⟩)
set_option maxRecDepth 100000 in
set_option maxHeartbeats 40000000 in
theorem c_X6_howManyBelow_atn {X : jX} (hs : X.1.stackTraces = false) {d : Nat} (hd : 1 ≤ d) {w : List jC} (m : Nat) (b : Int32) (hy0 : m < 128) {kc ks : Nat} : jMet X mX6_howManyBelow d kc ks [.int (nI m), .int b] w (pI (fun v => ∃ k : Nat, v = nI k ∧ k ≤ 7) (fun w' => w' = w)) := by
  refine jMet_of hs (by decide +kernel) (Nat.le_of_ble_eq_true rfl) (L := [some (.int (nI m)), some (.int b)]) rfl ?_
  refine J_iload_n (pc := 0) dX6_howManyBelow_0 rfl rfl ?_
  refine J_iconst (pc := 1) (v := nI 1) dX6_howManyBelow_1 (by decide) ?_
  refine J_iload_n (pc := 2) dX6_howManyBelow_2 rfl rfl ?_
  refine J_ishl (pc := 3) dX6_howManyBelow_3 (J_absI fun x1 => ?_)
  refine J_iconst (pc := 4) (v := nI 1) dX6_howManyBelow_4 (by decide) ?_
  refine J_isub (pc := 5) dX6_howManyBelow_5 (J_absI fun x2 => ?_)
  refine J_andLe (pc := 6) dX6_howManyBelow_6 (by omega) (fun k3 hk3 => ?_)
  refine J_callS0 (pc := 7) (as := [.int (nI k3)]) dX6_howManyBelow_7 fw_J6_bitCount_0f7a4 fl_X6_220 fs_J6_bitCount_0f7a4 rfl (c_J6_bitCount_0f7a4_at7 hs (d := d - 1) (by omega) (w := w) k3 (by omega) (kc := 0) (ks := 0)) (by omega) (st := []) (Nat.le_of_ble_eq_true rfl) rfl (kr_P fun v4 hv4 => ?_) kx_I
  obtain ⟨k4, rfl, hk4⟩ := hv4
  exact J_iret (pc := 10) dX6_howManyBelow_10 rfl ⟨⟨k4, rfl, by omega⟩, rfl⟩
set_option maxRecDepth 100000 in
set_option maxHeartbeats 40000000 in
theorem c_X2_numberOf_atn {X : jX} (hs : X.1.stackTraces = false) {d : Nat} (hd : 2 ≤ d) {w : List jC} (a : Int32) (k : Nat) (hy0 : k ≤ 7) {kc ks : Nat} : jMet X mX2_numberOf d kc ks [.int a, .int (nI k)] w (pI (fun v => ∃ j : Nat, v = nI j ∧ j < 10000) (fun w' => w' = w)) := by
  refine jMet_of hs (by decide +kernel) (Nat.le_of_ble_eq_true rfl) (L := [some (.int a), some (.int (nI k)), none, none, none, none]) rfl ?_
  have h2k : 2 ^ k ≤ 128 := Nat.le_trans (Nat.pow_le_pow_right (by decide) hy0) (by decide)
  have h2p : 1 ≤ 2 ^ k := Nat.pow_pos (by decide)
  refine J_iconst (pc := 0) (v := nI 0) dX2_numberOf_0 (by decide) ?_
  refine J_istore_n (pc := 1) dX2_numberOf_1 rfl (by decide) rfl ?_
  show J X mX2_numberOf d kc ks 2 [some (.int a), some (.int (nI k)), some (.int (nI 0)), none, none, none] [] w _
  refine J_iconst (pc := 2) (v := nI 1) dX2_numberOf_2 (by decide) ?_
  refine J_iload_n (pc := 3) dX2_numberOf_3 rfl rfl ?_
  refine J_shl1 (pc := 4) dX2_numberOf_4 (by omega) ?_
  refine J_iconst (pc := 5) (v := nI 1) dX2_numberOf_5 (by decide) ?_
  refine J_isubN (pc := 6) dX2_numberOf_6 (by omega) ?_
  refine J_istore_n (pc := 7) dX2_numberOf_7 rfl (by decide) rfl ?_
  show J X mX2_numberOf d kc ks 8 [some (.int a), some (.int (nI k)), some (.int (nI 0)), some (.int (nI ((2 ^ k) - 1))), none, none] [] w _
  refine J_iconst (pc := 8) (v := nI 0) dX2_numberOf_8 (by decide) ?_
  refine J_istore (pc := 9) dX2_numberOf_9 (by decide) rfl ?_
  show J X mX2_numberOf d kc ks 11 [some (.int a), some (.int (nI k)), some (.int (nI 0)), some (.int (nI ((2 ^ k) - 1))), some (.int (nI 0)), none] [] w _
  have lp11_2 : ∀ (fuel : Nat) (y2 : Nat) (y3 : Nat) (c4 : Nat), (c4 ≤ k) → (y3 < 128) → (y2 ≤ nb k c4) → (k - c4 < fuel) → J X mX2_numberOf d kc ks 11 [some (.int a), some (.int (nI k)), some (.int (nI y2)), some (.int (nI y3)), some (.int (nI c4)), none] [] w (pI (fun v => ∃ j : Nat, v = nI j ∧ j < 10000) (fun w' => w' = w)) := by
    intro fuellp11_2
    induction fuellp11_2 with
    | zero => intros; omega
    | succ fuellp11_2 ihlp11_2 =>
      intro y2 y3 c4 hv11_0 hv11_1 hv11_2 hf1
      refine J_iload (pc := 11) dX2_numberOf_11 rfl ?_
      refine J_iload_n (pc := 13) dX2_numberOf_13 rfl rfl ?_
      refine J_icmp_geN (pc := 14) (tgt := 54) dX2_numberOf_14 (by decide) (by omega) (by omega) (fun ht3 => ?_) (fun hf4 => ?_)
      · refine J_iload_n (pc := 54) dX2_numberOf_54 rfl rfl ?_
        exact J_iret (pc := 55) dX2_numberOf_55 rfl ⟨⟨y2, rfl, by exact Nat.lt_of_le_of_lt (Nat.le_trans hv11_2 (by rw [show c4 = k by omega]; exact nb_le k (by omega))) (by decide)⟩, rfl⟩
      · refine J_iload_n (pc := 17) dX2_numberOf_17 rfl rfl ?_
        refine J_iload (pc := 18) dX2_numberOf_18 rfl ?_
        refine J_callS0 (pc := 20) (as := [.int a, .int (nI c4)]) dX2_numberOf_20 fw_X2_goal fl_X2_16 fs_X2_goal rfl (c_X2_goal hs (d := d - 1) (by omega) (w := w) a (nI c4) (kc := 0) (ks := 0)) (by omega) (st := []) (Nat.le_of_ble_eq_true rfl) rfl (kr_P fun v5 hv5 => ?_) kx_I
        obtain ⟨k5, rfl, hk5⟩ := hv5
        refine J_istore (pc := 23) dX2_numberOf_23 (by decide) rfl ?_
        show J X mX2_numberOf d kc ks 25 [some (.int a), some (.int (nI k)), some (.int (nI y2)), some (.int (nI y3)), some (.int (nI c4)), some (.int (nI k5))] [] w _
        refine J_iload_n (pc := 25) dX2_numberOf_25 rfl rfl ?_
        refine J_iload_n (pc := 26) dX2_numberOf_26 rfl rfl ?_
        refine J_iload (pc := 27) dX2_numberOf_27 rfl ?_
        refine J_isubN (pc := 29) dX2_numberOf_29 (by omega) ?_
        refine J_imulN (pc := 30) dX2_numberOf_30 ?_
        refine J_iload_n (pc := 31) dX2_numberOf_31 rfl rfl ?_
        refine J_iload (pc := 32) dX2_numberOf_32 rfl ?_
        refine J_callSN0 (pc := 34) (as := [.int (nI y3), .int (nI k5)]) dX2_numberOf_34 fw_X6_howManyBelow fl_X2_19 fs_X6_howManyBelow rfl (c_X6_howManyBelow_atn hs (d := d - 1) (by omega) (w := w) y3 (nI k5) (by omega) (kc := 0) (ks := 0)) (by omega) (st := [.int (nI (y2 * (k - c4)))]) (Nat.le_of_ble_eq_true rfl) rfl (kr_P fun v6 hv6 => ?_) kx_I
        obtain ⟨k6, rfl, hk6⟩ := hv6
        refine J_iaddN (pc := 37) dX2_numberOf_37 ?_
        refine J_istore_n (pc := 38) dX2_numberOf_38 rfl (by decide) rfl ?_
        show J X mX2_numberOf d kc ks 39 [some (.int a), some (.int (nI k)), some (.int (nI ((y2 * (k - c4)) + k6))), some (.int (nI y3)), some (.int (nI c4)), some (.int (nI k5))] [] w _
        refine J_iload_n (pc := 39) dX2_numberOf_39 rfl rfl ?_
        refine J_iconst (pc := 40) (v := nI 1) dX2_numberOf_40 (by decide) ?_
        refine J_iload (pc := 41) dX2_numberOf_41 rfl ?_
        refine J_ishl (pc := 43) dX2_numberOf_43 (J_absI fun x7 => ?_)
        refine J_iconst (pc := 44) (v := (-1)) dX2_numberOf_44 (by decide) ?_
        refine J_ixor (pc := 45) dX2_numberOf_45 (J_absI fun x8 => ?_)
        refine J_andLe (pc := 46) dX2_numberOf_46 (by omega) (fun k9 hk9 => ?_)
        refine J_istore_n (pc := 47) dX2_numberOf_47 rfl (by decide) rfl ?_
        show J X mX2_numberOf d kc ks 48 [some (.int a), some (.int (nI k)), some (.int (nI ((y2 * (k - c4)) + k6))), some (.int (nI k9)), some (.int (nI c4)), some (.int (nI k5))] [] w _
        refine J_iincN (pc := 48) (b := 1) dX2_numberOf_48 rfl (by decide) (by decide) rfl ?_
        show J X mX2_numberOf d kc ks 51 [some (.int a), some (.int (nI k)), some (.int (nI ((y2 * (k - c4)) + k6))), some (.int (nI k9)), some (.int (nI (c4 + 1))), some (.int (nI k5))] [] w _
        refine J_goto (pc := 51) (tgt := 11) dX2_numberOf_51 (by decide) ?_
        exact J_sub (L' := [some (.int a), some (.int (nI k)), some (.int (nI ((y2 * (k - c4)) + k6))), some (.int (nI k9)), some (.int (nI (c4 + 1))), none]) ⟨rfl, ⟨rfl, ⟨rfl, ⟨rfl, ⟨rfl, trivial⟩⟩⟩⟩⟩ (ihlp11_2 ((y2 * (k - c4)) + k6) k9 (c4 + 1) (by first | assumption | omega) (by first | assumption | omega) (by exact Nat.add_le_add (Nat.mul_le_mul_right _ hv11_2) (by omega)) (by omega))
  exact J_sub (L' := [some (.int a), some (.int (nI k)), some (.int (nI 0)), some (.int (nI ((2 ^ k) - 1))), some (.int (nI 0)), none]) ⟨rfl, ⟨rfl, ⟨rfl, ⟨rfl, ⟨rfl, trivial⟩⟩⟩⟩⟩ (lp11_2 _ 0 ((2 ^ k) - 1) 0 (by first | assumption | omega) (by first | assumption | omega) (by exact Nat.le_refl _) (Nat.lt_succ_self _))
set_option maxRecDepth 100000 in
set_option maxHeartbeats 40000000 in
theorem c_X6_list {X : jX} (hs : X.1.stackTraces = false) {d : Nat} (hd : 14 ≤ d) (hXO : XO X) {n : Nat} {e r q : Int32} (hn1 : 2 ≤ n) (hn2 : n ≤ 7) {w : List jC} (hS : SH (rX n e r q) w) (a : Int32) (c : Int32) {kc ks : Nat} (hkc : 40 ≤ kc) (hks : 1500 ≤ ks) : jMet X mX6_list d kc ks [.ref 0, .int a, .int c] w (pX (pA (fun r w' => SH (rX n e r q) w' ∧ Fr kX w w')) (fun E w' => (E = "java/lang/IllegalArgumentException") ∧ rS n e r q w w')) := by
  refine jMet_of hs (by decide +kernel) (Nat.le_of_ble_eq_true rfl) (L := [some (.ref 0), some (.int a), some (.int c), none, none]) rfl ?_
  have hG : Fr kX w w := Fr.rf
  refine J_iload_n (pc := 0) dX6_list_0 rfl rfl ?_
  refine J_callS (pc := 1) (as := [.int a]) dX6_list_1 fw_X6_needSet fl_X6_131 fs_X6_needSet rfl (c_X6_needSet hs (d := d - 1) (by omega) (w := w) a (kc := 1) (ks := 6) (Nat.le_refl _) (Nat.le_refl _)) (by omega) (by omega) (by omega) (st := []) (Nat.le_of_ble_eq_true rfl) rfl (kr_X (kr_V fun w1 hw1 => ?_)) (kx_X fun E1 w1 hx1 => ?_)
  · obtain rfl := hw1.symm
    refine J_iload_n (pc := 4) dX6_list_4 rfl rfl ?_
    refine J_if_lt (pc := 5) (tgt := 12) dX6_list_5 (by decide) (fun ht2 => ?_) (fun hf3 => ?_)
    · refine J_iconst (pc := 12) (v := nI 0) dX6_list_12 (by decide) ?_
      refine J_callS (pc := 13) (as := [.int (nI 0)]) dX6_list_13 fw_X6_need fl_X6_99 fs_X6_need rfl (c_X6_need hs (d := d - 1) (by omega) (w := w) 0 (by omega) (kc := 1) (ks := 6) (Nat.le_refl _) (Nat.le_refl _)) (by omega) (by omega) (by omega) (st := []) (Nat.le_of_ble_eq_true rfl) rfl (kr_X (kr_V fun w4 hw4 => ?_)) (kx_X fun E4 w4 hx4 => ?_)
      · exact absurd rfl hw4.2
      · exact JX_out (fun _ h => nomatch h) (by obtain ⟨h1, h2⟩ := hx4; exact ⟨h1, by subst h2; exact ⟨hS.push, hG.tr Fr.push⟩⟩)
    · refine J_iconst (pc := 8) (v := nI 1) dX6_list_8 (by decide) ?_
      refine J_goto (pc := 9) (tgt := 13) dX6_list_9 (by decide) ?_
      refine J_callS (pc := 13) (as := [.int (nI 1)]) dX6_list_13 fw_X6_need fl_X6_99 fs_X6_need rfl (c_X6_need hs (d := d - 1) (by omega) (w := w) 1 (by omega) (kc := 1) (ks := 6) (Nat.le_refl _) (Nat.le_refl _)) (by omega) (by omega) (by omega) (st := []) (Nat.le_of_ble_eq_true rfl) rfl (kr_X (kr_V fun w5 hw5 => ?_)) (kx_X fun E5 w5 hx5 => ?_)
      · obtain ⟨hq5, hp5⟩ := hw5
        obtain rfl := hq5.symm
        refine J_aload_n (pc := 16) dX6_list_16 rfl rfl rfl ?_
        obtain ⟨_, hc6, rfl⟩ := hS 0 _ rfl
        refine J_get (pc := 17) (k := 1) dX6_list_17 kC7 (by decide) ff_X6_16 hc6 rfl ?_
        refine J_aload_n (pc := 20) dX6_list_20 rfl rfl rfl ?_
        refine J_get (pc := 21) (k := 0) dX6_list_21 kC7 (by decide) ff_X6_9 hc6 rfl ?_
        refine J_iload_n (pc := 24) dX6_list_24 rfl rfl ?_
        refine J_ldc (pc := 25) (v := nI 1754760) dX6_list_25 (by have := fk_X6_56; exact this) ?_
        refine J_aload_n (pc := 27) dX6_list_27 rfl rfl rfl ?_
        refine J_get (pc := 28) (k := 5) dX6_list_28 kC7 (by decide) ff_X6_41 hc6 rfl ?_
        obtain ⟨_, hc8, ka8, kf8, kb8, kg8, rfl, hb8_0, hb8_1⟩ := hS 2 _ rfl
        refine J_callV0 (pc := 31) (as := [.ref 1, .int a, .int (nI 1754760), .int (nI n)]) dX6_list_31 fw_X0_raise fl_X6_134 fm_X0_raise fe_X0_raise hc8 (by decide) rfl rfl rfl (c_X0_raise hs (d := d - 1) (by omega) (e := e) (r := r) (q := q) hn1 hn2 hS (w := w) a (nI 1754760) (kc := 0) (ks := 0)) (by omega) (st := []) (Nat.le_of_ble_eq_true rfl) rfl (kr_V fun w7 hw7 => ?_) kx_V
        obtain ⟨hS7, hF7⟩ := hw7
        have hG7 := hG.tr hF7
        have qS9 : 18 < w7.length := hS7.lt (by show 18 < 19; decide)
        have qG9 := hG7.1
        refine J_newO (pc := 34) (fs := [.null, .int (nI 0), .int (nI 0), .int (nI 0)]) dX6_list_34 kC1 fc_X6_147 fi_J4 fz_J4 df_J4 (by omega) (by omega) (fun a34 w9 ha9 hln9 hc9 hne9 => ?_)
        have hS9 := hS7.gr (fun i hi => hne9 i (by omega))
        have hG9 := hG7.gr (by omega) (fun i hi => hne9 i (by omega))
        have qa9 : 19 ≤ a34 := by omega
        have qw9 : w.length ≤ a34 := by omega
        have qww : 19 ≤ w.length := Nat.lt_of_lt_of_le (by decide : 18 < 19) (Nat.succ_le_of_lt (hS.lt (a := 18) (by show 18 < 19; decide)))
        refine J_dup (pc := 37) dX6_list_37 rfl ?_
        refine J_callI (pc := 38) (as := []) dX6_list_38 fw_J4_init_da8c8 fl_X6_149 fm_J4_init_da8c8 rfl rfl rfl (c_J4_init_da8c8 hs (d := d - 1) (by omega) (w := w9) a34 hc9 (kc := 1) (ks := 16) (Nat.le_refl _) (Nat.le_refl _)) (by omega) (by omega) (by omega) (st := [.ref a34]) (Nat.le_of_ble_eq_true rfl) rfl (kr_V fun w10 hw10 => ?_) kx_V
        obtain ⟨v10', ys10, hB10, hFc10, hvv10⟩ := hw10
        have hgl10 := hFc10.1
        have hbl10 := hB10.2.2.2.2.1
        have hS10 := rX_fs hS9 hFc10 (by omega) (by omega)
        have hG10 := hG9.sb hFc10 (by omega) (by omega)
        refine J_astore_n (pc := 41) dX6_list_41 rfl (by decide) rfl rfl ?_
        show J X mX6_list d (kc - 1 - 1 - 1 - 1) (ks - 6 - 6 - 4 - 16) 42 [some (.ref 0), some (.int a), some (.int c), some (.ref a34), none] [] w10 _
        refine J_iload_n (pc := 42) dX6_list_42 rfl rfl ?_
        refine J_istore (pc := 43) dX6_list_43 (by decide) rfl ?_
        show J X mX6_list d (kc - 1 - 1 - 1 - 1) (ks - 6 - 6 - 4 - 16) 45 [some (.ref 0), some (.int a), some (.int c), some (.ref a34), some (.int c)] [] w10 _
        have lp45_21 : ∀ (fuel : Nat) (kc11 ks12 : Nat) (w13 : List jC) (v_45 k_45 : Nat) (b_45 : List Int32) (z4 : Int32) (g45 : Nat), (SH (rX n e r q) w13) → (Fr kX w w13) → (SBp a34 v_45 (nI 0) k_45 b_45 w13) → (w.length ≤ v_45) → ((620 - b_45.length) / 18 ≤ kc11) → (1240 - 2 * b_45.length ≤ ks12) → (z4 - c = nI g45) → (g45 ≤ 20) → (k_45 ≤ 5 * g45) → (20 - g45 < fuel) → J X mX6_list d kc11 ks12 45 [some (.ref 0), some (.int a), some (.int c), some (.ref a34), some (.int z4)] [] w13 (pX (pA (fun r w' => SH (rX n e r q) w' ∧ Fr kX w w')) (fun E w' => (E = "java/lang/IllegalArgumentException") ∧ rS n e r q w w')) := by
          intro fuellp45_21
          induction fuellp45_21 with
          | zero => intros; omega
          | succ fuellp45_21 ihlp45_21 =>
            intro kc11 ks12 w13 v_45 k_45 b_45 z4 g45 hS14 hG15 hB16 hv17 hr18 hr19 hv45_0 hv45_1 hv45_2 hf20
            refine J_iload (pc := 45) dX6_list_45 rfl ?_
            refine J_aload_n (pc := 47) dX6_list_47 rfl rfl rfl ?_
            obtain ⟨_, hc22, rfl⟩ := hS14 0 _ rfl
            refine J_get (pc := 48) (k := 1) dX6_list_48 kC7 (by decide) ff_X6_16 hc22 rfl ?_
            obtain ⟨_, hc24, ka24, kf24, kb24, kg24, rfl, hb24_0, hb24_1⟩ := hS14 2 _ rfl
            refine J_callV0 (pc := 51) (as := []) dX6_list_51 fw_X0_total fl_X6_138 fm_X0_total fe_X0_total hc24 (by decide) rfl rfl rfl (c_X0_total hs (d := d - 1) (by omega) (e := e) (r := r) (q := q) hn1 hn2 hS14 (w := w13)  (kc := 0) (ks := 0)) (by omega) (st := [.int z4]) (Nat.le_of_ble_eq_true rfl) rfl (kr_P fun v23 hv23 => ?_) kx_I
            refine J_icmp_ge (pc := 54) (tgt := 94) dX6_list_54 (by decide) (fun ht25 => ?_) (fun hf26 => ?_)
            · refine J_aload_n (pc := 94) dX6_list_94 rfl rfl rfl ?_
              have hB127 := hB16.2.2.2.1
              have hB327 := hB16.2.2.2.2.2
              refine J_callV (pc := 95) (as := []) dX6_list_95 fw_J4_toString_0e30d fl_X6_154 fm_J4_toString_0e30d fe_J4_toString_0e30d hB16.1 (by decide) rfl rfl rfl (c_J4_toString_0e30d hs (d := d - 1) (by omega) (a := a34) (v := v_45) (c := k_45) (bs := b_45) (w := w13) hB16 (kc := 2) (ks := k_45 + 4) (Nat.le_refl _) (Nat.le_refl _)) (by omega) (by omega) (by omega) (st := []) (Nat.le_of_ble_eq_true rfl) rfl (kr_A fun r27 w27 hw27 => ?_) kx_A
              obtain ⟨hra27, hln27, hne27, vz27, zs27, hco27, hcn27, hyl27⟩ := hw27
              have hS27 := hS14.gr hne27
              have hG27 := hG15.gr hln27 hne27
              exact J_aret (pc := 98) dX6_list_98 rfl rfl rfl ⟨hS27, hG27⟩
            · refine J_iload (pc := 57) dX6_list_57 rfl ?_
              refine J_iload_n (pc := 59) dX6_list_59 rfl rfl ?_
              refine J_isub (pc := 60) dX6_list_60 ?_
              rw [hv45_0]
              refine J_bipush (pc := 61) (v := nI 20) dX6_list_61 (by decide) ?_
              refine J_icmp_geN (pc := 63) (tgt := 94) dX6_list_63 (by decide) (by omega) (by omega) (fun ht28 => ?_) (fun hf29 => ?_)
              · refine J_aload_n (pc := 94) dX6_list_94 rfl rfl rfl ?_
                have hB130 := hB16.2.2.2.1
                have hB330 := hB16.2.2.2.2.2
                refine J_callV (pc := 95) (as := []) dX6_list_95 fw_J4_toString_0e30d fl_X6_154 fm_J4_toString_0e30d fe_J4_toString_0e30d hB16.1 (by decide) rfl rfl rfl (c_J4_toString_0e30d hs (d := d - 1) (by omega) (a := a34) (v := v_45) (c := k_45) (bs := b_45) (w := w13) hB16 (kc := 2) (ks := k_45 + 4) (Nat.le_refl _) (Nat.le_refl _)) (by omega) (by omega) (by omega) (st := []) (Nat.le_of_ble_eq_true rfl) rfl (kr_A fun r30 w30 hw30 => ?_) kx_A
                obtain ⟨hra30, hln30, hne30, vz30, zs30, hco30, hcn30, hyl30⟩ := hw30
                have hS30 := hS14.gr hne30
                have hG30 := hG15.gr hln30 hne30
                exact J_aret (pc := 98) dX6_list_98 rfl rfl rfl ⟨hS30, hG30⟩
              · refine J_aload_n (pc := 66) dX6_list_66 rfl rfl rfl ?_
                refine J_aload_n (pc := 67) dX6_list_67 rfl rfl rfl ?_
                refine J_get (pc := 68) (k := 1) dX6_list_68 kC7 (by decide) ff_X6_16 hc22 rfl ?_
                refine J_iload (pc := 71) dX6_list_71 rfl ?_
                refine J_ldc (pc := 73) (v := nI 1754760) dX6_list_73 (by have := fk_X6_56; exact this) ?_
                refine J_callV0 (pc := 75) (as := [.int z4, .int (nI 1754760)]) dX6_list_75 fw_X0_moveAt fl_X6_141 fm_X0_moveAt fe_X0_moveAt hc24 (by decide) rfl rfl rfl (c_X0_moveAt hs (d := d - 1) (by omega) (e := e) (r := r) (q := q) hn1 hn2 hS14 (w := w13) z4 (nI 1754760) (kc := 0) (ks := 0)) (by omega) (st := [.ref a34]) (Nat.le_of_ble_eq_true rfl) rfl (kr_P fun v31 hv31 => ?_) kx_I
                refine J_aload_n (pc := 78) dX6_list_78 rfl rfl rfl ?_
                refine J_get (pc := 79) (k := 5) dX6_list_79 kC7 (by decide) ff_X6_41 hc22 rfl ?_
                refine J_callS0 (pc := 82) (as := [.int v31, .int (nI n)]) dX6_list_82 fw_X2_numberOf fl_X6_75 fs_X2_numberOf rfl (c_X2_numberOf_atn hs (d := d - 1) (by omega) (w := w13) v31 n (by omega) (kc := 0) (ks := 0)) (by omega) (st := [.ref a34]) (Nat.le_of_ble_eq_true rfl) rfl (kr_P fun v32 hv32 => ?_) kx_I
                obtain ⟨k32, rfl, hk32⟩ := hv32
                have hgf34 := gw_f k_45 k32 b_45.length
                have hgf35 := dgs_le k32
                have hB133 := hB16.2.2.2.1
                have hB233 := hB16.2.2.2.2.1
                have hB333 := hB16.2.2.2.2.2
                refine J_callS (pc := 85) (as := [.ref a34, .int (nI k32)]) dX6_list_85 fw_X6_addWord fl_X6_150 fs_X6_addWord rfl (c_X6_addWord hs (d := d - 1) (by omega) hXO (a := a34) (v := v_45) (c := k_45) (bs := b_45) (w := w13) hB16 k32 (by omega) (by omega) (kc := ((gw k_45 k32 b_45.length - b_45.length) / 18)) (ks := (2 * (gw k_45 k32 b_45.length - b_45.length))) (Nat.le_refl _) (Nat.le_refl _)) (by omega) (by omega) (by omega) (st := []) (Nat.le_of_ble_eq_true rfl) rfl (kr_V fun w33 hw33 => ?_) kx_V
                obtain ⟨c33, v33', ys33, hB33, hFc33, hvv33, hc133, hc233, hp33⟩ := hw33
                have hgl33 := hFc33.1
                have hB433 := hB33.2.2.2.1
                have hB533 := hB33.2.2.2.2.2
                have hB633 := hB33.2.2.2.2.1
                have hS33 := rX_fs hS14 hFc33 (by omega) (by omega)
                have hG33 := hG15.sb hFc33 (by omega) (by omega)
                refine J_iinc (pc := 88) dX6_list_88 rfl rfl (by decide) rfl ?_
                show J X mX6_list d (kc11 - ((gw k_45 k32 b_45.length - b_45.length) / 18)) (ks12 - (2 * (gw k_45 k32 b_45.length - b_45.length))) 91 [some (.ref 0), some (.int a), some (.int c), some (.ref a34), some (.int (z4 + Int32.ofInt 1))] [] w33 _
                refine J_goto (pc := 91) (tgt := 45) dX6_list_91 (by decide) ?_
                exact J_sub (L' := [some (.ref 0), some (.int a), some (.int c), some (.ref a34), some (.int (z4 + Int32.ofInt 1))]) ⟨rfl, ⟨rfl, ⟨rfl, ⟨rfl, ⟨rfl, trivial⟩⟩⟩⟩⟩ (ihlp45_21 _ _ w33 v33' c33 ys33 (z4 + Int32.ofInt 1) (g45 + 1) hS33 hG33 hB33 (by omega) (by omega) (by omega) (by rw [inc_sub, hv45_0, nI_add]) (by first | assumption | omega) (by first | assumption | omega) (by omega))
        exact J_sub (L' := [some (.ref 0), some (.int a), some (.int c), some (.ref a34), some (.int c)]) ⟨rfl, ⟨rfl, ⟨rfl, ⟨rfl, ⟨rfl, trivial⟩⟩⟩⟩⟩ (lp45_21 _ _ _ w10 v10' 0 ys10 c 0 hS10 hG10 hB10 (by omega) (by omega) (by omega) (by exact Int32.sub_self _) (by first | assumption | omega) (by first | assumption | omega) (Nat.lt_succ_self _))
      · exact JX_out (fun _ h => nomatch h) (by obtain ⟨h1, h2⟩ := hx5; exact ⟨h1, by subst h2; exact ⟨hS.push, hG.tr Fr.push⟩⟩)
  · exact JX_out (fun _ h => nomatch h) (by obtain ⟨h1, h2⟩ := hx1; exact ⟨h1, by subst h2; exact ⟨hS.push, hG.tr Fr.push⟩⟩)
set_option maxRecDepth 100000 in
set_option maxHeartbeats 40000000 in
theorem c_X6_digest {X : jX} (hs : X.1.stackTraces = false) {d : Nat} (hd : 16 ≤ d) (hXO : XO X) {n : Nat} {e r q : Int32} (hn1 : 2 ≤ n) (hn2 : n ≤ 7) {w : List jC} (hS : SH (rX n e r q) w) {kc ks : Nat} (hkc : 250 ≤ kc) (hks : 9100 ≤ ks) : jMet X mX6_digest d kc ks [.ref 0] w (pL (fun _ => True) (fun w' => rS n e r q w w')) := by
  refine jMet_of hs (by decide +kernel) (Nat.le_of_ble_eq_true rfl) (L := [some (.ref 0), none, none, none]) rfl ?_
  have hG : Fr kX w w := Fr.rf
  refine J_aload_n (pc := 0) dX6_digest_0 rfl rfl rfl ?_
  obtain ⟨_, hc2, rfl⟩ := hS 0 _ rfl
  refine J_callV0 (pc := 1) (as := []) dX6_digest_1 fw_X6_raiseAll fl_X6_228 fm_X6_raiseAll fe_X6_raiseAll hc2 (by decide) rfl rfl rfl (c_X6_raiseAll hs (d := d - 1) (by omega) (e := e) (r := r) (q := q) hn1 hn2 hS (w := w)  (kc := 0) (ks := 0)) (by omega) (st := []) (Nat.le_of_ble_eq_true rfl) rfl (kr_V fun w1 hw1 => ?_) kx_V
  obtain ⟨hS1, hF1⟩ := hw1
  have hG1 := hG.tr hF1
  refine J_ldc2 (pc := 4) dX6_digest_4 fk_X6_235 (J_absL fun y3 => ?_)
  refine J_aload_n (pc := 7) dX6_digest_7 rfl rfl rfl ?_
  obtain ⟨_, hc4, rfl⟩ := hS1 0 _ rfl
  refine J_get (pc := 8) (k := 5) dX6_digest_8 kC7 (by decide) ff_X6_41 hc4 rfl ?_
  refine J_i2l (pc := 11) dX6_digest_11 (J_absL fun y5 => ?_)
  refine J_callS0 (pc := 12) (as := [.long y3, .long y5]) dX6_digest_12 fw_X6_mix fl_X6_237 fs_X6_mix rfl (c_X6_mix hs (d := d - 1) (by omega) (w := w1) y3 y5 (kc := 0) (ks := 0)) (by omega) (st := []) (Nat.le_of_ble_eq_true rfl) rfl (kr_L fun v6 w6 hv6 hw6 => ?_) kx_L
  obtain rfl := hw6.symm
  refine J_lstore_n (pc := 15) dX6_digest_15 rfl (by decide) rfl ?_
  show J X mX6_digest d kc ks 16 [some (.ref 0), some (.long v6), none, none] [] w1 _
  refine J_iconst (pc := 16) (v := nI 0) dX6_digest_16 (by decide) ?_
  refine J_istore_n (pc := 17) dX6_digest_17 rfl (by decide) rfl ?_
  show J X mX6_digest d kc ks 18 [some (.ref 0), some (.long v6), none, some (.int (nI 0))] [] w1 _
  have lp18_15 : ∀ (fuel : Nat) (kc7 ks8 : Nat) (w9 : List jC) (y1 : Int64) (c3 : Nat), (SH (rX n e r q) w9) → (Fr kX w w9) → ((6 - c3) * 40 ≤ kc7) → ((6 - c3) * 1500 ≤ ks8) → (c3 ≤ 6) → (6 - c3 < fuel) → J X mX6_digest d kc7 ks8 18 [some (.ref 0), some (.long y1), none, some (.int (nI c3))] [] w9 (pL (fun _ => True) (fun w' => rS n e r q w w')) := by
    intro fuellp18_15
    induction fuellp18_15 with
    | zero => intros; omega
    | succ fuellp18_15 ihlp18_15 =>
      intro kc7 ks8 w9 y1 c3 hS10 hG11 hr12 hr13 hv18_0 hf14
      refine J_iload_n (pc := 18) dX6_digest_18 rfl rfl ?_
      refine J_bipush (pc := 19) (v := nI 6) dX6_digest_19 (by decide) ?_
      refine J_icmp_geN (pc := 21) (tgt := 88) dX6_digest_21 (by decide) (by omega) (by omega) (fun ht16 => ?_) (fun hf17 => ?_)
      · refine J_lload_n (pc := 88) dX6_digest_88 rfl rfl ?_
        refine J_aload_n (pc := 89) dX6_digest_89 rfl rfl rfl ?_
        obtain ⟨_, hc18, rfl⟩ := hS10 0 _ rfl
        refine J_get (pc := 90) (k := 1) dX6_digest_90 kC7 (by decide) ff_X6_16 hc18 rfl ?_
        obtain ⟨_, hc20, ka20, kf20, kb20, kg20, rfl, hb20_0, hb20_1⟩ := hS10 2 _ rfl
        refine J_callV0 (pc := 93) (as := []) dX6_digest_93 fw_X0_total fl_X6_138 fm_X0_total fe_X0_total hc20 (by decide) rfl rfl rfl (c_X0_total hs (d := d - 1) (by omega) (e := e) (r := r) (q := q) hn1 hn2 hS10 (w := w9)  (kc := 0) (ks := 0)) (by omega) (st := [.long y1]) (Nat.le_of_ble_eq_true rfl) rfl (kr_P fun v19 hv19 => ?_) kx_I
        refine J_i2l (pc := 96) dX6_digest_96 (J_absL fun y21 => ?_)
        refine J_callS0 (pc := 97) (as := [.long y1, .long y21]) dX6_digest_97 fw_X6_mix fl_X6_237 fs_X6_mix rfl (c_X6_mix hs (d := d - 1) (by omega) (w := w9) y1 y21 (kc := 0) (ks := 0)) (by omega) (st := []) (Nat.le_of_ble_eq_true rfl) rfl (kr_L fun v22 w22 hv22 hw22 => ?_) kx_L
        obtain rfl := hw22.symm
        refine J_lstore_n (pc := 100) dX6_digest_100 rfl (by decide) rfl ?_
        show J X mX6_digest d kc7 ks8 101 [some (.ref 0), some (.long v22), none, some (.int (nI c3))] [] w9 _
        refine J_lload_n (pc := 101) dX6_digest_101 rfl rfl ?_
        refine J_aload_n (pc := 102) dX6_digest_102 rfl rfl rfl ?_
        refine J_bipush (pc := 103) (v := nI 63) dX6_digest_103 (by decide) ?_
        refine J_callV0 (pc := 105) (as := [.int (nI 63)]) dX6_digest_105 fw_X6_pieces fl_X6_262 fm_X6_pieces fe_X6_pieces hc18 (by decide) rfl rfl rfl (c_X6_pieces_atok hs (d := d - 1) (by omega) (e := e) (r := r) (q := q) hn1 hn2 hS10 (w := w9) 63 (by omega) (kc := 0) (ks := 0)) (by omega) (st := [.long v22]) (Nat.le_of_ble_eq_true rfl) rfl (kr_I fun v23 w23 hv23 hw23 => ?_) kx_I
        obtain ⟨hS23, hF23⟩ := hw23
        have hG23 := hG11.tr hF23
        refine J_i2l (pc := 108) dX6_digest_108 (J_absL fun y24 => ?_)
        refine J_callS0 (pc := 109) (as := [.long v22, .long y24]) dX6_digest_109 fw_X6_mix fl_X6_237 fs_X6_mix rfl (c_X6_mix hs (d := d - 1) (by omega) (w := w23) v22 y24 (kc := 0) (ks := 0)) (by omega) (st := []) (Nat.le_of_ble_eq_true rfl) rfl (kr_L fun v25 w25 hv25 hw25 => ?_) kx_L
        obtain rfl := hw25.symm
        refine J_lstore_n (pc := 112) dX6_digest_112 rfl (by decide) rfl ?_
        show J X mX6_digest d kc7 ks8 113 [some (.ref 0), some (.long v25), none, some (.int (nI c3))] [] w23 _
        refine J_lload_n (pc := 113) dX6_digest_113 rfl rfl ?_
        refine J_aload_n (pc := 114) dX6_digest_114 rfl rfl rfl ?_
        obtain ⟨_, hc26, rfl⟩ := hS23 0 _ rfl
        refine J_get (pc := 115) (k := 2) dX6_digest_115 kC7 (by decide) ff_X6_23 hc26 rfl ?_
        obtain ⟨_, hc28, ka28, rfl, hb28_0⟩ := hS23 8 _ rfl
        refine J_callV0 (pc := 118) (as := []) dX6_digest_118 fw_X5_howManyEven fl_X6_199 fm_X5_howManyEven fe_X5_howManyEven hc28 (by decide) rfl rfl rfl (c_X5_howManyEven hs (d := d - 1) (by omega) (e := e) (r := r) (q := q) hn1 hn2 hS23 (w := w23)  (kc := 0) (ks := 0)) (by omega) (st := [.long v25]) (Nat.le_of_ble_eq_true rfl) rfl (kr_P fun v27 hv27 => ?_) kx_I
        refine J_i2l (pc := 121) dX6_digest_121 (J_absL fun y29 => ?_)
        refine J_callS0 (pc := 122) (as := [.long v25, .long y29]) dX6_digest_122 fw_X6_mix fl_X6_237 fs_X6_mix rfl (c_X6_mix hs (d := d - 1) (by omega) (w := w23) v25 y29 (kc := 0) (ks := 0)) (by omega) (st := []) (Nat.le_of_ble_eq_true rfl) rfl (kr_L fun v30 w30 hv30 hw30 => ?_) kx_L
        obtain rfl := hw30.symm
        refine J_lstore_n (pc := 125) dX6_digest_125 rfl (by decide) rfl ?_
        show J X mX6_digest d kc7 ks8 126 [some (.ref 0), some (.long v30), none, some (.int (nI c3))] [] w23 _
        refine J_lload_n (pc := 126) dX6_digest_126 rfl rfl ?_
        refine J_aload_n (pc := 127) dX6_digest_127 rfl rfl rfl ?_
        refine J_get (pc := 128) (k := 1) dX6_digest_128 kC7 (by decide) ff_X6_16 hc26 rfl ?_
        obtain ⟨_, hc32, ka32, kf32, kb32, kg32, rfl, hb32_0, hb32_1⟩ := hS23 2 _ rfl
        refine J_callV0 (pc := 131) (as := []) dX6_digest_131 fw_X0_takenCells fl_X6_225 fm_X0_takenCells fe_X0_takenCells hc32 (by decide) rfl rfl rfl (c_X0_takenCells hs (d := d - 1) (by omega) (e := e) (r := r) (q := q) hn1 hn2 hS23 (w := w23)  (kc := 0) (ks := 0)) (by omega) (st := [.long v30]) (Nat.le_of_ble_eq_true rfl) rfl (kr_P fun v31 hv31 => ?_) kx_I
        refine J_i2l (pc := 134) dX6_digest_134 (J_absL fun y33 => ?_)
        refine J_callS0 (pc := 135) (as := [.long v30, .long y33]) dX6_digest_135 fw_X6_mix fl_X6_237 fs_X6_mix rfl (c_X6_mix hs (d := d - 1) (by omega) (w := w23) v30 y33 (kc := 0) (ks := 0)) (by omega) (st := []) (Nat.le_of_ble_eq_true rfl) rfl (kr_L fun v34 w34 hv34 hw34 => ?_) kx_L
        obtain rfl := hw34.symm
        refine J_lstore_n (pc := 138) dX6_digest_138 rfl (by decide) rfl ?_
        show J X mX6_digest d kc7 ks8 139 [some (.ref 0), some (.long v34), none, some (.int (nI c3))] [] w23 _
        refine J_iconst (pc := 139) (v := nI 0) dX6_digest_139 (by decide) ?_
        refine J_istore_n (pc := 140) dX6_digest_140 rfl (by decide) rfl ?_
        show J X mX6_digest d kc7 ks8 141 [some (.ref 0), some (.long v34), none, some (.int (nI 0))] [] w23 _
        have lp141_36 : ∀ (fuel : Nat) (y1 : Int64) (c3 : Nat), (c3 ≤ n) → (n - c3 < fuel) → J X mX6_digest d kc7 ks8 141 [some (.ref 0), some (.long y1), none, some (.int (nI c3))] [] w23 (pL (fun _ => True) (fun w' => rS n e r q w w')) := by
          intro fuellp141_36
          induction fuellp141_36 with
          | zero => intros; omega
          | succ fuellp141_36 ihlp141_36 =>
            intro y1 c3 hv141_0 hf35
            refine J_iload_n (pc := 141) dX6_digest_141 rfl rfl ?_
            refine J_aload_n (pc := 142) dX6_digest_142 rfl rfl rfl ?_
            obtain ⟨_, hc37, rfl⟩ := hS23 0 _ rfl
            refine J_get (pc := 143) (k := 5) dX6_digest_143 kC7 (by decide) ff_X6_41 hc37 rfl ?_
            refine J_icmp_geN (pc := 146) (tgt := 169) dX6_digest_146 (by decide) (by omega) (by omega) (fun ht38 => ?_) (fun hf39 => ?_)
            · refine J_iconst (pc := 169) (v := nI 0) dX6_digest_169 (by decide) ?_
              refine J_istore_n (pc := 170) dX6_digest_170 rfl (by decide) rfl ?_
              show J X mX6_digest d kc7 ks8 171 [some (.ref 0), some (.long y1), none, some (.int (nI 0))] [] w23 _
              have lp171_41 : ∀ (fuel : Nat) (y1 : Int64) (c3 : Nat), (c3 ≤ 3) → (3 - c3 < fuel) → J X mX6_digest d kc7 ks8 171 [some (.ref 0), some (.long y1), none, some (.int (nI c3))] [] w23 (pL (fun _ => True) (fun w' => rS n e r q w w')) := by
                intro fuellp171_41
                induction fuellp171_41 with
                | zero => intros; omega
                | succ fuellp171_41 ihlp171_41 =>
                  intro y1 c3 hv171_0 hf40
                  refine J_iload_n (pc := 171) dX6_digest_171 rfl rfl ?_
                  refine J_iconst (pc := 172) (v := nI 2) dX6_digest_172 (by decide) ?_
                  refine J_icmp_gtN (pc := 173) (tgt := 193) dX6_digest_173 (by decide) (by omega) (by omega) (fun ht42 => ?_) (fun hf43 => ?_)
                  · refine J_lload_n (pc := 193) dX6_digest_193 rfl rfl ?_
                    refine J_aload_n (pc := 194) dX6_digest_194 rfl rfl rfl ?_
                    obtain ⟨_, hc45, rfl⟩ := hS23 0 _ rfl
                    refine J_callV0 (pc := 195) (as := []) dX6_digest_195 fw_X6_allAgrees fl_X6_231 fm_X6_allAgrees fe_X6_allAgrees hc45 (by decide) rfl rfl rfl (c_X6_allAgrees hs (d := d - 1) (by omega) (e := e) (r := r) (q := q) hn1 hn2 hS23 (w := w23)  (kc := 0) (ks := 0)) (by omega) (st := [.long y1]) (Nat.le_of_ble_eq_true rfl) rfl (kr_I fun v44 w44 hv44 hw44 => ?_) kx_I
                    obtain ⟨k44, rfl, hk44⟩ := hv44
                    obtain ⟨hS44, hF44⟩ := hw44
                    have hG44 := hG23.tr hF44
                    refine J_if_eqN (pc := 198) (tgt := 205) dX6_digest_198 (by decide) (by omega) (fun ht46 => ?_) (fun hf47 => ?_)
                    · refine J_lconst (pc := 205) dX6_digest_205 rfl (J_absL fun y48 => ?_)
                      refine J_callS0 (pc := 206) (as := [.long y1, .long y48]) dX6_digest_206 fw_X6_mix fl_X6_237 fs_X6_mix rfl (c_X6_mix hs (d := d - 1) (by omega) (w := w44) y1 y48 (kc := 0) (ks := 0)) (by omega) (st := []) (Nat.le_of_ble_eq_true rfl) rfl (kr_L fun v49 w49 hv49 hw49 => ?_) kx_L
                      obtain rfl := hw49.symm
                      exact J_lret (pc := 209) dX6_digest_209 rfl ⟨trivial, ⟨hS44, hG44⟩⟩
                    · refine J_lconst (pc := 201) dX6_digest_201 rfl (J_absL fun y50 => ?_)
                      refine J_goto (pc := 202) (tgt := 206) dX6_digest_202 (by decide) ?_
                      refine J_callS0 (pc := 206) (as := [.long y1, .long y50]) dX6_digest_206 fw_X6_mix fl_X6_237 fs_X6_mix rfl (c_X6_mix hs (d := d - 1) (by omega) (w := w44) y1 y50 (kc := 0) (ks := 0)) (by omega) (st := []) (Nat.le_of_ble_eq_true rfl) rfl (kr_L fun v51 w51 hv51 hw51 => ?_) kx_L
                      obtain rfl := hw51.symm
                      exact J_lret (pc := 209) dX6_digest_209 rfl ⟨trivial, ⟨hS44, hG44⟩⟩
                  · refine J_lload_n (pc := 176) dX6_digest_176 rfl rfl ?_
                    refine J_aload_n (pc := 177) dX6_digest_177 rfl rfl rfl ?_
                    refine J_iload_n (pc := 178) dX6_digest_178 rfl rfl ?_
                    obtain ⟨_, hc53, rfl⟩ := hS23 0 _ rfl
                    refine J_callV0 (pc := 179) (as := [.int (nI c3)]) dX6_digest_179 fw_X6_house fl_X6_265 fm_X6_house fe_X6_house hc53 (by decide) rfl rfl rfl (c_X6_house_atok hs (d := d - 1) (by omega) (e := e) (r := r) (q := q) hn1 hn2 hS23 (w := w23) c3 (by omega) (kc := 0) (ks := 0)) (by omega) (st := [.long y1]) (Nat.le_of_ble_eq_true rfl) rfl (kr_P fun v52 hv52 => ?_) kx_I
                    refine J_i2l (pc := 182) dX6_digest_182 (J_absL fun y54 => ?_)
                    refine J_callS0 (pc := 183) (as := [.long y1, .long y54]) dX6_digest_183 fw_X6_mix fl_X6_237 fs_X6_mix rfl (c_X6_mix hs (d := d - 1) (by omega) (w := w23) y1 y54 (kc := 0) (ks := 0)) (by omega) (st := []) (Nat.le_of_ble_eq_true rfl) rfl (kr_L fun v55 w55 hv55 hw55 => ?_) kx_L
                    obtain rfl := hw55.symm
                    refine J_lstore_n (pc := 186) dX6_digest_186 rfl (by decide) rfl ?_
                    show J X mX6_digest d kc7 ks8 187 [some (.ref 0), some (.long v55), none, some (.int (nI c3))] [] w23 _
                    refine J_iincN (pc := 187) (b := 1) dX6_digest_187 rfl (by decide) (by decide) rfl ?_
                    show J X mX6_digest d kc7 ks8 190 [some (.ref 0), some (.long v55), none, some (.int (nI (c3 + 1)))] [] w23 _
                    refine J_goto (pc := 190) (tgt := 171) dX6_digest_190 (by decide) ?_
                    exact J_sub (L' := [some (.ref 0), some (.long v55), none, some (.int (nI (c3 + 1)))]) ⟨rfl, ⟨rfl, ⟨rfl, trivial⟩⟩⟩ (ihlp171_41 v55 (c3 + 1) (by first | assumption | omega) (by omega))
              exact J_sub (L' := [some (.ref 0), some (.long y1), none, some (.int (nI 0))]) ⟨rfl, ⟨rfl, ⟨rfl, trivial⟩⟩⟩ (lp171_41 _ y1 0 (by first | assumption | omega) (Nat.lt_succ_self _))
            · refine J_lload_n (pc := 149) dX6_digest_149 rfl rfl ?_
              refine J_aload_n (pc := 150) dX6_digest_150 rfl rfl rfl ?_
              refine J_get (pc := 151) (k := 1) dX6_digest_151 kC7 (by decide) ff_X6_16 hc37 rfl ?_
              refine J_iload_n (pc := 154) dX6_digest_154 rfl rfl ?_
              obtain ⟨_, hc57, ka57, kf57, kb57, kg57, rfl, hb57_0, hb57_1⟩ := hS23 2 _ rfl
              refine J_callV0 (pc := 155) (as := [.int (nI c3)]) dX6_digest_155 fw_X0_reachAt fl_X6_170 fm_X0_reachAt fe_X0_reachAt hc57 (by decide) rfl rfl rfl (c_X0_reachAt hs (d := d - 1) (by omega) (e := e) (r := r) (q := q) hn1 hn2 hS23 (w := w23) (nI c3) (kc := 0) (ks := 0)) (by omega) (st := [.long y1]) (Nat.le_of_ble_eq_true rfl) rfl (kr_P fun v56 hv56 => ?_) kx_I
              refine J_i2l (pc := 158) dX6_digest_158 (J_absL fun y58 => ?_)
              refine J_callS0 (pc := 159) (as := [.long y1, .long y58]) dX6_digest_159 fw_X6_mix fl_X6_237 fs_X6_mix rfl (c_X6_mix hs (d := d - 1) (by omega) (w := w23) y1 y58 (kc := 0) (ks := 0)) (by omega) (st := []) (Nat.le_of_ble_eq_true rfl) rfl (kr_L fun v59 w59 hv59 hw59 => ?_) kx_L
              obtain rfl := hw59.symm
              refine J_lstore_n (pc := 162) dX6_digest_162 rfl (by decide) rfl ?_
              show J X mX6_digest d kc7 ks8 163 [some (.ref 0), some (.long v59), none, some (.int (nI c3))] [] w23 _
              refine J_iincN (pc := 163) (b := 1) dX6_digest_163 rfl (by decide) (by decide) rfl ?_
              show J X mX6_digest d kc7 ks8 166 [some (.ref 0), some (.long v59), none, some (.int (nI (c3 + 1)))] [] w23 _
              refine J_goto (pc := 166) (tgt := 141) dX6_digest_166 (by decide) ?_
              exact J_sub (L' := [some (.ref 0), some (.long v59), none, some (.int (nI (c3 + 1)))]) ⟨rfl, ⟨rfl, ⟨rfl, trivial⟩⟩⟩ (ihlp141_36 v59 (c3 + 1) (by first | assumption | omega) (by omega))
        exact J_sub (L' := [some (.ref 0), some (.long v34), none, some (.int (nI 0))]) ⟨rfl, ⟨rfl, ⟨rfl, trivial⟩⟩⟩ (lp141_36 _ v34 0 (by first | assumption | omega) (Nat.lt_succ_self _))
      · refine J_lload_n (pc := 24) dX6_digest_24 rfl rfl ?_
        refine J_aload_n (pc := 25) dX6_digest_25 rfl rfl rfl ?_
        refine J_iload_n (pc := 26) dX6_digest_26 rfl rfl ?_
        obtain ⟨_, hc61, rfl⟩ := hS10 0 _ rfl
        refine J_callV0 (pc := 27) (as := [.int (nI c3)]) dX6_digest_27 fw_X6_number fl_X6_241 fm_X6_number fe_X6_number hc61 (by decide) rfl rfl rfl (c_X6_number_atok hs (d := d - 1) (by omega) (e := e) (r := r) (q := q) hn1 hn2 hS10 (w := w9) c3 (by omega) (kc := 0) (ks := 0)) (by omega) (st := [.long y1]) (Nat.le_of_ble_eq_true rfl) rfl (kr_P fun v60 hv60 => ?_) kx_I
        refine J_i2l (pc := 30) dX6_digest_30 (J_absL fun y62 => ?_)
        refine J_callS0 (pc := 31) (as := [.long y1, .long y62]) dX6_digest_31 fw_X6_mix fl_X6_237 fs_X6_mix rfl (c_X6_mix hs (d := d - 1) (by omega) (w := w9) y1 y62 (kc := 0) (ks := 0)) (by omega) (st := []) (Nat.le_of_ble_eq_true rfl) rfl (kr_L fun v63 w63 hv63 hw63 => ?_) kx_L
        obtain rfl := hw63.symm
        refine J_lstore_n (pc := 34) dX6_digest_34 rfl (by decide) rfl ?_
        show J X mX6_digest d kc7 ks8 35 [some (.ref 0), some (.long v63), none, some (.int (nI c3))] [] w9 _
        refine J_lload_n (pc := 35) dX6_digest_35 rfl rfl ?_
        refine J_aload_n (pc := 36) dX6_digest_36 rfl rfl rfl ?_
        refine J_iload_n (pc := 37) dX6_digest_37 rfl rfl ?_
        refine J_callV0 (pc := 38) (as := [.int (nI c3)]) dX6_digest_38 fw_X6_order fl_X6_244 fm_X6_order fe_X6_order hc61 (by decide) rfl rfl rfl (c_X6_order_atok hs (d := d - 1) (by omega) (e := e) (r := r) (q := q) hn1 hn2 hS10 (w := w9) c3 (by omega) (kc := 0) (ks := 0)) (by omega) (st := [.long v63]) (Nat.le_of_ble_eq_true rfl) rfl (kr_P fun v64 hv64 => ?_) kx_I
        obtain ⟨k64, rfl, hk64⟩ := hv64
        refine J_i2l (pc := 41) dX6_digest_41 (J_absL fun y65 => ?_)
        refine J_callS0 (pc := 42) (as := [.long v63, .long y65]) dX6_digest_42 fw_X6_mix fl_X6_237 fs_X6_mix rfl (c_X6_mix hs (d := d - 1) (by omega) (w := w9) v63 y65 (kc := 0) (ks := 0)) (by omega) (st := []) (Nat.le_of_ble_eq_true rfl) rfl (kr_L fun v66 w66 hv66 hw66 => ?_) kx_L
        obtain rfl := hw66.symm
        refine J_lstore_n (pc := 45) dX6_digest_45 rfl (by decide) rfl ?_
        show J X mX6_digest d kc7 ks8 46 [some (.ref 0), some (.long v66), none, some (.int (nI c3))] [] w9 _
        refine J_lload_n (pc := 46) dX6_digest_46 rfl rfl ?_
        refine J_aload_n (pc := 47) dX6_digest_47 rfl rfl rfl ?_
        refine J_iload_n (pc := 48) dX6_digest_48 rfl rfl ?_
        refine J_callV0 (pc := 49) (as := [.int (nI c3)]) dX6_digest_49 fw_X6_sign fl_X6_247 fm_X6_sign fe_X6_sign hc61 (by decide) rfl rfl rfl (c_X6_sign_atok hs (d := d - 1) (by omega) (e := e) (r := r) (q := q) hn1 hn2 hS10 (w := w9) c3 (by omega) (kc := 0) (ks := 0)) (by omega) (st := [.long v66]) (Nat.le_of_ble_eq_true rfl) rfl (kr_P fun v67 hv67 => ?_) kx_I
        refine J_i2l (pc := 52) dX6_digest_52 (J_absL fun y68 => ?_)
        refine J_callS0 (pc := 53) (as := [.long v66, .long y68]) dX6_digest_53 fw_X6_mix fl_X6_237 fs_X6_mix rfl (c_X6_mix hs (d := d - 1) (by omega) (w := w9) v66 y68 (kc := 0) (ks := 0)) (by omega) (st := []) (Nat.le_of_ble_eq_true rfl) rfl (kr_L fun v69 w69 hv69 hw69 => ?_) kx_L
        obtain rfl := hw69.symm
        refine J_lstore_n (pc := 56) dX6_digest_56 rfl (by decide) rfl ?_
        show J X mX6_digest d kc7 ks8 57 [some (.ref 0), some (.long v69), none, some (.int (nI c3))] [] w9 _
        refine J_lload_n (pc := 57) dX6_digest_57 rfl rfl ?_
        refine J_aload_n (pc := 58) dX6_digest_58 rfl rfl rfl ?_
        refine J_iload_n (pc := 59) dX6_digest_59 rfl rfl ?_
        refine J_callV0 (pc := 60) (as := [.int (nI c3)]) dX6_digest_60 fw_X6_stays fl_X6_250 fm_X6_stays fe_X6_stays hc61 (by decide) rfl rfl rfl (c_X6_stays_atok hs (d := d - 1) (by omega) (e := e) (r := r) (q := q) hn1 hn2 hS10 (w := w9) c3 (by omega) (kc := 0) (ks := 0)) (by omega) (st := [.long v69]) (Nat.le_of_ble_eq_true rfl) rfl (kr_P fun v70 hv70 => ?_) kx_I
        refine J_i2l (pc := 63) dX6_digest_63 (J_absL fun y71 => ?_)
        refine J_callS0 (pc := 64) (as := [.long v69, .long y71]) dX6_digest_64 fw_X6_mix fl_X6_237 fs_X6_mix rfl (c_X6_mix hs (d := d - 1) (by omega) (w := w9) v69 y71 (kc := 0) (ks := 0)) (by omega) (st := []) (Nat.le_of_ble_eq_true rfl) rfl (kr_L fun v72 w72 hv72 hw72 => ?_) kx_L
        obtain rfl := hw72.symm
        refine J_lstore_n (pc := 67) dX6_digest_67 rfl (by decide) rfl ?_
        show J X mX6_digest d kc7 ks8 68 [some (.ref 0), some (.long v72), none, some (.int (nI c3))] [] w9 _
        refine J_lload_n (pc := 68) dX6_digest_68 rfl rfl ?_
        refine J_aload_n (pc := 69) dX6_digest_69 rfl rfl rfl ?_
        refine J_iload_n (pc := 70) dX6_digest_70 rfl rfl ?_
        refine J_callV (pc := 71) (as := [.int (nI c3)]) dX6_digest_71 fw_X6_rings fl_X6_253 fm_X6_rings fe_X6_rings hc61 (by decide) rfl rfl rfl (c_X6_rings_atok hs (d := d - 1) (by omega) hXO (e := e) (r := r) (q := q) hn1 hn2 (w := w9) hS10 c3 (by omega) (kc := 40) (ks := 1500) (Nat.le_refl _) (Nat.le_refl _)) (by omega) (by omega) (by omega) (st := [.long v72]) (Nat.le_of_ble_eq_true rfl) rfl (kr_A fun r73 w73 hw73 => ?_) kx_A
        obtain ⟨hS73, hFq73, vz73, zs73, hco73, hcn73, hyl73⟩ := hw73
        have hG73 := hG11.tr hFq73
        refine J_callV0 (pc := 74) (as := []) dX6_digest_74 fw_J0_length_8abf5 fl_X6_257 fm_J0_length_8abf5 fe_J0_length_8abf5 hco73 (by decide) rfl rfl rfl (c_J0_length_8abf5_ats hs (d := d - 1) (by omega) (w := w73) r73 vz73 zs73 hco73 hcn73 (by omega) (kc := 0) (ks := 0)) (by omega) (st := [.long v72]) (Nat.le_of_ble_eq_true rfl) rfl (kr_P fun v74 hv74 => ?_) kx_I
        refine J_i2l (pc := 77) dX6_digest_77 (J_absL fun y75 => ?_)
        refine J_callS0 (pc := 78) (as := [.long v72, .long y75]) dX6_digest_78 fw_X6_mix fl_X6_237 fs_X6_mix rfl (c_X6_mix hs (d := d - 1) (by omega) (w := w73) v72 y75 (kc := 0) (ks := 0)) (by omega) (st := []) (Nat.le_of_ble_eq_true rfl) rfl (kr_L fun v76 w76 hv76 hw76 => ?_) kx_L
        obtain rfl := hw76.symm
        refine J_lstore_n (pc := 81) dX6_digest_81 rfl (by decide) rfl ?_
        show J X mX6_digest d (kc7 - 40) (ks8 - 1500) 82 [some (.ref 0), some (.long v76), none, some (.int (nI c3))] [] w73 _
        refine J_iincN (pc := 82) (b := 1) dX6_digest_82 rfl (by decide) (by decide) rfl ?_
        show J X mX6_digest d (kc7 - 40) (ks8 - 1500) 85 [some (.ref 0), some (.long v76), none, some (.int (nI (c3 + 1)))] [] w73 _
        refine J_goto (pc := 85) (tgt := 18) dX6_digest_85 (by decide) ?_
        exact J_sub (L' := [some (.ref 0), some (.long v76), none, some (.int (nI (c3 + 1)))]) ⟨rfl, ⟨rfl, ⟨rfl, trivial⟩⟩⟩ (ihlp18_15 _ _ w73 v76 (c3 + 1) hS73 hG73 (by omega) (by omega) (by first | assumption | omega) (by omega))
  exact J_sub (L' := [some (.ref 0), some (.long v6), none, some (.int (nI 0))]) ⟨rfl, ⟨rfl, ⟨rfl, trivial⟩⟩⟩ (lp18_15 _ _ _ w1 v6 0 hS1 hG1 (by omega) (by omega) (by first | assumption | omega) (Nat.lt_succ_self _))
