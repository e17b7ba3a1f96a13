/-! texts of the class -/
theorem pc7 : ∀ m, m < 128 → cnt (fun i => m.testBit i) 32 ≤ 7 := by decide +kernel
theorem c_J6_bitCount_0f7a4_at7 {X : jX} (hs : X.1.stackTraces = false) {d : Nat} (hd : 0 ≤ d) {w : List jC} (m : Nat) (hy0 : m < 128) {kc ks : Nat} : jMet X mJ6_bitCount_0f7a4 d kc ks [.int (nI m)] w (pI (fun v => ∃ k : Nat, v = nI k ∧ k ≤ 7) (fun w' => w' = w)) := by
  refine (c_J6_bitCount_0f7a4_atx hs hd (nI m)).mono (fun o w' h => ?_)
  match o, h with
  | .inl (some (.int v)), h => exact ⟨⟨pc32 (nI m), h.1, by rw [pc32_nI (by omega)]; exact pc7 m hy0⟩, h.2⟩
def nb (k : Nat) : Nat → Nat
  | 0 => 0
  | c + 1 => nb k c * (k - c) + 7
theorem nb_le : ∀ k, k < 8 → nb k k ≤ 6118 := by decide
theorem inc_sub {z c : Int32} : z + Int32.ofInt 1 - c = z - c + nI 1 := by
  rw [Int32.sub_eq_add_neg, Int32.sub_eq_add_neg, Int32.add_assoc, Int32.add_assoc, Int32.add_comm (Int32.ofInt 1)]
  rfl
section JVG
variable {X : jX} {M : jM} {d kc ks pc : Nat} {L : List (Option Value)} {st : List Value} {w : List jC} {Q : jQ}
theorem J_andLe {a : Nat} {y : Int32} (hdg : decode M.2.1 pc = .ok (.iand, 1)) (ha : a < 2 ^ 31) (k : ∀ j, j ≤ a → J X M d kc ks (pc + 1) L (.int (nI j) :: st) w Q) : J X M d kc ks pc L (.int y :: .int (nI a) :: st) w Q :=
  J_iand hdg (by
    have e : nI a &&& y = nI (a &&& y.toBitVec.toNat) := by
      rw [nI_self y, and_nI (by omega) y.toBitVec.isLt]
      congr 2
      show _ = (BitVec.ofNat 32 y.toBitVec.toNat).toNat
      rw [BitVec.toNat_ofNat, Nat.mod_eq_of_lt y.toBitVec.isLt]
    rw [e]
    exact k _ Nat.and_le_left)
theorem J_shl1 {s : Nat} (hdg : decode M.2.1 pc = .ok (.ishl, 1)) (hs : s < 31) (k : J X M d kc ks (pc + 1) L (.int (nI (2 ^ s)) :: st) w Q) : J X M d kc ks pc L (.int (nI s) :: .int (nI 1) :: st) w Q :=
  J_ishl hdg (by
    rw [pk_shlN (n := 1) _ s (sh_of (by omega)) (by rw [Nat.one_mul]; exact Nat.pow_lt_pow_right (by decide) (by omega)), Nat.one_mul]
    exact k)
end JVG
theorem rX_fs {n : Nat} {e r q : Int32} {a v : Nat} {w w' : List jC} (h : SH (rX n e r q) w) (h' : FS a v w w') (ha : 19 ≤ a) (hv : 19 ≤ v) : SH (rX n e r q) w' := h.fs h' ha hv
set_option maxRecDepth 100000 in
set_option maxHeartbeats 40000000 in
theorem c_X6_needCell_atok {X : jX} (hs : X.1.stackTraces = false) {d : Nat} (hd : 1 ≤ d) {w : List jC} (a : Nat) (hy0 : a < 6) {kc ks : Nat} : jMet X mX6_needCell d kc ks [.int (nI a)] w (pV (fun w' => w' = w)) := by
  refine jMet_of hs (by decide +kernel) (Nat.le_of_ble_eq_true rfl) (L := [some (.int (nI a))]) rfl ?_
  refine J_iload_n (pc := 0) dX6_needCell_0 rfl rfl ?_
  refine J_if_ltN (pc := 1) (tgt := 10) dX6_needCell_1 (by decide) (by omega) (fun hf2 => ?_)
  refine J_iload_n (pc := 4) dX6_needCell_4 rfl rfl ?_
  refine J_bipush (pc := 5) (v := nI 6) dX6_needCell_5 (by decide) ?_
  refine J_icmp_ltN (pc := 7) (tgt := 21) dX6_needCell_7 (by decide) (by omega) (by omega) (fun ht3 => ?_) (fun hf4 => ?_)
  · exact J_vret (pc := 21) dX6_needCell_21 rfl (rfl)
  · exact absurd hf4 (by omega)
set_option maxRecDepth 100000 in
set_option maxHeartbeats 40000000 in
theorem c_X6_need_atok {X : jX} (hs : X.1.stackTraces = false) {d : Nat} (hd : 1 ≤ d) {w : List jC} (a : Nat) (hy0 : a = 1) {kc ks : Nat} : jMet X mX6_need d kc ks [.int (nI a)] w (pV (fun w' => w' = w)) := by
  refine jMet_of hs (by decide +kernel) (Nat.le_of_ble_eq_true rfl) (L := [some (.int (nI a))]) rfl ?_
  refine J_iload_n (pc := 0) dX6_need_0 rfl rfl ?_
  refine J_if_neN (pc := 1) (tgt := 15) dX6_need_1 (by decide) (by omega) (fun ht1 => ?_) (fun hf2 => ?_)
  · exact J_vret (pc := 15) dX6_need_15 rfl (rfl)
  · exact absurd hf2 (by omega)
set_option maxRecDepth 100000 in
set_option maxHeartbeats 40000000 in
theorem c_X6_needBetween_atok {X : jX} (hs : X.1.stackTraces = false) {d : Nat} (hd : 2 ≤ d) {w : List jC} (a : Nat) (c : Nat) (e : Nat) (hy0 : c ≤ a) (hy1 : a ≤ e) (hy2 : e < 2147483648) {kc ks : Nat} : jMet X mX6_needBetween d kc ks [.int (nI a), .int (nI c), .int (nI e)] w (pV (fun w' => w' = w)) := by
  refine jMet_of hs (by decide +kernel) (Nat.le_of_ble_eq_true rfl) (L := [some (.int (nI a)), some (.int (nI c)), some (.int (nI e))]) rfl ?_
  refine J_iload_n (pc := 0) dX6_needBetween_0 rfl rfl ?_
  refine J_iload_n (pc := 1) dX6_needBetween_1 rfl rfl ?_
  refine J_icmp_ltN (pc := 2) (tgt := 14) dX6_needBetween_2 (by decide) (by omega) (by omega) (fun ht1 => ?_) (fun hf2 => ?_)
  · exact absurd ht1 (by omega)
  · refine J_iload_n (pc := 5) dX6_needBetween_5 rfl rfl ?_
    refine J_iload_n (pc := 6) dX6_needBetween_6 rfl rfl ?_
    refine J_icmp_gtN (pc := 7) (tgt := 14) dX6_needBetween_7 (by decide) (by omega) (by omega) (fun ht3 => ?_) (fun hf4 => ?_)
    · exact absurd ht3 (by omega)
    · refine J_iconst (pc := 10) (v := nI 1) dX6_needBetween_10 (by decide) ?_
      refine J_goto (pc := 11) (tgt := 15) dX6_needBetween_11 (by decide) ?_
      refine J_callS0 (pc := 15) (M := mX6_needBetween) (as := [.int (nI 1)]) dX6_needBetween_15 fw_X6_need fl_X6_99 fs_X6_need rfl (c_X6_need_atok hs (d := d - 1) (by omega) (w := w) 1 (by omega) (kc := 0) (ks := 0)) (by omega) (st := []) (Nat.le_of_ble_eq_true rfl) rfl (kr_V fun w5 hw5 => ?_) kx_V
      obtain rfl := hw5.symm
      exact J_vret (pc := 18) dX6_needBetween_18 rfl (rfl)
set_option maxRecDepth 100000 in
set_option maxHeartbeats 40000000 in
theorem c_X6_needSet_atok {X : jX} (hs : X.1.stackTraces = false) {d : Nat} (hd : 3 ≤ d) {w : List jC} (a : Nat) (hy0 : a < 64) {kc ks : Nat} : jMet X mX6_needSet d kc ks [.int (nI a)] w (pV (fun w' => w' = w)) := by
  refine jMet_of hs (by decide +kernel) (Nat.le_of_ble_eq_true rfl) (L := [some (.int (nI a))]) rfl ?_
  refine J_iload_n (pc := 0) dX6_needSet_0 rfl rfl ?_
  refine J_iconst (pc := 1) (v := nI 0) dX6_needSet_1 (by decide) ?_
  refine J_bipush (pc := 2) (v := nI 63) dX6_needSet_2 (by decide) ?_
  refine J_callS0 (pc := 4) (M := mX6_needSet) (as := [.int (nI a), .int (nI 0), .int (nI 63)]) dX6_needSet_4 fw_X6_needBetween fl_X6_63 fs_X6_needBetween rfl (c_X6_needBetween_atok hs (d := d - 1) (by omega) (w := w) a 0 63 (by omega) (by omega) (by omega) (kc := 0) (ks := 0)) (by omega) (st := []) (Nat.le_of_ble_eq_true rfl) rfl (kr_V fun w1 hw1 => ?_) kx_V
  obtain rfl := hw1.symm
  exact J_vret (pc := 7) dX6_needSet_7 rfl (rfl)
set_option maxRecDepth 100000 in
set_option maxHeartbeats 40000000 in
theorem c_X6_number_atok {X : jX} (hs : X.1.stackTraces = false) {d : Nat} (hd : 6 ≤ d) {n : Nat} {e r q : Int32} (hn1 : 2 ≤ n) (hn2 : n ≤ 7) {w : List jC} (hS : SH (rX n e r q) w) (a : Nat) (hy0 : a < 6) {kc ks : Nat} : jMet X mX6_number d kc ks [.ref 0, .int (nI a)] w (pI (fun _ => True) (fun w' => w' = w)) := by
  refine jMet_of hs (by decide +kernel) (Nat.le_of_ble_eq_true rfl) (L := [some (.ref 0), some (.int (nI a))]) rfl ?_
  have hG : Fr kX w w := Fr.rf
  refine J_iload_n (pc := 0) dX6_number_0 rfl rfl ?_
  refine J_callS0 (pc := 1) (M := mX6_number) (as := [.int (nI a)]) dX6_number_1 fw_X6_needCell fl_X6_67 fs_X6_needCell rfl (c_X6_needCell_atok hs (d := d - 1) (by omega) (w := w) a (by omega) (kc := 0) (ks := 0)) (by omega) (st := []) (Nat.le_of_ble_eq_true rfl) rfl (kr_V fun w1 hw1 => ?_) kx_V
  obtain rfl := hw1.symm
  refine J_aload_n (pc := 4) dX6_number_4 rfl rfl rfl ?_
  obtain ⟨_, hc2, rfl⟩ := hS 0 _ rfl
  refine J_get (pc := 5) (k := 0) dX6_number_5 kC7 (by decide) ff_X6_9 hc2 rfl ?_
  refine J_iload_n (pc := 8) dX6_number_8 rfl rfl ?_
  obtain ⟨_, hc3, xs3, rfl, hl3⟩ := hS 1 _ rfl
  refine J_iald (pc := 9) dX6_number_9 hc3 (nI_in (by omega) (by omega)) (J_absI fun x4 => ?_)
  refine J_aload_n (pc := 10) dX6_number_10 rfl rfl rfl ?_
  refine J_get (pc := 11) (k := 5) dX6_number_11 kC7 (by decide) ff_X6_41 hc2 rfl ?_
  refine J_callS0 (pc := 14) (M := mX6_number) (as := [.int x4, .int (nI n)]) dX6_number_14 fw_X2_numberOf fl_X6_75 fs_X2_numberOf rfl (c_X2_numberOf hs (d := d - 1) (by omega) (w := w) x4 n (by omega) (kc := 0) (ks := 0)) (by omega) (st := []) (Nat.le_of_ble_eq_true rfl) rfl (kr_P fun v5 hv5 => ?_) kx_I
  exact J_iret (pc := 17) dX6_number_17 rfl ⟨trivial, rfl⟩
set_option maxRecDepth 100000 in
set_option maxHeartbeats 40000000 in
theorem c_X6_order_atok {X : jX} (hs : X.1.stackTraces = false) {d : Nat} (hd : 6 ≤ d) {n : Nat} {e r q : Int32} (hn1 : 2 ≤ n) (hn2 : n ≤ 7) {w : List jC} (hS : SH (rX n e r q) w) (a : Nat) (hy0 : a < 6) {kc ks : Nat} : jMet X mX6_order d kc ks [.ref 0, .int (nI a)] w (pI (fun v => ∃ k : Nat, v = nI k ∧ k < 16) (fun w' => w' = w)) := by
  refine jMet_of hs (by decide +kernel) (Nat.le_of_ble_eq_true rfl) (L := [some (.ref 0), some (.int (nI a))]) rfl ?_
  have hG : Fr kX w w := Fr.rf
  refine J_iload_n (pc := 0) dX6_order_0 rfl rfl ?_
  refine J_callS0 (pc := 1) (M := mX6_order) (as := [.int (nI a)]) dX6_order_1 fw_X6_needCell fl_X6_67 fs_X6_needCell rfl (c_X6_needCell_atok hs (d := d - 1) (by omega) (w := w) a (by omega) (kc := 0) (ks := 0)) (by omega) (st := []) (Nat.le_of_ble_eq_true rfl) rfl (kr_V fun w1 hw1 => ?_) kx_V
  obtain rfl := hw1.symm
  refine J_aload_n (pc := 4) dX6_order_4 rfl rfl rfl ?_
  obtain ⟨_, hc2, rfl⟩ := hS 0 _ rfl
  refine J_get (pc := 5) (k := 0) dX6_order_5 kC7 (by decide) ff_X6_9 hc2 rfl ?_
  refine J_iload_n (pc := 8) dX6_order_8 rfl rfl ?_
  obtain ⟨_, hc3, xs3, rfl, hl3⟩ := hS 1 _ rfl
  refine J_iald (pc := 9) dX6_order_9 hc3 (nI_in (by omega) (by omega)) (J_absI fun x4 => ?_)
  refine J_callS0 (pc := 10) (M := mX6_order) (as := [.int x4]) dX6_order_10 fw_X2_orderOf fl_X6_164 fs_X2_orderOf rfl (c_X2_orderOf hs (d := d - 1) (by omega) (w := w) x4 (kc := 0) (ks := 0)) (by omega) (st := []) (Nat.le_of_ble_eq_true rfl) rfl (kr_P fun v5 hv5 => ?_) kx_I
  obtain ⟨k5, rfl, hk5⟩ := hv5
  exact J_iret (pc := 13) dX6_order_13 rfl ⟨⟨k5, rfl, by omega⟩, rfl⟩
set_option maxRecDepth 100000 in
set_option maxHeartbeats 40000000 in
theorem c_X6_sign_atok {X : jX} (hs : X.1.stackTraces = false) {d : Nat} (hd : 6 ≤ d) {n : Nat} {e r q : Int32} (hn1 : 2 ≤ n) (hn2 : n ≤ 7) {w : List jC} (hS : SH (rX n e r q) w) (a : Nat) (hy0 : a < 6) {kc ks : Nat} : jMet X mX6_sign d kc ks [.ref 0, .int (nI a)] w (pI (fun _ => True) (fun w' => w' = w)) := by
  refine jMet_of hs (by decide +kernel) (Nat.le_of_ble_eq_true rfl) (L := [some (.ref 0), some (.int (nI a))]) rfl ?_
  have hG : Fr kX w w := Fr.rf
  refine J_iload_n (pc := 0) dX6_sign_0 rfl rfl ?_
  refine J_callS0 (pc := 1) (M := mX6_sign) (as := [.int (nI a)]) dX6_sign_1 fw_X6_needCell fl_X6_67 fs_X6_needCell rfl (c_X6_needCell_atok hs (d := d - 1) (by omega) (w := w) a (by omega) (kc := 0) (ks := 0)) (by omega) (st := []) (Nat.le_of_ble_eq_true rfl) rfl (kr_V fun w1 hw1 => ?_) kx_V
  obtain rfl := hw1.symm
  refine J_aload_n (pc := 4) dX6_sign_4 rfl rfl rfl ?_
  obtain ⟨_, hc2, rfl⟩ := hS 0 _ rfl
  refine J_get (pc := 5) (k := 0) dX6_sign_5 kC7 (by decide) ff_X6_9 hc2 rfl ?_
  refine J_iload_n (pc := 8) dX6_sign_8 rfl rfl ?_
  obtain ⟨_, hc3, xs3, rfl, hl3⟩ := hS 1 _ rfl
  refine J_iald (pc := 9) dX6_sign_9 hc3 (nI_in (by omega) (by omega)) (J_absI fun x4 => ?_)
  refine J_aload_n (pc := 10) dX6_sign_10 rfl rfl rfl ?_
  refine J_get (pc := 11) (k := 5) dX6_sign_11 kC7 (by decide) ff_X6_41 hc2 rfl ?_
  refine J_callS0 (pc := 14) (M := mX6_sign) (as := [.int x4, .int (nI n)]) dX6_sign_14 fw_X2_signOf fl_X6_167 fs_X2_signOf rfl (c_X2_signOf hs (d := d - 1) (by omega) (w := w) x4 n (by omega) (kc := 0) (ks := 0)) (by omega) (st := []) (Nat.le_of_ble_eq_true rfl) rfl (kr_P fun v5 hv5 => ?_) kx_I
  exact J_iret (pc := 17) dX6_sign_17 rfl ⟨trivial, rfl⟩
set_option maxRecDepth 100000 in
set_option maxHeartbeats 40000000 in
theorem c_X6_stays_atok {X : jX} (hs : X.1.stackTraces = false) {d : Nat} (hd : 6 ≤ d) {n : Nat} {e r q : Int32} (hn1 : 2 ≤ n) (hn2 : n ≤ 7) {w : List jC} (hS : SH (rX n e r q) w) (a : Nat) (hy0 : a < 6) {kc ks : Nat} : jMet X mX6_stays d kc ks [.ref 0, .int (nI a)] w (pI (fun _ => True) (fun w' => w' = w)) := by
  refine jMet_of hs (by decide +kernel) (Nat.le_of_ble_eq_true rfl) (L := [some (.ref 0), some (.int (nI a)), none, none]) rfl ?_
  have hG : Fr kX w w := Fr.rf
  refine J_iload_n (pc := 0) dX6_stays_0 rfl rfl ?_
  refine J_callS0 (pc := 1) (M := mX6_stays) (as := [.int (nI a)]) dX6_stays_1 fw_X6_needCell fl_X6_67 fs_X6_needCell rfl (c_X6_needCell_atok hs (d := d - 1) (by omega) (w := w) a (by omega) (kc := 0) (ks := 0)) (by omega) (st := []) (Nat.le_of_ble_eq_true rfl) rfl (kr_V fun w1 hw1 => ?_) kx_V
  obtain rfl := hw1.symm
  refine J_iconst (pc := 4) (v := nI 0) dX6_stays_4 (by decide) ?_
  refine J_istore_n (pc := 5) dX6_stays_5 rfl (by decide) rfl ?_
  show J X mX6_stays d kc ks 6 [some (.ref 0), some (.int (nI a)), some (.int (nI 0)), none] [] w _
  refine J_iconst (pc := 6) (v := nI 0) dX6_stays_6 (by decide) ?_
  refine J_istore_n (pc := 7) dX6_stays_7 rfl (by decide) rfl ?_
  show J X mX6_stays d kc ks 8 [some (.ref 0), some (.int (nI a)), some (.int (nI 0)), some (.int (nI 0))] [] w _
  have lp8_3 : ∀ (fuel : Nat) (z2 : Int32) (c3 : Nat), (c3 < 2147483648) → (7 - c3 < fuel) → J X mX6_stays d kc ks 8 [some (.ref 0), some (.int (nI a)), some (.int z2), some (.int (nI c3))] [] w (pI (fun _ => True) (fun w' => w' = w)) := by
    intro fuellp8_3
    induction fuellp8_3 with
    | zero => intros; omega
    | succ fuellp8_3 ihlp8_3 =>
      intro z2 c3 hv8_0 hf2
      refine J_iload_n (pc := 8) dX6_stays_8 rfl rfl ?_
      refine J_aload_n (pc := 9) dX6_stays_9 rfl rfl rfl ?_
      obtain ⟨_, hc4, rfl⟩ := hS 0 _ rfl
      refine J_get (pc := 10) (k := 5) dX6_stays_10 kC7 (by decide) ff_X6_41 hc4 rfl ?_
      refine J_icmp_geN (pc := 13) (tgt := 42) dX6_stays_13 (by decide) (by omega) (by omega) (fun ht5 => ?_) (fun hf6 => ?_)
      · refine J_iload_n (pc := 42) dX6_stays_42 rfl rfl ?_
        exact J_iret (pc := 43) dX6_stays_43 rfl ⟨trivial, rfl⟩
      · refine J_aload_n (pc := 16) dX6_stays_16 rfl rfl rfl ?_
        refine J_get (pc := 17) (k := 0) dX6_stays_17 kC7 (by decide) ff_X6_9 hc4 rfl ?_
        refine J_iload_n (pc := 20) dX6_stays_20 rfl rfl ?_
        obtain ⟨_, hc7, xs7, rfl, hl7⟩ := hS 1 _ rfl
        refine J_iald (pc := 21) dX6_stays_21 hc7 (nI_in (by omega) (by omega)) (J_absI fun x8 => ?_)
        refine J_iload_n (pc := 22) dX6_stays_22 rfl rfl ?_
        refine J_callS0 (pc := 23) (M := mX6_stays) (as := [.int x8, .int (nI c3)]) dX6_stays_23 fw_X2_goal fl_X6_144 fs_X2_goal rfl (c_X2_goal hs (d := d - 1) (by omega) (w := w) x8 (nI c3) (kc := 0) (ks := 0)) (by omega) (st := []) (Nat.le_of_ble_eq_true rfl) rfl (kr_P fun v9 hv9 => ?_) kx_I
        obtain ⟨k9, rfl, hk9⟩ := hv9
        refine J_iload_n (pc := 26) dX6_stays_26 rfl rfl ?_
        refine J_icmp_neN (pc := 27) (tgt := 36) dX6_stays_27 (by decide) (by omega) (by omega) (fun ht10 => ?_) (fun hf11 => ?_)
        · refine J_iincN (pc := 36) (b := 1) dX6_stays_36 rfl (by decide) (by decide) rfl ?_
          show J X mX6_stays d kc ks 39 [some (.ref 0), some (.int (nI a)), some (.int z2), some (.int (nI (c3 + 1)))] [] w _
          refine J_goto (pc := 39) (tgt := 8) dX6_stays_39 (by decide) ?_
          exact J_sub (L' := [some (.ref 0), some (.int (nI a)), some (.int z2), some (.int (nI (c3 + 1)))]) ⟨rfl, ⟨rfl, ⟨rfl, ⟨rfl, trivial⟩⟩⟩⟩ (ihlp8_3 z2 (c3 + 1) (by first | assumption | omega) (by omega))
        · refine J_iload_n (pc := 30) dX6_stays_30 rfl rfl ?_
          refine J_iconst (pc := 31) (v := nI 1) dX6_stays_31 (by decide) ?_
          refine J_iload_n (pc := 32) dX6_stays_32 rfl rfl ?_
          refine J_ishl (pc := 33) dX6_stays_33 (J_absI fun x12 => ?_)
          refine J_ior (pc := 34) dX6_stays_34 (J_absI fun x13 => ?_)
          refine J_istore_n (pc := 35) dX6_stays_35 rfl (by decide) rfl ?_
          show J X mX6_stays d kc ks 36 [some (.ref 0), some (.int (nI a)), some (.int x13), some (.int (nI c3))] [] w _
          refine J_iincN (pc := 36) (b := 1) dX6_stays_36 rfl (by decide) (by decide) rfl ?_
          show J X mX6_stays d kc ks 39 [some (.ref 0), some (.int (nI a)), some (.int x13), some (.int (nI (c3 + 1)))] [] w _
          refine J_goto (pc := 39) (tgt := 8) dX6_stays_39 (by decide) ?_
          exact J_sub (L' := [some (.ref 0), some (.int (nI a)), some (.int x13), some (.int (nI (c3 + 1)))]) ⟨rfl, ⟨rfl, ⟨rfl, ⟨rfl, trivial⟩⟩⟩⟩ (ihlp8_3 x13 (c3 + 1) (by first | assumption | omega) (by omega))
  exact J_sub (L' := [some (.ref 0), some (.int (nI a)), some (.int (nI 0)), some (.int (nI 0))]) ⟨rfl, ⟨rfl, ⟨rfl, ⟨rfl, trivial⟩⟩⟩⟩ (lp8_3 _ (nI 0) 0 (by first | assumption | omega) (Nat.lt_succ_self _))
set_option maxRecDepth 100000 in
set_option maxHeartbeats 40000000 in
theorem c_X6_pieces_atok {X : jX} (hs : X.1.stackTraces = false) {d : Nat} (hd : 8 ≤ d) {n : Nat} {e r q : Int32} (hn1 : 2 ≤ n) (hn2 : n ≤ 7) {w : List jC} (hS : SH (rX n e r q) w) (a : Nat) (hy0 : a < 64) {kc ks : Nat} : jMet X mX6_pieces d kc ks [.ref 0, .int (nI a)] w (pI (fun _ => True) (fun w' => rS n e r q w w')) := by
  refine jMet_of hs (by decide +kernel) (Nat.le_of_ble_eq_true rfl) (L := [some (.ref 0), some (.int (nI a))]) rfl ?_
  have hG : Fr kX w w := Fr.rf
  refine J_iload_n (pc := 0) dX6_pieces_0 rfl rfl ?_
  refine J_callS0 (pc := 1) (M := mX6_pieces) (as := [.int (nI a)]) dX6_pieces_1 fw_X6_needSet fl_X6_131 fs_X6_needSet rfl (c_X6_needSet_atok hs (d := d - 1) (by omega) (w := w) a (by omega) (kc := 0) (ks := 0)) (by omega) (st := []) (Nat.le_of_ble_eq_true rfl) rfl (kr_V fun w1 hw1 => ?_) kx_V
  obtain rfl := hw1.symm
  refine J_aload_n (pc := 4) dX6_pieces_4 rfl rfl rfl ?_
  obtain ⟨_, hc2, rfl⟩ := hS 0 _ rfl
  refine J_get (pc := 5) (k := 3) dX6_pieces_5 kC7 (by decide) ff_X6_30 hc2 rfl ?_
  refine J_aload_n (pc := 8) dX6_pieces_8 rfl rfl rfl ?_
  refine J_get (pc := 9) (k := 0) dX6_pieces_9 kC7 (by decide) ff_X6_9 hc2 rfl ?_
  refine J_iload_n (pc := 12) dX6_pieces_12 rfl rfl ?_
  refine J_aload_n (pc := 13) dX6_pieces_13 rfl rfl rfl ?_
  refine J_get (pc := 14) (k := 5) dX6_pieces_14 kC7 (by decide) ff_X6_41 hc2 rfl ?_
  obtain ⟨_, hc4, ka4, rfl, hb4_0⟩ := hS 12 _ rfl
  refine J_callV0 (pc := 17) (M := mX6_pieces) (as := [.ref 1, .int (nI a), .int (nI n)]) dX6_pieces_17 fw_X4_joinComing fl_X6_187 fm_X4_joinComing fe_X4_joinComing hc4 (by decide) rfl rfl rfl (c_X4_joinComing hs (d := d - 1) (by omega) (e := e) (r := r) (q := q) hn1 hn2 hS (w := w) (nI a) (kc := 0) (ks := 0)) (by omega) (st := []) (Nat.le_of_ble_eq_true rfl) rfl (kr_V fun w3 hw3 => ?_) kx_V
  obtain ⟨hS3, hF3⟩ := hw3
  have hG3 := hG.tr hF3
  refine J_aload_n (pc := 20) dX6_pieces_20 rfl rfl rfl ?_
  obtain ⟨_, hc5, rfl⟩ := hS3 0 _ rfl
  refine J_get (pc := 21) (k := 3) dX6_pieces_21 kC7 (by decide) ff_X6_30 hc5 rfl ?_
  obtain ⟨_, hc7, ka7, rfl, hb7_0⟩ := hS3 12 _ rfl
  refine J_callV0 (pc := 24) (M := mX6_pieces) (as := []) dX6_pieces_24 fw_X4_parts fl_X6_193 fm_X4_parts fe_X4_parts hc7 (by decide) rfl rfl rfl (c_X4_parts hs (d := d - 1) (by omega) (e := e) (r := r) (q := q) hn1 hn2 hS3 (w := w3)  (kc := 0) (ks := 0)) (by omega) (st := []) (Nat.le_of_ble_eq_true rfl) rfl (kr_P fun v6 hv6 => ?_) kx_I
  exact J_iret (pc := 27) dX6_pieces_27 rfl ⟨trivial, ⟨hS3, hG3⟩⟩
set_option maxRecDepth 100000 in
set_option maxHeartbeats 40000000 in
theorem c_X6_house_atok {X : jX} (hs : X.1.stackTraces = false) {d : Nat} (hd : 4 ≤ d) {n : Nat} {e r q : Int32} (hn1 : 2 ≤ n) (hn2 : n ≤ 7) {w : List jC} (hS : SH (rX n e r q) w) (a : Nat) (hy0 : a ≤ 2) {kc ks : Nat} : jMet X mX6_house d kc ks [.ref 0, .int (nI a)] w (pI (fun _ => True) (fun w' => w' = w)) := by
  refine jMet_of hs (by decide +kernel) (Nat.le_of_ble_eq_true rfl) (L := [some (.ref 0), some (.int (nI a))]) rfl ?_
  have hG : Fr kX w w := Fr.rf
  refine J_iload_n (pc := 0) dX6_house_0 rfl rfl ?_
  refine J_iconst (pc := 1) (v := nI 0) dX6_house_1 (by decide) ?_
  refine J_iconst (pc := 2) (v := nI 2) dX6_house_2 (by decide) ?_
  refine J_callS0 (pc := 3) (M := mX6_house) (as := [.int (nI a), .int (nI 0), .int (nI 2)]) dX6_house_3 fw_X6_needBetween fl_X6_63 fs_X6_needBetween rfl (c_X6_needBetween_atok hs (d := d - 1) (by omega) (w := w) a 0 2 (by omega) (by omega) (by omega) (kc := 0) (ks := 0)) (by omega) (st := []) (Nat.le_of_ble_eq_true rfl) rfl (kr_V fun w1 hw1 => ?_) kx_V
  obtain rfl := hw1.symm
  refine J_iload_n (pc := 6) dX6_house_6 rfl rfl ?_
  refine J_if_neN (pc := 7) (tgt := 15) dX6_house_7 (by decide) (by omega) (fun ht2 => ?_) (fun hf3 => ?_)
  · refine J_iload_n (pc := 15) dX6_house_15 rfl rfl ?_
    refine J_iconst (pc := 16) (v := nI 1) dX6_house_16 (by decide) ?_
    refine J_icmp_neN (pc := 17) (tgt := 27) dX6_house_17 (by decide) (by omega) (by omega) (fun ht4 => ?_) (fun hf5 => ?_)
    · refine J_aload_n (pc := 27) dX6_house_27 rfl rfl rfl ?_
      obtain ⟨_, hc6, rfl⟩ := hS 0 _ rfl
      refine J_get (pc := 28) (k := 8) dX6_house_28 kC7 (by decide) ff_X6_51 hc6 rfl ?_
      exact J_iret (pc := 31) dX6_house_31 rfl ⟨trivial, rfl⟩
    · refine J_aload_n (pc := 20) dX6_house_20 rfl rfl rfl ?_
      obtain ⟨_, hc7, rfl⟩ := hS 0 _ rfl
      refine J_get (pc := 21) (k := 7) dX6_house_21 kC7 (by decide) ff_X6_48 hc7 rfl ?_
      refine J_goto (pc := 24) (tgt := 31) dX6_house_24 (by decide) ?_
      exact J_iret (pc := 31) dX6_house_31 rfl ⟨trivial, rfl⟩
  · refine J_aload_n (pc := 10) dX6_house_10 rfl rfl rfl ?_
    obtain ⟨_, hc8, rfl⟩ := hS 0 _ rfl
    refine J_get (pc := 11) (k := 6) dX6_house_11 kC7 (by decide) ff_X6_45 hc8 rfl ?_
    exact J_iret (pc := 14) dX6_house_14 rfl ⟨trivial, rfl⟩
