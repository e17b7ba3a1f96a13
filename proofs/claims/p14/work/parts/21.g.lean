/-! the reference's gcd -/
set_option maxRecDepth 100000 in
set_option maxHeartbeats 4000000 in
theorem gcd_gen {X : jX} (hs : X.1.stackTraces = false) {w : List jC} : ∀ (B c a d : Nat), c < B → c ≤ 7 → a < 2 ^ 31 → B ≤ d → jMet X mX8_gcd d 0 0 [.int (nI a), .int (nI c)] w (pI (fun v => v = nI (Nat.gcd a c)) (fun w' => w' = w)) := by
  intro B
  induction B with
  | zero => intro c a d h; omega
  | succ B ih =>
    intro c a d hB hc ha hd
    refine jMet_of hs (by decide +kernel) (Nat.le_of_ble_eq_true rfl) (L := [some (.int (nI a)), some (.int (nI c))]) rfl ?_
    refine J_iload_n (pc := 0) dX8_gcd_0 rfl rfl ?_
    refine J_if_neN (pc := 1) (tgt := 8) dX8_gcd_1 (by decide) (by omega) (fun h => ?_) (fun h => ?_)
    · have hm := Nat.mod_lt a (show 0 < c by omega)
      refine J_iload_n (pc := 8) dX8_gcd_8 rfl rfl ?_
      refine J_iload_n (pc := 9) dX8_gcd_9 rfl rfl ?_
      refine J_iload_n (pc := 10) dX8_gcd_10 rfl rfl ?_
      refine J_iremN (pc := 11) dX8_gcd_11 (by omega) (by omega) (by omega) ?_
      refine J_callS0 (pc := 12) (M := mX8_gcd) (as := [.int (nI c), .int (nI (a % c))]) dX8_gcd_12 fw_X8_gcd fl_X8_57 fs_X8_gcd rfl (ih (a % c) c (d - 1) (by omega) (by omega) (by omega) (by omega)) (by omega) (st := []) (Nat.le_of_ble_eq_true rfl) rfl (kr_P fun v hv => ?_) kx_I
      refine J_iret (pc := 15) dX8_gcd_15 rfl ⟨?_, rfl⟩
      rw [hv, Nat.gcd_comm a c, Nat.gcd_rec c a, Nat.gcd_comm]
    · subst h
      refine J_iload_n (pc := 4) dX8_gcd_4 rfl rfl ?_
      refine J_goto (pc := 5) (tgt := 15) dX8_gcd_5 (by decide) ?_
      refine J_iret (pc := 15) dX8_gcd_15 rfl ⟨?_, rfl⟩
      rw [Nat.gcd_zero_right]
theorem c_X8_gcd {X : jX} (hs : X.1.stackTraces = false) {d : Nat} (hd : 8 ≤ d) {w : List jC} (a c : Nat) (hy0 : a < 2 ^ 31) (hy1 : c ≤ 7) {kc ks : Nat} : jMet X mX8_gcd d 0 0 [.int (nI a), .int (nI c)] w (pI (fun v => v = nI (Nat.gcd a c)) (fun w' => w' = w)) :=
  gcd_gen hs 8 c a d (by omega) hy1 hy0 hd
