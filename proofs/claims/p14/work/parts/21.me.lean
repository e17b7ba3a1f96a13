/-! the class's moves as machine numbers -/
theorem or_nI {a b : Nat} (ha : a < 2 ^ 32) (hb : b < 2 ^ 32) : nI a ||| nI b = nI (a ||| b) := by
  apply Int32.toBitVec_inj.mp
  show BitVec.ofNat 32 a ||| BitVec.ofNat 32 b = BitVec.ofNat 32 (a ||| b)
  apply BitVec.eq_of_toNat_eq
  have h3 : a ||| b < 2 ^ 32 := Nat.or_lt_two_pow ha hb
  rw [BitVec.toNat_or, BitVec.toNat_ofNat, BitVec.toNat_ofNat, BitVec.toNat_ofNat, Nat.mod_eq_of_lt ha, Nat.mod_eq_of_lt hb, Nat.mod_eq_of_lt h3]
/-- digits put in from the least on -/
theorem or_mk8 {f : Nat → Nat} (hf : ∀ p, f p < 8) (k : Nat) : mk8 f k ||| f k * 2 ^ (3 * k) = mk8 f (k + 1) := by
  show _ = mk8 f k + f k * 2 ^ (3 * k)
  rw [Nat.or_comm, Nat.mul_comm (f k), ← Nat.two_pow_add_eq_or_of_lt (mk8_lt hf k), Nat.add_comm]
theorem d8_bit (x p j : Nat) : (d8 x p).testBit j = (decide (j < 3) && x.testBit (3 * p + j)) := by
  unfold d8
  rw [Nat.testBit_mod_two_pow, Nat.testBit_div_two_pow, Nat.add_comm]
theorem bit_d8 (x i : Nat) : x.testBit i = (d8 x (i / 3)).testBit (i % 3) := by
  rw [d8_bit, decide_eq_true (Nat.mod_lt i (by decide)), Bool.true_and]
  congr 1
  omega
section JMOVE
variable {X : jX} {M : jM} {d kc ks pc : Nat} {L : List (Option Value)} {st : List Value} {w : List jC} {Q : jQ}
theorem J_ishlN {a s : Nat} (hdg : decode M.2.1 pc = .ok (.ishl, 1)) (hs : s < 32) (ha : a * 2 ^ s < 2 ^ 31) (k : J X M d kc ks (pc + 1) L (.int (nI (a * 2 ^ s)) :: st) w Q) : J X M d kc ks pc L (.int (nI s) :: .int (nI a) :: st) w Q :=
  J_ishl hdg (by
    rw [pk_shlN _ s (sh_of hs) (by omega)]
    exact k)
theorem J_iorN {a b : Nat} (hdg : decode M.2.1 pc = .ok (.ior, 1)) (ha : a < 2 ^ 31) (hb : b < 2 ^ 31) (k : J X M d kc ks (pc + 1) L (.int (nI (a ||| b)) :: st) w Q) : J X M d kc ks pc L (.int (nI b) :: .int (nI a) :: st) w Q :=
  J_ior hdg (by
    rw [or_nI (by omega) (by omega)]
    exact k)
theorem J_shlOne {s : Nat} (hdg : decode M.2.1 pc = .ok (.ishl, 1)) (hs : s < 31) (k : J X M d kc ks (pc + 1) L (.int (nI (2 ^ s)) :: st) w Q) : J X M d kc ks pc L (.int (nI s) :: .int (nI 1) :: st) w Q :=
  J_ishl hdg (by
    rw [pk_shlN (n := 1) _ s (sh_of (by omega)) (by rw [Nat.one_mul]; exact Nat.pow_lt_pow_right (by decide) (by omega)), Nat.one_mul]
    exact k)
theorem J_inv {b : Nat} (hdg : decode M.2.1 pc = .ok (.ixor, 1)) (hb : b < 2 ^ 31) (k : J X M d kc ks (pc + 1) L (.int (nI (nt b)) :: st) w Q) : J X M d kc ks pc L (.int (-1) :: .int (nI b) :: st) w Q :=
  J_ixor hdg (by
    rw [nt_nI hb]
    exact k)
theorem J_iandP {a b : Nat} (hdg : decode M.2.1 pc = .ok (.iand, 1)) (ha : a < 2 ^ 31) (hb : b < 32) (k : J X M d kc ks (pc + 1) L (.int (nI (a % 2 ^ b)) :: st) w Q) : J X M d kc ks pc L (.int (nI (2 ^ b - 1)) :: .int (nI a) :: st) w Q :=
  J_iandM hdg (by omega) (by
    have : 2 ^ b ≤ 2 ^ 31 := Nat.pow_le_pow_right (by decide) (by omega)
    omega) (by
    rw [Nat.and_two_pow_sub_one_eq_mod]
    exact k)
end JMOVE
