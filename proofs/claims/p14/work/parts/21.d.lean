/-! still more: the lowest bit, how many bits, sets -/
def ntz4 (c m : Nat) : Nat := c + m / 2 ^ 1
def ntz3 (c m : Nat) : Nat := if 4 < m then ntz4 (c + 2) (m / 2 ^ 2) else ntz4 c m
def ntz2 (c m : Nat) : Nat := if 16 < m then ntz3 (c + 4) (m / 2 ^ 4) else ntz3 c m
def ntz1 (c m : Nat) : Nat := if 256 < m then ntz2 (c + 8) (m / 2 ^ 8) else ntz2 c m
def ntz0 (c m : Nat) : Nat := if 65536 < m then ntz1 (c + 16) (m / 2 ^ 16) else ntz1 c m
def ntz (m : Nat) : Nat := if 0 < m then ntz0 1 m else 0
theorem ntz_2 : ∀ t, t < 32 → ntz (2 ^ t - 1) = t := by decide +kernel
theorem tz_of {a : Int32} (h : ¬ a = 0) : ∃ t m : Nat, t < 32 ∧ a.toBitVec.getLsbD t = true ∧ ((a ^^^ (-1)) &&& (a - nI 1)) = nI m ∧ m < 2 ^ 31 ∧ ntz m = t := by
  have h1 : ∃ t, t < 32 ∧ a.toBitVec.getLsbD t = true := by
    refine Classical.byContradiction fun hn => h ?_
    apply Int32.toBitVec_inj.mp
    apply BitVec.eq_of_getLsbD_eq
    intro i hi
    have : ¬ a.toBitVec.getLsbD i = true := fun e => hn ⟨i, hi, e⟩
    rw [Bool.not_eq_true _ |>.mp this]
    show false = (0#32).getLsbD i
    simp
  obtain ⟨t0, ht0, hb0⟩ := h1
  obtain ⟨t, hl, ⟨ht, hb⟩, hmin⟩ := least (P := fun t => t < 32 ∧ a.toBitVec.getLsbD t = true) t0 ⟨ht0, hb0⟩
  have hm31 : 2 ^ t - 1 < 2 ^ 31 := by
    have : 2 ^ t ≤ 2 ^ 31 := Nat.pow_le_pow_right (by decide) (by omega)
    omega
  refine ⟨t, 2 ^ t - 1, ht, hb, ?_, hm31, ntz_2 t ht⟩
  apply Int32.toBitVec_inj.mp
  apply BitVec.eq_of_getLsbD_eq
  intro i hi
  have e1 : ((a ^^^ (-1)) &&& (a - nI 1)).toBitVec = (~~~ a.toBitVec) &&& (~~~ (- a.toBitVec)) := by
    rw [BitVec.not_neg]
    show (a.toBitVec ^^^ (-1#32)) &&& (a.toBitVec - 1#32) = _
    rw [show (-1#32) = BitVec.allOnes 32 by decide, BitVec.xor_allOnes]
  rw [e1]
  show _ = (BitVec.ofNat 32 (2 ^ t - 1)).getLsbD i
  rw [BitVec.getLsbD_ofNat, Nat.testBit_two_pow_sub_one, BitVec.getLsbD_and, BitVec.getLsbD_not, BitVec.getLsbD_not, BitVec.getLsbD_neg]
  simp only [hi, decide_true, Bool.true_and]
  by_cases e : i < t
  · have h0 : a.toBitVec.getLsbD i = false := Bool.not_eq_true _ |>.mp fun x => hmin i e ⟨by omega, x⟩
    have h2 : ¬ ∃ j, j < i ∧ a.toBitVec.getLsbD j = true := fun ⟨j, hj, x⟩ => hmin j (by omega) ⟨by omega, x⟩
    simp [h0, h2, e]
  · by_cases e2 : i = t
    · subst e2
      simp [hb]
    · have h2 : ∃ j, j < i ∧ a.toBitVec.getLsbD j = true := ⟨t, by omega, hb⟩
      simp only [e, decide_false]
      simp only [h2, decide_true]
      cases a.toBitVec.getLsbD i <;> rfl
theorem bitL_at {g : List Int32} {w r : Nat} (hr : r < 32) : bitL g (32 * w + r) = (g.getD w 0).toBitVec.getLsbD r := by
  unfold bitL
  rw [show (32 * w + r) / 32 = w by omega, show (32 * w + r) % 32 = r by omega]
theorem and_bits {g h : List Int32} {w r : Nat} (hw : w < 158) (hr : r < 32) (hb : (g.getD (nI w).toNatClampNeg 0 &&& (h.getD (nI w).toNatClampNeg 0 ^^^ (-1))).toBitVec.getLsbD r = true) : bitL g (32 * w + r) = true ∧ bitL h (32 * w + r) = false := by
  rw [nI_clamp (by omega)] at hb
  rw [bitL_at hr, bitL_at hr]
  have e : (g.getD w 0 &&& (h.getD w 0 ^^^ (-1))).toBitVec = (g.getD w 0).toBitVec &&& ~~~ (h.getD w 0).toBitVec := by
    show (g.getD w 0).toBitVec &&& ((h.getD w 0).toBitVec ^^^ (-1#32)) = _
    rw [show (-1#32) = BitVec.allOnes 32 by decide, BitVec.xor_allOnes]
  rw [e, BitVec.getLsbD_and, BitVec.getLsbD_not] at hb
  simp only [hr, decide_true, Bool.true_and, Bool.and_eq_true, Bool.not_eq_true'] at hb
  exact hb
theorem cz_set2 {w r : Nat} {g : List Int32} (hw : w < 158) (hl : g.length = 158) (hr : r < 32) (h : bitL g (32 * w + r) = false) : cz (g.set (nI w).toNatClampNeg (g.getD (nI w).toNatClampNeg 0 ||| nI 1 <<< (nI r &&& 31))) < cz g := by
  rw [nI_clamp (by omega)]
  unfold cz
  refine cnt_lt 5056 (fun i _ hi => ?_) (32 * w + r) (by omega) (by rw [h]; rfl) (by rw [bitL_or (by omega) hr]; simp)
  rw [bitL_or (by omega) hr] at hi
  cases e : bitL g i
  · rfl
  · rw [e] at hi
    simp at hi
theorem c0 : (nI 0).toNatClampNeg = 0 := by decide
theorem BU_1 {m : Nat} (hm : 0 < m) : BU m ((List.replicate 158 0).set (nI 0).toNatClampNeg (nI 1)) := by
  intro k hk
  rw [c0, bitL_1 (by decide)] at hk
  have := of_decide_eq_true hk
  omega
theorem bitL_10 : bitL ((List.replicate 158 0).set (nI 0).toNatClampNeg (nI 1)) 0 = true := by
  rw [c0, bitL_1 (by decide)]
  rfl
theorem en_or {e k : Nat} (he : e < 64) (hk : k < 6) : ∃ e', e' < 64 ∧ (nI e ||| (nI 1 <<< (nI k &&& 31))) = nI e' := by
  rw [pk_shlN (n := 1) _ k (sh_of (by omega)) (by rw [Nat.one_mul]; exact Nat.pow_lt_pow_right (by decide) (by omega)), Nat.one_mul]
  have h2 : 2 ^ k < 64 := by
    have : 2 ^ k < 2 ^ 6 := Nat.pow_lt_pow_right (by decide) hk
    omega
  refine ⟨e ||| 2 ^ k, Nat.or_lt_two_pow (n := 6) he h2, ?_⟩
  apply Int32.toBitVec_inj.mp
  show BitVec.ofNat 32 e ||| BitVec.ofNat 32 (2 ^ k) = BitVec.ofNat 32 (e ||| 2 ^ k)
  apply BitVec.eq_of_toNat_eq
  have h3 : e ||| 2 ^ k < 64 := Nat.or_lt_two_pow (n := 6) he h2
  rw [BitVec.toNat_or, BitVec.toNat_ofNat, BitVec.toNat_ofNat, BitVec.toNat_ofNat, Nat.mod_eq_of_lt (by omega), Nat.mod_eq_of_lt (by omega), Nat.mod_eq_of_lt (by omega)]
theorem KB_of {n s : Nat} {kn : Int32} {bt : List Int32} (h : KB n kn bt) (e : kn = nI s) (hs : s < 64) : BT n bt := by
  rcases h with h | h
  · rw [e] at h
    have h2 := nI_pos' (n := s) (by omega)
    rw [h] at h2
    exact absurd h2 (by decide)
  · exact h
theorem cnt_split (P : Nat → Bool) (a : Nat) : ∀ b, cnt P (a + b) = cnt P a + cnt (fun i => P (a + i)) b
  | 0 => rfl
  | b + 1 => by
    show cnt P (a + b) + (if P (a + b) = true then 1 else 0) = cnt P a + (cnt (fun i => P (a + i)) b + (if P (a + b) = true then 1 else 0))
    rw [cnt_split P a b]
    omega
/-- how many bits of a word are set -/
def pc32 (a : Int32) : Nat := cnt (fun i => a.toBitVec.getLsbD i) 32
theorem cnt_word (g : List Int32) {w : Nat} (hw : w < 158) : cnt (bitL g) (32 * w) + pc32 (g.getD (nI w).toNatClampNeg 0) = cnt (bitL g) (32 * (w + 1)) := by
  rw [nI_clamp (by omega), show 32 * (w + 1) = 32 * w + 32 by omega, cnt_split]
  congr 1
  exact cnt_add 32 (fun i hi => (bitL_at hi).symm)
theorem and_sp (x y : Nat) : x &&& y = (x % 256 &&& y % 256) + 256 * (x / 256 &&& y / 256) := by
  have h1 : (x &&& y) % 2 ^ 8 = x % 2 ^ 8 &&& y % 2 ^ 8 := Nat.and_mod_two_pow ..
  have h2 : (x &&& y) / 2 ^ 8 = x / 2 ^ 8 &&& y / 2 ^ 8 := Nat.and_div_two_pow ..
  have h3 := Nat.mod_add_div (x &&& y) (2 ^ 8)
  rw [h1, h2] at h3
  exact h3.symm
theorem and4 (x m : Nat) (hm : m < 256) : x &&& (m + 256 * (m + 256 * (m + 256 * m))) = (x % 256 &&& m) + 256 * ((x / 256 % 256 &&& m) + 256 * ((x / 256 / 256 % 256 &&& m) + 256 * (x / 256 / 256 / 256 % 256 &&& m))) := by
  rw [and_sp x, show (m + 256 * (m + 256 * (m + 256 * m))) % 256 = m by omega, show (m + 256 * (m + 256 * (m + 256 * m))) / 256 = m + 256 * (m + 256 * m) by omega,
    and_sp (x / 256), show (m + 256 * (m + 256 * m)) % 256 = m by omega, show (m + 256 * (m + 256 * m)) / 256 = m + 256 * m by omega,
    and_sp (x / 256 / 256), show (m + 256 * m) % 256 = m by omega, show (m + 256 * m) / 256 = m by omega,
    and_sp (x / 256 / 256 / 256) m, Nat.mod_eq_of_lt hm, Nat.div_eq_of_lt hm, Nat.and_zero]
  omega
def b1 (u : Nat) : Nat := u / 2 &&& 85
def b2 (u : Nat) : Nat := (u - b1 u &&& 51) + ((u - b1 u) / 4 &&& 51)
def b3 (u : Nat) : Nat := b2 u % 16 + b2 u / 16
theorem b1_le : ∀ u, u < 256 → b1 u ≤ u := by decide +kernel
theorem b2_le : ∀ u, u < 256 → b2 u % 16 ≤ 4 ∧ b2 u / 16 ≤ 4 := by decide +kernel
theorem b3_eq : ∀ u, u < 256 → b3 u = cnt (fun i => u.testBit i) 8 := by decide +kernel
theorem m85 : ∀ u, u < 256 → u &&& 85 = u % 128 &&& 85 := by decide +kernel
theorem m51 : ∀ u, u < 256 → u &&& 51 = u % 64 &&& 51 := by decide +kernel
theorem m15 : ∀ u, u < 256 → u &&& 15 = u % 16 := by decide +kernel
/-- the law of bitCount, over naturals -/
def bc1 (x : Nat) : Nat := x - (x / 2 ^ 1 &&& 1431655765)
def bc2 (x : Nat) : Nat := (x &&& 858993459) + (x / 2 ^ 2 &&& 858993459)
def bc3 (x : Nat) : Nat := x + x / 2 ^ 4 &&& 252645135
theorem bc_eq {a b c e : Nat} (ha : a < 256) (hb : b < 256) (hc : c < 256) (he : e < 256) :
    (a + 256 * (b + 256 * (c + 256 * e))) / 2 ^ 1 &&& 1431655765 ≤ a + 256 * (b + 256 * (c + 256 * e)) ∧
    bc3 (bc2 (bc1 (a + 256 * (b + 256 * (c + 256 * e))))) = b3 a + 256 * (b3 b + 256 * (b3 c + 256 * b3 e)) := by
  have ha1 := b1_le a ha
  have hb1 := b1_le b hb
  have hc1 := b1_le c hc
  have he1 := b1_le e he
  have h1 : (a + 256 * (b + 256 * (c + 256 * e))) / 2 ^ 1 &&& 1431655765 = b1 a + 256 * (b1 b + 256 * (b1 c + 256 * b1 e)) := by
    rw [show (1431655765 : Nat) = 85 + 256 * (85 + 256 * (85 + 256 * 85)) by decide, and4 _ 85 (by decide)]
    generalize hx : (a + 256 * (b + 256 * (c + 256 * e))) / 2 ^ 1 = x
    have g1 : x % 256 &&& 85 = b1 a := by rw [m85 _ (by omega)]; unfold b1; rw [m85 (a / 2) (by omega)]; congr 1; omega
    have g2 : x / 256 % 256 &&& 85 = b1 b := by rw [m85 _ (by omega)]; unfold b1; rw [m85 (b / 2) (by omega)]; congr 1; omega
    have g3 : x / 256 / 256 % 256 &&& 85 = b1 c := by rw [m85 _ (by omega)]; unfold b1; rw [m85 (c / 2) (by omega)]; congr 1; omega
    have g4 : x / 256 / 256 / 256 % 256 &&& 85 = b1 e := by rw [m85 _ (by omega)]; unfold b1; rw [m85 (e / 2) (by omega)]; congr 1; omega
    rw [g1, g2, g3, g4]
  have h1b : bc1 (a + 256 * (b + 256 * (c + 256 * e))) = (a - b1 a) + 256 * ((b - b1 b) + 256 * ((c - b1 c) + 256 * (e - b1 e))) := by
    unfold bc1
    rw [h1]
    omega
  refine ⟨by rw [h1]; omega, ?_⟩
  rw [h1b]
  have ka := b2_le a ha
  have kb := b2_le b hb
  have kc := b2_le c hc
  have ke := b2_le e he
  have h2 : bc2 ((a - b1 a) + 256 * ((b - b1 b) + 256 * ((c - b1 c) + 256 * (e - b1 e)))) = b2 a + 256 * (b2 b + 256 * (b2 c + 256 * b2 e)) := by
    unfold bc2
    rw [show (858993459 : Nat) = 51 + 256 * (51 + 256 * (51 + 256 * 51)) by decide, and4 _ 51 (by decide), and4 _ 51 (by decide)]
    generalize hy : (a - b1 a) + 256 * ((b - b1 b) + 256 * ((c - b1 c) + 256 * (e - b1 e))) = y
    generalize hx : y / 2 ^ 2 = x
    have f1 : y % 256 = a - b1 a := by omega
    have f2 : y / 256 % 256 = b - b1 b := by omega
    have f3 : y / 256 / 256 % 256 = c - b1 c := by omega
    have f4 : y / 256 / 256 / 256 % 256 = e - b1 e := by omega
    have g1 : x % 256 &&& 51 = (a - b1 a) / 4 &&& 51 := by rw [m51 _ (by omega), m51 ((a - b1 a) / 4) (by omega)]; congr 1; omega
    have g2 : x / 256 % 256 &&& 51 = (b - b1 b) / 4 &&& 51 := by rw [m51 _ (by omega), m51 ((b - b1 b) / 4) (by omega)]; congr 1; omega
    have g3 : x / 256 / 256 % 256 &&& 51 = (c - b1 c) / 4 &&& 51 := by rw [m51 _ (by omega), m51 ((c - b1 c) / 4) (by omega)]; congr 1; omega
    have g4 : x / 256 / 256 / 256 % 256 &&& 51 = (e - b1 e) / 4 &&& 51 := by rw [m51 _ (by omega), m51 ((e - b1 e) / 4) (by omega)]; congr 1; omega
    rw [g1, g2, g3, g4, f1, f2, f3, f4]
    unfold b2
    omega
  rw [h2]
  unfold bc3
  rw [show (252645135 : Nat) = 15 + 256 * (15 + 256 * (15 + 256 * 15)) by decide, and4 _ 15 (by decide)]
  generalize hy : b2 a + 256 * (b2 b + 256 * (b2 c + 256 * b2 e)) = y
  generalize hx : y + y / 2 ^ 4 = x
  obtain ⟨p0, h0⟩ : ∃ p, p = b2 a + b2 a / 16 + 16 * (b2 b % 16) := ⟨_, rfl⟩
  obtain ⟨p1, h1'⟩ : ∃ p, p = b2 b + b2 b / 16 + 16 * (b2 c % 16) := ⟨_, rfl⟩
  obtain ⟨p2, h2'⟩ : ∃ p, p = b2 c + b2 c / 16 + 16 * (b2 e % 16) := ⟨_, rfl⟩
  obtain ⟨p3, h3'⟩ : ∃ p, p = b2 e + b2 e / 16 := ⟨_, rfl⟩
  have hx' : x = p0 + 256 * (p1 + 256 * (p2 + 256 * p3)) := by
    have e1 : y / 2 ^ 4 = b2 a / 16 + 16 * (b2 b % 16) + 256 * (b2 b / 16 + 16 * (b2 c % 16) + 256 * (b2 c / 16 + 16 * (b2 e % 16) + 256 * (b2 e / 16))) := by
      have t1 : y / 2 ^ 4 = b2 a / 16 + 16 * (b2 b + 256 * (b2 c + 256 * b2 e)) := by omega
      rw [t1]
      omega
    rw [← hx, e1, ← hy]
    omega
  clear hx hy
  unfold b3
  have q1 : x % 256 = p0 := by omega
  have q2 : x / 256 = p1 + 256 * (p2 + 256 * p3) := by omega
  have q3 : (p1 + 256 * (p2 + 256 * p3)) % 256 = p1 := by omega
  have q4 : (p1 + 256 * (p2 + 256 * p3)) / 256 = p2 + 256 * p3 := by omega
  have q5 : (p2 + 256 * p3) % 256 = p2 := by omega
  have q6 : (p2 + 256 * p3) / 256 = p3 := by omega
  have q7 : p3 % 256 = p3 := by omega
  rw [q1, q2, q3, q4, q5, q6, q7, m15 p0 (by omega), m15 p1 (by omega), m15 p2 (by omega), m15 p3 (by omega)]
  have r0 : p0 % 16 = b2 a % 16 + b2 a / 16 := by omega
  have r1 : p1 % 16 = b2 b % 16 + b2 b / 16 := by omega
  have r2 : p2 % 16 = b2 c % 16 + b2 c / 16 := by omega
  have r3 : p3 % 16 = b2 e % 16 + b2 e / 16 := by omega
  rw [r0, r1, r2, r3]
theorem cnt8 (x : Nat) (k : Nat) : cnt (fun i => x.testBit (k + i)) 8 = cnt (fun i => (x / 2 ^ k % 256).testBit i) 8 := by
  refine cnt_add 8 (fun i hi => ?_)
  show x.testBit (k + i) = (x / 2 ^ k % 2 ^ 8).testBit i
  rw [Nat.testBit_mod_two_pow, Nat.testBit_div_two_pow]
  simp only [hi, decide_true, Bool.true_and]
  rw [Nat.add_comm]
theorem bc_all {x : Nat} (hx : x < 2 ^ 32) : (x / 2 ^ 1 &&& 1431655765) ≤ x ∧ ∃ y, bc3 (bc2 (bc1 x)) = y ∧ y < 2 ^ 28 ∧ (y + y / 2 ^ 8 + (y + y / 2 ^ 8) / 2 ^ 16) % 64 = cnt (fun i => x.testBit i) 32 := by
  obtain ⟨h1, h2⟩ := bc_eq (a := x % 256) (b := x / 256 % 256) (c := x / 256 / 256 % 256) (e := x / 256 / 256 / 256) (by omega) (by omega) (by omega) (by omega)
  have hx4 : x % 256 + 256 * (x / 256 % 256 + 256 * (x / 256 / 256 % 256 + 256 * (x / 256 / 256 / 256))) = x := by omega
  rw [hx4] at h1 h2
  have s1 : cnt (fun i => x.testBit i) 32 = b3 (x % 256) + b3 (x / 256 % 256) + b3 (x / 256 / 256 % 256) + b3 (x / 256 / 256 / 256) := by
    have e0 := cnt8 x 0
    have e1 := cnt8 x 8
    have e2 := cnt8 x 16
    have e3 := cnt8 x 24
    have t1 := cnt_split (fun i => x.testBit i) 24 8
    have t2 := cnt_split (fun i => x.testBit i) 16 8
    have t3 := cnt_split (fun i => x.testBit i) 8 8
    rw [b3_eq _ (by omega), b3_eq _ (by omega), b3_eq _ (by omega), b3_eq _ (by omega)]
    have p1 : x / 2 ^ 8 = x / 256 := rfl
    have p2 : x / 2 ^ 16 = x / 256 / 256 := by omega
    have p3 : x / 2 ^ 24 % 256 = x / 256 / 256 / 256 := by omega
    rw [p1] at e1
    rw [p2] at e2
    rw [p3] at e3
    rw [← e1, ← e2, ← e3]
    have e0' : cnt (fun i => x.testBit i) 8 = cnt (fun i => (x % 256).testBit i) 8 := by
      have : (fun i => x.testBit (0 + i)) = fun i => x.testBit i := by
        funext i
        rw [Nat.zero_add]
      rw [this] at e0
      simpa using e0
    rw [← e0']
    show cnt (fun i => x.testBit i) (24 + 8) = _
    rw [t1]
    show cnt (fun i => x.testBit i) (16 + 8) + _ = _
    rw [t2]
    show cnt (fun i => x.testBit i) (8 + 8) + _ + _ = _
    rw [t3]
  have k0 : b3 (x % 256) ≤ 8 := by have := b2_le (x % 256) (by omega); unfold b3; omega
  have k1 : b3 (x / 256 % 256) ≤ 8 := by have := b2_le (x / 256 % 256) (by omega); unfold b3; omega
  have k2 : b3 (x / 256 / 256 % 256) ≤ 8 := by have := b2_le (x / 256 / 256 % 256) (by omega); unfold b3; omega
  have k3 : b3 (x / 256 / 256 / 256) ≤ 8 := by have := b2_le (x / 256 / 256 / 256) (by omega); unfold b3; omega
  refine ⟨h1, _, h2, by omega, ?_⟩
  rw [s1]
  generalize b3 (x % 256) = p0 at *
  generalize b3 (x / 256 % 256) = p1 at *
  generalize b3 (x / 256 / 256 % 256) = p2 at *
  generalize b3 (x / 256 / 256 / 256) = p3 at *
  have e1 : (p0 + 256 * (p1 + 256 * (p2 + 256 * p3))) / 2 ^ 8 = p1 + 256 * (p2 + 256 * p3) := by omega
  rw [e1]
  have e2 : (p0 + 256 * (p1 + 256 * (p2 + 256 * p3)) + (p1 + 256 * (p2 + 256 * p3))) / 2 ^ 16 = p2 + p3 + 256 * p3 := by omega
  rw [e2]
  omega
theorem pc32_nI {x : Nat} (hx : x < 2 ^ 32) : pc32 (nI x) = cnt (fun i => x.testBit i) 32 := by
  unfold pc32
  refine cnt_add 32 (fun i hi => ?_)
  show (BitVec.ofNat 32 x).getLsbD i = x.testBit i
  rw [BitVec.getLsbD_ofNat]
  simp [hi]
theorem nI_self (a : Int32) : a = nI a.toBitVec.toNat := by
  apply Int32.toBitVec_inj.mp
  show a.toBitVec = BitVec.ofNat 32 a.toBitVec.toNat
  simp
theorem and_nI {a b : Nat} (ha : a < 2 ^ 32) (hb : b < 2 ^ 32) : nI a &&& nI b = nI (a &&& b) := by
  apply Int32.toBitVec_inj.mp
  show BitVec.ofNat 32 a &&& BitVec.ofNat 32 b = BitVec.ofNat 32 (a &&& b)
  apply BitVec.eq_of_toNat_eq
  have h3 : a &&& b < 2 ^ 32 := Nat.and_lt_two_pow a hb
  rw [BitVec.toNat_and, BitVec.toNat_ofNat, BitVec.toNat_ofNat, BitVec.toNat_ofNat, Nat.mod_eq_of_lt ha, Nat.mod_eq_of_lt hb, Nat.mod_eq_of_lt h3]
section JREF2
variable {X : jX} {M : jM} {d kc ks pc : Nat} {L : List (Option Value)} {st : List Value} {w : List jC} {Q : jQ}
theorem J_iushrM {a s : Nat} (hdg : decode M.2.1 pc = .ok (.iushr, 1)) (ha : a < 2 ^ 32) (hs : (((nI s).toUInt32 &&& Int32.toUInt32 31).toBitVec % 32).toNat = s) (k : J X M d kc ks (pc + 1) L (.int (nI (a / 2 ^ s)) :: st) w Q) : J X M d kc ks pc L (.int (nI s) :: .int (nI a) :: st) w Q :=
  J_iushr hdg (by
    rw [pk_ushrN ha _ s hs]
    exact k)
theorem J_iandM {a m : Nat} (hdg : decode M.2.1 pc = .ok (.iand, 1)) (ha : a < 2 ^ 32) (hm : m < 2 ^ 32) (k : J X M d kc ks (pc + 1) L (.int (nI (a &&& m)) :: st) w Q) : J X M d kc ks pc L (.int (nI m) :: .int (nI a) :: st) w Q :=
  J_iand hdg (by
    rw [and_nI ha hm]
    exact k)
end JREF2
