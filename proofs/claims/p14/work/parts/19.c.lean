/-! more pure mathematics: steps of rowOf, orders, bits -/
theorem nI_n1 (a : Nat) : nI a = nI (a + 1) + Int32.ofInt (-1) := (nI_m1 (a := a + 1) (by omega)).symm
def tV : Nat → Nat → Nat
  | 0, 0 => 0
  | _, _ => 1
def tW : Nat → Nat → Nat
  | 0, 0 => 0
  | 0, _ => 2
  | _, _ => 1
theorem ins_at {f : Nat → Nat} {p q : Nat} : ins f p q q = f q := by
  unfold ins
  rw [if_neg (by omega)]
theorem ins_step1 {f r : Nat → Nat} {p q n : Nat} (h : ∀ i, i < n → r i = ins f p q i) (hp : p < q) (hq : q < n) (hle : r p ≤ r q) : ∀ i, i < n → up r q (r q + 1) i = ins f p (q + 1) i := by
  intro i hi
  have h1 : r q = f q := (h q hq).trans ins_at
  have h2 : r p = f p := by
    rw [h p (by omega)]
    unfold ins
    rw [if_neg (by omega)]
  by_cases e : i = q
  · subst e
    rw [up_s]
    unfold ins
    rw [if_pos ⟨hp, by omega, by omega⟩, h1]
  · rw [up_n e, h i hi]
    unfold ins
    by_cases g : p < i ∧ i < q ∧ f p ≤ f i
    · rw [if_pos g, if_pos ⟨g.1, by omega, g.2.2⟩]
    · rw [if_neg g, if_neg (fun g2 => g ⟨g2.1, by omega, g2.2.2⟩)]
theorem ins_step0 {f r : Nat → Nat} {p q n : Nat} (h : ∀ i, i < n → r i = ins f p q i) (hp : p < q) (hq : q < n) (hlt : r q < r p) : ∀ i, i < n → r i = ins f p (q + 1) i := by
  intro i hi
  have h1 : r q = f q := (h q hq).trans ins_at
  have h2 : r p = f p := by
    rw [h p (by omega)]
    unfold ins
    rw [if_neg (by omega)]
  rw [h i hi]
  unfold ins
  by_cases g : p < i ∧ i < q ∧ f p ≤ f i
  · rw [if_pos g, if_pos ⟨g.1, by omega, g.2.2⟩]
  · rw [if_neg g, if_neg]
    intro g2
    by_cases e : i = q
    · subst e
      omega
    · exact g ⟨g2.1, by omega, g2.2.2⟩
theorem dvd420 : ∀ r, r < 8 → 1 ≤ r → r ∣ 420 := by decide
theorem ord_step {y r : Nat} (h1 : 1 ≤ y) (h2 : y ∣ 420) (hr : 1 ≤ r) (hr7 : r ≤ 7) : 0 < Nat.gcd y r ∧ 1 ≤ y / Nat.gcd y r * r ∧ y / Nat.gcd y r * r ∣ 420 := by
  have hg : 0 < Nat.gcd y r := Nat.gcd_pos_of_pos_left _ h1
  have e : y / Nat.gcd y r * r = Nat.lcm y r := by
    unfold Nat.lcm
    rw [Nat.div_mul_right_comm (Nat.gcd_dvd_left y r)]
  refine ⟨hg, ?_, ?_⟩
  · rw [e]
    exact Nat.lcm_pos h1 hr
  · rw [e]
    exact Nat.lcm_dvd h2 (dvd420 r (by omega) hr)
/-! bits -/
def bitL (g : List Int32) (k : Nat) : Bool := (g.getD (k / 32) 0).toBitVec.getLsbD (k % 32)
theorem par_bit (y : BitVec 32) : y.toNat % 2 ^ 1 = 1 ↔ y.getLsbD 0 = true := by
  show y.toNat % 2 = 1 ↔ y.toNat.testBit 0 = true
  rw [Nat.testBit_zero]
  simp
theorem bit_eq (g : List Int32) {k : Nat} (hk : k < 2 ^ 31) : (g.getD (nI (k / 2 ^ 5)).toNatClampNeg 0 >>> (nI (k % 2 ^ 5) &&& 31)) &&& nI 1 = nI 1 ↔ bitL g k = true := by
  have h5 : k % 2 ^ 5 < 32 := Nat.mod_lt _ (by decide)
  rw [nI_clamp (by omega), pk_and _ 1 (m := nI 1) (by decide), nI_eq (by omega) (by decide), par_bit, Int32.toBitVec_shiftRight, BitVec.sshiftRight_eq', sh_of h5, BitVec.getLsbD_sshiftRight]
  unfold bitL
  simp [h5]
theorem shl_bit {r : Nat} (h : r < 32) (i : Nat) (hi : i < 32) : (nI 1 <<< (nI r &&& 31)).toBitVec.getLsbD i = decide (r = i) := by
  rw [pk_shlN (n := 1) _ r (sh_of h) (by rw [Nat.one_mul]; exact Nat.pow_lt_pow_right (by decide) h), Nat.one_mul]
  show (BitVec.ofNat 32 (2 ^ r)).getLsbD i = _
  rw [BitVec.getLsbD_ofNat, Nat.testBit_two_pow]
  simp [hi]
/-- a bit is set -/
theorem bitL_or {g : List Int32} {j r : Nat} (hj : j < g.length) (hr : r < 32) (k : Nat) : bitL (g.set j (g.getD j 0 ||| nI 1 <<< (nI r &&& 31))) k = (bitL g k || decide (k = 32 * j + r)) := by
  unfold bitL
  have hk : k % 32 < 32 := Nat.mod_lt _ (by decide)
  rw [List.getD_eq_getElem?_getD, List.getElem?_set]
  by_cases e : j = k / 32
  · rw [if_pos e, if_pos hj]
    subst e
    show (g.getD (k / 32) 0 ||| nI 1 <<< (nI r &&& 31)).toBitVec.getLsbD (k % 32) = _
    rw [Int32.toBitVec_or, BitVec.getLsbD_or, shl_bit hr _ hk]
    congr 1
    have : (r = k % 32) ↔ (k = 32 * (k / 32) + r) := by omega
    simp only [this]
  · rw [if_neg e, ← List.getD_eq_getElem?_getD]
    have : ¬ k = 32 * j + r := by omega
    simp [this]
theorem bitL_or' {g : List Int32} {m : Nat} (hm : m < 5056) (hl : g.length = 158) (k : Nat) : bitL (g.set (nI (m / 2 ^ 5)).toNatClampNeg (g.getD (nI (m / 2 ^ 5)).toNatClampNeg 0 ||| nI 1 <<< (nI (m % 2 ^ 5) &&& 31))) k = (bitL g k || decide (k = m)) := by
  rw [nI_clamp (by omega), bitL_or (by omega) (Nat.mod_lt _ (by decide))]
  have e : 32 * (m / 2 ^ 5) + m % 2 ^ 5 = m := by omega
  rw [e]
theorem bitL_0 (n k : Nat) : bitL (List.replicate n 0) k = false := by
  unfold bitL
  rw [List.getD_eq_getElem?_getD, List.getElem?_replicate]
  split <;> simp
theorem bitL_1 {n : Nat} (hn : 0 < n) (k : Nat) : bitL ((List.replicate n 0).set 0 (nI 1)) k = decide (k = 0) := by
  have h := bitL_or (g := List.replicate n 0) (j := 0) (r := 0) (by rw [List.length_replicate]; exact hn) (by decide) k
  rw [bitL_0] at h
  have e : ((List.replicate n (0 : Int32)).getD 0 0 ||| nI 1 <<< (nI 0 &&& 31)) = nI 1 := by
    have : (List.replicate n (0 : Int32)).getD 0 0 = 0 := by
      rw [List.getD_eq_getElem?_getD, List.getElem?_replicate]
      split <;> rfl
    rw [this]
    decide
  rw [e] at h
  rw [h]
  simp
/-- all bits stand below m -/
def BU (m : Nat) (g : List Int32) : Prop := ∀ k, bitL g k = true → k < m
def BT (n : Nat) (g : List Int32) : Prop := BU (fc n) g ∧ bitL g 0 = true
def KB (n : Nat) (kn : Int32) (g : List Int32) : Prop := kn = (-1) ∨ BT n g
theorem BU.set {m j : Nat} {g : List Int32} (h : BU m g) (hj : j < m) (hj2 : j < 5056) (hl : g.length = 158) : BU m (g.set (nI (j / 2 ^ 5)).toNatClampNeg (g.getD (nI (j / 2 ^ 5)).toNatClampNeg 0 ||| nI 1 <<< (nI (j % 2 ^ 5) &&& 31))) := by
  intro k hk
  rw [bitL_or' hj2 hl] at hk
  rcases Bool.or_eq_true _ _ |>.mp hk with e | e
  · exact h k e
  · have := of_decide_eq_true e
    omega
theorem bitL_keep {j : Nat} {g : List Int32} (hj2 : j < 5056) (hl : g.length = 158) {k : Nat} (h : bitL g k = true) : bitL (g.set (nI (j / 2 ^ 5)).toNatClampNeg (g.getD (nI (j / 2 ^ 5)).toNatClampNeg 0 ||| nI 1 <<< (nI (j % 2 ^ 5) &&& 31))) k = true := by
  rw [bitL_or' hj2 hl, h]
  rfl
/-- how many bits are clear -/
def cz (g : List Int32) : Nat := cnt (fun k => !bitL g k) 5056
theorem cz_set {j : Nat} {g : List Int32} (hj2 : j < 5056) (hl : g.length = 158) (h : bitL g j = false) : cz (g.set (nI (j / 2 ^ 5)).toNatClampNeg (g.getD (nI (j / 2 ^ 5)).toNatClampNeg 0 ||| nI 1 <<< (nI (j % 2 ^ 5) &&& 31))) < cz g := by
  unfold cz
  refine cnt_lt 5056 (fun i _ hi => ?_) j hj2 (by rw [h]; rfl) (by rw [bitL_or' hj2 hl]; simp)
  rw [bitL_or' hj2 hl] at hi
  cases e : bitL g i
  · rfl
  · rw [e] at hi
    simp at hi
