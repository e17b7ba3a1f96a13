/-! the class's moves and masks, bit by bit -/
theorem d8_or (x y p : Nat) : d8 (x ||| y) p = d8 x p ||| d8 y p := by
  unfold d8
  rw [Nat.or_div_two_pow, Nat.or_mod_two_pow]
theorem d8_and (x y p : Nat) : d8 (x &&& y) p = d8 x p &&& d8 y p := by
  unfold d8
  rw [Nat.and_div_two_pow, Nat.and_mod_two_pow]
theorem d8_0 (p : Nat) : d8 0 p = 0 := by
  unfold d8
  rw [Nat.zero_div, Nat.zero_mod]
theorem d8_big {x p k : Nat} (hx : x < 2 ^ (3 * k)) (hp : k ≤ p) : d8 x p = 0 := by
  unfold d8
  rw [Nat.div_eq_of_lt (Nat.lt_of_lt_of_le hx (Nat.pow_le_pow_right (by decide) (by omega))), Nat.zero_mod]
theorem d8_put {a v p : Nat} (ha : a < 8) : d8 (a * 2 ^ (3 * v)) p = if p = v then a else 0 := by
  unfold d8
  by_cases e : p = v
  · subst e
    rw [if_pos rfl, Nat.mul_div_cancel _ (Nat.two_pow_pos _)]
    exact Nat.mod_eq_of_lt ha
  · rw [if_neg e]
    by_cases h : p < v
    · obtain ⟨j, rfl⟩ : ∃ j, v = p + 1 + j := ⟨v - (p + 1), by omega⟩
      have h1 : 2 ^ (3 * (p + 1 + j)) = 2 ^ (3 * j) * 2 ^ 3 * 2 ^ (3 * p) := by rw [← Nat.pow_add, ← Nat.pow_add]; congr 1; omega
      rw [h1, ← Nat.mul_assoc, Nat.mul_div_cancel _ (Nat.two_pow_pos _), ← Nat.mul_assoc, Nat.mul_mod_left]
    · obtain ⟨j, rfl⟩ : ∃ j, p = v + 1 + j := ⟨p - (v + 1), by omega⟩
      have h1 : 2 ^ (3 * (v + 1 + j)) = 2 ^ (3 * v) * 2 ^ (3 * j + 3) := by rw [← Nat.pow_add]; congr 1; omega
      have h2 : a * 2 ^ (3 * v) / 2 ^ (3 * (v + 1 + j)) = 0 := by
        refine Nat.div_eq_of_lt ?_
        rw [h1, Nat.mul_comm]
        refine Nat.mul_lt_mul_of_pos_left (Nat.lt_of_lt_of_le ha ?_) (Nat.two_pow_pos _)
        have h3 : 2 ^ 3 ≤ 2 ^ (3 * j + 3) := Nat.pow_le_pow_right (by decide) (by omega)
        exact h3
      rw [h2, Nat.zero_mod]
theorem put_lt {a p k : Nat} (ha : a < 8) (hp : p < k) : a * 2 ^ (3 * p) < 2 ^ (3 * k) := by
  have h1 : a * 2 ^ (3 * p) < 8 * 2 ^ (3 * p) := Nat.mul_lt_mul_of_pos_right ha (Nat.two_pow_pos _)
  have h2 := e8 p
  have h3 : 2 ^ (3 * (p + 1)) ≤ 2 ^ (3 * k) := Nat.pow_le_pow_right (by decide) (by omega)
  omega
theorem put31 {a p : Nat} (ha : a < 8) (hp : p < 8) : a * 2 ^ (3 * p) < 2 ^ 31 := Nat.lt_of_lt_of_le (put_lt ha hp) (by decide)
theorem lt31 {x : Nat} (h : x < 2 ^ (3 * 7)) : x < 2 ^ 31 := Nat.lt_of_lt_of_le h (by decide)
/-- all but those bits -/
def nt (b : Nat) : Nat := 2 ^ 32 - (b + 1)
theorem nt_bit {b : Nat} (hb : b < 2 ^ 32) (i : Nat) : (nt b).testBit i = (decide (i < 32) && !b.testBit i) := Nat.testBit_two_pow_sub_succ hb i
theorem nt_lt (b : Nat) : nt b < 2 ^ 32 := by
  unfold nt
  omega
theorem nt_nI {b : Nat} (hb : b < 2 ^ 31) : nI b ^^^ (-1) = nI (nt b) := by
  apply Int32.toBitVec_inj.mp
  apply BitVec.eq_of_getLsbD_eq
  intro i hi
  show ((BitVec.ofNat 32 b) ^^^ (-1#32)).getLsbD i = (BitVec.ofNat 32 (nt b)).getLsbD i
  rw [show (-1#32) = BitVec.allOnes 32 by decide, BitVec.xor_allOnes, BitVec.getLsbD_not, BitVec.getLsbD_ofNat, BitVec.getLsbD_ofNat, nt_bit (by omega)]
  simp [hi]
theorem nt_d8 : ∀ p, p < 8 → ∀ q, q < 8 → d8 (nt (7 * 2 ^ (3 * p))) q = if q = p then 0 else 7 := by decide +kernel
/-- a digit put in -/
def w8 (x p g : Nat) : Nat := (x &&& nt (7 * 2 ^ (3 * p))) ||| g * 2 ^ (3 * p)
theorem w8_d {x p g : Nat} (hp : p < 8) (hg : g < 8) {q : Nat} (hq : q < 8) : d8 (w8 x p g) q = if q = p then g else d8 x q := by
  unfold w8
  rw [d8_or, d8_and, nt_d8 p hp q hq, d8_put hg]
  by_cases e : q = p
  · rw [if_pos e, if_pos e, if_pos e, Nat.and_zero, Nat.zero_or]
  · rw [if_neg e, if_neg e, if_neg e, Nat.or_zero]
    exact Nat.and_two_pow_sub_one_of_lt_two_pow (n := 3) (d8_lt x q)
theorem w8_lt {x p g : Nat} (hx : x < 2 ^ (3 * 7)) (hp : p < 7) (hg : g < 8) : w8 x p g < 2 ^ (3 * 7) :=
  Nat.or_lt_two_pow (Nat.lt_of_le_of_lt Nat.and_le_left hx) (put_lt hg hp)
/-- digits put together by `or` -/
theorem or_up {f : Nat → Nat} (hf : ∀ p, f p < 8) {v a : Nat} (hv : v < 7) (ha : a < 8) (h0 : f v = 0) : mk8 f 7 ||| a * 2 ^ (3 * v) = mk8 (up f v a) 7 := by
  have hu : ∀ p, up f v a p < 8 := fun p => by
    unfold up
    split
    · exact ha
    · exact hf p
  refine d8_ext 7 _ _ (Nat.or_lt_two_pow (mk8_lt hf 7) (put_lt ha hv)) (mk8_lt hu 7) (fun p hp => ?_)
  rw [d8_or, d8_mk8 hf 7 p hp, d8_put ha, d8_mk8 hu 7 p hp]
  by_cases e : p = v
  · subst e
    rw [if_pos rfl, up_s, h0, Nat.zero_or]
  · rw [if_neg e, up_n e, Nat.or_zero]
theorem mk8_0 : ∀ k, mk8 (fun _ => 0) k = 0
  | 0 => rfl
  | k + 1 => by
    show mk8 (fun _ => 0) k + 0 * 2 ^ (3 * k) = 0
    rw [mk8_0 k, Nat.zero_mul]
/-! a move done behind another one, undone, often -/
def c7 (x y : Nat) : Nat := mk8 (fun p => d8 y (d8 x p)) 7
theorem c7_lt (x y : Nat) : c7 x y < 2 ^ (3 * 7) := mk8_lt (fun _ => d8_lt _ _) 7
theorem c7_d {x y p : Nat} (hp : p < 7) : d8 (c7 x y) p = d8 y (d8 x p) := d8_mk8 (fun _ => d8_lt _ _) 7 p hp
def i7 (x : Nat) : Nat := mk8 (fun v => so (d8 x) v 7) 7
theorem so_lt8 (f : Nat → Nat) (v : Nat) : ∀ k, k ≤ 8 → so f v k < 8
  | 0, _ => (by decide : (0 : Nat) < 8)
  | k + 1, h => by
    unfold so
    split
    · omega
    · exact so_lt8 f v k (by omega)
theorem so_none {f : Nat → Nat} {v : Nat} : ∀ k, (∀ p, p < k → f p ≠ v) → so f v k = 0
  | 0, _ => rfl
  | k + 1, h => by
    unfold so
    rw [if_neg (h k (Nat.lt_succ_self k))]
    exact so_none k (fun p hp => h p (by omega))
/-- one more goal -/
theorem so_step {f : Nat → Nat} {k : Nat} (hk : k < 7) (hlt : ∀ p, p < 7 → f p < 7) (hi : ∀ p q, p < 7 → q < 7 → f p = f q → p = q) : mk8 (fun v => so f v k) 7 ||| k * 2 ^ (3 * f k) = mk8 (fun v => so f v (k + 1)) 7 := by
  rw [or_up (f := fun v => so f v k) (v := f k) (a := k) (fun v => so_lt8 f v k (by omega)) (hlt k hk) (by omega) (so_none k (fun p hp e => by have := hi p k (by omega) hk e; omega))]
  refine mk8_congr 7 (fun v hv => ?_)
  show up (fun v => so f v k) (f k) k v = if f k = v then k else so f v k
  unfold up
  by_cases e : v = f k
  · rw [if_pos e, if_pos e.symm]
  · rw [if_neg e, if_neg (fun h => e h.symm)]
/-- the class's form of a move of n points: all digits of seven -/
theorem Mv.p7 {n x : Nat} (hn : n ≤ 7) (h : Mv n x) : (∀ p, p < 7 → d8 x p < 7) ∧ ∀ p q, p < 7 → q < 7 → d8 x p = d8 x q → p = q := by
  obtain ⟨_, h2, h3⟩ := h
  refine ⟨fun p hp => ?_, fun p q hp hq e => ?_⟩
  · by_cases a : p < n
    · have := h2.1 p a
      omega
    · rw [h3 p (by omega) hp]
      exact hp
  · by_cases a : p < n
    · by_cases b : q < n
      · exact h2.2 p q a b e
      · rw [h3 q (by omega) hq] at e
        have := h2.1 p a
        omega
    · rw [h3 p (by omega) hp] at e
      by_cases b : q < n
      · have := h2.1 q b
        omega
      · rw [h3 q (by omega) hq] at e
        exact e
theorem c7_M {n x y : Nat} (hn : n ≤ 7) (hx : Mv n x) (hy : Mv n y) : c7 x y = cM n x y := by
  refine d8_ext 7 _ _ (c7_lt x y) (cM_Mv hn hx hy).1 (fun p hp => ?_)
  rw [c7_d hp]
  by_cases a : p < n
  · rw [cM_d hn hx hy a]
  · rw [(cM_Mv hn hx hy).2.2 p (by omega) hp, hx.2.2 p (by omega) hp, hy.2.2 p (by omega) hp]
theorem i7_M {n x : Nat} (hn : n ≤ 7) (hx : Mv n x) : i7 x = iM n x := by
  have h7 := hx.p7 hn
  refine d8_ext 7 _ _ (mk8_lt (fun v => so_lt8 _ v 7 (by decide)) 7) (iM_Mv hn hx).1 (fun v hv => ?_)
  unfold i7
  rw [d8_mk8 (fun v => so_lt8 _ v 7 (by decide)) 7 v hv]
  obtain ⟨p, hp, e⟩ := inj_surj 7 (d8 x) h7 v hv
  obtain ⟨s1, s2⟩ := so_spec 7 ⟨p, hp, e⟩
  by_cases a : v < n
  · rw [iM_d hn hx a]
    obtain ⟨t1, t2⟩ := so_Pn hx a
    exact h7.2 _ _ s1 (by omega) (s2.trans t2.symm)
  · rw [(iM_Mv hn hx).2.2 v (by omega) hv]
    refine h7.2 _ _ s1 hv (s2.trans ?_)
    rw [hx.2.2 v (by omega) hv]
def it7 (x : Nat) : Nat → Nat
  | 0 => 1754760
  | k + 1 => c7 (it7 x k) x
theorem e7_d : ∀ p, p < 7 → d8 1754760 p = p := by decide +kernel
theorem e7_M {n : Nat} (hn : n ≤ 7) : 1754760 = eM n := by
  refine d8_ext 7 _ _ (by decide) (eM_Mv hn).1 (fun p hp => ?_)
  rw [e7_d p hp]
  by_cases a : p < n
  · rw [eM_d hn a]
  · rw [(eM_Mv hn).2.2 p (by omega) hp]
/-! masks -/
theorem tb_0 {m b : Nat} (h : ¬ m / 2 ^ b % 2 ^ 1 = 1) : m.testBit b = false := by
  rw [Nat.testBit_eq_decide_div_mod_eq]
  exact decide_eq_false h
theorem tb_1 {m b : Nat} (h : m / 2 ^ b % 2 ^ 1 = 1) : m.testBit b = true := by
  rw [Nat.testBit_eq_decide_div_mod_eq]
  exact decide_eq_true h
theorem pc_below {m b : Nat} (hm : m < 2 ^ 31) (hb : b ≤ 32) : pc32 (nI (m % 2 ^ b)) = cnt (fun i => m.testBit i) b := by
  have h1 : m % 2 ^ b < 2 ^ 32 := Nat.lt_of_le_of_lt (Nat.mod_le m (2 ^ b)) (by omega)
  rw [pc32_nI h1]
  obtain ⟨c, hc⟩ : ∃ c, 32 = b + c := ⟨32 - b, by omega⟩
  rw [hc, cnt_split, cnt_0 (P := fun i => (m % 2 ^ b).testBit (b + i)) c (fun i _ => by
    show (m % 2 ^ b).testBit (b + i) = false
    rw [Nat.testBit_mod_two_pow, decide_eq_false (by omega), Bool.false_and]), Nat.add_zero]
  refine cnt_add b (fun i hi => ?_)
  show (m % 2 ^ b).testBit i = m.testBit i
  rw [Nat.testBit_mod_two_pow, decide_eq_true hi, Bool.true_and]
theorem clr_bit {m g i : Nat} (hm : m < 2 ^ 31) (hg : g < 31) : (m &&& nt (2 ^ g)).testBit i = (m.testBit i && !decide (g = i)) := by
  have h2 : 2 ^ g < 2 ^ 31 := Nat.pow_lt_pow_right (by decide) hg
  rw [Nat.testBit_and, nt_bit (by omega), Nat.testBit_two_pow]
  by_cases h : i < 32
  · rw [decide_eq_true h, Bool.true_and]
  · rw [Nat.testBit_lt_two_pow (x := m) (i := i) (Nat.lt_of_lt_of_le hm (Nat.pow_le_pow_right (by decide) (by omega))), Bool.false_and, Bool.false_and]
theorem set_bit (m g i : Nat) : (m ||| 2 ^ g).testBit i = (m.testBit i || decide (g = i)) := by
  rw [Nat.testBit_or, Nat.testBit_two_pow]
/-- what is taken by the first ones -/
def usd (f : Nat → Nat) (v : Nat) : Nat → Bool
  | 0 => false
  | k + 1 => usd f v k || decide (f k = v)
theorem usd_ex {f : Nat → Nat} {v : Nat} : ∀ k, usd f v k = true → ∃ j, j < k ∧ f j = v
  | 0, h => absurd (show false = true from h) (by decide)
  | k + 1, h => by
    rcases Bool.or_eq_true _ _ |>.mp (show (usd f v k || decide (f k = v)) = true from h) with h | h
    · obtain ⟨j, h1, h2⟩ := usd_ex k h
      exact ⟨j, by omega, h2⟩
    · exact ⟨k, Nat.lt_succ_self k, of_decide_eq_true h⟩
theorem usd_of {f : Nat → Nat} {v : Nat} : ∀ k j, j < k → f j = v → usd f v k = true
  | 0, _, hj, _ => absurd hj (Nat.not_lt_zero _)
  | k + 1, j, hj, e => by
    show (usd f v k || decide (f k = v)) = true
    by_cases q : j = k
    · subst q
      rw [decide_eq_true e, Bool.or_true]
    · rw [usd_of k j (by omega) e, Bool.true_or]
theorem usd_congr {f g : Nat → Nat} {v : Nat} : ∀ k, (∀ j, j < k → f j = g j) → usd f v k = usd g v k
  | 0, _ => rfl
  | k + 1, h => by
    show (usd f v k || decide (f k = v)) = (usd g v k || decide (g k = v))
    rw [usd_congr k (fun j hj => h j (by omega)), h k (Nat.lt_succ_self k)]
theorem cnt_not (P : Nat → Bool) : ∀ m, cnt (fun v => !P v) m + cnt P m = m
  | 0 => rfl
  | m + 1 => by
    have h := cnt_not P m
    show (cnt (fun v => !P v) m + (if (!P m) = true then 1 else 0)) + (cnt P m + (if P m = true then 1 else 0)) = m + 1
    cases P m with
    | true =>
      show (cnt (fun v => !P v) m + 0) + (cnt P m + 1) = m + 1
      omega
    | false =>
      show (cnt (fun v => !P v) m + 1) + (cnt P m + 0) = m + 1
      omega
theorem cnt_usd {f : Nat → Nat} (m : Nat) : ∀ p, (∀ i j, i < p → j < p → f i = f j → i = j) → cnt (fun v => usd f v p) m = cnt (fun j => decide (f j < m)) p
  | 0, _ => cnt_0 m (fun _ _ => rfl)
  | p + 1, h => by
    have ih := cnt_usd m p (fun i j hi hj => h i j (by omega) (by omega))
    show cnt (fun v => usd f v p || decide (f p = v)) m = cnt (fun j => decide (f j < m)) p + (if decide (f p < m) = true then 1 else 0)
    rw [cnt_or _ _ m (fun v _ hv => by
      obtain ⟨j, h1, h2⟩ := usd_ex p hv
      refine decide_eq_false (fun e => ?_)
      have := h j p (by omega) (Nat.lt_succ_self p) (h2.trans e.symm)
      omega), ih]
    congr 1
    by_cases e : f p < m
    · rw [if_pos (decide_eq_true e), ← cnt_one m e]
      exact cnt_add m (fun i _ => by
        by_cases q : i = f p
        · rw [decide_eq_true q, decide_eq_true q.symm]
        · rw [decide_eq_false q, decide_eq_false (fun z => q z.symm)])
    · rw [if_neg (fun z => e (of_decide_eq_true z))]
      exact cnt_0 m (fun i hi => decide_eq_false (fun z => e (by rw [z]; exact hi)))
/-- how many free ones lie below -/
def cF (f : Nat → Nat) (p : Nat) : Nat := cnt (fun v => !usd f v p) (f p)
theorem cF_les {n : Nat} {f : Nat → Nat} (h : Pn n f) {p : Nat} (hp : p < n) : cF f p = les f 0 p n := by
  have h1 := cnt_not (fun v => usd f v p) (f p)
  have h2 := cnt_usd (f := f) (f p) p (fun i j hi hj => h.2 i j (by omega) (by omega))
  have h3 := les_is h hp
  unfold cF
  omega
def nuC (f : Nat → Nat) (n : Nat) : Nat → Nat
  | 0 => 0
  | k + 1 => nuC f n k * (n - k) + cF f k
theorem nuC_F {n : Nat} {f : Nat → Nat} (h : Pn n f) : ∀ k, k ≤ n → nuC f n k = nuF f 0 n k
  | 0, _ => rfl
  | k + 1, hk => by
    show nuC f n k * (n - k) + cF f k = nuF f 0 n k * (n - k) + les f 0 k n
    rw [nuC_F h k (by omega), cF_les h hk]
theorem cF_congr {f g : Nat → Nat} {p : Nat} (h : ∀ j, j ≤ p → f j = g j) : cF f p = cF g p := by
  unfold cF
  rw [h p (Nat.le_refl p)]
  exact cnt_add _ (fun v _ => by rw [usd_congr p (fun j hj => h j (by omega))])
theorem nuC_congr {f g : Nat → Nat} {n : Nat} : ∀ k, (∀ j, j < k → f j = g j) → nuC f n k = nuC g n k
  | 0, _ => rfl
  | k + 1, h => by
    show nuC f n k * (n - k) + cF f k = nuC g n k * (n - k) + cF g k
    rw [nuC_congr k (fun j hj => h j (by omega)), cF_congr (fun j hj => h j (by omega))]
/-- a mask of the free ones -/
def FM (n : Nat) (f : Nat → Nat) (k m : Nat) : Prop := m < 2 ^ 31 ∧ ∀ v, m.testBit v = (decide (v < n) && !usd f v k)
theorem FM_0 {n : Nat} (hn : n ≤ 7) (f : Nat → Nat) : FM n f 0 (2 ^ n - 1) := by
  refine ⟨?_, fun v => ?_⟩
  · have : 2 ^ n ≤ 2 ^ 7 := Nat.pow_le_pow_right (by decide) hn
    omega
  · rw [Nat.testBit_two_pow_sub_one]
    show _ = (decide (v < n) && true)
    rw [Bool.and_true]
theorem FM_s {n k m : Nat} {f : Nat → Nat} (hf : f k < 31) (h : FM n f k m) : FM n f (k + 1) (m &&& nt (2 ^ f k)) := by
  refine ⟨Nat.lt_of_le_of_lt Nat.and_le_left h.1, fun v => ?_⟩
  rw [clr_bit h.1 hf, h.2 v]
  show _ = (decide (v < n) && !(usd f v k || decide (f k = v)))
  rw [Bool.not_or, Bool.and_assoc]
theorem FM.congr {n k m : Nat} {f g : Nat → Nat} (h : FM n f k m) (e : ∀ j, j < k → f j = g j) : FM n g k m :=
  ⟨h.1, fun v => by rw [h.2 v, usd_congr k e]⟩
theorem FM_below {n k m : Nat} {f : Nat → Nat} (h : FM n f k m) (hf : f k ≤ n) : cnt (fun i => m.testBit i) (f k) = cF f k := by
  unfold cF
  exact cnt_add _ (fun v hv => by
    show m.testBit v = !usd f v k
    rw [h.2 v, decide_eq_true (by omega), Bool.true_and])
theorem FM_all {n k m : Nat} {f : Nat → Nat} (hn : n ≤ 7) (hk : k ≤ n) (hlt : ∀ j, j < k → f j < n) (hi : ∀ i j, i < k → j < k → f i = f j → i = j) (h : FM n f k m) : cnt (fun i => m.testBit i) 7 = n - k := by
  obtain ⟨c, hc⟩ : ∃ c, 7 = n + c := ⟨7 - n, by omega⟩
  rw [hc, cnt_split, cnt_0 (P := fun i => m.testBit (n + i)) c (fun i _ => by
    show m.testBit (n + i) = false
    rw [h.2, decide_eq_false (by omega), Bool.false_and]), Nat.add_zero]
  have h1 := cnt_not (fun v => usd f v k) n
  have h2 := cnt_usd (f := f) n k hi
  have h3 : cnt (fun j => decide (f j < n)) k = k := by
    rw [cnt_add (P := fun j => decide (f j < n)) (Q := fun _ => true) k (fun j hj => decide_eq_true (hlt j hj))]
    exact cnt_all k
  rw [cnt_add (P := fun i => m.testBit i) (Q := fun v => !usd f v k) n (fun v hv => by
    show m.testBit v = !usd f v k
    rw [h.2 v, decide_eq_true hv, Bool.true_and])]
  omega
/-- a free one put in place -/
theorem FM_at {n k m g : Nat} {f : Nat → Nat} (h : FM n f k m) (hg : m.testBit g = true) : g < n ∧ ∀ j, j < k → f j ≠ g := by
  rw [h.2 g] at hg
  obtain ⟨h1, h2⟩ := Bool.and_eq_true _ _ |>.mp hg
  refine ⟨of_decide_eq_true h1, fun j hj e => ?_⟩
  rw [usd_of k j hj e] at h2
  exact absurd h2 (by decide)
