/-! sign, order, how many rings: what rings tell and what pairs tell is one (all moves of seven points are looked at) -/
/-- all moves of seven points, place by place -/
def alG (f : Nat → Bool) : Nat → Bool
  | 0 => true
  | g + 1 => alG f g && f g
def alM (P : Nat → Bool) : Nat → Nat → Nat → Bool
  | 0, _, x => P x
  | j + 1, us, x => alG (fun g => us.testBit g || alM P j (us ||| 2 ^ g) (x + g * 2 ^ (3 * (6 - j)))) 7
theorem alG_at {f : Nat → Bool} : ∀ m, alG f m = true → ∀ g, g < m → f g = true
  | 0, _, g, hg => absurd hg (Nat.not_lt_zero g)
  | m + 1, h, g, hg => by
    have h : (alG f m && f m) = true := h
    rw [Bool.and_eq_true] at h
    by_cases e : g = m
    · rw [e]; exact h.2
    · exact alG_at m h.1 g (by omega)
theorem alM_at {P : Nat → Bool} {x : Nat} (hx : Pn 7 (d8 x)) : ∀ j us y, j ≤ 7 → (∀ v, us.testBit v = usd (d8 x) v (7 - j)) → y = mk8 (d8 x) (7 - j) → alM P j us y = true → P (mk8 (d8 x) 7) = true
  | 0, us, y, _, _, hy, h => by
    rw [Nat.sub_zero] at hy
    rw [← hy]
    exact h
  | j + 1, us, y, hj, hu, hy, h => by
    have hp : 7 - (j + 1) < 7 := by omega
    have hs : 7 - j = 7 - (j + 1) + 1 := by omega
    have h1 := alG_at 7 h (d8 x (7 - (j + 1))) (hx.1 _ hp)
    have h1 : (us.testBit (d8 x (7 - (j + 1))) || alM P j (us ||| 2 ^ d8 x (7 - (j + 1))) (y + d8 x (7 - (j + 1)) * 2 ^ (3 * (6 - j)))) = true := h1
    have h2 : us.testBit (d8 x (7 - (j + 1))) = false := by
      rw [hu]
      cases q : usd (d8 x) (d8 x (7 - (j + 1))) (7 - (j + 1)) with
      | false => rfl
      | true =>
        obtain ⟨i, i1, i2⟩ := usd_ex _ q
        have := hx.2 i _ (by omega) hp i2
        omega
    rw [h2, Bool.false_or] at h1
    refine alM_at hx j _ _ (by omega) (fun v => ?_) ?_ h1
    · rw [set_bit, hu v, hs]
      rfl
    · rw [hs, hy, show 6 - j = 7 - (j + 1) by omega]
      rfl
theorem mk8_d8 {x : Nat} (hx : x < 2 ^ (3 * 7)) : mk8 (d8 x) 7 = x := d8_ext 7 _ _ (mk8_lt (d8_lt x) 7) hx (fun p hp => d8_mk8 (d8_lt x) 7 p hp)
theorem al7 {P : Nat → Bool} (h : alM P 7 0 0 = true) {x : Nat} (hx : x < 2 ^ (3 * 7)) (hP : Pn 7 (d8 x)) : P x = true := by
  have := alM_at hP 7 0 0 (Nat.le_refl 7) (fun v => Nat.zero_testBit v) rfl h
  rw [mk8_d8 hx] at this
  exact this
/-! an exchange, a ring of three -/
theorem w8_2 {n : Nat} (hn : n ≤ 7) {b c : Nat} (hb : b < n) (hc : c < n) : w8 (w8 1754760 b c) c b = mkM n (sw2 b c) := by
  refine d8_ext 7 _ _ (w8_lt (w8_lt (by decide) (by omega) (by omega)) (by omega) (by omega)) (mk8_lt (fun q => by split <;> exact Nat.mod_lt _ (by decide)) 7) (fun p hp => ?_)
  rw [w8_d (by omega) (by omega) (by omega), w8_d (by omega) (by omega) (by omega), e7_d p hp]
  unfold mkM
  rw [d8_mk8 (fun q => by split <;> exact Nat.mod_lt _ (by decide)) 7 p hp]
  unfold sw2
  by_cases e : p = c
  · subst e
    rw [if_pos rfl, if_pos hc, Nat.mod_eq_of_lt (by omega)]
  · rw [if_neg e]
    by_cases e2 : p = b
    · subst e2
      rw [if_pos rfl, if_pos hb, Nat.mod_eq_of_lt (by omega)]
    · rw [if_neg e2, Nat.mod_eq_of_lt (by omega)]
      split <;> rfl
theorem w8_3 {n : Nat} (hn : n ≤ 7) {b c f : Nat} (hb : b < n) (hc : c < n) (hf : f < n) : w8 (w8 (w8 1754760 b c) c f) f b = mkM n (sw3 b c f) := by
  refine d8_ext 7 _ _ (w8_lt (w8_lt (w8_lt (by decide) (by omega) (by omega)) (by omega) (by omega)) (by omega) (by omega)) (mk8_lt (fun q => by split <;> exact Nat.mod_lt _ (by decide)) 7) (fun p hp => ?_)
  rw [w8_d (by omega) (by omega) (by omega), w8_d (by omega) (by omega) (by omega), w8_d (by omega) (by omega) (by omega), e7_d p hp]
  unfold mkM
  rw [d8_mk8 (fun q => by split <;> exact Nat.mod_lt _ (by decide)) 7 p hp]
  unfold sw3
  by_cases e : p = f
  · subst e
    rw [if_pos rfl, if_pos hf, Nat.mod_eq_of_lt (by omega)]
  · rw [if_neg e]
    by_cases e1 : p = c
    · subst e1
      rw [if_pos rfl, if_pos hc, Nat.mod_eq_of_lt (by omega)]
    · rw [if_neg e1]
      by_cases e2 : p = b
      · subst e2
        rw [if_pos rfl, if_pos hb, Nat.mod_eq_of_lt (by omega)]
      · rw [if_neg e2, Nat.mod_eq_of_lt (by omega)]
        split <;> rfl
theorem sw2_Pn {n : Nat} {b c : Nat} (hb : b < n) (hc : c < n) : Pn n (sw2 b c) := (Pn_swap (r := fun p => p) (fun _ _ => rfl) hb hc).congr (fun p hp => (sw2_is (r := fun p => p) (fun _ _ => rfl) hp).symm)
theorem sw3_Pn {n : Nat} {b c f : Nat} (hb : b < n) (hc : c < n) (hf : f < n) (h1 : b ≠ c) (h2 : c ≠ f) (h3 : f ≠ b) : Pn n (sw3 b c f) := (Pn_ring (r := fun p => p) (fun _ _ => rfl) hb hc hf h1 (fun e => h3 e.symm) h2).congr (fun p hp => (sw3_is (r := fun p => p) (fun _ _ => rfl) hp).symm)
/-! the class's rings -/
def hrS (x : Nat) : Nat → Nat
  | 0 => 0
  | p + 1 => if (hrS x p).testBit p = true then hrS x p else hrS x p ||| rg x p
def hr (x : Nat) : Nat → Nat
  | 0 => 0
  | p + 1 => if (hrS x p).testBit p = true then hr x p else hr x p + 1
theorem bf {b : Bool} (h : b = false) : ¬ b = true := fun e => by
  rw [h] at e
  exact absurd e (by decide)
theorem hrS_t {x p : Nat} (h : (hrS x p).testBit p = true) : hrS x p = hrS x (p + 1) := (if_pos h).symm
theorem hrS_f {x p : Nat} (h : (hrS x p).testBit p = false) : hrS x p ||| rg x p = hrS x (p + 1) := (if_neg (bf h)).symm
theorem hr_t {x p : Nat} (h : (hrS x p).testBit p = true) : hr x p = hr x (p + 1) := (if_pos h).symm
theorem hr_f {x p : Nat} (h : (hrS x p).testBit p = false) : hr x p + 1 = hr x (p + 1) := (if_neg (bf h)).symm
theorem hrS_lt {x : Nat} (hP : Pn 7 (d8 x)) : ∀ p, p ≤ 7 → hrS x p < 2 ^ 7
  | 0, _ => (by decide : (0 : Nat) < 2 ^ 7)
  | p + 1, hp => by
    have ih := hrS_lt hP p (by omega)
    show (if (hrS x p).testBit p = true then hrS x p else hrS x p ||| rg x p) < 2 ^ 7
    by_cases e : (hrS x p).testBit p = true
    · rw [if_pos e]; exact ih
    · rw [if_neg e]; exact Nat.or_lt_two_pow ih (rg_spec hP (by omega)).1
theorem hr_le (x : Nat) : ∀ p, hr x p ≤ p
  | 0 => Nat.le_refl 0
  | p + 1 => by
    have ih := hr_le x p
    show (if (hrS x p).testBit p = true then hr x p else hr x p + 1) ≤ p + 1
    by_cases e : (hrS x p).testBit p = true
    · rw [if_pos e]; omega
    · rw [if_neg e]; omega
def sgC (x k : Nat) : Int32 := if (k - hr x k) % 2 = 0 then nI 1 else (-1)
/-! the reference's pairs -/
def ivP (f : Nat → Nat) (fr p : Nat) : Nat → Nat
  | 0 => 0
  | q + 1 => ivP f fr p q + if f (fr + p) < f (fr + q) then 1 else 0
def iv (f : Nat → Nat) (fr : Nat) : Nat → Nat
  | 0 => 0
  | p + 1 => iv f fr p + ivP f fr p p
def sgv (k : Nat) : Int32 := if k % 2 = 0 then nI 1 else (-1)
theorem sgv_n (k : Nat) : -sgv k = sgv (k + 1) := by
  unfold sgv
  by_cases e : k % 2 = 0
  · rw [if_pos e, if_neg (by omega)]; decide
  · rw [if_neg e, if_pos (by omega)]; decide
theorem iv_n {f : Nat → Nat} {fr p q a : Nat} {z : Int32} (h : z = sgv (a + ivP f fr p q)) (e : f (fr + q) ≤ f (fr + p)) : z = sgv (a + ivP f fr p (q + 1)) := by
  rw [h]
  show _ = sgv (a + (ivP f fr p q + if f (fr + p) < f (fr + q) then 1 else 0))
  rw [if_neg (Nat.not_lt.mpr e), Nat.add_zero]
theorem iv_s {f : Nat → Nat} {fr p q a : Nat} {z : Int32} (h : z = sgv (a + ivP f fr p q)) (e : f (fr + p) < f (fr + q)) : -z = sgv (a + ivP f fr p (q + 1)) := by
  rw [h, sgv_n]
  show _ = sgv (a + (ivP f fr p q + if f (fr + p) < f (fr + q) then 1 else 0))
  rw [if_pos e, Nat.add_assoc]
theorem ivP_congr {f g : Nat → Nat} {fr p m : Nat} (hp : p < m) (h : ∀ i, i < m → f (fr + i) = g i) : ∀ q, q ≤ m → ivP f fr p q = ivP g 0 p q
  | 0, _ => rfl
  | q + 1, hq => by
    show ivP f fr p q + (if f (fr + p) < f (fr + q) then 1 else 0) = ivP g 0 p q + (if g (0 + p) < g (0 + q) then 1 else 0)
    rw [ivP_congr hp h q (by omega), h p hp, h q (by omega), Nat.zero_add, Nat.zero_add]
theorem iv_congr {f g : Nat → Nat} {fr m : Nat} (h : ∀ i, i < m → f (fr + i) = g i) : ∀ p, p ≤ m → iv f fr p = iv g 0 p
  | 0, _ => rfl
  | p + 1, hp => by
    show iv f fr p + ivP f fr p p = iv g 0 p + ivP g 0 p p
    rw [iv_congr h p (by omega), ivP_congr (by omega) h p (by omega)]
def sg (n x : Nat) : Int32 := sgv (iv (d8 x) 0 n)
/-- a ring's length, by going round -/
def lnF (f : Nat → Nat) (p : Nat) : Nat → Nat → Nat
  | 0, K => K
  | m + 1, K => if it f K p = p then K else lnF f p m (K + 1)
def lF (f : Nat → Nat) (n p : Nat) : Nat := lnF f p n 1
theorem lnF_Pd {f : Nat → Nat} {n p K : Nat} (h : Pd f n p K) : ∀ m j, 1 ≤ j → j ≤ K → K ≤ j + m → lnF f p m j = K
  | 0, j, _, h2, h3 => by
    show j = K
    omega
  | m + 1, j, h1, h2, h3 => by
    show (if it f j p = p then j else lnF f p m (j + 1)) = K
    by_cases e : j = K
    · subst e
      rw [if_pos h.2.2.1]
    · rw [if_neg (h.2.2.2 j h1 (by omega))]
      exact lnF_Pd h m (j + 1) (by omega) (by omega) (by omega)
theorem lF_Pd {f : Nat → Nat} {n p K : Nat} (h : Pd f n p K) : K = lF f n p := (lnF_Pd h n 1 (Nat.le_refl 1) h.1 (by have := h.2.1; omega)).symm
/-! order -/
def ocL (x : Nat) : Nat → Nat → Nat → Nat
  | 0, _, t => t
  | k + 1, r, t => if r = 1754760 then t else ocL x k (c7 r x) (t + 1)
def oC (x : Nat) : Nat := ocL x 11 x 1
def olc (l : Nat → Nat) : Nat → Nat
  | 0 => 1
  | p + 1 => olc l p / Nat.gcd (olc l p) (l p) * l p
theorem olc_s {l : Nat → Nat} {p y k : Nat} (h : y = olc l p) (e : k = l p) : y / Nat.gcd y k * k = olc l (p + 1) := by
  rw [h, e]
  rfl
theorem olc_congr {l l' : Nat → Nat} : ∀ p, (∀ i, i < p → l i = l' i) → olc l p = olc l' p
  | 0, _ => rfl
  | p + 1, h => by
    show olc l p / Nat.gcd (olc l p) (l p) * l p = olc l' p / Nat.gcd (olc l' p) (l' p) * l' p
    rw [olc_congr p (fun i hi => h i (by omega)), h p (Nat.lt_succ_self p)]
theorem olc_one {l : Nat → Nat} {n : Nat} : ∀ k, (∀ i, n ≤ i → i < n + k → l i = 1) → olc l (n + k) = olc l n
  | 0, _ => rfl
  | k + 1, h => by
    show olc l (n + k) / Nat.gcd (olc l (n + k)) (l (n + k)) * l (n + k) = olc l n
    rw [h (n + k) (by omega) (by omega), Nat.gcd_one_right, Nat.div_one, Nat.mul_one]
    exact olc_one k (fun i h1 h2 => h i h1 (by omega))
/-! all moves are looked at -/
def ckS (x : Nat) : Bool := (7 - hr x 7) % 2 == iv (d8 x) 0 7 % 2
theorem ckS_all : alM ckS 7 0 0 = true := by decide +kernel
def ckO (x : Nat) : Bool := oC x == olc (lF (d8 x) 7) 7
theorem ckO_all : alM ckO 7 0 0 = true := by decide +kernel
theorem pd_one {n x p : Nat} (hn : n ≤ 7) (hx : Mv n x) (h1 : n ≤ p) (h2 : p < 7) : lF (d8 x) 7 p = 1 := by
  refine (lF_Pd (n := 7) ⟨Nat.le_refl 1, by decide, ?_, fun j h3 h4 => by omega⟩).symm
  exact hx.2.2 p h1 h2
theorem order_is {n x : Nat} (hn : n ≤ 7) (hx : Mv n x) {l : Nat → Nat} (hl : ∀ p, p < n → l p = lF (d8 x) 7 p) : oC x = olc l n := by
  have h := al7 ckO_all hx.1 (hx.P7 hn)
  have h : oC x = olc (lF (d8 x) 7) 7 := eq_of_beq h
  obtain ⟨k, hk⟩ : ∃ k, 7 = n + k := ⟨7 - n, by omega⟩
  have h2 : olc (lF (d8 x) 7) 7 = olc (lF (d8 x) 7) n := by
    rw [show olc (lF (d8 x) 7) 7 = olc (lF (d8 x) 7) (n + k) by rw [← hk]]
    exact olc_one k (fun i h1 h2 => pd_one hn hx h1 (by omega))
  rw [h, h2]
  exact olc_congr n (fun i hi => (hl i hi).symm)
/-- with points that stay: as many more rings, no more pairs -/
theorem iv_top {n x : Nat} (hx : Mv n x) : ∀ k, n + k ≤ 7 → iv (d8 x) 0 (n + k) = iv (d8 x) 0 n
  | 0, _ => rfl
  | k + 1, hk => by
    have h0 : ∀ q, q ≤ n + k → ivP (d8 x) 0 (n + k) q = 0 := by
      intro q
      induction q with
      | zero => intro _; rfl
      | succ q ih =>
        intro hq
        show ivP (d8 x) 0 (n + k) q + (if d8 x (0 + (n + k)) < d8 x (0 + q) then 1 else 0) = 0
        rw [ih (by omega), Nat.zero_add, Nat.zero_add, hx.2.2 (n + k) (by omega) (by omega), if_neg]
        by_cases e : q < n
        · have := hx.2.1.1 q e; omega
        · rw [hx.2.2 q (by omega) (by omega)]; omega
    show iv (d8 x) 0 (n + k) + ivP (d8 x) 0 (n + k) (n + k) = _
    rw [h0 (n + k) (Nat.le_refl _), Nat.add_zero]
    exact iv_top hx k (by omega)
theorem rg_fix {n x p : Nat} (hn : n ≤ 7) (hx : Mv n x) (h1 : n ≤ p) (h2 : p < 7) : rg x p = 2 ^ p := by
  have e := hx.2.2 p h1 h2
  show (if (0 : Nat).testBit p = true then 0 else rgL x 6 (0 ||| 2 ^ p) (d8 x p)) = 2 ^ p
  rw [if_neg (bf (Nat.zero_testBit p)), e, Nat.zero_or]
  exact (rgL_t (k := 6) Nat.testBit_two_pow_self).symm
theorem rg_in {n x p v : Nat} (hn : n ≤ 7) (hx : Mv n x) (hp : p < n) (h : (rg x p).testBit v = true) : v < n := by
  obtain ⟨j, rfl⟩ := (rg_bit (hx.P7 hn) (by omega)).mp h
  exact it_lt hx.2.1 hp j
theorem hrS_in {n x : Nat} (hn : n ≤ 7) (hx : Mv n x) : ∀ p, p ≤ 7 → ∀ v, (hrS x p).testBit v = true → v < n ∨ (n ≤ v ∧ v < p)
  | 0, _, v, h => by
    have h : (0 : Nat).testBit v = true := h
    rw [Nat.zero_testBit] at h
    exact absurd h (by decide)
  | p + 1, hp, v, h => by
    have ih := hrS_in hn hx p (by omega)
    by_cases e : (hrS x p).testBit p = true
    · rw [← hrS_t e] at h
      have := ih v h
      omega
    · have e : (hrS x p).testBit p = false := by
        cases q : (hrS x p).testBit p with
        | false => rfl
        | true => exact absurd q e
      rw [← hrS_f e, Nat.testBit_or, Bool.or_eq_true] at h
      rcases h with h | h
      · have := ih v h
        omega
      · by_cases q : p < n
        · exact Or.inl (rg_in hn hx q h)
        · rw [rg_fix hn hx (by omega) (by omega), Nat.testBit_two_pow] at h
          have := of_decide_eq_true h
          omega
theorem hr_top {n x : Nat} (hn : n ≤ 7) (hx : Mv n x) : ∀ k, n + k ≤ 7 → hr x (n + k) = hr x n + k
  | 0, _ => rfl
  | k + 1, hk => by
    have ih := hr_top hn hx k (by omega)
    have h : (hrS x (n + k)).testBit (n + k) = false := by
      cases q : (hrS x (n + k)).testBit (n + k) with
      | false => rfl
      | true => have := hrS_in hn hx (n + k) (by omega) _ q; omega
    have e := hr_f h
    show hr x (n + k + 1) = hr x n + (k + 1)
    omega
theorem sign_is {n x : Nat} (hn : n ≤ 7) (hx : Mv n x) : sgC x n = sg n x := by
  have h := al7 ckS_all hx.1 (hx.P7 hn)
  have h : (7 - hr x 7) % 2 = iv (d8 x) 0 7 % 2 := eq_of_beq h
  obtain ⟨k, hk⟩ : ∃ k, 7 = n + k := ⟨7 - n, by omega⟩
  have h1 : hr x 7 = hr x n + k := by
    have := hr_top hn hx k (by omega)
    rw [← hk] at this
    exact this
  have h2 : iv (d8 x) 0 7 = iv (d8 x) 0 n := by
    have := iv_top hx k (by omega)
    rw [← hk] at this
    exact this
  have h3 := hr_le x n
  have h4 : (n - hr x n) % 2 = iv (d8 x) 0 n % 2 := by
    rw [← h2, ← h, h1]
    congr 1
    omega
  unfold sgC sg sgv
  rw [h4]
/-! points that stay -/
def stF (f : Nat → Nat) : Nat → Nat
  | 0 => 0
  | p + 1 => if f p = p then stF f p ||| 2 ^ p else stF f p
theorem stF_t {f : Nat → Nat} {p : Nat} (h : f p = p) : stF f p ||| 2 ^ p = stF f (p + 1) := (if_pos h).symm
theorem stF_f {f : Nat → Nat} {p : Nat} (h : ¬ f p = p) : stF f p = stF f (p + 1) := (if_neg h).symm
theorem stF_lt (f : Nat → Nat) : ∀ p, stF f p < 2 ^ p
  | 0 => (by decide : (0 : Nat) < 2 ^ 0)
  | p + 1 => by
    have ih := stF_lt f p
    have h2 : 2 ^ p < 2 ^ (p + 1) := Nat.pow_lt_pow_right (by decide) (Nat.lt_succ_self p)
    show (if f p = p then stF f p ||| 2 ^ p else stF f p) < 2 ^ (p + 1)
    by_cases e : f p = p
    · rw [if_pos e]; exact Nat.or_lt_two_pow (Nat.lt_trans ih h2) h2
    · rw [if_neg e]; exact Nat.lt_trans ih h2
theorem stF_31 (f : Nat → Nat) {p : Nat} (hp : p ≤ 7) : stF f p < 2 ^ 31 := Nat.lt_of_lt_of_le (stF_lt f p) (Nat.pow_le_pow_right (by decide) (by omega))
theorem stF_congr {f g : Nat → Nat} : ∀ p, (∀ i, i < p → f i = g i) → stF f p = stF g p
  | 0, _ => rfl
  | p + 1, h => by
    show (if f p = p then stF f p ||| 2 ^ p else stF f p) = (if g p = p then stF g p ||| 2 ^ p else stF g p)
    rw [stF_congr p (fun i hi => h i (by omega)), h p (Nat.lt_succ_self p)]
/-! like rings, by how many points are on rings of a length -/
def lo (f : Nat → Nat) (n L m : Nat) : Nat := cnt (fun p => lF f n p == L) m
theorem lo_1 {f : Nat → Nat} {n L m k : Nat} (e : k = lF f n m) (h : k = L) : lo f n L m + 1 = lo f n L (m + 1) := by
  show _ = cnt (fun p => lF f n p == L) m + (if (lF f n m == L) = true then 1 else 0)
  rw [if_pos (by rw [← e, h]; exact beq_self_eq_true L)]
  rfl
theorem lo_0 {f : Nat → Nat} {n L m k : Nat} (e : k = lF f n m) (h : ¬ k = L) : lo f n L m + 0 = lo f n L (m + 1) := by
  show _ = cnt (fun p => lF f n p == L) m + (if (lF f n m == L) = true then 1 else 0)
  rw [if_neg (fun q => h (by rw [e]; exact eq_of_beq q))]
  rfl
theorem lo_le (f : Nat → Nat) (n L m : Nat) : lo f n L m ≤ m := cnt_le _ m
theorem it_congr {n : Nat} {f g : Nat → Nat} (hf : Pn n f) (h : ∀ p, p < n → f p = g p) {p : Nat} (hp : p < n) : ∀ k, it f k p = it g k p
  | 0 => rfl
  | k + 1 => by
    have ih := it_congr hf h hp k
    show f (it f k p) = g (it g k p)
    rw [← ih]
    exact h _ (it_lt hf hp k)
theorem lF_ln {n x : Nat} (hn : n ≤ 7) (hx : Mv n x) {f : Nat → Nat} (hf : ∀ p, p < n → f p = d8 x p) {p : Nat} (hp : p < n) : lF f n p = ln x p := by
  have h7 := ln_Pd (hx.P7 hn) (show p < 7 by omega)
  have hfP : Pn n f := hx.2.1.congr (fun q hq => hf q hq)
  obtain ⟨K, k1, k2, k3, k4⟩ := Pd_ex hfP hp
  have e := lF_Pd (f := f) (n := n) ⟨k1, k2, k3, k4⟩
  have hi := fun k => it_congr hfP hf hp k
  have h8 : Pd (d8 x) 7 p K := ⟨k1, by omega, by rw [← hi K]; exact k3, fun j h1 h2 => by rw [← hi j]; exact k4 j h1 h2⟩
  rw [← e]
  exact h8.same h7
theorem ln_fix {n x p : Nat} (hn : n ≤ 7) (hx : Mv n x) (h1 : n ≤ p) (h2 : p < 7) : ln x p = 1 :=
  (ln_Pd (hx.P7 hn) h2).same ⟨Nat.le_refl 1, by decide, hx.2.2 p h1 h2, fun j h3 h4 => by omega⟩
theorem lo_rl {n x : Nat} (hn : n ≤ 7) (hx : Mv n x) {f : Nat → Nat} (hf : ∀ p, p < n → f p = d8 x p) (L : Nat) : L * rl x L 7 = lo f n L n + (if L = 1 then 7 - n else 0) := by
  rw [← pl_rl (hx.P7 hn) L, ct_cnt (B := fun p => ln x p == L) 7 (fun p _ => ⟨fun e => by rw [e]; exact beq_self_eq_true L, fun e => eq_of_beq e⟩)]
  obtain ⟨k, hk⟩ : ∃ k, 7 = n + k := ⟨7 - n, by omega⟩
  have h1 : cnt (fun p => ln x p == L) 7 = cnt (fun p => ln x p == L) (n + k) := by rw [← hk]
  rw [h1, cnt_split]
  congr 1
  · exact cnt_add n (fun p hp => by show (ln x p == L) = (lF f n p == L); rw [lF_ln hn hx hf hp])
  · by_cases e : L = 1
    · subst e
      rw [if_pos rfl, cnt_add (P := fun i => ln x (n + i) == 1) (Q := fun _ => true) k (fun i hi => by show (ln x (n + i) == 1) = true; rw [ln_fix hn hx (by omega) (by omega)]; rfl), cnt_all]
      omega
    · rw [if_neg e]
      exact cnt_0 k (fun i hi => by
        rw [ln_fix hn hx (by omega) (by omega)]
        exact beq_eq_false_iff_ne.mpr (fun q => e q.symm))
theorem lo_div {n x : Nat} (hn : n ≤ 7) (hx : Mv n x) {f : Nat → Nat} (hf : ∀ p, p < n → f p = d8 x p) {L : Nat} (hL : 1 ≤ L) : rl x L 7 = lo f n L n / L + (if L = 1 then 7 - n else 0) := by
  have h := lo_rl hn hx hf L
  by_cases e : L = 1
  · subst e
    rw [if_pos rfl] at h ⊢
    rw [Nat.div_one]
    omega
  · rw [if_neg e, Nat.add_zero] at h ⊢
    rw [← h, Nat.mul_div_cancel_left _ (by omega)]
theorem LK_lo {n x y : Nat} (hn : n ≤ 7) (hx : Mv n x) (hy : Mv n y) {f g : Nat → Nat} (hf : ∀ p, p < n → f p = d8 x p) (hg : ∀ p, p < n → g p = d8 y p) : LK x y ↔ ∀ L, 1 ≤ L → L ≤ n → lo f n L n / L = lo g n L n / L := by
  have h0 : ∀ {z : Nat} {h : Nat → Nat}, Mv n z → (∀ p, p < n → h p = d8 z p) → ∀ L, n < L → lo h n L n = 0 := fun {z h} hz hh L hL => cnt_0 n (fun p hp => by
    have := lF_ln hn hz hh hp
    have h2 := (Pd_ex (hz.2.1.congr (fun q hq => hh q hq)) hp)
    obtain ⟨K, hK⟩ := h2
    have h3 := lF_Pd hK
    have h4 := hK.2.1
    exact beq_eq_false_iff_ne.mpr (fun e => by omega))
  refine ⟨fun h L h1 h2 => ?_, fun h L h1 h2 => ?_⟩
  · have e := h L h1 (by omega)
    rw [lo_div hn hx hf h1, lo_div hn hy hg h1] at e
    omega
  · rw [lo_div hn hx hf h1, lo_div hn hy hg h1]
    by_cases q : L ≤ n
    · rw [h L h1 q]
    · rw [h0 hx hf L (by omega), h0 hy hg L (by omega)]
theorem oc_s {x r c : Nat} (hc : c < 12) (h : ¬ r = 1754760) : ocL x (12 - c) r c = ocL x (12 - (c + 1)) (c7 r x) (c + 1) := by
  obtain ⟨k, hk⟩ : ∃ k, 12 - c = k + 1 := ⟨11 - c, by omega⟩
  rw [hk, show 12 - (c + 1) = k by omega]
  exact if_neg h
theorem oc_12 {x r c : Nat} (hc : 12 ≤ c) : c = ocL x (12 - c) r c := by
  rw [show 12 - c = 0 by omega]
  rfl
theorem oc_e {x r c : Nat} (h : r = 1754760) : c = ocL x (12 - c) r c := by
  cases q : 12 - c with
  | zero => rfl
  | succ k => exact (if_pos h).symm
theorem st_1 {f : Nat → Nat} {p y : Nat} (h : y = stF f p) (e : f p = p) : y ||| 2 ^ p = stF f (p + 1) := by
  rw [h]; exact stF_t e
theorem st_0 {f : Nat → Nat} {p y : Nat} (h : y = stF f p) (e : ¬ f p = p) : y ||| 0 * 2 ^ p = stF f (p + 1) := by
  rw [h, Nat.zero_mul, Nat.or_zero]; exact stF_f e
