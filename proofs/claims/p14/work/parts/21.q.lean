/-! sign, order, how many rings: what rings tell and what pairs tell is one (all moves of seven points are looked at) -/
/-! an exchange, a ring of three -/
theorem w8_2 {n : Nat} (hn : n ≤ 7) {b c : Nat} (hb : b < n) (hc : c < n) : w8 (w8 1754760 b c) c b = mkM n (sw2 b c) := by
  refine d8_ext 7 _ _ (w8_lt (w8_lt (by decide) (by omega) (by omega)) (by omega) (by omega)) (mk8_lt (fun q => by split <;> exact Nat.mod_lt _ (by decide)) 7) (fun p hp => ?_)
  rw [w8_d (by omega) (by omega) (by omega), w8_d (by omega) (by omega) (by omega), e7_d p hp]
  unfold mkM
  rw [d8_mk8 (fun q => by split <;> exact Nat.mod_lt _ (by decide)) 7 p hp]
  unfold sw2
  by_cases e : p = c
  · subst e
    rw [if_pos rfl, if_pos hc, Nat.mod_eq_of_lt (by omega)]
  · rw [if_neg e]
    by_cases e2 : p = b
    · subst e2
      rw [if_pos rfl, if_pos hb, Nat.mod_eq_of_lt (by omega)]
    · rw [if_neg e2, Nat.mod_eq_of_lt (by omega)]
      split <;> rfl
theorem w8_3 {n : Nat} (hn : n ≤ 7) {b c f : Nat} (hb : b < n) (hc : c < n) (hf : f < n) : w8 (w8 (w8 1754760 b c) c f) f b = mkM n (sw3 b c f) := by
  refine d8_ext 7 _ _ (w8_lt (w8_lt (w8_lt (by decide) (by omega) (by omega)) (by omega) (by omega)) (by omega) (by omega)) (mk8_lt (fun q => by split <;> exact Nat.mod_lt _ (by decide)) 7) (fun p hp => ?_)
  rw [w8_d (by omega) (by omega) (by omega), w8_d (by omega) (by omega) (by omega), w8_d (by omega) (by omega) (by omega), e7_d p hp]
  unfold mkM
  rw [d8_mk8 (fun q => by split <;> exact Nat.mod_lt _ (by decide)) 7 p hp]
  unfold sw3
  by_cases e : p = f
  · subst e
    rw [if_pos rfl, if_pos hf, Nat.mod_eq_of_lt (by omega)]
  · rw [if_neg e]
    by_cases e1 : p = c
    · subst e1
      rw [if_pos rfl, if_pos hc, Nat.mod_eq_of_lt (by omega)]
    · rw [if_neg e1]
      by_cases e2 : p = b
      · subst e2
        rw [if_pos rfl, if_pos hb, Nat.mod_eq_of_lt (by omega)]
      · rw [if_neg e2, Nat.mod_eq_of_lt (by omega)]
        split <;> rfl
theorem sw2_Pn {n : Nat} {b c : Nat} (hb : b < n) (hc : c < n) : Pn n (sw2 b c) := (Pn_swap (r := fun p => p) (fun _ _ => rfl) hb hc).congr (fun p hp => (sw2_is (r := fun p => p) (fun _ _ => rfl) hp).symm)
theorem sw3_Pn {n : Nat} {b c f : Nat} (hb : b < n) (hc : c < n) (hf : f < n) (h1 : b ≠ c) (h2 : c ≠ f) (h3 : f ≠ b) : Pn n (sw3 b c f) := (Pn_ring (r := fun p => p) (fun _ _ => rfl) hb hc hf h1 (fun e => h3 e.symm) h2).congr (fun p hp => (sw3_is (r := fun p => p) (fun _ _ => rfl) hp).symm)
/-! the class's rings -/
def hrS (x : Nat) : Nat → Nat
  | 0 => 0
  | p + 1 => if (hrS x p).testBit p = true then hrS x p else hrS x p ||| rg x p
def hr (x : Nat) : Nat → Nat
  | 0 => 0
  | p + 1 => if (hrS x p).testBit p = true then hr x p else hr x p + 1
theorem bf {b : Bool} (h : b = false) : ¬ b = true := fun e => by
  rw [h] at e
  exact absurd e (by decide)
theorem hrS_t {x p : Nat} (h : (hrS x p).testBit p = true) : hrS x p = hrS x (p + 1) := (if_pos h).symm
theorem hrS_f {x p : Nat} (h : (hrS x p).testBit p = false) : hrS x p ||| rg x p = hrS x (p + 1) := (if_neg (bf h)).symm
theorem hr_t {x p : Nat} (h : (hrS x p).testBit p = true) : hr x p = hr x (p + 1) := (if_pos h).symm
theorem hr_f {x p : Nat} (h : (hrS x p).testBit p = false) : hr x p + 1 = hr x (p + 1) := (if_neg (bf h)).symm
theorem hrS_lt {x : Nat} (hP : Pn 7 (d8 x)) : ∀ p, p ≤ 7 → hrS x p < 2 ^ 7
  | 0, _ => (by decide : (0 : Nat) < 2 ^ 7)
  | p + 1, hp => by
    have ih := hrS_lt hP p (by omega)
    show (if (hrS x p).testBit p = true then hrS x p else hrS x p ||| rg x p) < 2 ^ 7
    by_cases e : (hrS x p).testBit p = true
    · rw [if_pos e]; exact ih
    · rw [if_neg e]; exact Nat.or_lt_two_pow ih (rg_spec hP (by omega)).1
theorem hr_le (x : Nat) : ∀ p, hr x p ≤ p
  | 0 => Nat.le_refl 0
  | p + 1 => by
    have ih := hr_le x p
    show (if (hrS x p).testBit p = true then hr x p else hr x p + 1) ≤ p + 1
    by_cases e : (hrS x p).testBit p = true
    · rw [if_pos e]; omega
    · rw [if_neg e]; omega
def sgC (x k : Nat) : Int32 := if (k - hr x k) % 2 = 0 then nI 1 else (-1)
/-! the reference's pairs -/
def ivP (f : Nat → Nat) (fr p : Nat) : Nat → Nat
  | 0 => 0
  | q + 1 => ivP f fr p q + if f (fr + p) < f (fr + q) then 1 else 0
def iv (f : Nat → Nat) (fr : Nat) : Nat → Nat
  | 0 => 0
  | p + 1 => iv f fr p + ivP f fr p p
def sgv (k : Nat) : Int32 := if k % 2 = 0 then nI 1 else (-1)
theorem sgv_n (k : Nat) : -sgv k = sgv (k + 1) := by
  unfold sgv
  by_cases e : k % 2 = 0
  · rw [if_pos e, if_neg (by omega)]; decide
  · rw [if_neg e, if_pos (by omega)]; decide
theorem iv_n {f : Nat → Nat} {fr p q a : Nat} {z : Int32} (h : z = sgv (a + ivP f fr p q)) (e : f (fr + q) ≤ f (fr + p)) : z = sgv (a + ivP f fr p (q + 1)) := by
  rw [h]
  show _ = sgv (a + (ivP f fr p q + if f (fr + p) < f (fr + q) then 1 else 0))
  rw [if_neg (Nat.not_lt.mpr e), Nat.add_zero]
theorem iv_s {f : Nat → Nat} {fr p q a : Nat} {z : Int32} (h : z = sgv (a + ivP f fr p q)) (e : f (fr + p) < f (fr + q)) : -z = sgv (a + ivP f fr p (q + 1)) := by
  rw [h, sgv_n]
  show _ = sgv (a + (ivP f fr p q + if f (fr + p) < f (fr + q) then 1 else 0))
  rw [if_pos e, Nat.add_assoc]
theorem ivP_congr {f g : Nat → Nat} {fr p m : Nat} (hp : p < m) (h : ∀ i, i < m → f (fr + i) = g i) : ∀ q, q ≤ m → ivP f fr p q = ivP g 0 p q
  | 0, _ => rfl
  | q + 1, hq => by
    show ivP f fr p q + (if f (fr + p) < f (fr + q) then 1 else 0) = ivP g 0 p q + (if g (0 + p) < g (0 + q) then 1 else 0)
    rw [ivP_congr hp h q (by omega), h p hp, h q (by omega), Nat.zero_add, Nat.zero_add]
theorem iv_congr {f g : Nat → Nat} {fr m : Nat} (h : ∀ i, i < m → f (fr + i) = g i) : ∀ p, p ≤ m → iv f fr p = iv g 0 p
  | 0, _ => rfl
  | p + 1, hp => by
    show iv f fr p + ivP f fr p p = iv g 0 p + ivP g 0 p p
    rw [iv_congr h p (by omega), ivP_congr (by omega) h p (by omega)]
def sg (n x : Nat) : Int32 := sgv (iv (d8 x) 0 n)
/-- a ring's length, by going round -/
def lnF (f : Nat → Nat) (p : Nat) : Nat → Nat → Nat
  | 0, K => K
  | m + 1, K => if it f K p = p then K else lnF f p m (K + 1)
def lF (f : Nat → Nat) (n p : Nat) : Nat := lnF f p n 1
theorem lnF_Pd {f : Nat → Nat} {n p K : Nat} (h : Pd f n p K) : ∀ m j, 1 ≤ j → j ≤ K → K ≤ j + m → lnF f p m j = K
  | 0, j, _, h2, h3 => by
    show j = K
    omega
  | m + 1, j, h1, h2, h3 => by
    show (if it f j p = p then j else lnF f p m (j + 1)) = K
    by_cases e : j = K
    · subst e
      rw [if_pos h.2.2.1]
    · rw [if_neg (h.2.2.2 j h1 (by omega))]
      exact lnF_Pd h m (j + 1) (by omega) (by omega) (by omega)
theorem lF_Pd {f : Nat → Nat} {n p K : Nat} (h : Pd f n p K) : K = lF f n p := (lnF_Pd h n 1 (Nat.le_refl 1) h.1 (by have := h.2.1; omega)).symm
/-! order -/
def ocL (x : Nat) : Nat → Nat → Nat → Nat
  | 0, _, t => t
  | k + 1, r, t => if r = 1754760 then t else ocL x k (c7 r x) (t + 1)
def oC (x : Nat) : Nat := ocL x 11 x 1
def olc (l : Nat → Nat) : Nat → Nat
  | 0 => 1
  | p + 1 => olc l p / Nat.gcd (olc l p) (l p) * l p
theorem olc_s {l : Nat → Nat} {p y k : Nat} (h : y = olc l p) (e : k = l p) : y / Nat.gcd y k * k = olc l (p + 1) := by
  rw [h, e]
  rfl
theorem olc_congr {l l' : Nat → Nat} : ∀ p, (∀ i, i < p → l i = l' i) → olc l p = olc l' p
  | 0, _ => rfl
  | p + 1, h => by
    show olc l p / Nat.gcd (olc l p) (l p) * l p = olc l' p / Nat.gcd (olc l' p) (l' p) * l' p
    rw [olc_congr p (fun i hi => h i (by omega)), h p (Nat.lt_succ_self p)]
theorem olc_one {l : Nat → Nat} {n : Nat} : ∀ k, (∀ i, n ≤ i → i < n + k → l i = 1) → olc l (n + k) = olc l n
  | 0, _ => rfl
  | k + 1, h => by
    show olc l (n + k) / Nat.gcd (olc l (n + k)) (l (n + k)) * l (n + k) = olc l n
    rw [h (n + k) (by omega) (by omega), Nat.gcd_one_right, Nat.div_one, Nat.mul_one]
    exact olc_one k (fun i h1 h2 => h i h1 (by omega))
theorem pd_one {n x p : Nat} (hn : n ≤ 7) (hx : Mv n x) (h1 : n ≤ p) (h2 : p < 7) : lF (d8 x) 7 p = 1 := by
  refine (lF_Pd (n := 7) ⟨Nat.le_refl 1, by decide, ?_, fun j h3 h4 => by omega⟩).symm
  exact hx.2.2 p h1 h2
/-- with points that stay: as many more rings, no more pairs -/
theorem iv_top {n x : Nat} (hx : Mv n x) : ∀ k, n + k ≤ 7 → iv (d8 x) 0 (n + k) = iv (d8 x) 0 n
  | 0, _ => rfl
  | k + 1, hk => by
    have h0 : ∀ q, q ≤ n + k → ivP (d8 x) 0 (n + k) q = 0 := by
      intro q
      induction q with
      | zero => intro _; rfl
      | succ q ih =>
        intro hq
        show ivP (d8 x) 0 (n + k) q + (if d8 x (0 + (n + k)) < d8 x (0 + q) then 1 else 0) = 0
        rw [ih (by omega)]
        simp only [Nat.zero_add]
        rw [hx.2.2 (n + k) (by omega) (by omega), if_neg]
        by_cases e : q < n
        · have := hx.2.1.1 q e; omega
        · rw [hx.2.2 q (by omega) (by omega)]; omega
    show iv (d8 x) 0 (n + k) + ivP (d8 x) 0 (n + k) (n + k) = _
    rw [h0 (n + k) (Nat.le_refl _), Nat.add_zero]
    exact iv_top hx k (by omega)
theorem rg_fix {n x p : Nat} (hn : n ≤ 7) (hx : Mv n x) (h1 : n ≤ p) (h2 : p < 7) : rg x p = 2 ^ p := by
  have e := hx.2.2 p h1 h2
  show (if (0 : Nat).testBit p = true then 0 else rgL x 6 (0 ||| 2 ^ p) (d8 x p)) = 2 ^ p
  rw [if_neg (bf (Nat.zero_testBit p)), e, Nat.zero_or]
  exact (rgL_t (k := 6) Nat.testBit_two_pow_self).symm
theorem rg_in {n x p v : Nat} (hn : n ≤ 7) (hx : Mv n x) (hp : p < n) (h : (rg x p).testBit v = true) : v < n := by
  obtain ⟨j, rfl⟩ := (rg_bit (hx.P7 hn) (by omega)).mp h
  exact it_lt hx.2.1 hp j
theorem hrS_in {n x : Nat} (hn : n ≤ 7) (hx : Mv n x) : ∀ p, p ≤ 7 → ∀ v, (hrS x p).testBit v = true → v < n ∨ (n ≤ v ∧ v < p)
  | 0, _, v, h => by
    have h : (0 : Nat).testBit v = true := h
    rw [Nat.zero_testBit] at h
    exact absurd h (by decide)
  | p + 1, hp, v, h => by
    have ih := hrS_in hn hx p (by omega)
    by_cases e : (hrS x p).testBit p = true
    · rw [← hrS_t e] at h
      have := ih v h
      omega
    · have e : (hrS x p).testBit p = false := by
        cases q : (hrS x p).testBit p with
        | false => rfl
        | true => exact absurd q e
      rw [← hrS_f e, Nat.testBit_or, Bool.or_eq_true] at h
      rcases h with h | h
      · have := ih v h
        omega
      · by_cases q : p < n
        · exact Or.inl (rg_in hn hx q h)
        · rw [rg_fix hn hx (by omega) (by omega), Nat.testBit_two_pow] at h
          have := of_decide_eq_true h
          omega
theorem hr_top {n x : Nat} (hn : n ≤ 7) (hx : Mv n x) : ∀ k, n + k ≤ 7 → hr x (n + k) = hr x n + k
  | 0, _ => rfl
  | k + 1, hk => by
    have ih := hr_top hn hx k (by omega)
    have h : (hrS x (n + k)).testBit (n + k) = false := by
      cases q : (hrS x (n + k)).testBit (n + k) with
      | false => rfl
      | true => have := hrS_in hn hx (n + k) (by omega) _ q; omega
    have e := hr_f h
    show hr x (n + k + 1) = hr x n + (k + 1)
    omega
/-! points that stay -/
def stF (f : Nat → Nat) : Nat → Nat
  | 0 => 0
  | p + 1 => if f p = p then stF f p ||| 2 ^ p else stF f p
theorem stF_t {f : Nat → Nat} {p : Nat} (h : f p = p) : stF f p ||| 2 ^ p = stF f (p + 1) := (if_pos h).symm
theorem stF_f {f : Nat → Nat} {p : Nat} (h : ¬ f p = p) : stF f p = stF f (p + 1) := (if_neg h).symm
theorem stF_lt (f : Nat → Nat) : ∀ p, stF f p < 2 ^ p
  | 0 => (by decide : (0 : Nat) < 2 ^ 0)
  | p + 1 => by
    have ih := stF_lt f p
    have h2 : 2 ^ p < 2 ^ (p + 1) := Nat.pow_lt_pow_right (by decide) (Nat.lt_succ_self p)
    show (if f p = p then stF f p ||| 2 ^ p else stF f p) < 2 ^ (p + 1)
    by_cases e : f p = p
    · rw [if_pos e]; exact Nat.or_lt_two_pow (Nat.lt_trans ih h2) h2
    · rw [if_neg e]; exact Nat.lt_trans ih h2
theorem stF_31 (f : Nat → Nat) {p : Nat} (hp : p ≤ 7) : stF f p < 2 ^ 31 := Nat.lt_of_lt_of_le (stF_lt f p) (Nat.pow_le_pow_right (by decide) (by omega))
theorem stF_congr {f g : Nat → Nat} : ∀ p, (∀ i, i < p → f i = g i) → stF f p = stF g p
  | 0, _ => rfl
  | p + 1, h => by
    show (if f p = p then stF f p ||| 2 ^ p else stF f p) = (if g p = p then stF g p ||| 2 ^ p else stF g p)
    rw [stF_congr p (fun i hi => h i (by omega)), h p (Nat.lt_succ_self p)]
/-! like rings, by how many points are on rings of a length -/
def lo (f : Nat → Nat) (n L m : Nat) : Nat := cnt (fun p => lF f n p == L) m
theorem lo_1 {f : Nat → Nat} {n L m k : Nat} (e : k = lF f n m) (h : k = L) : lo f n L m + 1 = lo f n L (m + 1) := by
  show _ = cnt (fun p => lF f n p == L) m + (if (lF f n m == L) = true then 1 else 0)
  rw [if_pos (by rw [← e, h]; exact beq_self_eq_true L)]
  rfl
theorem lo_0 {f : Nat → Nat} {n L m k : Nat} (e : k = lF f n m) (h : ¬ k = L) : lo f n L m + 0 = lo f n L (m + 1) := by
  show _ = cnt (fun p => lF f n p == L) m + (if (lF f n m == L) = true then 1 else 0)
  rw [if_neg (fun q => h (by rw [e]; exact eq_of_beq q))]
  rfl
theorem lo_le (f : Nat → Nat) (n L m : Nat) : lo f n L m ≤ m := cnt_le _ m
theorem it_congr {n : Nat} {f g : Nat → Nat} (hf : Pn n f) (h : ∀ p, p < n → f p = g p) {p : Nat} (hp : p < n) : ∀ k, it f k p = it g k p
  | 0 => rfl
  | k + 1 => by
    have ih := it_congr hf h hp k
    show f (it f k p) = g (it g k p)
    rw [← ih]
    exact h _ (it_lt hf hp k)
theorem lF_ln {n x : Nat} (hn : n ≤ 7) (hx : Mv n x) {f : Nat → Nat} (hf : ∀ p, p < n → f p = d8 x p) {p : Nat} (hp : p < n) : lF f n p = ln x p := by
  have h7 := ln_Pd (hx.P7 hn) (show p < 7 by omega)
  have hfP : Pn n f := hx.2.1.congr (fun q hq => hf q hq)
  obtain ⟨K, k1, k2, k3, k4⟩ := Pd_ex hfP hp
  have e := lF_Pd (f := f) (n := n) ⟨k1, k2, k3, k4⟩
  have hi := fun k => it_congr hfP hf hp k
  have h8 : Pd (d8 x) 7 p K := ⟨k1, by omega, by rw [← hi K]; exact k3, fun j h1 h2 => by rw [← hi j]; exact k4 j h1 h2⟩
  rw [← e]
  exact h8.same h7
theorem ln_fix {n x p : Nat} (hn : n ≤ 7) (hx : Mv n x) (h1 : n ≤ p) (h2 : p < 7) : ln x p = 1 :=
  (ln_Pd (hx.P7 hn) h2).same ⟨Nat.le_refl 1, by decide, hx.2.2 p h1 h2, fun j h3 h4 => by omega⟩
theorem lo_rl {n x : Nat} (hn : n ≤ 7) (hx : Mv n x) {f : Nat → Nat} (hf : ∀ p, p < n → f p = d8 x p) (L : Nat) : L * rl x L 7 = lo f n L n + (if L = 1 then 7 - n else 0) := by
  rw [← pl_rl (hx.P7 hn) L, ct_cnt (B := fun p => ln x p == L) 7 (fun p _ => ⟨fun e => by rw [e]; exact beq_self_eq_true L, fun e => eq_of_beq e⟩)]
  obtain ⟨k, hk⟩ : ∃ k, 7 = n + k := ⟨7 - n, by omega⟩
  have h1 : cnt (fun p => ln x p == L) 7 = cnt (fun p => ln x p == L) (n + k) := by rw [← hk]
  rw [h1, cnt_split]
  congr 1
  · exact cnt_add n (fun p hp => by show (ln x p == L) = (lF f n p == L); rw [lF_ln hn hx hf hp])
  · by_cases e : L = 1
    · subst e
      rw [if_pos rfl, cnt_add (P := fun i => ln x (n + i) == 1) (Q := fun _ => true) k (fun i hi => by show (ln x (n + i) == 1) = true; rw [ln_fix hn hx (by omega) (by omega)]; rfl), cnt_all]
      omega
    · rw [if_neg e]
      exact cnt_0 k (fun i hi => by
        rw [ln_fix hn hx (by omega) (by omega)]
        exact beq_eq_false_iff_ne.mpr (fun q => e q.symm))
theorem lo_div {n x : Nat} (hn : n ≤ 7) (hx : Mv n x) {f : Nat → Nat} (hf : ∀ p, p < n → f p = d8 x p) {L : Nat} (hL : 1 ≤ L) : rl x L 7 = lo f n L n / L + (if L = 1 then 7 - n else 0) := by
  have h := lo_rl hn hx hf L
  by_cases e : L = 1
  · subst e
    rw [if_pos rfl] at h ⊢
    rw [Nat.div_one]
    omega
  · rw [if_neg e, Nat.add_zero] at h ⊢
    rw [← h, Nat.mul_div_cancel_left _ (by omega)]
theorem LK_lo {n x y : Nat} (hn : n ≤ 7) (hx : Mv n x) (hy : Mv n y) {f g : Nat → Nat} (hf : ∀ p, p < n → f p = d8 x p) (hg : ∀ p, p < n → g p = d8 y p) : LK x y ↔ ∀ L, 1 ≤ L → L ≤ n → lo f n L n / L = lo g n L n / L := by
  have h0 : ∀ {z : Nat} {h : Nat → Nat}, Mv n z → (∀ p, p < n → h p = d8 z p) → ∀ L, n < L → lo h n L n = 0 := fun {z h} hz hh L hL => cnt_0 n (fun p hp => by
    have := lF_ln hn hz hh hp
    have h2 := (Pd_ex (hz.2.1.congr (fun q hq => hh q hq)) hp)
    obtain ⟨K, hK⟩ := h2
    have h3 := lF_Pd hK
    have h4 := hK.2.1
    exact beq_eq_false_iff_ne.mpr (fun e => by omega))
  refine ⟨fun h L h1 h2 => ?_, fun h L h1 h2 => ?_⟩
  · have e := h L h1 (by omega)
    rw [lo_div hn hx hf h1, lo_div hn hy hg h1] at e
    omega
  · rw [lo_div hn hx hf h1, lo_div hn hy hg h1]
    by_cases q : L ≤ n
    · rw [h L h1 q]
    · rw [h0 hx hf L (by omega), h0 hy hg L (by omega)]
theorem oc_s {x r c : Nat} (hc : c < 12) (h : ¬ r = 1754760) : ocL x (12 - c) r c = ocL x (12 - (c + 1)) (c7 r x) (c + 1) := by
  obtain ⟨k, hk⟩ : ∃ k, 12 - c = k + 1 := ⟨11 - c, by omega⟩
  rw [hk, show 12 - (c + 1) = k by omega]
  exact if_neg h
theorem oc_12 {x r c : Nat} (hc : 12 ≤ c) : c = ocL x (12 - c) r c := by
  rw [show 12 - c = 0 by omega]
  rfl
theorem oc_e {x r c : Nat} (h : r = 1754760) : c = ocL x (12 - c) r c := by
  cases q : 12 - c with
  | zero => rfl
  | succ k => exact (if_pos h).symm
theorem st_1 {f : Nat → Nat} {p y : Nat} (h : y = stF f p) (e : f p = p) : y ||| 2 ^ p = stF f (p + 1) := by
  rw [h]; exact stF_t e
theorem st_0 {f : Nat → Nat} {p y : Nat} (h : y = stF f p) (e : ¬ f p = p) : y ||| 0 * 2 ^ p = stF f (p + 1) := by
  rw [h, Nat.zero_mul, Nat.or_zero]; exact stF_f e
/-! sign: what pairs tell and what rings tell is one (the last point is left out, again and again) -/
def byp (f : Nat → Nat) (n p : Nat) : Nat := if f p = n then f n else f p
def Ld (f : Nat → Nat) (p : Nat) : Prop := ∀ q, q < p → ¬ Ob f p q
section SIGN
variable {f : Nat → Nat} {n : Nat}
theorem byp_n {p : Nat} (h : f p = n) : byp f n p = f n := if_pos h
theorem byp_f {p : Nat} (h : ¬ f p = n) : byp f n p = f p := if_neg h
theorem byp_Pn (h : Pn (n + 1) f) : Pn n (byp f n) := by
  refine ⟨fun p hp => ?_, fun p q hp hq e => ?_⟩
  · have h1 := h.1 p (by omega)
    by_cases e : f p = n
    · rw [byp_n e]
      have h2 := h.1 n (by omega)
      have h3 : f n ≠ n := fun q => by have := h.2 p n (by omega) (by omega) (e.trans q.symm); omega
      omega
    · rw [byp_f e]; omega
  · by_cases a : f p = n
    · by_cases b : f q = n
      · exact h.2 p q (by omega) (by omega) (a.trans b.symm)
      · rw [byp_n a, byp_f b] at e
        have := h.2 n q (by omega) (by omega) e
        omega
    · by_cases b : f q = n
      · rw [byp_f a, byp_n b] at e
        have := h.2 p n (by omega) (by omega) e
        omega
      · rw [byp_f a, byp_f b] at e
        exact h.2 p q (by omega) (by omega) e
theorem byp_Ob1 {p : Nat} : ∀ j, Ob f p (it (byp f n) j p)
  | 0 => ⟨0, rfl⟩
  | j + 1 => by
    have ih := byp_Ob1 (p := p) j
    show Ob f p (byp f n (it (byp f n) j p))
    by_cases e : f (it (byp f n) j p) = n
    · rw [byp_n e]
      have h2 := ih.s.s
      rw [e] at h2
      exact h2
    · rw [byp_f e]
      exact ih.s
theorem byp_Ob2 (h : Pn (n + 1) f) {p : Nat} (hp : p < n) : ∀ j, (it f j p < n → Ob (byp f n) p (it f j p)) ∧ (it f j p = n → f n < n → Ob (byp f n) p (f n))
  | 0 => ⟨fun _ => ⟨0, rfl⟩, fun e => by
      have e : p = n := e
      omega⟩
  | j + 1 => by
    obtain ⟨i1, i2⟩ := byp_Ob2 h hp j
    have hu := it_lt h (show p < n + 1 by omega) j
    refine ⟨fun hv => ?_, fun hv hn => ?_⟩
    · have hv : f (it f j p) < n := hv
      show Ob (byp f n) p (f (it f j p))
      by_cases q : it f j p = n
      · rw [q] at hv ⊢
        exact i2 q hv
      · have h2 := (i1 (by omega)).s
        rw [byp_f (by omega)] at h2
        exact h2
    · have hv : f (it f j p) = n := hv
      by_cases q : it f j p = n
      · rw [q] at hv
        omega
      · have h2 := (i1 (by omega)).s
        rw [byp_n hv] at h2
        exact h2
theorem byp_Ld (h : Pn (n + 1) f) {p : Nat} (hp : p < n) : Ld f p ↔ Ld (byp f n) p := by
  refine ⟨fun a q hq ⟨j, e⟩ => a q hq ?_, fun a q hq ⟨j, e⟩ => a q hq ?_⟩
  · rw [← e]
    exact byp_Ob1 j
  · have := (byp_Ob2 h hp j).1 (by omega)
    rw [e] at this
    exact this
theorem Ld_n (h : Pn (n + 1) f) : Ld f n ↔ f n = n := by
  have h1 := h.1 n (by omega)
  refine ⟨fun a => Classical.byContradiction fun q => a (f n) (by omega) ⟨1, rfl⟩, fun e q hq ⟨j, ej⟩ => ?_⟩
  have hk : ∀ j, it f j n = n := by
    intro j
    induction j with
    | zero => rfl
    | succ j ih =>
      show f (it f j n) = n
      rw [ih, e]
  rw [hk j] at ej
  omega
theorem Ld_ct (h : Pn (n + 1) f) : ct (Ld f) (n + 1) = ct (Ld (byp f n)) n + (if f n = n then 1 else 0) := by
  show ct (Ld f) n + on (Ld f n) = _
  rw [ct_iff (fun i hi => byp_Ld h hi)]
  congr 1
  by_cases e : f n = n
  · rw [if_pos e, on_t ((Ld_n h).mpr e)]
  · rw [if_neg e, on_f (fun q => e ((Ld_n h).mp q))]
/-! pairs -/
theorem ivP_s {p q : Nat} : ivP f 0 p (q + 1) = ivP f 0 p q + if f p < f q then 1 else 0 := by
  show ivP f 0 p q + (if f (0 + p) < f (0 + q) then 1 else 0) = _
  rw [Nat.zero_add, Nat.zero_add]
theorem ivP_0 {p : Nat} : ∀ m, (∀ q, q < m → ¬ f p < f q) → ivP f 0 p m = 0
  | 0, _ => rfl
  | m + 1, h => by rw [ivP_s, ivP_0 m (fun q hq => h q (by omega)), if_neg (h m (Nat.lt_succ_self m))]
theorem ivP_eq {g : Nat → Nat} {p p' : Nat} (hp : f p = g p') : ∀ m, (∀ q, q < m → f q = g q) → ivP f 0 p m = ivP g 0 p' m
  | 0, _ => rfl
  | m + 1, h => by rw [ivP_s, ivP_s, ivP_eq hp m (fun q hq => h q (by omega)), hp, h m (Nat.lt_succ_self m)]
/-- lesser ones behind a place -/
def bhd (f : Nat → Nat) (p0 a : Nat) : Nat → Nat
  | 0 => 0
  | m + 1 => bhd f p0 a m + if p0 < m ∧ f m < a then 1 else 0
theorem bhd_0 {p0 a : Nat} : ∀ m, m ≤ p0 + 1 → bhd f p0 a m = 0
  | 0, _ => rfl
  | m + 1, h => by
    show bhd f p0 a m + (if p0 < m ∧ f m < a then 1 else 0) = 0
    rw [bhd_0 m (by omega), if_neg (fun q => by have := q.1; omega)]
theorem iv_byp (h : Pn (n + 1) f) : (iv f 0 (n + 1) + (if f n = n then 0 else 1)) % 2 = iv (byp f n) 0 n % 2 := by
  show (iv f 0 n + ivP f 0 n n + (if f n = n then 0 else 1)) % 2 = _
  by_cases e : f n = n
  · have hne : ∀ i, i < n → f i ≠ n := fun i hi q => by have := h.2 i n (by omega) (by omega) (q.trans e.symm); omega
    rw [if_pos e, ivP_0 n (fun q hq => by have := h.1 q (by omega); have := hne q hq; omega), iv_congr (f := f) (g := byp f n) (fr := 0) (m := n) (fun i hi => by rw [Nat.zero_add, byp_f (hne i hi)]) n (Nat.le_refl n)]
    omega
  · obtain ⟨p0, hp0, e0⟩ := inj_surj (n + 1) f h n (by omega)
    have hpn : p0 < n := by
      by_cases q : p0 = n
      · rw [q] at e0; exact absurd e0 e
      · omega
    have ha : f n < n := by have := h.1 n (by omega); omega
    have hne : ∀ i, i < n → i ≠ p0 → f i ≠ n := fun i hi q z => q (h.2 i p0 (by omega) (by omega) (z.trans e0.symm))
    have hg : ∀ i, i < n → i ≠ p0 → byp f n i = f i := fun i hi q => byp_f (hne i hi q)
    have hg0 : byp f n p0 = f n := byp_n e0
    have hna : ∀ i, i < n → f i ≠ f n := fun i hi z => by have := h.2 i n (by omega) (by omega) z; omega
    -- ahead of the place
    have h0 : iv f 0 p0 = iv (byp f n) 0 p0 := iv_congr (f := f) (g := byp f n) (fr := 0) (m := p0) (fun i hi => by rw [Nat.zero_add, hg i (by omega) (by omega)]) p0 (Nat.le_refl p0)
    have hr0 : ivP f 0 p0 p0 = 0 := ivP_0 p0 (fun q hq => by have := h.1 q (by omega); omega)
    -- rows behind it
    have hrow : ∀ m, p0 < m → m < n → ∀ q, q ≤ m → ivP f 0 m q + (if p0 < q ∧ f m < f n then 1 else 0) = ivP (byp f n) 0 m q + (if p0 < q then 1 else 0) := by
      intro m h1 h2 q
      induction q with
      | zero => intro _; rw [if_neg (by omega), if_neg (by omega)]; rfl
      | succ q ih =>
        intro hq
        have ih := ih (by omega)
        have hm := hg m h2 (by omega)
        have hfm := h.1 m (by omega)
        have hmn := hne m h2 (by omega)
        rw [ivP_s, ivP_s, hm]
        by_cases a : q = p0
        · subst a
          rw [hg0, e0, if_pos (show f m < n by omega)]
          rw [if_neg (by omega), if_neg (by omega)] at ih
          rw [if_pos (show q < q + 1 by omega)]
          by_cases b : f m < f n
          · rw [if_pos ⟨by omega, b⟩, if_pos b]; omega
          · rw [if_neg (fun z => b z.2), if_neg b]; omega
        · rw [hg q (by omega) a]
          have e1 : (if p0 < q + 1 ∧ f m < f n then 1 else 0 : Nat) = (if p0 < q ∧ f m < f n then 1 else 0) := by
            by_cases c : p0 < q ∧ f m < f n
            · rw [if_pos c, if_pos ⟨by omega, c.2⟩]
            · rw [if_neg c, if_neg (fun z => c ⟨by omega, z.2⟩)]
          have e2 : (if p0 < q + 1 then 1 else 0 : Nat) = (if p0 < q then 1 else 0) := by
            by_cases c : p0 < q
            · rw [if_pos c, if_pos (by omega)]
            · rw [if_neg c, if_neg (by omega)]
          rw [e1, e2]
          omega
    have c1 : ∀ m, p0 < m → m ≤ n → iv f 0 m + ivP (byp f n) 0 p0 p0 + bhd f p0 (f n) m = iv (byp f n) 0 m + (m - 1 - p0) := by
      intro m
      induction m with
      | zero => intro h1; omega
      | succ m ih =>
        intro h1 h2
        show iv f 0 m + ivP f 0 m m + ivP (byp f n) 0 p0 p0 + (bhd f p0 (f n) m + if p0 < m ∧ f m < f n then 1 else 0) = iv (byp f n) 0 m + ivP (byp f n) 0 m m + (m + 1 - 1 - p0)
        by_cases a : m = p0
        · subst a
          rw [hr0, bhd_0 m (by omega), h0, if_neg (fun z => by have := z.1; omega)]
          omega
        · have i := ih (by omega) (by omega)
          have r := hrow m (by omega) (by omega) m (Nat.le_refl m)
          rw [if_pos (show p0 < m by omega)] at r
          omega
    have c2 : ∀ m, p0 < m → m ≤ n → ivP f 0 n m + bhd f p0 (f n) m = ivP (byp f n) 0 p0 p0 + 1 + (m - 1 - p0) := by
      intro m
      induction m with
      | zero => intro h1; omega
      | succ m ih =>
        intro h1 h2
        show ivP f 0 n (m + 1) + (bhd f p0 (f n) m + if p0 < m ∧ f m < f n then 1 else 0) = _
        rw [ivP_s]
        by_cases a : m = p0
        · subst a
          rw [bhd_0 m (by omega), e0, if_pos ha, if_neg (fun z => by have := z.1; omega), ivP_eq (f := f) (g := byp f n) (p := n) (p' := m) hg0.symm m (fun q hq => (hg q (by omega) (by omega)).symm)]
          omega
        · have i := ih (by omega) (by omega)
          have hx := hna m (by omega)
          by_cases b : f m < f n
          · rw [if_neg (show ¬ f n < f m by omega), if_pos ⟨by omega, b⟩]; omega
          · rw [if_pos (show f n < f m by omega), if_neg (fun z => b z.2)]; omega
    have d1 := c1 n hpn (Nat.le_refl n)
    have d2 := c2 n hpn (Nat.le_refl n)
    rw [if_neg e]
    omega
theorem ct_le (P : Nat → Prop) : ∀ k, ct P k ≤ k
  | 0 => Nat.le_refl 0
  | k + 1 => by
    have ih := ct_le P k
    show ct P k + on (P k) ≤ k + 1
    by_cases q : P k
    · rw [on_t q]; omega
    · rw [on_f q]; omega
end SIGN
theorem inv_rings : ∀ (n : Nat) (f : Nat → Nat), Pn n f → (iv f 0 n + ct (Ld f) n + n) % 2 = 0
  | 0, _, _ => rfl
  | n + 1, f, h => by
    have ih := inv_rings n (byp f n) (byp_Pn h)
    have h1 := iv_byp h
    have h2 := Ld_ct h
    rw [h2]
    by_cases e : f n = n
    · rw [if_pos e] at h1 ⊢
      omega
    · rw [if_neg e] at h1 ⊢
      omega
theorem hrS_bit {x : Nat} (hP : Pn 7 (d8 x)) : ∀ p, p ≤ 7 → ∀ v, (hrS x p).testBit v = true ↔ ∃ q, q < p ∧ Ob (d8 x) q v
  | 0, _, v => by
    show (0 : Nat).testBit v = true ↔ _
    rw [Nat.zero_testBit]
    exact ⟨fun h => absurd h (by decide), fun ⟨q, h, _⟩ => absurd h (Nat.not_lt_zero q)⟩
  | p + 1, hp, v => by
    have ih := hrS_bit hP p (by omega)
    by_cases e : (hrS x p).testBit p = true
    · rw [← hrS_t e, ih v]
      obtain ⟨q', q1, q2⟩ := (ih p).mp e
      refine ⟨fun ⟨q, h1, h2⟩ => ⟨q, by omega, h2⟩, fun ⟨q, h1, h2⟩ => ?_⟩
      by_cases a : q = p
      · subst a
        exact ⟨q', q1, q2.tr h2⟩
      · exact ⟨q, by omega, h2⟩
    · have e : (hrS x p).testBit p = false := by
        cases q : (hrS x p).testBit p with
        | false => rfl
        | true => exact absurd q e
      rw [← hrS_f e, Nat.testBit_or, Bool.or_eq_true, ih v, rg_bit hP (by omega)]
      refine ⟨fun h => ?_, fun ⟨q, h1, h2⟩ => ?_⟩
      · rcases h with ⟨q, h1, h2⟩ | h
        · exact ⟨q, by omega, h2⟩
        · exact ⟨p, Nat.lt_succ_self p, h⟩
      · by_cases a : q = p
        · subst a; exact Or.inr h2
        · exact Or.inl ⟨q, by omega, h2⟩
theorem hr_ct {x : Nat} (hP : Pn 7 (d8 x)) : ∀ p, p ≤ 7 → hr x p = ct (Ld (d8 x)) p
  | 0, _ => rfl
  | p + 1, hp => by
    have ih := hr_ct hP p (by omega)
    show (if (hrS x p).testBit p = true then hr x p else hr x p + 1) = ct (Ld (d8 x)) p + on (Ld (d8 x) p)
    have hb := hrS_bit hP p (by omega) p
    by_cases e : (hrS x p).testBit p = true
    · obtain ⟨q, q1, q2⟩ := hb.mp e
      have hL : ¬ Ld (d8 x) p := fun a => a q q1 (q2.sy hP (by have := q2.lt hP (by omega); omega))
      rw [if_pos e, ih, on_f hL]
      rfl
    · have hL : Ld (d8 x) p := fun q hq ho => e (hb.mpr ⟨q, hq, ho.sy hP (by omega)⟩)
      rw [if_neg e, ih, on_t hL]
theorem sign_is {n x : Nat} (hn : n ≤ 7) (hx : Mv n x) : sgC x n = sg n x := by
  have h1 := inv_rings n (d8 x) hx.2.1
  have h2 := hr_ct (hx.P7 hn) n hn
  have h3 := hr_le x n
  have h4 : (n - hr x n) % 2 = iv (d8 x) 0 n % 2 := by omega
  unfold sgC sg sgv
  rw [h4]
/-! order: the least number that all rings' lengths divide -/
def orP (x : Nat) : Nat → Nat
  | 0 => x
  | t + 1 => c7 (orP x t) x
section ORDER
variable {x : Nat}
theorem orP_lt (hx : x < 2 ^ (3 * 7)) : ∀ t, orP x t < 2 ^ (3 * 7)
  | 0 => hx
  | t + 1 => c7_lt _ _
theorem orP_d (hP : Pn 7 (d8 x)) {p : Nat} (hp : p < 7) : ∀ t, d8 (orP x t) p = it (d8 x) (t + 1) p
  | 0 => rfl
  | t + 1 => by
    show d8 (c7 (orP x t) x) p = d8 x (it (d8 x) (t + 1) p)
    rw [c7_d hp, orP_d hP hp t]
theorem it_dvd (hP : Pn 7 (d8 x)) {p : Nat} (hp : p < 7) (k : Nat) : it (d8 x) k p = p ↔ ln x p ∣ k := by
  obtain ⟨a1, a2, a3, a4⟩ := ln_Pd hP hp
  refine ⟨fun h => ?_, fun ⟨m, hm⟩ => by rw [hm]; exact it_mul a3 m⟩
  have h1 := it_mod a3 k
  rw [h] at h1
  refine Nat.dvd_of_mod_eq_zero (Classical.byContradiction fun q => a4 (k % ln x p) (by omega) (Nat.mod_lt _ a1) h1)
theorem olc_lcm (l : Nat → Nat) (p : Nat) : olc l (p + 1) = Nat.lcm (olc l p) (l p) := by
  show olc l p / Nat.gcd (olc l p) (l p) * l p = olc l p * l p / Nat.gcd (olc l p) (l p)
  rw [Nat.mul_comm (olc l p) (l p), Nat.mul_div_assoc (l p) (Nat.gcd_dvd_left _ _), Nat.mul_comm]
theorem olc_dvd (l : Nat → Nat) : ∀ m k, olc l m ∣ k ↔ ∀ i, i < m → l i ∣ k
  | 0, k => ⟨fun _ i hi => absurd hi (Nat.not_lt_zero i), fun _ => Nat.one_dvd k⟩
  | m + 1, k => by
    rw [olc_lcm]
    refine ⟨fun h i hi => ?_, fun h => Nat.lcm_dvd ((olc_dvd l m k).mpr (fun i hi => h i (by omega))) (h m (Nat.lt_succ_self m))⟩
    by_cases e : i = m
    · rw [e]; exact Nat.dvd_trans (Nat.dvd_lcm_right _ _) h
    · exact (olc_dvd l m k).mp (Nat.dvd_trans (Nat.dvd_lcm_left _ _) h) i (by omega)
theorem orP_still (hx : x < 2 ^ (3 * 7)) (hP : Pn 7 (d8 x)) (t : Nat) : orP x t = 1754760 ↔ olc (ln x) 7 ∣ t + 1 := by
  rw [olc_dvd]
  refine ⟨fun h i hi => (it_dvd hP hi _).mp ?_, fun h => d8_ext 7 _ _ (orP_lt hx t) (by decide) (fun p hp => ?_)⟩
  · rw [← orP_d hP hi, h, e7_d i hi]
  · rw [orP_d hP hp, e7_d p hp]
    exact (it_dvd hP hp _).mpr (h p hp)
theorem ocL_is (hx : x < 2 ^ (3 * 7)) (hP : Pn 7 (d8 x)) : ∀ k t, t + 1 ≤ olc (ln x) 7 → olc (ln x) 7 ≤ t + 1 + k → ocL x k (orP x t) (t + 1) = olc (ln x) 7
  | 0, t, h1, h2 => by
    show t + 1 = _
    omega
  | k + 1, t, h1, h2 => by
    show (if orP x t = 1754760 then t + 1 else ocL x k (c7 (orP x t) x) (t + 1 + 1)) = _
    by_cases e : orP x t = 1754760
    · rw [if_pos e]
      have := Nat.le_of_dvd (by omega) ((orP_still hx hP t).mp e)
      omega
    · rw [if_neg e]
      have : t + 1 ≠ olc (ln x) 7 := fun q => e ((orP_still hx hP t).mpr (by rw [q]; exact Nat.dvd_refl _))
      exact ocL_is hx hP k (t + 1) (by omega) (by omega)
theorem ln_sum (hP : Pn 7 (d8 x)) : 1 * rl x 1 7 + (2 * rl x 2 7 + (3 * rl x 3 7 + (4 * rl x 4 7 + (5 * rl x 5 7 + (6 * rl x 6 7 + 7 * rl x 7 7))))) = 7 := by
  rw [← pl_rl hP 1, ← pl_rl hP 2, ← pl_rl hP 3, ← pl_rl hP 4, ← pl_rl hP 5, ← pl_rl hP 6, ← pl_rl hP 7]
  unfold ct
  rw [← sm_add, ← sm_add, ← sm_add, ← sm_add, ← sm_add, ← sm_add]
  rw [sm_congr (g := fun _ => 1) 7 (fun p hp => ?_)]
  · rfl
  · obtain ⟨a1, a2, _⟩ := ln_Pd hP hp
    show on (ln x p = 1) + (on (ln x p = 2) + (on (ln x p = 3) + (on (ln x p = 4) + (on (ln x p = 5) + (on (ln x p = 6) + on (ln x p = 7)))))) = 1
    have ho : ∀ L, on (ln x p = L) = if ln x p = L then 1 else 0 := fun L => by
      by_cases q : ln x p = L
      · rw [on_t q, if_pos q]
      · rw [on_f q, if_neg q]
    simp only [ho]
    rcases (show ln x p = 1 ∨ ln x p = 2 ∨ ln x p = 3 ∨ ln x p = 4 ∨ ln x p = 5 ∨ ln x p = 6 ∨ ln x p = 7 by omega) with e | e | e | e | e | e | e <;> rw [e] <;> rfl
theorem olc_12 (hP : Pn 7 (d8 x)) : 1 ≤ olc (ln x) 7 ∧ olc (ln x) 7 ≤ 12 := by
  have hs := ln_sum hP
  have hc : ∀ p, p < 7 → 1 ≤ rl x (ln x p) 7 ∧ 1 ≤ ln x p ∧ ln x p ≤ 7 := fun p hp => by
    obtain ⟨a1, a2, _⟩ := ln_Pd hP hp
    have h1 := sm_ge (f := fun i => on (ln x i = ln x p)) 7 hp
    have h2 : ct (fun i => ln x i = ln x p) 7 = ln x p * rl x (ln x p) 7 := pl_rl hP _
    have h1 : on (ln x p = ln x p) ≤ ct (fun i => ln x i = ln x p) 7 := h1
    rw [on_t rfl, h2] at h1
    refine ⟨?_, a1, a2⟩
    cases q : rl x (ln x p) 7 with
    | zero => rw [q, Nat.mul_zero] at h1; omega
    | succ k => omega
  have key : ∃ k, 1 ≤ k ∧ k ≤ 12 ∧ ∀ p, p < 7 → ln x p ∣ k := by
    by_cases c7 : rl x 7 7 = 0
    · by_cases c6 : rl x 6 7 = 0
      · by_cases c5 : rl x 5 7 = 0
        · refine ⟨12, by decide, by decide, fun p hp => ?_⟩
          obtain ⟨b1, b2, b3⟩ := hc p hp
          rcases (show ln x p = 1 ∨ ln x p = 2 ∨ ln x p = 3 ∨ ln x p = 4 ∨ ln x p = 5 ∨ ln x p = 6 ∨ ln x p = 7 by omega) with e | e | e | e | e | e | e <;> rw [e] at b1 ⊢ <;> first | decide | (exfalso; omega)
        · refine ⟨10, by decide, by decide, fun p hp => ?_⟩
          obtain ⟨b1, b2, b3⟩ := hc p hp
          rcases (show ln x p = 1 ∨ ln x p = 2 ∨ ln x p = 3 ∨ ln x p = 4 ∨ ln x p = 5 ∨ ln x p = 6 ∨ ln x p = 7 by omega) with e | e | e | e | e | e | e <;> rw [e] at b1 ⊢ <;> first | decide | (exfalso; omega)
      · refine ⟨6, by decide, by decide, fun p hp => ?_⟩
        obtain ⟨b1, b2, b3⟩ := hc p hp
        rcases (show ln x p = 1 ∨ ln x p = 2 ∨ ln x p = 3 ∨ ln x p = 4 ∨ ln x p = 5 ∨ ln x p = 6 ∨ ln x p = 7 by omega) with e | e | e | e | e | e | e <;> rw [e] at b1 ⊢ <;> first | decide | (exfalso; omega)
    · refine ⟨7, by decide, by decide, fun p hp => ?_⟩
      obtain ⟨b1, b2, b3⟩ := hc p hp
      rcases (show ln x p = 1 ∨ ln x p = 2 ∨ ln x p = 3 ∨ ln x p = 4 ∨ ln x p = 5 ∨ ln x p = 6 ∨ ln x p = 7 by omega) with e | e | e | e | e | e | e <;> rw [e] at b1 ⊢ <;> first | decide | (exfalso; omega)
  obtain ⟨k, k1, k2, k3⟩ := key
  have hd := (olc_dvd (ln x) 7 k).mpr k3
  have hle := Nat.le_of_dvd (by omega) hd
  refine ⟨Nat.pos_of_dvd_of_pos hd (by omega), by omega⟩
end ORDER
theorem order_is {n x : Nat} (hn : n ≤ 7) (hx : Mv n x) {l : Nat → Nat} (hl : ∀ p, p < n → l p = lF (d8 x) 7 p) : oC x = olc l n := by
  have hP := hx.P7 hn
  have h1 := olc_12 hP
  have h2 : oC x = olc (ln x) 7 := ocL_is hx.1 hP 11 0 h1.1 (by omega)
  obtain ⟨k, hk⟩ : ∃ k, 7 = n + k := ⟨7 - n, by omega⟩
  have h3 : olc (ln x) 7 = olc (ln x) n := by
    rw [show olc (ln x) 7 = olc (ln x) (n + k) by rw [← hk]]
    exact olc_one k (fun i a b => (ln_Pd hP (show i < 7 by omega)).same ⟨Nat.le_refl 1, by decide, hx.2.2 i a (by omega), fun j c d => by omega⟩)
  rw [h2, h3]
  exact olc_congr n (fun i hi => by rw [hl i hi]; exact lF_Pd (ln_Pd hP (show i < 7 by omega)))
