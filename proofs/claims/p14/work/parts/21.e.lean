/-! moves: what keeps permutations -/
theorem PM_st {n c : Nat} {mv' mv its : Nat → Nat} (hn : n ≤ 7) (e : mv' = stM mv c n its) (h : PM n mv) (hi : Pn n its) : PM n mv' := by
  rw [e]
  exact stM_PM hn h hi
theorem Pn_row {n num : Nat} {r : Nat → Nat} (hn : 1 ≤ n) (e : ∀ p, p < n → r p = rwF n num p) : Pn n r := (rwF_Pn hn).congr e
theorem Pn_z {n : Nat} {f : Nat → Nat} (h : Pn n f) : Pn n (fun p => f (0 + p)) := h.congr (fun p _ => by rw [Nat.zero_add])
theorem Pn_swap {n u v : Nat} {r : Nat → Nat} (e : ∀ p, p < n → r p = p) (hu : u < n) (hv : v < n) : Pn n (up (up r u v) v u) := by
  refine ⟨fun p hp => ?_, fun p q hp hq x => ?_⟩
  · have := e p hp
    simp only [up]
    (repeat' split) <;> omega
  · have := e p hp
    have := e q hq
    simp only [up] at x
    (repeat' split at x) <;> omega
theorem Pn_ring {n u v t : Nat} {r : Nat → Nat} (e : ∀ p, p < n → r p = p) (hu : u < n) (hv : v < n) (ht : t < n) (h1 : ¬ u = v) (h2 : ¬ u = t) (h3 : ¬ v = t) : Pn n (up (up (up r u v) v t) t u) := by
  refine ⟨fun p hp => ?_, fun p q hp hq x => ?_⟩
  · have := e p hp
    simp only [up]
    (repeat' split) <;> omega
  · have := e p hp
    have := e q hq
    simp only [up] at x
    (repeat' split at x) <;> omega
theorem rot_mod {n p T : Nat} (hp : p < n) : (p + T) % n = if p + T % n < n then p + T % n else p + T % n - n := by
  have hn : 0 < n := by omega
  have hT := Nat.mod_lt T hn
  rw [← Nat.add_mod_mod]
  split
  · exact Nat.mod_eq_of_lt (by assumption)
  · rw [Nat.mod_eq_sub_mod (by omega)]
    exact Nat.mod_eq_of_lt (by omega)
theorem Pn_rot {n T : Nat} {r : Nat → Nat} (_ : 0 < n) (e : ∀ p, p < n → r p = (p + T) % n) : Pn n r := by
  refine ⟨fun p hp => by rw [e p hp]; exact Nat.mod_lt _ (by omega), fun p q hp hq x => ?_⟩
  have hT := Nat.mod_lt T (show 0 < n by omega)
  rw [e p hp, e q hq, rot_mod hp, rot_mod hq] at x
  split at x <;> split at x <;> omega
theorem Pn_rev {n : Nat} {r : Nat → Nat} (e : ∀ p, p < n → r p = n - 1 - p) : Pn n r := by
  refine ⟨fun p hp => by rw [e p hp]; omega, fun p q hp hq x => ?_⟩
  rw [e p hp, e q hq] at x
  omega
def sw (mv : Nat → Nat) (u v m : Nat) : Nat → Nat := fun i => if u * 7 ≤ i ∧ i < u * 7 + m then mv (i - u * 7 + v * 7) else if v * 7 ≤ i ∧ i < v * 7 + m then mv (i - v * 7 + u * 7) else mv i
theorem sw_0 (mv : Nat → Nat) (u v : Nat) : sw mv u v 0 = mv := by
  funext i
  unfold sw
  rw [if_neg (by omega), if_neg (by omega)]
theorem sw_u {mv : Nat → Nat} {u v m : Nat} (hm : m < 7) : sw mv u v m (u * 7 + m) = mv (u * 7 + m) := by
  unfold sw
  rw [if_neg (by omega), if_neg (by omega)]
theorem sw_v {mv : Nat → Nat} {u v m : Nat} (hm : m < 7) : sw mv u v m (v * 7 + m) = mv (v * 7 + m) := by
  unfold sw
  rw [if_neg (by omega), if_neg (by omega)]
theorem sw_s {mv : Nat → Nat} {u v m : Nat} (_ : u < 6) (_ : v < 6) (hm : m < 7) : up (up (sw mv u v m) (u * 7 + m) (sw mv u v m (v * 7 + m))) (v * 7 + m) (sw mv u v m (u * 7 + m)) = sw mv u v (m + 1) := by
  rw [sw_u hm, sw_v hm]
  funext i
  by_cases e1 : i = v * 7 + m
  · rw [e1, up_s]
    unfold sw
    by_cases e2 : u = v
    · subst e2
      rw [if_pos (by omega), show u * 7 + m - u * 7 + u * 7 = u * 7 + m by omega]
    · rw [if_neg (by omega), if_pos (by omega), show v * 7 + m - v * 7 + u * 7 = u * 7 + m by omega]
  · rw [up_n e1]
    by_cases e2 : i = u * 7 + m
    · rw [e2, up_s]
      unfold sw
      rw [if_pos (by omega), show u * 7 + m - u * 7 + v * 7 = v * 7 + m by omega]
    · rw [up_n e2]
      unfold sw
      by_cases g : u * 7 ≤ i ∧ i < u * 7 + m
      · rw [if_pos g, if_pos (by omega)]
      · rw [if_neg g, if_neg (show ¬ (u * 7 ≤ i ∧ i < u * 7 + (m + 1)) by omega)]
        by_cases g2 : v * 7 ≤ i ∧ i < v * 7 + m
        · rw [if_pos g2, if_pos (by omega)]
        · rw [if_neg g2, if_neg (by omega)]
theorem PM_sw {n u v c : Nat} {mv' mv : Nat → Nat} (hn : n ≤ 7) (e : mv' = sw mv u v c) (h : PM n mv) (hu : u < 6) (hv : v < 6) (hc : c = n) : PM n mv' := by
  subst e
  subst hc
  intro k hk
  by_cases e1 : k = u
  · subst e1
    refine (h v hv).congr (fun p hp => ?_)
    show sw mv k v c (k * 7 + p) = mv (v * 7 + p)
    unfold sw
    rw [if_pos (by omega), show k * 7 + p - k * 7 + v * 7 = v * 7 + p by omega]
  · by_cases e2 : k = v
    · subst e2
      refine (h u hu).congr (fun p hp => ?_)
      show sw mv u k c (k * 7 + p) = mv (u * 7 + p)
      unfold sw
      rw [if_neg (by omega), if_pos (by omega), show k * 7 + p - k * 7 + u * 7 = u * 7 + p by omega]
    · refine (h k hk).congr (fun p hp => ?_)
      show sw mv u v c (k * 7 + p) = mv (k * 7 + p)
      unfold sw
      rw [if_neg (by omega), if_neg (by omega)]
theorem int_of {c : Int32} {b : Nat} (hb : b < 100000) (h1 : -(b : Int) ≤ c.toInt) (h2 : c.toInt ≤ b) : ∃ k : Nat, k ≤ 2 * b ∧ c = nI k - nI b := by
  refine ⟨(c.toInt + b).toNat, by omega, ?_⟩
  apply Int32.toInt_inj.mp
  rw [pk_sub_toInt (by omega) (by omega)]
  omega
theorem pow_d : ∀ K, K < 8 → 1 ≤ K → ∀ i, i < 41 → ∀ j, j < 50 →
    (((nI (50 * i + j) - nI 1000) - (nI (50 * i + j) - nI 1000) / nI K * nI K) + nI K) - (((nI (50 * i + j) - nI 1000) - (nI (50 * i + j) - nI 1000) / nI K * nI K) + nI K) / nI K * nI K = nI ((50 * i + j + 260) % K) := by decide +kernel
theorem sh_900 (m : Nat) : nI (m + 900) - nI 1000 = nI m - nI 100 := by
  have h1 : nI (m + 900) = nI m + nI 900 := (nI_add _ _).symm
  have h2 : nI 1000 = nI 100 + nI 900 := by decide
  rw [h1, h2]
  grind
theorem sh_p (p k : Nat) : nI p + (nI k - nI 100) = nI (p + k) - nI 100 := by
  have h1 : nI (p + k) = nI p + nI k := (nI_add _ _).symm
  rw [h1]
  grind
theorem turn_d : ∀ n, n < 8 → 2 ≤ n → ∀ p, p < 7 → ∀ k, k < 201 →
    (((nI p + (nI k - nI 100)) - (nI p + (nI k - nI 100)) / nI n * nI n) + nI n) - (((nI p + (nI k - nI 100)) - (nI p + (nI k - nI 100)) / nI n * nI n) + nI n) / nI n * nI n = nI ((p + (k + 100 * n - 100)) % n) := by
  intro n hn hn2 p hp k hk
  have h := pow_d n hn (by omega) ((p + k + 900) / 50) (by omega) ((p + k + 900) % 50) (by omega)
  rw [show 50 * ((p + k + 900) / 50) + (p + k + 900) % 50 = p + k + 900 by omega, sh_900, ← sh_p] at h
  rw [h]
  congr 1
  rcases (show n = 2 ∨ n = 3 ∨ n = 4 ∨ n = 5 ∨ n = 6 ∨ n = 7 by omega) with e | e | e | e | e | e <;> subst e <;> omega
theorem turn_T {n : Nat} (hn1 : 2 ≤ n) (hn2 : n ≤ 7) {c : Int32} (h1 : (-100) ≤ c) (h2 : c ≤ nI 100) : ∃ T : Nat, ∀ p, p < n →
    (((nI p + c) - (nI p + c) / nI n * nI n) + nI n) - (((nI p + c) - (nI p + c) / nI n * nI n) + nI n) / nI n * nI n = nI ((p + T) % n) := by
  obtain ⟨k, hk, rfl⟩ := int_of (c := c) (b := 100) (by decide) (by have := Int32.le_iff_toInt_le.mp h1; have e : (-100 : Int32).toInt = -100 := (by decide); omega) (by have := Int32.le_iff_toInt_le.mp h2; rw [nI_toInt (by decide)] at this; exact this)
  exact ⟨k + 100 * n - 100, fun p hp => turn_d n (by omega) hn1 p (by omega) k (by omega)⟩
theorem pow_T {c : Int32} (h1 : (-1000) ≤ c) (h2 : c ≤ nI 1000) : ∃ T : Nat, ∀ K, 1 ≤ K → K ≤ 7 → ((c - c / nI K * nI K) + nI K) - ((c - c / nI K * nI K) + nI K) / nI K * nI K = nI (T % K) := by
  obtain ⟨k, hk, rfl⟩ := int_of (c := c) (b := 1000) (by decide) (by have := Int32.le_iff_toInt_le.mp h1; have e : (-1000 : Int32).toInt = -1000 := (by decide); omega) (by have := Int32.le_iff_toInt_le.mp h2; rw [nI_toInt (by decide)] at this; exact this)
  refine ⟨k + 260, fun K hK1 hK2 => ?_⟩
  have := pow_d K (by omega) hK1 (k / 50) (by omega) (k % 50) (by omega)
  rw [show 50 * (k / 50) + k % 50 = k by omega] at this
  exact this
/-- a measure of the walk from one to the next -/
def mu (F c : Nat) : Nat := if c = 0 then 0 else F + 1 - c
theorem mu_dec {F c c' f : Nat} (h : mu F c < f + 1) (hc : 1 ≤ c) (hF : c ≤ F) (h' : c' = 0 ∨ (c < c' ∧ c' ≤ F)) : mu F c' < f := by
  unfold mu at *
  rw [if_neg (by omega)] at h
  split <;> omega
