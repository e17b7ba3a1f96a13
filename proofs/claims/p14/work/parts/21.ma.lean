/-! moves as numbers with octal digits; what is done one behind the other -/
def d8 (x p : Nat) : Nat := x / 2 ^ (3 * p) % 2 ^ 3
def mk8 (f : Nat → Nat) : Nat → Nat
  | 0 => 0
  | k + 1 => mk8 f k + f k * 2 ^ (3 * k)
theorem e8 (k : Nat) : 2 ^ (3 * (k + 1)) = 2 ^ (3 * k) * 8 := by rw [Nat.mul_succ, Nat.pow_add]
theorem mk8_lt {f : Nat → Nat} (hf : ∀ p, f p < 8) : ∀ k, mk8 f k < 2 ^ (3 * k)
  | 0 => Nat.one_pos
  | k + 1 => by
    have h1 := mk8_lt hf k
    have h2 : f k * 2 ^ (3 * k) ≤ 7 * 2 ^ (3 * k) := Nat.mul_le_mul_right _ (by have := hf k; omega)
    have h3 := e8 k
    show mk8 f k + f k * 2 ^ (3 * k) < _
    omega
theorem d8_mk8 {f : Nat → Nat} (hf : ∀ p, f p < 8) : ∀ k p, p < k → d8 (mk8 f k) p = f p
  | 0, _, hp => absurd hp (Nat.not_lt_zero _)
  | k + 1, p, hp => by
    show (mk8 f k + f k * 2 ^ (3 * k)) / 2 ^ (3 * p) % 2 ^ 3 = f p
    by_cases e : p = k
    · subst e
      rw [Nat.add_mul_div_right _ _ (Nat.two_pow_pos _), Nat.div_eq_of_lt (mk8_lt hf p), Nat.zero_add]
      exact Nat.mod_eq_of_lt (hf p)
    · obtain ⟨j, rfl⟩ : ∃ j, k = p + 1 + j := ⟨k - (p + 1), by omega⟩
      have h1 : 2 ^ (3 * (p + 1 + j)) = 2 ^ (3 * j) * 2 ^ 3 * 2 ^ (3 * p) := by rw [← Nat.pow_add, ← Nat.pow_add]; congr 1; omega
      rw [h1, ← Nat.mul_assoc, Nat.add_mul_div_right _ _ (Nat.two_pow_pos _), ← Nat.mul_assoc, Nat.add_mul_mod_self_right]
      exact d8_mk8 hf _ p (by omega)
theorem d8_ext : ∀ k x y, x < 2 ^ (3 * k) → y < 2 ^ (3 * k) → (∀ p, p < k → d8 x p = d8 y p) → x = y
  | 0, x, y, hx, hy, _ => by
    rw [Nat.mul_zero, Nat.pow_zero] at hx hy
    omega
  | k + 1, x, y, hx, hy, h => by
    have h0 := h 0 (by omega)
    unfold d8 at h0
    rw [Nat.mul_zero, Nat.pow_zero, Nat.div_one, Nat.div_one] at h0
    have hs := e8 k
    have h1 : x / 8 = y / 8 := by
      refine d8_ext k _ _ (by omega) (by omega) (fun p hp => ?_)
      have h2 := h (p + 1) (by omega)
      unfold d8 at h2 ⊢
      rw [Nat.div_div_eq_div_mul, Nat.div_div_eq_div_mul, Nat.mul_comm 8, ← e8]
      exact h2
    omega
theorem mk8_congr {f g : Nat → Nat} : ∀ k, (∀ p, p < k → f p = g p) → mk8 f k = mk8 g k
  | 0, _ => rfl
  | k + 1, h => by
    show mk8 f k + f k * _ = mk8 g k + g k * _
    rw [mk8_congr k (fun p hp => h p (by omega)), h k (Nat.lt_succ_self k)]
theorem d8_lt (x p : Nat) : d8 x p < 8 := Nat.mod_lt _ (by decide)
/-- a move of n points -/
def Mv (n x : Nat) : Prop := x < 2 ^ (3 * 7) ∧ Pn n (d8 x) ∧ ∀ p, n ≤ p → p < 7 → d8 x p = p
theorem Mv.ext {n x y : Nat} (hx : Mv n x) (hy : Mv n y) (h : ∀ p, p < n → d8 x p = d8 y p) : x = y := by
  refine d8_ext 7 x y hx.1 hy.1 (fun p hp => ?_)
  by_cases e : p < n
  · exact h p e
  · rw [hx.2.2 p (by omega) hp, hy.2.2 p (by omega) hp]
def mkM (n : Nat) (f : Nat → Nat) : Nat := mk8 (fun p => if p < n then f p % 8 else p % 8) 7
theorem mkM_d {n : Nat} (hn : n ≤ 7) {f : Nat → Nat} (hf : ∀ p, p < n → f p < n) {p : Nat} (hp : p < n) : d8 (mkM n f) p = f p := by
  unfold mkM
  rw [d8_mk8 (fun q => by split <;> exact Nat.mod_lt _ (by decide)) 7 p (by omega), if_pos hp]
  have := hf p hp
  exact Nat.mod_eq_of_lt (by omega)
theorem mkM_Mv {n : Nat} (hn : n ≤ 7) {f : Nat → Nat} (hf : Pn n f) : Mv n (mkM n f) := by
  refine ⟨mk8_lt (fun q => by split <;> exact Nat.mod_lt _ (by decide)) 7, hf.congr (fun p hp => mkM_d hn hf.1 hp), fun p h1 h2 => ?_⟩
  unfold mkM
  rw [d8_mk8 (fun q => by split <;> exact Nat.mod_lt _ (by decide)) 7 p h2, if_neg (by omega)]
  exact Nat.mod_eq_of_lt (by omega)
/-- x, then y -/
def cM (n x y : Nat) : Nat := mkM n (fun p => d8 y (d8 x p))
def eM (n : Nat) : Nat := mkM n (fun p => p)
theorem cM_Mv {n x y : Nat} (hn : n ≤ 7) (hx : Mv n x) (hy : Mv n y) : Mv n (cM n x y) := mkM_Mv hn (Pn.comp hx.2.1 hy.2.1)
theorem cM_d {n x y p : Nat} (hn : n ≤ 7) (hx : Mv n x) (hy : Mv n y) (hp : p < n) : d8 (cM n x y) p = d8 y (d8 x p) := mkM_d hn (Pn.comp hx.2.1 hy.2.1).1 hp
theorem eM_Mv {n : Nat} (hn : n ≤ 7) : Mv n (eM n) := mkM_Mv hn (Pn_id n)
theorem eM_d {n p : Nat} (hn : n ≤ 7) (hp : p < n) : d8 (eM n) p = p := mkM_d hn (Pn_id n).1 hp
theorem cM_assoc {n x y z : Nat} (hn : n ≤ 7) (hx : Mv n x) (hy : Mv n y) (hz : Mv n z) : cM n (cM n x y) z = cM n x (cM n y z) := by
  refine (cM_Mv hn (cM_Mv hn hx hy) hz).ext (cM_Mv hn hx (cM_Mv hn hy hz)) (fun p hp => ?_)
  rw [cM_d hn (cM_Mv hn hx hy) hz hp, cM_d hn hx hy hp, cM_d hn hx (cM_Mv hn hy hz) hp, cM_d hn hy hz (hx.2.1.1 p hp)]
theorem cM_e {n x : Nat} (hn : n ≤ 7) (hx : Mv n x) : cM n x (eM n) = x := by
  refine (cM_Mv hn hx (eM_Mv hn)).ext hx (fun p hp => ?_)
  rw [cM_d hn hx (eM_Mv hn) hp, eM_d hn (hx.2.1.1 p hp)]
theorem eM_c {n x : Nat} (hn : n ≤ 7) (hx : Mv n x) : cM n (eM n) x = x := by
  refine (cM_Mv hn (eM_Mv hn) hx).ext hx (fun p hp => ?_)
  rw [cM_d hn (eM_Mv hn) hx hp, eM_d hn hp]
/-- the point that goes to v -/
def so (f : Nat → Nat) (v : Nat) : Nat → Nat
  | 0 => 0
  | k + 1 => if f k = v then k else so f v k
theorem so_spec {f : Nat → Nat} {v : Nat} : ∀ k, (∃ p, p < k ∧ f p = v) → so f v k < k ∧ f (so f v k) = v
  | 0, ⟨_, hp, _⟩ => absurd hp (Nat.not_lt_zero _)
  | k + 1, ⟨p, hp, e⟩ => by
    unfold so
    by_cases q : f k = v
    · rw [if_pos q]; exact ⟨Nat.lt_succ_self _, q⟩
    · rw [if_neg q]
      have hpk : p < k := by
        by_cases z : p = k
        · subst z; exact absurd e q
        · omega
      obtain ⟨h1, h2⟩ := so_spec k ⟨p, hpk, e⟩
      exact ⟨by omega, h2⟩
def iM (n x : Nat) : Nat := mkM n (fun v => so (d8 x) v n)
theorem so_Pn {n x : Nat} (hx : Mv n x) {v : Nat} (hv : v < n) : so (d8 x) v n < n ∧ d8 x (so (d8 x) v n) = v := so_spec n (inj_surj n _ hx.2.1 v hv)
theorem iM_Pn {n x : Nat} (hx : Mv n x) : Pn n (fun v => so (d8 x) v n) :=
  ⟨fun v hv => (so_Pn hx hv).1, fun u v hu hv e => by
    have h1 := (so_Pn hx hu).2
    have h2 := (so_Pn hx hv).2
    have e : so (d8 x) u n = so (d8 x) v n := e
    rw [e, h2] at h1
    exact h1.symm⟩
theorem iM_Mv {n x : Nat} (hn : n ≤ 7) (hx : Mv n x) : Mv n (iM n x) := mkM_Mv hn (iM_Pn hx)
theorem iM_d {n x v : Nat} (hn : n ≤ 7) (hx : Mv n x) (hv : v < n) : d8 (iM n x) v = so (d8 x) v n := mkM_d hn (iM_Pn hx).1 hv
theorem iM_c {n x : Nat} (hn : n ≤ 7) (hx : Mv n x) : cM n (iM n x) x = eM n := by
  refine (cM_Mv hn (iM_Mv hn hx) hx).ext (eM_Mv hn) (fun p hp => ?_)
  rw [cM_d hn (iM_Mv hn hx) hx hp, iM_d hn hx hp, (so_Pn hx hp).2, eM_d hn hp]
theorem c_iM {n x : Nat} (hn : n ≤ 7) (hx : Mv n x) : cM n x (iM n x) = eM n := by
  refine (cM_Mv hn hx (iM_Mv hn hx)).ext (eM_Mv hn) (fun p hp => ?_)
  have hv := hx.2.1.1 p hp
  rw [cM_d hn hx (iM_Mv hn hx) hp, iM_d hn hx hv, eM_d hn hp]
  exact hx.2.1.2 _ _ (so_Pn hx hv).1 hp (so_Pn hx hv).2
