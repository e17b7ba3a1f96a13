/-! pure mathematics of the reference: counts, numbers, rows, permutations -/
def up (f : Nat → Nat) (i v : Nat) : Nat → Nat := fun j => if j = i then v else f j
theorem up_s (f : Nat → Nat) (i v : Nat) : up f i v i = v := if_pos rfl
theorem up_n {f : Nat → Nat} {i v j : Nat} (h : j ≠ i) : up f i v j = f j := if_neg h
theorem up_b {f : Nat → Nat} {i v m : Nat} (h : ∀ j, f j < m) (hv : v < m) : ∀ j, up f i v j < m := by
  intro j
  unfold up
  split
  · exact hv
  · exact h j
def cnt (P : Nat → Bool) : Nat → Nat
  | 0 => 0
  | k + 1 => cnt P k + (if P k = true then 1 else 0)
theorem cnt_le (P : Nat → Bool) : ∀ k, cnt P k ≤ k
  | 0 => Nat.le_refl _
  | k + 1 => by
    have := cnt_le P k
    simp only [cnt]
    split <;> omega
theorem cnt_mono {P P' : Nat → Bool} : ∀ k, (∀ i, i < k → P' i = true → P i = true) → cnt P' k ≤ cnt P k
  | 0, _ => Nat.le_refl _
  | k + 1, h => by
    have h1 := cnt_mono k (fun i hi => h i (by omega))
    have h2 := h k (by omega)
    simp only [cnt]
    split
    · rename_i e
      rw [if_pos (h2 e)]
      omega
    · split <;> omega
theorem cnt_lt {P P' : Nat → Bool} : ∀ k, (∀ i, i < k → P' i = true → P i = true) → ∀ j, j < k → P j = true → P' j = false → cnt P' k < cnt P k
  | 0, _, j, hj, _, _ => absurd hj (Nat.not_lt_zero j)
  | k + 1, h, j, hj, a, b => by
    have h2 := h k (by omega)
    by_cases e : j = k
    · subst e
      have h1 := cnt_mono j (fun i hi => h i (by omega))
      simp only [cnt, a, b]
      simp
      omega
    · have h1 := cnt_lt k (fun i hi => h i (by omega)) j (by omega) a b
      simp only [cnt]
      split
      · rename_i e
        rw [if_pos (h2 e)]
        omega
      · split <;> omega
theorem cnt_pos {P : Nat → Bool} : ∀ k j, j < k → P j = true → 1 ≤ cnt P k
  | 0, j, hj, _ => absurd hj (Nat.not_lt_zero j)
  | k + 1, j, hj, a => by
    simp only [cnt]
    by_cases e : j = k
    · subst e
      rw [if_pos a]
      omega
    · have := cnt_pos k j (by omega) a
      omega
theorem cnt_ex {P : Nat → Bool} : ∀ k, 1 ≤ cnt P k → ∃ j, j < k ∧ P j = true
  | 0, h => by simp [cnt] at h
  | k + 1, h => by
    by_cases e : P k = true
    · exact ⟨k, by omega, e⟩
    · simp only [cnt, if_neg e] at h
      obtain ⟨j, h1, h2⟩ := cnt_ex k (by omega)
      exact ⟨j, by omega, h2⟩
theorem cnt_add {P Q : Nat → Bool} : ∀ k, (∀ i, i < k → P i = Q i) → cnt P k = cnt Q k
  | 0, _ => rfl
  | k + 1, h => by
    simp only [cnt]
    rw [cnt_add k (fun i hi => h i (by omega)), h k (by omega)]
/-- the least of its kind -/
theorem least {P : Nat → Prop} : ∀ K, P K → ∃ k, k ≤ K ∧ P k ∧ ∀ j, j < k → ¬ P j := by
  intro K
  induction K using Nat.strongRecOn with
  | ind K ih =>
    intro h
    by_cases e : ∃ j, j < K ∧ P j
    · obtain ⟨j, hj, hp⟩ := e
      obtain ⟨k, h1, h2, h3⟩ := ih j hj hp
      exact ⟨k, by omega, h2, h3⟩
    · exact ⟨K, Nat.le_refl _, h, fun j hj hp => e ⟨j, hj, hp⟩⟩
def fc : Nat → Nat
  | 0 => 1
  | k + 1 => fc k * (k + 1)
theorem fc_pos : ∀ k, 0 < fc k
  | 0 => Nat.one_pos
  | k + 1 => Nat.mul_pos (fc_pos k) (Nat.succ_pos k)
theorem fc_mono {a : Nat} : ∀ b, a ≤ b → fc a ≤ fc b
  | 0, h => by rw [Nat.le_zero.mp h]; exact Nat.le_refl _
  | b + 1, h => by
    by_cases e : a = b + 1
    · rw [e]; exact Nat.le_refl _
    · exact Nat.le_trans (fc_mono b (by omega)) (Nat.le_mul_of_pos_right _ (Nat.succ_pos b))
theorem fc_7 {n : Nat} (h : n ≤ 7) : fc n ≤ 5040 := Nat.le_trans (fc_mono 7 h) (by decide)
theorem fc_s {k : Nat} (h : 1 ≤ k) : fc (k - 1) * k = fc k := by
  obtain ⟨m, rfl⟩ : ∃ m, k = m + 1 := ⟨k - 1, by omega⟩
  rfl
/-- how many lesser ones are not ahead -/
def les (f : Nat → Nat) (fr p : Nat) : Nat → Nat
  | 0 => 0
  | q + 1 => les f fr p q + (if p < q ∧ f (fr + q) < f (fr + p) then 1 else 0)
theorem les_0 (f : Nat → Nat) (fr p : Nat) : ∀ q, q ≤ p + 1 → les f fr p q = 0
  | 0, _ => rfl
  | q + 1, h => by
    simp only [les]
    rw [les_0 f fr p q (by omega), if_neg (by omega)]
theorem les_le (f : Nat → Nat) (fr p : Nat) : ∀ q, les f fr p q ≤ q - 1 - p
  | 0 => Nat.zero_le _
  | q + 1 => by
    have := les_le f fr p q
    simp only [les]
    split <;> omega
def nuF (f : Nat → Nat) (fr n : Nat) : Nat → Nat
  | 0 => 0
  | p + 1 => nuF f fr n p * (n - p) + les f fr p n
theorem nuF_lt (f : Nat → Nat) (fr n : Nat) : ∀ p, p ≤ n → (nuF f fr n p + 1) * fc (n - p) ≤ fc n
  | 0, _ => by simp [nuF]
  | p + 1, h => by
    have h1 := nuF_lt f fr n p (by omega)
    have h2 := les_le f fr p n
    obtain ⟨m, hm⟩ : ∃ m, n - p = m + 1 := ⟨n - p - 1, by omega⟩
    have hm2 : n - (p + 1) = m := by omega
    rw [hm] at h1
    rw [hm2]
    simp only [nuF, hm]
    have h4 : nuF f fr n p * (m + 1) + les f fr p n + 1 ≤ (nuF f fr n p + 1) * (m + 1) := by
      rw [Nat.add_mul, Nat.one_mul]
      omega
    refine Nat.le_trans (Nat.mul_le_mul_right _ h4) (Nat.le_trans (Nat.le_of_eq ?_) h1)
    rw [Nat.mul_assoc, Nat.mul_comm (m + 1) (fc m)]
    rfl
theorem nuF_b (f : Nat → Nat) (fr n : Nat) : nuF f fr n n < fc n := by
  have := nuF_lt f fr n n (Nat.le_refl n)
  rw [Nat.sub_self] at this
  have e : (nuF f fr n n + 1) * fc 0 = nuF f fr n n + 1 := Nat.mul_one _
  omega
/-- the row of a number -/
def dg (num : Nat) : Nat → Nat
  | 0 => num
  | j + 1 => dg num j / (j + 1)
def rwA (n num : Nat) : Nat → Nat := fun p => dg num (n - 1 - p) % (n - p)
def ins (f : Nat → Nat) (p q : Nat) : Nat → Nat := fun i => if p < i ∧ i < q ∧ f p ≤ f i then f i + 1 else f i
def rwB (n num : Nat) : Nat → Nat → Nat
  | 0 => rwA n num
  | j + 1 => ins (rwB n num j) (n - 2 - j) n
def rwF (n num : Nat) : Nat → Nat := rwB n num (n - 1)
theorem rwB_spec (n num : Nat) : ∀ j, j + 1 ≤ n → (∀ i, i < n - 1 - j → rwB n num j i = rwA n num i) ∧ (∀ i, n - 1 - j ≤ i → i < n → rwB n num j i < j + 1) ∧ (∀ i k, n - 1 - j ≤ i → i < n → n - 1 - j ≤ k → k < n → rwB n num j i = rwB n num j k → i = k)
  | 0, h => by
    refine ⟨fun i _ => rfl, fun i h1 h2 => ?_, fun i k h1 h2 h3 h4 _ => by omega⟩
    have e : n - i = 1 := by omega
    show dg num (n - 1 - i) % (n - i) < 1
    rw [e]
    exact Nat.mod_lt _ (by omega)
  | j + 1, h => by
    obtain ⟨A, B, C⟩ := rwB_spec n num j (by omega)
    have hp : rwB n num j (n - 2 - j) = rwA n num (n - 2 - j) := A _ (by omega)
    have hp2 : rwA n num (n - 2 - j) < j + 2 := by
      have e : n - (n - 2 - j) = j + 2 := by omega
      show dg num _ % (n - (n - 2 - j)) < j + 2
      rw [e]
      exact Nat.mod_lt _ (by omega)
    rw [← hp] at hp2
    refine ⟨fun i h1 => ?_, fun i h1 h2 => ?_, fun i k h1 h2 h3 h4 e => ?_⟩
    · show ins (rwB n num j) (n - 2 - j) n i = _
      unfold ins
      rw [if_neg (by omega)]
      exact A i (by omega)
    · show ins (rwB n num j) (n - 2 - j) n i < _
      unfold ins
      by_cases e : i = n - 2 - j
      · subst e
        rw [if_neg (by omega)]
        exact hp2
      · have := B i (by omega) h2
        split <;> omega
    · have e' : ins (rwB n num j) (n - 2 - j) n i = ins (rwB n num j) (n - 2 - j) n k := e
      unfold ins at e'
      by_cases ei : i = n - 2 - j
      · by_cases ek : k = n - 2 - j
        · omega
        · rw [ei] at e'
          rw [if_neg (by omega)] at e'
          split at e' <;> omega
      · by_cases ek : k = n - 2 - j
        · rw [ek] at e'
          rw [if_neg (show ¬ (n - 2 - j < n - 2 - j ∧ n - 2 - j < n ∧ rwB n num j (n - 2 - j) ≤ rwB n num j (n - 2 - j)) by omega)] at e'
          split at e' <;> omega
        · have hc := C i k (by omega) h2 (by omega) h4
          split at e' <;> split at e' <;> omega
/-- a permutation of the first n -/
def Pn (n : Nat) (f : Nat → Nat) : Prop := (∀ p, p < n → f p < n) ∧ ∀ p q, p < n → q < n → f p = f q → p = q
theorem rwF_Pn {n num : Nat} (hn : 1 ≤ n) : Pn n (rwF n num) := by
  obtain ⟨_, B, C⟩ := rwB_spec n num (n - 1) (by omega)
  exact ⟨fun p hp => by have := B p (by omega) hp; show rwB n num (n - 1) p < n; omega, fun p q hp hq e => C p q (by omega) hp (by omega) hq e⟩
theorem Pn.congr {n : Nat} {f g : Nat → Nat} (h : Pn n f) (e : ∀ p, p < n → g p = f p) : Pn n g :=
  ⟨fun p hp => by rw [e p hp]; exact h.1 p hp, fun p q hp hq x => h.2 p q hp hq (by rw [← e p hp, ← e q hq]; exact x)⟩
theorem Pn.comp {n : Nat} {f g : Nat → Nat} (h : Pn n f) (h' : Pn n g) : Pn n (fun p => g (f p)) :=
  ⟨fun p hp => h'.1 _ (h.1 p hp), fun p q hp hq e => h.2 p q hp hq (h'.2 _ _ (h.1 p hp) (h.1 q hq) e)⟩
theorem inj_surj : ∀ (n : Nat) (f : Nat → Nat), Pn n f → ∀ v, v < n → ∃ p, p < n ∧ f p = v
  | 0, _, _, v, hv => absurd hv (Nat.not_lt_zero v)
  | n + 1, f, h, v, hv => by
    have hg : Pn n (fun p => if f p = n then f n else f p) := by
      refine ⟨fun p hp => ?_, fun p q hp hq e => ?_⟩
      · have h1 := h.1 p (by omega)
        have h2 := h.1 n (by omega)
        have h3 := h.2 p n (by omega) (by omega)
        show (if f p = n then f n else f p) < n
        split <;> omega
      · have h1 := h.2 p n (by omega) (by omega)
        have h2 := h.2 q n (by omega) (by omega)
        have h3 := h.2 p q (by omega) (by omega)
        have e' : (if f p = n then f n else f p) = (if f q = n then f n else f q) := e
        split at e' <;> split at e' <;> omega
    have ih := inj_surj n _ hg
    have hn1 := h.1 n (by omega)
    by_cases e1 : f n = v
    · exact ⟨n, by omega, e1⟩
    · by_cases e2 : v = n
      · obtain ⟨p, hp, e⟩ := ih (f n) (by omega)
        have e' : (if f p = n then f n else f p) = f n := e
        have h3 := h.2 p n (by omega) (by omega)
        refine ⟨p, by omega, ?_⟩
        split at e'
        · omega
        · omega
      · obtain ⟨p, hp, e⟩ := ih v (by omega)
        have e' : (if f p = n then f n else f p) = v := e
        refine ⟨p, by omega, ?_⟩
        split at e'
        · omega
        · exact e'
def it (f : Nat → Nat) : Nat → Nat → Nat
  | 0, p => p
  | k + 1, p => f (it f k p)
theorem it_add (f : Nat → Nat) (p : Nat) (b : Nat) : ∀ a, it f (a + b) p = it f a (it f b p)
  | 0 => by rw [Nat.zero_add]; rfl
  | a + 1 => by
    rw [show a + 1 + b = (a + b) + 1 by omega]
    show f (it f (a + b) p) = f (it f a (it f b p))
    rw [it_add f p b a]
theorem it_lt {n : Nat} {f : Nat → Nat} (h : Pn n f) {p : Nat} (hp : p < n) : ∀ k, it f k p < n
  | 0 => hp
  | k + 1 => h.1 _ (it_lt h hp k)
theorem it_inj {n : Nat} {f : Nat → Nat} (h : Pn n f) {p q : Nat} (hp : p < n) (hq : q < n) : ∀ k, it f k p = it f k q → p = q
  | 0, e => e
  | k + 1, e => it_inj h hp hq k (h.2 _ _ (it_lt h hp k) (it_lt h hq k) e)
theorem it_Pn {n : Nat} {f : Nat → Nat} (h : Pn n f) (k : Nat) : Pn n (it f k) :=
  ⟨fun _ hp => it_lt h hp k, fun _ _ hp hq e => it_inj h hp hq k e⟩
/-- each point comes back -/
theorem it_ret {n : Nat} {f : Nat → Nat} (h : Pn n f) {p : Nat} (hp : p < n) : ∃ K, 1 ≤ K ∧ K ≤ n ∧ it f K p = p ∧ ∀ j, 1 ≤ j → j < K → it f j p ≠ p := by
  have h1 : ∃ K, 1 ≤ K ∧ K ≤ n ∧ it f K p = p := by
    refine Classical.byContradiction fun hn => ?_
    have hg : Pn (n + 1) (fun k => it f k p) := by
      refine ⟨fun k _ => by have := it_lt h hp k; show it f k p < n + 1; omega, fun a b ha hb e => ?_⟩
      have e' : it f a p = it f b p := e
      refine Classical.byContradiction fun hab => ?_
      rcases Nat.lt_or_gt_of_ne hab with hl | hl
      · have e2 : it f (a + (b - a)) p = it f b p := by rw [show a + (b - a) = b by omega]
        rw [it_add] at e2
        have := it_inj h (it_lt h hp (b - a)) hp a (e2.trans e'.symm)
        exact hn ⟨b - a, by omega, by omega, this⟩
      · have e2 : it f (b + (a - b)) p = it f a p := by rw [show b + (a - b) = a by omega]
        rw [it_add] at e2
        have := it_inj h (it_lt h hp (a - b)) hp b (e2.trans e')
        exact hn ⟨a - b, by omega, by omega, this⟩
    obtain ⟨k, _, hk⟩ := inj_surj (n + 1) _ hg n (by omega)
    have := it_lt h hp k
    have hk' : it f k p = n := hk
    omega
  obtain ⟨K, a, b, c⟩ := h1
  obtain ⟨k, h1, h2, h3⟩ := least (P := fun k => 1 ≤ k ∧ it f k p = p) K ⟨a, c⟩
  exact ⟨k, h2.1, by omega, h2.2, fun j hj hjk e => h3 j hjk ⟨hj, e⟩⟩
theorem it_mul {f : Nat → Nat} {p K : Nat} (h : it f K p = p) : ∀ m, it f (K * m) p = p
  | 0 => rfl
  | m + 1 => by rw [Nat.mul_succ, it_add, h]; exact it_mul h m
theorem it_mod {f : Nat → Nat} {p K : Nat} (h : it f K p = p) (T : Nat) : it f (T % K) p = it f T p := by
  have e : it f (T % K + K * (T / K)) p = it f T p := by rw [Nat.mod_add_div]
  rw [it_add, it_mul h] at e
  exact e
/-- the six moves are permutations -/
def PM (n : Nat) (mv : Nat → Nat) : Prop := ∀ k, k < 6 → Pn n (fun p => mv (k * 7 + p))
/-- a move is laid -/
def stM (mv : Nat → Nat) (c m : Nat) (its : Nat → Nat) : Nat → Nat := fun i => if c * 7 ≤ i ∧ i < c * 7 + m then its (i - c * 7) else mv i
theorem stM_at {mv its : Nat → Nat} {c m p : Nat} (hp : p < m) : stM mv c m its (c * 7 + p) = its p := by
  unfold stM
  rw [if_pos (by omega), show c * 7 + p - c * 7 = p by omega]
theorem stM_ne {mv its : Nat → Nat} {c m k p : Nat} (hm : m ≤ 7) (hp : p < 7) (h : k ≠ c) : stM mv c m its (k * 7 + p) = mv (k * 7 + p) := by
  unfold stM
  rw [if_neg (by omega)]
theorem stM_PM {n c : Nat} {mv its : Nat → Nat} (hn : n ≤ 7) (h : PM n mv) (hi : Pn n its) : PM n (stM mv c n its) := by
  intro k hk
  by_cases e : k = c
  · subst e
    exact hi.congr (fun p hp => stM_at hp)
  · exact (h k hk).congr (fun p hp => stM_ne hn (by omega) e)
theorem stM_b {mv its : Nat → Nat} {c m : Nat} (h : ∀ i, mv i < 7) (h' : ∀ i, its i < 7) : ∀ i, stM mv c m its i < 7 := by
  intro i
  unfold stM
  split
  · exact h' _
  · exact h _
theorem stM_0 (mv its : Nat → Nat) (c : Nat) : stM mv c 0 its = mv := by
  funext i
  unfold stM
  rw [if_neg (by omega)]
theorem stM_s (mv its : Nat → Nat) (c m : Nat) : up (stM mv c m its) (c * 7 + m) (its m) = stM mv c (m + 1) its := by
  funext i
  unfold up stM
  by_cases e : i = c * 7 + m
  · subst e
    rw [if_pos rfl, if_pos (by omega), show c * 7 + m - c * 7 = m by omega]
  · rw [if_neg e]
    by_cases e2 : c * 7 ≤ i ∧ i < c * 7 + m
    · rw [if_pos e2, if_pos (by omega)]
    · rw [if_neg e2, if_neg (by omega)]
theorem PM_id {n : Nat} {mv : Nat → Nat} (hn : n ≤ 7) (h : ∀ k p, k < 6 → p < n → mv (k * 7 + p) = p) : PM n mv :=
  fun k hk => ⟨fun p hp => by show mv (k * 7 + p) < n; rw [h k p hk hp]; exact hp, fun p q hp hq e => by
    have e' : mv (k * 7 + p) = mv (k * 7 + q) := e
    rwa [h k p hk hp, h k q hk hq] at e'⟩
theorem Pn_id (n : Nat) : Pn n (fun p => p) := ⟨fun _ hp => hp, fun _ _ _ _ e => e⟩
theorem Pn_inv {n : Nat} {f g h : Nat → Nat} (hf : Pn n f) (hh : Pn n h) (e : ∀ p, p < n → g (f p) = h p) : Pn n g := by
  refine ⟨fun v hv => ?_, fun u v hu hv x => ?_⟩
  · obtain ⟨p, hp, rfl⟩ := inj_surj n f hf v hv
    rw [e p hp]
    exact hh.1 p hp
  · obtain ⟨p, hp, rfl⟩ := inj_surj n f hf u hu
    obtain ⟨q, hq, rfl⟩ := inj_surj n f hf v hv
    rw [e p hp, e q hq] at x
    rw [hh.2 p q hp hq x]
