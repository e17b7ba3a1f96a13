/-! numbers of permutations: no two have one; the row of a number has it -/
theorem cnt_or (P Q : Nat → Bool) : ∀ k, (∀ i, i < k → P i = true → Q i = false) → cnt (fun i => P i || Q i) k = cnt P k + cnt Q k
  | 0, _ => rfl
  | k + 1, h => by
    have ih := cnt_or P Q k (fun i hi => h i (by omega))
    have hk := h k (Nat.lt_succ_self k)
    show cnt (fun i => P i || Q i) k + (if (P k || Q k) = true then 1 else 0) = (cnt P k + (if P k = true then 1 else 0)) + (cnt Q k + (if Q k = true then 1 else 0))
    rw [ih]
    cases hp : P k with
    | true =>
      have hq := hk hp
      rw [hq, Bool.or_false, if_pos rfl, if_neg Bool.false_ne_true]
      omega
    | false =>
      rw [Bool.false_or, if_neg Bool.false_ne_true]
      omega
theorem cnt_0 {P : Nat → Bool} : ∀ k, (∀ i, i < k → P i = false) → cnt P k = 0
  | 0, _ => rfl
  | k + 1, h => by
    show cnt P k + (if P k = true then 1 else 0) = 0
    rw [cnt_0 k (fun i hi => h i (by omega)), h k (Nat.lt_succ_self k), if_neg Bool.false_ne_true]
theorem cnt_all : ∀ k, cnt (fun _ => true) k = k
  | 0 => rfl
  | k + 1 => by
    show cnt (fun _ => true) k + (if true = true then 1 else 0) = k + 1
    rw [cnt_all k, if_pos rfl]
theorem cnt_one {r : Nat} : ∀ k, r < k → cnt (fun i => decide (i = r)) k = 1
  | 0, h => absurd h (Nat.not_lt_zero _)
  | k + 1, h => by
    show cnt (fun i => decide (i = r)) k + (if decide (k = r) = true then 1 else 0) = 1
    by_cases e : k = r
    · rw [if_pos (decide_eq_true e), cnt_0 k (fun i hi => decide_eq_false (by omega))]
    · rw [if_neg (by rw [decide_eq_true_eq]; exact e), cnt_one k (by omega)]
/-- how many of a permutation's goals lie below v -/
theorem Pn_cnt {n : Nat} {f : Nat → Nat} (h : Pn n f) : ∀ v, v ≤ n → cnt (fun q => decide (f q < v)) n = v
  | 0, _ => cnt_0 n (fun i _ => decide_eq_false (Nat.not_lt_zero _))
  | v + 1, hv => by
    have ih := Pn_cnt h v (by omega)
    obtain ⟨p, hp, hpv⟩ := inj_surj n f h v (by omega)
    have e1 : cnt (fun q => decide (f q < v + 1)) n = cnt (fun q => decide (f q < v) || decide (f q = v)) n := by
      refine cnt_add n (fun i _ => ?_)
      by_cases a : f i < v
      · rw [decide_eq_true a, Bool.true_or, decide_eq_true (by omega)]
      · by_cases b : f i = v
        · rw [decide_eq_true b, Bool.or_true, decide_eq_true (by omega)]
        · rw [decide_eq_false a, decide_eq_false b, Bool.false_or, decide_eq_false (by omega)]
    have e2 : cnt (fun q => decide (f q = v)) n = cnt (fun q => decide (q = p)) n := by
      refine cnt_add n (fun i hi => ?_)
      by_cases a : i = p
      · rw [decide_eq_true a, a, decide_eq_true hpv]
      · rw [decide_eq_false a, decide_eq_false (fun b => a (h.2 i p hi hp (b.trans hpv.symm)))]
    rw [e1, cnt_or _ _ n (fun i _ hi => decide_eq_false (by have := of_decide_eq_true hi; omega)), ih, e2, cnt_one n hp]
theorem les_cnt (f : Nat → Nat) (p : Nat) : ∀ k, cnt (fun j => decide (f j < f p)) (p + 1 + k) = cnt (fun j => decide (f j < f p)) p + les f 0 p (p + 1 + k)
  | 0 => by
    show cnt (fun j => decide (f j < f p)) p + (if decide (f p < f p) = true then 1 else 0) = _
    rw [if_neg (by rw [decide_eq_true_eq]; exact Nat.lt_irrefl _), Nat.add_zero, show les f 0 p (p + 1 + 0) = 0 from les_0 f 0 p (p + 1) (Nat.le_refl _), Nat.add_zero]
  | k + 1 => by
    have ih := les_cnt f p k
    show cnt (fun j => decide (f j < f p)) (p + 1 + k) + (if decide (f (p + 1 + k) < f p) = true then 1 else 0) = _ + (les f 0 p (p + 1 + k) + (if p < p + 1 + k ∧ f (0 + (p + 1 + k)) < f (0 + p) then 1 else 0))
    rw [ih, Nat.zero_add, Nat.zero_add]
    by_cases a : f (p + 1 + k) < f p
    · rw [if_pos (decide_eq_true a), if_pos ⟨by omega, a⟩, Nat.add_assoc]
    · rw [if_neg (by rw [decide_eq_true_eq]; exact a), if_neg (fun b => a b.2)]
      omega
theorem les_is {n : Nat} {f : Nat → Nat} (h : Pn n f) {p : Nat} (hp : p < n) : cnt (fun j => decide (f j < f p)) p + les f 0 p n = f p := by
  have h1 := les_cnt f p (n - (p + 1))
  rw [show p + 1 + (n - (p + 1)) = n by omega, Pn_cnt h (f p) (Nat.le_of_lt (h.1 p hp))] at h1
  exact h1.symm
theorem dm {a b m r s : Nat} (hr : r < m) (hs : s < m) (h : a * m + r = b * m + s) : a = b ∧ r = s := by
  have h1 : (m * a + r) / m = a := by rw [Nat.mul_add_div (by omega), Nat.div_eq_of_lt hr, Nat.add_zero]
  have h2 : (m * b + s) / m = b := by rw [Nat.mul_add_div (by omega), Nat.div_eq_of_lt hs, Nat.add_zero]
  rw [Nat.mul_comm a, Nat.mul_comm b] at h
  have e : a = b := by rw [← h1, h, h2]
  subst e
  exact ⟨rfl, Nat.add_left_cancel h⟩
theorem nu_eq {n : Nat} {f g : Nat → Nat} : ∀ k, k ≤ n → nuF f 0 n k = nuF g 0 n k → ∀ p, p < k → les f 0 p n = les g 0 p n
  | 0, _, _, p, hp => absurd hp (Nat.not_lt_zero _)
  | k + 1, hk, e, p, hp => by
    have e : nuF f 0 n k * (n - k) + les f 0 k n = nuF g 0 n k * (n - k) + les g 0 k n := e
    have l1 := les_le f 0 k n
    have l2 := les_le g 0 k n
    obtain ⟨e1, e2⟩ := dm (by omega) (by omega) e
    by_cases q : p = k
    · rw [q]; exact e2
    · exact nu_eq k (by omega) e1 p (by omega)
theorem cnt_eq1 {g : Nat → Nat} {v : Nat} : ∀ p, (∀ i j, i < p → j < p → g i = g j → i = j) → cnt (fun j => decide (g j = v)) p ≤ 1
  | 0, _ => Nat.zero_le _
  | p + 1, h => by
    show cnt (fun j => decide (g j = v)) p + (if decide (g p = v) = true then 1 else 0) ≤ 1
    by_cases e : g p = v
    · rw [if_pos (decide_eq_true e), cnt_0 p (fun i hi => decide_eq_false (fun q => by have := h i p (by omega) (by omega) (q.trans e.symm); omega))]
      exact Nat.le_refl _
    · rw [if_neg (by rw [decide_eq_true_eq]; exact e), Nat.add_zero]
      exact cnt_eq1 p (fun i j hi hj => h i j (by omega) (by omega))
theorem cnt_lt1 {g : Nat → Nat} {p : Nat} (v : Nat) : cnt (fun j => decide (g j < v + 1)) p = cnt (fun j => decide (g j < v)) p + cnt (fun j => decide (g j = v)) p := by
  rw [← cnt_or _ _ p (fun i _ hi => decide_eq_false (by have := of_decide_eq_true hi; omega))]
  refine cnt_add p (fun i _ => ?_)
  by_cases a : g i < v
  · rw [decide_eq_true a, Bool.true_or, decide_eq_true (by omega)]
  · by_cases b : g i = v
    · rw [decide_eq_true b, Bool.or_true, decide_eq_true (by omega)]
    · rw [decide_eq_false a, decide_eq_false b, Bool.false_or, decide_eq_false (by omega)]
theorem cnt_between {g : Nat → Nat} {p : Nat} (h : ∀ i j, i < p → j < p → g i = g j → i = j) (a : Nat) : ∀ k, cnt (fun j => decide (g j < a + k)) p ≤ cnt (fun j => decide (g j < a)) p + k
  | 0 => Nat.le_refl _
  | k + 1 => by
    have ih := cnt_between h a k
    have h1 := cnt_lt1 (g := g) (p := p) (a + k)
    have h2 := cnt_eq1 (v := a + k) p h
    show cnt (fun j => decide (g j < a + k + 1)) p ≤ _
    omega
theorem nu_lt {n : Nat} {g : Nat → Nat} (hg : Pn n g) {p a : Nat} (hp : p < n) (ha : ∀ j, j < p → g j ≠ a) (h : a < g p) : cnt (fun j => decide (g j < g p)) p + (a + 1) ≤ cnt (fun j => decide (g j < a)) p + g p := by
  have h1 := cnt_between (g := g) (p := p) (fun i j hi hj => hg.2 i j (by omega) (by omega)) (a + 1) (g p - (a + 1))
  have h2 := cnt_lt1 (g := g) (p := p) a
  rw [cnt_0 (P := fun j => decide (g j = a)) p (fun i hi => decide_eq_false (ha i hi))] at h2
  rw [show a + 1 + (g p - (a + 1)) = g p by omega] at h1
  omega
/-- no two permutations have one number -/
theorem nu_inj {n : Nat} {f g : Nat → Nat} (hf : Pn n f) (hg : Pn n g) (e : nuF f 0 n n = nuF g 0 n n) : ∀ p, p < n → f p = g p := by
  have hl := nu_eq n (Nat.le_refl n) e
  intro p
  induction p using Nat.strongRecOn with
  | ind p ih =>
    intro hp
    have h1 := les_is hf hp
    have h2 := les_is hg hp
    have h3 := hl p hp
    have hA : ∀ v, cnt (fun j => decide (f j < v)) p = cnt (fun j => decide (g j < v)) p := fun v => cnt_add p (fun i hi => by rw [ih i hi (by omega)])
    refine Classical.byContradiction fun hne => ?_
    rcases Nat.lt_or_gt_of_ne hne with hlt | hlt
    · have h4 := nu_lt hg hp (a := f p) (fun j hj q => by have := hf.2 j p (by omega) hp ((ih j hj (by omega)).trans q); omega) hlt
      rw [hA] at h1
      omega
    · have h4 := nu_lt hf hp (a := g p) (fun j hj q => by have := hg.2 j p (by omega) hp ((ih j hj (by omega)).symm.trans q); omega) hlt
      rw [← hA] at h2
      omega
/-! the row of a number has that number -/
theorem dg_lt {num : Nat} : ∀ j m, num < fc j * m → dg num j < m
  | 0, m, h => by
    have h : num < 1 * m := h
    show num < m
    omega
  | j + 1, m, h => by
    have h : num < fc j * (j + 1) * m := h
    rw [Nat.mul_assoc] at h
    exact Nat.div_lt_of_lt_mul (dg_lt j ((j + 1) * m) h)
theorem ins_gt {f : Nat → Nat} {p n i k : Nat} (hi : p < i) (hi2 : i < n) (hk : p < k) (hk2 : k < n) : ins f p n k < ins f p n i ↔ f k < f i := by
  unfold ins
  by_cases a : f p ≤ f i <;> by_cases b : f p ≤ f k
  · rw [if_pos ⟨hk, hk2, b⟩, if_pos ⟨hi, hi2, a⟩]; omega
  · rw [if_neg (fun z => b z.2.2), if_pos ⟨hi, hi2, a⟩]; omega
  · rw [if_pos ⟨hk, hk2, b⟩, if_neg (fun z => a z.2.2)]; omega
  · rw [if_neg (fun z => b z.2.2), if_neg (fun z => a z.2.2)]
theorem les_ins {f : Nat → Nat} {p n i : Nat} (hi : p < i) (hi2 : i < n) : ∀ q, q ≤ n → les (ins f p n) 0 i q = les f 0 i q
  | 0, _ => rfl
  | q + 1, hq => by
    have ih := les_ins (f := f) hi hi2 q (by omega)
    show les (ins f p n) 0 i q + (if i < q ∧ ins f p n (0 + q) < ins f p n (0 + i) then 1 else 0) = les f 0 i q + (if i < q ∧ f (0 + q) < f (0 + i) then 1 else 0)
    rw [ih, Nat.zero_add, Nat.zero_add]
    by_cases a : i < q
    · have h := ins_gt (f := f) hi hi2 (show p < q by omega) (show q < n by omega)
      by_cases b : f q < f i
      · rw [if_pos ⟨a, h.mpr b⟩, if_pos ⟨a, b⟩]
      · rw [if_neg (fun z => b (h.mp z.2)), if_neg (fun z => b z.2)]
    · rw [if_neg (fun z => a z.1), if_neg (fun z => a z.1)]
theorem ins_self {f : Nat → Nat} {p n : Nat} : ins f p n p = f p := by
  unfold ins
  rw [if_neg (by omega)]
theorem les_new {f : Nat → Nat} {p n : Nat} (hp : p < n) (hm : f p ≤ n - (p + 1)) (hP : Pn (n - (p + 1)) (fun i => f (p + 1 + i))) : les (ins f p n) 0 p n = f p := by
  have h0 : ∀ k, k ≤ n - (p + 1) → les (ins f p n) 0 p (p + 1 + k) = cnt (fun i => decide (f (p + 1 + i) < f p)) k := by
    intro k
    induction k with
    | zero => intro _; exact les_0 _ _ _ _ (Nat.le_refl _)
    | succ k ih =>
      intro hk
      show les (ins f p n) 0 p (p + 1 + k) + (if p < p + 1 + k ∧ ins f p n (0 + (p + 1 + k)) < ins f p n (0 + p) then 1 else 0) = cnt (fun i => decide (f (p + 1 + i) < f p)) k + (if decide (f (p + 1 + k) < f p) = true then 1 else 0)
      rw [ih (by omega), Nat.zero_add, Nat.zero_add, ins_self]
      have h2 : ins f p n (p + 1 + k) < f p ↔ f (p + 1 + k) < f p := by
        unfold ins
        by_cases b : f p ≤ f (p + 1 + k)
        · rw [if_pos ⟨by omega, by omega, b⟩]; omega
        · rw [if_neg (fun z => b z.2.2)]
      by_cases b : f (p + 1 + k) < f p
      · rw [if_pos ⟨by omega, h2.mpr b⟩, if_pos (decide_eq_true b)]
      · rw [if_neg (fun z => b (h2.mp z.2)), if_neg (by rw [decide_eq_true_eq]; exact b)]
  have h1 := h0 (n - (p + 1)) (Nat.le_refl _)
  rw [show p + 1 + (n - (p + 1)) = n by omega] at h1
  rw [h1]
  exact Pn_cnt hP (f p) hm
theorem rw_les (n num : Nat) : ∀ j, j + 1 ≤ n → ∀ p, n - 1 - j ≤ p → p < n → les (rwB n num j) 0 p n = rwA n num p
  | 0, h, p, h1, h2 => by
    have e : p = n - 1 := by omega
    rw [les_0 _ _ _ _ (by omega)]
    subst e
    show 0 = dg num _ % (n - (n - 1))
    rw [show n - (n - 1) = 1 by omega, Nat.mod_one]
  | j + 1, h, p, h1, h2 => by
    obtain ⟨A, B, C⟩ := rwB_spec n num j (by omega)
    by_cases e : p = n - 2 - j
    · subst e
      have hp : rwB n num j (n - 2 - j) = rwA n num (n - 2 - j) := A _ (by omega)
      have hb : rwA n num (n - 2 - j) < j + 2 := by
        have e2 : n - (n - 2 - j) = j + 2 := by omega
        show dg num _ % (n - (n - 2 - j)) < j + 2
        rw [e2]
        exact Nat.mod_lt _ (by omega)
      show les (ins (rwB n num j) (n - 2 - j) n) 0 (n - 2 - j) n = _
      rw [← hp]
      refine les_new (by omega) (by omega) ⟨fun i hi => ?_, fun i k hi hk q => ?_⟩
      · have := B (n - 2 - j + 1 + i) (by omega) (by omega)
        show rwB n num j (n - 2 - j + 1 + i) < _
        omega
      · have := C (n - 2 - j + 1 + i) (n - 2 - j + 1 + k) (by omega) (by omega) (by omega) (by omega) q
        omega
    · show les (ins (rwB n num j) (n - 2 - j) n) 0 p n = _
      rw [les_ins (by omega) h2 n (Nat.le_refl _)]
      exact rw_les n num j (by omega) p (by omega) h2
theorem nu_rw {n num : Nat} (hn : 1 ≤ n) (hb : num < fc n) : nuF (rwF n num) 0 n n = num := by
  have hl : ∀ p, p < n → les (rwF n num) 0 p n = rwA n num p := fun p hp => rw_les n num (n - 1) (by omega) p (by omega) hp
  have hh : ∀ p, p ≤ n → nuF (rwF n num) 0 n p = dg num (n - p) := by
    intro p
    induction p with
    | zero =>
      intro _
      have := dg_lt (num := num) n 1 (by omega)
      show 0 = dg num (n - 0)
      rw [Nat.sub_zero]
      omega
    | succ p ih =>
      intro hp
      show nuF (rwF n num) 0 n p * (n - p) + les (rwF n num) 0 p n = _
      rw [ih (by omega), hl p (by omega)]
      show dg num (n - p) * (n - p) + dg num (n - 1 - p) % (n - p) = dg num (n - (p + 1))
      obtain ⟨j, hj⟩ : ∃ j, n - p = j + 1 := ⟨n - p - 1, by omega⟩
      rw [hj, show n - 1 - p = j by omega, show n - (p + 1) = j by omega]
      show dg num j / (j + 1) * (j + 1) + dg num j % (j + 1) = dg num j
      rw [Nat.mul_comm]
      exact Nat.div_add_mod _ _
  rw [hh n (Nat.le_refl n), Nat.sub_self]
  rfl
/-- a permutation is the row of its number -/
theorem rw_nu {n : Nat} {f : Nat → Nat} (hn : 1 ≤ n) (hf : Pn n f) : ∀ p, p < n → rwF n (nuF f 0 n n) p = f p :=
  nu_inj (rwF_Pn hn) hf (nu_rw hn (nuF_b f 0 n))
theorem nu_congr {n : Nat} {f g : Nat → Nat} (e : ∀ p, p < n → f p = g p) : nuF f 0 n n = nuF g 0 n n := by
  have hl : ∀ p q, p < n → q ≤ n → les f 0 p q = les g 0 p q := by
    intro p q hp
    induction q with
    | zero => intro _; rfl
    | succ q ih =>
      intro hq
      show les f 0 p q + (if p < q ∧ f (0 + q) < f (0 + p) then 1 else 0) = les g 0 p q + (if p < q ∧ g (0 + q) < g (0 + p) then 1 else 0)
      rw [ih (by omega), Nat.zero_add, Nat.zero_add, e q (by omega), e p hp]
  have hk : ∀ k, k ≤ n → nuF f 0 n k = nuF g 0 n k := by
    intro k
    induction k with
    | zero => intro _; rfl
    | succ k ih =>
      intro hk
      show nuF f 0 n k * (n - k) + les f 0 k n = nuF g 0 n k * (n - k) + les g 0 k n
      rw [ih (by omega), hl k n (by omega) (Nat.le_refl n)]
  exact hk n (Nat.le_refl n)
