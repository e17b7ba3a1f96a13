section
/-! a group level by level: when all pairs of steps are made up, all is (Knuth) -/
def Ch (n : Nat) (rd : Nat → Nat) (rc : Nat → Nat → Bool) (st : Nat → Nat → Nat) : Prop :=
  ∀ l, l < n → rd l < n ∧ rc l (rd l) = true ∧ st l (rd l) = eM n ∧ ∀ g, g < n → rc l g = true → Mv n (st l g) ∧ (∀ j, j < l → d8 (st l g) (rd j) = rd j) ∧ d8 (st l g) (rd l) = g
def CP (n : Nat) (rc : Nat → Nat → Bool) (st : Nat → Nat → Nat) : Nat → Nat → Prop
  | 0, x => x = eM n
  | m + 1, x => ∃ g h, g < n ∧ rc (n - (m + 1)) g = true ∧ CP n rc st m h ∧ x = cM n h (st (n - (m + 1)) g)
section CHAIN
variable {n : Nat} {rd : Nat → Nat} {rc : Nat → Nat → Bool} {st : Nat → Nat → Nat}
theorem CP_Mv (hn : n ≤ 7) (hC : Ch n rd rc st) : ∀ m x, m ≤ n → CP n rc st m x → Mv n x ∧ ∀ j, j < n - m → d8 x (rd j) = rd j
  | 0, x, _, h => by
    have h : x = eM n := h
    subst h
    exact ⟨eM_Mv hn, fun j hj => eM_d hn (hC j (by omega)).1⟩
  | m + 1, x, hm, ⟨g, h, hg, hr, hh, hx⟩ => by
    obtain ⟨h1, h2⟩ := CP_Mv hn hC m h (by omega) hh
    obtain ⟨s1, s2, -⟩ := (hC (n - (m + 1)) (by omega)).2.2.2 g hg hr
    subst hx
    refine ⟨cM_Mv hn h1 s1, fun j hj => ?_⟩
    rw [cM_d hn h1 s1 (hC j (by omega)).1, h2 j (by omega), s2 j hj]
theorem CP_e (hn : n ≤ 7) (hC : Ch n rd rc st) : ∀ m, m ≤ n → CP n rc st m (eM n)
  | 0, _ => rfl
  | m + 1, hm => by
    obtain ⟨r1, r2, r3, -⟩ := hC (n - (m + 1)) (by omega)
    exact ⟨rd (n - (m + 1)), eM n, r1, r2, CP_e hn hC m (by omega), by rw [r3, cM_e hn (eM_Mv hn)]⟩
theorem CP_up (hn : n ≤ 7) (hC : Ch n rd rc st) {m x : Nat} (hm : m + 1 ≤ n) (h : CP n rc st m x) : CP n rc st (m + 1) x := by
  obtain ⟨r1, r2, r3, -⟩ := hC (n - (m + 1)) (by omega)
  exact ⟨rd (n - (m + 1)), x, r1, r2, h, by rw [r3, cM_e hn (CP_Mv hn hC m x (by omega) h).1]⟩
theorem CP_ups (hn : n ≤ 7) (hC : Ch n rd rc st) {m x : Nat} (h : CP n rc st m x) : ∀ k, m + k ≤ n → CP n rc st (m + k) x
  | 0, _ => h
  | k + 1, hk => CP_up hn hC hk (CP_ups hn hC h k (by omega))
/-- the step of its first level is told by where that point goes -/
theorem CP_goal (hn : n ≤ 7) (hC : Ch n rd rc st) {m g h : Nat} (hm : m + 1 ≤ n) (hg : g < n) (hr : rc (n - (m + 1)) g = true) (hh : CP n rc st m h) : d8 (cM n h (st (n - (m + 1)) g)) (rd (n - (m + 1))) = g := by
  obtain ⟨h1, h2⟩ := CP_Mv hn hC m h (by omega) hh
  obtain ⟨s1, s2, s3⟩ := (hC (n - (m + 1)) (by omega)).2.2.2 g hg hr
  rw [cM_d hn h1 s1 (hC (n - (m + 1)) (by omega)).1, h2 (n - (m + 1)) (by omega), s3]
theorem CP_down (hn : n ≤ 7) (hC : Ch n rd rc st) {m x : Nat} (hm : m + 1 ≤ n) (h : CP n rc st (m + 1) x) (hf : d8 x (rd (n - (m + 1))) = rd (n - (m + 1))) : CP n rc st m x := by
  obtain ⟨g, y, hg, hr, hy, rfl⟩ := h
  rw [CP_goal hn hC hm hg hr hy] at hf
  subst hf
  rw [(hC (n - (m + 1)) (by omega)).2.2.1, cM_e hn (CP_Mv hn hC m y (by omega) hy).1]
  exact hy
theorem CP_downs (hn : n ≤ 7) (hC : Ch n rd rc st) {m x : Nat} : ∀ k, m + k ≤ n → CP n rc st (m + k) x → (∀ j, j < n - m → d8 x (rd j) = rd j) → CP n rc st m x
  | 0, _, h, _ => h
  | k + 1, hk, h, hf => CP_downs hn hC k (by omega) (CP_down hn hC (m := m + k) hk h (hf _ (by omega))) hf
/-- all pairs of steps are made up -/
def CK (n : Nat) (rc : Nat → Nat → Bool) (st : Nat → Nat → Nat) : Prop := ∀ l l' g g', l < n → l' < n → g < n → g' < n → rc l g = true → rc l' g' = true → CP n rc st n (cM n (st l g) (st l' g'))
theorem CP_pair (hn : n ≤ 7) (hC : Ch n rd rc st) (hK : CK n rc st) {m l' g g' : Nat} (hm : m + 1 ≤ n) (hl : n - (m + 1) ≤ l') (hl2 : l' < n) (hg : g < n) (hg' : g' < n) (hr : rc (n - (m + 1)) g = true) (hr' : rc l' g' = true) : CP n rc st (m + 1) (cM n (st (n - (m + 1)) g) (st l' g')) := by
  obtain ⟨s1, s2, -⟩ := (hC (n - (m + 1)) (by omega)).2.2.2 g hg hr
  obtain ⟨t1, t2, -⟩ := (hC l' hl2).2.2.2 g' hg' hr'
  refine CP_downs hn hC (n - (m + 1)) (by omega) ?_ (fun j hj => ?_)
  · rw [show m + 1 + (n - (m + 1)) = n by omega]
    exact hK _ _ _ _ (by omega) hl2 hg hg' hr hr'
  · rw [cM_d hn s1 t1 (hC j (by omega)).1, s2 j hj, t2 j (by omega)]
theorem CP_step (hn : n ≤ 7) (hC : Ch n rd rc st) (hK : CK n rc st) {m : Nat} (hm : m + 1 ≤ n) (ih : ∀ x y, CP n rc st m x → CP n rc st m y → CP n rc st m (cM n x y)) {w l' g' : Nat} (hl : n - (m + 1) ≤ l') (hl2 : l' < n) (hg' : g' < n) (hr' : rc l' g' = true) (hw : CP n rc st (m + 1) w) : CP n rc st (m + 1) (cM n w (st l' g')) := by
  obtain ⟨g, a, hg, hr, ha, rfl⟩ := hw
  obtain ⟨s1, -, -⟩ := (hC (n - (m + 1)) (by omega)).2.2.2 g hg hr
  obtain ⟨t1, -, -⟩ := (hC l' hl2).2.2.2 g' hg' hr'
  have a1 := (CP_Mv hn hC m a (by omega) ha).1
  obtain ⟨g2, a2, hg2, hr2, ha2, e2⟩ := CP_pair hn hC hK hm hl hl2 hg hg' hr hr'
  rw [cM_assoc hn a1 s1 t1, e2, ← cM_assoc hn a1 (CP_Mv hn hC m a2 (by omega) ha2).1 ((hC (n - (m + 1)) (by omega)).2.2.2 g2 hg2 hr2).1]
  exact ⟨g2, _, hg2, hr2, ih _ _ ha ha2, rfl⟩
theorem CP_steps (hn : n ≤ 7) (hC : Ch n rd rc st) (hK : CK n rc st) {m : Nat} (hm : m + 1 ≤ n) (ih : ∀ x y, CP n rc st m x → CP n rc st m y → CP n rc st m (cM n x y)) {w : Nat} (hw : CP n rc st (m + 1) w) : ∀ k h, k ≤ m → CP n rc st k h → CP n rc st (m + 1) (cM n w h)
  | 0, h, _, hh => by
    have hh : h = eM n := hh
    subst hh
    rw [cM_e hn (CP_Mv hn hC (m + 1) w hm hw).1]
    exact hw
  | k + 1, h, hk, ⟨g, y, hg, hr, hy, e⟩ => by
    subst e
    have y1 := (CP_Mv hn hC k y (by omega) hy).1
    have s1 := ((hC (n - (k + 1)) (by omega)).2.2.2 g hg hr).1
    rw [← cM_assoc hn (CP_Mv hn hC (m + 1) w hm hw).1 y1 s1]
    exact CP_step hn hC hK hm ih (by omega) (by omega) hg hr (CP_steps hn hC hK hm ih hw k y (by omega) hy)
theorem CP_mul (hn : n ≤ 7) (hC : Ch n rd rc st) (hK : CK n rc st) : ∀ m, m ≤ n → ∀ x y, CP n rc st m x → CP n rc st m y → CP n rc st m (cM n x y)
  | 0, _, x, y, hx, hy => by
    have hx : x = eM n := hx
    have hy : y = eM n := hy
    subst hx; subst hy
    exact cM_e hn (eM_Mv hn)
  | m + 1, hm, x, y, hx, ⟨g, h, hg, hr, hh, e⟩ => by
    have ih := CP_mul hn hC hK m (by omega)
    subst e
    have x1 := (CP_Mv hn hC (m + 1) x hm hx).1
    have h1 := (CP_Mv hn hC m h (by omega) hh).1
    have s1 := ((hC (n - (m + 1)) (by omega)).2.2.2 g hg hr).1
    rw [← cM_assoc hn x1 h1 s1]
    exact CP_step hn hC hK hm ih (Nat.le_refl _) (by omega) hg hr (CP_steps hn hC hK hm ih hx m h (Nat.le_refl _) hh)
end CHAIN
end
section
/-! numbers of permutations: no two have one; the row of a number has it -/
theorem cnt_or (P Q : Nat → Bool) : ∀ k, (∀ i, i < k → P i = true → Q i = false) → cnt (fun i => P i || Q i) k = cnt P k + cnt Q k
  | 0, _ => rfl
  | k + 1, h => by
    have ih := cnt_or P Q k (fun i hi => h i (by omega))
    have hk := h k (Nat.lt_succ_self k)
    show cnt (fun i => P i || Q i) k + (if (P k || Q k) = true then 1 else 0) = (cnt P k + (if P k = true then 1 else 0)) + (cnt Q k + (if Q k = true then 1 else 0))
    rw [ih]
    cases hp : P k with
    | true =>
      have hq := hk hp
      rw [hq, Bool.or_false, if_pos rfl, if_neg Bool.false_ne_true]
      omega
    | false =>
      rw [Bool.false_or, if_neg Bool.false_ne_true]
      omega
theorem cnt_0 {P : Nat → Bool} : ∀ k, (∀ i, i < k → P i = false) → cnt P k = 0
  | 0, _ => rfl
  | k + 1, h => by
    show cnt P k + (if P k = true then 1 else 0) = 0
    rw [cnt_0 k (fun i hi => h i (by omega)), h k (Nat.lt_succ_self k), if_neg Bool.false_ne_true]
theorem cnt_all : ∀ k, cnt (fun _ => true) k = k
  | 0 => rfl
  | k + 1 => by
    show cnt (fun _ => true) k + (if true = true then 1 else 0) = k + 1
    rw [cnt_all k, if_pos rfl]
theorem cnt_one {r : Nat} : ∀ k, r < k → cnt (fun i => decide (i = r)) k = 1
  | 0, h => absurd h (Nat.not_lt_zero _)
  | k + 1, h => by
    show cnt (fun i => decide (i = r)) k + (if decide (k = r) = true then 1 else 0) = 1
    by_cases e : k = r
    · rw [if_pos (decide_eq_true e), cnt_0 k (fun i hi => decide_eq_false (by omega))]
    · rw [if_neg (by rw [decide_eq_true_eq]; exact e), cnt_one k (by omega)]
/-- how many of a permutation's goals lie below v -/
theorem Pn_cnt {n : Nat} {f : Nat → Nat} (h : Pn n f) : ∀ v, v ≤ n → cnt (fun q => decide (f q < v)) n = v
  | 0, _ => cnt_0 n (fun i _ => decide_eq_false (Nat.not_lt_zero _))
  | v + 1, hv => by
    have ih := Pn_cnt h v (by omega)
    obtain ⟨p, hp, hpv⟩ := inj_surj n f h v (by omega)
    have e1 : cnt (fun q => decide (f q < v + 1)) n = cnt (fun q => decide (f q < v) || decide (f q = v)) n := by
      refine cnt_add n (fun i _ => ?_)
      by_cases a : f i < v
      · rw [decide_eq_true a, Bool.true_or, decide_eq_true (by omega)]
      · by_cases b : f i = v
        · rw [decide_eq_true b, Bool.or_true, decide_eq_true (by omega)]
        · rw [decide_eq_false a, decide_eq_false b, Bool.false_or, decide_eq_false (by omega)]
    have e2 : cnt (fun q => decide (f q = v)) n = cnt (fun q => decide (q = p)) n := by
      refine cnt_add n (fun i hi => ?_)
      by_cases a : i = p
      · rw [decide_eq_true a, a, decide_eq_true hpv]
      · rw [decide_eq_false a, decide_eq_false (fun b => a (h.2 i p hi hp (b.trans hpv.symm)))]
    rw [e1, cnt_or _ _ n (fun i _ hi => decide_eq_false (by have := of_decide_eq_true hi; omega)), ih, e2, cnt_one n hp]
theorem les_cnt (f : Nat → Nat) (p : Nat) : ∀ k, cnt (fun j => decide (f j < f p)) (p + 1 + k) = cnt (fun j => decide (f j < f p)) p + les f 0 p (p + 1 + k)
  | 0 => by
    show cnt (fun j => decide (f j < f p)) p + (if decide (f p < f p) = true then 1 else 0) = _
    rw [if_neg (by rw [decide_eq_true_eq]; exact Nat.lt_irrefl _), Nat.add_zero, show les f 0 p (p + 1 + 0) = 0 from les_0 f 0 p (p + 1) (Nat.le_refl _), Nat.add_zero]
  | k + 1 => by
    have ih := les_cnt f p k
    show cnt (fun j => decide (f j < f p)) (p + 1 + k) + (if decide (f (p + 1 + k) < f p) = true then 1 else 0) = _ + (les f 0 p (p + 1 + k) + (if p < p + 1 + k ∧ f (0 + (p + 1 + k)) < f (0 + p) then 1 else 0))
    rw [ih, Nat.zero_add, Nat.zero_add]
    by_cases a : f (p + 1 + k) < f p
    · rw [if_pos (decide_eq_true a), if_pos ⟨by omega, a⟩, Nat.add_assoc]
    · rw [if_neg (by rw [decide_eq_true_eq]; exact a), if_neg (fun b => a b.2)]
      omega
theorem les_is {n : Nat} {f : Nat → Nat} (h : Pn n f) {p : Nat} (hp : p < n) : cnt (fun j => decide (f j < f p)) p + les f 0 p n = f p := by
  have h1 := les_cnt f p (n - (p + 1))
  rw [show p + 1 + (n - (p + 1)) = n by omega, Pn_cnt h (f p) (Nat.le_of_lt (h.1 p hp))] at h1
  exact h1.symm
theorem dm {a b m r s : Nat} (hr : r < m) (hs : s < m) (h : a * m + r = b * m + s) : a = b ∧ r = s := by
  have h1 : (m * a + r) / m = a := by rw [Nat.mul_add_div (by omega), Nat.div_eq_of_lt hr, Nat.add_zero]
  have h2 : (m * b + s) / m = b := by rw [Nat.mul_add_div (by omega), Nat.div_eq_of_lt hs, Nat.add_zero]
  rw [Nat.mul_comm a, Nat.mul_comm b] at h
  have e : a = b := by rw [← h1, h, h2]
  subst e
  exact ⟨rfl, Nat.add_left_cancel h⟩
theorem nu_eq {n : Nat} {f g : Nat → Nat} : ∀ k, k ≤ n → nuF f 0 n k = nuF g 0 n k → ∀ p, p < k → les f 0 p n = les g 0 p n
  | 0, _, _, p, hp => absurd hp (Nat.not_lt_zero _)
  | k + 1, hk, e, p, hp => by
    have e : nuF f 0 n k * (n - k) + les f 0 k n = nuF g 0 n k * (n - k) + les g 0 k n := e
    have l1 := les_le f 0 k n
    have l2 := les_le g 0 k n
    obtain ⟨e1, e2⟩ := dm (by omega) (by omega) e
    by_cases q : p = k
    · rw [q]; exact e2
    · exact nu_eq k (by omega) e1 p (by omega)
theorem cnt_eq1 {g : Nat → Nat} {v : Nat} : ∀ p, (∀ i j, i < p → j < p → g i = g j → i = j) → cnt (fun j => decide (g j = v)) p ≤ 1
  | 0, _ => Nat.zero_le _
  | p + 1, h => by
    show cnt (fun j => decide (g j = v)) p + (if decide (g p = v) = true then 1 else 0) ≤ 1
    by_cases e : g p = v
    · rw [if_pos (decide_eq_true e), cnt_0 p (fun i hi => decide_eq_false (fun q => by have := h i p (by omega) (by omega) (q.trans e.symm); omega))]
      exact Nat.le_refl _
    · rw [if_neg (by rw [decide_eq_true_eq]; exact e), Nat.add_zero]
      exact cnt_eq1 p (fun i j hi hj => h i j (by omega) (by omega))
theorem cnt_lt1 {g : Nat → Nat} {p : Nat} (v : Nat) : cnt (fun j => decide (g j < v + 1)) p = cnt (fun j => decide (g j < v)) p + cnt (fun j => decide (g j = v)) p := by
  rw [← cnt_or _ _ p (fun i _ hi => decide_eq_false (by have := of_decide_eq_true hi; omega))]
  refine cnt_add p (fun i _ => ?_)
  by_cases a : g i < v
  · rw [decide_eq_true a, Bool.true_or, decide_eq_true (by omega)]
  · by_cases b : g i = v
    · rw [decide_eq_true b, Bool.or_true, decide_eq_true (by omega)]
    · rw [decide_eq_false a, decide_eq_false b, Bool.false_or, decide_eq_false (by omega)]
theorem cnt_between {g : Nat → Nat} {p : Nat} (h : ∀ i j, i < p → j < p → g i = g j → i = j) (a : Nat) : ∀ k, cnt (fun j => decide (g j < a + k)) p ≤ cnt (fun j => decide (g j < a)) p + k
  | 0 => Nat.le_refl _
  | k + 1 => by
    have ih := cnt_between h a k
    have h1 := cnt_lt1 (g := g) (p := p) (a + k)
    have h2 := cnt_eq1 (v := a + k) p h
    show cnt (fun j => decide (g j < a + k + 1)) p ≤ _
    omega
theorem nu_lt {n : Nat} {g : Nat → Nat} (hg : Pn n g) {p a : Nat} (hp : p < n) (ha : ∀ j, j < p → g j ≠ a) (h : a < g p) : cnt (fun j => decide (g j < g p)) p + (a + 1) ≤ cnt (fun j => decide (g j < a)) p + g p := by
  have h1 := cnt_between (g := g) (p := p) (fun i j hi hj => hg.2 i j (by omega) (by omega)) (a + 1) (g p - (a + 1))
  have h2 := cnt_lt1 (g := g) (p := p) a
  rw [cnt_0 (P := fun j => decide (g j = a)) p (fun i hi => decide_eq_false (ha i hi))] at h2
  rw [show a + 1 + (g p - (a + 1)) = g p by omega] at h1
  omega
/-- no two permutations have one number -/
theorem nu_inj {n : Nat} {f g : Nat → Nat} (hf : Pn n f) (hg : Pn n g) (e : nuF f 0 n n = nuF g 0 n n) : ∀ p, p < n → f p = g p := by
  have hl := nu_eq n (Nat.le_refl n) e
  intro p
  induction p using Nat.strongRecOn with
  | ind p ih =>
    intro hp
    have h1 := les_is hf hp
    have h2 := les_is hg hp
    have h3 := hl p hp
    have hA : ∀ v, cnt (fun j => decide (f j < v)) p = cnt (fun j => decide (g j < v)) p := fun v => cnt_add p (fun i hi => by rw [ih i hi (by omega)])
    refine Classical.byContradiction fun hne => ?_
    rcases Nat.lt_or_gt_of_ne hne with hlt | hlt
    · have h4 := nu_lt hg hp (a := f p) (fun j hj q => by have := hf.2 j p (by omega) hp ((ih j hj (by omega)).trans q); omega) hlt
      rw [hA] at h1
      omega
    · have h4 := nu_lt hf hp (a := g p) (fun j hj q => by have := hg.2 j p (by omega) hp ((ih j hj (by omega)).symm.trans q); omega) hlt
      rw [← hA] at h2
      omega
/-! the row of a number has that number -/
theorem dg_lt {num : Nat} : ∀ j m, num < fc j * m → dg num j < m
  | 0, m, h => by
    have h : num < 1 * m := h
    show num < m
    omega
  | j + 1, m, h => by
    have h : num < fc j * (j + 1) * m := h
    rw [Nat.mul_assoc] at h
    exact Nat.div_lt_of_lt_mul (dg_lt j ((j + 1) * m) h)
theorem ins_gt {f : Nat → Nat} {p n i k : Nat} (hi : p < i) (hi2 : i < n) (hk : p < k) (hk2 : k < n) : ins f p n k < ins f p n i ↔ f k < f i := by
  unfold ins
  by_cases a : f p ≤ f i <;> by_cases b : f p ≤ f k
  · rw [if_pos ⟨hk, hk2, b⟩, if_pos ⟨hi, hi2, a⟩]; omega
  · rw [if_neg (fun z => b z.2.2), if_pos ⟨hi, hi2, a⟩]; omega
  · rw [if_pos ⟨hk, hk2, b⟩, if_neg (fun z => a z.2.2)]; omega
  · rw [if_neg (fun z => b z.2.2), if_neg (fun z => a z.2.2)]
theorem les_ins {f : Nat → Nat} {p n i : Nat} (hi : p < i) (hi2 : i < n) : ∀ q, q ≤ n → les (ins f p n) 0 i q = les f 0 i q
  | 0, _ => rfl
  | q + 1, hq => by
    have ih := les_ins (f := f) hi hi2 q (by omega)
    show les (ins f p n) 0 i q + (if i < q ∧ ins f p n (0 + q) < ins f p n (0 + i) then 1 else 0) = les f 0 i q + (if i < q ∧ f (0 + q) < f (0 + i) then 1 else 0)
    rw [ih, Nat.zero_add, Nat.zero_add]
    by_cases a : i < q
    · have h := ins_gt (f := f) hi hi2 (show p < q by omega) (show q < n by omega)
      by_cases b : f q < f i
      · rw [if_pos ⟨a, h.mpr b⟩, if_pos ⟨a, b⟩]
      · rw [if_neg (fun z => b (h.mp z.2)), if_neg (fun z => b z.2)]
    · rw [if_neg (fun z => a z.1), if_neg (fun z => a z.1)]
theorem ins_self {f : Nat → Nat} {p n : Nat} : ins f p n p = f p := by
  unfold ins
  rw [if_neg (by omega)]
theorem les_new {f : Nat → Nat} {p n : Nat} (hp : p < n) (hm : f p ≤ n - (p + 1)) (hP : Pn (n - (p + 1)) (fun i => f (p + 1 + i))) : les (ins f p n) 0 p n = f p := by
  have h0 : ∀ k, k ≤ n - (p + 1) → les (ins f p n) 0 p (p + 1 + k) = cnt (fun i => decide (f (p + 1 + i) < f p)) k := by
    intro k
    induction k with
    | zero => intro _; exact les_0 _ _ _ _ (Nat.le_refl _)
    | succ k ih =>
      intro hk
      show les (ins f p n) 0 p (p + 1 + k) + (if p < p + 1 + k ∧ ins f p n (0 + (p + 1 + k)) < ins f p n (0 + p) then 1 else 0) = cnt (fun i => decide (f (p + 1 + i) < f p)) k + (if decide (f (p + 1 + k) < f p) = true then 1 else 0)
      rw [ih (by omega), Nat.zero_add, Nat.zero_add, ins_self]
      have h2 : ins f p n (p + 1 + k) < f p ↔ f (p + 1 + k) < f p := by
        unfold ins
        by_cases b : f p ≤ f (p + 1 + k)
        · rw [if_pos ⟨by omega, by omega, b⟩]; omega
        · rw [if_neg (fun z => b z.2.2)]
      by_cases b : f (p + 1 + k) < f p
      · rw [if_pos ⟨by omega, h2.mpr b⟩, if_pos (decide_eq_true b)]
      · rw [if_neg (fun z => b (h2.mp z.2)), if_neg (by rw [decide_eq_true_eq]; exact b)]
  have h1 := h0 (n - (p + 1)) (Nat.le_refl _)
  rw [show p + 1 + (n - (p + 1)) = n by omega] at h1
  rw [h1]
  exact Pn_cnt hP (f p) hm
theorem rw_les (n num : Nat) : ∀ j, j + 1 ≤ n → ∀ p, n - 1 - j ≤ p → p < n → les (rwB n num j) 0 p n = rwA n num p
  | 0, h, p, h1, h2 => by
    have e : p = n - 1 := by omega
    rw [les_0 _ _ _ _ (by omega)]
    subst e
    show 0 = dg num _ % (n - (n - 1))
    rw [show n - (n - 1) = 1 by omega, Nat.mod_one]
  | j + 1, h, p, h1, h2 => by
    obtain ⟨A, B, C⟩ := rwB_spec n num j (by omega)
    by_cases e : p = n - 2 - j
    · subst e
      have hp : rwB n num j (n - 2 - j) = rwA n num (n - 2 - j) := A _ (by omega)
      have hb : rwA n num (n - 2 - j) < j + 2 := by
        have e2 : n - (n - 2 - j) = j + 2 := by omega
        show dg num _ % (n - (n - 2 - j)) < j + 2
        rw [e2]
        exact Nat.mod_lt _ (by omega)
      show les (ins (rwB n num j) (n - 2 - j) n) 0 (n - 2 - j) n = _
      rw [← hp]
      refine les_new (by omega) (by omega) ⟨fun i hi => ?_, fun i k hi hk q => ?_⟩
      · have := B (n - 2 - j + 1 + i) (by omega) (by omega)
        show rwB n num j (n - 2 - j + 1 + i) < _
        omega
      · have := C (n - 2 - j + 1 + i) (n - 2 - j + 1 + k) (by omega) (by omega) (by omega) (by omega) q
        omega
    · show les (ins (rwB n num j) (n - 2 - j) n) 0 p n = _
      rw [les_ins (by omega) h2 n (Nat.le_refl _)]
      exact rw_les n num j (by omega) p (by omega) h2
theorem nu_rw {n num : Nat} (hn : 1 ≤ n) (hb : num < fc n) : nuF (rwF n num) 0 n n = num := by
  have hl : ∀ p, p < n → les (rwF n num) 0 p n = rwA n num p := fun p hp => rw_les n num (n - 1) (by omega) p (by omega) hp
  have hh : ∀ p, p ≤ n → nuF (rwF n num) 0 n p = dg num (n - p) := by
    intro p
    induction p with
    | zero =>
      intro _
      have := dg_lt (num := num) n 1 (by omega)
      show 0 = dg num (n - 0)
      rw [Nat.sub_zero]
      omega
    | succ p ih =>
      intro hp
      show nuF (rwF n num) 0 n p * (n - p) + les (rwF n num) 0 p n = _
      rw [ih (by omega), hl p (by omega)]
      show dg num (n - p) * (n - p) + dg num (n - 1 - p) % (n - p) = dg num (n - (p + 1))
      obtain ⟨j, hj⟩ : ∃ j, n - p = j + 1 := ⟨n - p - 1, by omega⟩
      rw [hj, show n - 1 - p = j by omega, show n - (p + 1) = j by omega]
      show dg num j / (j + 1) * (j + 1) + dg num j % (j + 1) = dg num j
      rw [Nat.mul_comm]
      exact Nat.div_add_mod _ _
  rw [hh n (Nat.le_refl n), Nat.sub_self]
  rfl
/-- a permutation is the row of its number -/
theorem rw_nu {n : Nat} {f : Nat → Nat} (hn : 1 ≤ n) (hf : Pn n f) : ∀ p, p < n → rwF n (nuF f 0 n n) p = f p :=
  nu_inj (rwF_Pn hn) hf (nu_rw hn (nuF_b f 0 n))
theorem nu_congr {n : Nat} {f g : Nat → Nat} (e : ∀ p, p < n → f p = g p) : nuF f 0 n n = nuF g 0 n n := by
  have hl : ∀ p q, p < n → q ≤ n → les f 0 p q = les g 0 p q := by
    intro p q hp
    induction q with
    | zero => intro _; rfl
    | succ q ih =>
      intro hq
      show les f 0 p q + (if p < q ∧ f (0 + q) < f (0 + p) then 1 else 0) = les g 0 p q + (if p < q ∧ g (0 + q) < g (0 + p) then 1 else 0)
      rw [ih (by omega), Nat.zero_add, Nat.zero_add, e q (by omega), e p hp]
  have hk : ∀ k, k ≤ n → nuF f 0 n k = nuF g 0 n k := by
    intro k
    induction k with
    | zero => intro _; rfl
    | succ k ih =>
      intro hk
      show nuF f 0 n k * (n - k) + les f 0 k n = nuF g 0 n k * (n - k) + les g 0 k n
      rw [ih (by omega), hl k n (by omega) (Nat.le_refl n)]
  exact hk n (Nat.le_refl n)
end
section
/-! the class's moves and masks, bit by bit -/
theorem d8_or (x y p : Nat) : d8 (x ||| y) p = d8 x p ||| d8 y p := by
  unfold d8
  rw [Nat.or_div_two_pow, Nat.or_mod_two_pow]
theorem d8_and (x y p : Nat) : d8 (x &&& y) p = d8 x p &&& d8 y p := by
  unfold d8
  rw [Nat.and_div_two_pow, Nat.and_mod_two_pow]
theorem d8_0 (p : Nat) : d8 0 p = 0 := by
  unfold d8
  rw [Nat.zero_div, Nat.zero_mod]
theorem d8_big {x p k : Nat} (hx : x < 2 ^ (3 * k)) (hp : k ≤ p) : d8 x p = 0 := by
  unfold d8
  rw [Nat.div_eq_of_lt (Nat.lt_of_lt_of_le hx (Nat.pow_le_pow_right (by decide) (by omega))), Nat.zero_mod]
theorem d8_put {a v p : Nat} (ha : a < 8) : d8 (a * 2 ^ (3 * v)) p = if p = v then a else 0 := by
  unfold d8
  by_cases e : p = v
  · subst e
    rw [if_pos rfl, Nat.mul_div_cancel _ (Nat.two_pow_pos _)]
    exact Nat.mod_eq_of_lt ha
  · rw [if_neg e]
    by_cases h : p < v
    · obtain ⟨j, rfl⟩ : ∃ j, v = p + 1 + j := ⟨v - (p + 1), by omega⟩
      have h1 : 2 ^ (3 * (p + 1 + j)) = 2 ^ (3 * j) * 2 ^ 3 * 2 ^ (3 * p) := by rw [← Nat.pow_add, ← Nat.pow_add]; congr 1; omega
      rw [h1, ← Nat.mul_assoc, Nat.mul_div_cancel _ (Nat.two_pow_pos _), ← Nat.mul_assoc, Nat.mul_mod_left]
    · obtain ⟨j, rfl⟩ : ∃ j, p = v + 1 + j := ⟨p - (v + 1), by omega⟩
      have h1 : 2 ^ (3 * (v + 1 + j)) = 2 ^ (3 * v) * 2 ^ (3 * j + 3) := by rw [← Nat.pow_add]; congr 1; omega
      have h2 : a * 2 ^ (3 * v) / 2 ^ (3 * (v + 1 + j)) = 0 := by
        refine Nat.div_eq_of_lt ?_
        rw [h1, Nat.mul_comm]
        refine Nat.mul_lt_mul_of_pos_left (Nat.lt_of_lt_of_le ha ?_) (Nat.two_pow_pos _)
        have h3 : 2 ^ 3 ≤ 2 ^ (3 * j + 3) := Nat.pow_le_pow_right (by decide) (by omega)
        exact h3
      rw [h2, Nat.zero_mod]
theorem put_lt {a p k : Nat} (ha : a < 8) (hp : p < k) : a * 2 ^ (3 * p) < 2 ^ (3 * k) := by
  have h1 : a * 2 ^ (3 * p) < 8 * 2 ^ (3 * p) := Nat.mul_lt_mul_of_pos_right ha (Nat.two_pow_pos _)
  have h2 := e8 p
  have h3 : 2 ^ (3 * (p + 1)) ≤ 2 ^ (3 * k) := Nat.pow_le_pow_right (by decide) (by omega)
  omega
theorem put31 {a p : Nat} (ha : a < 8) (hp : p < 8) : a * 2 ^ (3 * p) < 2 ^ 31 := Nat.lt_of_lt_of_le (put_lt ha hp) (by decide)
theorem lt31 {x : Nat} (h : x < 2 ^ (3 * 7)) : x < 2 ^ 31 := Nat.lt_of_lt_of_le h (by decide)
/-- all but those bits -/
def nt (b : Nat) : Nat := 2 ^ 32 - (b + 1)
theorem nt_bit {b : Nat} (hb : b < 2 ^ 32) (i : Nat) : (nt b).testBit i = (decide (i < 32) && !b.testBit i) := Nat.testBit_two_pow_sub_succ hb i
theorem nt_lt (b : Nat) : nt b < 2 ^ 32 := by
  unfold nt
  omega
theorem nt_nI {b : Nat} (hb : b < 2 ^ 31) : nI b ^^^ (-1) = nI (nt b) := by
  apply Int32.toBitVec_inj.mp
  apply BitVec.eq_of_getLsbD_eq
  intro i hi
  show ((BitVec.ofNat 32 b) ^^^ (-1#32)).getLsbD i = (BitVec.ofNat 32 (nt b)).getLsbD i
  rw [show (-1#32) = BitVec.allOnes 32 by decide, BitVec.xor_allOnes, BitVec.getLsbD_not, BitVec.getLsbD_ofNat, BitVec.getLsbD_ofNat, nt_bit (by omega)]
  simp [hi]
theorem nt_d8 : ∀ p, p < 8 → ∀ q, q < 8 → d8 (nt (7 * 2 ^ (3 * p))) q = if q = p then 0 else 7 := by decide +kernel
/-- a digit put in -/
def w8 (x p g : Nat) : Nat := (x &&& nt (7 * 2 ^ (3 * p))) ||| g * 2 ^ (3 * p)
theorem w8_d {x p g : Nat} (hp : p < 8) (hg : g < 8) {q : Nat} (hq : q < 8) : d8 (w8 x p g) q = if q = p then g else d8 x q := by
  unfold w8
  rw [d8_or, d8_and, nt_d8 p hp q hq, d8_put hg]
  by_cases e : q = p
  · rw [if_pos e, if_pos e, if_pos e, Nat.and_zero, Nat.zero_or]
  · rw [if_neg e, if_neg e, if_neg e, Nat.or_zero]
    exact Nat.and_two_pow_sub_one_of_lt_two_pow (n := 3) (d8_lt x q)
theorem w8_lt {x p g : Nat} (hx : x < 2 ^ (3 * 7)) (hp : p < 7) (hg : g < 8) : w8 x p g < 2 ^ (3 * 7) :=
  Nat.or_lt_two_pow (Nat.lt_of_le_of_lt Nat.and_le_left hx) (put_lt hg hp)
/-- digits put together by `or` -/
theorem or_up {f : Nat → Nat} (hf : ∀ p, f p < 8) {v a : Nat} (hv : v < 7) (ha : a < 8) (h0 : f v = 0) : mk8 f 7 ||| a * 2 ^ (3 * v) = mk8 (up f v a) 7 := by
  have hu : ∀ p, up f v a p < 8 := fun p => by
    unfold up
    split
    · exact ha
    · exact hf p
  refine d8_ext 7 _ _ (Nat.or_lt_two_pow (mk8_lt hf 7) (put_lt ha hv)) (mk8_lt hu 7) (fun p hp => ?_)
  rw [d8_or, d8_mk8 hf 7 p hp, d8_put ha, d8_mk8 hu 7 p hp]
  by_cases e : p = v
  · subst e
    rw [if_pos rfl, up_s, h0, Nat.zero_or]
  · rw [if_neg e, up_n e, Nat.or_zero]
theorem mk8_0 : ∀ k, mk8 (fun _ => 0) k = 0
  | 0 => rfl
  | k + 1 => by
    show mk8 (fun _ => 0) k + 0 * 2 ^ (3 * k) = 0
    rw [mk8_0 k, Nat.zero_mul]
/-! a move done behind another one, undone, often -/
def c7 (x y : Nat) : Nat := mk8 (fun p => d8 y (d8 x p)) 7
theorem c7_lt (x y : Nat) : c7 x y < 2 ^ (3 * 7) := mk8_lt (fun _ => d8_lt _ _) 7
theorem c7_d {x y p : Nat} (hp : p < 7) : d8 (c7 x y) p = d8 y (d8 x p) := d8_mk8 (fun _ => d8_lt _ _) 7 p hp
def i7 (x : Nat) : Nat := mk8 (fun v => so (d8 x) v 7) 7
theorem so_lt8 (f : Nat → Nat) (v : Nat) : ∀ k, k ≤ 8 → so f v k < 8
  | 0, _ => (by decide : (0 : Nat) < 8)
  | k + 1, h => by
    unfold so
    split
    · omega
    · exact so_lt8 f v k (by omega)
theorem so_none {f : Nat → Nat} {v : Nat} : ∀ k, (∀ p, p < k → f p ≠ v) → so f v k = 0
  | 0, _ => rfl
  | k + 1, h => by
    unfold so
    rw [if_neg (h k (Nat.lt_succ_self k))]
    exact so_none k (fun p hp => h p (by omega))
/-- one more goal -/
theorem so_step {f : Nat → Nat} {k : Nat} (hk : k < 7) (hlt : ∀ p, p < 7 → f p < 7) (hi : ∀ p q, p < 7 → q < 7 → f p = f q → p = q) : mk8 (fun v => so f v k) 7 ||| k * 2 ^ (3 * f k) = mk8 (fun v => so f v (k + 1)) 7 := by
  rw [or_up (f := fun v => so f v k) (v := f k) (a := k) (fun v => so_lt8 f v k (by omega)) (hlt k hk) (by omega) (so_none k (fun p hp e => by have := hi p k (by omega) hk e; omega))]
  refine mk8_congr 7 (fun v hv => ?_)
  show up (fun v => so f v k) (f k) k v = if f k = v then k else so f v k
  unfold up
  by_cases e : v = f k
  · rw [if_pos e, if_pos e.symm]
  · rw [if_neg e, if_neg (fun h => e h.symm)]
/-- the class's form of a move of n points: all digits of seven -/
theorem Mv.p7 {n x : Nat} (hn : n ≤ 7) (h : Mv n x) : (∀ p, p < 7 → d8 x p < 7) ∧ ∀ p q, p < 7 → q < 7 → d8 x p = d8 x q → p = q := by
  obtain ⟨_, h2, h3⟩ := h
  refine ⟨fun p hp => ?_, fun p q hp hq e => ?_⟩
  · by_cases a : p < n
    · have := h2.1 p a
      omega
    · rw [h3 p (by omega) hp]
      exact hp
  · by_cases a : p < n
    · by_cases b : q < n
      · exact h2.2 p q a b e
      · rw [h3 q (by omega) hq] at e
        have := h2.1 p a
        omega
    · rw [h3 p (by omega) hp] at e
      by_cases b : q < n
      · have := h2.1 q b
        omega
      · rw [h3 q (by omega) hq] at e
        exact e
theorem c7_M {n x y : Nat} (hn : n ≤ 7) (hx : Mv n x) (hy : Mv n y) : c7 x y = cM n x y := by
  refine d8_ext 7 _ _ (c7_lt x y) (cM_Mv hn hx hy).1 (fun p hp => ?_)
  rw [c7_d hp]
  by_cases a : p < n
  · rw [cM_d hn hx hy a]
  · rw [(cM_Mv hn hx hy).2.2 p (by omega) hp, hx.2.2 p (by omega) hp, hy.2.2 p (by omega) hp]
theorem i7_M {n x : Nat} (hn : n ≤ 7) (hx : Mv n x) : i7 x = iM n x := by
  have h7 := hx.p7 hn
  refine d8_ext 7 _ _ (mk8_lt (fun v => so_lt8 _ v 7 (by decide)) 7) (iM_Mv hn hx).1 (fun v hv => ?_)
  unfold i7
  rw [d8_mk8 (fun v => so_lt8 _ v 7 (by decide)) 7 v hv]
  obtain ⟨p, hp, e⟩ := inj_surj 7 (d8 x) h7 v hv
  obtain ⟨s1, s2⟩ := so_spec 7 ⟨p, hp, e⟩
  by_cases a : v < n
  · rw [iM_d hn hx a]
    obtain ⟨t1, t2⟩ := so_Pn hx a
    exact h7.2 _ _ s1 (by omega) (s2.trans t2.symm)
  · rw [(iM_Mv hn hx).2.2 v (by omega) hv]
    refine h7.2 _ _ s1 hv (s2.trans ?_)
    rw [hx.2.2 v (by omega) hv]
def it7 (x : Nat) : Nat → Nat
  | 0 => 1754760
  | k + 1 => c7 (it7 x k) x
theorem e7_d : ∀ p, p < 7 → d8 1754760 p = p := by decide +kernel
theorem e7_M {n : Nat} (hn : n ≤ 7) : 1754760 = eM n := by
  refine d8_ext 7 _ _ (by decide) (eM_Mv hn).1 (fun p hp => ?_)
  rw [e7_d p hp]
  by_cases a : p < n
  · rw [eM_d hn a]
  · rw [(eM_Mv hn).2.2 p (by omega) hp]
/-! masks -/
theorem tb_0 {m b : Nat} (h : ¬ m / 2 ^ b % 2 ^ 1 = 1) : m.testBit b = false := by
  rw [Nat.testBit_eq_decide_div_mod_eq]
  exact decide_eq_false h
theorem tb_1 {m b : Nat} (h : m / 2 ^ b % 2 ^ 1 = 1) : m.testBit b = true := by
  rw [Nat.testBit_eq_decide_div_mod_eq]
  exact decide_eq_true h
theorem pc_below {m b : Nat} (hm : m < 2 ^ 31) (hb : b ≤ 32) : pc32 (nI (m % 2 ^ b)) = cnt (fun i => m.testBit i) b := by
  have h1 : m % 2 ^ b < 2 ^ 32 := Nat.lt_of_le_of_lt (Nat.mod_le m (2 ^ b)) (by omega)
  rw [pc32_nI h1]
  obtain ⟨c, hc⟩ : ∃ c, 32 = b + c := ⟨32 - b, by omega⟩
  rw [hc, cnt_split, cnt_0 (P := fun i => (m % 2 ^ b).testBit (b + i)) c (fun i _ => by
    show (m % 2 ^ b).testBit (b + i) = false
    rw [Nat.testBit_mod_two_pow, decide_eq_false (by omega), Bool.false_and]), Nat.add_zero]
  refine cnt_add b (fun i hi => ?_)
  show (m % 2 ^ b).testBit i = m.testBit i
  rw [Nat.testBit_mod_two_pow, decide_eq_true hi, Bool.true_and]
theorem clr_bit {m g i : Nat} (hm : m < 2 ^ 31) (hg : g < 31) : (m &&& nt (2 ^ g)).testBit i = (m.testBit i && !decide (g = i)) := by
  have h2 : 2 ^ g < 2 ^ 31 := Nat.pow_lt_pow_right (by decide) hg
  rw [Nat.testBit_and, nt_bit (by omega), Nat.testBit_two_pow]
  by_cases h : i < 32
  · rw [decide_eq_true h, Bool.true_and]
  · rw [Nat.testBit_lt_two_pow (x := m) (i := i) (Nat.lt_of_lt_of_le hm (Nat.pow_le_pow_right (by decide) (by omega))), Bool.false_and, Bool.false_and]
theorem set_bit (m g i : Nat) : (m ||| 2 ^ g).testBit i = (m.testBit i || decide (g = i)) := by
  rw [Nat.testBit_or, Nat.testBit_two_pow]
/-- what is taken by the first ones -/
def usd (f : Nat → Nat) (v : Nat) : Nat → Bool
  | 0 => false
  | k + 1 => usd f v k || decide (f k = v)
theorem usd_ex {f : Nat → Nat} {v : Nat} : ∀ k, usd f v k = true → ∃ j, j < k ∧ f j = v
  | 0, h => absurd (show false = true from h) (by decide)
  | k + 1, h => by
    rcases Bool.or_eq_true _ _ |>.mp (show (usd f v k || decide (f k = v)) = true from h) with h | h
    · obtain ⟨j, h1, h2⟩ := usd_ex k h
      exact ⟨j, by omega, h2⟩
    · exact ⟨k, Nat.lt_succ_self k, of_decide_eq_true h⟩
theorem usd_of {f : Nat → Nat} {v : Nat} : ∀ k j, j < k → f j = v → usd f v k = true
  | 0, _, hj, _ => absurd hj (Nat.not_lt_zero _)
  | k + 1, j, hj, e => by
    show (usd f v k || decide (f k = v)) = true
    by_cases q : j = k
    · subst q
      rw [decide_eq_true e, Bool.or_true]
    · rw [usd_of k j (by omega) e, Bool.true_or]
theorem usd_congr {f g : Nat → Nat} {v : Nat} : ∀ k, (∀ j, j < k → f j = g j) → usd f v k = usd g v k
  | 0, _ => rfl
  | k + 1, h => by
    show (usd f v k || decide (f k = v)) = (usd g v k || decide (g k = v))
    rw [usd_congr k (fun j hj => h j (by omega)), h k (Nat.lt_succ_self k)]
theorem cnt_not (P : Nat → Bool) : ∀ m, cnt (fun v => !P v) m + cnt P m = m
  | 0 => rfl
  | m + 1 => by
    have h := cnt_not P m
    show (cnt (fun v => !P v) m + (if (!P m) = true then 1 else 0)) + (cnt P m + (if P m = true then 1 else 0)) = m + 1
    cases P m with
    | true =>
      show (cnt (fun v => !P v) m + 0) + (cnt P m + 1) = m + 1
      omega
    | false =>
      show (cnt (fun v => !P v) m + 1) + (cnt P m + 0) = m + 1
      omega
theorem cnt_usd {f : Nat → Nat} (m : Nat) : ∀ p, (∀ i j, i < p → j < p → f i = f j → i = j) → cnt (fun v => usd f v p) m = cnt (fun j => decide (f j < m)) p
  | 0, _ => cnt_0 m (fun _ _ => rfl)
  | p + 1, h => by
    have ih := cnt_usd m p (fun i j hi hj => h i j (by omega) (by omega))
    show cnt (fun v => usd f v p || decide (f p = v)) m = cnt (fun j => decide (f j < m)) p + (if decide (f p < m) = true then 1 else 0)
    rw [cnt_or _ _ m (fun v _ hv => by
      obtain ⟨j, h1, h2⟩ := usd_ex p hv
      refine decide_eq_false (fun e => ?_)
      have := h j p (by omega) (Nat.lt_succ_self p) (h2.trans e.symm)
      omega), ih]
    congr 1
    by_cases e : f p < m
    · rw [if_pos (decide_eq_true e), ← cnt_one m e]
      exact cnt_add m (fun i _ => by
        by_cases q : i = f p
        · rw [decide_eq_true q, decide_eq_true q.symm]
        · rw [decide_eq_false q, decide_eq_false (fun z => q z.symm)])
    · rw [if_neg (fun z => e (of_decide_eq_true z))]
      exact cnt_0 m (fun i hi => decide_eq_false (fun z => e (by rw [z]; exact hi)))
/-- how many free ones lie below -/
def cF (f : Nat → Nat) (p : Nat) : Nat := cnt (fun v => !usd f v p) (f p)
theorem cF_les {n : Nat} {f : Nat → Nat} (h : Pn n f) {p : Nat} (hp : p < n) : cF f p = les f 0 p n := by
  have h1 := cnt_not (fun v => usd f v p) (f p)
  have h2 := cnt_usd (f := f) (f p) p (fun i j hi hj => h.2 i j (by omega) (by omega))
  have h3 := les_is h hp
  unfold cF
  omega
def nuC (f : Nat → Nat) (n : Nat) : Nat → Nat
  | 0 => 0
  | k + 1 => nuC f n k * (n - k) + cF f k
theorem nuC_F {n : Nat} {f : Nat → Nat} (h : Pn n f) : ∀ k, k ≤ n → nuC f n k = nuF f 0 n k
  | 0, _ => rfl
  | k + 1, hk => by
    show nuC f n k * (n - k) + cF f k = nuF f 0 n k * (n - k) + les f 0 k n
    rw [nuC_F h k (by omega), cF_les h hk]
theorem cF_congr {f g : Nat → Nat} {p : Nat} (h : ∀ j, j ≤ p → f j = g j) : cF f p = cF g p := by
  unfold cF
  rw [h p (Nat.le_refl p)]
  exact cnt_add _ (fun v _ => by rw [usd_congr p (fun j hj => h j (by omega))])
theorem nuC_congr {f g : Nat → Nat} {n : Nat} : ∀ k, (∀ j, j < k → f j = g j) → nuC f n k = nuC g n k
  | 0, _ => rfl
  | k + 1, h => by
    show nuC f n k * (n - k) + cF f k = nuC g n k * (n - k) + cF g k
    rw [nuC_congr k (fun j hj => h j (by omega)), cF_congr (fun j hj => h j (by omega))]
/-- a mask of the free ones -/
def FM (n : Nat) (f : Nat → Nat) (k m : Nat) : Prop := m < 2 ^ 31 ∧ ∀ v, m.testBit v = (decide (v < n) && !usd f v k)
theorem FM_0 {n : Nat} (hn : n ≤ 7) (f : Nat → Nat) : FM n f 0 (2 ^ n - 1) := by
  refine ⟨?_, fun v => ?_⟩
  · have : 2 ^ n ≤ 2 ^ 7 := Nat.pow_le_pow_right (by decide) hn
    omega
  · rw [Nat.testBit_two_pow_sub_one]
    show _ = (decide (v < n) && true)
    rw [Bool.and_true]
theorem FM_s {n k m : Nat} {f : Nat → Nat} (hf : f k < 31) (h : FM n f k m) : FM n f (k + 1) (m &&& nt (2 ^ f k)) := by
  refine ⟨Nat.lt_of_le_of_lt Nat.and_le_left h.1, fun v => ?_⟩
  rw [clr_bit h.1 hf, h.2 v]
  show _ = (decide (v < n) && !(usd f v k || decide (f k = v)))
  rw [Bool.not_or, Bool.and_assoc]
theorem FM.congr {n k m : Nat} {f g : Nat → Nat} (h : FM n f k m) (e : ∀ j, j < k → f j = g j) : FM n g k m :=
  ⟨h.1, fun v => by rw [h.2 v, usd_congr k e]⟩
theorem FM_below {n k m : Nat} {f : Nat → Nat} (h : FM n f k m) (hf : f k ≤ n) : cnt (fun i => m.testBit i) (f k) = cF f k := by
  unfold cF
  exact cnt_add _ (fun v hv => by
    show m.testBit v = !usd f v k
    rw [h.2 v, decide_eq_true (by omega), Bool.true_and])
theorem FM_all {n k m : Nat} {f : Nat → Nat} (hn : n ≤ 7) (hk : k ≤ n) (hlt : ∀ j, j < k → f j < n) (hi : ∀ i j, i < k → j < k → f i = f j → i = j) (h : FM n f k m) : cnt (fun i => m.testBit i) 7 = n - k := by
  obtain ⟨c, hc⟩ : ∃ c, 7 = n + c := ⟨7 - n, by omega⟩
  rw [hc, cnt_split, cnt_0 (P := fun i => m.testBit (n + i)) c (fun i _ => by
    show m.testBit (n + i) = false
    rw [h.2, decide_eq_false (by omega), Bool.false_and]), Nat.add_zero]
  have h1 := cnt_not (fun v => usd f v k) n
  have h2 := cnt_usd (f := f) n k hi
  have h3 : cnt (fun j => decide (f j < n)) k = k := by
    rw [cnt_add (P := fun j => decide (f j < n)) (Q := fun _ => true) k (fun j hj => decide_eq_true (hlt j hj))]
    exact cnt_all k
  rw [cnt_add (P := fun i => m.testBit i) (Q := fun v => !usd f v k) n (fun v hv => by
    show m.testBit v = !usd f v k
    rw [h.2 v, decide_eq_true hv, Bool.true_and])]
  omega
/-- a free one put in place -/
theorem FM_at {n k m g : Nat} {f : Nat → Nat} (h : FM n f k m) (hg : m.testBit g = true) : g < n ∧ ∀ j, j < k → f j ≠ g := by
  rw [h.2 g] at hg
  obtain ⟨h1, h2⟩ := Bool.and_eq_true _ _ |>.mp hg
  refine ⟨of_decide_eq_true h1, fun j hj e => ?_⟩
  rw [usd_of k j hj e] at h2
  exact absurd h2 (by decide)
end
section
/-! the class's moves as machine numbers -/
theorem or_nI {a b : Nat} (ha : a < 2 ^ 32) (hb : b < 2 ^ 32) : nI a ||| nI b = nI (a ||| b) := by
  apply Int32.toBitVec_inj.mp
  show BitVec.ofNat 32 a ||| BitVec.ofNat 32 b = BitVec.ofNat 32 (a ||| b)
  apply BitVec.eq_of_toNat_eq
  have h3 : a ||| b < 2 ^ 32 := Nat.or_lt_two_pow ha hb
  rw [BitVec.toNat_or, BitVec.toNat_ofNat, BitVec.toNat_ofNat, BitVec.toNat_ofNat, Nat.mod_eq_of_lt ha, Nat.mod_eq_of_lt hb, Nat.mod_eq_of_lt h3]
/-- digits put in from the least on -/
theorem or_mk8 {f : Nat → Nat} (hf : ∀ p, f p < 8) (k : Nat) : mk8 f k ||| f k * 2 ^ (3 * k) = mk8 f (k + 1) := by
  show _ = mk8 f k + f k * 2 ^ (3 * k)
  rw [Nat.or_comm, Nat.mul_comm (f k), ← Nat.two_pow_add_eq_or_of_lt (mk8_lt hf k), Nat.add_comm]
theorem d8_bit (x p j : Nat) : (d8 x p).testBit j = (decide (j < 3) && x.testBit (3 * p + j)) := by
  unfold d8
  rw [Nat.testBit_mod_two_pow, Nat.testBit_div_two_pow, Nat.add_comm]
theorem bit_d8 (x i : Nat) : x.testBit i = (d8 x (i / 3)).testBit (i % 3) := by
  rw [d8_bit, decide_eq_true (Nat.mod_lt i (by decide)), Bool.true_and]
  congr 1
  omega
section JMOVE
variable {X : jX} {M : jM} {d kc ks pc : Nat} {L : List (Option Value)} {st : List Value} {w : List jC} {Q : jQ}
theorem J_ishlN {a s : Nat} (hdg : decode M.2.1 pc = .ok (.ishl, 1)) (hs : s < 32) (ha : a * 2 ^ s < 2 ^ 31) (k : J X M d kc ks (pc + 1) L (.int (nI (a * 2 ^ s)) :: st) w Q) : J X M d kc ks pc L (.int (nI s) :: .int (nI a) :: st) w Q :=
  J_ishl hdg (by
    rw [pk_shlN _ s (sh_of hs) (by omega)]
    exact k)
theorem J_iorN {a b : Nat} (hdg : decode M.2.1 pc = .ok (.ior, 1)) (ha : a < 2 ^ 31) (hb : b < 2 ^ 31) (k : J X M d kc ks (pc + 1) L (.int (nI (a ||| b)) :: st) w Q) : J X M d kc ks pc L (.int (nI b) :: .int (nI a) :: st) w Q :=
  J_ior hdg (by
    rw [or_nI (by omega) (by omega)]
    exact k)
theorem J_shlOne {s : Nat} (hdg : decode M.2.1 pc = .ok (.ishl, 1)) (hs : s < 31) (k : J X M d kc ks (pc + 1) L (.int (nI (2 ^ s)) :: st) w Q) : J X M d kc ks pc L (.int (nI s) :: .int (nI 1) :: st) w Q :=
  J_ishl hdg (by
    rw [pk_shlN (n := 1) _ s (sh_of (by omega)) (by rw [Nat.one_mul]; exact Nat.pow_lt_pow_right (by decide) (by omega)), Nat.one_mul]
    exact k)
theorem J_inv {b : Nat} (hdg : decode M.2.1 pc = .ok (.ixor, 1)) (hb : b < 2 ^ 31) (k : J X M d kc ks (pc + 1) L (.int (nI (nt b)) :: st) w Q) : J X M d kc ks pc L (.int (-1) :: .int (nI b) :: st) w Q :=
  J_ixor hdg (by
    rw [nt_nI hb]
    exact k)
theorem J_iandP {a b : Nat} (hdg : decode M.2.1 pc = .ok (.iand, 1)) (ha : a < 2 ^ 31) (hb : b < 32) (k : J X M d kc ks (pc + 1) L (.int (nI (a % 2 ^ b)) :: st) w Q) : J X M d kc ks pc L (.int (nI (2 ^ b - 1)) :: .int (nI a) :: st) w Q :=
  J_iandM hdg (by omega) (by
    have : 2 ^ b ≤ 2 ^ 31 := Nat.pow_le_pow_right (by decide) (by omega)
    omega) (by
    rw [Nat.and_two_pow_sub_one_eq_mod]
    exact k)
end JMOVE
end
section
/-! what the exact contracts of the class's leaves want -/
theorem fc_end {c t : Nat} (h2 : 2 ≤ c) (hc : t < c) (h : c ≤ t + 1 ∨ c = 2) : fc (c - 1) = fc t := by
  rcases h with h | h
  · rw [show c - 1 = t by omega]
  · subst h
    rcases (show t = 0 ∨ t = 1 by omega) with rfl | rfl <;> rfl
theorem it7_lt (x : Nat) : ∀ k, it7 x k < 2 ^ (3 * 7)
  | 0 => (by decide : 1754760 < 2 ^ (3 * 7))
  | k + 1 => c7_lt _ _
theorem it7_M {n x : Nat} (hn : n ≤ 7) (hx : Mv n x) : ∀ k, Mv n (it7 x k) ∧ ∀ p, p < n → d8 (it7 x k) p = it (d8 x) k p
  | 0 => by
    show Mv n 1754760 ∧ ∀ p, p < n → d8 1754760 p = p
    rw [e7_M hn]
    exact ⟨eM_Mv hn, fun p hp => eM_d hn hp⟩
  | k + 1 => by
    obtain ⟨h1, h2⟩ := it7_M hn hx k
    show Mv n (c7 (it7 x k) x) ∧ ∀ p, p < n → d8 (c7 (it7 x k) x) p = d8 x (it (d8 x) k p)
    rw [c7_M hn h1 hx]
    exact ⟨cM_Mv hn h1 hx, fun p hp => by rw [cM_d hn h1 hx hp, h2 p hp]⟩
/-! the bit with so many below it -/
theorem bit_at {P : Nat → Bool} {i : Nat} : ∀ k, i < cnt P k → ∃ K, K < k ∧ P K = true ∧ cnt P K = i
  | 0, h => absurd h (Nat.not_lt_zero _)
  | k + 1, h => by
    by_cases e : i < cnt P k
    · obtain ⟨K, h1, h2, h3⟩ := bit_at k e
      exact ⟨K, by omega, h2, h3⟩
    · have h : i < cnt P k + (if P k = true then 1 else 0) := h
      by_cases q : P k = true
      · rw [if_pos q] at h
        exact ⟨k, Nat.lt_succ_self k, q, by omega⟩
      · rw [if_neg q] at h
        omega
theorem bit_ne0 {m c K : Nat} (h : c ≤ K) (hK : m.testBit K = true) (h0 : m.testBit c = false) : c + 1 ≤ K := by
  refine Nat.lt_of_le_of_ne h (fun e => ?_)
  rw [e, hK] at h0
  exact absurd h0 (by decide)
theorem bit_ne1 {m c K i : Nat} (h : c ≤ K) (hK : cnt (fun z => m.testBit z) K = i) (h0 : ¬ cnt (fun z => m.testBit z) c = i) : c + 1 ≤ K := by
  refine Nat.lt_of_le_of_ne h (fun e => ?_)
  rw [e] at h0
  exact h0 hK
/-! the move with a number, place by place -/
def WN (k num c y2 y3 y4 : Nat) : Prop :=
  y2 < 2 ^ (3 * 7) ∧ num = nuC (d8 y2) k c * fc (k - c) + y3 ∧ y3 < fc (k - c) ∧ ((∀ j, j < c → d8 y2 j < k) ∧ ∀ i j, i < c → j < c → d8 y2 i = d8 y2 j → i = j) ∧ FM k (d8 y2) c y4 ∧ ∀ p, c ≤ p → p < 7 → d8 y2 p = p
theorem WN_0 {k num : Nat} (h : num < fc k) (hk : k ≤ 7) : WN k num 0 1754760 num (2 ^ k - 1) :=
  ⟨by decide, by show num = 0 * fc (k - 0) + num; rw [Nat.zero_mul, Nat.zero_add], h, ⟨fun j hj => absurd hj (Nat.not_lt_zero j), fun i j hi => absurd hi (Nat.not_lt_zero i)⟩, FM_0 hk _, fun p _ hp => e7_d p hp⟩
theorem fc_sub {k c : Nat} (h : c < k) : fc (k - c) = fc (k - 1 - c) * (k - c) := by
  obtain ⟨j, hj⟩ : ∃ j, k - c = j + 1 := ⟨k - c - 1, by omega⟩
  rw [hj, show k - 1 - c = j by omega]
  rfl
theorem WN_idx {k num c y2 y3 y4 : Nat} (hk : k ≤ 7) (hc : c < k) (h : WN k num c y2 y3 y4) : y3 / fc (k - 1 - c) < cnt (fun z => y4.testBit z) 7 := by
  obtain ⟨_, _, h3, h4, h5, _⟩ := h
  rw [FM_all hk (by omega) h4.1 h4.2 h5]
  rw [fc_sub hc] at h3
  exact Nat.div_lt_of_lt_mul h3
theorem WN_s {k num c y2 y3 y4 g : Nat} (hk : k ≤ 7) (hc : c < k) (h : WN k num c y2 y3 y4) (hb : g < 7 ∧ y4.testBit g = true ∧ cnt (fun z => y4.testBit z) g = y3 / fc (k - 1 - c)) : WN k num (c + 1) (w8 y2 c g) (y3 - y3 / fc (k - 1 - c) * fc (k - 1 - c)) (y4 &&& nt (2 ^ g)) := by
  obtain ⟨h1, h2, h3, h4, h5, h6⟩ := h
  obtain ⟨b1, b2, b3⟩ := hb
  obtain ⟨f1, f2⟩ := FM_at h5 b2
  have hd : ∀ q, q < 8 → d8 (w8 y2 c g) q = if q = c then g else d8 y2 q := fun q hq => w8_d (by omega) (by omega) hq
  have hdc : d8 (w8 y2 c g) c = g := by rw [hd c (by omega), if_pos rfl]
  have hdn : ∀ q, q < 8 → q ≠ c → d8 (w8 y2 c g) q = d8 y2 q := fun q hq e => by rw [hd q hq, if_neg e]
  have hdl : ∀ j, j < c → d8 y2 j = d8 (w8 y2 c g) j := fun j hj => (hdn j (by omega) (by omega)).symm
  have hcF : cF (d8 (w8 y2 c g)) c = y3 / fc (k - 1 - c) := by
    rw [← b3]
    unfold cF
    rw [hdc]
    refine cnt_add g (fun v hv => ?_)
    show (!usd (d8 (w8 y2 c g)) v c) = y4.testBit v
    rw [h5.2 v, decide_eq_true (by omega), Bool.true_and, usd_congr c hdl]
  have hw : 0 < fc (k - 1 - c) := fc_pos _
  have hdm : y3 / fc (k - 1 - c) * fc (k - 1 - c) ≤ y3 := Nat.div_mul_le_self _ _
  have hmod : y3 - y3 / fc (k - 1 - c) * fc (k - 1 - c) = y3 % fc (k - 1 - c) := by
    have := Nat.div_add_mod y3 (fc (k - 1 - c))
    rw [Nat.mul_comm] at this
    omega
  have hkc : k - (c + 1) = k - 1 - c := by omega
  refine ⟨w8_lt h1 (by omega) (by omega), ?_, ?_, ⟨fun j hj => ?_, fun i j hi hj e => ?_⟩, ?_, fun p h7 hp => ?_⟩
  · show num = (nuC (d8 (w8 y2 c g)) k c * (k - c) + cF (d8 (w8 y2 c g)) c) * fc (k - (c + 1)) + _
    rw [hcF, ← nuC_congr c hdl, hkc, Nat.add_mul, Nat.mul_assoc, Nat.mul_comm (k - c), ← fc_sub hc, Nat.add_assoc, Nat.add_sub_cancel' hdm]
    exact h2
  · rw [hmod, hkc]
    exact Nat.mod_lt _ hw
  · by_cases q : j = c
    · rw [q, hdc]; exact f1
    · rw [hdn j (by omega) q]; exact h4.1 j (by omega)
  · by_cases a : i = c
    · by_cases b : j = c
      · omega
      · rw [a, hdc, hdn j (by omega) b] at e
        exact absurd e.symm (f2 j (by omega))
    · by_cases b : j = c
      · rw [b, hdc, hdn i (by omega) a] at e
        exact absurd e (f2 i (by omega))
      · rw [hdn i (by omega) a, hdn j (by omega) b] at e
        exact h4.2 i j (by omega) (by omega) e
  · have h8 := FM_s (k := c) (by rw [hdc]; omega) (h5.congr hdl)
    rw [hdc] at h8
    exact h8
  · rw [hdn p (by omega) (by omega)]
    exact h6 p (by omega) hp
theorem WN_end {k num c y2 y3 y4 : Nat} (hb : num < fc k) (h1 : 1 ≤ k) (hk : k ≤ 7) (hc : c = k) (h : WN k num c y2 y3 y4) : y2 = mkM k (rwF k num) := by
  subst hc
  obtain ⟨a1, a2, a3, a4, _, a6⟩ := h
  rw [Nat.sub_self] at a2 a3
  have e0 : y3 = 0 := by
    have : y3 < 1 := a3
    omega
  have hP : Pn c (d8 y2) := a4
  have e1 : nuF (d8 y2) 0 c c = num := by
    rw [← nuC_F hP c (Nat.le_refl c), a2, e0]
    show nuC (d8 y2) c c = nuC (d8 y2) c c * 1 + 0
    rw [Nat.mul_one, Nat.add_zero]
  have e2 := nu_inj hP (rwF_Pn h1) (e1.trans (nu_rw h1 hb).symm)
  have hM : Mv c y2 := ⟨a1, hP, a6⟩
  refine hM.ext (mkM_Mv hk (rwF_Pn h1)) (fun p hp => ?_)
  rw [mkM_d hk (rwF_Pn h1).1 hp]
  exact e2 p hp
/-! where a mask is brought -/
def img (f : Nat → Nat) (mk v : Nat) : Nat → Bool
  | 0 => false
  | k + 1 => img f mk v k || (mk.testBit k && decide (f k = v))
theorem img_0 (f : Nat → Nat) (mk : Nat) : 0 < 2 ^ 8 ∧ ∀ v, (0 : Nat).testBit v = img f mk v 0 := ⟨by decide, fun v => Nat.zero_testBit v⟩
theorem img_1 {f : Nat → Nat} {mk y c : Nat} (h8 : f c < 8) (hm : mk.testBit c = true) (h : y < 2 ^ 8 ∧ ∀ v, y.testBit v = img f mk v c) : (y ||| 2 ^ f c) < 2 ^ 8 ∧ ∀ v, (y ||| 2 ^ f c).testBit v = img f mk v (c + 1) := by
  refine ⟨Nat.or_lt_two_pow h.1 (Nat.pow_lt_pow_right (by decide) h8), fun v => ?_⟩
  rw [set_bit, h.2 v]
  show _ = (img f mk v c || (mk.testBit c && decide (f c = v)))
  rw [hm, Bool.true_and]
theorem img_n {f : Nat → Nat} {mk y c : Nat} (hm : mk.testBit c = false) (h : y < 2 ^ 8 ∧ ∀ v, y.testBit v = img f mk v c) : y < 2 ^ 8 ∧ ∀ v, y.testBit v = img f mk v (c + 1) := by
  refine ⟨h.1, fun v => ?_⟩
  rw [h.2 v]
  show _ = (img f mk v c || (mk.testBit c && decide (f c = v)))
  rw [hm, Bool.false_and, Bool.or_false]
theorem img_ex {f : Nat → Nat} {mk v : Nat} : ∀ k, img f mk v k = true → ∃ p, p < k ∧ mk.testBit p = true ∧ f p = v
  | 0, h => absurd (show false = true from h) (by decide)
  | k + 1, h => by
    rcases Bool.or_eq_true _ _ |>.mp (show (img f mk v k || (mk.testBit k && decide (f k = v))) = true from h) with h | h
    · obtain ⟨p, h1, h2⟩ := img_ex k h
      exact ⟨p, by omega, h2⟩
    · obtain ⟨h1, h2⟩ := Bool.and_eq_true _ _ |>.mp h
      exact ⟨k, Nat.lt_succ_self k, h1, of_decide_eq_true h2⟩
theorem img_of {f : Nat → Nat} {mk v : Nat} : ∀ k p, p < k → mk.testBit p = true → f p = v → img f mk v k = true
  | 0, _, hp, _, _ => absurd hp (Nat.not_lt_zero _)
  | k + 1, p, hp, h1, h2 => by
    show (img f mk v k || (mk.testBit k && decide (f k = v))) = true
    by_cases q : p = k
    · subst q
      rw [h1, decide_eq_true h2, Bool.true_and, Bool.or_true]
    · rw [img_of k p (by omega) h1 h2, Bool.true_or]
/-! rings -/
def Pd (f : Nat → Nat) (n p K : Nat) : Prop := 1 ≤ K ∧ K ≤ n ∧ it f K p = p ∧ ∀ j, 1 ≤ j → j < K → it f j p ≠ p
theorem Pd_ex {n : Nat} {f : Nat → Nat} (h : Pn n f) {p : Nat} (hp : p < n) : ∃ K, Pd f n p K := it_ret h hp
theorem Pd.same {n : Nat} {f : Nat → Nat} {p K K' : Nat} (h : Pd f n p K) (h' : Pd f n p K') : K = K' := by
  obtain ⟨a1, _, a3, a4⟩ := h
  obtain ⟨b1, _, b3, b4⟩ := h'
  refine Classical.byContradiction fun e => ?_
  rcases Nat.lt_or_gt_of_ne e with h | h
  · exact b4 K a1 h a3
  · exact a4 K' b1 h b3
theorem it_back {n : Nat} {f : Nat → Nat} (h : Pn n f) {p : Nat} (hp : p < n) {a b : Nat} (hab : a ≤ b) (e : it f a p = it f b p) : it f (b - a) p = p := by
  have e2 : it f (a + (b - a)) p = it f b p := by rw [show a + (b - a) = b by omega]
  rw [it_add] at e2
  exact it_inj h (it_lt h hp (b - a)) hp a (e2.trans e.symm)
theorem Pd.inj {n : Nat} {f : Nat → Nat} (h : Pn n f) {p K : Nat} (hp : p < n) (hK : Pd f n p K) {a b : Nat} (ha : a < K) (hb : b < K) (e : it f a p = it f b p) : a = b := by
  refine Classical.byContradiction fun ne => ?_
  rcases Nat.lt_or_gt_of_ne ne with h1 | h1
  · exact hK.2.2.2 (b - a) (by omega) (by omega) (it_back h hp (by omega) e)
  · exact hK.2.2.2 (a - b) (by omega) (by omega) (it_back h hp (by omega) e.symm)
theorem ring_0 (f : Nat → Nat) : 0 < 2 ^ 7 ∧ ∀ v, (0 : Nat).testBit v = usd f v 0 := ⟨by decide, fun v => Nat.zero_testBit v⟩
theorem ring_s {f : Nat → Nat} {p c y2 y3 : Nat} (h7 : y3 < 7) (h3 : y3 = it f c p) (h : y2 < 2 ^ 7 ∧ ∀ v, y2.testBit v = usd (fun j => it f j p) v c) : (y2 ||| 2 ^ y3) < 2 ^ 7 ∧ ∀ v, (y2 ||| 2 ^ y3).testBit v = usd (fun j => it f j p) v (c + 1) := by
  refine ⟨Nat.or_lt_two_pow h.1 (Nat.pow_lt_pow_right (by decide) h7), fun v => ?_⟩
  rw [set_bit, h.2 v, h3]
  rfl
theorem ring_lt {n : Nat} {f : Nat → Nat} (hP : Pn n f) {p K c y2 y3 : Nat} (hp : p < n) (hK : Pd f n p K) (hc : c ≤ K) (h : y2 < 2 ^ 7 ∧ ∀ v, y2.testBit v = usd (fun j => it f j p) v c) (h3 : y3 = it f c p) (h0 : y2.testBit y3 = false) : c + 1 ≤ K := by
  refine Nat.lt_of_le_of_ne hc (fun e => ?_)
  rw [h.2 y3, h3, e, hK.2.2.1, usd_of (f := fun j => it f j p) (v := p) K 0 (show 0 < K from hK.1) rfl] at h0
  exact absurd h0 (by decide)
theorem ring_end {f : Nat → Nat} (hP : Pn 7 f) {p K c y2 y3 : Nat} (hp : p < 7) (hK : Pd f 7 p K) (hc : c ≤ K) (h : y2 < 2 ^ 7 ∧ ∀ v, y2.testBit v = usd (fun j => it f j p) v c) (h3 : y3 = it f c p) (h0 : 7 ≤ c ∨ y2.testBit y3 = true) : y2 < 2 ^ 7 ∧ ∃ K, Pd f 7 p K ∧ ∀ v, y2.testBit v = usd (fun j => it f j p) v K := by
  have e : c = K := by
    rcases h0 with h0 | h0
    · have := hK.2.1
      omega
    · rw [h.2 y3] at h0
      obtain ⟨j, hj, ej⟩ := usd_ex c h0
      have ej : it f j p = y3 := ej
      refine Classical.byContradiction fun ne => ?_
      have := hK.inj hP hp (a := j) (b := c) (by omega) (by omega) (ej.trans h3)
      omega
  subst e
  exact ⟨h.1, c, hK, h.2⟩
theorem ring_len {f : Nat → Nat} (hP : Pn 7 f) {p K r : Nat} (hp : p < 7) (hK : Pd f 7 p K) (hr : r < 2 ^ 7) (h : ∀ v, r.testBit v = usd (fun j => it f j p) v K) : Pd f 7 p (pc32 (nI r)) := by
  have e : pc32 (nI r) = K := by
    rw [pc32_nI (by omega), cnt_add (P := fun i => r.testBit i) (Q := fun v => usd (fun j => it f j p) v K) 32 (fun v _ => h v),
      cnt_usd (f := fun j => it f j p) 32 K (fun i j hi hj e => hK.inj hP hp hi hj e),
      cnt_add (P := fun j => decide (it f j p < 32)) (Q := fun _ => true) K (fun j _ => decide_eq_true (by have := it_lt hP hp j; omega)), cnt_all]
  rw [e]
  exact hK
end
section
/-! the chain: what it keeps, what a move does to it -/
def RC (rc : Nat → Nat) (l g : Nat) : Bool := (rc l).testBit g
def ST (st : Nat → Nat) (l g : Nat) : Nat := st (l * 8 + g)
def nS (rc : Nat → Nat) : Nat → Nat
  | 0 => 0
  | l + 1 => nS rc l + (cnt (fun v => (rc l).testBit v) 7 - 1)
def sN (n : Nat) : Nat → Nat
  | 0 => 0
  | l + 1 => sN n l + (n - l - 1)
theorem sN_21 : ∀ n, n < 8 → sN n n ≤ 21 := by decide
theorem cnt_free {n k : Nat} {f : Nat → Nat} (hn : n ≤ 7) (hlt : ∀ j, j < k → f j < n) (hi : ∀ i j, i < k → j < k → f i = f j → i = j) : cnt (fun v => decide (v < n) && !usd f v k) 7 = n - k := by
  obtain ⟨c, hc⟩ : ∃ c, 7 = n + c := ⟨7 - n, by omega⟩
  rw [hc, cnt_split, cnt_0 (P := fun i => decide (n + i < n) && !usd f (n + i) k) c (fun i _ => by
    show (decide (n + i < n) && !usd f (n + i) k) = false
    rw [decide_eq_false (by omega), Bool.false_and]), Nat.add_zero]
  have h1 := cnt_not (fun v => usd f v k) n
  have h2 := cnt_usd (f := f) n k hi
  have h3 : cnt (fun j => decide (f j < n)) k = k := by
    rw [cnt_add (P := fun j => decide (f j < n)) (Q := fun _ => true) k (fun j hj => decide_eq_true (hlt j hj))]
    exact cnt_all k
  rw [cnt_add (P := fun v => decide (v < n) && !usd f v k) (Q := fun v => !usd f v k) n (fun v hv => by
    show (decide (v < n) && !usd f v k) = !usd f v k
    rw [decide_eq_true hv, Bool.true_and])]
  omega
/-- closed under doing one behind the other, and under undoing -/
def Cl (n : Nat) (H : Nat → Prop) : Prop := (∀ a b, Mv n a → Mv n b → H a → H b → H (cM n a b)) ∧ (∀ a, Mv n a → H a → H (iM n a)) ∧ H (eM n)
/-- all steps are in it -/
def Al (n : Nat) (rc st : Nat → Nat) (H : Nat → Prop) : Prop := ∀ l g, l < n → g < n → RC rc l g = true → H (ST st l g)
def CI (n ro : Nat) (st sv rc kw : Nat → Nat) (ns : Nat) : Prop :=
  Mv n ro ∧ Ch n (d8 ro) (RC rc) (ST st) ∧ (∀ l g, l < n → RC rc l g = true → g < n) ∧ (∀ l g, l < n → g < n → RC rc l g = true → g ≠ d8 ro l → sv (l * 8 + g) = i7 (ST st l g)) ∧
  (∀ l g, l < n → g < n → RC rc l g = true → g ≠ d8 ro l → ∃ i, i < ns ∧ kw i = ST st l g) ∧ (∀ i, i < ns → ∃ l g, l < n ∧ g < n ∧ RC rc l g = true ∧ kw i = ST st l g) ∧ ns = nS rc n ∧ ∀ l, l < n → rc l < 2 ^ 31
/-- a chain has grown -/
def GR (n : Nat) (rc st rc' st' : Nat → Nat) : Prop := ∀ l g, l < n → g < n → RC rc l g = true → RC rc' l g = true ∧ ST st' l g = ST st l g
theorem GR.rf {n : Nat} {rc st : Nat → Nat} : GR n rc st rc st := fun _ _ _ _ h => ⟨h, rfl⟩
theorem GR.tr {n : Nat} {rc st rc' st' rc'' st'' : Nat → Nat} (h : GR n rc st rc' st') (h' : GR n rc' st' rc'' st'') : GR n rc st rc'' st'' := fun l g hl hg hr => by
  obtain ⟨a1, a2⟩ := h l g hl hg hr
  obtain ⟨b1, b2⟩ := h' l g hl hg a1
  exact ⟨b1, b2.trans a2⟩
section CHN
variable {n ro : Nat} {st sv rc kw : Nat → Nat} {ns : Nat}
/-- what can't be reached at a level -/
theorem Ch_ne (hM : Mv n ro) (hC : Ch n (d8 ro) (RC rc) (ST st)) {l g j : Nat} (hl : l < n) (hg : g < n) (hr : RC rc l g = true) (hj : j < l) : d8 ro j ≠ g := by
  intro e
  obtain ⟨h1, h2, h3⟩ := (hC l hl).2.2.2 g hg hr
  have a1 := hM.2.1.1 l hl
  have a2 := hM.2.1.1 j (by omega)
  have h4 : d8 (ST st l g) (d8 ro l) = d8 (ST st l g) (d8 ro j) := by rw [h3, h2 j hj, e]
  have h5 := h1.2.1.2 _ _ a1 a2 h4
  have := hM.2.1.2 _ _ hl (by omega) h5
  omega
theorem Ch_cnt (hn : n ≤ 7) (hM : Mv n ro) (hC : Ch n (d8 ro) (RC rc) (ST st)) (hB : ∀ l g, l < n → RC rc l g = true → g < n) {l : Nat} (hl : l < n) : cnt (fun v => (rc l).testBit v) 7 ≤ n - l := by
  rw [← cnt_free (f := d8 ro) (k := l) hn (fun j hj => hM.2.1.1 j (by omega)) (fun i j hi hj e => hM.2.1.2 i j (by omega) (by omega) e)]
  refine cnt_mono 7 (fun g _ hg => ?_)
  have hg1 := hB l g hl hg
  show (decide (g < n) && !usd (d8 ro) g l) = true
  rw [decide_eq_true hg1, Bool.true_and]
  cases hu : usd (d8 ro) g l with
  | false => rfl
  | true =>
    obtain ⟨j, h1, h2⟩ := usd_ex l hu
    exact absurd h2 (Ch_ne hM hC hl hg1 hg h1)
theorem nS_le (hn : n ≤ 7) (hM : Mv n ro) (hC : Ch n (d8 ro) (RC rc) (ST st)) (hB : ∀ l g, l < n → RC rc l g = true → g < n) : ∀ l, l ≤ n → nS rc l ≤ sN n l
  | 0, _ => Nat.le_refl _
  | l + 1, hl => by
    have h1 := nS_le hn hM hC hB l (by omega)
    have h2 := Ch_cnt hn hM hC hB (show l < n by omega)
    show nS rc l + (cnt (fun v => (rc l).testBit v) 7 - 1) ≤ sN n l + (n - l - 1)
    omega
theorem CI_ns21 (hn : n ≤ 7) (h : CI n ro st sv rc kw ns) : ns ≤ 21 := by
  obtain ⟨h1, h2, h3, _, _, _, h7, _⟩ := h
  rw [h7]
  exact Nat.le_trans (nS_le hn h1 h2 h3 n (Nat.le_refl n)) (sN_21 n (by omega))
/-- a move on its way down -/
def SI (n ro : Nat) (st rc : Nat → Nat) (x l y : Nat) : Prop :=
  Mv n y ∧ (∀ j, j < l → d8 y (d8 ro j) = d8 ro j) ∧ (∀ rc' st' : Nat → Nat, Ch n (d8 ro) (RC rc') (ST st') → GR n rc st rc' st' → (CP n (RC rc') (ST st') n x ↔ CP n (RC rc') (ST st') (n - l) y)) ∧ ∀ H : Nat → Prop, Cl n H → Al n rc st H → H x → H y
theorem SI_0 {x : Nat} (hx : Mv n x) : SI n ro st rc x 0 x :=
  ⟨hx, fun j hj => absurd hj (Nat.not_lt_zero j), fun _ _ _ _ => by rw [Nat.sub_zero], fun _ _ _ h => h⟩
theorem iM_fix {x p : Nat} (hn : n ≤ 7) (hx : Mv n x) (hp : p < n) (h : d8 x p = p) : d8 (iM n x) p = p := by
  rw [iM_d hn hx hp]
  obtain ⟨t1, t2⟩ := so_Pn hx hp
  exact hx.2.1.2 _ _ t1 hp (t2.trans h.symm)
theorem iM_at {x p g : Nat} (hn : n ≤ 7) (hx : Mv n x) (hp : p < n) (h : d8 x p = g) : d8 (iM n x) g = p := by
  have hg : g < n := by rw [← h]; exact hx.2.1.1 p hp
  rw [iM_d hn hx hg]
  obtain ⟨t1, t2⟩ := so_Pn hx hg
  exact hx.2.1.2 _ _ t1 hp (t2.trans h.symm)
theorem cM_back {x y : Nat} (hn : n ≤ 7) (hx : Mv n x) (hy : Mv n y) : cM n (cM n x (iM n y)) y = x := by
  rw [cM_assoc hn hx (iM_Mv hn hy) hy, iM_c hn hy, cM_e hn hx]
theorem cM_forth {x y : Nat} (hn : n ≤ 7) (hx : Mv n x) (hy : Mv n y) : cM n (cM n x y) (iM n y) = x := by
  rw [cM_assoc hn hx hy (iM_Mv hn hy), c_iM hn hy, cM_e hn hx]
theorem SI_s1 (hn : n ≤ 7) (h : CI n ro st sv rc kw ns) {x l y : Nat} (hl : l < n) (hI : SI n ro st rc x l y) (hr : RC rc l (d8 y (d8 ro l)) = true) (hne : d8 y (d8 ro l) ≠ d8 ro l) : SI n ro st rc x (l + 1) (c7 y (sv (l * 8 + d8 y (d8 ro l)))) := by
  obtain ⟨hM, hC, hB, hV, _, _, _, _⟩ := h
  obtain ⟨i1, i2, i3, i4⟩ := hI
  have r1 := hM.2.1.1 l hl
  have g1 : d8 y (d8 ro l) < n := i1.2.1.1 _ r1
  obtain ⟨s1, s2, s3⟩ := (hC l hl).2.2.2 _ g1 hr
  have v1 := iM_Mv hn s1
  rw [hV l _ hl g1 hr hne, i7_M hn s1, c7_M hn i1 v1]
  refine ⟨cM_Mv hn i1 v1, fun j hj => ?_, fun rc' st' hC' hG => (i3 rc' st' hC' hG).trans ⟨fun hp => ?_, fun hp => ?_⟩, fun H h1 h2 h3 => h1.1 _ _ i1 v1 (i4 H h1 h2 h3) (h1.2.1 _ s1 (h2 l _ hl g1 hr))⟩
  · have rj := hM.2.1.1 j (by omega)
    rw [cM_d hn i1 v1 rj]
    by_cases e : j = l
    · subst e
      exact iM_at hn s1 r1 s3
    · rw [i2 j (by omega)]
      exact iM_fix hn s1 rj (s2 j (by omega))
  · obtain ⟨m, hm⟩ : ∃ m, n - l = m + 1 := ⟨n - l - 1, by omega⟩
    rw [hm] at hp
    obtain ⟨g, w, hg, hgr, hw, e⟩ := hp
    have hml : n - (m + 1) = l := by omega
    rw [show n - (l + 1) = m by omega]
    have w1 := (CP_Mv hn hC' m w (by omega) hw).1
    have e2 := CP_goal hn hC' (m := m) (g := g) (h := w) (by omega) hg hgr hw
    rw [← e, hml] at e2
    rw [hml] at e
    have eg : g = d8 y (d8 ro l) := e2.symm
    rw [eg, (hG l _ hl g1 hr).2] at e
    have e3 : cM n y (iM n (ST st l (d8 y (d8 ro l)))) = w := by
      have e4 := cM_forth hn w1 s1
      rw [← e] at e4
      exact e4
    rw [e3]
    exact hw
  · obtain ⟨m, hm⟩ : ∃ m, n - l = m + 1 := ⟨n - l - 1, by omega⟩
    rw [show n - (l + 1) = m by omega] at hp
    rw [hm]
    have hml : n - (m + 1) = l := by omega
    obtain ⟨b1, b2⟩ := hG l _ hl g1 hr
    refine ⟨d8 y (d8 ro l), _, g1, by rw [hml]; exact b1, hp, ?_⟩
    rw [hml, b2]
    exact (cM_back hn i1 s1).symm
theorem SI_s0 (hn : n ≤ 7) (h : CI n ro st sv rc kw ns) {x l y : Nat} (hl : l < n) (hI : SI n ro st rc x l y) (he : d8 y (d8 ro l) = d8 ro l) : SI n ro st rc x (l + 1) y := by
  obtain ⟨hM, hC, _⟩ := h
  obtain ⟨i1, i2, i3, i4⟩ := hI
  obtain ⟨m, hm⟩ : ∃ m, n - l = m + 1 := ⟨n - l - 1, by omega⟩
  have hml : n - (m + 1) = l := by omega
  refine ⟨i1, fun j hj => ?_, fun rc' st' hC' hG => (i3 rc' st' hC' hG).trans ⟨fun hp => ?_, fun hp => ?_⟩, i4⟩
  · by_cases e : j = l
    · rw [e]; exact he
    · exact i2 j (by omega)
  · rw [hm] at hp
    rw [show n - (l + 1) = m by omega]
    exact CP_down hn hC' (by omega) hp (by rw [hml]; exact he)
  · rw [show n - (l + 1) = m by omega] at hp
    rw [hm]
    exact CP_up hn hC' (by omega) hp
theorem SI_n (hn : n ≤ 7) (h : CI n ro st sv rc kw ns) {x l y : Nat} (hl : n ≤ l) (hI : SI n ro st rc x l y) : CP n (RC rc) (ST st) n x := by
  obtain ⟨i1, i2, i3, _⟩ := hI
  refine (i3 rc st h.2.1 GR.rf).mpr ?_
  rw [show n - l = 0 by omega]
  show y = eM n
  refine i1.ext (eM_Mv hn) (fun p hp => ?_)
  obtain ⟨j, hj, e⟩ := inj_surj n (d8 ro) h.1.2.1 p hp
  rw [eM_d hn hp, ← e]
  exact i2 j (by omega)
theorem SI_not (hn : n ≤ 7) (h : CI n ro st sv rc kw ns) {x l y : Nat} (hl : l < n) (hI : SI n ro st rc x l y) (hr : RC rc l (d8 y (d8 ro l)) = false) : ¬ CP n (RC rc) (ST st) n x := by
  intro hp
  have hp := (hI.2.2.1 rc st h.2.1 GR.rf).mp hp
  obtain ⟨m, hm⟩ : ∃ m, n - l = m + 1 := ⟨n - l - 1, by omega⟩
  have hml : n - (m + 1) = l := by omega
  rw [hm] at hp
  obtain ⟨g, w, hg, hgr, hw, e⟩ := hp
  have e2 := CP_goal hn h.2.1 (m := m) (g := g) (h := w) (by omega) hg hgr hw
  rw [← e, hml] at e2
  rw [hml] at hgr
  rw [e2, hgr] at hr
  exact absurd hr (by decide)
end CHN
theorem CP_mono {n : Nat} {rc st rc' st' : Nat → Nat} (h : GR n rc st rc' st') : ∀ m x, m ≤ n → CP n (RC rc) (ST st) m x → CP n (RC rc') (ST st') m x
  | 0, _, _, hx => hx
  | m + 1, x, hm, ⟨g, w, hg, hr, hw, e⟩ => by
    obtain ⟨a1, a2⟩ := h (n - (m + 1)) g (by omega) hg hr
    exact ⟨g, w, hg, a1, CP_mono h m w (by omega) hw, by rw [a2]; exact e⟩
/-- what a move that is let in makes of a chain -/
def AD (n ro : Nat) (st sv rc kw : Nat → Nat) (ns x : Nat) (st' sv' rc' kw' : Nat → Nat) (ns' : Nat) : Prop :=
  CI n ro st' sv' rc' kw' ns' ∧ GR n rc st rc' st' ∧ CP n (RC rc') (ST st') n x ∧ (∀ i, i < ns → kw' i = kw i) ∧ ns ≤ ns' ∧ ∀ H : Nat → Prop, Cl n H → Al n rc st H → H x → Al n rc' st' H
theorem AD_0 {n ro : Nat} {st sv rc kw : Nat → Nat} {ns x : Nat} (h : CI n ro st sv rc kw ns) (hx : CP n (RC rc) (ST st) n x) : AD n ro st sv rc kw ns x st sv rc kw ns :=
  ⟨h, GR.rf, hx, fun _ _ => rfl, Nat.le_refl _, fun _ _ h _ => h⟩
section NEW
variable {n ro : Nat} {st sv rc kw : Nat → Nat} {ns x l y : Nat}
theorem RC_up {g : Nat} {l' g' : Nat} : RC (up rc l (rc l ||| 2 ^ g)) l' g' = (RC rc l' g' || (decide (l' = l) && decide (g = g'))) := by
  unfold RC
  by_cases e : l' = l
  · subst e
    rw [up_s, set_bit, decide_eq_true rfl, Bool.true_and]
  · rw [up_n e, decide_eq_false e, Bool.false_and, Bool.or_false]
theorem ST_up {g v : Nat} (hg : g < 8) {l' g' : Nat} (hg' : g' < 8) : ST (up st (l * 8 + g) v) l' g' = if l' = l ∧ g' = g then v else ST st l' g' := by
  unfold ST
  by_cases e : l' = l ∧ g' = g
  · rw [if_pos e, e.1, e.2, up_s]
  · rw [if_neg e, up_n (by omega)]
/-- the chain with one more step; its steps are still few -/
theorem NEW_C (hn : n ≤ 7) (h : CI n ro st sv rc kw ns) (hl : l < n) (hI : SI n ro st rc x l y) (hr : RC rc l (d8 y (d8 ro l)) = false) :
    Ch n (d8 ro) (RC (up rc l (rc l ||| 2 ^ d8 y (d8 ro l)))) (ST (up st (l * 8 + d8 y (d8 ro l)) y)) ∧ (∀ l' g', l' < n → RC (up rc l (rc l ||| 2 ^ d8 y (d8 ro l))) l' g' = true → g' < n) ∧ nS (up rc l (rc l ||| 2 ^ d8 y (d8 ro l))) n = ns + 1 ∧ ns + 1 ≤ 21 := by
  obtain ⟨hM, hC, hB, _, _, _, h7, _⟩ := h
  obtain ⟨i1, i2, _, _⟩ := hI
  have r1 := hM.2.1.1 l hl
  have g1 : d8 y (d8 ro l) < n := i1.2.1.1 _ r1
  have A : Ch n (d8 ro) (RC (up rc l (rc l ||| 2 ^ d8 y (d8 ro l)))) (ST (up st (l * 8 + d8 y (d8 ro l)) y)) := by
    intro l' hl'
    obtain ⟨c1, c2, c3, c4⟩ := hC l' hl'
    refine ⟨c1, by rw [RC_up, c2, Bool.true_or], ?_, fun g' hg' hr' => ?_⟩
    · rw [ST_up (by omega) (by omega), if_neg]
      · exact c3
      · intro e
        rw [← e.2, ← e.1, c2] at hr
        exact absurd hr (by decide)
    · rw [ST_up (by omega) (by omega)]
      by_cases e : l' = l ∧ g' = d8 y (d8 ro l)
      · rw [if_pos e, e.1, e.2]
        exact ⟨i1, i2, rfl⟩
      · rw [if_neg e]
        rw [RC_up] at hr'
        rcases Bool.or_eq_true _ _ |>.mp hr' with q | q
        · exact c4 g' hg' q
        · obtain ⟨q1, q2⟩ := Bool.and_eq_true _ _ |>.mp q
          exact absurd ⟨of_decide_eq_true q1, (of_decide_eq_true q2).symm⟩ e
  have B : ∀ l' g', l' < n → RC (up rc l (rc l ||| 2 ^ d8 y (d8 ro l))) l' g' = true → g' < n := by
    intro l' g' hl' hr'
    rw [RC_up] at hr'
    rcases Bool.or_eq_true _ _ |>.mp hr' with q | q
    · exact hB l' g' hl' q
    · obtain ⟨_, q2⟩ := Bool.and_eq_true _ _ |>.mp q
      rw [← of_decide_eq_true q2]
      exact g1
  have hone : 1 ≤ cnt (fun v => (rc l).testBit v) 7 := cnt_pos 7 (d8 ro l) (by omega) (hC l hl).2.1
  have hmore : cnt (fun v => (rc l ||| 2 ^ d8 y (d8 ro l)).testBit v) 7 = cnt (fun v => (rc l).testBit v) 7 + 1 := by
    have e1 : cnt (fun v => (rc l ||| 2 ^ d8 y (d8 ro l)).testBit v) 7 = cnt (fun v => (rc l).testBit v || decide (v = d8 y (d8 ro l))) 7 :=
      cnt_add 7 (fun v _ => by
        show (rc l ||| 2 ^ d8 y (d8 ro l)).testBit v = ((rc l).testBit v || decide (v = d8 y (d8 ro l)))
        rw [set_bit]
        by_cases q : d8 y (d8 ro l) = v
        · rw [decide_eq_true q, decide_eq_true q.symm]
        · rw [decide_eq_false q, decide_eq_false (fun z => q z.symm)])
    rw [e1, cnt_or _ _ 7 (fun v _ hv => decide_eq_false (fun q => by
      rw [q] at hv
      have hr : (rc l).testBit (d8 y (d8 ro l)) = false := hr
      rw [hr] at hv
      exact absurd hv (by decide))), cnt_one 7 (by omega)]
  have C : ∀ k, k ≤ n → nS (up rc l (rc l ||| 2 ^ d8 y (d8 ro l))) k = nS rc k + (if l < k then 1 else 0) := by
    intro k
    induction k with
    | zero => intro _; rfl
    | succ k ih =>
      intro hk
      show nS (up rc l (rc l ||| 2 ^ d8 y (d8 ro l))) k + (cnt (fun v => (up rc l (rc l ||| 2 ^ d8 y (d8 ro l)) k).testBit v) 7 - 1) = nS rc k + (cnt (fun v => (rc k).testBit v) 7 - 1) + (if l < k + 1 then 1 else 0)
      rw [ih (by omega)]
      by_cases e : k = l
      · subst e
        rw [up_s, hmore, if_neg (Nat.lt_irrefl k), if_pos (Nat.lt_succ_self k)]
        omega
      · rw [up_n e]
        by_cases q : l < k
        · rw [if_pos q, if_pos (by omega)]; omega
        · rw [if_neg q, if_neg (by omega)]
          omega
  have D := C n (Nat.le_refl n)
  rw [if_pos hl, ← h7] at D
  refine ⟨A, B, D, ?_⟩
  rw [← D]
  exact Nat.le_trans (nS_le hn hM A B n (Nat.le_refl n)) (sN_21 n (by omega))
theorem NEW (hn : n ≤ 7) (h : CI n ro st sv rc kw ns) (hl : l < n) (hI : SI n ro st rc x l y) (hr : RC rc l (d8 y (d8 ro l)) = false) :
    AD n ro st sv rc kw ns x (up st (l * 8 + d8 y (d8 ro l)) y) (up sv (l * 8 + d8 y (d8 ro l)) (i7 y)) (up rc l (rc l ||| 2 ^ d8 y (d8 ro l))) (up kw ns y) (ns + 1) := by
  obtain ⟨A, B, D, _⟩ := NEW_C hn h hl hI hr
  have hnot := hr
  obtain ⟨hM, hC, hB, hV, hK, hK2, h7, h8⟩ := h
  obtain ⟨i1, i2, i3, i4⟩ := hI
  have r1 := hM.2.1.1 l hl
  have g1 : d8 y (d8 ro l) < n := i1.2.1.1 _ r1
  have ncase : ∀ l' g', RC (up rc l (rc l ||| 2 ^ d8 y (d8 ro l))) l' g' = true → ¬ (l' = l ∧ g' = d8 y (d8 ro l)) → RC rc l' g' = true := by
    intro l' g' hr' e
    rw [RC_up] at hr'
    rcases Bool.or_eq_true _ _ |>.mp hr' with q | q
    · exact q
    · obtain ⟨q1, q2⟩ := Bool.and_eq_true _ _ |>.mp q
      exact absurd ⟨of_decide_eq_true q1, (of_decide_eq_true q2).symm⟩ e
  have G : GR n rc st (up rc l (rc l ||| 2 ^ d8 y (d8 ro l))) (up st (l * 8 + d8 y (d8 ro l)) y) := by
    intro l' g' hl' hg' hr'
    refine ⟨by rw [RC_up, hr', Bool.true_or], ?_⟩
    rw [ST_up (by omega) (by omega), if_neg]
    intro e
    rw [← e.2, ← e.1, hr'] at hnot
    exact absurd hnot (by decide)
  refine ⟨⟨hM, A, B, fun l' g' hl' hg' hr' hne => ?_, fun l' g' hl' hg' hr' hne => ?_, fun i hi => ?_, D.symm, fun l' hl' => ?_⟩, G, ?_, fun i hi => up_n (by omega), Nat.le_succ _, fun H h1 h2 h3 l' g' hl' hg' hr' => ?_⟩
  · rw [ST_up (by omega) (by omega)]
    by_cases e : l' = l ∧ g' = d8 y (d8 ro l)
    · rw [if_pos e, e.1, e.2, up_s]
    · rw [if_neg e, up_n (by omega)]
      exact hV l' g' hl' hg' (ncase l' g' hr' e) hne
  · rw [ST_up (by omega) (by omega)]
    by_cases e : l' = l ∧ g' = d8 y (d8 ro l)
    · rw [if_pos e]
      exact ⟨ns, Nat.lt_succ_self _, up_s _ _ _⟩
    · rw [if_neg e]
      obtain ⟨i, h1, h2⟩ := hK l' g' hl' hg' (ncase l' g' hr' e) hne
      exact ⟨i, by omega, by rw [up_n (by omega)]; exact h2⟩
  · by_cases e : i = ns
    · refine ⟨l, d8 y (d8 ro l), hl, g1, by rw [RC_up, decide_eq_true rfl, decide_eq_true rfl, Bool.true_and, Bool.or_true], ?_⟩
      rw [e, up_s, ST_up (by omega) (by omega), if_pos ⟨rfl, rfl⟩]
    · obtain ⟨l', g', a1, a2, a3, a4⟩ := hK2 i (by omega)
      obtain ⟨b1, b2⟩ := G l' g' a1 a2 a3
      exact ⟨l', g', a1, a2, b1, by rw [up_n e, a4, b2]⟩
  · by_cases e : l' = l
    · rw [e, up_s]
      exact Nat.or_lt_two_pow (h8 l hl) (Nat.pow_lt_pow_right (by decide) (by omega))
    · rw [up_n e]
      exact h8 l' hl'
  · -- the move itself is made up now
    have hs : ST (up st (l * 8 + d8 y (d8 ro l)) y) l (d8 y (d8 ro l)) = y := by rw [ST_up (by omega) (by omega), if_pos ⟨rfl, rfl⟩]
    refine (i3 _ _ A G).mpr ?_
    obtain ⟨m, hm⟩ : ∃ m, n - l = m + 1 := ⟨n - l - 1, by omega⟩
    have hml : n - (m + 1) = l := by omega
    rw [hm]
    refine ⟨d8 y (d8 ro l), eM n, g1, by rw [hml, RC_up, decide_eq_true rfl, decide_eq_true rfl, Bool.true_and, Bool.or_true], CP_e hn A m (by omega), ?_⟩
    rw [hml, hs, eM_c hn i1]
  · rw [ST_up (by omega) (by omega)]
    by_cases e : l' = l ∧ g' = d8 y (d8 ro l)
    · rw [if_pos e]
      exact i4 H h1 h2 h3
    · rw [if_neg e]
      exact h2 l' g' hl' hg' (ncase l' g' hr' e)
end NEW
/-! pairs of steps that are made up; then all is a group -/
def PQ (n : Nat) (rc st kw : Nat → Nat) (k : Nat) : Prop := ∀ i j, i < k → j < k → CP n (RC rc) (ST st) n (cM n (kw i) (kw j))
section PAIRS
variable {n ro : Nat} {st sv rc kw : Nat → Nat} {ns : Nat}
theorem PQ.grow {rc' st' kw' : Nat → Nat} {k : Nat} (h : PQ n rc st kw k) (hG : GR n rc st rc' st') (hk : ∀ i, i < k → kw' i = kw i) : PQ n rc' st' kw' k := fun i j hi hj => by
  rw [hk i hi, hk j hj]
  exact CP_mono hG n _ (Nat.le_refl n) (h i j hi hj)
theorem CP_one (hn : n ≤ 7) (hC : Ch n (d8 ro) (RC rc) (ST st)) {l g : Nat} (hl : l < n) (hg : g < n) (hr : RC rc l g = true) : CP n (RC rc) (ST st) n (ST st l g) := by
  obtain ⟨m, hm⟩ : ∃ m, n - l = m + 1 := ⟨n - l - 1, by omega⟩
  have hml : n - (m + 1) = l := by omega
  have h1 : CP n (RC rc) (ST st) (m + 1) (ST st l g) := by
    refine ⟨g, eM n, hg, by rw [hml]; exact hr, CP_e hn hC m (by omega), ?_⟩
    rw [hml, eM_c hn ((hC l hl).2.2.2 g hg hr).1]
  have h2 := CP_ups hn hC h1 l (by omega)
  rw [show m + 1 + l = n by omega] at h2
  exact h2
theorem CK_of (hn : n ≤ 7) (h : CI n ro st sv rc kw ns) (hQ : PQ n rc st kw ns) : CK n (RC rc) (ST st) := by
  obtain ⟨hM, hC, hB, _, hK, _⟩ := h
  intro l l' g g' hl hl' hg hg' hr hr'
  have s1 := ((hC l hl).2.2.2 g hg hr).1
  have s2 := ((hC l' hl').2.2.2 g' hg' hr').1
  by_cases a : g = d8 ro l
  · have e : ST st l g = eM n := by rw [a]; exact (hC l hl).2.2.1
    rw [e, eM_c hn s2]
    exact CP_one hn hC hl' hg' hr'
  · by_cases b : g' = d8 ro l'
    · have e : ST st l' g' = eM n := by rw [b]; exact (hC l' hl').2.2.1
      rw [e, cM_e hn s1]
      exact CP_one hn hC hl hg hr
    · obtain ⟨i, h1, h2⟩ := hK l g hl hg hr a
      obtain ⟨j, h3, h4⟩ := hK l' g' hl' hg' hr' b
      rw [← h2, ← h4]
      exact hQ i j h1 h3
theorem CP_cM (hn : n ≤ 7) (h : CI n ro st sv rc kw ns) (hQ : PQ n rc st kw ns) {x y : Nat} (hx : CP n (RC rc) (ST st) n x) (hy : CP n (RC rc) (ST st) n y) : CP n (RC rc) (ST st) n (cM n x y) :=
  CP_mul hn h.2.1 (CK_of hn h hQ) n (Nat.le_refl n) x y hx hy
/-- what is made up is in whatever is closed and has the steps -/
theorem CP_in (hn : n ≤ 7) (hC : Ch n (d8 ro) (RC rc) (ST st)) {H : Nat → Prop} (h1 : Cl n H) (h2 : Al n rc st H) : ∀ m x, m ≤ n → CP n (RC rc) (ST st) m x → H x
  | 0, x, _, hx => by
    have hx : x = eM n := hx
    rw [hx]
    exact h1.2.2
  | m + 1, x, hm, ⟨g, w, hg, hr, hw, e⟩ => by
    have w1 := (CP_Mv hn hC m w (by omega) hw).1
    have s1 := ((hC (n - (m + 1)) (by omega)).2.2.2 g hg hr).1
    rw [e]
    exact h1.1 _ _ w1 s1 (CP_in hn hC h1 h2 m w (by omega) hw) (h2 _ g (by omega) hg hr)
end PAIRS
/-! the group of some moves -/
def Gg (n : Nat) (gn : Nat → Prop) (x : Nat) : Prop := ∀ H : Nat → Prop, H (eM n) → (∀ a b, Mv n a → H a → gn b → H (cM n a b)) → H x
section GROUP
variable {n : Nat} {gn : Nat → Prop}
theorem Gg_e : Gg n gn (eM n) := fun _ h _ => h
theorem Gg_Mv (hn : n ≤ 7) (hg : ∀ y, gn y → Mv n y) {x : Nat} (h : Gg n gn x) : Mv n x := h (Mv n) (eM_Mv hn) (fun a b ha _ hb => cM_Mv hn ha (hg b hb))
theorem Gg_s {x y : Nat} (hx : Mv n x) (h : Gg n gn x) (hy : gn y) : Gg n gn (cM n x y) := fun H h1 h2 => h2 x y hx (h H h1 h2) hy
theorem Gg_of (hn : n ≤ 7) (hg : ∀ y, gn y → Mv n y) {y : Nat} (hy : gn y) : Gg n gn y := by
  have h := Gg_s (n := n) (eM_Mv hn) Gg_e hy
  rw [eM_c hn (hg y hy)] at h
  exact h
theorem Gg_mul (hn : n ≤ 7) (hg : ∀ y, gn y → Mv n y) {x y : Nat} (hx : Gg n gn x) (hy : Gg n gn y) : Gg n gn (cM n x y) := by
  have hxM := Gg_Mv hn hg hx
  refine (hy (fun z => Mv n z ∧ Gg n gn (cM n x z)) ⟨eM_Mv hn, by rw [cM_e hn hxM]; exact hx⟩ (fun a b ha h hb => ⟨cM_Mv hn ha (hg b hb), ?_⟩)).2
  rw [← cM_assoc hn hxM ha (hg b hb)]
  exact Gg_s (cM_Mv hn hxM ha) h.2 hb
theorem it_420 {f : Nat → Nat} (hf : Pn n f) (hn : n ≤ 7) {p : Nat} (hp : p < n) : it f 420 p = p := by
  obtain ⟨K, h1, h2, h3, _⟩ := it_ret hf hp
  obtain ⟨m, hm⟩ := dvd420 K (by omega) h1
  rw [hm]
  exact it_mul h3 m
theorem it7_420 {x : Nat} (hn : n ≤ 7) (hx : Mv n x) : it7 x 420 = eM n := by
  obtain ⟨h1, h2⟩ := it7_M hn hx 420
  refine h1.ext (eM_Mv hn) (fun p hp => ?_)
  rw [h2 p hp, eM_d hn hp]
  exact it_420 hx.2.1 hn hp
theorem iM_it7 {x : Nat} (hn : n ≤ 7) (hx : Mv n x) : iM n x = it7 x 419 := by
  have h1 := (it7_M hn hx 419).1
  have e : cM n (it7 x 419) x = eM n := by
    rw [← c7_M hn h1 hx]
    exact it7_420 hn hx
  have e2 := cM_forth hn h1 hx
  rw [e, eM_c hn (iM_Mv hn hx)] at e2
  exact e2
theorem Gg_it (hn : n ≤ 7) (hg : ∀ y, gn y → Mv n y) {x : Nat} (hx : Gg n gn x) : ∀ k, Gg n gn (it7 x k)
  | 0 => by
    show Gg n gn 1754760
    rw [e7_M hn]
    exact Gg_e
  | k + 1 => by
    show Gg n gn (c7 (it7 x k) x)
    rw [c7_M hn (it7_M hn (Gg_Mv hn hg hx) k).1 (Gg_Mv hn hg hx)]
    exact Gg_mul hn hg (Gg_it hn hg hx k) hx
theorem Gg_Cl (hn : n ≤ 7) (hg : ∀ y, gn y → Mv n y) : Cl n (Gg n gn) :=
  ⟨fun _ _ _ _ ha hb => Gg_mul hn hg ha hb, fun a ha h => by rw [iM_it7 hn ha]; exact Gg_it hn hg h 419, Gg_e⟩
theorem Gg_mono {gn' : Nat → Prop} (h : ∀ y, gn y → gn' y) {x : Nat} (hx : Gg n gn x) : Gg n gn' x :=
  fun H h1 h2 => hx H h1 (fun a b ha hH hb => h2 a b ha hH (h b hb))
end GROUP
end
section
/-! the chain raised: what the contracts want -/
/-- the chain's cells -/
def CM (st sv rc sz kw : Nat → Nat) (ns tk ro nn : Nat) (w : List jC) : Prop :=
  w[2]? = some (.inr (2, [.ref 3, .ref 4, .ref 5, .ref 6, .ref 7, .int (nI ns), .int (nI tk), .int (nI ro), .int (nI nn)])) ∧ w[3]? = some (aF 64 st) ∧ w[4]? = some (aF 64 sv) ∧ w[5]? = some (aF 8 rc) ∧ w[6]? = some (aF 8 sz) ∧ w[7]? = some (aF 21 kw)
def FC (w w' : List jC) : Prop := w'.length = w.length ∧ ∀ i, ¬ (2 ≤ i ∧ i ≤ 7) → w'[i]? = w[i]?
theorem FC.rf {w : List jC} : FC w w := ⟨rfl, fun _ _ => rfl⟩
theorem FC.tr {w w' w'' : List jC} (h : FC w w') (h' : FC w' w'') : FC w w'' := ⟨h'.1.trans h.1, fun i hi => (h'.2 i hi).trans (h.2 i hi)⟩
theorem FC.st {w w' w'' : List jC} {a : Nat} (h : FC w w') (hl : w''.length = w'.length) (hne : ∀ c, c ≠ a → w''[c]? = w'[c]?) (ha : 2 ≤ a ∧ a ≤ 7) : FC w w'' :=
  ⟨hl.trans h.1, fun i hi => (hne i (fun e => hi (by rw [e]; exact ha))).trans (h.2 i hi)⟩
section RAISE
variable {n ro : Nat} {st sv rc kw : Nat → Nat} {ns : Nat}
theorem kw_M (h : CI n ro st sv rc kw ns) {i : Nat} (hi : i < ns) : Mv n (kw i) := by
  obtain ⟨_, hC, _, _, _, hK, _⟩ := h
  obtain ⟨l, g, hl, hg, hr, e⟩ := hK i hi
  rw [e]
  exact ((hC l hl).2.2.2 g hg hr).1
theorem kw_H (h : CI n ro st sv rc kw ns) {H : Nat → Prop} (h2 : Al n rc st H) {i : Nat} (hi : i < ns) : H (kw i) := by
  obtain ⟨_, _, _, _, _, hK, _⟩ := h
  obtain ⟨l, g, hl, hg, hr, e⟩ := hK i hi
  rw [e]
  exact h2 l g hl hg hr
theorem PQ_s {c : Nat} (h : PQ n rc st kw c) (h2 : ∀ j, j < c + 1 → CP n (RC rc) (ST st) n (cM n (kw c) (kw j)) ∧ CP n (RC rc) (ST st) n (cM n (kw j) (kw c))) : PQ n rc st kw (c + 1) := fun i j hi hj => by
  by_cases a : i = c
  · rw [a]
    exact (h2 j hj).1
  · by_cases b : j = c
    · rw [b]
      exact (h2 i hi).2
    · exact h i j (by omega) (by omega)
theorem PW_s (hn : n ≤ 7) {st1 sv1 rc1 kw1 st2 sv2 rc2 kw2 : Nat → Nat} {ns1 ns2 c d : Nat} (hc : c < ns) (hd : d < c + 1) (h : ∀ j, j < d → CP n (RC rc) (ST st) n (cM n (kw c) (kw j)) ∧ CP n (RC rc) (ST st) n (cM n (kw j) (kw c)))
    (h1 : AD n ro st sv rc kw ns (cM n (kw c) (kw d)) st1 sv1 rc1 kw1 ns1) (h2 : AD n ro st1 sv1 rc1 kw1 ns1 (cM n (kw d) (kw c)) st2 sv2 rc2 kw2 ns2) :
    ∀ j, j < d + 1 → CP n (RC rc2) (ST st2) n (cM n (kw2 c) (kw2 j)) ∧ CP n (RC rc2) (ST st2) n (cM n (kw2 j) (kw2 c)) := by
  obtain ⟨_, g1, p1, k1, l1, _⟩ := h1
  obtain ⟨_, g2, p2, k2, _, _⟩ := h2
  have hk : ∀ i, i < ns → kw2 i = kw i := fun i hi => (k2 i (by omega)).trans (k1 i hi)
  intro j hj
  rw [hk c hc, hk j (by omega)]
  by_cases e : j = d
  · rw [e]
    exact ⟨CP_mono g2 n _ (Nat.le_refl n) p1, p2⟩
  · obtain ⟨a, b⟩ := h j (by omega)
    exact ⟨CP_mono (g1.tr g2) n _ (Nat.le_refl n) a, CP_mono (g1.tr g2) n _ (Nat.le_refl n) b⟩
/-- sizes, from the last level on -/
def zF (rc : Nat → Nat) (n : Nat) : Nat → Nat
  | 0 => 1
  | k + 1 => zF rc n k * cnt (fun v => (rc (n - (k + 1))).testBit v) 32
theorem zF_0 {sz : Nat → Nat} : ∀ l, n ≤ l → l ≤ n → up sz n 1 l = zF rc n (n - l) := fun l h1 h2 => by
  have e : l = n := by omega
  rw [e, up_s, Nat.sub_self]
  rfl
theorem zF_s {sz : Nat → Nat} {c : Nat} (hc : 1 ≤ c) (hn : c ≤ n) (h8 : ∀ l, l < n → rc l < 2 ^ 31) (h : ∀ l, c ≤ l → l ≤ n → sz l = zF rc n (n - l)) : ∀ l, c - 1 ≤ l → l ≤ n → up sz (c - 1) (sz (c - 1 + 1) * pc32 (nI (rc (c - 1)))) l = zF rc n (n - l) := fun l h1 h2 => by
  by_cases e : l = c - 1
  · rw [e, up_s, h (c - 1 + 1) (by omega) (by omega), pc32_nI (Nat.lt_trans (h8 (c - 1) (by omega)) (by decide)), show n - (c - 1) = (n - (c - 1 + 1)) + 1 by omega]
    show _ = zF rc n (n - (c - 1 + 1)) * cnt (fun v => (rc (n - (n - (c - 1 + 1) + 1))).testBit v) 32
    rw [show n - (n - (c - 1 + 1) + 1) = c - 1 by omega]
  · rw [up_n e]
    exact h l (by omega) h2
/-- the moves of the first cells of a set -/
def gS (cm : Nat → Nat) (s k y : Nat) : Prop := ∃ c, c < k ∧ s.testBit c = true ∧ y = cm c
theorem gS_M {cm : Nat → Nat} {s k : Nat} (hk : k ≤ 6) (h : ∀ c, c < 6 → Mv n (cm c)) : ∀ y, gS cm s k y → Mv n y := fun y hy => by
  obtain ⟨c, h1, _, e⟩ := hy
  rw [e]
  exact h c (by omega)
theorem RS_s {c : Nat} (hc : c < n) (hn : n ≤ 7) (hM : Mv n ro) (h : ∀ l, l < c → rc l = 2 ^ d8 ro l ∧ st (l * 8 + d8 ro l) = 1754760) : ∀ l, l < c + 1 → up rc c (2 ^ d8 ro c) l = 2 ^ d8 ro l ∧ up st (c * 8 + d8 ro c) 1754760 (l * 8 + d8 ro l) = 1754760 := fun l hl => by
  by_cases e : l = c
  · rw [e, up_s, up_s]
    exact ⟨rfl, rfl⟩
  · have a := hM.2.1.1 c hc
    have b := hM.2.1.1 l (by omega)
    rw [up_n e, up_n (by omega)]
    exact h l (by omega)
theorem RC_0 (h : ∀ l, l < n → rc l = 2 ^ d8 ro l ∧ st (l * 8 + d8 ro l) = 1754760) {l g : Nat} (hl : l < n) (hr : RC rc l g = true) : g = d8 ro l := by
  unfold RC at hr
  rw [(h l hl).1, Nat.testBit_two_pow] at hr
  exact (of_decide_eq_true hr).symm
theorem CI_0 (hn : n ≤ 7) (hM : Mv n ro) (h : ∀ l, l < n → rc l = 2 ^ d8 ro l ∧ st (l * 8 + d8 ro l) = 1754760) : CI n ro st sv rc kw 0 := by
  have h1 : ∀ l, l < n → RC rc l (d8 ro l) = true := fun l hl => by
    unfold RC
    rw [(h l hl).1]
    exact Nat.testBit_two_pow_self
  have hS : ∀ l, l < n → ST st l (d8 ro l) = eM n := fun l hl => by
    unfold ST
    rw [(h l hl).2]
    exact e7_M hn
  refine ⟨hM, fun l hl => ⟨hM.2.1.1 l hl, h1 l hl, hS l hl, fun g hg hr => ?_⟩, fun l g hl hr => ?_, fun l g hl hg hr hne => absurd (RC_0 h hl hr) hne, fun l g hl hg hr hne => absurd (RC_0 h hl hr) hne, fun i hi => absurd hi (Nat.not_lt_zero i), ?_, fun l hl => ?_⟩
  · rw [RC_0 h hl hr, hS l hl]
    exact ⟨eM_Mv hn, fun j hj => eM_d hn (hM.2.1.1 j (by omega)), eM_d hn (hM.2.1.1 l hl)⟩
  · rw [RC_0 h hl hr]
    exact hM.2.1.1 l hl
  · have hz : ∀ k, k ≤ n → nS rc k = 0 := by
      intro k
      induction k with
      | zero => intro _; rfl
      | succ k ih =>
        intro hk
        have a := hM.2.1.1 k (by omega)
        have e : cnt (fun v => (rc k).testBit v) 7 = 1 := by
          rw [← cnt_one (r := d8 ro k) 7 (by omega)]
          refine cnt_add 7 (fun v _ => ?_)
          show (rc k).testBit v = decide (v = d8 ro k)
          rw [(h k (by omega)).1, Nat.testBit_two_pow]
          by_cases q : v = d8 ro k
          · rw [decide_eq_true q, decide_eq_true q.symm]
          · rw [decide_eq_false q, decide_eq_false (fun z => q z.symm)]
        show nS rc k + (cnt (fun v => (rc k).testBit v) 7 - 1) = 0
        rw [ih (by omega), e]
    exact (hz n (Nat.le_refl n)).symm
  · have a := hM.2.1.1 l hl
    rw [(h l hl).1]
    exact Nat.pow_lt_pow_right (by decide) (by omega)
theorem Al_0 (hn : n ≤ 7) (hM : Mv n ro) (h : ∀ l, l < n → rc l = 2 ^ d8 ro l ∧ st (l * 8 + d8 ro l) = 1754760) {gn : Nat → Prop} : Al n rc st (Gg n gn) := fun l g hl hg hr => by
  rw [RC_0 h hl hr]
  unfold ST
  rw [(h l hl).2, e7_M hn]
  exact Gg_e
theorem gS_s {cm : Nat → Nat} {s k : Nat} : ∀ y, gS cm s k y → gS cm s (k + 1) y := fun _ h => by
  obtain ⟨c, h1, h2, h3⟩ := h
  exact ⟨c, by omega, h2, h3⟩
theorem Al_n {cm : Nat → Nat} {s k : Nat} (h : Al n rc st (Gg n (gS cm s k))) : Al n rc st (Gg n (gS cm s (k + 1))) := fun l g hl hg hr => Gg_mono gS_s (h l g hl hg hr)
theorem Al_c {cm : Nat → Nat} {s k : Nat} {st1 sv1 rc1 kw1 st2 rc2 : Nat → Nat} {ns1 : Nat} (hn : n ≤ 7) (hk : k < 6) (hcm : ∀ c, c < 6 → Mv n (cm c)) (h : Al n rc st (Gg n (gS cm s k))) (hb : s.testBit k = true) (had : AD n ro st sv rc kw ns (cm k) st1 sv1 rc1 kw1 ns1)
    (hc : ∀ H : Nat → Prop, Cl n H → Al n rc1 st1 H → Al n rc2 st2 H) : Al n rc2 st2 (Gg n (gS cm s (k + 1))) := by
  have hg := gS_M (s := s) (k := k + 1) (by omega) hcm
  have hcl := Gg_Cl hn hg
  exact hc _ hcl (had.2.2.2.2.2 _ hcl (Al_n h) (Gg_of hn hg ⟨k, Nat.lt_succ_self k, hb, rfl⟩))
theorem CS_n {cm : Nat → Nat} {s k : Nat} (h : ∀ c, c < k → s.testBit c = true → CP n (RC rc) (ST st) n (cm c)) (hb : s.testBit k = false) : ∀ c, c < k + 1 → s.testBit c = true → CP n (RC rc) (ST st) n (cm c) := fun c hc hs => by
  by_cases e : c = k
  · rw [e, hb] at hs
    exact absurd hs (by decide)
  · exact h c (by omega) hs
theorem CS_p {cm : Nat → Nat} {s k : Nat} (h : ∀ c, c < k → s.testBit c = true → CP n (RC rc) (ST st) n (cm c)) (hp : CP n (RC rc) (ST st) n (cm k)) : ∀ c, c < k + 1 → s.testBit c = true → CP n (RC rc) (ST st) n (cm c) := fun c hc hs => by
  by_cases e : c = k
  · rw [e]
    exact hp
  · exact h c (by omega) hs
theorem CS_c {cm : Nat → Nat} {s k : Nat} {st1 sv1 rc1 kw1 st2 rc2 : Nat → Nat} {ns1 : Nat} (h : ∀ c, c < k → s.testBit c = true → CP n (RC rc) (ST st) n (cm c)) (had : AD n ro st sv rc kw ns (cm k) st1 sv1 rc1 kw1 ns1) (hg : GR n rc1 st1 rc2 st2) :
    ∀ c, c < k + 1 → s.testBit c = true → CP n (RC rc2) (ST st2) n (cm c) := fun c hc hs => by
  by_cases e : c = k
  · rw [e]
    exact CP_mono hg n _ (Nat.le_refl n) had.2.2.1
  · exact CP_mono (had.2.1.tr hg) n _ (Nat.le_refl n) (h c (by omega) hs)
/-- what is made up is the group -/
theorem GE_is {cm : Nat → Nat} {s k : Nat} (hn : n ≤ 7) (hk : k = 6) (h : CI n ro st sv rc kw ns) (hQ : PQ n rc st kw ns) (hA : Al n rc st (Gg n (gS cm s k))) (hS : ∀ c, c < k → s.testBit c = true → CP n (RC rc) (ST st) n (cm c)) (hcm : ∀ c, c < 6 → Mv n (cm c)) : ∀ x, CP n (RC rc) (ST st) n x ↔ Gg n (gS cm s 6) x := fun x => by
  subst hk
  refine ⟨fun hx => CP_in hn h.2.1 (Gg_Cl hn (gS_M (Nat.le_refl 6) hcm)) hA n x (Nat.le_refl n) hx, fun hx => ?_⟩
  refine (hx (fun z => Mv n z ∧ CP n (RC rc) (ST st) n z) ⟨eM_Mv hn, CP_e hn h.2.1 n (Nat.le_refl n)⟩ (fun a b ha hz hb => ?_)).2
  obtain ⟨c, h1, h2, e⟩ := hb
  have hcp := hS c h1 h2
  rw [e]
  exact ⟨cM_Mv hn ha (hcm c h1), CP_cM hn h hQ hz.2 hcp⟩
end RAISE
end
section
/-! counting moves by their numbers -/
def sm (f : Nat → Nat) : Nat → Nat
  | 0 => 0
  | k + 1 => sm f k + f k
theorem sm_congr {f g : Nat → Nat} : ∀ k, (∀ i, i < k → f i = g i) → sm f k = sm g k
  | 0, _ => rfl
  | k + 1, h => by
    show sm f k + f k = sm g k + g k
    rw [sm_congr k (fun i hi => h i (by omega)), h k (Nat.lt_succ_self k)]
theorem sm_add (f g : Nat → Nat) : ∀ k, sm (fun i => f i + g i) k = sm f k + sm g k
  | 0 => rfl
  | k + 1 => by
    show sm (fun i => f i + g i) k + (f k + g k) = (sm f k + f k) + (sm g k + g k)
    rw [sm_add f g k]
    omega
theorem sm_0 : ∀ k, sm (fun _ => 0) k = 0
  | 0 => rfl
  | k + 1 => by
    show sm (fun _ => 0) k + 0 = 0
    rw [sm_0 k]
theorem sm_swap (f : Nat → Nat → Nat) (m : Nat) : ∀ k, sm (fun i => sm (fun j => f i j) m) k = sm (fun j => sm (fun i => f i j) k) m
  | 0 => (sm_0 m).symm
  | k + 1 => by
    show sm (fun i => sm (fun j => f i j) m) k + sm (fun j => f k j) m = sm (fun j => sm (fun i => f i j) k + f k j) m
    rw [sm_swap f m k, sm_add]
theorem sm_mul (a : Nat) (B : Nat → Bool) : ∀ k, sm (fun i => a * (if B i = true then 1 else 0)) k = a * cnt B k
  | 0 => rfl
  | k + 1 => by
    show sm (fun i => a * (if B i = true then 1 else 0)) k + a * (if B k = true then 1 else 0) = a * (cnt B k + (if B k = true then 1 else 0))
    rw [sm_mul a B k, Nat.mul_add]
/-- one for what is so -/
noncomputable def on (p : Prop) : Nat := if @decide p (Classical.propDecidable p) = true then 1 else 0
theorem on_t {p : Prop} (h : p) : on p = 1 := by
  unfold on
  rw [if_pos (@decide_eq_true p (Classical.propDecidable p) h)]
theorem on_f {p : Prop} (h : ¬ p) : on p = 0 := by
  unfold on
  rw [if_neg (fun e => h (@of_decide_eq_true p (Classical.propDecidable p) e))]
theorem on_iff {p q : Prop} (h : p ↔ q) : on p = on q := by
  by_cases e : p
  · rw [on_t e, on_t (h.mp e)]
  · rw [on_f e, on_f (fun x => e (h.mpr x))]
/-- how many of the first k are so -/
noncomputable def ct (P : Nat → Prop) (k : Nat) : Nat := sm (fun i => on (P i)) k
theorem ct_iff {P Q : Nat → Prop} {k : Nat} (h : ∀ i, i < k → (P i ↔ Q i)) : ct P k = ct Q k := sm_congr k (fun i hi => on_iff (h i hi))
theorem ct_cnt {P : Nat → Prop} {B : Nat → Bool} : ∀ k, (∀ i, i < k → (P i ↔ B i = true)) → ct P k = cnt B k
  | 0, _ => rfl
  | k + 1, h => by
    show ct P k + on (P k) = cnt B k + (if B k = true then 1 else 0)
    rw [ct_cnt k (fun i hi => h i (by omega))]
    by_cases e : B k = true
    · rw [if_pos e, on_t ((h k (Nat.lt_succ_self k)).mpr e)]
    · rw [if_neg e, on_f (fun x => e ((h k (Nat.lt_succ_self k)).mp x))]
theorem sm_one {v : Nat} {c : Nat} {f : Nat → Nat} : ∀ k, v < k → (∀ i, i < k → i ≠ v → f i = 0) → f v = c → sm f k = c
  | 0, h, _, _ => absurd h (Nat.not_lt_zero _)
  | k + 1, h, h0, e => by
    show sm f k + f k = c
    by_cases q : v = k
    · subst q
      rw [sm_congr (g := fun _ => 0) v (fun i hi => h0 i (by omega) (by omega)), sm_0, Nat.zero_add, e]
    · rw [h0 k (Nat.lt_succ_self k) (fun z => q z.symm), Nat.add_zero]
      exact sm_one k (by omega) (fun i hi => h0 i (by omega)) e
/-- a permutation of the numbers changes no count -/
theorem ct_perm {P : Nat → Prop} {N : Nat} {f : Nat → Nat} (hf : Pn N f) : ct (fun k => P (f k)) N = ct P N := by
  have h1 : ct (fun k => P (f k)) N = sm (fun k => sm (fun v => on (f k = v ∧ P v)) N) N :=
    sm_congr N (fun k hk => (sm_one N (hf.1 k hk) (fun i _ hne => on_f (fun e => hne e.1.symm)) (on_iff ⟨fun e => e.2, fun e => ⟨rfl, e⟩⟩)).symm)
  rw [h1, sm_swap]
  refine sm_congr N (fun v hv => ?_)
  obtain ⟨k, hk, e⟩ := inj_surj N f hf v hv
  refine sm_one N hk (fun i hi hne => on_f (fun q => hne (hf.2 i k hi hk (q.1.trans e.symm)))) (on_iff ⟨fun q => q.2, fun q => ⟨e, q⟩⟩)
/-- the move with a number -/
def XM (n k : Nat) : Nat := mkM n (rwF n k)
section XMS
variable {n : Nat}
theorem XM_Mv (h1 : 1 ≤ n) (hn : n ≤ 7) (k : Nat) : Mv n (XM n k) := mkM_Mv hn (rwF_Pn h1)
theorem XM_d (h1 : 1 ≤ n) (hn : n ≤ 7) {k p : Nat} (hp : p < n) : d8 (XM n k) p = rwF n k p := mkM_d hn (rwF_Pn h1).1 hp
def nu (n x : Nat) : Nat := nuF (d8 x) 0 n n
theorem nu_b (n x : Nat) : nu n x < fc n := nuF_b _ _ _
theorem XM_nu (h1 : 1 ≤ n) (hn : n ≤ 7) {x : Nat} (hx : Mv n x) : XM n (nu n x) = x := by
  refine (XM_Mv h1 hn _).ext hx (fun p hp => ?_)
  rw [XM_d h1 hn hp]
  exact rw_nu h1 hx.2.1 p hp
theorem nu_XM (h1 : 1 ≤ n) (hn : n ≤ 7) {k : Nat} (hk : k < fc n) : nu n (XM n k) = k := by
  have e : nu n (XM n k) = nuF (rwF n k) 0 n n := nu_congr (fun p hp => XM_d h1 hn hp)
  rw [e]
  exact nu_rw h1 hk
theorem nu_same {x y : Nat} (h1 : 1 ≤ n) (hn : n ≤ 7) (hx : Mv n x) (hy : Mv n y) (e : nu n x = nu n y) : x = y := by
  rw [← XM_nu h1 hn hx, e, XM_nu h1 hn hy]
/-- how many moves are so -/
noncomputable def cd (n : Nat) (P : Nat → Prop) : Nat := ct (fun k => P (XM n k)) (fc n)
theorem cd_iff (h1 : 1 ≤ n) (hn : n ≤ 7) {P Q : Nat → Prop} (h : ∀ x, Mv n x → (P x ↔ Q x)) : cd n P = cd n Q := ct_iff (fun k _ => h _ (XM_Mv h1 hn k))
theorem cd_t (h1 : 1 ≤ n) (hn : n ≤ 7) {P : Nat → Prop} {t : Nat} (ht : Mv n t) : cd n (fun x => P (cM n x t)) = cd n P := by
  have hP : Pn (fc n) (fun k => nu n (cM n (XM n k) t)) := by
    refine ⟨fun k _ => nu_b _ _, fun k k' hk hk' e => ?_⟩
    have e1 := nu_same h1 hn (cM_Mv hn (XM_Mv h1 hn k) ht) (cM_Mv hn (XM_Mv h1 hn k') ht) e
    have e2 := cM_forth hn (XM_Mv h1 hn k) ht
    rw [e1, cM_forth hn (XM_Mv h1 hn k') ht] at e2
    rw [← nu_XM h1 hn hk, ← e2, nu_XM h1 hn hk']
  have h := ct_perm (P := fun k => P (XM n k)) hP
  refine Eq.trans ?_ h
  exact ct_iff (fun k _ => by
    show P (cM n (XM n k) t) ↔ P (XM n (nu n (cM n (XM n k) t)))
    rw [XM_nu h1 hn (cM_Mv hn (XM_Mv h1 hn k) ht)])
theorem cd_e (h1 : 1 ≤ n) (hn : n ≤ 7) : cd n (fun x => x = eM n) = 1 := by
  refine sm_one (fc n) (nu_b n (eM n)) (fun i hi hne => on_f (fun e => hne ?_)) (on_t (XM_nu h1 hn (eM_Mv hn)))
  rw [← nu_XM h1 hn hi, e]
theorem cd_0 {P : Nat → Prop} (h1 : 1 ≤ n) (hn : n ≤ 7) (h : ∀ x, Mv n x → ¬ P x) : cd n P = 0 := by
  have e : cd n P = sm (fun _ => 0) (fc n) := sm_congr (fc n) (fun k _ => on_f (h _ (XM_Mv h1 hn k)))
  rw [e, sm_0]
end XMS
/-! how many a chain makes up -/
section CHC
variable {n ro : Nat} {st rc : Nat → Nat}
theorem CP_part (hn : n ≤ 7) (hC : Ch n (d8 ro) (RC rc) (ST st)) {m g x : Nat} (hm : m + 1 ≤ n) (hg : g < n) (hr : RC rc (n - (m + 1)) g = true) (hx : Mv n x) : (CP n (RC rc) (ST st) (m + 1) x ∧ d8 x (d8 ro (n - (m + 1))) = g) ↔ CP n (RC rc) (ST st) m (cM n x (iM n (ST st (n - (m + 1)) g))) := by
  have s1 := ((hC (n - (m + 1)) (by omega)).2.2.2 g hg hr).1
  refine ⟨fun h => ?_, fun h => ?_⟩
  · obtain ⟨⟨g', w, hg', hr', hw, e⟩, hd⟩ := h
    have e2 := CP_goal hn hC hm hg' hr' hw
    rw [← e, hd] at e2
    have w1 := (CP_Mv hn hC m w (by omega) hw).1
    rw [← e2] at e
    rw [e, cM_forth hn w1 s1]
    exact hw
  · have e : x = cM n (cM n x (iM n (ST st (n - (m + 1)) g))) (ST st (n - (m + 1)) g) := (cM_back hn hx s1).symm
    refine ⟨⟨g, _, hg, hr, h, e⟩, ?_⟩
    rw [e]
    exact CP_goal hn hC hm hg hr h
theorem zF_is (h1 : 1 ≤ n) (hn : n ≤ 7) (hC : Ch n (d8 ro) (RC rc) (ST st)) (hB : ∀ l g, l < n → RC rc l g = true → g < n) : ∀ m, m ≤ n → cd n (CP n (RC rc) (ST st) m) = zF rc n m
  | 0, _ => cd_e h1 hn
  | m + 1, hm => by
    have ih := zF_is h1 hn hC hB m (by omega)
    have e1 : cd n (CP n (RC rc) (ST st) (m + 1)) = sm (fun k => sm (fun g => on (RC rc (n - (m + 1)) g = true ∧ CP n (RC rc) (ST st) (m + 1) (XM n k) ∧ d8 (XM n k) (d8 ro (n - (m + 1))) = g)) 32) (fc n) := by
      refine sm_congr (fc n) (fun k _ => ?_)
      have hx := XM_Mv h1 hn k
      have hd := hx.2.1.1 _ (hC (n - (m + 1)) (by omega)).1
      refine (sm_one 32 (v := d8 (XM n k) (d8 ro (n - (m + 1)))) (by omega) (fun g _ hne => on_f (fun e => hne e.2.2.symm)) (on_iff ⟨fun e => e.2.1, fun e => ⟨?_, e, rfl⟩⟩)).symm
      obtain ⟨g, w, hg, hr, hw, e⟩ := e
      have e2 := CP_goal hn hC hm hg hr hw
      rw [← e] at e2
      rw [e2]
      exact hr
    rw [e1, sm_swap]
    show _ = zF rc n m * cnt (fun v => (rc (n - (m + 1))).testBit v) 32
    have e3 : ∀ g, g < 32 → sm (fun k => on (RC rc (n - (m + 1)) g = true ∧ CP n (RC rc) (ST st) (m + 1) (XM n k) ∧ d8 (XM n k) (d8 ro (n - (m + 1))) = g)) (fc n) = zF rc n m * (if (rc (n - (m + 1))).testBit g = true then 1 else 0) := by
      intro g _
      by_cases q : (rc (n - (m + 1))).testBit g = true
      · have q2 : RC rc (n - (m + 1)) g = true := q
        have hg := hB (n - (m + 1)) g (by omega) q
        have s1 := ((hC (n - (m + 1)) (by omega)).2.2.2 g hg q2).1
        rw [if_pos q, Nat.mul_one, ← ih, ← cd_t h1 hn (iM_Mv hn s1)]
        exact sm_congr (fc n) (fun k _ => on_iff ⟨fun e => (CP_part hn hC hm hg q2 (XM_Mv h1 hn k)).mp e.2, fun e => ⟨q2, (CP_part hn hC hm hg q2 (XM_Mv h1 hn k)).mpr e⟩⟩)
      · rw [if_neg q, Nat.mul_zero, sm_congr (g := fun _ => 0) (fc n) (fun k _ => on_f (fun e => q e.1)), sm_0]
    rw [sm_congr 32 e3]
    exact sm_mul _ _ 32
end CHC
end
section
/-! the move of a rank -/
section RANK
variable {n : Nat}
/-- how many bring the first points of a row as y does, and the next one to p -/
noncomputable def WT (n : Nat) (T : Nat → Prop) (rd : Nat → Nat) (y l p : Nat) : Nat := cd n (fun x => T x ∧ (∀ j, j < l → d8 x (rd j) = d8 y (rd j)) ∧ d8 x (rd l) = p)
def GK (n : Nat) (T : Nat → Prop) (rd : Nat → Nat) (rank y : Nat) : Prop :=
  ∃ lf : Nat → Nat, lf 0 = rank ∧ ∀ l, l < n → lf l = sm (WT n T rd y l) (d8 y (rd l)) + lf (l + 1) ∧ lf (l + 1) < WT n T rd y l (d8 y (rd l))
theorem sm_le (f : Nat → Nat) {a : Nat} : ∀ b, a ≤ b → sm f a ≤ sm f b
  | 0, h => by rw [Nat.le_zero.mp h]; exact Nat.le_refl _
  | b + 1, h => by
    by_cases e : a = b + 1
    · rw [e]; exact Nat.le_refl _
    · exact Nat.le_trans (sm_le f b (by omega)) (Nat.le_add_right _ _)
theorem WT_pre (h1 : 1 ≤ n) (hn : n ≤ 7) {T : Nat → Prop} {rd : Nat → Nat} {y y' l : Nat} (h : ∀ j, j < l → d8 y (rd j) = d8 y' (rd j)) (p : Nat) : WT n T rd y l p = WT n T rd y' l p :=
  cd_iff h1 hn (fun x _ => ⟨fun e => ⟨e.1, fun j hj => (e.2.1 j hj).trans (h j hj), e.2.2⟩, fun e => ⟨e.1, fun j hj => (e.2.1 j hj).trans (h j hj).symm, e.2.2⟩⟩)
theorem GK_pre (h1 : 1 ≤ n) (hn : n ≤ 7) {T : Nat → Prop} {rd : Nat → Nat} {rank y y' : Nat} {lf lf' : Nat → Nat} (a0 : lf 0 = rank) (b0 : lf' 0 = rank) (m : Nat)
    (a : ∀ l, l < m → lf l = sm (WT n T rd y l) (d8 y (rd l)) + lf (l + 1) ∧ lf (l + 1) < WT n T rd y l (d8 y (rd l)))
    (b : ∀ l, l < m → lf' l = sm (WT n T rd y' l) (d8 y' (rd l)) + lf' (l + 1) ∧ lf' (l + 1) < WT n T rd y' l (d8 y' (rd l))) : ∀ l, l ≤ m → (∀ j, j < l → d8 y (rd j) = d8 y' (rd j)) ∧ lf l = lf' l
  | 0, _ => ⟨fun j hj => absurd hj (Nat.not_lt_zero j), a0.trans b0.symm⟩
  | l + 1, hl => by
    obtain ⟨i1, i2⟩ := GK_pre h1 hn a0 b0 m a b l (by omega)
    obtain ⟨p1, p2⟩ := a l (by omega)
    obtain ⟨q1, q2⟩ := b l (by omega)
    have hW : ∀ p, WT n T rd y l p = WT n T rd y' l p := WT_pre h1 hn i1
    have hS : ∀ k, sm (WT n T rd y l) k = sm (WT n T rd y' l) k := fun k => sm_congr k (fun i _ => hW i)
    have e : d8 y (rd l) = d8 y' (rd l) := by
      refine Classical.byContradiction fun ne => ?_
      rcases Nat.lt_or_gt_of_ne ne with h | h
      · have := sm_le (WT n T rd y' l) (d8 y' (rd l)) (show d8 y (rd l) + 1 ≤ d8 y' (rd l) from h)
        have e3 : sm (WT n T rd y' l) (d8 y (rd l) + 1) = sm (WT n T rd y' l) (d8 y (rd l)) + WT n T rd y' l (d8 y (rd l)) := rfl
        rw [hW] at p2
        rw [hS] at p1
        omega
      · have := sm_le (WT n T rd y' l) (d8 y (rd l)) (show d8 y' (rd l) + 1 ≤ d8 y (rd l) from h)
        have e3 : sm (WT n T rd y' l) (d8 y' (rd l) + 1) = sm (WT n T rd y' l) (d8 y' (rd l)) + WT n T rd y' l (d8 y' (rd l)) := rfl
        rw [hS] at p1
        omega
    refine ⟨fun j hj => ?_, ?_⟩
    · by_cases q : j = l
      · rw [q]; exact e
      · exact i1 j (by omega)
    · rw [hS, e] at p1
      omega
theorem GK_same (h1 : 1 ≤ n) (hn : n ≤ 7) {T : Nat → Prop} {rd : Nat → Nat} (hrd : Pn n rd) {rank y y' : Nat} (hy : Mv n y) (hy' : Mv n y') (h : GK n T rd rank y) (h' : GK n T rd rank y') : y = y' := by
  obtain ⟨lf, a0, a⟩ := h
  obtain ⟨lf', b0, b⟩ := h'
  have hp := (GK_pre h1 hn a0 b0 n a b n (Nat.le_refl n)).1
  refine hy.ext hy' (fun p hq => ?_)
  obtain ⟨j, hj, e⟩ := inj_surj n rd hrd p hq
  rw [← e]
  exact hp j hj
end RANK
section MOVEAT
variable {n ro : Nat} {st sv rc kw : Nat → Nat} {ns la : Nat}
/-- made up, then the last one -/
def TL (n : Nat) (rc st : Nat → Nat) (la x : Nat) : Prop := CP n (RC rc) (ST st) n (cM n x (iM n la))
theorem CP_it (hn : n ≤ 7) (h : CI n ro st sv rc kw ns) (hQ : PQ n rc st kw ns) {x : Nat} (hx : CP n (RC rc) (ST st) n x) : ∀ k, CP n (RC rc) (ST st) n (it7 x k)
  | 0 => by
    show CP n (RC rc) (ST st) n 1754760
    rw [e7_M hn]
    exact CP_e hn h.2.1 n (Nat.le_refl n)
  | k + 1 => by
    have hM := (CP_Mv hn h.2.1 n x (Nat.le_refl n) hx).1
    show CP n (RC rc) (ST st) n (c7 (it7 x k) x)
    rw [c7_M hn (it7_M hn hM k).1 hM]
    exact CP_cM hn h hQ (CP_it hn h hQ hx k) hx
theorem CP_iM (hn : n ≤ 7) (h : CI n ro st sv rc kw ns) (hQ : PQ n rc st kw ns) {x : Nat} (hx : CP n (RC rc) (ST st) n x) : CP n (RC rc) (ST st) n (iM n x) := by
  rw [iM_it7 hn (CP_Mv hn h.2.1 n x (Nat.le_refl n) hx).1]
  exact CP_it hn h hQ hx 419
theorem iM_iM (hn : n ≤ 7) {x : Nat} (hx : Mv n x) : iM n (iM n x) = x := by
  have h := cM_forth hn hx (iM_Mv hn hx)
  rw [c_iM hn hx, eM_c hn (iM_Mv hn (iM_Mv hn hx))] at h
  exact h
theorem iM_cM (hn : n ≤ 7) {x y : Nat} (hx : Mv n x) (hy : Mv n y) : iM n (cM n x y) = cM n (iM n y) (iM n x) := by
  have hxy := cM_Mv hn hx hy
  have h1 : cM n (cM n x y) (cM n (iM n y) (iM n x)) = eM n := by
    rw [← cM_assoc hn hxy (iM_Mv hn hy) (iM_Mv hn hx), cM_forth hn hx hy, c_iM hn hx]
  have h2 : cM n (iM n (cM n x y)) (cM n (cM n x y) (cM n (iM n y) (iM n x))) = cM n (iM n y) (iM n x) := by
    rw [← cM_assoc hn (iM_Mv hn hxy) hxy (cM_Mv hn (iM_Mv hn hy) (iM_Mv hn hx)), iM_c hn hxy, eM_c hn (cM_Mv hn (iM_Mv hn hy) (iM_Mv hn hx))]
  rw [h1, cM_e hn (iM_Mv hn hxy)] at h2
  exact h2
/-- of two that are made up with the last one, one undone behind the other -/
theorem TL_div (hn : n ≤ 7) (h : CI n ro st sv rc kw ns) (hQ : PQ n rc st kw ns) (hla : Mv n la) {x b : Nat} (hx : Mv n x) (hb : Mv n b) (hT : TL n rc st la b) : TL n rc st la x ↔ CP n (RC rc) (ST st) n (cM n x (iM n b)) := by
  have li := iM_Mv hn hla
  have bi := iM_Mv hn hb
  have e1 : cM n (cM n x (iM n la)) (iM n (cM n b (iM n la))) = cM n x (iM n b) := by
    rw [iM_cM hn hb li, iM_iM hn hla, cM_assoc hn hx li (cM_Mv hn hla bi), ← cM_assoc hn li hla bi, iM_c hn hla, eM_c hn bi]
  have e2 : cM n (cM n x (iM n b)) (cM n b (iM n la)) = cM n x (iM n la) := by
    rw [cM_assoc hn hx bi (cM_Mv hn hb li), ← cM_assoc hn bi hb li, iM_c hn hb, eM_c hn li]
  refine ⟨fun hX => ?_, fun hX => ?_⟩
  · rw [← e1]
    exact CP_cM hn h hQ hX (CP_iM hn h hQ hT)
  · show CP n (RC rc) (ST st) n (cM n x (iM n la))
    rw [← e2]
    exact CP_cM hn h hQ hX hT
theorem img_inv (hn : n ≤ 7) (hB : ∀ l g, l < n → RC rc l g = true → g < n) {b : Nat} (hb : Mv n b) {l p : Nat} (hl : l < n) (hp : p < n) : img (d8 b) (rc l) p 7 = true ↔ RC rc l (d8 (iM n b) p) = true := by
  have ht : d8 b (d8 (iM n b) p) = p := by
    have e := iM_c hn hb
    have e2 := cM_d hn (iM_Mv hn hb) hb hp
    rw [e, eM_d hn hp] at e2
    exact e2.symm
  refine ⟨fun h => ?_, fun h => ?_⟩
  · obtain ⟨q, _, h2, h3⟩ := img_ex 7 h
    have hq := hB l q hl h2
    have e := iM_at hn hb hq h3
    rw [e]
    exact h2
  · exact img_of 7 _ (by have := hB l _ hl h; omega) h ht
theorem WT_is (h1 : 1 ≤ n) (hn : n ≤ 7) (h : CI n ro st sv rc kw ns) (hQ : PQ n rc st kw ns) (hla : Mv n la) {b : Nat} (hb : Mv n b) (hT : TL n rc st la b) {l p : Nat} (hl : l < n) (hp : p < n) :
    WT n (TL n rc st la) (d8 ro) b l p = if img (d8 b) (rc l) p 7 = true then zF rc n (n - (l + 1)) else 0 := by
  have hM := h.1
  have hC := h.2.1
  have hB := h.2.2.1
  have bi := iM_Mv hn hb
  have hbi : ∀ q, q < n → d8 (iM n b) (d8 b q) = q := fun q hq => iM_at hn hb hq rfl
  have hgp : d8 (iM n b) p < n := bi.2.1.1 p hp
  have e1 : WT n (TL n rc st la) (d8 ro) b l p = cd n (fun y => CP n (RC rc) (ST st) n y ∧ (∀ j, j < l → d8 y (d8 ro j) = d8 ro j) ∧ d8 y (d8 ro l) = d8 (iM n b) p) := by
    rw [← cd_t h1 hn bi]
    refine cd_iff h1 hn (fun x hx => ?_)
    refine and_congr (TL_div hn h hQ hla hx hb hT) (and_congr ⟨fun a j hj => ?_, fun a j hj => ?_⟩ ⟨fun a => ?_, fun a => ?_⟩)
    · have rj := hM.2.1.1 j (by omega)
      rw [cM_d hn hx bi rj, a j hj]
      exact hbi _ rj
    · have rj := hM.2.1.1 j (by omega)
      have a := a j hj
      rw [cM_d hn hx bi rj] at a
      refine bi.2.1.2 _ _ (hx.2.1.1 _ rj) (hb.2.1.1 _ rj) ?_
      rw [a]
      exact (hbi _ rj).symm
    · rw [cM_d hn hx bi (hM.2.1.1 l hl), a]
    · rw [cM_d hn hx bi (hM.2.1.1 l hl)] at a
      exact bi.2.1.2 _ _ (hx.2.1.1 _ (hM.2.1.1 l hl)) hp a
  obtain ⟨m, hm⟩ : ∃ m, n - l = m + 1 := ⟨n - l - 1, by omega⟩
  have hml : n - (m + 1) = l := by omega
  have hmz : n - (l + 1) = m := by omega
  have hdown : ∀ y, (CP n (RC rc) (ST st) n y ∧ ∀ j, j < l → d8 y (d8 ro j) = d8 ro j) ↔ CP n (RC rc) (ST st) (m + 1) y := fun y => by
    refine ⟨fun a => CP_downs hn hC l (by omega) (by rw [show m + 1 + l = n by omega]; exact a.1) (fun j hj => a.2 j (by omega)), fun a => ⟨?_, fun j hj => (CP_Mv hn hC (m + 1) y (by omega) a).2 j (by omega)⟩⟩
    have := CP_ups hn hC a l (by omega)
    rw [show m + 1 + l = n by omega] at this
    exact this
  rw [e1, hmz]
  by_cases q : img (d8 b) (rc l) p 7 = true
  · rw [if_pos q]
    have hr := (img_inv hn hB hb hl hp).mp q
    have s1 := ((hC l hl).2.2.2 _ hgp hr).1
    rw [← zF_is h1 hn hC hB m (by omega), ← cd_t (P := CP n (RC rc) (ST st) m) h1 hn (iM_Mv hn s1)]
    refine cd_iff h1 hn (fun y hy => ?_)
    have hpart := CP_part hn hC (m := m) (g := d8 (iM n b) p) (x := y) (by omega) hgp (by rw [hml]; exact hr) hy
    rw [hml] at hpart
    rw [← hpart, ← hdown y]
    exact ⟨fun a => ⟨⟨a.1, a.2.1⟩, a.2.2⟩, fun a => ⟨a.1.1, a.1.2, a.2⟩⟩
  · rw [if_neg q]
    refine cd_0 h1 hn (fun y _ a => q ?_)
    refine (img_inv hn hB hb hl hp).mpr ?_
    obtain ⟨g, w, hg, hgr, hw, e⟩ := (hdown y).mp ⟨a.1, a.2.1⟩
    have e2 := CP_goal hn hC (m := m) (g := g) (h := w) (by omega) hg hgr hw
    rw [← e, hml, a.2.2] at e2
    rw [e2, ← hml]
    exact hgr
/-- on the way through the levels -/
def MI (n ro : Nat) (rc st : Nat → Nat) (la rank c rest b : Nat) : Prop :=
  Mv n b ∧ TL n rc st la b ∧ rest < zF rc n (n - c) ∧ ∃ lf : Nat → Nat, lf 0 = rank ∧ lf c = rest ∧ ∀ l, l < c → lf l = sm (WT n (TL n rc st la) (d8 ro) b l) (d8 b (d8 ro l)) + lf (l + 1) ∧ lf (l + 1) < WT n (TL n rc st la) (d8 ro) b l (d8 b (d8 ro l))
theorem MI_0 (hn : n ≤ 7) (h : CI n ro st sv rc kw ns) (hla : Mv n la) {rank : Nat} (hr : rank < zF rc n n) : MI n ro rc st la rank 0 rank la :=
  ⟨hla, by show CP n (RC rc) (ST st) n (cM n la (iM n la)); rw [c_iM hn hla]; exact CP_e hn h.2.1 n (Nat.le_refl n), hr, fun _ => rank, rfl, rfl, fun l hl => absurd hl (Nat.not_lt_zero l)⟩
theorem MI_n {rank c rest b : Nat} (hc : c = n) (hI : MI n ro rc st la rank c rest b) : Mv n b ∧ GK n (TL n rc st la) (d8 ro) rank b := by
  subst hc
  obtain ⟨a1, _, _, lf, l0, _, l2⟩ := hI
  exact ⟨a1, lf, l0, l2⟩
theorem cnt_perm {B : Nat → Bool} {N : Nat} {f : Nat → Nat} (hf : Pn N f) : cnt (fun k => B (f k)) N = cnt B N := by
  rw [← ct_cnt (P := fun k => B (f k) = true) N (fun _ _ => Iff.rfl), ← ct_cnt (P := fun k => B k = true) (B := B) N (fun _ _ => Iff.rfl)]
  exact ct_perm (P := fun k => B k = true) hf
theorem img_cnt (hn : n ≤ 7) (hB : ∀ l g, l < n → RC rc l g = true → g < n) {b : Nat} (hb : Mv n b) {l : Nat} (hl : l < n) : cnt (fun v => img (d8 b) (rc l) v 7) n = cnt (fun v => (rc l).testBit v) 32 := by
  obtain ⟨c, hc⟩ : ∃ c, 32 = n + c := ⟨32 - n, by omega⟩
  rw [hc, cnt_split, cnt_0 (P := fun i => (rc l).testBit (n + i)) c (fun i _ => by
    cases q : (rc l).testBit (n + i) with
    | false => rfl
    | true => have := hB l (n + i) hl q; omega), Nat.add_zero, ← cnt_perm (B := fun v => (rc l).testBit v) (iM_Mv hn hb).2.1]
  refine cnt_add n (fun v hv => ?_)
  show img (d8 b) (rc l) v 7 = (rc l).testBit (d8 (iM n b) v)
  have h := img_inv hn hB hb hl hv
  cases q : img (d8 b) (rc l) v 7 with
  | true => exact (h.mp q).symm
  | false =>
    cases q2 : (rc l).testBit (d8 (iM n b) v) with
    | false => rfl
    | true => rw [h.mpr q2] at q; exact absurd q (by decide)
theorem img_out (hn : n ≤ 7) (hB : ∀ l g, l < n → RC rc l g = true → g < n) {b : Nat} (hb : Mv n b) {l v : Nat} (hl : l < n) (h : img (d8 b) (rc l) v 7 = true) : v < n := by
  obtain ⟨q, _, h2, h3⟩ := img_ex 7 h
  rw [← h3]
  exact hb.2.1.1 q (hB l q hl h2)
theorem img_cnt7 (hn : n ≤ 7) (hB : ∀ l g, l < n → RC rc l g = true → g < n) {b : Nat} (hb : Mv n b) {l r : Nat} (hl : l < n) (hr : ∀ v, r.testBit v = img (d8 b) (rc l) v 7) : cnt (fun v => r.testBit v) 7 = cnt (fun v => (rc l).testBit v) 32 := by
  rw [← img_cnt hn hB hb hl, cnt_add (P := fun v => r.testBit v) (Q := fun v => img (d8 b) (rc l) v 7) 7 (fun v _ => hr v)]
  obtain ⟨c, hc⟩ : ∃ c, 7 = n + c := ⟨7 - n, by omega⟩
  have h0 : cnt (fun i => img (d8 b) (rc l) (n + i) 7) c = 0 := cnt_0 c (fun i _ => by
    cases q : img (d8 b) (rc l) (n + i) 7 with
    | false => rfl
    | true => have := img_out hn hB hb hl q; omega)
  have h2 := cnt_split (fun v => img (d8 b) (rc l) v 7) n c
  rw [h0, Nat.add_zero] at h2
  rw [← h2]
  exact congrArg (cnt _) hc
theorem zF_pos (h1 : 1 ≤ n) (hn : n ≤ 7) (h : CI n ro st sv rc kw ns) : ∀ m, m ≤ n → 1 ≤ zF rc n m
  | 0, _ => Nat.le_refl 1
  | m + 1, hm => by
    have ih := zF_pos h1 hn h m (by omega)
    have hC := (h.2.1 (n - (m + 1)) (by omega))
    have hc : 1 ≤ cnt (fun v => (rc (n - (m + 1))).testBit v) 32 := cnt_pos 32 _ (by have := hC.1; omega) hC.2.1
    exact Nat.le_trans (Nat.le_of_eq (by rfl : (1 : Nat) = 1 * 1)) (Nat.mul_le_mul ih hc)
theorem zF_5040 (h1 : 1 ≤ n) (hn : n ≤ 7) (h : CI n ro st sv rc kw ns) {m : Nat} (hm : m ≤ n) : zF rc n m ≤ 5040 := by
  rw [← zF_is h1 hn h.2.1 h.2.2.1 m hm]
  refine Nat.le_trans ?_ (fc_7 hn)
  unfold cd
  have : ∀ k, ct (fun k => CP n (RC rc) (ST st) m (XM n k)) k ≤ k := by
    intro k
    induction k with
    | zero => exact Nat.le_refl 0
    | succ k ih =>
      show ct (fun k => CP n (RC rc) (ST st) m (XM n k)) k + on (CP n (RC rc) (ST st) m (XM n k)) ≤ k + 1
      by_cases q : CP n (RC rc) (ST st) m (XM n k)
      · rw [on_t q]; omega
      · rw [on_f q]; omega
  exact this (fc n)
theorem MI_idx (h1 : 1 ≤ n) (hn : n ≤ 7) (h : CI n ro st sv rc kw ns) {rank c rest b r : Nat} (hc : c < n) (hI : MI n ro rc st la rank c rest b) (hr : ∀ v, r.testBit v = img (d8 b) (rc c) v 7) : rest / zF rc n (n - (c + 1)) < cnt (fun v => r.testBit v) 7 := by
  obtain ⟨a1, _, a3, _⟩ := hI
  rw [img_cnt7 hn h.2.2.1 a1 hc hr]
  refine Nat.div_lt_of_lt_mul ?_
  rw [show n - c = (n - (c + 1)) + 1 by omega] at a3
  have a3 : rest < zF rc n (n - (c + 1)) * cnt (fun v => (rc (n - (n - (c + 1) + 1))).testBit v) 32 := a3
  rw [show n - (n - (c + 1) + 1) = c by omega] at a3
  exact a3
theorem MI_src {b r c p : Nat} (hr : ∀ v, r.testBit v = img (d8 b) (rc c) v 7) (hp : r.testBit p = true) : ∃ q, q < 7 ∧ d8 b q = p := by
  rw [hr p] at hp
  obtain ⟨q, h1, _, h3⟩ := img_ex 7 hp
  exact ⟨q, h1, h3⟩
theorem MI_st (hn : n ≤ 7) (h : CI n ro st sv rc kw ns) {rank c rest b r p q : Nat} (hc : c < n) (hI : MI n ro rc st la rank c rest b) (hr : ∀ v, r.testBit v = img (d8 b) (rc c) v 7) (hp : r.testBit p = true) (hq7 : q < 7) (hq : d8 b q = p) : st (c * 8 + q) < 2 ^ (3 * 7) := by
  rw [hr p] at hp
  obtain ⟨q', g1, g2, g3⟩ := img_ex 7 hp
  have e : q = q' := (hI.1.p7 hn).2 q q' hq7 g1 (hq.trans g3.symm)
  rw [e]
  exact ((h.2.1 c hc).2.2.2 q' (h.2.2.1 c q' hc g2) g2).1.1
theorem MI_s (h1 : 1 ≤ n) (hn : n ≤ 7) (h : CI n ro st sv rc kw ns) (hQ : PQ n rc st kw ns) (hla : Mv n la) {rank c rest b r p q : Nat} (hc : c < n) (hI : MI n ro rc st la rank c rest b) (hr : ∀ v, r.testBit v = img (d8 b) (rc c) v 7)
    (hp : r.testBit p = true) (hpc : cnt (fun v => r.testBit v) p = rest / zF rc n (n - (c + 1))) (hq7 : q < 7) (hq : d8 b q = p) :
    MI n ro rc st la rank (c + 1) (rest - rest / zF rc n (n - (c + 1)) * zF rc n (n - (c + 1))) (c7 (st (c * 8 + q)) b) := by
  obtain ⟨a1, a2, a3, lf, l0, l1, l2⟩ := hI
  have hM := h.1
  have hC := h.2.1
  have hB := h.2.2.1
  have hpi := hp
  rw [hr p] at hpi
  have hpn := img_out hn hB a1 hc hpi
  have hRq : RC rc c q = true := by
    obtain ⟨q', g1, g2, g3⟩ := img_ex 7 hpi
    have e : q = q' := (a1.p7 hn).2 q q' hq7 g1 (hq.trans g3.symm)
    rw [e]
    exact g2
  have hqn := hB c q hc hRq
  obtain ⟨s1, s2, s3⟩ := (hC c hc).2.2.2 q hqn hRq
  have s1 : Mv n (st (c * 8 + q)) := s1
  have hz := zF_pos h1 hn h (n - (c + 1)) (by omega)
  have hb' : c7 (st (c * 8 + q)) b = cM n (st (c * 8 + q)) b := c7_M hn s1 a1
  have m1 := cM_Mv hn s1 a1
  have hold : ∀ j, j < c → d8 (cM n (st (c * 8 + q)) b) (d8 ro j) = d8 b (d8 ro j) := fun j hj => by
    rw [cM_d hn s1 a1 (hM.2.1.1 j (by omega))]
    exact congrArg (d8 b) (s2 j hj)
  have hnew : d8 (cM n (st (c * 8 + q)) b) (d8 ro c) = p := by
    rw [cM_d hn s1 a1 (hM.2.1.1 c hc)]
    exact (congrArg (d8 b) s3).trans hq
  have hW : ∀ l, l ≤ c → ∀ v, WT n (TL n rc st la) (d8 ro) (cM n (st (c * 8 + q)) b) l v = WT n (TL n rc st la) (d8 ro) b l v := fun l hl v => WT_pre h1 hn (fun j hj => hold j (by omega)) v
  have hWc : ∀ v, v < n → WT n (TL n rc st la) (d8 ro) b c v = zF rc n (n - (c + 1)) * (if r.testBit v = true then 1 else 0) := fun v hv => by
    rw [WT_is h1 hn h hQ hla a1 a2 hc hv, hr v]
    by_cases e : img (d8 b) (rc c) v 7 = true
    · rw [if_pos e, if_pos e, Nat.mul_one]
    · rw [if_neg e, if_neg e, Nat.mul_zero]
  have hmod : rest - rest / zF rc n (n - (c + 1)) * zF rc n (n - (c + 1)) = rest % zF rc n (n - (c + 1)) := by
    have := Nat.div_add_mod rest (zF rc n (n - (c + 1)))
    rw [Nat.mul_comm] at this
    omega
  rw [hb', hmod]
  refine ⟨m1, ?_, Nat.mod_lt _ hz, fun l => if l = c + 1 then rest % zF rc n (n - (c + 1)) else lf l, ?_, if_pos rfl, fun l hl => ?_⟩
  · show CP n (RC rc) (ST st) n (cM n (cM n (st (c * 8 + q)) b) (iM n la))
    rw [cM_assoc hn s1 a1 (iM_Mv hn hla)]
    exact CP_cM hn h hQ (CP_one hn hC hc hqn hRq) a2
  · show (if 0 = c + 1 then rest % zF rc n (n - (c + 1)) else lf 0) = rank
    rw [if_neg (by omega)]
    exact l0
  · show (if l = c + 1 then rest % zF rc n (n - (c + 1)) else lf l) = sm (WT n (TL n rc st la) (d8 ro) (cM n (st (c * 8 + q)) b) l) (d8 (cM n (st (c * 8 + q)) b) (d8 ro l)) + (if l + 1 = c + 1 then rest % zF rc n (n - (c + 1)) else lf (l + 1)) ∧ (if l + 1 = c + 1 then rest % zF rc n (n - (c + 1)) else lf (l + 1)) < WT n (TL n rc st la) (d8 ro) (cM n (st (c * 8 + q)) b) l (d8 (cM n (st (c * 8 + q)) b) (d8 ro l))
    rw [if_neg (show ¬ l = c + 1 by omega)]
    by_cases e : l = c
    · subst e
      rw [if_pos rfl, l1, hnew, sm_congr (g := fun v => zF rc n (n - (l + 1)) * (if r.testBit v = true then 1 else 0)) p (fun v hv => by rw [hW l (Nat.le_refl l), hWc v (by omega)]), sm_mul, hpc, hW l (Nat.le_refl l), hWc p hpn, if_pos hp, Nat.mul_one]
      exact ⟨(Nat.div_add_mod _ _).symm, Nat.mod_lt _ hz⟩
    · rw [if_neg (show ¬ l + 1 = c + 1 by omega), hold l (by omega), sm_congr (g := WT n (TL n rc st la) (d8 ro) b l) _ (fun v _ => hW l (by omega) v), hW l (by omega)]
      exact l2 l (by omega)
end MOVEAT
end
