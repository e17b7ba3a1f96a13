/-! nth: how many go on -/
def sc (n k : Nat) (f tf : Nat → Nat) : Nat → Bool
  | 0 => true
  | m + 1 => sc n k f tf m && (rwF n k (f m) == tf m)
theorem sc_at {n k : Nat} {f tf : Nat → Nat} : ∀ m, sc n k f tf m = true → ∀ j, j < m → rwF n k (f j) = tf j
  | 0, _, _, hj => absurd hj (Nat.not_lt_zero _)
  | m + 1, h, j, hj => by
    simp only [sc, Bool.and_eq_true, beq_iff_eq] at h
    by_cases e : j = m
    · subst e; exact h.2
    · exact sc_at m h.1 j (by omega)
theorem sc_f {n k : Nat} {f tf : Nat → Nat} {m : Nat} (h : ¬ rwF n k (f m) = tf m) : ∀ b, m < b → sc n k f tf b = false
  | 0, hb => absurd hb (Nat.not_lt_zero _)
  | b + 1, hb => by
    simp only [sc]
    by_cases e : m = b
    · subst e; rw [(beq_eq_false_iff_ne).mpr h, Bool.and_false]
    · rw [sc_f h b (by omega), Bool.false_and]
theorem sc_s {n k : Nat} {f tf : Nat → Nat} {m : Nat} (h : sc n k f tf m = true) (e : rwF n k (f m) = tf m) : sc n k f tf (m + 1) = true := by
  simp only [sc]; rw [h, e, beq_self_eq_true, Bool.and_true]
theorem sc_up {n k : Nat} {f tf : Nat → Nat} {c v : Nat} : ∀ m, m ≤ c → sc n k f (up tf c v) m = sc n k f tf m
  | 0, _ => rfl
  | m + 1, h => by
    simp only [sc]
    rw [sc_up m (by omega), up_n (show m ≠ c by omega)]
def na (n : Nat) (bt : List Int32) (f tf : Nat → Nat) (lv K : Nat) : Nat := cnt (fun k => bitL bt k && sc n k f tf lv) K
def nw (n : Nat) (bt : List Int32) (f tf : Nat → Nat) (lv v K : Nat) : Nat := cnt (fun k => bitL bt k && (sc n k f tf lv && (rwF n k (f lv) == v))) K
theorem cnt_gap {bt : List Int32} {R : Nat → Bool} {a : Nat} : ∀ b, a ≤ b → (∀ j, a ≤ j → j < b → bitL bt j = false) → cnt (fun k => bitL bt k && R k) b = cnt (fun k => bitL bt k && R k) a
  | 0, hab, _ => by rw [show a = 0 by omega]
  | b + 1, hab, h => by
    by_cases e : a = b + 1
    · rw [e]
    · show cnt _ b + (if (bitL bt b && R b) = true then 1 else 0) = _
      rw [cnt_gap b (by omega) (fun j h1 h2 => h j h1 (by omega)), h b (by omega) (Nat.lt_succ_self _), Bool.false_and]
      rfl
theorem nw_gap {n : Nat} {bt : List Int32} {f tf : Nat → Nat} {lv v a b : Nat} (hab : a ≤ b) (h : ∀ j, a ≤ j → j < b → bitL bt j = false) : nw n bt f tf lv v b = nw n bt f tf lv v a := cnt_gap b hab h
theorem nw_le {n : Nat} {bt : List Int32} {f tf : Nat → Nat} {lv v K : Nat} : nw n bt f tf lv v K ≤ K := cnt_le _ _
def KK (F c : Nat) : Nat := if c = 0 then F else c - 1
theorem KK_0 (F : Nat) : KK F 0 = F := rfl
theorem KK_s (F q : Nat) : KK F (q + 1) = q := by
  unfold KK
  split <;> omega
theorem KK_p {F c : Nat} (h : 0 < c) : KK F c = c - 1 := by
  unfold KK
  rw [if_neg (by omega)]
theorem nw_e0 {n F : Nat} {bt : List Int32} {f tf g : Nat → Nat} {lv : Nat} (hz : ∀ p, p < n → g p = 0) (h : ∀ j, 0 ≤ j → j < F → bitL bt j = false) : ∀ v, v < n → g v = nw n bt f tf lv v (KK F 0) := by
  intro v hv
  rw [hz v hv, KK_0, nw_gap (Nat.zero_le _) h]
  rfl
theorem nw_e1 {n F q : Nat} {bt : List Int32} {f tf g : Nat → Nat} {lv : Nat} (hz : ∀ p, p < n → g p = 0) (h : ∀ j, 0 ≤ j → j < q → bitL bt j = false) : ∀ v, v < n → g v = nw n bt f tf lv v (KK F (q + 1)) := by
  intro v hv
  rw [hz v hv, KK_s, nw_gap (Nat.zero_le _) h]
  rfl
theorem nw_s0 {n : Nat} {bt : List Int32} {f tf : Nat → Nat} {lv v K : Nat} (h : sc n K f tf lv = false) : nw n bt f tf lv v (K + 1) = nw n bt f tf lv v K := by
  show cnt _ K + (if (bitL bt K && (sc n K f tf lv && (rwF n K (f lv) == v))) = true then 1 else 0) = _
  rw [h, Bool.false_and, Bool.and_false]
  rfl
theorem nw_s1 {n : Nat} {bt : List Int32} {f tf g : Nat → Nat} {lv K : Nat} (hb : bitL bt K = true) (h : sc n K f tf lv = true) (hg : ∀ v, v < n → g v = nw n bt f tf lv v K) : ∀ v, v < n → up g (rwF n K (f lv)) (g (rwF n K (f lv)) + 1) v = nw n bt f tf lv v (K + 1) := by
  intro v hv
  have e : nw n bt f tf lv v (K + 1) = nw n bt f tf lv v K + (if (rwF n K (f lv) == v) = true then 1 else 0) := by
    show cnt _ K + (if (bitL bt K && (sc n K f tf lv && (rwF n K (f lv) == v))) = true then 1 else 0) = _
    rw [hb, h, Bool.true_and, Bool.true_and]
    rfl
  rw [e]
  by_cases q : v = rwF n K (f lv)
  · subst q
    rw [up_s, if_pos (show (rwF n K (f lv) == rwF n K (f lv)) = true from beq_self_eq_true _), hg _ hv]
  · have e3 : ¬ (rwF n K (f lv) == v) = true := by
      rw [beq_iff_eq]
      exact fun e => q e.symm
    rw [up_n q, if_neg e3, Nat.add_zero]
    exact hg v hv
/-- what the walk knows behind a number: on to the next -/
theorem nw_t0 {n F c : Nat} {bt : List Int32} {f tf g' : Nat → Nat} {lv : Nat} (hc : c ≤ F) (hz : ∀ v, v < n → g' v = nw n bt f tf lv v c) (h : ∀ j, c ≤ j → j < F → bitL bt j = false) : ∀ v, v < n → g' v = nw n bt f tf lv v (KK F 0) := by
  intro v hv
  rw [hz v hv, KK_0, nw_gap hc h]
theorem nw_t1 {n F c q : Nat} {bt : List Int32} {f tf g' : Nat → Nat} {lv : Nat} (hc : c ≤ q) (hz : ∀ v, v < n → g' v = nw n bt f tf lv v c) (h : ∀ j, c ≤ j → j < q → bitL bt j = false) : ∀ v, v < n → g' v = nw n bt f tf lv v (KK F (q + 1)) := by
  intro v hv
  rw [hz v hv, KK_s, nw_gap hc h]
def sT (g : Nat → Nat) : Nat → Nat → Nat
  | 0, _ => 0
  | m + 1, p => g p + sT g m (p + 1)
theorem sT_congr {g h : Nat → Nat} : ∀ m p, (∀ i, p ≤ i → i < p + m → g i = h i) → sT g m p = sT h m p
  | 0, _, _ => rfl
  | m + 1, p, e => by
    simp only [sT]
    rw [e p (Nat.le_refl _) (by omega), sT_congr m (p + 1) (fun i h1 h2 => e i (by omega) (by omega))]
theorem sT_add (g h : Nat → Nat) : ∀ m p, sT (fun i => g i + h i) m p = sT g m p + sT h m p
  | 0, _ => rfl
  | m + 1, p => by
    simp only [sT]
    rw [sT_add g h m (p + 1)]; omega
theorem sT_0 : ∀ m p, sT (fun _ => 0) m p = 0
  | 0, _ => rfl
  | m + 1, p => by
    simp only [sT]
    have := sT_0 m (p + 1)
    omega
theorem sT_1 {r : Nat} : ∀ m p, p ≤ r → r < p + m → sT (fun i => if (r == i) = true then 1 else 0) m p = 1
  | 0, p, h1, h2 => by omega
  | m + 1, p, h1, h2 => by
    simp only [sT]
    by_cases e : r = p
    · subst e
      have h3 : sT (fun i => if (r == i) = true then 1 else 0) m (r + 1) = 0 :=
        (sT_congr (g := fun i => if (r == i) = true then 1 else 0) (h := fun _ => 0) m (r + 1) (fun i h3 _ => if_neg (by rw [beq_iff_eq]; omega))).trans (sT_0 m (r + 1))
      have h4 : (if (r == r) = true then 1 else 0) = 1 := if_pos (beq_self_eq_true r)
      rw [h3, h4] <;> rfl
    · have h4 : ¬ (r == p) = true := by
        rw [beq_iff_eq]
        exact e
      rw [if_neg h4, sT_1 (r := r) m (p + 1) (by omega) (by omega)] <;> rfl
theorem sT_nw {n : Nat} {bt : List Int32} {f tf : Nat → Nat} {lv : Nat} (hn : 1 ≤ n) (hf : f lv < n) : ∀ K, sT (fun v => nw n bt f tf lv v K) n 0 = na n bt f tf lv K
  | 0 => sT_0 n 0
  | K + 1 => by
    cases hb : bitL bt K && sc n K f tf lv with
    | false =>
      have hq : ∀ v, (bitL bt K && (sc n K f tf lv && (rwF n K (f lv) == v))) = false := fun v => by rw [← Bool.and_assoc, hb, Bool.false_and]
      have e : ∀ v, nw n bt f tf lv v (K + 1) = nw n bt f tf lv v K := by
        intro v
        show cnt _ K + (if (bitL bt K && (sc n K f tf lv && (rwF n K (f lv) == v))) = true then 1 else 0) = _
        rw [hq v]
        rfl
      rw [sT_congr (g := fun v => nw n bt f tf lv v (K + 1)) (h := fun v => nw n bt f tf lv v K) n 0 (fun i _ _ => e i), sT_nw hn hf K]
      show _ = cnt _ K + (if (bitL bt K && sc n K f tf lv) = true then 1 else 0)
      rw [hb]
      rfl
    | true =>
      have hq : ∀ v, (bitL bt K && (sc n K f tf lv && (rwF n K (f lv) == v))) = (rwF n K (f lv) == v) := fun v => by rw [← Bool.and_assoc, hb, Bool.true_and]
      have e : ∀ v, nw n bt f tf lv v (K + 1) = nw n bt f tf lv v K + (if (rwF n K (f lv) == v) = true then 1 else 0) := by
        intro v
        show cnt _ K + (if (bitL bt K && (sc n K f tf lv && (rwF n K (f lv) == v))) = true then 1 else 0) = _
        rw [hq v]
        rfl
      have h1 : rwF n K (f lv) < 0 + n := by
        have := (rwF_Pn (n := n) (num := K) hn).1 _ hf
        omega
      rw [sT_congr (g := fun v => nw n bt f tf lv v (K + 1)) (h := fun v => nw n bt f tf lv v K + (if (rwF n K (f lv) == v) = true then 1 else 0)) n 0 (fun i _ _ => e i), sT_add (fun v => nw n bt f tf lv v K) (fun v => if (rwF n K (f lv) == v) = true then 1 else 0), sT_nw hn hf K, sT_1 n 0 (Nat.zero_le _) h1]
      show _ = cnt _ K + (if (bitL bt K && sc n K f tf lv) = true then 1 else 0)
      rw [hb]
      rfl
theorem nth_in {n r : Nat} {bt : List Int32} {f tf : Nat → Nat} (hB : BU (fc n) bt) (hn : fc n ≤ 5056) (h : r < cnt (bitL bt) 5056) : r < na n bt f tf 0 (fc n) := by
  have e : cnt (fun k => bitL bt k && sc n k f tf 0) 5056 = cnt (fun k => bitL bt k && sc n k f tf 0) (fc n) := by
    refine cnt_gap 5056 hn (fun j h1 _ => ?_)
    cases hb : bitL bt j with
    | false => rfl
    | true => exact absurd (hB j hb) (Nat.not_lt.mpr h1)
  have e2 : cnt (bitL bt) 5056 = cnt (fun k => bitL bt k && sc n k f tf 0) 5056 := cnt_add 5056 (fun i _ => by show _ = (_ && true); rw [Bool.and_true])
  exact Nat.lt_of_lt_of_le h (Nat.le_of_eq (e2.trans e))
theorem nth_st {n r F : Nat} {bt : List Int32} {f tf g : Nat → Nat} {lv : Nat} (hn : 1 ≤ n) (hf : f lv < n) (hg : ∀ v, v < n → g v = nw n bt f tf lv v F) (h : r < na n bt f tf lv F) : r < sT g (n - 0) 0 := by
  rw [Nat.sub_zero, sT_congr (g := g) (h := fun v => nw n bt f tf lv v F) n 0 (fun i _ h2 => hg i (by omega)), sT_nw hn hf]
  exact h
theorem nth_p {n r p : Nat} {g : Nat → Nat} (h : r < sT g (n - p) p) : p < n := by
  by_cases e : p < n
  · exact e
  · rw [show n - p = 0 by omega] at h; exact absurd h (Nat.not_lt_zero _)
theorem nth_s {n r p : Nat} {g : Nat → Nat} (h : r < sT g (n - p) p) (hr : g p ≤ r) : r - g p < sT g (n - (p + 1)) (p + 1) := by
  have hp := nth_p h
  rw [show n - p = (n - (p + 1)) + 1 by omega] at h
  simp only [sT] at h
  omega
theorem nth_next {n x F p : Nat} {bt : List Int32} {f tf g : Nat → Nat} {lv : Nat} (hp : p < n) (hg : ∀ v, v < n → g v = nw n bt f tf lv v F) (h : x < g p) : x < na n bt f (up tf lv p) (lv + 1) F := by
  rw [hg p hp] at h
  refine Nat.lt_of_lt_of_le h (Nat.le_of_eq (cnt_add F (fun i _ => ?_)))
  simp only [sc]
  rw [sc_up lv (Nat.le_refl _), up_s]
theorem nth_Pn {n x F : Nat} {bt : List Int32} {f tf : Nat → Nat} (hn : 1 ≤ n) (hf : Pn n f) (h : x < na n bt f tf n F) : Pn n tf := by
  have h0 : 1 ≤ na n bt f tf n F := by omega
  obtain ⟨k, _, hk⟩ := cnt_ex (P := fun k => bitL bt k && sc n k f tf n) F h0
  simp only [Bool.and_eq_true] at hk
  exact (Pn.comp hf (rwF_Pn (num := k) hn)).congr (fun p hp => (sc_at n hk.2 p hp).symm)
