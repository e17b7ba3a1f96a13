/-! the lesser row has the lesser number; the first renamer -/
theorem nu_lex {n : Nat} {f g : Nat → Nat} (hf : Pn n f) (hg : Pn n g) {p : Nat} (hp : p < n) (he : ∀ j, j < p → f j = g j) (hl : f p < g p) : nuF f 0 n n < nuF g 0 n n := by
  have hA : ∀ q, q ≤ p → ∀ v, cnt (fun j => decide (f j < v)) q = cnt (fun j => decide (g j < v)) q := fun q hq v => cnt_add q (fun i hi => by rw [he i (by omega)])
  have hB : ∀ k, k ≤ p → nuF f 0 n k = nuF g 0 n k := by
    intro k
    induction k with
    | zero => intro _; rfl
    | succ k ih =>
      intro hk
      have e1 := les_is hf (show k < n by omega)
      have e2 := les_is hg (show k < n by omega)
      rw [he k (by omega), hA k (by omega)] at e1
      show nuF f 0 n k * (n - k) + les f 0 k n = nuF g 0 n k * (n - k) + les g 0 k n
      rw [ih (by omega), show les f 0 k n = les g 0 k n by omega]
  have hC : ∀ k, p + 1 + k ≤ n → nuF f 0 n (p + 1 + k) < nuF g 0 n (p + 1 + k) := by
    intro k
    induction k with
    | zero =>
      intro _
      have e1 := les_is hf hp
      have e2 := les_is hg hp
      have e3 := nu_lt hg hp (a := f p) (fun j hj q => by
        have := hf.2 j p (by omega) hp ((he j hj).trans q)
        omega) hl
      rw [hA p (Nat.le_refl p)] at e1
      show nuF f 0 n p * (n - p) + les f 0 p n < nuF g 0 n p * (n - p) + les g 0 p n
      rw [hB p (Nat.le_refl p)]
      omega
    | succ k ih =>
      intro hk
      have h1 := ih (by omega)
      have h2 := les_le f 0 (p + 1 + k) n
      have h3 : (nuF f 0 n (p + 1 + k) + 1) * (n - (p + 1 + k)) ≤ nuF g 0 n (p + 1 + k) * (n - (p + 1 + k)) := Nat.mul_le_mul_right _ h1
      rw [Nat.succ_mul] at h3
      show nuF f 0 n (p + 1 + k) * (n - (p + 1 + k)) + les f 0 (p + 1 + k) n < nuF g 0 n (p + 1 + k) * (n - (p + 1 + k)) + les g 0 (p + 1 + k) n
      omega
  have h := hC (n - (p + 1)) (by omega)
  rw [show p + 1 + (n - (p + 1)) = n by omega] at h
  exact h
theorem sm_mono {f g : Nat → Nat} : ∀ k, (∀ i, i < k → f i ≤ g i) → sm f k ≤ sm g k
  | 0, _ => Nat.le_refl 0
  | k + 1, h => Nat.add_le_add (sm_mono k (fun i hi => h i (by omega))) (h k (Nat.lt_succ_self k))
theorem sm_ge {f : Nat → Nat} {v : Nat} : ∀ k, v < k → f v ≤ sm f k
  | 0, h => absurd h (Nat.not_lt_zero v)
  | k + 1, h => by
    show f v ≤ sm f k + f k
    by_cases e : v = k
    · rw [e]; omega
    · have := sm_ge (f := f) k (show v < k by omega)
      omega
/-- what is reached from few is few -/
theorem ct_onto {A B : Nat → Prop} {z : Nat → Nat} {m : Nat} (h : ∀ u, u < m → B u → ∃ v, v < m ∧ A v ∧ z v = u) : ct B m ≤ ct A m := by
  have h1 : ct B m ≤ sm (fun u => sm (fun v => on (A v ∧ z v = u)) m) m := sm_mono m (fun u hu => by
    by_cases e : B u
    · obtain ⟨v, hv, a, b⟩ := h u hu e
      rw [on_t e, ← on_t (p := A v ∧ z v = u) ⟨a, b⟩]
      exact sm_ge (f := fun v => on (A v ∧ z v = u)) m hv
    · rw [on_f e]
      exact Nat.zero_le _)
  refine Nat.le_trans h1 ?_
  rw [sm_swap (fun u v => on (A v ∧ z v = u)) m m]
  refine sm_mono m (fun v _ => ?_)
  by_cases e : A v
  · rw [on_t e]
    by_cases q : z v < m
    · rw [sm_one (c := 1) m q (fun i _ hne => on_f (fun w => hne w.2.symm)) (on_t ⟨e, rfl⟩)]
      exact Nat.le_refl 1
    · rw [sm_congr (g := fun _ => 0) m (fun i hi => on_f (fun w => q (by rw [w.2]; exact hi))), sm_0]
      exact Nat.zero_le 1
  · rw [sm_congr (g := fun _ => 0) m (fun i _ => on_f (fun w => e w.1)), sm_0]
    exact Nat.zero_le _
theorem ct_lt {A B : Nat → Prop} {m c : Nat} (h : ∀ i, i < m → A i → B i) (hc : c < m) (h1 : ¬ A c) (h2 : B c) : ct A m < ct B m := by
  have key : ∀ k, k ≤ m → ct A k + (if c < k then 1 else 0) ≤ ct B k := by
    intro k
    induction k with
    | zero => intro _; exact Nat.le_refl 0
    | succ k ih =>
      intro hk
      have i1 := ih (by omega)
      show ct A k + on (A k) + (if c < k + 1 then 1 else 0) ≤ ct B k + on (B k)
      by_cases e : k = c
      · subst e
        rw [on_f h1, on_t h2, if_pos (Nat.lt_succ_self k)]
        rw [if_neg (Nat.lt_irrefl k)] at i1
        omega
      · have i2 : on (A k) ≤ on (B k) := by
          by_cases q : A k
          · rw [on_t q, on_t (h k (by omega) q)]; exact Nat.le_refl 1
          · rw [on_f q]; exact Nat.zero_le _
        by_cases q : c < k
        · rw [if_pos q] at i1
          rw [if_pos (by omega)]
          omega
        · rw [if_neg q] at i1
          rw [if_neg (by omega)]
          omega
  have := key m (Nat.le_refl m)
  rw [if_pos hc] at this
  omega
/-- a ring put on a ring -/
def wr (x y z p g : Nat) : Nat → Nat
  | 0 => z
  | k + 1 => w8 (wr x y z p g k) (it (d8 x) k p) (it (d8 y) k g)
section GREEDY
variable {n x y : Nat}
theorem wr_lt {z p g : Nat} (hx : Pn 7 (d8 x)) (hy : Pn 7 (d8 y)) (hz : z < 2 ^ (3 * 7)) (hp : p < 7) (hg : g < 7) : ∀ k, wr x y z p g k < 2 ^ (3 * 7)
  | 0 => hz
  | k + 1 => w8_lt (wr_lt hx hy hz hp hg k) (it_lt hx hp k) (by have := it_lt hy hg k; omega)
theorem wr_d {z p g K : Nat} (hx : Pn 7 (d8 x)) (hy : Pn 7 (d8 y)) (hp : p < 7) (hg : g < 7) (hK : Pd (d8 x) 7 p K) : ∀ k, k ≤ K → (∀ j, j < k → d8 (wr x y z p g k) (it (d8 x) j p) = it (d8 y) j g) ∧ ∀ v, v < 7 → (∀ j, j < k → it (d8 x) j p ≠ v) → d8 (wr x y z p g k) v = d8 z v
  | 0, _ => ⟨fun j hj => absurd hj (Nat.not_lt_zero j), fun v _ _ => rfl⟩
  | k + 1, hk => by
    obtain ⟨i1, i2⟩ := wr_d (z := z) hx hy hp hg hK k (by omega)
    have a1 := it_lt hx hp k
    have a2 := it_lt hy hg k
    refine ⟨fun j hj => ?_, fun v hv h => ?_⟩
    · have a3 := it_lt hx hp j
      show d8 (w8 (wr x y z p g k) (it (d8 x) k p) (it (d8 y) k g)) (it (d8 x) j p) = _
      rw [w8_d (by omega) (by omega) (by omega)]
      by_cases e : j = k
      · rw [e, if_pos rfl]
      · rw [if_neg (fun q => e (hK.inj hx hp (by omega) (by omega) q))]
        exact i1 j (by omega)
    · show d8 (w8 (wr x y z p g k) (it (d8 x) k p) (it (d8 y) k g)) v = _
      rw [w8_d (by omega) (by omega) (by omega), if_neg (fun q => h k (Nat.lt_succ_self k) q.symm)]
      exact i2 v hv (fun j hj => h j (by omega))
theorem wr_all {z p g : Nat} (hx : Pn 7 (d8 x)) (hy : Pn 7 (d8 y)) (hp : p < 7) (hg : g < 7) (hl : ln y g = ln x p) : (∀ j, d8 (wr x y z p g (ln x p)) (it (d8 x) j p) = it (d8 y) j g) ∧ ∀ v, v < 7 → ¬ Ob (d8 x) p v → d8 (wr x y z p g (ln x p)) v = d8 z v := by
  have hK := ln_Pd hx hp
  have hG := ln_Pd hy hg
  rw [hl] at hG
  obtain ⟨h1, h2⟩ := wr_d (z := z) hx hy hp hg hK _ (Nat.le_refl _)
  refine ⟨fun j => ?_, fun v hv h => h2 v hv (fun j _ e => h ⟨j, e⟩)⟩
  have h3 := h1 (j % ln x p) (Nat.mod_lt _ hK.1)
  rw [it_mod hK.2.2.1, it_mod hG.2.2.1] at h3
  exact h3
/-- how far the first renamer is made -/
def GS (n x y c z kn us : Nat) : Prop :=
  z < 2 ^ (3 * 7) ∧ kn < 2 ^ 7 ∧ us < 2 ^ 7 ∧ (∀ v, v < c → kn.testBit v = true) ∧
  (∀ v, kn.testBit v = true → v < n ∧ d8 z v < n ∧ kn.testBit (d8 x v) = true ∧ d8 z (d8 x v) = d8 y (d8 z v)) ∧
  (∀ u, us.testBit u = true ↔ ∃ v, kn.testBit v = true ∧ d8 z v = u) ∧
  (∀ u v, kn.testBit u = true → kn.testBit v = true → d8 z u = d8 z v → u = v) ∧
  (∀ v, v < 7 → kn.testBit v = false → d8 z v = v) ∧
  ∀ w : Nat → Nat, RN n x y w → (∀ v, kn.testBit v = true → w v = d8 z v) ∨ ∃ p, p < n ∧ (∀ v, v ≤ p → kn.testBit v = true) ∧ (∀ v, v < p → w v = d8 z v) ∧ d8 z p < w p
theorem GS_0 : GS n x y 0 1754760 0 0 :=
  ⟨by decide, by decide, by decide, fun v hv => absurd hv (Nat.not_lt_zero v), fun v hv => by rw [Nat.zero_testBit] at hv; exact absurd hv (by decide),
    fun u => ⟨fun h => by rw [Nat.zero_testBit] at h; exact absurd h (by decide), fun ⟨v, h, _⟩ => by rw [Nat.zero_testBit] at h; exact absurd h (by decide)⟩,
    fun u v h => by rw [Nat.zero_testBit] at h; exact absurd h (by decide), fun v hv _ => e7_d v hv, fun w _ => Or.inl (fun v h => by rw [Nat.zero_testBit] at h; exact absurd h (by decide))⟩
theorem GS_k {c z kn us : Nat} (h : GS n x y c z kn us) (hk : kn.testBit c = true) : GS n x y (c + 1) z kn us := by
  obtain ⟨a1, a2, a3, a4, a5⟩ := h
  refine ⟨a1, a2, a3, fun v hv => ?_, a5⟩
  by_cases e : v = c
  · rw [e]; exact hk
  · exact a4 v (by omega)
theorem GS_it {c z kn us : Nat} (h : GS n x y c z kn us) {v : Nat} (hv : kn.testBit v = true) : ∀ j, kn.testBit (it (d8 x) j v) = true
  | 0 => hv
  | j + 1 => (h.2.2.2.2.1 _ (GS_it h hv j)).2.2.1
/-- there is a free one on a ring of that length -/
theorem GS_free (hn : n ≤ 7) (hx : Mv n x) (hy : Mv n y) (hL : ∀ L, 1 ≤ L → L ≤ 7 → rl x L 7 = rl y L 7) {c z kn us : Nat} (h : GS n x y c z kn us) (hc : c < n) (hk : kn.testBit c = false) : ∃ q, q < n ∧ us.testBit q = false ∧ ln y q = ln x c := by
  have hx7 := hx.P7 hn
  have hy7 := hy.P7 hn
  refine Classical.byContradiction fun hno => ?_
  have hno : ∀ q, q < n → ln y q = ln x c → us.testBit q = true := fun q hq e => by
    cases b : us.testBit q with
    | true => rfl
    | false => exact absurd ⟨q, hq, b, e⟩ hno
  obtain ⟨_, _, _, _, k1, k2, k3, k4, _⟩ := h
  have hfix : ∀ {t : Nat}, Mv n t → ∀ v, n ≤ v → v < 7 → ∀ j, it (d8 t) j v = v := fun {t} ht v h1 h2 j => by
    induction j with
    | zero => rfl
    | succ j ih =>
      show d8 t (it (d8 t) j v) = v
      rw [ih]
      exact ht.2.2 v h1 h2
  have hone : ∀ {t : Nat}, Mv n t → ∀ v, n ≤ v → v < 7 → ln t v = 1 := fun {t} ht v h1 h2 => by
    refine (ln_Pd (ht.P7 hn) h2).same ⟨Nat.le_refl 1, by decide, hfix ht v h1 h2 1, fun j h3 h4 => ?_⟩
    omega
  -- the points that are done, or that stay
  let A : Nat → Prop := fun v => (kn.testBit v = true ∨ n ≤ v) ∧ ln x v = ln x c
  have h1 : ct (fun u => ln y u = ln x c) 7 ≤ ct A 7 := by
    refine ct_onto (z := d8 z) (fun u hu e => ?_)
    by_cases q : u < n
    · obtain ⟨v, b1, b2⟩ := (k2 u).mp (hno u q e)
      have b3 := (k1 v b1).1
      refine ⟨v, by omega, ⟨Or.inl b1, ?_⟩, b2⟩
      rw [← e, ← b2]
      exact (ln_RN (w := d8 z) (S := fun v => kn.testBit v = true) hx7 hy7 (fun v hv => ⟨(k1 v hv).2.2.1, (k1 v hv).2.2.2⟩) (fun u v hu hv e => k3 u v hu hv e) b1 (by omega) (by have := (k1 v b1).2.1; omega)).symm
    · refine ⟨u, hu, ⟨Or.inr (by omega), ?_⟩, k4 u hu ?_⟩
      · rw [hone hx u (by omega) hu, ← e, hone hy u (by omega) hu]
      · cases b : kn.testBit u with
        | false => rfl
        | true => exact absurd (k1 u b).1 q
  have h2 : ct A 7 < ct (fun v => ln x v = ln x c) 7 := by
    refine ct_lt (c := c) (fun i _ a => a.2) (by omega) (fun a => ?_) rfl
    rcases a.1 with a | a
    · rw [hk] at a
      exact absurd a (by decide)
    · omega
  have h3 := ln_Pd hx7 (show c < 7 by omega)
  have e1 := pl_rl hx7 (ln x c)
  have e2 := pl_rl hy7 (ln x c)
  rw [hL _ h3.1 h3.2.1] at e1
  omega
/-- the ring of the least one that isn't done is put on the first free one -/
theorem GS_s (hn : n ≤ 7) (hx : Mv n x) (hy : Mv n y) {c z kn us g : Nat} (h : GS n x y c z kn us) (hc : c < n) (hk : kn.testBit c = false) (hg : g < n) (hu : us.testBit g = false) (hl : ln y g = ln x c) (hm : ∀ q, q < g → ¬ (us.testBit q = false ∧ ln y q = ln x c)) :
    GS n x y (c + 1) (wr x y z c g (ln x c)) (kn ||| rg x c) (us ||| rg y g) := by
  have hx7 := hx.P7 hn
  have hy7 := hy.P7 hn
  have c7 : c < 7 := by omega
  have g7 : g < 7 := by omega
  obtain ⟨w1, w2⟩ := wr_all (z := z) hx7 hy7 c7 g7 hl
  have hGS := h
  obtain ⟨a1, a2, a3, k0, k1, k2, k3, k4, k5⟩ := h
  have hor : ∀ v, (kn ||| rg x c).testBit v = true ↔ kn.testBit v = true ∨ Ob (d8 x) c v := fun v => by rw [Nat.testBit_or, Bool.or_eq_true, rg_bit hx7 c7]
  have hou : ∀ v, (us ||| rg y g).testBit v = true ↔ us.testBit v = true ∨ Ob (d8 y) g v := fun v => by rw [Nat.testBit_or, Bool.or_eq_true, rg_bit hy7 g7]
  have hdis : ∀ v, kn.testBit v = true → ¬ Ob (d8 x) c v := fun v hv ho => by
    obtain ⟨j, e⟩ := ho.sy hx7 c7
    have := GS_it hGS hv j
    rw [e, hk] at this
    exact absurd this (by decide)
  have hold : ∀ v, kn.testBit v = true → d8 (wr x y z c g (ln x c)) v = d8 z v := fun v hv => w2 v (by have := (k1 v hv).1; omega) (hdis v hv)
  have hObn : ∀ {t p v : Nat}, Mv n t → p < n → Ob (d8 t) p v → v < n := fun {t p v} ht hp ho => by
    obtain ⟨j, rfl⟩ := ho
    exact it_lt ht.2.1 hp j
  -- what is used is closed
  have hus : ∀ u, us.testBit u = true → ¬ Ob (d8 y) g u := fun u h1 ho => by
    obtain ⟨j, e⟩ := ho.sy hy7 g7
    obtain ⟨v, b1, b2⟩ := (k2 u).mp h1
    have b3 := it_RN (w := d8 z) (S := fun v => kn.testBit v = true) (fun v hv => ⟨(k1 v hv).2.2.1, (k1 v hv).2.2.2⟩) b1 j
    rw [b2, e] at b3
    have b4 : us.testBit g = true := (k2 g).mpr ⟨_, b3.1, b3.2.symm⟩
    rw [hu] at b4
    exact absurd b4 (by decide)
  refine ⟨wr_lt hx7 hy7 a1 c7 g7 _, Nat.or_lt_two_pow a2 (rg_spec hx7 c7).1, Nat.or_lt_two_pow a3 (rg_spec hy7 g7).1, fun v hv => (hor v).mpr ?_, fun v hv => ?_, fun u => ⟨fun hv => ?_, fun ⟨v, b1, b2⟩ => ?_⟩, fun u v h1 h2 e => ?_, fun v h7 hv => ?_, fun w hw => ?_⟩
  · by_cases e : v = c
    · rw [e]; exact Or.inr Ob.rf
    · exact Or.inl (k0 v (by omega))
  · rcases (hor v).mp hv with h1 | h1
    · obtain ⟨b1, b2, b3, b4⟩ := k1 v h1
      rw [hold v h1, hold _ b3]
      exact ⟨b1, b2, (hor _).mpr (Or.inl b3), b4⟩
    · refine ⟨hObn hx hc h1, ?_, (hor _).mpr (Or.inr h1.s), ?_⟩
      · obtain ⟨j, rfl⟩ := h1
        rw [w1 j]
        exact it_lt hy.2.1 hg j
      · obtain ⟨j, rfl⟩ := h1
        rw [w1 j]
        exact w1 (j + 1)
  · rcases (hou u).mp hv with h1 | ⟨j, rfl⟩
    · obtain ⟨v, b1, b2⟩ := (k2 u).mp h1
      exact ⟨v, (hor v).mpr (Or.inl b1), (hold v b1).trans b2⟩
    · exact ⟨it (d8 x) j c, (hor _).mpr (Or.inr ⟨j, rfl⟩), w1 j⟩
  · rw [← b2]
    rcases (hor v).mp b1 with h1 | ⟨j, rfl⟩
    · rw [hold v h1]
      exact (hou _).mpr (Or.inl ((k2 _).mpr ⟨v, h1, rfl⟩))
    · rw [w1 j]
      exact (hou _).mpr (Or.inr ⟨j, rfl⟩)
  · rcases (hor u).mp h1 with p1 | ⟨i, rfl⟩
    · rcases (hor v).mp h2 with p2 | ⟨j, rfl⟩
      · rw [hold u p1, hold v p2] at e
        exact k3 u v p1 p2 e
      · rw [hold u p1, w1 j] at e
        exact absurd ⟨j, e.symm⟩ (hus _ ((k2 _).mpr ⟨u, p1, rfl⟩))
    · rcases (hor v).mp h2 with p2 | ⟨j, rfl⟩
      · rw [hold v p2, w1 i] at e
        exact absurd ⟨i, e⟩ (hus _ ((k2 _).mpr ⟨v, p2, rfl⟩))
      · rw [w1 i, w1 j] at e
        have hK := ln_Pd hx7 c7
        have hG := ln_Pd hy7 g7
        rw [hl] at hG
        rw [← it_mod hG.2.2.1 i, ← it_mod hG.2.2.1 j] at e
        have e2 := hG.inj hy7 g7 (Nat.mod_lt _ hK.1) (Nat.mod_lt _ hK.1) e
        rw [← it_mod hK.2.2.1 i, ← it_mod hK.2.2.1 j, e2]
  · have h1 : ¬ (kn.testBit v = true ∨ Ob (d8 x) c v) := fun q => by
      rw [(hor v).mpr q] at hv
      exact absurd hv (by decide)
    rw [w2 v h7 (fun q => h1 (Or.inr q))]
    refine k4 v h7 ?_
    cases q : kn.testBit v with
    | false => rfl
    | true => exact absurd (Or.inl q) h1
  · rcases k5 w hw with q | ⟨p, p1, p2, p3, p4⟩
    · have hwc : w c < n := hw.1.1 c hc
      have hit := it_RN (x := x) (y := y) (w := w) (S := fun v => v < n) (fun v hv => ⟨hx.2.1.1 v hv, hw.2 v hv⟩) hc
      have hlen : ln y (w c) = ln x c := by
        obtain ⟨hM, hd, hc7⟩ := RN_7 hn hx hy hw
        have hz7 := hM.P7 hn
        rw [← hd c hc]
        exact ln_RN (w := d8 (mkM n w)) (S := fun v => v < 7) hx7 hy7 (fun v hv => ⟨hx7.1 v hv, hc7 v hv⟩) (fun u v hu hv e => hz7.2 u v hu hv e) c7 c7 (hz7.1 c c7)
      have hfree : us.testBit (w c) = false := by
        cases b : us.testBit (w c) with
        | false => rfl
        | true =>
          obtain ⟨v, b1, b2⟩ := (k2 _).mp b
          have b3 := hw.1.2 v c (k1 v b1).1 hc ((q v b1).trans b2)
          rw [b3, hk] at b1
          exact absurd b1 (by decide)
      have hge : g ≤ w c := Nat.not_lt.mp fun e => hm _ e ⟨hfree, hlen⟩
      by_cases e : w c = g
      · refine Or.inl (fun v hv => ?_)
        rcases (hor v).mp hv with h1 | ⟨j, rfl⟩
        · rw [hold v h1]; exact q v h1
        · rw [w1 j, ← e]
          exact (hit j).2.symm
      · refine Or.inr ⟨c, hc, fun v hv => ?_, fun v hv => ?_, ?_⟩
        · by_cases e2 : v = c
          · rw [e2]; exact (hor c).mpr (Or.inr Ob.rf)
          · exact (hor v).mpr (Or.inl (k0 v (by omega)))
        · rw [hold v (k0 v hv)]
          exact q v (k0 v hv)
        · have := w1 0
          have this : d8 (wr x y z c g (ln x c)) c = g := this
          rw [this]
          omega
    · refine Or.inr ⟨p, p1, fun v hv => (hor v).mpr (Or.inl (p2 v hv)), fun v hv => ?_, ?_⟩
      · rw [hold v (p2 v (by omega))]
        exact p3 v hv
      · rw [hold p (p2 p (Nat.le_refl p))]
        exact p4
/-- all are done: the renamer with the least number -/
def LN (n x y z : Nat) : Prop := Mv n z ∧ RN n x y (d8 z) ∧ ∀ w : Nat → Nat, RN n x y w → nu n z ≤ nuF w 0 n n
theorem GS_n (hn : n ≤ 7) {c z kn us : Nat} (h : GS n x y c z kn us) (hc : n ≤ c) : LN n x y z := by
  obtain ⟨a1, _, _, k0, k1, _, k3, k4, k5⟩ := h
  have hk : ∀ v, v < n → kn.testBit v = true := fun v hv => k0 v (by omega)
  have hP : Pn n (d8 z) := ⟨fun v hv => (k1 v (hk v hv)).2.1, fun u v hu hv e => k3 u v (hk u hu) (hk v hv) e⟩
  refine ⟨⟨a1, hP, fun p h1 h2 => k4 p h2 ?_⟩, ⟨hP, fun p hp => (k1 p (hk p hp)).2.2.2⟩, fun w hw => ?_⟩
  · cases b : kn.testBit p with
    | false => rfl
    | true => have := (k1 p b).1; omega
  · rcases k5 w hw with q | ⟨p, p1, p2, p3, p4⟩
    · refine Nat.le_of_eq (nu_congr (fun p hp => (q p (hk p hp)).symm))
    · exact Nat.le_of_lt (nu_lex hP hw.1 p1 (fun j hj => (p3 j hj).symm) p4)
theorem LN_same (h1 : 1 ≤ n) (hn : n ≤ 7) {z z' : Nat} (h : LN n x y z) (h' : LN n x y z') : z = z' :=
  nu_same h1 hn h.1 h'.1 (Nat.le_antisymm (h.2.2 _ h'.2.1) (h'.2.2 _ h.2.1))
end GREEDY
