section
/-! rings as sums of powers of two; like rings -/
def rgL (x : Nat) : Nat → Nat → Nat → Nat
  | 0, r, _ => r
  | k + 1, r, a => if r.testBit a = true then r else rgL x k (r ||| 2 ^ a) (d8 x a)
def rg (x p : Nat) : Nat := rgL x 7 0 p
/-- v comes of p -/
def Ob (f : Nat → Nat) (p v : Nat) : Prop := ∃ j, it f j p = v
section RINGS
variable {x p : Nat}
theorem rgL_spec {K : Nat} (hP : Pn 7 (d8 x)) (hp : p < 7) (hK : Pd (d8 x) 7 p K) : ∀ k c r a, k + c = 7 → c ≤ K → (r < 2 ^ 7 ∧ ∀ v, r.testBit v = usd (fun j => it (d8 x) j p) v c) → a = it (d8 x) c p → rgL x k r a < 2 ^ 7 ∧ ∀ v, (rgL x k r a).testBit v = usd (fun j => it (d8 x) j p) v K
  | 0, c, r, a, hk, hc, hr, _ => by
    have h7 := hK.2.1
    have e : c = K := by omega
    subst e
    exact hr
  | k + 1, c, r, a, hk, hc, hr, ha => by
    show (if r.testBit a = true then r else rgL x k (r ||| 2 ^ a) (d8 x a)) < 2 ^ 7 ∧ ∀ v, (if r.testBit a = true then r else rgL x k (r ||| 2 ^ a) (d8 x a)).testBit v = _
    by_cases h : r.testBit a = true
    · rw [if_pos h]
      obtain ⟨h1, K', hK', h3⟩ := ring_end hP hp hK hc hr ha (Or.inr h)
      rw [hK.same hK']
      exact ⟨h1, h3⟩
    · rw [if_neg h]
      have hb : r.testBit a = false := by
        cases q : r.testBit a with
        | false => rfl
        | true => exact absurd q h
      have hc1 := ring_lt hP hp hK hc hr ha hb
      have a7 : a < 7 := by rw [ha]; exact it_lt hP hp c
      exact rgL_spec hP hp hK k (c + 1) _ _ (by omega) hc1 (ring_s a7 ha hr) (by rw [ha]; rfl)
theorem rg_spec (hP : Pn 7 (d8 x)) (hp : p < 7) : rg x p < 2 ^ 7 ∧ ∃ K, Pd (d8 x) 7 p K ∧ ∀ v, (rg x p).testBit v = usd (fun j => it (d8 x) j p) v K := by
  obtain ⟨K, hK⟩ := Pd_ex hP hp
  have h := rgL_spec hP hp hK 7 0 0 p rfl (Nat.zero_le _) (ring_0 _) rfl
  exact ⟨h.1, K, hK, h.2⟩
theorem usd_Ob {f : Nat → Nat} {K v : Nat} (hK : Pd f 7 p K) : usd (fun j => it f j p) v K = true ↔ Ob f p v := by
  refine ⟨fun h => ?_, fun ⟨j, e⟩ => ?_⟩
  · obtain ⟨j, _, e⟩ := usd_ex K h
    exact ⟨j, e⟩
  · refine usd_of K (j % K) (Nat.mod_lt _ hK.1) ?_
    show it f (j % K) p = v
    rw [it_mod hK.2.2.1]
    exact e
theorem rg_bit (hP : Pn 7 (d8 x)) (hp : p < 7) {v : Nat} : (rg x p).testBit v = true ↔ Ob (d8 x) p v := by
  obtain ⟨_, K, hK, h⟩ := rg_spec hP hp
  rw [h v]
  exact usd_Ob hK
theorem Ob.rf {f : Nat → Nat} : Ob f p p := ⟨0, rfl⟩
theorem Ob.tr {f : Nat → Nat} {v u : Nat} (h : Ob f p v) (h' : Ob f v u) : Ob f p u := by
  obtain ⟨i, rfl⟩ := h
  obtain ⟨j, rfl⟩ := h'
  exact ⟨j + i, it_add f p i j⟩
theorem Ob.s {f : Nat → Nat} {v : Nat} (h : Ob f p v) : Ob f p (f v) := h.tr ⟨1, rfl⟩
theorem Ob.sy {f : Nat → Nat} {v : Nat} (hP : Pn 7 f) (hp : p < 7) (h : Ob f p v) : Ob f v p := by
  obtain ⟨K, hK⟩ := Pd_ex hP hp
  obtain ⟨j, rfl⟩ := h
  have h1 : j ≤ K * (j + 1) := Nat.le_trans (Nat.le_succ j) (Nat.le_mul_of_pos_left (j + 1) hK.1)
  refine ⟨K * (j + 1) - j, ?_⟩
  rw [← it_add, Nat.sub_add_cancel h1]
  exact it_mul hK.2.2.1 (j + 1)
theorem Ob.lt {f : Nat → Nat} {v : Nat} (hP : Pn 7 f) (hp : p < 7) (h : Ob f p v) : v < 7 := by
  obtain ⟨j, rfl⟩ := h
  exact it_lt hP hp j
theorem rg_eq (hP : Pn 7 (d8 x)) (hp : p < 7) {v : Nat} (h : Ob (d8 x) p v) : rg x v = rg x p := by
  refine Nat.eq_of_testBit_eq (fun i => ?_)
  have e : (rg x v).testBit i = true ↔ (rg x p).testBit i = true := (rg_bit hP (h.lt hP hp)).trans (Iff.trans ⟨fun q => h.tr q, fun q => (h.sy hP hp).tr q⟩ (rg_bit hP hp).symm)
  exact Bool.eq_iff_iff.mpr e
/-- a ring's length; whether a point is the least one of its ring; how many rings of a length -/
def ln (x p : Nat) : Nat := pc32 (nI (rg x p))
def ld (x p : Nat) : Bool := cnt (fun i => (rg x p).testBit i) p == 0
def rl (x L m : Nat) : Nat := cnt (fun p => ld x p && (ln x p == L)) m
theorem ln_Pd (hP : Pn 7 (d8 x)) (hp : p < 7) : Pd (d8 x) 7 p (ln x p) := by
  obtain ⟨h1, K, hK, h2⟩ := rg_spec hP hp
  exact ring_len hP hp hK h1 h2
theorem ln_cnt (hP : Pn 7 (d8 x)) (hp : p < 7) : ln x p = cnt (fun i => (rg x p).testBit i) 7 := by
  have h := (rg_spec hP hp).1
  unfold ln
  rw [pc32_nI (by omega), show (32 : Nat) = 7 + 25 from rfl, cnt_split, cnt_0 (P := fun i => (rg x p).testBit (7 + i)) 25 (fun i _ => Nat.testBit_lt_two_pow (Nat.lt_of_lt_of_le h (Nat.pow_le_pow_right (by decide) (by omega)))), Nat.add_zero]
theorem ln_eq (hP : Pn 7 (d8 x)) (hp : p < 7) {v : Nat} (h : Ob (d8 x) p v) : ln x v = ln x p := by
  unfold ln
  rw [rg_eq hP hp h]
/-- each point has one least one in its ring -/
theorem leader (hP : Pn 7 (d8 x)) (hp : p < 7) : ∃ l, l < 7 ∧ ld x l = true ∧ Ob (d8 x) l p ∧ ∀ i, i < 7 → ld x i = true → Ob (d8 x) i p → i = l := by
  obtain ⟨l, h1, h2, h3⟩ := least (P := fun i => (rg x p).testBit i = true) p ((rg_bit hP hp).mpr Ob.rf)
  have hl : l < 7 := by omega
  have hO := (rg_bit hP hp).mp h2
  have hE := rg_eq hP hp hO
  have h0 : ∀ i, i < l → (rg x l).testBit i = false := fun i hi => by
    rw [hE]
    cases q : (rg x p).testBit i with
    | false => rfl
    | true => exact absurd q (h3 i hi)
  have hld : ld x l = true := by
    unfold ld
    rw [cnt_0 l h0]
    rfl
  refine ⟨l, hl, hld, hO.sy hP hp, fun i hi hi2 hi3 => ?_⟩
  have hEi := rg_eq hP hi hi3
  have h4 : (rg x l).testBit i = true := by
    rw [hE, hEi]
    exact (rg_bit hP hi).mpr Ob.rf
  have h5 : (rg x i).testBit l = true := by
    rw [← hEi, ← hE]
    exact (rg_bit hP hl).mpr Ob.rf
  refine Nat.le_antisymm (Nat.not_lt.mp fun e => ?_) (Nat.not_lt.mp fun e => ?_)
  · have h6 := cnt_pos (P := fun j => (rg x i).testBit j) i l e h5
    have h7 : cnt (fun j => (rg x i).testBit j) i = 0 := eq_of_beq hi2
    omega
  · rw [h0 i e] at h4
    exact absurd h4 (by decide)
/-- the points on rings of a length are that many times its rings -/
theorem pl_rl (hP : Pn 7 (d8 x)) (L : Nat) : ct (fun p => ln x p = L) 7 = L * rl x L 7 := by
  have h1 : ct (fun p => ln x p = L) 7 = sm (fun p => sm (fun l => on ((ld x l = true ∧ ln x l = L) ∧ Ob (d8 x) l p)) 7) 7 := by
    refine sm_congr 7 (fun p hp => ?_)
    obtain ⟨l, hl, l1, l2, l3⟩ := leader hP hp
    have e := ln_eq hP hl l2
    refine (sm_one 7 hl (fun i hi hne => on_f (fun e => hne (l3 i hi e.1.1 e.2))) (on_iff ⟨fun q => ?_, fun q => ⟨⟨l1, ?_⟩, l2⟩⟩)).symm
    · exact e.trans q.1.2
    · exact e.symm.trans q
  rw [h1, sm_swap (fun p l => on ((ld x l = true ∧ ln x l = L) ∧ Ob (d8 x) l p)) 7 7]
  refine Eq.trans (sm_congr 7 (fun l hl => ?_)) (sm_mul L (fun p => ld x p && (ln x p == L)) 7)
  show sm (fun p => on ((ld x l = true ∧ ln x l = L) ∧ Ob (d8 x) l p)) 7 = L * (if (ld x l && (ln x l == L)) = true then 1 else 0)
  by_cases q : ld x l = true ∧ ln x l = L
  · rw [if_pos (by rw [q.1, q.2, Bool.true_and]; exact beq_self_eq_true L), Nat.mul_one]
    have e : ct (fun p => Ob (d8 x) l p) 7 = cnt (fun i => (rg x l).testBit i) 7 := ct_cnt 7 (fun i _ => (rg_bit hP hl).symm)
    rw [← ln_cnt hP hl, q.2] at e
    refine Eq.trans (sm_congr 7 (fun p _ => on_iff ⟨fun z => z.2, fun z => ⟨q, z⟩⟩)) e
  · rw [if_neg (fun z => q (by
      rw [Bool.and_eq_true] at z
      exact ⟨z.1, eq_of_beq z.2⟩)), Nat.mul_zero, sm_congr (g := fun _ => 0) 7 (fun p _ => on_f (fun z => q z.1)), sm_0]
end RINGS
/-- w renames x to y -/
def RN (n x y : Nat) (w : Nat → Nat) : Prop := Pn n w ∧ ∀ p, p < n → w (d8 x p) = d8 y (w p)
section LIKE
variable {n x y : Nat}
theorem it_RN {w : Nat → Nat} {S : Nat → Prop} (hS : ∀ v, S v → S (d8 x v) ∧ w (d8 x v) = d8 y (w v)) {p : Nat} (hp : S p) : ∀ j, S (it (d8 x) j p) ∧ it (d8 y) j (w p) = w (it (d8 x) j p)
  | 0 => ⟨hp, rfl⟩
  | j + 1 => by
    obtain ⟨h1, h2⟩ := it_RN hS hp j
    refine ⟨(hS _ h1).1, ?_⟩
    show d8 y (it (d8 y) j (w p)) = w (d8 x (it (d8 x) j p))
    rw [h2, (hS _ h1).2]
/-- a ring's length is kept by what renames -/
theorem ln_RN {w : Nat → Nat} {S : Nat → Prop} (hx : Pn 7 (d8 x)) (hy : Pn 7 (d8 y)) (hS : ∀ v, S v → S (d8 x v) ∧ w (d8 x v) = d8 y (w v)) (hi : ∀ u v, S u → S v → w u = w v → u = v) {p : Nat} (hp : S p) (hp7 : p < 7) (hw : w p < 7) : ln y (w p) = ln x p := by
  obtain ⟨a1, a2, a3, a4⟩ := ln_Pd hx hp7
  refine (ln_Pd hy hw).same ⟨a1, a2, ?_, fun j h1 h2 e => ?_⟩
  · rw [(it_RN hS hp _).2, a3]
  · rw [(it_RN hS hp _).2] at e
    exact a4 j h1 h2 (hi _ _ (it_RN hS hp j).1 hp e)
theorem Mv.P7 (hn : n ≤ 7) (h : Mv n x) : Pn 7 (d8 x) := h.p7 hn
/-- .. of all seven points -/
theorem RN_7 (hn : n ≤ 7) (hx : Mv n x) (hy : Mv n y) {w : Nat → Nat} (h : RN n x y w) : Mv n (mkM n w) ∧ (∀ p, p < n → d8 (mkM n w) p = w p) ∧ ∀ p, p < 7 → d8 (mkM n w) (d8 x p) = d8 y (d8 (mkM n w) p) := by
  have hM := mkM_Mv hn h.1
  have hd : ∀ p, p < n → d8 (mkM n w) p = w p := fun p hp => mkM_d hn h.1.1 hp
  refine ⟨hM, hd, fun p hp => ?_⟩
  by_cases e : p < n
  · rw [hd p e, hd _ (hx.2.1.1 p e)]
    exact h.2 p e
  · rw [hx.2.2 p (by omega) hp, hM.2.2 p (by omega) hp, hy.2.2 p (by omega) hp]
theorem RN_like (hn : n ≤ 7) (hx : Mv n x) (hy : Mv n y) {w : Nat → Nat} (h : RN n x y w) {L : Nat} (hL : 1 ≤ L) : rl x L 7 = rl y L 7 := by
  obtain ⟨hM, _, hc⟩ := RN_7 hn hx hy h
  have hx7 := hx.P7 hn
  have hy7 := hy.P7 hn
  have hz7 := hM.P7 hn
  have h1 : ct (fun p => ln y (d8 (mkM n w) p) = L) 7 = ct (fun p => ln y p = L) 7 := ct_perm (P := fun p => ln y p = L) hz7
  have h2 : ct (fun p => ln y (d8 (mkM n w) p) = L) 7 = ct (fun p => ln x p = L) 7 := ct_iff (fun p hp => by
    rw [ln_RN (w := d8 (mkM n w)) (S := fun v => v < 7) hx7 hy7 (fun v hv => ⟨hx7.1 v hv, hc v hv⟩) (fun u v hu hv e => hz7.2 u v hu hv e) hp hp (hz7.1 p hp)])
  have h3 := pl_rl hx7 L
  rw [← h2, h1, pl_rl hy7 L] at h3
  exact (Nat.eq_of_mul_eq_mul_left hL h3).symm
end LIKE
end
section
/-! the lesser row has the lesser number; the first renamer -/
theorem nu_lex {n : Nat} {f g : Nat → Nat} (hf : Pn n f) (hg : Pn n g) {p : Nat} (hp : p < n) (he : ∀ j, j < p → f j = g j) (hl : f p < g p) : nuF f 0 n n < nuF g 0 n n := by
  have hA : ∀ q, q ≤ p → ∀ v, cnt (fun j => decide (f j < v)) q = cnt (fun j => decide (g j < v)) q := fun q hq v => cnt_add q (fun i hi => by rw [he i (by omega)])
  have hB : ∀ k, k ≤ p → nuF f 0 n k = nuF g 0 n k := by
    intro k
    induction k with
    | zero => intro _; rfl
    | succ k ih =>
      intro hk
      have e1 := les_is hf (show k < n by omega)
      have e2 := les_is hg (show k < n by omega)
      rw [he k (by omega), hA k (by omega)] at e1
      show nuF f 0 n k * (n - k) + les f 0 k n = nuF g 0 n k * (n - k) + les g 0 k n
      rw [ih (by omega), show les f 0 k n = les g 0 k n by omega]
  have hC : ∀ k, p + 1 + k ≤ n → nuF f 0 n (p + 1 + k) < nuF g 0 n (p + 1 + k) := by
    intro k
    induction k with
    | zero =>
      intro _
      have e1 := les_is hf hp
      have e2 := les_is hg hp
      have e3 := nu_lt hg hp (a := f p) (fun j hj q => by
        have := hf.2 j p (by omega) hp ((he j hj).trans q)
        omega) hl
      rw [hA p (Nat.le_refl p)] at e1
      show nuF f 0 n p * (n - p) + les f 0 p n < nuF g 0 n p * (n - p) + les g 0 p n
      rw [hB p (Nat.le_refl p)]
      omega
    | succ k ih =>
      intro hk
      have h1 := ih (by omega)
      have h2 := les_le f 0 (p + 1 + k) n
      have h3 : (nuF f 0 n (p + 1 + k) + 1) * (n - (p + 1 + k)) ≤ nuF g 0 n (p + 1 + k) * (n - (p + 1 + k)) := Nat.mul_le_mul_right _ h1
      rw [Nat.succ_mul] at h3
      show nuF f 0 n (p + 1 + k) * (n - (p + 1 + k)) + les f 0 (p + 1 + k) n < nuF g 0 n (p + 1 + k) * (n - (p + 1 + k)) + les g 0 (p + 1 + k) n
      omega
  have h := hC (n - (p + 1)) (by omega)
  rw [show p + 1 + (n - (p + 1)) = n by omega] at h
  exact h
theorem sm_mono {f g : Nat → Nat} : ∀ k, (∀ i, i < k → f i ≤ g i) → sm f k ≤ sm g k
  | 0, _ => Nat.le_refl 0
  | k + 1, h => Nat.add_le_add (sm_mono k (fun i hi => h i (by omega))) (h k (Nat.lt_succ_self k))
theorem sm_ge {f : Nat → Nat} {v : Nat} : ∀ k, v < k → f v ≤ sm f k
  | 0, h => absurd h (Nat.not_lt_zero v)
  | k + 1, h => by
    show f v ≤ sm f k + f k
    by_cases e : v = k
    · rw [e]; omega
    · have := sm_ge (f := f) k (show v < k by omega)
      omega
/-- what is reached from few is few -/
theorem ct_onto {A B : Nat → Prop} {z : Nat → Nat} {m : Nat} (h : ∀ u, u < m → B u → ∃ v, v < m ∧ A v ∧ z v = u) : ct B m ≤ ct A m := by
  have h1 : ct B m ≤ sm (fun u => sm (fun v => on (A v ∧ z v = u)) m) m := sm_mono m (fun u hu => by
    by_cases e : B u
    · obtain ⟨v, hv, a, b⟩ := h u hu e
      rw [on_t e, ← on_t (p := A v ∧ z v = u) ⟨a, b⟩]
      exact sm_ge (f := fun v => on (A v ∧ z v = u)) m hv
    · rw [on_f e]
      exact Nat.zero_le _)
  refine Nat.le_trans h1 ?_
  rw [sm_swap (fun u v => on (A v ∧ z v = u)) m m]
  refine sm_mono m (fun v _ => ?_)
  by_cases e : A v
  · rw [on_t e]
    by_cases q : z v < m
    · rw [sm_one (c := 1) m q (fun i _ hne => on_f (fun w => hne w.2.symm)) (on_t ⟨e, rfl⟩)]
      exact Nat.le_refl 1
    · rw [sm_congr (g := fun _ => 0) m (fun i hi => on_f (fun w => q (by rw [w.2]; exact hi))), sm_0]
      exact Nat.zero_le 1
  · rw [sm_congr (g := fun _ => 0) m (fun i _ => on_f (fun w => e w.1)), sm_0]
    exact Nat.zero_le _
theorem ct_lt {A B : Nat → Prop} {m c : Nat} (h : ∀ i, i < m → A i → B i) (hc : c < m) (h1 : ¬ A c) (h2 : B c) : ct A m < ct B m := by
  have key : ∀ k, k ≤ m → ct A k + (if c < k then 1 else 0) ≤ ct B k := by
    intro k
    induction k with
    | zero => intro _; exact Nat.le_refl 0
    | succ k ih =>
      intro hk
      have i1 := ih (by omega)
      show ct A k + on (A k) + (if c < k + 1 then 1 else 0) ≤ ct B k + on (B k)
      by_cases e : k = c
      · subst e
        rw [on_f h1, on_t h2, if_pos (Nat.lt_succ_self k)]
        rw [if_neg (Nat.lt_irrefl k)] at i1
        omega
      · have i2 : on (A k) ≤ on (B k) := by
          by_cases q : A k
          · rw [on_t q, on_t (h k (by omega) q)]; exact Nat.le_refl 1
          · rw [on_f q]; exact Nat.zero_le _
        by_cases q : c < k
        · rw [if_pos q] at i1
          rw [if_pos (by omega)]
          omega
        · rw [if_neg q] at i1
          rw [if_neg (by omega)]
          omega
  have := key m (Nat.le_refl m)
  rw [if_pos hc] at this
  omega
/-- a ring put on a ring -/
def wr (x y z p g : Nat) : Nat → Nat
  | 0 => z
  | k + 1 => w8 (wr x y z p g k) (it (d8 x) k p) (it (d8 y) k g)
section GREEDY
variable {n x y : Nat}
theorem wr_lt {z p g : Nat} (hx : Pn 7 (d8 x)) (hy : Pn 7 (d8 y)) (hz : z < 2 ^ (3 * 7)) (hp : p < 7) (hg : g < 7) : ∀ k, wr x y z p g k < 2 ^ (3 * 7)
  | 0 => hz
  | k + 1 => w8_lt (wr_lt hx hy hz hp hg k) (it_lt hx hp k) (by have := it_lt hy hg k; omega)
theorem wr_d {z p g K : Nat} (hx : Pn 7 (d8 x)) (hy : Pn 7 (d8 y)) (hp : p < 7) (hg : g < 7) (hK : Pd (d8 x) 7 p K) : ∀ k, k ≤ K → (∀ j, j < k → d8 (wr x y z p g k) (it (d8 x) j p) = it (d8 y) j g) ∧ ∀ v, v < 7 → (∀ j, j < k → it (d8 x) j p ≠ v) → d8 (wr x y z p g k) v = d8 z v
  | 0, _ => ⟨fun j hj => absurd hj (Nat.not_lt_zero j), fun v _ _ => rfl⟩
  | k + 1, hk => by
    obtain ⟨i1, i2⟩ := wr_d (z := z) hx hy hp hg hK k (by omega)
    have a1 := it_lt hx hp k
    have a2 := it_lt hy hg k
    refine ⟨fun j hj => ?_, fun v hv h => ?_⟩
    · have a3 := it_lt hx hp j
      show d8 (w8 (wr x y z p g k) (it (d8 x) k p) (it (d8 y) k g)) (it (d8 x) j p) = _
      rw [w8_d (by omega) (by omega) (by omega)]
      by_cases e : j = k
      · rw [e, if_pos rfl]
      · rw [if_neg (fun q => e (hK.inj hx hp (by omega) (by omega) q))]
        exact i1 j (by omega)
    · show d8 (w8 (wr x y z p g k) (it (d8 x) k p) (it (d8 y) k g)) v = _
      rw [w8_d (by omega) (by omega) (by omega), if_neg (fun q => h k (Nat.lt_succ_self k) q.symm)]
      exact i2 v hv (fun j hj => h j (by omega))
theorem wr_all {z p g : Nat} (hx : Pn 7 (d8 x)) (hy : Pn 7 (d8 y)) (hp : p < 7) (hg : g < 7) (hl : ln y g = ln x p) : (∀ j, d8 (wr x y z p g (ln x p)) (it (d8 x) j p) = it (d8 y) j g) ∧ ∀ v, v < 7 → ¬ Ob (d8 x) p v → d8 (wr x y z p g (ln x p)) v = d8 z v := by
  have hK := ln_Pd hx hp
  have hG := ln_Pd hy hg
  rw [hl] at hG
  obtain ⟨h1, h2⟩ := wr_d (z := z) hx hy hp hg hK _ (Nat.le_refl _)
  refine ⟨fun j => ?_, fun v hv h => h2 v hv (fun j _ e => h ⟨j, e⟩)⟩
  have h3 := h1 (j % ln x p) (Nat.mod_lt _ hK.1)
  rw [it_mod hK.2.2.1, it_mod hG.2.2.1] at h3
  exact h3
/-- how far the first renamer is made -/
def GS (n x y c z kn us : Nat) : Prop :=
  z < 2 ^ (3 * 7) ∧ kn < 2 ^ 7 ∧ us < 2 ^ 7 ∧ (∀ v, v < c → kn.testBit v = true) ∧
  (∀ v, kn.testBit v = true → v < n ∧ d8 z v < n ∧ kn.testBit (d8 x v) = true ∧ d8 z (d8 x v) = d8 y (d8 z v)) ∧
  (∀ u, us.testBit u = true ↔ ∃ v, kn.testBit v = true ∧ d8 z v = u) ∧
  (∀ u v, kn.testBit u = true → kn.testBit v = true → d8 z u = d8 z v → u = v) ∧
  (∀ v, v < 7 → kn.testBit v = false → d8 z v = v) ∧
  ∀ w : Nat → Nat, RN n x y w → (∀ v, kn.testBit v = true → w v = d8 z v) ∨ ∃ p, p < n ∧ (∀ v, v ≤ p → kn.testBit v = true) ∧ (∀ v, v < p → w v = d8 z v) ∧ d8 z p < w p
theorem GS_0 : GS n x y 0 1754760 0 0 :=
  ⟨by decide, by decide, by decide, fun v hv => absurd hv (Nat.not_lt_zero v), fun v hv => by rw [Nat.zero_testBit] at hv; exact absurd hv (by decide),
    fun u => ⟨fun h => by rw [Nat.zero_testBit] at h; exact absurd h (by decide), fun ⟨v, h, _⟩ => by rw [Nat.zero_testBit] at h; exact absurd h (by decide)⟩,
    fun u v h => by rw [Nat.zero_testBit] at h; exact absurd h (by decide), fun v hv _ => e7_d v hv, fun w _ => Or.inl (fun v h => by rw [Nat.zero_testBit] at h; exact absurd h (by decide))⟩
theorem GS_k {c z kn us : Nat} (h : GS n x y c z kn us) (hk : kn.testBit c = true) : GS n x y (c + 1) z kn us := by
  obtain ⟨a1, a2, a3, a4, a5⟩ := h
  refine ⟨a1, a2, a3, fun v hv => ?_, a5⟩
  by_cases e : v = c
  · rw [e]; exact hk
  · exact a4 v (by omega)
theorem GS_it {c z kn us : Nat} (h : GS n x y c z kn us) {v : Nat} (hv : kn.testBit v = true) : ∀ j, kn.testBit (it (d8 x) j v) = true
  | 0 => hv
  | j + 1 => (h.2.2.2.2.1 _ (GS_it h hv j)).2.2.1
/-- there is a free one on a ring of that length -/
theorem GS_free (hn : n ≤ 7) (hx : Mv n x) (hy : Mv n y) (hL : ∀ L, 1 ≤ L → L ≤ 7 → rl x L 7 = rl y L 7) {c z kn us : Nat} (h : GS n x y c z kn us) (hc : c < n) (hk : kn.testBit c = false) : ∃ q, q < n ∧ us.testBit q = false ∧ ln y q = ln x c := by
  have hx7 := hx.P7 hn
  have hy7 := hy.P7 hn
  refine Classical.byContradiction fun hno => ?_
  have hno : ∀ q, q < n → ln y q = ln x c → us.testBit q = true := fun q hq e => by
    cases b : us.testBit q with
    | true => rfl
    | false => exact absurd ⟨q, hq, b, e⟩ hno
  obtain ⟨_, _, _, _, k1, k2, k3, k4, _⟩ := h
  have hfix : ∀ {t : Nat}, Mv n t → ∀ v, n ≤ v → v < 7 → ∀ j, it (d8 t) j v = v := fun {t} ht v h1 h2 j => by
    induction j with
    | zero => rfl
    | succ j ih =>
      show d8 t (it (d8 t) j v) = v
      rw [ih]
      exact ht.2.2 v h1 h2
  have hone : ∀ {t : Nat}, Mv n t → ∀ v, n ≤ v → v < 7 → ln t v = 1 := fun {t} ht v h1 h2 => by
    refine (ln_Pd (ht.P7 hn) h2).same ⟨Nat.le_refl 1, by decide, hfix ht v h1 h2 1, fun j h3 h4 => ?_⟩
    omega
  -- the points that are done, or that stay
  let A : Nat → Prop := fun v => (kn.testBit v = true ∨ n ≤ v) ∧ ln x v = ln x c
  have h1 : ct (fun u => ln y u = ln x c) 7 ≤ ct A 7 := by
    refine ct_onto (z := d8 z) (fun u hu e => ?_)
    by_cases q : u < n
    · obtain ⟨v, b1, b2⟩ := (k2 u).mp (hno u q e)
      have b3 := (k1 v b1).1
      refine ⟨v, by omega, ⟨Or.inl b1, ?_⟩, b2⟩
      rw [← e, ← b2]
      exact (ln_RN (w := d8 z) (S := fun v => kn.testBit v = true) hx7 hy7 (fun v hv => ⟨(k1 v hv).2.2.1, (k1 v hv).2.2.2⟩) (fun u v hu hv e => k3 u v hu hv e) b1 (by omega) (by have := (k1 v b1).2.1; omega)).symm
    · refine ⟨u, hu, ⟨Or.inr (by omega), ?_⟩, k4 u hu ?_⟩
      · rw [hone hx u (by omega) hu, ← e, hone hy u (by omega) hu]
      · cases b : kn.testBit u with
        | false => rfl
        | true => exact absurd (k1 u b).1 q
  have h2 : ct A 7 < ct (fun v => ln x v = ln x c) 7 := by
    refine ct_lt (c := c) (fun i _ a => a.2) (by omega) (fun a => ?_) rfl
    rcases a.1 with a | a
    · rw [hk] at a
      exact absurd a (by decide)
    · omega
  have h3 := ln_Pd hx7 (show c < 7 by omega)
  have e1 := pl_rl hx7 (ln x c)
  have e2 := pl_rl hy7 (ln x c)
  rw [hL _ h3.1 h3.2.1] at e1
  omega
/-- the ring of the least one that isn't done is put on the first free one -/
theorem GS_s (hn : n ≤ 7) (hx : Mv n x) (hy : Mv n y) {c z kn us g : Nat} (h : GS n x y c z kn us) (hc : c < n) (hk : kn.testBit c = false) (hg : g < n) (hu : us.testBit g = false) (hl : ln y g = ln x c) (hm : ∀ q, q < g → ¬ (us.testBit q = false ∧ ln y q = ln x c)) :
    GS n x y (c + 1) (wr x y z c g (ln x c)) (kn ||| rg x c) (us ||| rg y g) := by
  have hx7 := hx.P7 hn
  have hy7 := hy.P7 hn
  have c7 : c < 7 := by omega
  have g7 : g < 7 := by omega
  obtain ⟨w1, w2⟩ := wr_all (z := z) hx7 hy7 c7 g7 hl
  have hGS := h
  obtain ⟨a1, a2, a3, k0, k1, k2, k3, k4, k5⟩ := h
  have hor : ∀ v, (kn ||| rg x c).testBit v = true ↔ kn.testBit v = true ∨ Ob (d8 x) c v := fun v => by rw [Nat.testBit_or, Bool.or_eq_true, rg_bit hx7 c7]
  have hou : ∀ v, (us ||| rg y g).testBit v = true ↔ us.testBit v = true ∨ Ob (d8 y) g v := fun v => by rw [Nat.testBit_or, Bool.or_eq_true, rg_bit hy7 g7]
  have hdis : ∀ v, kn.testBit v = true → ¬ Ob (d8 x) c v := fun v hv ho => by
    obtain ⟨j, e⟩ := ho.sy hx7 c7
    have := GS_it hGS hv j
    rw [e, hk] at this
    exact absurd this (by decide)
  have hold : ∀ v, kn.testBit v = true → d8 (wr x y z c g (ln x c)) v = d8 z v := fun v hv => w2 v (by have := (k1 v hv).1; omega) (hdis v hv)
  have hObn : ∀ {t p v : Nat}, Mv n t → p < n → Ob (d8 t) p v → v < n := fun {t p v} ht hp ho => by
    obtain ⟨j, rfl⟩ := ho
    exact it_lt ht.2.1 hp j
  -- what is used is closed
  have hus : ∀ u, us.testBit u = true → ¬ Ob (d8 y) g u := fun u h1 ho => by
    obtain ⟨j, e⟩ := ho.sy hy7 g7
    obtain ⟨v, b1, b2⟩ := (k2 u).mp h1
    have b3 := it_RN (w := d8 z) (S := fun v => kn.testBit v = true) (fun v hv => ⟨(k1 v hv).2.2.1, (k1 v hv).2.2.2⟩) b1 j
    rw [b2, e] at b3
    have b4 : us.testBit g = true := (k2 g).mpr ⟨_, b3.1, b3.2.symm⟩
    rw [hu] at b4
    exact absurd b4 (by decide)
  refine ⟨wr_lt hx7 hy7 a1 c7 g7 _, Nat.or_lt_two_pow a2 (rg_spec hx7 c7).1, Nat.or_lt_two_pow a3 (rg_spec hy7 g7).1, fun v hv => (hor v).mpr ?_, fun v hv => ?_, fun u => ⟨fun hv => ?_, fun ⟨v, b1, b2⟩ => ?_⟩, fun u v h1 h2 e => ?_, fun v h7 hv => ?_, fun w hw => ?_⟩
  · by_cases e : v = c
    · rw [e]; exact Or.inr Ob.rf
    · exact Or.inl (k0 v (by omega))
  · rcases (hor v).mp hv with h1 | h1
    · obtain ⟨b1, b2, b3, b4⟩ := k1 v h1
      rw [hold v h1, hold _ b3]
      exact ⟨b1, b2, (hor _).mpr (Or.inl b3), b4⟩
    · refine ⟨hObn hx hc h1, ?_, (hor _).mpr (Or.inr h1.s), ?_⟩
      · obtain ⟨j, rfl⟩ := h1
        rw [w1 j]
        exact it_lt hy.2.1 hg j
      · obtain ⟨j, rfl⟩ := h1
        rw [w1 j]
        exact w1 (j + 1)
  · rcases (hou u).mp hv with h1 | ⟨j, rfl⟩
    · obtain ⟨v, b1, b2⟩ := (k2 u).mp h1
      exact ⟨v, (hor v).mpr (Or.inl b1), (hold v b1).trans b2⟩
    · exact ⟨it (d8 x) j c, (hor _).mpr (Or.inr ⟨j, rfl⟩), w1 j⟩
  · rw [← b2]
    rcases (hor v).mp b1 with h1 | ⟨j, rfl⟩
    · rw [hold v h1]
      exact (hou _).mpr (Or.inl ((k2 _).mpr ⟨v, h1, rfl⟩))
    · rw [w1 j]
      exact (hou _).mpr (Or.inr ⟨j, rfl⟩)
  · rcases (hor u).mp h1 with p1 | ⟨i, rfl⟩
    · rcases (hor v).mp h2 with p2 | ⟨j, rfl⟩
      · rw [hold u p1, hold v p2] at e
        exact k3 u v p1 p2 e
      · rw [hold u p1, w1 j] at e
        exact absurd ⟨j, e.symm⟩ (hus _ ((k2 _).mpr ⟨u, p1, rfl⟩))
    · rcases (hor v).mp h2 with p2 | ⟨j, rfl⟩
      · rw [hold v p2, w1 i] at e
        exact absurd ⟨i, e⟩ (hus _ ((k2 _).mpr ⟨v, p2, rfl⟩))
      · rw [w1 i, w1 j] at e
        have hK := ln_Pd hx7 c7
        have hG := ln_Pd hy7 g7
        rw [hl] at hG
        rw [← it_mod hG.2.2.1 i, ← it_mod hG.2.2.1 j] at e
        have e2 := hG.inj hy7 g7 (Nat.mod_lt _ hK.1) (Nat.mod_lt _ hK.1) e
        rw [← it_mod hK.2.2.1 i, ← it_mod hK.2.2.1 j, e2]
  · have h1 : ¬ (kn.testBit v = true ∨ Ob (d8 x) c v) := fun q => by
      rw [(hor v).mpr q] at hv
      exact absurd hv (by decide)
    rw [w2 v h7 (fun q => h1 (Or.inr q))]
    refine k4 v h7 ?_
    cases q : kn.testBit v with
    | false => rfl
    | true => exact absurd (Or.inl q) h1
  · rcases k5 w hw with q | ⟨p, p1, p2, p3, p4⟩
    · have hwc : w c < n := hw.1.1 c hc
      have hit := it_RN (x := x) (y := y) (w := w) (S := fun v => v < n) (fun v hv => ⟨hx.2.1.1 v hv, hw.2 v hv⟩) hc
      have hlen : ln y (w c) = ln x c := by
        obtain ⟨hM, hd, hc7⟩ := RN_7 hn hx hy hw
        have hz7 := hM.P7 hn
        rw [← hd c hc]
        exact ln_RN (w := d8 (mkM n w)) (S := fun v => v < 7) hx7 hy7 (fun v hv => ⟨hx7.1 v hv, hc7 v hv⟩) (fun u v hu hv e => hz7.2 u v hu hv e) c7 c7 (hz7.1 c c7)
      have hfree : us.testBit (w c) = false := by
        cases b : us.testBit (w c) with
        | false => rfl
        | true =>
          obtain ⟨v, b1, b2⟩ := (k2 _).mp b
          have b3 := hw.1.2 v c (k1 v b1).1 hc ((q v b1).trans b2)
          rw [b3, hk] at b1
          exact absurd b1 (by decide)
      have hge : g ≤ w c := Nat.not_lt.mp fun e => hm _ e ⟨hfree, hlen⟩
      by_cases e : w c = g
      · refine Or.inl (fun v hv => ?_)
        rcases (hor v).mp hv with h1 | ⟨j, rfl⟩
        · rw [hold v h1]; exact q v h1
        · rw [w1 j, ← e]
          exact (hit j).2.symm
      · refine Or.inr ⟨c, hc, fun v hv => ?_, fun v hv => ?_, ?_⟩
        · by_cases e2 : v = c
          · rw [e2]; exact (hor c).mpr (Or.inr Ob.rf)
          · exact (hor v).mpr (Or.inl (k0 v (by omega)))
        · rw [hold v (k0 v hv)]
          exact q v (k0 v hv)
        · have := w1 0
          have this : d8 (wr x y z c g (ln x c)) c = g := this
          rw [this]
          omega
    · refine Or.inr ⟨p, p1, fun v hv => (hor v).mpr (Or.inl (p2 v hv)), fun v hv => ?_, ?_⟩
      · rw [hold v (p2 v (by omega))]
        exact p3 v hv
      · rw [hold p (p2 p (Nat.le_refl p))]
        exact p4
/-- all are done: the renamer with the least number -/
def LN (n x y z : Nat) : Prop := Mv n z ∧ RN n x y (d8 z) ∧ ∀ w : Nat → Nat, RN n x y w → nu n z ≤ nuF w 0 n n
theorem GS_n (hn : n ≤ 7) {c z kn us : Nat} (h : GS n x y c z kn us) (hc : n ≤ c) : LN n x y z := by
  obtain ⟨a1, _, _, k0, k1, _, k3, k4, k5⟩ := h
  have hk : ∀ v, v < n → kn.testBit v = true := fun v hv => k0 v (by omega)
  have hP : Pn n (d8 z) := ⟨fun v hv => (k1 v (hk v hv)).2.1, fun u v hu hv e => k3 u v (hk u hu) (hk v hv) e⟩
  refine ⟨⟨a1, hP, fun p h1 h2 => k4 p h2 ?_⟩, ⟨hP, fun p hp => (k1 p (hk p hp)).2.2.2⟩, fun w hw => ?_⟩
  · cases b : kn.testBit p with
    | false => rfl
    | true => have := (k1 p b).1; omega
  · rcases k5 w hw with q | ⟨p, p1, p2, p3, p4⟩
    · refine Nat.le_of_eq (nu_congr (fun p hp => (q p (hk p hp)).symm))
    · exact Nat.le_of_lt (nu_lex hP hw.1 p1 (fun j hj => (p3 j hj).symm) p4)
theorem LN_same (h1 : 1 ≤ n) (hn : n ≤ 7) {z z' : Nat} (h : LN n x y z) (h' : LN n x y z') : z = z' :=
  nu_same h1 hn h.1 h'.1 (Nat.le_antisymm (h.2.2 _ h'.2.1) (h'.2.2 _ h.2.1))
end GREEDY
end
section
/-! the house's own cells -/
def HX (n : Nat) (e r q : Int32) (cm : Nat → Nat) (w : List jC) : Prop := w[0]? = some (.inr (7, [.ref 1, .ref 2, .ref 8, .ref 12, .ref 14, .int (nI n), .int e, .int r, .int q])) ∧ w[1]? = some (aF 6 cm)
/-- all cells but the house's two are kept -/
def FH (w w' : List jC) : Prop := w.length ≤ w'.length ∧ ∀ i, 2 ≤ i → i < w.length → w'[i]? = w[i]?
theorem FH.rf {w : List jC} : FH w w := ⟨Nat.le_refl _, fun _ _ _ => rfl⟩
theorem FH.tr {w w' w'' : List jC} (h : FH w w') (h' : FH w' w'') : FH w w'' := ⟨Nat.le_trans h.1 h'.1, fun i hi hl => (h'.2 i hi (Nat.lt_of_lt_of_le hl h.1)).trans (h.2 i hi hl)⟩
theorem FH.st {w w' w'' : List jC} {a : Nat} (h : FH w w') (hl : w''.length = w'.length) (hne : ∀ c, c ≠ a → w''[c]? = w'[c]?) (ha : a < 2) : FH w w'' :=
  ⟨by rw [hl]; exact h.1, fun i hi hl2 => (hne i (by omega)).trans (h.2 i hi hl2)⟩
/-- all but those and the chain's -/
def FN (w w' : List jC) : Prop := w.length ≤ w'.length ∧ ∀ i, 8 ≤ i → i < w.length → w'[i]? = w[i]?
theorem FN.rf {w : List jC} : FN w w := ⟨Nat.le_refl _, fun _ _ _ => rfl⟩
theorem FN.trH {w w' w'' : List jC} (h : FN w w') (h' : FH w' w'') : FN w w'' := ⟨Nat.le_trans h.1 h'.1, fun i hi hl => (h'.2 i (by omega) (Nat.lt_of_lt_of_le hl h.1)).trans (h.2 i hi hl)⟩
theorem FN.trC {w w' w'' : List jC} (h : FN w w') (h' : FC w' w'') : FN w w'' := ⟨by rw [h'.1]; exact h.1, fun i hi hl => (h'.2 i (by omega)).trans (h.2 i hi hl)⟩
theorem FN.st {w w' w'' : List jC} {a : Nat} (h : FN w w') (hl : w''.length = w'.length) (hne : ∀ c, c ≠ a → w''[c]? = w'[c]?) (ha : a < 8) : FN w w'' :=
  ⟨by rw [hl]; exact h.1, fun i hi hl2 => (hne i (by omega)).trans (h.2 i hi hl2)⟩
/-- an argument that is one of the first naturals -/
def isN (x : Int32) (k : Nat) : Prop := ∃ b : Nat, b < k ∧ x = nI b
theorem ne_isN {x : Int32} {k : Nat} (h : ∀ b : Nat, b < k → x ≠ nI b) (g : isN x k) : False := by
  obtain ⟨b, h1, h2⟩ := g
  exact h b h1 h2
theorem isN_of {b k : Nat} (h : b < k) : isN (nI b) k := ⟨b, h, rfl⟩
theorem up_M {n : Nat} {cm : Nat → Nat} (hcm : ∀ c, c < 6 → Mv n (cm c)) {a b : Nat} (_ : a < 6) (hb : b < 6) : ∀ c, c < 6 → Mv n (up cm a (cm b) c) := fun c hc => by
  unfold up
  split
  · exact hcm b hb
  · exact hcm c hc
theorem c7_Mv {n x y : Nat} (hn : n ≤ 7) (hx : Mv n x) (hy : Mv n y) : Mv n (c7 x y) := by
  rw [c7_M hn hx hy]
  exact cM_Mv hn hx hy
theorem i7_Mv {n x : Nat} (hn : n ≤ 7) (hx : Mv n x) : Mv n (i7 x) := by
  rw [i7_M hn hx]
  exact iM_Mv hn hx
/-- a move put together place by place -/
def bW (f : Nat → Nat) : Nat → Nat
  | 0 => 1754760
  | k + 1 => w8 (bW f k) k (f k)
theorem bW_lt {f : Nat → Nat} (hf : ∀ p, p < 7 → f p < 8) : ∀ k, k ≤ 7 → bW f k < 2 ^ (3 * 7)
  | 0, _ => (by decide : 1754760 < 2 ^ (3 * 7))
  | k + 1, h => w8_lt (bW_lt hf k (by omega)) (by omega) (hf k (by omega))
theorem bW_d {f : Nat → Nat} (hf : ∀ p, p < 7 → f p < 8) : ∀ k, k ≤ 7 → ∀ q, q < 7 → d8 (bW f k) q = if q < k then f q else q
  | 0, _, q, hq => by
    rw [if_neg (Nat.not_lt_zero q)]
    exact e7_d q hq
  | k + 1, h, q, hq => by
    show d8 (w8 (bW f k) k (f k)) q = _
    rw [w8_d (by omega) (hf k (by omega)) (by omega), bW_d hf k (by omega) q hq]
    by_cases e : q = k
    · subst e
      rw [if_pos rfl, if_pos (by omega)]
    · rw [if_neg e]
      by_cases e2 : q < k
      · rw [if_pos e2, if_pos (by omega)]
      · rw [if_neg e2, if_neg (by omega)]
theorem bW_M {n : Nat} {f : Nat → Nat} (hn : n ≤ 7) (hf : Pn n f) (g : Nat → Nat) (hg : ∀ p, p < n → g p = f p) (h8 : ∀ p, p < 7 → g p < 8) : bW g n = mkM n f := by
  refine d8_ext 7 _ _ (bW_lt h8 n hn) (mkM_Mv hn hf).1 (fun p hp => ?_)
  rw [bW_d h8 n hn p hp]
  by_cases e : p < n
  · rw [if_pos e, mkM_d hn hf.1 e, hg p e]
  · rw [if_neg e, (mkM_Mv hn hf).2.2 p (by omega) hp]
end
section
/-! the reference's acts, told exactly -/
/-- one cell gets a move -/
def ACT (n : Nat) (mv : Nat → Nat) (a : Nat) (f mv' : Nat → Nat) : Prop := (∀ p, p < n → mv' (a * 7 + p) = f p) ∧ ∀ k p, k < 6 → k ≠ a → p < n → mv' (k * 7 + p) = mv (k * 7 + p)
theorem ACT_of {n a : Nat} {mv mv' its f : Nat → Nat} (hn : n ≤ 7) (h : mv' = stM mv a n its) (hf : ∀ p, p < n → its p = f p) : ACT n mv a f mv' := by
  subst h
  exact ⟨fun p hp => (stM_at hp).trans (hf p hp), fun k p _ hne hp => stM_ne hn (by omega) hne⟩
theorem stM_congr {mv f g : Nat → Nat} {a n : Nat} (h : ∀ p, p < n → f p = g p) : stM mv a n f = stM mv a n g := by
  funext i
  unfold stM
  by_cases e : a * 7 ≤ i ∧ i < a * 7 + n
  · rw [if_pos e, if_pos e, h _ (by omega)]
  · rw [if_neg e, if_neg e]
/-- two points brought to each other -/
def sw2 (b c v : Nat) : Nat := if v = c then b else if v = b then c else v
theorem sw2_is {n b c v : Nat} {r : Nat → Nat} (h : ∀ p, p < n → r p = p) (hv : v < n) : up (up r b c) c b v = sw2 b c v := by
  unfold sw2
  by_cases e : v = c
  · rw [e, up_s, if_pos rfl]
  · rw [up_n e, if_neg e]
    by_cases e2 : v = b
    · rw [e2, up_s, if_pos rfl]
    · rw [up_n e2, if_neg e2, h v hv]
def sw3 (b c f v : Nat) : Nat := if v = f then b else if v = c then f else if v = b then c else v
theorem sw3_is {n b c f v : Nat} {r : Nat → Nat} (h : ∀ p, p < n → r p = p) (hv : v < n) : up (up (up r b c) c f) f b v = sw3 b c f v := by
  unfold sw3
  by_cases e : v = f
  · rw [e, up_s, if_pos rfl]
  · rw [up_n e, if_neg e]
    by_cases e1 : v = c
    · rw [e1, up_s, if_pos rfl]
    · rw [up_n e1, if_neg e1]
      by_cases e2 : v = b
      · rw [e2, up_s, if_pos rfl]
      · rw [up_n e2, if_neg e2, h v hv]
/-- by how much a turn brings on -/
def tT (n : Nat) (c : Int32) : Nat := (c.toInt + 100 * n).toNat
def tP (c : Int32) : Nat := (c.toInt + 1260).toNat
theorem k100 {c : Int32} (h1 : (-100) ≤ c) (h2 : c ≤ nI 100) : ∃ k : Nat, k ≤ 200 ∧ c = nI k - nI 100 := int_of (c := c) (b := 100) (by decide) (by have := Int32.le_iff_toInt_le.mp h1; have e : (-100 : Int32).toInt = -100 := (by decide); omega) (by have := Int32.le_iff_toInt_le.mp h2; rw [nI_toInt (by decide)] at this; omega)
/-! cells of both sides -/
/-- the house's moves are the reference's -/
def RLx (n : Nat) (cm mv : Nat → Nat) : Prop := ∀ c, c < 6 → cm c = mkM n (fun p => mv (c * 7 + p))
theorem mkM_congr {n : Nat} {f g : Nat → Nat} (h : ∀ p, p < n → f p = g p) : mkM n f = mkM n g := by
  unfold mkM
  refine mk8_congr 7 (fun p _ => ?_)
  show (if p < n then f p % 8 else p % 8) = (if p < n then g p % 8 else p % 8)
  by_cases e : p < n
  · rw [if_pos e, if_pos e, h p e]
  · rw [if_neg e, if_neg e]
theorem RLx_act {n a : Nat} {cm mv mv' f : Nat → Nat} {x : Nat} (h : RLx n cm mv) (hA : ACT n mv a f mv') (hx : x = mkM n f) : RLx n (up cm a x) mv' := fun c hc => by
  by_cases e : c = a
  · rw [e, up_s, hx]
    exact mkM_congr (fun p hp => (hA.1 p hp).symm)
  · rw [up_n e, h c hc]
    exact mkM_congr (fun p hp => (hA.2 c p hc e hp).symm)
theorem RLx_M {n : Nat} {cm mv : Nat → Nat} (hn : n ≤ 7) (h : RLx n cm mv) (hP : PM n mv) : ∀ c, c < 6 → Mv n (cm c) := fun c hc => by
  rw [h c hc]
  exact mkM_Mv hn (hP c hc)
theorem RLx_d {n : Nat} {cm mv : Nat → Nat} (hn : n ≤ 7) (h : RLx n cm mv) (hP : PM n mv) {c p : Nat} (hc : c < 6) (hp : p < n) : d8 (cm c) p = mv (c * 7 + p) := by
  rw [h c hc]
  exact mkM_d hn (hP c hc).1 hp
/-- done behind, in both forms -/
theorem c7_mkM {n : Nat} {f g : Nat → Nat} (hn : n ≤ 7) (hf : Pn n f) (hg : Pn n g) : c7 (mkM n f) (mkM n g) = mkM n (fun p => g (f p)) := by
  rw [c7_M hn (mkM_Mv hn hf) (mkM_Mv hn hg)]
  unfold cM
  exact mkM_congr (fun p hp => by rw [mkM_d hn hf.1 hp, mkM_d hn hg.1 (hf.1 p hp)])
theorem i7_mkM {n : Nat} {f g : Nat → Nat} (hn : n ≤ 7) (hf : Pn n f) (h : ∀ p, p < n → g (f p) = p) : i7 (mkM n f) = mkM n g := by
  have hg : Pn n g := Pn_inv hf (Pn_id n) h
  have hM := mkM_Mv hn hf
  rw [i7_M hn hM]
  refine (iM_Mv hn hM).ext (mkM_Mv hn hg) (fun v hv => ?_)
  obtain ⟨p, hp, e⟩ := inj_surj n f hf v hv
  rw [mkM_d hn hg.1 hv, ← e, h p hp]
  exact iM_at hn hM hp (mkM_d hn hf.1 hp)
end
section
/-! what the house's acts want -/
theorem nI_nn {x : Int32} (h : 0 ≤ x) : ∃ k : Nat, k < 2 ^ 31 ∧ x = nI k := by
  have h1 := Int32.le_iff_toInt_le.mp h
  have h0 : (0 : Int32).toInt = 0 := by decide
  have h2 := x.toInt_lt
  refine ⟨x.toInt.toNat, by omega, ?_⟩
  apply Int32.toInt_inj.mp
  rw [nI_toInt (by omega)]
  omega
theorem lay_no {x : Int32} {k : Nat} (hk : 1 ≤ k) (hk2 : k ≤ 5040) (h : ¬ (nI 0 ≤ x ∧ x ≤ nI (k - 1))) : ¬ isN x k := fun g => by
  obtain ⟨b, h1, e⟩ := g
  rw [e] at h
  exact h ⟨nI_le (by omega) (by omega), nI_le (by omega) (by omega)⟩
/-- the remainder that is never below nought -/
def fmI (x y : Int32) : Int32 := if (x ^^^ y) < 0 then (if (x - x / y * y) = 0 then x - x / y * y else x - x / y * y + y) else x - x / y * y
theorem fm_m : ∀ n, n < 8 → 2 ≤ n → ∀ m, m < 208 → fmI (nI m - nI 100) (nI n) = nI ((m + 100 * n - 100) % n) := by decide +kernel
theorem fm_d : ∀ n, n < 8 → 2 ≤ n → ∀ p, p < 7 → ∀ k, k < 201 → fmI (nI p + (nI k - nI 100)) (nI n) = nI ((p + (k + 100 * n - 100)) % n) := fun n hn hn2 p hp k hk => by
  rw [sh_p, fm_m n hn hn2 (p + k) (by omega), show p + k + 100 * n - 100 = p + (k + 100 * n - 100) by omega]
theorem tT_k {n k : Nat} (hn : 2 ≤ n) (hk : k ≤ 200) : tT n (nI k - nI 100) = k + 100 * n - 100 := by
  unfold tT
  rw [pk_sub_toInt (a := k) (b := 100) (by omega) (by omega)]
  omega
theorem turn_f {n p : Nat} (hn1 : 2 ≤ n) (hn2 : n ≤ 7) (hp : p < n) {c : Int32} (h1 : (-100) ≤ c) (h2 : c ≤ nI 100) : fmI (nI p + c) (nI n) = nI ((p + tT n c) % n) := by
  obtain ⟨k, hk, rfl⟩ := k100 h1 h2
  rw [tT_k hn1 hk]
  exact fm_d n (by omega) hn1 p (by omega) k (by omega)
theorem turn_r {n p : Nat} (hn1 : 2 ≤ n) (hn2 : n ≤ 7) (hp : p < n) {c : Int32} (h1 : (-100) ≤ c) (h2 : c ≤ nI 100) :
    (((nI p + c) - (nI p + c) / nI n * nI n) + nI n) - (((nI p + c) - (nI p + c) / nI n * nI n) + nI n) / nI n * nI n = nI ((p + tT n c) % n) := by
  obtain ⟨k, hk, rfl⟩ := k100 h1 h2
  rw [tT_k hn1 hk]
  exact turn_d n (by omega) hn1 p (by omega) k (by omega)
theorem k1000 {c : Int32} (h1 : (-1000) ≤ c) (h2 : c ≤ nI 1000) : ∃ k : Nat, k ≤ 2000 ∧ c = nI k - nI 1000 := int_of (c := c) (b := 1000) (by decide) (by have := Int32.le_iff_toInt_le.mp h1; have e : (-1000 : Int32).toInt = -1000 := (by decide); omega) (by have := Int32.le_iff_toInt_le.mp h2; rw [nI_toInt (by decide)] at this; omega)
theorem tP_k {k : Nat} (hk : k ≤ 2000) : tP (nI k - nI 1000) = k + 260 := by
  unfold tP
  rw [pk_sub_toInt (a := k) (b := 1000) (by omega) (by omega)]
  omega
theorem pow_r {c : Int32} (h1 : (-1000) ≤ c) (h2 : c ≤ nI 1000) {K : Nat} (hK1 : 1 ≤ K) (hK2 : K ≤ 7) : ((c - c / nI K * nI K) + nI K) - ((c - c / nI K * nI K) + nI K) / nI K * nI K = nI (tP c % K) := by
  obtain ⟨k, hk, rfl⟩ := k1000 h1 h2
  rw [tP_k hk]
  have := pow_d K (by omega) hK1 (k / 50) (by omega) (k % 50) (by omega)
  rw [show 50 * (k / 50) + k % 50 = k by omega] at this
  exact this
section NTH
variable {n ro : Nat} {st sv rc sz kw : Nat → Nat} {ns : Nat} {G : Nat → Prop}
theorem nth_cd (h1 : 1 ≤ n) (hn : n ≤ 7) (h : CI n ro st sv rc kw ns) (hG : ∀ x, CP n (RC rc) (ST st) n x ↔ G x) (hs : sz 0 = zF rc n n) : sz 0 = cd n G := by
  rw [hs, ← zF_is h1 hn h.2.1 h.2.2.1 n (Nat.le_refl n)]
  exact cd_iff h1 hn (fun x _ => hG x)
theorem GK_iff (h1 : 1 ≤ n) (hn : n ≤ 7) {T T' : Nat → Prop} {rd : Nat → Nat} {rank y : Nat} (hT : ∀ x, Mv n x → (T x ↔ T' x)) (h : GK n T rd rank y) : GK n T' rd rank y := by
  obtain ⟨lf, a0, a⟩ := h
  have hW : ∀ l p, WT n T rd y l p = WT n T' rd y l p := fun l p => cd_iff h1 hn (fun x hx => and_congr_left (fun _ => hT x hx))
  refine ⟨lf, a0, fun l hl => ?_⟩
  obtain ⟨b1, b2⟩ := a l hl
  rw [hW] at b2
  rw [sm_congr (g := WT n T' rd y l) _ (fun i _ => hW l i)] at b1
  exact ⟨b1, b2⟩
theorem nth_GK (h1 : 1 ≤ n) (hn : n ≤ 7) (hG : ∀ x, CP n (RC rc) (ST st) n x ↔ G x) {rank y : Nat} (h : GK n (TL n rc st 1754760) (d8 ro) rank y) : GK n G (d8 ro) rank y := by
  refine GK_iff h1 hn (fun x hx => ?_) h
  unfold TL
  have e : iM n 1754760 = eM n := by
    rw [e7_M hn]
    have h := c_iM hn (eM_Mv hn)
    rw [eM_c hn (iM_Mv hn (eM_Mv hn))] at h
    exact h
  rw [e, cM_e hn hx]
  exact hG x
end NTH
end
section
/-! what the contracts of rings want; powers of either sign; the search for a renamer -/
theorem rgL_7 {x r a c : Nat} (h : 7 ≤ c) : r = rgL x (7 - c) r a := by
  rw [show 7 - c = 0 by omega]
  rfl
theorem rgL_t {x r a k : Nat} (h : r.testBit a = true) : r = rgL x k r a := by
  cases k with
  | zero => rfl
  | succ k =>
    show r = if r.testBit a = true then r else rgL x k (r ||| 2 ^ a) (d8 x a)
    rw [if_pos h]
theorem rgL_s {x r a c : Nat} (hc : c < 7) (h : r.testBit a = false) : rgL x (7 - c) r a = rgL x (7 - (c + 1)) (r ||| 2 ^ a) (d8 x a) := by
  obtain ⟨j, hj⟩ : ∃ j, 7 - c = j + 1 := ⟨7 - c - 1, by omega⟩
  rw [hj, show 7 - (c + 1) = j by omega]
  show (if r.testBit a = true then r else rgL x j (r ||| 2 ^ a) (d8 x a)) = _
  rw [if_neg (by rw [h]; decide)]
theorem rg31 {x p : Nat} (hP : Pn 7 (d8 x)) (hp : p < 7) : rg x p < 2 ^ 31 := Nat.lt_trans (rg_spec hP hp).1 (by decide)
theorem ln_le (x p : Nat) : ln x p ≤ 32 := cnt_le _ 32
theorem rl_le (x L m : Nat) : rl x L m ≤ m := cnt_le _ m
theorem rl_s1 {x L p : Nat} (h1 : cnt (fun i => (rg x p).testBit i) p = 0) (h2 : ln x p = L) : rl x L p + 1 = rl x L (p + 1) := by
  show _ = rl x L p + (if (ld x p && (ln x p == L)) = true then 1 else 0)
  rw [if_pos]
  unfold ld
  rw [h1, h2, Bool.and_eq_true]
  exact ⟨rfl, beq_self_eq_true L⟩
theorem rl_s0a {x L p : Nat} (h1 : ¬ cnt (fun i => (rg x p).testBit i) p = 0) : rl x L p = rl x L (p + 1) := by
  show _ = rl x L p + (if (ld x p && (ln x p == L)) = true then 1 else 0)
  rw [if_neg (fun h => by
    rw [Bool.and_eq_true] at h
    exact h1 (eq_of_beq h.1)), Nat.add_zero]
theorem rl_s0b {x L p : Nat} (h1 : ¬ ln x p = L) : rl x L p = rl x L (p + 1) := by
  show _ = rl x L p + (if (ld x p && (ln x p == L)) = true then 1 else 0)
  rw [if_neg (fun h => by
    rw [Bool.and_eq_true] at h
    exact h1 (eq_of_beq h.2)), Nat.add_zero]
def LK (x y : Nat) : Prop := ∀ L, 1 ≤ L → L ≤ 7 → rl x L 7 = rl y L 7
theorem LK_no {n x y : Nat} (hn : n ≤ 7) (hx : Mv n x) (hy : Mv n y) (h : ¬ LK x y) (w : Nat → Nat) : ¬ RN n x y w := fun hw => h (fun _ h1 _ => RN_like hn hx hy hw h1)
/-! powers of either sign -/
def absI (a : Int32) : Int32 := if 0 ≤ a then a else -a
theorem abs_nI {c : Int32} (h1 : (-1000) ≤ c) (h2 : c ≤ nI 1000) : absI c = nI c.toInt.natAbs := by
  obtain ⟨k, hk, rfl⟩ := k1000 h1 h2
  unfold absI
  have e : (nI k - nI 1000).toInt = (k : Int) - 1000 := pk_sub_toInt (a := k) (b := 1000) (by omega) (by omega)
  by_cases h : 0 ≤ nI k - nI 1000
  · rw [if_pos h]
    have h := Int32.le_iff_toInt_le.mp h
    rw [e, Int32.toInt_zero] at h
    rw [e, show ((k : Int) - 1000).natAbs = k - 1000 by omega]
    apply Int32.toInt_inj.mp
    rw [e, nI_toInt (by omega)]
    omega
  · rw [if_neg h]
    have h : ¬ (0 : Int32).toInt ≤ (nI k - nI 1000).toInt := fun q => h (Int32.le_iff_toInt_le.mpr q)
    rw [e, Int32.toInt_zero] at h
    rw [e, show ((k : Int) - 1000).natAbs = 1000 - k by omega]
    have e2 : -(nI k - nI 1000) = nI 1000 - nI k := by rw [Int32.neg_sub]
    rw [e2, pk_sub (by omega)]
theorem abs_1000 {c : Int32} (h1 : (-1000) ≤ c) (h2 : c ≤ nI 1000) : c.toInt.natAbs ≤ 1000 := by
  obtain ⟨k, hk, rfl⟩ := k1000 h1 h2
  rw [pk_sub_toInt (a := k) (b := 1000) (by omega) (by omega)]
  omega
def pwM (c : Int32) (x : Nat) : Nat := if 0 ≤ c then it7 x c.toInt.natAbs else it7 (i7 x) c.toInt.natAbs
theorem pw_pos {c : Int32} {x : Nat} (h : 0 ≤ c) : it7 x c.toInt.natAbs = pwM c x := (if_pos h).symm
theorem pw_neg {c : Int32} {x : Nat} (h : ¬ 0 ≤ c) : it7 (i7 x) c.toInt.natAbs = pwM c x := (if_neg h).symm
theorem pwM_Mv {n x : Nat} (hn : n ≤ 7) (hx : Mv n x) (c : Int32) : Mv n (pwM c x) := by
  unfold pwM
  split
  · exact (it7_M hn hx _).1
  · exact (it7_M hn (i7_Mv hn hx) _).1
theorem it_4m {n : Nat} {f : Nat → Nat} (hn : n ≤ 7) (h : Pn n f) {p : Nat} (hp : p < n) (m : Nat) : it f (420 * m) p = p := by
  obtain ⟨K, k1, k2, k3, _⟩ := it_ret h hp
  obtain ⟨j, hj⟩ := dvd420 K (by omega) k1
  rw [hj, Nat.mul_assoc]
  exact it_mul k3 (j * m)
theorem it_inv {n : Nat} {f g : Nat → Nat} (hg : Pn n g) (hi : ∀ q, q < n → f (g q) = q) {p : Nat} (hp : p < n) : ∀ t, it f t (it g t p) = p := by
  intro t
  induction t with
  | zero => rfl
  | succ t ih =>
    have h3 := it_lt hg hp t
    rw [it_add f _ 1 t]
    show it f t (f (g (it g t p))) = p
    rw [hi _ h3]
    exact ih
/-- what the reference makes of it -/
theorem pwM_d {n x : Nat} (hn : n ≤ 7) (hx : Mv n x) {c : Int32} (h1 : (-1000) ≤ c) (h2 : c ≤ nI 1000) {p : Nat} (hp : p < n) : d8 (pwM c x) p = it (d8 x) (tP c) p := by
  obtain ⟨k, hk, hc⟩ := k1000 h1 h2
  have ht : tP c = k + 260 := by rw [hc, tP_k hk]
  rw [ht]
  have e : c.toInt = (k : Int) - 1000 := by rw [hc]; exact pk_sub_toInt (a := k) (b := 1000) (by omega) (by omega)
  clear hc ht
  have hP := hx.2.1
  obtain ⟨m3, hm3⟩ : ∃ m : Nat, m = 3 := ⟨3, rfl⟩
  unfold pwM
  by_cases h : 0 ≤ c
  · rw [if_pos h]
    have h := Int32.le_iff_toInt_le.mp h
    rw [e, Int32.toInt_zero] at h
    rw [e, show ((k : Int) - 1000).natAbs = k - 1000 by omega, (it7_M hn hx _).2 p hp, show k + 260 = (k - 1000) + 420 * m3 by omega, it_add, it_4m hn hP hp]
  · rw [if_neg h]
    have h : ¬ (0 : Int32).toInt ≤ c.toInt := fun q => h (Int32.le_iff_toInt_le.mpr q)
    rw [e, Int32.toInt_zero] at h
    rw [e, show ((k : Int) - 1000).natAbs = 1000 - k by omega, (it7_M hn (i7_Mv hn hx) _).2 p hp]
    have hi : ∀ q, q < n → d8 x (d8 (i7 x) q) = q := fun q hq => by
      rw [i7_M hn hx, ← cM_d hn (iM_Mv hn hx) hx hq, iM_c hn hx, eM_d hn hq]
    have hb := it_inv (i7_Mv hn hx).2.1 hi hp
    refine it_inj hP (it_lt (i7_Mv hn hx).2.1 hp _) (it_lt hP hp _) (1000 - k) ?_
    rw [hb, ← it_add, show 1000 - k + (k + 260) = 420 * m3 by omega, it_4m hn hP hp]
/-! the reference's search -/
def RNr (n : Nat) (mv : Nat → Nat) (A B : Nat) (f : Nat → Nat) : Prop := ∀ p, p < n → f (mv (A * 7 + p)) = mv (B * 7 + f p)
def RQ (n : Nat) (mv rw : Nat → Nat) (A B c y : Nat) : Prop := (y = 1 ∧ ∀ p, p < c → rw (mv (A * 7 + p)) = mv (B * 7 + rw p)) ∨ (y = 0 ∧ ∃ p, p < n ∧ ¬ rw (mv (A * 7 + p)) = mv (B * 7 + rw p))
section SEARCH
variable {n : Nat} {mv rw : Nat → Nat} {A B c y k : Nat}
theorem RQ_0 : RQ n mv rw A B 0 1 := Or.inl ⟨rfl, fun p hp => absurd hp (Nat.not_lt_zero p)⟩
theorem RQ_1 (h : RQ n mv rw A B c y) (h0 : ¬ y = 0) (e : rw (mv (A * 7 + c)) = mv (B * 7 + rw c)) : RQ n mv rw A B (c + 1) 1 := by
  rcases h with ⟨_, h⟩ | ⟨h, _⟩
  · refine Or.inl ⟨rfl, fun p hp => ?_⟩
    by_cases q : p = c
    · rw [q]; exact e
    · exact h p (by omega)
  · exact absurd h h0
theorem RQ_2 (hc : c < n) (e : ¬ rw (mv (A * 7 + c)) = mv (B * 7 + rw c)) : RQ n mv rw A B (c + 1) 0 := Or.inr ⟨rfl, c, hc, e⟩
theorem RQ_end (hP : PM n mv) (hA : A < 6) (hrow : ∀ p, p < n → rw p = rwF n k p) (h : RQ n mv rw A B c y) (h0 : ¬ y = 0) (hc : n ≤ c) : RNr n mv A B (rwF n k) := by
  rcases h with ⟨_, h⟩ | ⟨h, _⟩
  · intro p hp
    have h1 := (hP A hA).1 p hp
    rw [← hrow p hp, ← hrow _ h1]
    exact h p (by omega)
  · exact absurd h h0
theorem RQ_no (hP : PM n mv) (hA : A < 6) (hrow : ∀ p, p < n → rw p = rwF n k p) (h : RQ n mv rw A B c y) (h0 : y = 0) : ¬ RNr n mv A B (rwF n k) := fun hq => by
  rcases h with ⟨h, _⟩ | ⟨_, p, hp, h⟩
  · omega
  · have h1 := (hP A hA).1 p hp
    rw [hrow p hp, hrow _ h1] at h
    exact h (hq p hp)
theorem RQ_nx {P : Nat → Prop} (h : ∀ j, j < c → ¬ P j) (h1 : ¬ P c) : ∀ j, j < c + 1 → ¬ P j := fun j hj => by
  by_cases q : j = c
  · rw [q]; exact h1
  · exact h j (by omega)
end SEARCH
end
section
/-! the reference's group by its numbers -/
def mW (n : Nat) (mv : Nat → Nat) (c : Nat) : Nat := mkM n (fun p => mv (c * 7 + p))
/-- what comes of a number by one more move -/
def goN (n : Nat) (mv : Nat → Nat) (s num c k : Nat) : Prop := ∃ j, j < c ∧ s.testBit j = true ∧ k = nu n (cM n (XM n num) (mW n mv j))
/-- the bits are the group of the set -/
def BX (n : Nat) (mv : Nat → Nat) (s : Nat) (bt : List Int32) : Prop := ∀ k, bitL bt k = true ↔ (k < fc n ∧ Gg n (gS (mW n mv) s 6) (XM n k))
def KX (n : Nat) (mv : Nat → Nat) (kn : Int32) (bt : List Int32) : Prop := kn = (-1) ∨ ∃ t, t < 64 ∧ kn = nI t ∧ BX n mv t bt
section REFG
variable {n : Nat} {mv : Nat → Nat}
theorem mW_Mv (hn : n ≤ 7) (hP : PM n mv) {c : Nat} (hc : c < 6) : Mv n (mW n mv c) := mkM_Mv hn (hP c hc)
theorem mW_d (hn : n ≤ 7) (hP : PM n mv) {c p : Nat} (hc : c < 6) (hp : p < n) : d8 (mW n mv c) p = mv (c * 7 + p) := mkM_d hn (hP c hc).1 hp
theorem gW_M (hn : n ≤ 7) (hP : PM n mv) (s : Nat) : ∀ y, gS (mW n mv) s 6 y → Mv n y := gS_M (Nat.le_refl 6) (fun _ hc => mW_Mv hn hP hc)
theorem goN_nu (h1 : 2 ≤ n) (hn : n ≤ 7) (hP : PM n mv) {c num : Nat} {nx : Nat → Nat} (hc : c < 6) (h : ∀ p, p < n → nx p = mv (c * 7 + rwF n num p)) : nuF nx 0 n n = nu n (cM n (XM n num) (mW n mv c)) :=
  nu_congr (fun p hp => by
    have hX := XM_Mv (n := n) (by omega) hn num
    rw [h p hp, cM_d hn hX (mW_Mv hn hP hc) hp, XM_d (by omega) hn hp, mW_d hn hP hc]
    have := hX.2.1.1 p hp
    rw [XM_d (by omega) hn hp] at this
    exact this)
theorem goN_0 {s num : Nat} {bt : List Int32} : ∀ k, bitL bt k = true ↔ (bitL bt k = true ∨ goN n mv s num 0 k) := fun k =>
  ⟨Or.inl, fun h => h.elim id (fun ⟨j, hj, _⟩ => absurd hj (Nat.not_lt_zero j))⟩
theorem goN_n {s num c : Nat} {bt bt1 : List Int32} (h : ∀ k, bitL bt1 k = true ↔ (bitL bt k = true ∨ goN n mv s num c k)) (hb : s / 2 ^ c % 2 ^ 1 = 0) : ∀ k, bitL bt1 k = true ↔ (bitL bt k = true ∨ goN n mv s num (c + 1) k) := fun k => by
  have hs : s.testBit c = false := tb_0 (by omega)
  rw [h k]
  refine or_congr_right ⟨fun ⟨j, h1, h2, h3⟩ => ⟨j, by omega, h2, h3⟩, fun ⟨j, h1, h2, h3⟩ => ⟨j, ?_, h2, h3⟩⟩
  by_cases e : j = c
  · rw [e, hs] at h2
    exact absurd h2 (by decide)
  · omega
theorem goN_s {s num c m : Nat} {bt bt1 : List Int32} (h : ∀ k, bitL bt1 k = true ↔ (bitL bt k = true ∨ goN n mv s num c k)) (hb : ¬ s / 2 ^ c % 2 ^ 1 = 0) (hl : bt1.length = 158) (hm : m < 5056) (e : m = nu n (cM n (XM n num) (mW n mv c))) :
    ∀ k, bitL (bt1.set (nI (m / 2 ^ 5)).toNatClampNeg (bt1.getD (nI (m / 2 ^ 5)).toNatClampNeg 0 ||| nI 1 <<< (nI (m % 2 ^ 5) &&& 31))) k = true ↔ (bitL bt k = true ∨ goN n mv s num (c + 1) k) := fun k => by
  have hs : s.testBit c = true := tb_1 (by have := Nat.mod_lt (s / 2 ^ c) (show 0 < 2 ^ 1 by decide); omega)
  rw [bitL_or' hm hl k, Bool.or_eq_true, h k, decide_eq_true_eq]
  constructor
  · rintro ((h1 | ⟨j, h1, h2, h3⟩) | h1)
    · exact Or.inl h1
    · exact Or.inr ⟨j, by omega, h2, h3⟩
    · exact Or.inr ⟨c, by omega, hs, h1.trans e⟩
  · rintro (h1 | ⟨j, h1, h2, h3⟩)
    · exact Or.inl (Or.inl h1)
    · by_cases q : j = c
      · rw [q] at h3
        exact Or.inr (h3.trans e.symm)
      · exact Or.inl (Or.inr ⟨j, by omega, h2, h3⟩)
/-! the closure -/
theorem XM_0 (h1 : 2 ≤ n) (hn : n ≤ 7) : XM n 0 = eM n := by
  have e : nu n (eM n) = 0 := by
    have hz : ∀ p, p ≤ n → nuF (d8 (eM n)) 0 n p = 0 := by
      intro p
      induction p with
      | zero => intro _; rfl
      | succ p ih =>
        intro hp
        show nuF (d8 (eM n)) 0 n p * (n - p) + les (d8 (eM n)) 0 p n = 0
        rw [ih (by omega), Nat.zero_mul, Nat.zero_add]
        have hl : ∀ q, q ≤ n → les (d8 (eM n)) 0 p q = 0 := by
          intro q
          induction q with
          | zero => intro _; rfl
          | succ q iq =>
            intro hq
            show les (d8 (eM n)) 0 p q + (if p < q ∧ d8 (eM n) (0 + q) < d8 (eM n) (0 + p) then 1 else 0) = 0
            rw [iq (by omega), Nat.zero_add, Nat.zero_add, Nat.zero_add, eM_d hn (show q < n by omega), eM_d hn (show p < n by omega), if_neg (by omega)]
        exact hl n (Nat.le_refl n)
    exact hz n (Nat.le_refl n)
  have h := XM_nu (n := n) (by omega) hn (eM_Mv hn)
  rw [e] at h
  exact h
theorem CX_0 (h1 : 2 ≤ n) (hn : n ≤ 7) {gn : Nat → Prop} : ∀ k, bitL ((List.replicate 158 0).set (nI 0).toNatClampNeg (nI 1)) k = true → k < fc n ∧ Gg n gn (XM n k) := fun k hk => by
  rw [c0, bitL_1 (by decide)] at hk
  have e := of_decide_eq_true hk
  subst e
  rw [XM_0 h1 hn]
  exact ⟨fc_pos n, Gg_e⟩
theorem CX_g0 {P : Nat → Prop} : ∀ k, bitL (List.replicate 158 0) k = true → P k := fun k hk => by
  rw [bitL_0] at hk
  exact absurd hk (by decide)
theorem CX_w {w : Nat} {g h : List Int32} {x : Nat} (H : x = 0 → ∀ k, k < 32 * w → bitL g k = true → bitL h k = true) (hz : (g.getD (nI w).toNatClampNeg 0 &&& (h.getD (nI w).toNatClampNeg 0 ^^^ (-1))) = 0) (hw : w < 158 := by omega) : x = 0 → ∀ k, k < 32 * (w + 1) → bitL g k = true → bitL h k = true := fun hx k hk hb => by
  by_cases e : k < 32 * w
  · exact H hx k e hb
  · obtain ⟨r, rfl⟩ : ∃ r, k = 32 * w + r := ⟨k - 32 * w, by omega⟩
    have hr : r < 32 := by omega
    rw [bitL_at hr] at hb ⊢
    rw [nI_clamp (by omega)] at hz
    have e1 : (g.getD w 0 &&& (h.getD w 0 ^^^ (-1))).toBitVec = (g.getD w 0).toBitVec &&& ~~~ (h.getD w 0).toBitVec := by
      show (g.getD w 0).toBitVec &&& ((h.getD w 0).toBitVec ^^^ (-1#32)) = _
      rw [show (-1#32) = BitVec.allOnes 32 by decide, BitVec.xor_allOnes]
    have e2 := congrArg (fun z => z.toBitVec.getLsbD r) hz
    have e2 : (g.getD w 0 &&& (h.getD w 0 ^^^ (-1))).toBitVec.getLsbD r = (0 : Int32).toBitVec.getLsbD r := e2
    rw [e1, BitVec.getLsbD_and, BitVec.getLsbD_not, hb] at e2
    have e3 : (0 : Int32).toBitVec.getLsbD r = false := by
      show (0#32).getLsbD r = false
      simp
    rw [e3] at e2
    simp only [hr, decide_true, Bool.true_and, Bool.not_eq_false'] at e2
    exact e2
theorem CX_sd (h1 : 2 ≤ n) (hn : n ≤ 7) (hP : PM n mv) {s num : Nat} {bt bt' : List Int32} (h : ∀ k, bitL bt k = true → k < fc n ∧ Gg n (gS (mW n mv) s 6) (XM n k)) (hg : ∀ k, bitL bt' k = true ↔ (bitL bt k = true ∨ goN n mv s num 6 k)) (hk : bitL bt num = true) : ∀ k, bitL bt' k = true → k < fc n ∧ Gg n (gS (mW n mv) s 6) (XM n k) := fun k hb => by
  rcases (hg k).mp hb with hb | ⟨j, j1, j2, j3⟩
  · exact h k hb
  · have hX := XM_Mv (n := n) (by omega) hn num
    have hM := cM_Mv hn hX (mW_Mv hn hP j1)
    rw [j3]
    refine ⟨nu_b _ _, ?_⟩
    rw [XM_nu (by omega) hn hM]
    exact Gg_s hX (h num hk).2 ⟨j, j1, j2, rfl⟩
theorem CX_go {s c r : Nat} {bt bt' g : List Int32} (h : ∀ k, bitL g k = true → bitL bt k = true ∧ ∀ j, j < 6 → s.testBit j = true → bitL bt (nu n (cM n (XM n k) (mW n mv j))) = true) (hg : ∀ k, bitL bt' k = true ↔ (bitL bt k = true ∨ goN n mv s (32 * c + r) 6 k)) (hk : bitL bt (32 * c + r) = true) (hc : c < 158) (hl : g.length = 158) (hr : r < 32 := by omega) :
    ∀ k, bitL (g.set (nI c).toNatClampNeg (g.getD (nI c).toNatClampNeg 0 ||| nI 1 <<< (nI r &&& 31))) k = true → bitL bt' k = true ∧ ∀ j, j < 6 → s.testBit j = true → bitL bt' (nu n (cM n (XM n k) (mW n mv j))) = true := fun k hb => by
  rw [nI_clamp (by omega), bitL_or (by omega) hr, Bool.or_eq_true, decide_eq_true_eq] at hb
  rcases hb with hb | hb
  · obtain ⟨a, b⟩ := h k hb
    exact ⟨(hg k).mpr (Or.inl a), fun j h1 h2 => (hg _).mpr (Or.inl (b j h1 h2))⟩
  · rw [hb]
    exact ⟨(hg _).mpr (Or.inl hk), fun j h1 h2 => (hg _).mpr (Or.inr ⟨j, h1, h2, rfl⟩)⟩
theorem CX_end (h1 : 2 ≤ n) (hn : n ≤ 7) (hP : PM n mv) {s : Nat} {bt g : List Int32} (h : ∀ k, bitL bt k = true → k < fc n ∧ Gg n (gS (mW n mv) s 6) (XM n k)) (h0 : bitL bt 0 = true) (hg : ∀ k, bitL g k = true → bitL bt k = true ∧ ∀ j, j < 6 → s.testBit j = true → bitL bt (nu n (cM n (XM n k) (mW n mv j))) = true) (hh : ∀ k, bitL bt k = true → bitL g k = true) : BX n mv s bt := fun k => by
  refine ⟨h k, fun ⟨hk, hG⟩ => ?_⟩
  have hz : nu n (eM n) = 0 := by
    rw [← XM_0 h1 hn]
    exact nu_XM (by omega) hn (fc_pos n)
  have hb := (hG (fun z => Mv n z ∧ bitL bt (nu n z) = true) ⟨eM_Mv hn, by rw [hz]; exact h0⟩ (fun a b ha hb hy => by
    obtain ⟨j, j1, j2, j3⟩ := hy
    rw [j3]
    have h3 := (hg _ (hh _ hb.2)).2 j j1 j2
    rw [XM_nu (by omega) hn ha] at h3
    exact ⟨cM_Mv hn ha (mW_Mv hn hP j1), h3⟩)).2
  rw [nu_XM (by omega) hn hk] at hb
  exact hb
/-! cell by cell as they are enough -/
theorem en_x {e k : Nat} (he : e < 64) (hk : k < 6) : (nI e ||| (nI 1 <<< (nI k &&& 31))) = nI (e ||| 2 ^ k) := by
  have h2 : 2 ^ k < 2 ^ 6 := Nat.pow_lt_pow_right (by decide) hk
  rw [pk_shlN (n := 1) _ k (sh_of (by omega)) (by rw [Nat.one_mul]; exact Nat.pow_lt_pow_right (by decide) (by omega)), Nat.one_mul]
  exact or_nI (by omega) (by omega)
theorem GX_0 (h1 : 2 ≤ n) (hn : n ≤ 7) : BX n mv 0 ((List.replicate 158 0).set (nI 0).toNatClampNeg (nI 1)) := fun k => by
  refine ⟨CX_0 h1 hn k, fun ⟨hk, hG⟩ => ?_⟩
  have e : XM n k = eM n := hG (fun z => z = eM n) rfl (fun a b _ _ hb => by
    obtain ⟨j, _, j2, _⟩ := hb
    rw [Nat.zero_testBit] at j2
    exact absurd j2 (by decide))
  have e2 : k = 0 := by
    rw [← nu_XM (n := n) (by omega) hn hk, e, ← XM_0 h1 hn]
    exact nu_XM (by omega) hn (fc_pos n)
  rw [e2]
  exact bitL_10
theorem GX_e {e s c : Nat} (h : ∀ j, e.testBit j = true → s.testBit j = true) (hb : ¬ s / 2 ^ c % 2 ^ 1 = 0) : ∀ j, (e ||| 2 ^ c).testBit j = true → s.testBit j = true := fun j hj => by
  rw [set_bit, Bool.or_eq_true, decide_eq_true_eq] at hj
  rcases hj with hj | hj
  · exact h j hj
  · rw [← hj]
    exact tb_1 (by have := Nat.mod_lt (s / 2 ^ c) (show 0 < 2 ^ 1 by decide); omega)
theorem gW_or {e c : Nat} : ∀ y, gS (mW n mv) e 6 y → gS (mW n mv) (e ||| 2 ^ c) 6 y := fun _ h => by
  obtain ⟨j, h1, h2, h3⟩ := h
  exact ⟨j, h1, by rw [set_bit, h2, Bool.true_or], h3⟩
theorem GX_t (h1 : 2 ≤ n) (hn : n ≤ 7) (hP : PM n mv) {e s c : Nat} (hc : c < 6) (h : ∀ j, j < c → s.testBit j = true → Gg n (gS (mW n mv) e 6) (mW n mv j)) : ∀ j, j < c + 1 → s.testBit j = true → Gg n (gS (mW n mv) (e ||| 2 ^ c) 6) (mW n mv j) := fun j hj hs => by
  by_cases q : j = c
  · rw [q]
    exact Gg_of hn (gW_M hn hP _) ⟨c, hc, by rw [set_bit, decide_eq_true rfl, Bool.or_true], rfl⟩
  · exact Gg_mono gW_or (h j (by omega) hs)
theorem nuF_off (f : Nat → Nat) (fr n : Nat) : ∀ p, nuF f fr n p = nuF (fun q => f (fr + q)) 0 n p
  | 0 => rfl
  | p + 1 => by
    have hl : ∀ q, les f fr p q = les (fun q => f (fr + q)) 0 p q := by
      intro q
      induction q with
      | zero => rfl
      | succ q ih =>
        show les f fr p q + (if p < q ∧ f (fr + q) < f (fr + p) then 1 else 0) = les (fun q => f (fr + q)) 0 p q + (if p < q ∧ f (fr + (0 + q)) < f (fr + (0 + p)) then 1 else 0)
        rw [ih, Nat.zero_add, Nat.zero_add]
    show nuF f fr n p * (n - p) + les f fr p n = nuF (fun q => f (fr + q)) 0 n p * (n - p) + les (fun q => f (fr + q)) 0 p n
    rw [nuF_off f fr n p, hl]
theorem nu_mW (hn : n ≤ 7) (hP : PM n mv) {c : Nat} (hc : c < 6) : nuF mv (c * 7) n n = nu n (mW n mv c) := by
  rw [nuF_off]
  exact nu_congr (fun p hp => (mW_d hn hP hc hp).symm)
theorem GX_k (h1 : 2 ≤ n) (hn : n ≤ 7) (hP : PM n mv) {e s c : Nat} {bt : List Int32} (hc : c < 6) (hB : BX n mv e bt) (h : ∀ j, j < c → s.testBit j = true → Gg n (gS (mW n mv) e 6) (mW n mv j)) (hb : bitL bt (nuF mv (c * 7) n n) = true) : ∀ j, j < c + 1 → s.testBit j = true → Gg n (gS (mW n mv) e 6) (mW n mv j) := fun j hj hs => by
  by_cases q : j = c
  · have h2 := ((hB _).mp hb).2
    rw [nu_mW hn hP hc, XM_nu (by omega) hn (mW_Mv hn hP hc)] at h2
    rw [q]
    exact h2
  · exact h j (by omega) hs
theorem GX_n {e s c : Nat} (h : ∀ j, j < c → s.testBit j = true → Gg n (gS (mW n mv) e 6) (mW n mv j)) (hb : s / 2 ^ c % 2 ^ 1 = 0) : ∀ j, j < c + 1 → s.testBit j = true → Gg n (gS (mW n mv) e 6) (mW n mv j) := fun j hj hs => by
  by_cases q : j = c
  · rw [q, tb_0 (by omega)] at hs
    exact absurd hs (by decide)
  · exact h j (by omega) hs
theorem GX_end (h1 : 2 ≤ n) (hn : n ≤ 7) (hP : PM n mv) {e s c : Nat} {bt : List Int32} (hc : 6 ≤ c) (hB : BX n mv e bt) (he : ∀ j, e.testBit j = true → s.testBit j = true) (h : ∀ j, j < c → s.testBit j = true → Gg n (gS (mW n mv) e 6) (mW n mv j)) : BX n mv s bt := fun k => by
  rw [hB k]
  refine and_congr_right (fun _ => ⟨fun hG => Gg_mono (fun y ⟨j, h1, h2, h3⟩ => ⟨j, h1, he j h2, h3⟩) hG, fun hG => ?_⟩)
  refine (hG (fun z => Mv n z ∧ Gg n (gS (mW n mv) e 6) z) ⟨eM_Mv hn, Gg_e⟩ (fun a b ha hz hb => ?_)).2
  obtain ⟨j, j1, j2, j3⟩ := hb
  rw [j3]
  exact ⟨cM_Mv hn ha (mW_Mv hn hP j1), Gg_mul hn (gW_M hn hP e) hz.2 (h j (by omega) j2)⟩
theorem KX_of {s : Nat} {kn : Int32} {bt : List Int32} (h : KX n mv kn bt) (e : kn = nI s) (hs : s < 64) : BX n mv s bt := by
  rcases h with h | ⟨t, h1, h2, h3⟩
  · rw [e] at h
    have h2 := nI_pos' (n := s) (by omega)
    rw [h] at h2
    exact absurd h2 (by decide)
  · have e2 : s = t := (nI_eq (by omega) (by omega)).mp (e.symm.trans h2)
    rw [e2]
    exact h3
theorem BX_BT (h1 : 2 ≤ n) (hn : n ≤ 7) {s : Nat} {bt : List Int32} (h : BX n mv s bt) : BT n bt :=
  ⟨fun k hk => ((h k).mp hk).1, (h 0).mpr ⟨fc_pos n, by rw [XM_0 h1 hn]; exact Gg_e⟩⟩
theorem KX_KB (h1 : 2 ≤ n) (hn : n ≤ 7) {kn : Int32} {bt : List Int32} (h : KX n mv kn bt) : KB n kn bt := by
  rcases h with h | ⟨t, _, _, h3⟩
  · exact Or.inl h
  · exact Or.inr (BX_BT h1 hn h3)
end REFG
theorem KX_i {n s : Nat} {mv : Nat → Nat} {kn : Int32} {bt : List Int32} (hB : BX n mv s bt) (hs : s < 64) (hk : kn = nI s) : KX n mv kn bt := Or.inr ⟨s, hs, hk, hB⟩
end
section
/-! nth: how many go on -/
def sc (n k : Nat) (f tf : Nat → Nat) : Nat → Bool
  | 0 => true
  | m + 1 => sc n k f tf m && (rwF n k (f m) == tf m)
theorem sc_at {n k : Nat} {f tf : Nat → Nat} : ∀ m, sc n k f tf m = true → ∀ j, j < m → rwF n k (f j) = tf j
  | 0, _, _, hj => absurd hj (Nat.not_lt_zero _)
  | m + 1, h, j, hj => by
    simp only [sc, Bool.and_eq_true, beq_iff_eq] at h
    by_cases e : j = m
    · subst e; exact h.2
    · exact sc_at m h.1 j (by omega)
theorem sc_f {n k : Nat} {f tf : Nat → Nat} {m : Nat} (h : ¬ rwF n k (f m) = tf m) : ∀ b, m < b → sc n k f tf b = false
  | 0, hb => absurd hb (Nat.not_lt_zero _)
  | b + 1, hb => by
    simp only [sc]
    by_cases e : m = b
    · subst e; rw [(beq_eq_false_iff_ne).mpr h, Bool.and_false]
    · rw [sc_f h b (by omega), Bool.false_and]
theorem sc_s {n k : Nat} {f tf : Nat → Nat} {m : Nat} (h : sc n k f tf m = true) (e : rwF n k (f m) = tf m) : sc n k f tf (m + 1) = true := by
  simp only [sc]; rw [h, e, beq_self_eq_true, Bool.and_true]
theorem sc_up {n k : Nat} {f tf : Nat → Nat} {c v : Nat} : ∀ m, m ≤ c → sc n k f (up tf c v) m = sc n k f tf m
  | 0, _ => rfl
  | m + 1, h => by
    simp only [sc]
    rw [sc_up m (by omega), up_n (show m ≠ c by omega)]
def na (n : Nat) (bt : List Int32) (f tf : Nat → Nat) (lv K : Nat) : Nat := cnt (fun k => bitL bt k && sc n k f tf lv) K
def nw (n : Nat) (bt : List Int32) (f tf : Nat → Nat) (lv v K : Nat) : Nat := cnt (fun k => bitL bt k && (sc n k f tf lv && (rwF n k (f lv) == v))) K
theorem cnt_gap {bt : List Int32} {R : Nat → Bool} {a : Nat} : ∀ b, a ≤ b → (∀ j, a ≤ j → j < b → bitL bt j = false) → cnt (fun k => bitL bt k && R k) b = cnt (fun k => bitL bt k && R k) a
  | 0, hab, _ => by rw [show a = 0 by omega]
  | b + 1, hab, h => by
    by_cases e : a = b + 1
    · rw [e]
    · show cnt _ b + (if (bitL bt b && R b) = true then 1 else 0) = _
      rw [cnt_gap b (by omega) (fun j h1 h2 => h j h1 (by omega)), h b (by omega) (Nat.lt_succ_self _), Bool.false_and]
      rfl
theorem nw_gap {n : Nat} {bt : List Int32} {f tf : Nat → Nat} {lv v a b : Nat} (hab : a ≤ b) (h : ∀ j, a ≤ j → j < b → bitL bt j = false) : nw n bt f tf lv v b = nw n bt f tf lv v a := cnt_gap b hab h
theorem nw_le {n : Nat} {bt : List Int32} {f tf : Nat → Nat} {lv v K : Nat} : nw n bt f tf lv v K ≤ K := cnt_le _ _
def KK (F c : Nat) : Nat := if c = 0 then F else c - 1
theorem KK_0 (F : Nat) : KK F 0 = F := rfl
theorem KK_s (F q : Nat) : KK F (q + 1) = q := by
  unfold KK
  split <;> omega
theorem KK_p {F c : Nat} (h : 0 < c) : KK F c = c - 1 := by
  unfold KK
  rw [if_neg (by omega)]
theorem nw_e0 {n F : Nat} {bt : List Int32} {f tf g : Nat → Nat} {lv : Nat} (hz : ∀ p, p < n → g p = 0) (h : ∀ j, 0 ≤ j → j < F → bitL bt j = false) : ∀ v, v < n → g v = nw n bt f tf lv v (KK F 0) := by
  intro v hv
  rw [hz v hv, KK_0, nw_gap (Nat.zero_le _) h]
  rfl
theorem nw_e1 {n F q : Nat} {bt : List Int32} {f tf g : Nat → Nat} {lv : Nat} (hz : ∀ p, p < n → g p = 0) (h : ∀ j, 0 ≤ j → j < q → bitL bt j = false) : ∀ v, v < n → g v = nw n bt f tf lv v (KK F (q + 1)) := by
  intro v hv
  rw [hz v hv, KK_s, nw_gap (Nat.zero_le _) h]
  rfl
theorem nw_s0 {n : Nat} {bt : List Int32} {f tf : Nat → Nat} {lv v K : Nat} (h : sc n K f tf lv = false) : nw n bt f tf lv v (K + 1) = nw n bt f tf lv v K := by
  show cnt _ K + (if (bitL bt K && (sc n K f tf lv && (rwF n K (f lv) == v))) = true then 1 else 0) = _
  rw [h, Bool.false_and, Bool.and_false]
  rfl
theorem nw_s1 {n : Nat} {bt : List Int32} {f tf g : Nat → Nat} {lv K : Nat} (hb : bitL bt K = true) (h : sc n K f tf lv = true) (hg : ∀ v, v < n → g v = nw n bt f tf lv v K) : ∀ v, v < n → up g (rwF n K (f lv)) (g (rwF n K (f lv)) + 1) v = nw n bt f tf lv v (K + 1) := by
  intro v hv
  have e : nw n bt f tf lv v (K + 1) = nw n bt f tf lv v K + (if (rwF n K (f lv) == v) = true then 1 else 0) := by
    show cnt _ K + (if (bitL bt K && (sc n K f tf lv && (rwF n K (f lv) == v))) = true then 1 else 0) = _
    rw [hb, h, Bool.true_and, Bool.true_and]
    rfl
  rw [e]
  by_cases q : v = rwF n K (f lv)
  · subst q
    rw [up_s, if_pos (show (rwF n K (f lv) == rwF n K (f lv)) = true from beq_self_eq_true _), hg _ hv]
  · have e3 : ¬ (rwF n K (f lv) == v) = true := by
      rw [beq_iff_eq]
      exact fun e => q e.symm
    rw [up_n q, if_neg e3, Nat.add_zero]
    exact hg v hv
/-- what the walk knows behind a number: on to the next -/
theorem nw_t0 {n F c : Nat} {bt : List Int32} {f tf g' : Nat → Nat} {lv : Nat} (hc : c ≤ F) (hz : ∀ v, v < n → g' v = nw n bt f tf lv v c) (h : ∀ j, c ≤ j → j < F → bitL bt j = false) : ∀ v, v < n → g' v = nw n bt f tf lv v (KK F 0) := by
  intro v hv
  rw [hz v hv, KK_0, nw_gap hc h]
theorem nw_t1 {n F c q : Nat} {bt : List Int32} {f tf g' : Nat → Nat} {lv : Nat} (hc : c ≤ q) (hz : ∀ v, v < n → g' v = nw n bt f tf lv v c) (h : ∀ j, c ≤ j → j < q → bitL bt j = false) : ∀ v, v < n → g' v = nw n bt f tf lv v (KK F (q + 1)) := by
  intro v hv
  rw [hz v hv, KK_s, nw_gap hc h]
def sT (g : Nat → Nat) : Nat → Nat → Nat
  | 0, _ => 0
  | m + 1, p => g p + sT g m (p + 1)
theorem sT_congr {g h : Nat → Nat} : ∀ m p, (∀ i, p ≤ i → i < p + m → g i = h i) → sT g m p = sT h m p
  | 0, _, _ => rfl
  | m + 1, p, e => by
    simp only [sT]
    rw [e p (Nat.le_refl _) (by omega), sT_congr m (p + 1) (fun i h1 h2 => e i (by omega) (by omega))]
theorem sT_add (g h : Nat → Nat) : ∀ m p, sT (fun i => g i + h i) m p = sT g m p + sT h m p
  | 0, _ => rfl
  | m + 1, p => by
    simp only [sT]
    rw [sT_add g h m (p + 1)]; omega
theorem sT_0 : ∀ m p, sT (fun _ => 0) m p = 0
  | 0, _ => rfl
  | m + 1, p => by
    simp only [sT]
    have := sT_0 m (p + 1)
    omega
theorem sT_1 {r : Nat} : ∀ m p, p ≤ r → r < p + m → sT (fun i => if (r == i) = true then 1 else 0) m p = 1
  | 0, p, h1, h2 => by omega
  | m + 1, p, h1, h2 => by
    simp only [sT]
    by_cases e : r = p
    · subst e
      have h3 : sT (fun i => if (r == i) = true then 1 else 0) m (r + 1) = 0 :=
        (sT_congr (g := fun i => if (r == i) = true then 1 else 0) (h := fun _ => 0) m (r + 1) (fun i h3 _ => if_neg (by rw [beq_iff_eq]; omega))).trans (sT_0 m (r + 1))
      have h4 : (if (r == r) = true then 1 else 0) = 1 := if_pos (beq_self_eq_true r)
      rw [h3, h4] <;> rfl
    · have h4 : ¬ (r == p) = true := by
        rw [beq_iff_eq]
        exact e
      rw [if_neg h4, sT_1 (r := r) m (p + 1) (by omega) (by omega)] <;> rfl
theorem sT_nw {n : Nat} {bt : List Int32} {f tf : Nat → Nat} {lv : Nat} (hn : 1 ≤ n) (hf : f lv < n) : ∀ K, sT (fun v => nw n bt f tf lv v K) n 0 = na n bt f tf lv K
  | 0 => sT_0 n 0
  | K + 1 => by
    cases hb : bitL bt K && sc n K f tf lv with
    | false =>
      have hq : ∀ v, (bitL bt K && (sc n K f tf lv && (rwF n K (f lv) == v))) = false := fun v => by rw [← Bool.and_assoc, hb, Bool.false_and]
      have e : ∀ v, nw n bt f tf lv v (K + 1) = nw n bt f tf lv v K := by
        intro v
        show cnt _ K + (if (bitL bt K && (sc n K f tf lv && (rwF n K (f lv) == v))) = true then 1 else 0) = _
        rw [hq v]
        rfl
      rw [sT_congr (g := fun v => nw n bt f tf lv v (K + 1)) (h := fun v => nw n bt f tf lv v K) n 0 (fun i _ _ => e i), sT_nw hn hf K]
      show _ = cnt _ K + (if (bitL bt K && sc n K f tf lv) = true then 1 else 0)
      rw [hb]
      rfl
    | true =>
      have hq : ∀ v, (bitL bt K && (sc n K f tf lv && (rwF n K (f lv) == v))) = (rwF n K (f lv) == v) := fun v => by rw [← Bool.and_assoc, hb, Bool.true_and]
      have e : ∀ v, nw n bt f tf lv v (K + 1) = nw n bt f tf lv v K + (if (rwF n K (f lv) == v) = true then 1 else 0) := by
        intro v
        show cnt _ K + (if (bitL bt K && (sc n K f tf lv && (rwF n K (f lv) == v))) = true then 1 else 0) = _
        rw [hq v]
        rfl
      have h1 : rwF n K (f lv) < 0 + n := by
        have := (rwF_Pn (n := n) (num := K) hn).1 _ hf
        omega
      rw [sT_congr (g := fun v => nw n bt f tf lv v (K + 1)) (h := fun v => nw n bt f tf lv v K + (if (rwF n K (f lv) == v) = true then 1 else 0)) n 0 (fun i _ _ => e i), sT_add (fun v => nw n bt f tf lv v K) (fun v => if (rwF n K (f lv) == v) = true then 1 else 0), sT_nw hn hf K, sT_1 n 0 (Nat.zero_le _) h1]
      show _ = cnt _ K + (if (bitL bt K && sc n K f tf lv) = true then 1 else 0)
      rw [hb]
      rfl
theorem nth_in {n r : Nat} {bt : List Int32} {f tf : Nat → Nat} (hB : BU (fc n) bt) (hn : fc n ≤ 5056) (h : r < cnt (bitL bt) 5056) : r < na n bt f tf 0 (fc n) := by
  have e : cnt (fun k => bitL bt k && sc n k f tf 0) 5056 = cnt (fun k => bitL bt k && sc n k f tf 0) (fc n) := by
    refine cnt_gap 5056 hn (fun j h1 _ => ?_)
    cases hb : bitL bt j with
    | false => rfl
    | true => exact absurd (hB j hb) (Nat.not_lt.mpr h1)
  have e2 : cnt (bitL bt) 5056 = cnt (fun k => bitL bt k && sc n k f tf 0) 5056 := cnt_add 5056 (fun i _ => by show _ = (_ && true); rw [Bool.and_true])
  exact Nat.lt_of_lt_of_le h (Nat.le_of_eq (e2.trans e))
theorem nth_st {n r F : Nat} {bt : List Int32} {f tf g : Nat → Nat} {lv : Nat} (hn : 1 ≤ n) (hf : f lv < n) (hg : ∀ v, v < n → g v = nw n bt f tf lv v F) (h : r < na n bt f tf lv F) : r < sT g (n - 0) 0 := by
  rw [Nat.sub_zero, sT_congr (g := g) (h := fun v => nw n bt f tf lv v F) n 0 (fun i _ h2 => hg i (by omega)), sT_nw hn hf]
  exact h
theorem nth_p {n r p : Nat} {g : Nat → Nat} (h : r < sT g (n - p) p) : p < n := by
  by_cases e : p < n
  · exact e
  · rw [show n - p = 0 by omega] at h; exact absurd h (Nat.not_lt_zero _)
theorem nth_s {n r p : Nat} {g : Nat → Nat} (h : r < sT g (n - p) p) (hr : g p ≤ r) : r - g p < sT g (n - (p + 1)) (p + 1) := by
  have hp := nth_p h
  rw [show n - p = (n - (p + 1)) + 1 by omega] at h
  simp only [sT] at h
  omega
theorem nth_next {n x F p : Nat} {bt : List Int32} {f tf g : Nat → Nat} {lv : Nat} (hp : p < n) (hg : ∀ v, v < n → g v = nw n bt f tf lv v F) (h : x < g p) : x < na n bt f (up tf lv p) (lv + 1) F := by
  rw [hg p hp] at h
  refine Nat.lt_of_lt_of_le h (Nat.le_of_eq (cnt_add F (fun i _ => ?_)))
  simp only [sc]
  rw [sc_up lv (Nat.le_refl _), up_s]
theorem nth_Pn {n x F : Nat} {bt : List Int32} {f tf : Nat → Nat} (hn : 1 ≤ n) (hf : Pn n f) (h : x < na n bt f tf n F) : Pn n tf := by
  have h0 : 1 ≤ na n bt f tf n F := by omega
  obtain ⟨k, _, hk⟩ := cnt_ex (P := fun k => bitL bt k && sc n k f tf n) F h0
  simp only [Bool.and_eq_true] at hk
  exact (Pn.comp hf (rwF_Pn (num := k) hn)).congr (fun p hp => (sc_at n hk.2 p hp).symm)
end
section
/-! nth of the reference, told exactly -/
def LF (n : Nat) (bt : List Int32) (f tf : Nat → Nat) (F rank c y : Nat) : Prop :=
  ∃ lf : Nat → Nat, lf 0 = rank ∧ lf c = y ∧ ∀ l, l < c → lf l = sm (fun v => nw n bt f tf l v F) (tf l) + lf (l + 1) ∧ lf (l + 1) < nw n bt f tf l (tf l) F
theorem LF_0 {n : Nat} {bt : List Int32} {f tf : Nat → Nat} {F rank : Nat} : LF n bt f tf F rank 0 rank := ⟨fun _ => rank, rfl, rfl, fun l hl => absurd hl (Nat.not_lt_zero l)⟩
theorem nw_up {n : Nat} {bt : List Int32} {f tf : Nat → Nat} {c p l v K : Nat} (h : l ≤ c) : nw n bt f (up tf c p) l v K = nw n bt f tf l v K := by
  unfold nw
  refine cnt_add K (fun i _ => ?_)
  rw [sc_up l h]
theorem LF_s {n : Nat} {bt : List Int32} {f tf g : Nat → Nat} {F rank c y x p : Nat} (h : LF n bt f tf F rank c y) (hp : p < n) (hg : ∀ v, v < n → g v = nw n bt f tf c v F) (hy : y = sm g p + x) (hx : x < g p) : LF n bt f (up tf c p) F rank (c + 1) x := by
  obtain ⟨lf, l0, l1, l2⟩ := h
  refine ⟨fun l => if l = c + 1 then x else lf l, ?_, if_pos rfl, fun l hl => ?_⟩
  · show (if 0 = c + 1 then x else lf 0) = rank
    rw [if_neg (by omega)]
    exact l0
  · show (if l = c + 1 then x else lf l) = sm (fun v => nw n bt f (up tf c p) l v F) (up tf c p l) + (if l + 1 = c + 1 then x else lf (l + 1)) ∧ (if l + 1 = c + 1 then x else lf (l + 1)) < nw n bt f (up tf c p) l (up tf c p l) F
    rw [if_neg (show ¬ l = c + 1 by omega)]
    by_cases e : l = c
    · subst e
      rw [if_pos rfl, up_s, l1, hy, sm_congr (f := g) (g := fun v => nw n bt f (up tf l p) l v F) p (fun v hv => by rw [hg v (by omega)]; exact (nw_up (Nat.le_refl l)).symm), nw_up (Nat.le_refl l), ← hg p hp]
      exact ⟨rfl, hx⟩
    · rw [if_neg (show ¬ l + 1 = c + 1 by omega), up_n e, nw_up (show l ≤ c by omega), sm_congr (f := fun v => nw n bt f (up tf c p) l v F) (g := fun v => nw n bt f tf l v F) _ (fun v _ => nw_up (by omega))]
      exact l2 l (by omega)
theorem LF_end {n c : Nat} {bt : List Int32} {f tf : Nat → Nat} {F rank y : Nat} (h : LF n bt f tf F rank c y) (e : c = n) : LF n bt f tf F rank n y := by
  rw [e] at h
  exact h
section RNTH
variable {n : Nat} {G : Nat → Prop}
theorem sc_all {n k : Nat} {f tf : Nat → Nat} : ∀ m, (∀ j, j < m → rwF n k (f j) = tf j) → sc n k f tf m = true
  | 0, _ => rfl
  | m + 1, h => sc_s (sc_all m (fun j hj => h j (by omega))) (h m (Nat.lt_succ_self m))
theorem nw_WT (h1 : 1 ≤ n) (hn : n ≤ 7) {bt : List Int32} (hB : ∀ k, bitL bt k = true ↔ (k < fc n ∧ G (XM n k))) {f tf : Nat → Nat} (hf : ∀ j, j < n → f j < n) {y l v : Nat} (hl : l < n) (hy : ∀ j, j < l → d8 y (f j) = tf j) : nw n bt f tf l v (fc n) = WT n G f y l v := by
  unfold WT cd nw
  refine (ct_cnt (fc n) (fun k hk => ?_)).symm
  show (G (XM n k) ∧ (∀ j, j < l → d8 (XM n k) (f j) = d8 y (f j)) ∧ d8 (XM n k) (f l) = v) ↔ _
  rw [Bool.and_eq_true, Bool.and_eq_true, beq_iff_eq]
  have hd : ∀ j, j < n → d8 (XM n k) (f j) = rwF n k (f j) := fun j hj => XM_d h1 hn (hf j hj)
  refine ⟨fun ⟨a, b, c⟩ => ⟨(hB k).mpr ⟨hk, a⟩, sc_all l (fun j hj => ?_), ?_⟩, fun ⟨a, b, c⟩ => ⟨((hB k).mp a).2, fun j hj => ?_, ?_⟩⟩
  · rw [← hd j (by omega), b j hj, hy j hj]
  · rw [← hd l hl]
    exact c
  · rw [hd j (by omega), hy j hj]
    exact sc_at l b j hj
  · rw [hd l hl]
    exact c
theorem LF_GK (h1 : 1 ≤ n) (hn : n ≤ 7) {bt : List Int32} (hB : ∀ k, bitL bt k = true ↔ (k < fc n ∧ G (XM n k))) {f tf : Nat → Nat} (hf : ∀ j, j < n → f j < n) {rank y x : Nat} (hy : ∀ j, j < n → d8 y (f j) = tf j) (h : LF n bt f tf (fc n) rank n x) : GK n G f rank y := by
  obtain ⟨lf, l0, _, l2⟩ := h
  refine ⟨lf, l0, fun l hl => ?_⟩
  have hW : ∀ v, nw n bt f tf l v (fc n) = WT n G f y l v := fun v => nw_WT h1 hn hB hf hl (fun j hj => hy j (by omega))
  obtain ⟨a, b⟩ := l2 l hl
  rw [hy l hl, ← hW (tf l), ← sm_congr (f := fun v => nw n bt f tf l v (fc n)) (g := WT n G f y l) _ (fun v _ => hW v)]
  exact ⟨a, b⟩
theorem BX_cd (hn : n ≤ 7) {bt : List Int32} (hB : ∀ k, bitL bt k = true ↔ (k < fc n ∧ G (XM n k))) : cnt (bitL bt) 5056 = cd n G := by
  have hf := fc_7 hn
  obtain ⟨c, hc⟩ : ∃ c, 5056 = fc n + c := ⟨5056 - fc n, by omega⟩
  rw [hc, cnt_split, cnt_0 (P := fun i => bitL bt (fc n + i)) c (fun i _ => by
    cases q : bitL bt (fc n + i) with
    | false => rfl
    | true => have := ((hB _).mp q).1; omega), Nat.add_zero]
  exact (ct_cnt (fc n) (fun k hk => ⟨fun a => (hB k).mpr ⟨hk, a⟩, fun a => ((hB k).mp a).2⟩)).symm
theorem GK_rd (h1 : 1 ≤ n) (hn : n ≤ 7) {rd rd' : Nat → Nat} (h : ∀ j, j < n → rd j = rd' j) {rank y : Nat} (hG : GK n G rd rank y) : GK n G rd' rank y := by
  obtain ⟨lf, a0, a⟩ := hG
  refine ⟨lf, a0, fun l hl => ?_⟩
  have hW : ∀ v, WT n G rd y l v = WT n G rd' y l v := fun v => cd_iff h1 hn (fun x _ => by
    rw [h l hl]
    exact ⟨fun e => ⟨e.1, fun j hj => by rw [← h j (by omega)]; exact e.2.1 j hj, e.2.2⟩, fun e => ⟨e.1, fun j hj => by rw [h j (by omega)]; exact e.2.1 j hj, e.2.2⟩⟩)
  obtain ⟨b1, b2⟩ := a l hl
  rw [← h l hl, ← hW, ← sm_congr (f := WT n G rd y l) (g := WT n G rd' y l) _ (fun v _ => hW v)]
  exact ⟨b1, b2⟩
end RNTH
end
section
/-! sign, order, how many rings: what rings tell and what pairs tell is one (all moves of seven points are looked at) -/
/-! an exchange, a ring of three -/
theorem w8_2 {n : Nat} (hn : n ≤ 7) {b c : Nat} (hb : b < n) (hc : c < n) : w8 (w8 1754760 b c) c b = mkM n (sw2 b c) := by
  refine d8_ext 7 _ _ (w8_lt (w8_lt (by decide) (by omega) (by omega)) (by omega) (by omega)) (mk8_lt (fun q => by split <;> exact Nat.mod_lt _ (by decide)) 7) (fun p hp => ?_)
  rw [w8_d (by omega) (by omega) (by omega), w8_d (by omega) (by omega) (by omega), e7_d p hp]
  unfold mkM
  rw [d8_mk8 (fun q => by split <;> exact Nat.mod_lt _ (by decide)) 7 p hp]
  unfold sw2
  by_cases e : p = c
  · subst e
    rw [if_pos rfl, if_pos hc, Nat.mod_eq_of_lt (by omega)]
  · rw [if_neg e]
    by_cases e2 : p = b
    · subst e2
      rw [if_pos rfl, if_pos hb, Nat.mod_eq_of_lt (by omega)]
    · rw [if_neg e2, Nat.mod_eq_of_lt (by omega)]
      split <;> rfl
theorem w8_3 {n : Nat} (hn : n ≤ 7) {b c f : Nat} (hb : b < n) (hc : c < n) (hf : f < n) : w8 (w8 (w8 1754760 b c) c f) f b = mkM n (sw3 b c f) := by
  refine d8_ext 7 _ _ (w8_lt (w8_lt (w8_lt (by decide) (by omega) (by omega)) (by omega) (by omega)) (by omega) (by omega)) (mk8_lt (fun q => by split <;> exact Nat.mod_lt _ (by decide)) 7) (fun p hp => ?_)
  rw [w8_d (by omega) (by omega) (by omega), w8_d (by omega) (by omega) (by omega), w8_d (by omega) (by omega) (by omega), e7_d p hp]
  unfold mkM
  rw [d8_mk8 (fun q => by split <;> exact Nat.mod_lt _ (by decide)) 7 p hp]
  unfold sw3
  by_cases e : p = f
  · subst e
    rw [if_pos rfl, if_pos hf, Nat.mod_eq_of_lt (by omega)]
  · rw [if_neg e]
    by_cases e1 : p = c
    · subst e1
      rw [if_pos rfl, if_pos hc, Nat.mod_eq_of_lt (by omega)]
    · rw [if_neg e1]
      by_cases e2 : p = b
      · subst e2
        rw [if_pos rfl, if_pos hb, Nat.mod_eq_of_lt (by omega)]
      · rw [if_neg e2, Nat.mod_eq_of_lt (by omega)]
        split <;> rfl
theorem sw2_Pn {n : Nat} {b c : Nat} (hb : b < n) (hc : c < n) : Pn n (sw2 b c) := (Pn_swap (r := fun p => p) (fun _ _ => rfl) hb hc).congr (fun p hp => (sw2_is (r := fun p => p) (fun _ _ => rfl) hp).symm)
theorem sw3_Pn {n : Nat} {b c f : Nat} (hb : b < n) (hc : c < n) (hf : f < n) (h1 : b ≠ c) (h2 : c ≠ f) (h3 : f ≠ b) : Pn n (sw3 b c f) := (Pn_ring (r := fun p => p) (fun _ _ => rfl) hb hc hf h1 (fun e => h3 e.symm) h2).congr (fun p hp => (sw3_is (r := fun p => p) (fun _ _ => rfl) hp).symm)
/-! the class's rings -/
def hrS (x : Nat) : Nat → Nat
  | 0 => 0
  | p + 1 => if (hrS x p).testBit p = true then hrS x p else hrS x p ||| rg x p
def hr (x : Nat) : Nat → Nat
  | 0 => 0
  | p + 1 => if (hrS x p).testBit p = true then hr x p else hr x p + 1
theorem bf {b : Bool} (h : b = false) : ¬ b = true := fun e => by
  rw [h] at e
  exact absurd e (by decide)
theorem hrS_t {x p : Nat} (h : (hrS x p).testBit p = true) : hrS x p = hrS x (p + 1) := (if_pos h).symm
theorem hrS_f {x p : Nat} (h : (hrS x p).testBit p = false) : hrS x p ||| rg x p = hrS x (p + 1) := (if_neg (bf h)).symm
theorem hr_t {x p : Nat} (h : (hrS x p).testBit p = true) : hr x p = hr x (p + 1) := (if_pos h).symm
theorem hr_f {x p : Nat} (h : (hrS x p).testBit p = false) : hr x p + 1 = hr x (p + 1) := (if_neg (bf h)).symm
theorem hrS_lt {x : Nat} (hP : Pn 7 (d8 x)) : ∀ p, p ≤ 7 → hrS x p < 2 ^ 7
  | 0, _ => (by decide : (0 : Nat) < 2 ^ 7)
  | p + 1, hp => by
    have ih := hrS_lt hP p (by omega)
    show (if (hrS x p).testBit p = true then hrS x p else hrS x p ||| rg x p) < 2 ^ 7
    by_cases e : (hrS x p).testBit p = true
    · rw [if_pos e]; exact ih
    · rw [if_neg e]; exact Nat.or_lt_two_pow ih (rg_spec hP (by omega)).1
theorem hr_le (x : Nat) : ∀ p, hr x p ≤ p
  | 0 => Nat.le_refl 0
  | p + 1 => by
    have ih := hr_le x p
    show (if (hrS x p).testBit p = true then hr x p else hr x p + 1) ≤ p + 1
    by_cases e : (hrS x p).testBit p = true
    · rw [if_pos e]; omega
    · rw [if_neg e]; omega
def sgC (x k : Nat) : Int32 := if (k - hr x k) % 2 = 0 then nI 1 else (-1)
/-! the reference's pairs -/
def ivP (f : Nat → Nat) (fr p : Nat) : Nat → Nat
  | 0 => 0
  | q + 1 => ivP f fr p q + if f (fr + p) < f (fr + q) then 1 else 0
def iv (f : Nat → Nat) (fr : Nat) : Nat → Nat
  | 0 => 0
  | p + 1 => iv f fr p + ivP f fr p p
def sgv (k : Nat) : Int32 := if k % 2 = 0 then nI 1 else (-1)
theorem sgv_n (k : Nat) : -sgv k = sgv (k + 1) := by
  unfold sgv
  by_cases e : k % 2 = 0
  · rw [if_pos e, if_neg (by omega)]; decide
  · rw [if_neg e, if_pos (by omega)]; decide
theorem iv_n {f : Nat → Nat} {fr p q a : Nat} {z : Int32} (h : z = sgv (a + ivP f fr p q)) (e : f (fr + q) ≤ f (fr + p)) : z = sgv (a + ivP f fr p (q + 1)) := by
  rw [h]
  show _ = sgv (a + (ivP f fr p q + if f (fr + p) < f (fr + q) then 1 else 0))
  rw [if_neg (Nat.not_lt.mpr e), Nat.add_zero]
theorem iv_s {f : Nat → Nat} {fr p q a : Nat} {z : Int32} (h : z = sgv (a + ivP f fr p q)) (e : f (fr + p) < f (fr + q)) : -z = sgv (a + ivP f fr p (q + 1)) := by
  rw [h, sgv_n]
  show _ = sgv (a + (ivP f fr p q + if f (fr + p) < f (fr + q) then 1 else 0))
  rw [if_pos e, Nat.add_assoc]
theorem ivP_congr {f g : Nat → Nat} {fr p m : Nat} (hp : p < m) (h : ∀ i, i < m → f (fr + i) = g i) : ∀ q, q ≤ m → ivP f fr p q = ivP g 0 p q
  | 0, _ => rfl
  | q + 1, hq => by
    show ivP f fr p q + (if f (fr + p) < f (fr + q) then 1 else 0) = ivP g 0 p q + (if g (0 + p) < g (0 + q) then 1 else 0)
    rw [ivP_congr hp h q (by omega), h p hp, h q (by omega), Nat.zero_add, Nat.zero_add]
theorem iv_congr {f g : Nat → Nat} {fr m : Nat} (h : ∀ i, i < m → f (fr + i) = g i) : ∀ p, p ≤ m → iv f fr p = iv g 0 p
  | 0, _ => rfl
  | p + 1, hp => by
    show iv f fr p + ivP f fr p p = iv g 0 p + ivP g 0 p p
    rw [iv_congr h p (by omega), ivP_congr (by omega) h p (by omega)]
def sg (n x : Nat) : Int32 := sgv (iv (d8 x) 0 n)
/-- a ring's length, by going round -/
def lnF (f : Nat → Nat) (p : Nat) : Nat → Nat → Nat
  | 0, K => K
  | m + 1, K => if it f K p = p then K else lnF f p m (K + 1)
def lF (f : Nat → Nat) (n p : Nat) : Nat := lnF f p n 1
theorem lnF_Pd {f : Nat → Nat} {n p K : Nat} (h : Pd f n p K) : ∀ m j, 1 ≤ j → j ≤ K → K ≤ j + m → lnF f p m j = K
  | 0, j, _, h2, h3 => by
    show j = K
    omega
  | m + 1, j, h1, h2, h3 => by
    show (if it f j p = p then j else lnF f p m (j + 1)) = K
    by_cases e : j = K
    · subst e
      rw [if_pos h.2.2.1]
    · rw [if_neg (h.2.2.2 j h1 (by omega))]
      exact lnF_Pd h m (j + 1) (by omega) (by omega) (by omega)
theorem lF_Pd {f : Nat → Nat} {n p K : Nat} (h : Pd f n p K) : K = lF f n p := (lnF_Pd h n 1 (Nat.le_refl 1) h.1 (by have := h.2.1; omega)).symm
/-! order -/
def ocL (x : Nat) : Nat → Nat → Nat → Nat
  | 0, _, t => t
  | k + 1, r, t => if r = 1754760 then t else ocL x k (c7 r x) (t + 1)
def oC (x : Nat) : Nat := ocL x 11 x 1
def olc (l : Nat → Nat) : Nat → Nat
  | 0 => 1
  | p + 1 => olc l p / Nat.gcd (olc l p) (l p) * l p
theorem olc_s {l : Nat → Nat} {p y k : Nat} (h : y = olc l p) (e : k = l p) : y / Nat.gcd y k * k = olc l (p + 1) := by
  rw [h, e]
  rfl
theorem olc_congr {l l' : Nat → Nat} : ∀ p, (∀ i, i < p → l i = l' i) → olc l p = olc l' p
  | 0, _ => rfl
  | p + 1, h => by
    show olc l p / Nat.gcd (olc l p) (l p) * l p = olc l' p / Nat.gcd (olc l' p) (l' p) * l' p
    rw [olc_congr p (fun i hi => h i (by omega)), h p (Nat.lt_succ_self p)]
theorem olc_one {l : Nat → Nat} {n : Nat} : ∀ k, (∀ i, n ≤ i → i < n + k → l i = 1) → olc l (n + k) = olc l n
  | 0, _ => rfl
  | k + 1, h => by
    show olc l (n + k) / Nat.gcd (olc l (n + k)) (l (n + k)) * l (n + k) = olc l n
    rw [h (n + k) (by omega) (by omega), Nat.gcd_one_right, Nat.div_one, Nat.mul_one]
    exact olc_one k (fun i h1 h2 => h i h1 (by omega))
theorem pd_one {n x p : Nat} (hn : n ≤ 7) (hx : Mv n x) (h1 : n ≤ p) (h2 : p < 7) : lF (d8 x) 7 p = 1 := by
  refine (lF_Pd (n := 7) ⟨Nat.le_refl 1, by decide, ?_, fun j h3 h4 => by omega⟩).symm
  exact hx.2.2 p h1 h2
/-- with points that stay: as many more rings, no more pairs -/
theorem iv_top {n x : Nat} (hx : Mv n x) : ∀ k, n + k ≤ 7 → iv (d8 x) 0 (n + k) = iv (d8 x) 0 n
  | 0, _ => rfl
  | k + 1, hk => by
    have h0 : ∀ q, q ≤ n + k → ivP (d8 x) 0 (n + k) q = 0 := by
      intro q
      induction q with
      | zero => intro _; rfl
      | succ q ih =>
        intro hq
        show ivP (d8 x) 0 (n + k) q + (if d8 x (0 + (n + k)) < d8 x (0 + q) then 1 else 0) = 0
        rw [ih (by omega)]
        simp only [Nat.zero_add]
        rw [hx.2.2 (n + k) (by omega) (by omega), if_neg]
        by_cases e : q < n
        · have := hx.2.1.1 q e; omega
        · rw [hx.2.2 q (by omega) (by omega)]; omega
    show iv (d8 x) 0 (n + k) + ivP (d8 x) 0 (n + k) (n + k) = _
    rw [h0 (n + k) (Nat.le_refl _), Nat.add_zero]
    exact iv_top hx k (by omega)
theorem rg_fix {n x p : Nat} (hn : n ≤ 7) (hx : Mv n x) (h1 : n ≤ p) (h2 : p < 7) : rg x p = 2 ^ p := by
  have e := hx.2.2 p h1 h2
  show (if (0 : Nat).testBit p = true then 0 else rgL x 6 (0 ||| 2 ^ p) (d8 x p)) = 2 ^ p
  rw [if_neg (bf (Nat.zero_testBit p)), e, Nat.zero_or]
  exact (rgL_t (k := 6) Nat.testBit_two_pow_self).symm
theorem rg_in {n x p v : Nat} (hn : n ≤ 7) (hx : Mv n x) (hp : p < n) (h : (rg x p).testBit v = true) : v < n := by
  obtain ⟨j, rfl⟩ := (rg_bit (hx.P7 hn) (by omega)).mp h
  exact it_lt hx.2.1 hp j
theorem hrS_in {n x : Nat} (hn : n ≤ 7) (hx : Mv n x) : ∀ p, p ≤ 7 → ∀ v, (hrS x p).testBit v = true → v < n ∨ (n ≤ v ∧ v < p)
  | 0, _, v, h => by
    have h : (0 : Nat).testBit v = true := h
    rw [Nat.zero_testBit] at h
    exact absurd h (by decide)
  | p + 1, hp, v, h => by
    have ih := hrS_in hn hx p (by omega)
    by_cases e : (hrS x p).testBit p = true
    · rw [← hrS_t e] at h
      have := ih v h
      omega
    · have e : (hrS x p).testBit p = false := by
        cases q : (hrS x p).testBit p with
        | false => rfl
        | true => exact absurd q e
      rw [← hrS_f e, Nat.testBit_or, Bool.or_eq_true] at h
      rcases h with h | h
      · have := ih v h
        omega
      · by_cases q : p < n
        · exact Or.inl (rg_in hn hx q h)
        · rw [rg_fix hn hx (by omega) (by omega), Nat.testBit_two_pow] at h
          have := of_decide_eq_true h
          omega
theorem hr_top {n x : Nat} (hn : n ≤ 7) (hx : Mv n x) : ∀ k, n + k ≤ 7 → hr x (n + k) = hr x n + k
  | 0, _ => rfl
  | k + 1, hk => by
    have ih := hr_top hn hx k (by omega)
    have h : (hrS x (n + k)).testBit (n + k) = false := by
      cases q : (hrS x (n + k)).testBit (n + k) with
      | false => rfl
      | true => have := hrS_in hn hx (n + k) (by omega) _ q; omega
    have e := hr_f h
    show hr x (n + k + 1) = hr x n + (k + 1)
    omega
/-! points that stay -/
def stF (f : Nat → Nat) : Nat → Nat
  | 0 => 0
  | p + 1 => if f p = p then stF f p ||| 2 ^ p else stF f p
theorem stF_t {f : Nat → Nat} {p : Nat} (h : f p = p) : stF f p ||| 2 ^ p = stF f (p + 1) := (if_pos h).symm
theorem stF_f {f : Nat → Nat} {p : Nat} (h : ¬ f p = p) : stF f p = stF f (p + 1) := (if_neg h).symm
theorem stF_lt (f : Nat → Nat) : ∀ p, stF f p < 2 ^ p
  | 0 => (by decide : (0 : Nat) < 2 ^ 0)
  | p + 1 => by
    have ih := stF_lt f p
    have h2 : 2 ^ p < 2 ^ (p + 1) := Nat.pow_lt_pow_right (by decide) (Nat.lt_succ_self p)
    show (if f p = p then stF f p ||| 2 ^ p else stF f p) < 2 ^ (p + 1)
    by_cases e : f p = p
    · rw [if_pos e]; exact Nat.or_lt_two_pow (Nat.lt_trans ih h2) h2
    · rw [if_neg e]; exact Nat.lt_trans ih h2
theorem stF_31 (f : Nat → Nat) {p : Nat} (hp : p ≤ 7) : stF f p < 2 ^ 31 := Nat.lt_of_lt_of_le (stF_lt f p) (Nat.pow_le_pow_right (by decide) (by omega))
theorem stF_congr {f g : Nat → Nat} : ∀ p, (∀ i, i < p → f i = g i) → stF f p = stF g p
  | 0, _ => rfl
  | p + 1, h => by
    show (if f p = p then stF f p ||| 2 ^ p else stF f p) = (if g p = p then stF g p ||| 2 ^ p else stF g p)
    rw [stF_congr p (fun i hi => h i (by omega)), h p (Nat.lt_succ_self p)]
/-! like rings, by how many points are on rings of a length -/
def lo (f : Nat → Nat) (n L m : Nat) : Nat := cnt (fun p => lF f n p == L) m
theorem lo_1 {f : Nat → Nat} {n L m k : Nat} (e : k = lF f n m) (h : k = L) : lo f n L m + 1 = lo f n L (m + 1) := by
  show _ = cnt (fun p => lF f n p == L) m + (if (lF f n m == L) = true then 1 else 0)
  rw [if_pos (by rw [← e, h]; exact beq_self_eq_true L)]
  rfl
theorem lo_0 {f : Nat → Nat} {n L m k : Nat} (e : k = lF f n m) (h : ¬ k = L) : lo f n L m + 0 = lo f n L (m + 1) := by
  show _ = cnt (fun p => lF f n p == L) m + (if (lF f n m == L) = true then 1 else 0)
  rw [if_neg (fun q => h (by rw [e]; exact eq_of_beq q))]
  rfl
theorem lo_le (f : Nat → Nat) (n L m : Nat) : lo f n L m ≤ m := cnt_le _ m
theorem it_congr {n : Nat} {f g : Nat → Nat} (hf : Pn n f) (h : ∀ p, p < n → f p = g p) {p : Nat} (hp : p < n) : ∀ k, it f k p = it g k p
  | 0 => rfl
  | k + 1 => by
    have ih := it_congr hf h hp k
    show f (it f k p) = g (it g k p)
    rw [← ih]
    exact h _ (it_lt hf hp k)
theorem lF_ln {n x : Nat} (hn : n ≤ 7) (hx : Mv n x) {f : Nat → Nat} (hf : ∀ p, p < n → f p = d8 x p) {p : Nat} (hp : p < n) : lF f n p = ln x p := by
  have h7 := ln_Pd (hx.P7 hn) (show p < 7 by omega)
  have hfP : Pn n f := hx.2.1.congr (fun q hq => hf q hq)
  obtain ⟨K, k1, k2, k3, k4⟩ := Pd_ex hfP hp
  have e := lF_Pd (f := f) (n := n) ⟨k1, k2, k3, k4⟩
  have hi := fun k => it_congr hfP hf hp k
  have h8 : Pd (d8 x) 7 p K := ⟨k1, by omega, by rw [← hi K]; exact k3, fun j h1 h2 => by rw [← hi j]; exact k4 j h1 h2⟩
  rw [← e]
  exact h8.same h7
theorem ln_fix {n x p : Nat} (hn : n ≤ 7) (hx : Mv n x) (h1 : n ≤ p) (h2 : p < 7) : ln x p = 1 :=
  (ln_Pd (hx.P7 hn) h2).same ⟨Nat.le_refl 1, by decide, hx.2.2 p h1 h2, fun j h3 h4 => by omega⟩
theorem lo_rl {n x : Nat} (hn : n ≤ 7) (hx : Mv n x) {f : Nat → Nat} (hf : ∀ p, p < n → f p = d8 x p) (L : Nat) : L * rl x L 7 = lo f n L n + (if L = 1 then 7 - n else 0) := by
  rw [← pl_rl (hx.P7 hn) L, ct_cnt (B := fun p => ln x p == L) 7 (fun p _ => ⟨fun e => by rw [e]; exact beq_self_eq_true L, fun e => eq_of_beq e⟩)]
  obtain ⟨k, hk⟩ : ∃ k, 7 = n + k := ⟨7 - n, by omega⟩
  have h1 : cnt (fun p => ln x p == L) 7 = cnt (fun p => ln x p == L) (n + k) := by rw [← hk]
  rw [h1, cnt_split]
  congr 1
  · exact cnt_add n (fun p hp => by show (ln x p == L) = (lF f n p == L); rw [lF_ln hn hx hf hp])
  · by_cases e : L = 1
    · subst e
      rw [if_pos rfl, cnt_add (P := fun i => ln x (n + i) == 1) (Q := fun _ => true) k (fun i hi => by show (ln x (n + i) == 1) = true; rw [ln_fix hn hx (by omega) (by omega)]; rfl), cnt_all]
      omega
    · rw [if_neg e]
      exact cnt_0 k (fun i hi => by
        rw [ln_fix hn hx (by omega) (by omega)]
        exact beq_eq_false_iff_ne.mpr (fun q => e q.symm))
theorem lo_div {n x : Nat} (hn : n ≤ 7) (hx : Mv n x) {f : Nat → Nat} (hf : ∀ p, p < n → f p = d8 x p) {L : Nat} (hL : 1 ≤ L) : rl x L 7 = lo f n L n / L + (if L = 1 then 7 - n else 0) := by
  have h := lo_rl hn hx hf L
  by_cases e : L = 1
  · subst e
    rw [if_pos rfl] at h ⊢
    rw [Nat.div_one]
    omega
  · rw [if_neg e, Nat.add_zero] at h ⊢
    rw [← h, Nat.mul_div_cancel_left _ (by omega)]
theorem LK_lo {n x y : Nat} (hn : n ≤ 7) (hx : Mv n x) (hy : Mv n y) {f g : Nat → Nat} (hf : ∀ p, p < n → f p = d8 x p) (hg : ∀ p, p < n → g p = d8 y p) : LK x y ↔ ∀ L, 1 ≤ L → L ≤ n → lo f n L n / L = lo g n L n / L := by
  have h0 : ∀ {z : Nat} {h : Nat → Nat}, Mv n z → (∀ p, p < n → h p = d8 z p) → ∀ L, n < L → lo h n L n = 0 := fun {z h} hz hh L hL => cnt_0 n (fun p hp => by
    have := lF_ln hn hz hh hp
    have h2 := (Pd_ex (hz.2.1.congr (fun q hq => hh q hq)) hp)
    obtain ⟨K, hK⟩ := h2
    have h3 := lF_Pd hK
    have h4 := hK.2.1
    exact beq_eq_false_iff_ne.mpr (fun e => by omega))
  refine ⟨fun h L h1 h2 => ?_, fun h L h1 h2 => ?_⟩
  · have e := h L h1 (by omega)
    rw [lo_div hn hx hf h1, lo_div hn hy hg h1] at e
    omega
  · rw [lo_div hn hx hf h1, lo_div hn hy hg h1]
    by_cases q : L ≤ n
    · rw [h L h1 q]
    · rw [h0 hx hf L (by omega), h0 hy hg L (by omega)]
theorem oc_s {x r c : Nat} (hc : c < 12) (h : ¬ r = 1754760) : ocL x (12 - c) r c = ocL x (12 - (c + 1)) (c7 r x) (c + 1) := by
  obtain ⟨k, hk⟩ : ∃ k, 12 - c = k + 1 := ⟨11 - c, by omega⟩
  rw [hk, show 12 - (c + 1) = k by omega]
  exact if_neg h
theorem oc_12 {x r c : Nat} (hc : 12 ≤ c) : c = ocL x (12 - c) r c := by
  rw [show 12 - c = 0 by omega]
  rfl
theorem oc_e {x r c : Nat} (h : r = 1754760) : c = ocL x (12 - c) r c := by
  cases q : 12 - c with
  | zero => rfl
  | succ k => exact (if_pos h).symm
theorem st_1 {f : Nat → Nat} {p y : Nat} (h : y = stF f p) (e : f p = p) : y ||| 2 ^ p = stF f (p + 1) := by
  rw [h]; exact stF_t e
theorem st_0 {f : Nat → Nat} {p y : Nat} (h : y = stF f p) (e : ¬ f p = p) : y ||| 0 * 2 ^ p = stF f (p + 1) := by
  rw [h, Nat.zero_mul, Nat.or_zero]; exact stF_f e
/-! sign: what pairs tell and what rings tell is one (the last point is left out, again and again) -/
def byp (f : Nat → Nat) (n p : Nat) : Nat := if f p = n then f n else f p
def Ld (f : Nat → Nat) (p : Nat) : Prop := ∀ q, q < p → ¬ Ob f p q
section SIGN
variable {f : Nat → Nat} {n : Nat}
theorem byp_n {p : Nat} (h : f p = n) : byp f n p = f n := if_pos h
theorem byp_f {p : Nat} (h : ¬ f p = n) : byp f n p = f p := if_neg h
theorem byp_Pn (h : Pn (n + 1) f) : Pn n (byp f n) := by
  refine ⟨fun p hp => ?_, fun p q hp hq e => ?_⟩
  · have h1 := h.1 p (by omega)
    by_cases e : f p = n
    · rw [byp_n e]
      have h2 := h.1 n (by omega)
      have h3 : f n ≠ n := fun q => by have := h.2 p n (by omega) (by omega) (e.trans q.symm); omega
      omega
    · rw [byp_f e]; omega
  · by_cases a : f p = n
    · by_cases b : f q = n
      · exact h.2 p q (by omega) (by omega) (a.trans b.symm)
      · rw [byp_n a, byp_f b] at e
        have := h.2 n q (by omega) (by omega) e
        omega
    · by_cases b : f q = n
      · rw [byp_f a, byp_n b] at e
        have := h.2 p n (by omega) (by omega) e
        omega
      · rw [byp_f a, byp_f b] at e
        exact h.2 p q (by omega) (by omega) e
theorem byp_Ob1 {p : Nat} : ∀ j, Ob f p (it (byp f n) j p)
  | 0 => ⟨0, rfl⟩
  | j + 1 => by
    have ih := byp_Ob1 (p := p) j
    show Ob f p (byp f n (it (byp f n) j p))
    by_cases e : f (it (byp f n) j p) = n
    · rw [byp_n e]
      have h2 := ih.s.s
      rw [e] at h2
      exact h2
    · rw [byp_f e]
      exact ih.s
theorem byp_Ob2 (h : Pn (n + 1) f) {p : Nat} (hp : p < n) : ∀ j, (it f j p < n → Ob (byp f n) p (it f j p)) ∧ (it f j p = n → f n < n → Ob (byp f n) p (f n))
  | 0 => ⟨fun _ => ⟨0, rfl⟩, fun e => by
      have e : p = n := e
      omega⟩
  | j + 1 => by
    obtain ⟨i1, i2⟩ := byp_Ob2 h hp j
    have hu := it_lt h (show p < n + 1 by omega) j
    refine ⟨fun hv => ?_, fun hv hn => ?_⟩
    · have hv : f (it f j p) < n := hv
      show Ob (byp f n) p (f (it f j p))
      by_cases q : it f j p = n
      · rw [q] at hv ⊢
        exact i2 q hv
      · have h2 := (i1 (by omega)).s
        rw [byp_f (by omega)] at h2
        exact h2
    · have hv : f (it f j p) = n := hv
      by_cases q : it f j p = n
      · rw [q] at hv
        omega
      · have h2 := (i1 (by omega)).s
        rw [byp_n hv] at h2
        exact h2
theorem byp_Ld (h : Pn (n + 1) f) {p : Nat} (hp : p < n) : Ld f p ↔ Ld (byp f n) p := by
  refine ⟨fun a q hq ⟨j, e⟩ => a q hq ?_, fun a q hq ⟨j, e⟩ => a q hq ?_⟩
  · rw [← e]
    exact byp_Ob1 j
  · have := (byp_Ob2 h hp j).1 (by omega)
    rw [e] at this
    exact this
theorem Ld_n (h : Pn (n + 1) f) : Ld f n ↔ f n = n := by
  have h1 := h.1 n (by omega)
  refine ⟨fun a => Classical.byContradiction fun q => a (f n) (by omega) ⟨1, rfl⟩, fun e q hq ⟨j, ej⟩ => ?_⟩
  have hk : ∀ j, it f j n = n := by
    intro j
    induction j with
    | zero => rfl
    | succ j ih =>
      show f (it f j n) = n
      rw [ih, e]
  rw [hk j] at ej
  omega
theorem Ld_ct (h : Pn (n + 1) f) : ct (Ld f) (n + 1) = ct (Ld (byp f n)) n + (if f n = n then 1 else 0) := by
  show ct (Ld f) n + on (Ld f n) = _
  rw [ct_iff (fun i hi => byp_Ld h hi)]
  congr 1
  by_cases e : f n = n
  · rw [if_pos e, on_t ((Ld_n h).mpr e)]
  · rw [if_neg e, on_f (fun q => e ((Ld_n h).mp q))]
/-! pairs -/
theorem ivP_s {p q : Nat} : ivP f 0 p (q + 1) = ivP f 0 p q + if f p < f q then 1 else 0 := by
  show ivP f 0 p q + (if f (0 + p) < f (0 + q) then 1 else 0) = _
  rw [Nat.zero_add, Nat.zero_add]
theorem ivP_0 {p : Nat} : ∀ m, (∀ q, q < m → ¬ f p < f q) → ivP f 0 p m = 0
  | 0, _ => rfl
  | m + 1, h => by rw [ivP_s, ivP_0 m (fun q hq => h q (by omega)), if_neg (h m (Nat.lt_succ_self m))]
theorem ivP_eq {g : Nat → Nat} {p p' : Nat} (hp : f p = g p') : ∀ m, (∀ q, q < m → f q = g q) → ivP f 0 p m = ivP g 0 p' m
  | 0, _ => rfl
  | m + 1, h => by rw [ivP_s, ivP_s, ivP_eq hp m (fun q hq => h q (by omega)), hp, h m (Nat.lt_succ_self m)]
/-- lesser ones behind a place -/
def bhd (f : Nat → Nat) (p0 a : Nat) : Nat → Nat
  | 0 => 0
  | m + 1 => bhd f p0 a m + if p0 < m ∧ f m < a then 1 else 0
theorem bhd_0 {p0 a : Nat} : ∀ m, m ≤ p0 + 1 → bhd f p0 a m = 0
  | 0, _ => rfl
  | m + 1, h => by
    show bhd f p0 a m + (if p0 < m ∧ f m < a then 1 else 0) = 0
    rw [bhd_0 m (by omega), if_neg (fun q => by have := q.1; omega)]
theorem iv_byp (h : Pn (n + 1) f) : (iv f 0 (n + 1) + (if f n = n then 0 else 1)) % 2 = iv (byp f n) 0 n % 2 := by
  show (iv f 0 n + ivP f 0 n n + (if f n = n then 0 else 1)) % 2 = _
  by_cases e : f n = n
  · have hne : ∀ i, i < n → f i ≠ n := fun i hi q => by have := h.2 i n (by omega) (by omega) (q.trans e.symm); omega
    rw [if_pos e, ivP_0 n (fun q hq => by have := h.1 q (by omega); have := hne q hq; omega), iv_congr (f := f) (g := byp f n) (fr := 0) (m := n) (fun i hi => by rw [Nat.zero_add, byp_f (hne i hi)]) n (Nat.le_refl n)]
    omega
  · obtain ⟨p0, hp0, e0⟩ := inj_surj (n + 1) f h n (by omega)
    have hpn : p0 < n := by
      by_cases q : p0 = n
      · rw [q] at e0; exact absurd e0 e
      · omega
    have ha : f n < n := by have := h.1 n (by omega); omega
    have hne : ∀ i, i < n → i ≠ p0 → f i ≠ n := fun i hi q z => q (h.2 i p0 (by omega) (by omega) (z.trans e0.symm))
    have hg : ∀ i, i < n → i ≠ p0 → byp f n i = f i := fun i hi q => byp_f (hne i hi q)
    have hg0 : byp f n p0 = f n := byp_n e0
    have hna : ∀ i, i < n → f i ≠ f n := fun i hi z => by have := h.2 i n (by omega) (by omega) z; omega
    -- ahead of the place
    have h0 : iv f 0 p0 = iv (byp f n) 0 p0 := iv_congr (f := f) (g := byp f n) (fr := 0) (m := p0) (fun i hi => by rw [Nat.zero_add, hg i (by omega) (by omega)]) p0 (Nat.le_refl p0)
    have hr0 : ivP f 0 p0 p0 = 0 := ivP_0 p0 (fun q hq => by have := h.1 q (by omega); omega)
    -- rows behind it
    have hrow : ∀ m, p0 < m → m < n → ∀ q, q ≤ m → ivP f 0 m q + (if p0 < q ∧ f m < f n then 1 else 0) = ivP (byp f n) 0 m q + (if p0 < q then 1 else 0) := by
      intro m h1 h2 q
      induction q with
      | zero => intro _; rw [if_neg (by omega), if_neg (by omega)]; rfl
      | succ q ih =>
        intro hq
        have ih := ih (by omega)
        have hm := hg m h2 (by omega)
        have hfm := h.1 m (by omega)
        have hmn := hne m h2 (by omega)
        rw [ivP_s, ivP_s, hm]
        by_cases a : q = p0
        · subst a
          rw [hg0, e0, if_pos (show f m < n by omega)]
          rw [if_neg (by omega), if_neg (by omega)] at ih
          rw [if_pos (show q < q + 1 by omega)]
          by_cases b : f m < f n
          · rw [if_pos ⟨by omega, b⟩, if_pos b]; omega
          · rw [if_neg (fun z => b z.2), if_neg b]; omega
        · rw [hg q (by omega) a]
          have e1 : (if p0 < q + 1 ∧ f m < f n then 1 else 0 : Nat) = (if p0 < q ∧ f m < f n then 1 else 0) := by
            by_cases c : p0 < q ∧ f m < f n
            · rw [if_pos c, if_pos ⟨by omega, c.2⟩]
            · rw [if_neg c, if_neg (fun z => c ⟨by omega, z.2⟩)]
          have e2 : (if p0 < q + 1 then 1 else 0 : Nat) = (if p0 < q then 1 else 0) := by
            by_cases c : p0 < q
            · rw [if_pos c, if_pos (by omega)]
            · rw [if_neg c, if_neg (by omega)]
          rw [e1, e2]
          omega
    have c1 : ∀ m, p0 < m → m ≤ n → iv f 0 m + ivP (byp f n) 0 p0 p0 + bhd f p0 (f n) m = iv (byp f n) 0 m + (m - 1 - p0) := by
      intro m
      induction m with
      | zero => intro h1; omega
      | succ m ih =>
        intro h1 h2
        show iv f 0 m + ivP f 0 m m + ivP (byp f n) 0 p0 p0 + (bhd f p0 (f n) m + if p0 < m ∧ f m < f n then 1 else 0) = iv (byp f n) 0 m + ivP (byp f n) 0 m m + (m + 1 - 1 - p0)
        by_cases a : m = p0
        · subst a
          rw [hr0, bhd_0 m (by omega), h0, if_neg (fun z => by have := z.1; omega)]
          omega
        · have i := ih (by omega) (by omega)
          have r := hrow m (by omega) (by omega) m (Nat.le_refl m)
          rw [if_pos (show p0 < m by omega)] at r
          omega
    have c2 : ∀ m, p0 < m → m ≤ n → ivP f 0 n m + bhd f p0 (f n) m = ivP (byp f n) 0 p0 p0 + 1 + (m - 1 - p0) := by
      intro m
      induction m with
      | zero => intro h1; omega
      | succ m ih =>
        intro h1 h2
        show ivP f 0 n (m + 1) + (bhd f p0 (f n) m + if p0 < m ∧ f m < f n then 1 else 0) = _
        rw [ivP_s]
        by_cases a : m = p0
        · subst a
          rw [bhd_0 m (by omega), e0, if_pos ha, if_neg (fun z => by have := z.1; omega), ivP_eq (f := f) (g := byp f n) (p := n) (p' := m) hg0.symm m (fun q hq => (hg q (by omega) (by omega)).symm)]
          omega
        · have i := ih (by omega) (by omega)
          have hx := hna m (by omega)
          by_cases b : f m < f n
          · rw [if_neg (show ¬ f n < f m by omega), if_pos ⟨by omega, b⟩]; omega
          · rw [if_pos (show f n < f m by omega), if_neg (fun z => b z.2)]; omega
    have d1 := c1 n hpn (Nat.le_refl n)
    have d2 := c2 n hpn (Nat.le_refl n)
    rw [if_neg e]
    omega
theorem ct_le (P : Nat → Prop) : ∀ k, ct P k ≤ k
  | 0 => Nat.le_refl 0
  | k + 1 => by
    have ih := ct_le P k
    show ct P k + on (P k) ≤ k + 1
    by_cases q : P k
    · rw [on_t q]; omega
    · rw [on_f q]; omega
end SIGN
theorem inv_rings : ∀ (n : Nat) (f : Nat → Nat), Pn n f → (iv f 0 n + ct (Ld f) n + n) % 2 = 0
  | 0, _, _ => rfl
  | n + 1, f, h => by
    have ih := inv_rings n (byp f n) (byp_Pn h)
    have h1 := iv_byp h
    have h2 := Ld_ct h
    rw [h2]
    by_cases e : f n = n
    · rw [if_pos e] at h1 ⊢
      omega
    · rw [if_neg e] at h1 ⊢
      omega
theorem hrS_bit {x : Nat} (hP : Pn 7 (d8 x)) : ∀ p, p ≤ 7 → ∀ v, (hrS x p).testBit v = true ↔ ∃ q, q < p ∧ Ob (d8 x) q v
  | 0, _, v => by
    show (0 : Nat).testBit v = true ↔ _
    rw [Nat.zero_testBit]
    exact ⟨fun h => absurd h (by decide), fun ⟨q, h, _⟩ => absurd h (Nat.not_lt_zero q)⟩
  | p + 1, hp, v => by
    have ih := hrS_bit hP p (by omega)
    by_cases e : (hrS x p).testBit p = true
    · rw [← hrS_t e, ih v]
      obtain ⟨q', q1, q2⟩ := (ih p).mp e
      refine ⟨fun ⟨q, h1, h2⟩ => ⟨q, by omega, h2⟩, fun ⟨q, h1, h2⟩ => ?_⟩
      by_cases a : q = p
      · subst a
        exact ⟨q', q1, q2.tr h2⟩
      · exact ⟨q, by omega, h2⟩
    · have e : (hrS x p).testBit p = false := by
        cases q : (hrS x p).testBit p with
        | false => rfl
        | true => exact absurd q e
      rw [← hrS_f e, Nat.testBit_or, Bool.or_eq_true, ih v, rg_bit hP (by omega)]
      refine ⟨fun h => ?_, fun ⟨q, h1, h2⟩ => ?_⟩
      · rcases h with ⟨q, h1, h2⟩ | h
        · exact ⟨q, by omega, h2⟩
        · exact ⟨p, Nat.lt_succ_self p, h⟩
      · by_cases a : q = p
        · subst a; exact Or.inr h2
        · exact Or.inl ⟨q, by omega, h2⟩
theorem hr_ct {x : Nat} (hP : Pn 7 (d8 x)) : ∀ p, p ≤ 7 → hr x p = ct (Ld (d8 x)) p
  | 0, _ => rfl
  | p + 1, hp => by
    have ih := hr_ct hP p (by omega)
    show (if (hrS x p).testBit p = true then hr x p else hr x p + 1) = ct (Ld (d8 x)) p + on (Ld (d8 x) p)
    have hb := hrS_bit hP p (by omega) p
    by_cases e : (hrS x p).testBit p = true
    · obtain ⟨q, q1, q2⟩ := hb.mp e
      have hL : ¬ Ld (d8 x) p := fun a => a q q1 (q2.sy hP (by have := q2.lt hP (by omega); omega))
      rw [if_pos e, ih, on_f hL]
      rfl
    · have hL : Ld (d8 x) p := fun q hq ho => e (hb.mpr ⟨q, hq, ho.sy hP (by omega)⟩)
      rw [if_neg e, ih, on_t hL]
theorem sign_is {n x : Nat} (hn : n ≤ 7) (hx : Mv n x) : sgC x n = sg n x := by
  have h1 := inv_rings n (d8 x) hx.2.1
  have h2 := hr_ct (hx.P7 hn) n hn
  have h3 := hr_le x n
  have h4 : (n - hr x n) % 2 = iv (d8 x) 0 n % 2 := by omega
  unfold sgC sg sgv
  rw [h4]
/-! order: the least number that all rings' lengths divide -/
def orP (x : Nat) : Nat → Nat
  | 0 => x
  | t + 1 => c7 (orP x t) x
section ORDER
variable {x : Nat}
theorem orP_lt (hx : x < 2 ^ (3 * 7)) : ∀ t, orP x t < 2 ^ (3 * 7)
  | 0 => hx
  | t + 1 => c7_lt _ _
theorem orP_d (hP : Pn 7 (d8 x)) {p : Nat} (hp : p < 7) : ∀ t, d8 (orP x t) p = it (d8 x) (t + 1) p
  | 0 => rfl
  | t + 1 => by
    show d8 (c7 (orP x t) x) p = d8 x (it (d8 x) (t + 1) p)
    rw [c7_d hp, orP_d hP hp t]
theorem it_dvd (hP : Pn 7 (d8 x)) {p : Nat} (hp : p < 7) (k : Nat) : it (d8 x) k p = p ↔ ln x p ∣ k := by
  obtain ⟨a1, a2, a3, a4⟩ := ln_Pd hP hp
  refine ⟨fun h => ?_, fun ⟨m, hm⟩ => by rw [hm]; exact it_mul a3 m⟩
  have h1 := it_mod a3 k
  rw [h] at h1
  refine Nat.dvd_of_mod_eq_zero (Classical.byContradiction fun q => a4 (k % ln x p) (by omega) (Nat.mod_lt _ a1) h1)
theorem olc_lcm (l : Nat → Nat) (p : Nat) : olc l (p + 1) = Nat.lcm (olc l p) (l p) := by
  show olc l p / Nat.gcd (olc l p) (l p) * l p = olc l p * l p / Nat.gcd (olc l p) (l p)
  rw [Nat.mul_comm (olc l p) (l p), Nat.mul_div_assoc (l p) (Nat.gcd_dvd_left _ _), Nat.mul_comm]
theorem olc_dvd (l : Nat → Nat) : ∀ m k, olc l m ∣ k ↔ ∀ i, i < m → l i ∣ k
  | 0, k => ⟨fun _ i hi => absurd hi (Nat.not_lt_zero i), fun _ => Nat.one_dvd k⟩
  | m + 1, k => by
    rw [olc_lcm]
    refine ⟨fun h i hi => ?_, fun h => Nat.lcm_dvd ((olc_dvd l m k).mpr (fun i hi => h i (by omega))) (h m (Nat.lt_succ_self m))⟩
    by_cases e : i = m
    · rw [e]; exact Nat.dvd_trans (Nat.dvd_lcm_right _ _) h
    · exact (olc_dvd l m k).mp (Nat.dvd_trans (Nat.dvd_lcm_left _ _) h) i (by omega)
theorem orP_still (hx : x < 2 ^ (3 * 7)) (hP : Pn 7 (d8 x)) (t : Nat) : orP x t = 1754760 ↔ olc (ln x) 7 ∣ t + 1 := by
  rw [olc_dvd]
  refine ⟨fun h i hi => (it_dvd hP hi _).mp ?_, fun h => d8_ext 7 _ _ (orP_lt hx t) (by decide) (fun p hp => ?_)⟩
  · rw [← orP_d hP hi, h, e7_d i hi]
  · rw [orP_d hP hp, e7_d p hp]
    exact (it_dvd hP hp _).mpr (h p hp)
theorem ocL_is (hx : x < 2 ^ (3 * 7)) (hP : Pn 7 (d8 x)) : ∀ k t, t + 1 ≤ olc (ln x) 7 → olc (ln x) 7 ≤ t + 1 + k → ocL x k (orP x t) (t + 1) = olc (ln x) 7
  | 0, t, h1, h2 => by
    show t + 1 = _
    omega
  | k + 1, t, h1, h2 => by
    show (if orP x t = 1754760 then t + 1 else ocL x k (c7 (orP x t) x) (t + 1 + 1)) = _
    by_cases e : orP x t = 1754760
    · rw [if_pos e]
      have := Nat.le_of_dvd (by omega) ((orP_still hx hP t).mp e)
      omega
    · rw [if_neg e]
      have : t + 1 ≠ olc (ln x) 7 := fun q => e ((orP_still hx hP t).mpr (by rw [q]; exact Nat.dvd_refl _))
      exact ocL_is hx hP k (t + 1) (by omega) (by omega)
theorem ln_sum (hP : Pn 7 (d8 x)) : 1 * rl x 1 7 + (2 * rl x 2 7 + (3 * rl x 3 7 + (4 * rl x 4 7 + (5 * rl x 5 7 + (6 * rl x 6 7 + 7 * rl x 7 7))))) = 7 := by
  rw [← pl_rl hP 1, ← pl_rl hP 2, ← pl_rl hP 3, ← pl_rl hP 4, ← pl_rl hP 5, ← pl_rl hP 6, ← pl_rl hP 7]
  unfold ct
  rw [← sm_add, ← sm_add, ← sm_add, ← sm_add, ← sm_add, ← sm_add]
  rw [sm_congr (g := fun _ => 1) 7 (fun p hp => ?_)]
  · rfl
  · obtain ⟨a1, a2, _⟩ := ln_Pd hP hp
    show on (ln x p = 1) + (on (ln x p = 2) + (on (ln x p = 3) + (on (ln x p = 4) + (on (ln x p = 5) + (on (ln x p = 6) + on (ln x p = 7)))))) = 1
    have ho : ∀ L, on (ln x p = L) = if ln x p = L then 1 else 0 := fun L => by
      by_cases q : ln x p = L
      · rw [on_t q, if_pos q]
      · rw [on_f q, if_neg q]
    simp only [ho]
    rcases (show ln x p = 1 ∨ ln x p = 2 ∨ ln x p = 3 ∨ ln x p = 4 ∨ ln x p = 5 ∨ ln x p = 6 ∨ ln x p = 7 by omega) with e | e | e | e | e | e | e <;> rw [e] <;> rfl
theorem olc_12 (hP : Pn 7 (d8 x)) : 1 ≤ olc (ln x) 7 ∧ olc (ln x) 7 ≤ 12 := by
  have hs := ln_sum hP
  have hc : ∀ p, p < 7 → 1 ≤ rl x (ln x p) 7 ∧ 1 ≤ ln x p ∧ ln x p ≤ 7 := fun p hp => by
    obtain ⟨a1, a2, _⟩ := ln_Pd hP hp
    have h1 := sm_ge (f := fun i => on (ln x i = ln x p)) 7 hp
    have h2 : ct (fun i => ln x i = ln x p) 7 = ln x p * rl x (ln x p) 7 := pl_rl hP _
    have h1 : on (ln x p = ln x p) ≤ ct (fun i => ln x i = ln x p) 7 := h1
    rw [on_t rfl, h2] at h1
    refine ⟨?_, a1, a2⟩
    cases q : rl x (ln x p) 7 with
    | zero => rw [q, Nat.mul_zero] at h1; omega
    | succ k => omega
  have key : ∃ k, 1 ≤ k ∧ k ≤ 12 ∧ ∀ p, p < 7 → ln x p ∣ k := by
    by_cases c7 : rl x 7 7 = 0
    · by_cases c6 : rl x 6 7 = 0
      · by_cases c5 : rl x 5 7 = 0
        · refine ⟨12, by decide, by decide, fun p hp => ?_⟩
          obtain ⟨b1, b2, b3⟩ := hc p hp
          rcases (show ln x p = 1 ∨ ln x p = 2 ∨ ln x p = 3 ∨ ln x p = 4 ∨ ln x p = 5 ∨ ln x p = 6 ∨ ln x p = 7 by omega) with e | e | e | e | e | e | e <;> rw [e] at b1 ⊢ <;> first | decide | (exfalso; omega)
        · refine ⟨10, by decide, by decide, fun p hp => ?_⟩
          obtain ⟨b1, b2, b3⟩ := hc p hp
          rcases (show ln x p = 1 ∨ ln x p = 2 ∨ ln x p = 3 ∨ ln x p = 4 ∨ ln x p = 5 ∨ ln x p = 6 ∨ ln x p = 7 by omega) with e | e | e | e | e | e | e <;> rw [e] at b1 ⊢ <;> first | decide | (exfalso; omega)
      · refine ⟨6, by decide, by decide, fun p hp => ?_⟩
        obtain ⟨b1, b2, b3⟩ := hc p hp
        rcases (show ln x p = 1 ∨ ln x p = 2 ∨ ln x p = 3 ∨ ln x p = 4 ∨ ln x p = 5 ∨ ln x p = 6 ∨ ln x p = 7 by omega) with e | e | e | e | e | e | e <;> rw [e] at b1 ⊢ <;> first | decide | (exfalso; omega)
    · refine ⟨7, by decide, by decide, fun p hp => ?_⟩
      obtain ⟨b1, b2, b3⟩ := hc p hp
      rcases (show ln x p = 1 ∨ ln x p = 2 ∨ ln x p = 3 ∨ ln x p = 4 ∨ ln x p = 5 ∨ ln x p = 6 ∨ ln x p = 7 by omega) with e | e | e | e | e | e | e <;> rw [e] at b1 ⊢ <;> first | decide | (exfalso; omega)
  obtain ⟨k, k1, k2, k3⟩ := key
  have hd := (olc_dvd (ln x) 7 k).mpr k3
  have hle := Nat.le_of_dvd (by omega) hd
  refine ⟨Nat.pos_of_dvd_of_pos hd (by omega), by omega⟩
end ORDER
theorem order_is {n x : Nat} (hn : n ≤ 7) (hx : Mv n x) {l : Nat → Nat} (hl : ∀ p, p < n → l p = lF (d8 x) 7 p) : oC x = olc l n := by
  have hP := hx.P7 hn
  have h1 := olc_12 hP
  have h2 : oC x = olc (ln x) 7 := ocL_is hx.1 hP 11 0 h1.1 (by omega)
  obtain ⟨k, hk⟩ : ∃ k, 7 = n + k := ⟨7 - n, by omega⟩
  have h3 : olc (ln x) 7 = olc (ln x) n := by
    rw [show olc (ln x) 7 = olc (ln x) (n + k) by rw [← hk]]
    exact olc_one k (fun i a b => (ln_Pd hP (show i < 7 by omega)).same ⟨Nat.le_refl 1, by decide, hx.2.2 i a (by omega), fun j c d => by omega⟩)
  rw [h2, h3]
  exact olc_congr n (fun i hi => by rw [hl i hi]; exact lF_Pd (ln_Pd hP (show i < 7 by omega)))
end
