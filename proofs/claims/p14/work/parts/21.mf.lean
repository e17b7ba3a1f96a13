/-! what the exact contracts of the class's leaves want -/
theorem fc_end {c t : Nat} (h2 : 2 ≤ c) (hc : t < c) (h : c ≤ t + 1 ∨ c = 2) : fc (c - 1) = fc t := by
  rcases h with h | h
  · rw [show c - 1 = t by omega]
  · subst h
    rcases (show t = 0 ∨ t = 1 by omega) with rfl | rfl <;> rfl
theorem it7_lt (x : Nat) : ∀ k, it7 x k < 2 ^ (3 * 7)
  | 0 => (by decide : 1754760 < 2 ^ (3 * 7))
  | k + 1 => c7_lt _ _
theorem it7_M {n x : Nat} (hn : n ≤ 7) (hx : Mv n x) : ∀ k, Mv n (it7 x k) ∧ ∀ p, p < n → d8 (it7 x k) p = it (d8 x) k p
  | 0 => by
    show Mv n 1754760 ∧ ∀ p, p < n → d8 1754760 p = p
    rw [e7_M hn]
    exact ⟨eM_Mv hn, fun p hp => eM_d hn hp⟩
  | k + 1 => by
    obtain ⟨h1, h2⟩ := it7_M hn hx k
    show Mv n (c7 (it7 x k) x) ∧ ∀ p, p < n → d8 (c7 (it7 x k) x) p = d8 x (it (d8 x) k p)
    rw [c7_M hn h1 hx]
    exact ⟨cM_Mv hn h1 hx, fun p hp => by rw [cM_d hn h1 hx hp, h2 p hp]⟩
/-! the bit with so many below it -/
theorem bit_at {P : Nat → Bool} {i : Nat} : ∀ k, i < cnt P k → ∃ K, K < k ∧ P K = true ∧ cnt P K = i
  | 0, h => absurd h (Nat.not_lt_zero _)
  | k + 1, h => by
    by_cases e : i < cnt P k
    · obtain ⟨K, h1, h2, h3⟩ := bit_at k e
      exact ⟨K, by omega, h2, h3⟩
    · have h : i < cnt P k + (if P k = true then 1 else 0) := h
      by_cases q : P k = true
      · rw [if_pos q] at h
        exact ⟨k, Nat.lt_succ_self k, q, by omega⟩
      · rw [if_neg q] at h
        omega
theorem bit_ne0 {m c K : Nat} (h : c ≤ K) (hK : m.testBit K = true) (h0 : m.testBit c = false) : c + 1 ≤ K := by
  refine Nat.lt_of_le_of_ne h (fun e => ?_)
  rw [e, hK] at h0
  exact absurd h0 (by decide)
theorem bit_ne1 {m c K i : Nat} (h : c ≤ K) (hK : cnt (fun z => m.testBit z) K = i) (h0 : ¬ cnt (fun z => m.testBit z) c = i) : c + 1 ≤ K := by
  refine Nat.lt_of_le_of_ne h (fun e => ?_)
  rw [e] at h0
  exact h0 hK
/-! the move with a number, place by place -/
def WN (k num c y2 y3 y4 : Nat) : Prop :=
  y2 < 2 ^ (3 * 7) ∧ num = nuC (d8 y2) k c * fc (k - c) + y3 ∧ y3 < fc (k - c) ∧ ((∀ j, j < c → d8 y2 j < k) ∧ ∀ i j, i < c → j < c → d8 y2 i = d8 y2 j → i = j) ∧ FM k (d8 y2) c y4 ∧ ∀ p, c ≤ p → p < 7 → d8 y2 p = p
theorem WN_0 {k num : Nat} (h : num < fc k) (hk : k ≤ 7) : WN k num 0 1754760 num (2 ^ k - 1) :=
  ⟨by decide, by show num = 0 * fc (k - 0) + num; rw [Nat.zero_mul, Nat.zero_add], h, ⟨fun j hj => absurd hj (Nat.not_lt_zero j), fun i j hi => absurd hi (Nat.not_lt_zero i)⟩, FM_0 hk _, fun p _ hp => e7_d p hp⟩
theorem fc_sub {k c : Nat} (h : c < k) : fc (k - c) = fc (k - 1 - c) * (k - c) := by
  obtain ⟨j, hj⟩ : ∃ j, k - c = j + 1 := ⟨k - c - 1, by omega⟩
  rw [hj, show k - 1 - c = j by omega]
  rfl
theorem WN_idx {k num c y2 y3 y4 : Nat} (hk : k ≤ 7) (hc : c < k) (h : WN k num c y2 y3 y4) : y3 / fc (k - 1 - c) < cnt (fun z => y4.testBit z) 7 := by
  obtain ⟨_, _, h3, h4, h5, _⟩ := h
  rw [FM_all hk (by omega) h4.1 h4.2 h5]
  rw [fc_sub hc] at h3
  exact Nat.div_lt_of_lt_mul h3
theorem WN_s {k num c y2 y3 y4 g : Nat} (hk : k ≤ 7) (hc : c < k) (h : WN k num c y2 y3 y4) (hb : g < 7 ∧ y4.testBit g = true ∧ cnt (fun z => y4.testBit z) g = y3 / fc (k - 1 - c)) : WN k num (c + 1) (w8 y2 c g) (y3 - y3 / fc (k - 1 - c) * fc (k - 1 - c)) (y4 &&& nt (2 ^ g)) := by
  obtain ⟨h1, h2, h3, h4, h5, h6⟩ := h
  obtain ⟨b1, b2, b3⟩ := hb
  obtain ⟨f1, f2⟩ := FM_at h5 b2
  have hd : ∀ q, q < 8 → d8 (w8 y2 c g) q = if q = c then g else d8 y2 q := fun q hq => w8_d (by omega) (by omega) hq
  have hdc : d8 (w8 y2 c g) c = g := by rw [hd c (by omega), if_pos rfl]
  have hdn : ∀ q, q < 8 → q ≠ c → d8 (w8 y2 c g) q = d8 y2 q := fun q hq e => by rw [hd q hq, if_neg e]
  have hdl : ∀ j, j < c → d8 y2 j = d8 (w8 y2 c g) j := fun j hj => (hdn j (by omega) (by omega)).symm
  have hcF : cF (d8 (w8 y2 c g)) c = y3 / fc (k - 1 - c) := by
    rw [← b3]
    unfold cF
    rw [hdc]
    refine cnt_add g (fun v hv => ?_)
    show (!usd (d8 (w8 y2 c g)) v c) = y4.testBit v
    rw [h5.2 v, decide_eq_true (by omega), Bool.true_and, usd_congr c hdl]
  have hw : 0 < fc (k - 1 - c) := fc_pos _
  have hdm : y3 / fc (k - 1 - c) * fc (k - 1 - c) ≤ y3 := Nat.div_mul_le_self _ _
  have hmod : y3 - y3 / fc (k - 1 - c) * fc (k - 1 - c) = y3 % fc (k - 1 - c) := by
    have := Nat.div_add_mod y3 (fc (k - 1 - c))
    rw [Nat.mul_comm] at this
    omega
  have hkc : k - (c + 1) = k - 1 - c := by omega
  refine ⟨w8_lt h1 (by omega) (by omega), ?_, ?_, ⟨fun j hj => ?_, fun i j hi hj e => ?_⟩, ?_, fun p h7 hp => ?_⟩
  · show num = (nuC (d8 (w8 y2 c g)) k c * (k - c) + cF (d8 (w8 y2 c g)) c) * fc (k - (c + 1)) + _
    rw [hcF, ← nuC_congr c hdl, hkc, Nat.add_mul, Nat.mul_assoc, Nat.mul_comm (k - c), ← fc_sub hc, Nat.add_assoc, Nat.add_sub_cancel' hdm]
    exact h2
  · rw [hmod, hkc]
    exact Nat.mod_lt _ hw
  · by_cases q : j = c
    · rw [q, hdc]; exact f1
    · rw [hdn j (by omega) q]; exact h4.1 j (by omega)
  · by_cases a : i = c
    · by_cases b : j = c
      · omega
      · rw [a, hdc, hdn j (by omega) b] at e
        exact absurd e.symm (f2 j (by omega))
    · by_cases b : j = c
      · rw [b, hdc, hdn i (by omega) a] at e
        exact absurd e (f2 i (by omega))
      · rw [hdn i (by omega) a, hdn j (by omega) b] at e
        exact h4.2 i j (by omega) (by omega) e
  · have h8 := FM_s (k := c) (by rw [hdc]; omega) (h5.congr hdl)
    rw [hdc] at h8
    exact h8
  · rw [hdn p (by omega) (by omega)]
    exact h6 p (by omega) hp
theorem WN_end {k num c y2 y3 y4 : Nat} (hb : num < fc k) (h1 : 1 ≤ k) (hk : k ≤ 7) (hc : c = k) (h : WN k num c y2 y3 y4) : y2 = mkM k (rwF k num) := by
  subst hc
  obtain ⟨a1, a2, a3, a4, _, a6⟩ := h
  rw [Nat.sub_self] at a2 a3
  have e0 : y3 = 0 := by
    have : y3 < 1 := a3
    omega
  have hP : Pn c (d8 y2) := a4
  have e1 : nuF (d8 y2) 0 c c = num := by
    rw [← nuC_F hP c (Nat.le_refl c), a2, e0]
    show nuC (d8 y2) c c = nuC (d8 y2) c c * 1 + 0
    rw [Nat.mul_one, Nat.add_zero]
  have e2 := nu_inj hP (rwF_Pn h1) (e1.trans (nu_rw h1 hb).symm)
  have hM : Mv c y2 := ⟨a1, hP, a6⟩
  refine hM.ext (mkM_Mv hk (rwF_Pn h1)) (fun p hp => ?_)
  rw [mkM_d hk (rwF_Pn h1).1 hp]
  exact e2 p hp
/-! where a mask is brought -/
def img (f : Nat → Nat) (mk v : Nat) : Nat → Bool
  | 0 => false
  | k + 1 => img f mk v k || (mk.testBit k && decide (f k = v))
theorem img_0 (f : Nat → Nat) (mk : Nat) : 0 < 2 ^ 8 ∧ ∀ v, (0 : Nat).testBit v = img f mk v 0 := ⟨by decide, fun v => Nat.zero_testBit v⟩
theorem img_1 {f : Nat → Nat} {mk y c : Nat} (h8 : f c < 8) (hm : mk.testBit c = true) (h : y < 2 ^ 8 ∧ ∀ v, y.testBit v = img f mk v c) : (y ||| 2 ^ f c) < 2 ^ 8 ∧ ∀ v, (y ||| 2 ^ f c).testBit v = img f mk v (c + 1) := by
  refine ⟨Nat.or_lt_two_pow h.1 (Nat.pow_lt_pow_right (by decide) h8), fun v => ?_⟩
  rw [set_bit, h.2 v]
  show _ = (img f mk v c || (mk.testBit c && decide (f c = v)))
  rw [hm, Bool.true_and]
theorem img_n {f : Nat → Nat} {mk y c : Nat} (hm : mk.testBit c = false) (h : y < 2 ^ 8 ∧ ∀ v, y.testBit v = img f mk v c) : y < 2 ^ 8 ∧ ∀ v, y.testBit v = img f mk v (c + 1) := by
  refine ⟨h.1, fun v => ?_⟩
  rw [h.2 v]
  show _ = (img f mk v c || (mk.testBit c && decide (f c = v)))
  rw [hm, Bool.false_and, Bool.or_false]
theorem img_ex {f : Nat → Nat} {mk v : Nat} : ∀ k, img f mk v k = true → ∃ p, p < k ∧ mk.testBit p = true ∧ f p = v
  | 0, h => absurd (show false = true from h) (by decide)
  | k + 1, h => by
    rcases Bool.or_eq_true _ _ |>.mp (show (img f mk v k || (mk.testBit k && decide (f k = v))) = true from h) with h | h
    · obtain ⟨p, h1, h2⟩ := img_ex k h
      exact ⟨p, by omega, h2⟩
    · obtain ⟨h1, h2⟩ := Bool.and_eq_true _ _ |>.mp h
      exact ⟨k, Nat.lt_succ_self k, h1, of_decide_eq_true h2⟩
theorem img_of {f : Nat → Nat} {mk v : Nat} : ∀ k p, p < k → mk.testBit p = true → f p = v → img f mk v k = true
  | 0, _, hp, _, _ => absurd hp (Nat.not_lt_zero _)
  | k + 1, p, hp, h1, h2 => by
    show (img f mk v k || (mk.testBit k && decide (f k = v))) = true
    by_cases q : p = k
    · subst q
      rw [h1, decide_eq_true h2, Bool.true_and, Bool.or_true]
    · rw [img_of k p (by omega) h1 h2, Bool.true_or]
/-! rings -/
def Pd (f : Nat → Nat) (n p K : Nat) : Prop := 1 ≤ K ∧ K ≤ n ∧ it f K p = p ∧ ∀ j, 1 ≤ j → j < K → it f j p ≠ p
theorem Pd_ex {n : Nat} {f : Nat → Nat} (h : Pn n f) {p : Nat} (hp : p < n) : ∃ K, Pd f n p K := it_ret h hp
theorem Pd.same {n : Nat} {f : Nat → Nat} {p K K' : Nat} (h : Pd f n p K) (h' : Pd f n p K') : K = K' := by
  obtain ⟨a1, _, a3, a4⟩ := h
  obtain ⟨b1, _, b3, b4⟩ := h'
  refine Classical.byContradiction fun e => ?_
  rcases Nat.lt_or_gt_of_ne e with h | h
  · exact b4 K a1 h a3
  · exact a4 K' b1 h b3
theorem it_back {n : Nat} {f : Nat → Nat} (h : Pn n f) {p : Nat} (hp : p < n) {a b : Nat} (hab : a ≤ b) (e : it f a p = it f b p) : it f (b - a) p = p := by
  have e2 : it f (a + (b - a)) p = it f b p := by rw [show a + (b - a) = b by omega]
  rw [it_add] at e2
  exact it_inj h (it_lt h hp (b - a)) hp a (e2.trans e.symm)
theorem Pd.inj {n : Nat} {f : Nat → Nat} (h : Pn n f) {p K : Nat} (hp : p < n) (hK : Pd f n p K) {a b : Nat} (ha : a < K) (hb : b < K) (e : it f a p = it f b p) : a = b := by
  refine Classical.byContradiction fun ne => ?_
  rcases Nat.lt_or_gt_of_ne ne with h1 | h1
  · exact hK.2.2.2 (b - a) (by omega) (by omega) (it_back h hp (by omega) e)
  · exact hK.2.2.2 (a - b) (by omega) (by omega) (it_back h hp (by omega) e.symm)
theorem ring_0 (f : Nat → Nat) : 0 < 2 ^ 7 ∧ ∀ v, (0 : Nat).testBit v = usd f v 0 := ⟨by decide, fun v => Nat.zero_testBit v⟩
theorem ring_s {f : Nat → Nat} {p c y2 y3 : Nat} (h7 : y3 < 7) (h3 : y3 = it f c p) (h : y2 < 2 ^ 7 ∧ ∀ v, y2.testBit v = usd (fun j => it f j p) v c) : (y2 ||| 2 ^ y3) < 2 ^ 7 ∧ ∀ v, (y2 ||| 2 ^ y3).testBit v = usd (fun j => it f j p) v (c + 1) := by
  refine ⟨Nat.or_lt_two_pow h.1 (Nat.pow_lt_pow_right (by decide) h7), fun v => ?_⟩
  rw [set_bit, h.2 v, h3]
  rfl
theorem ring_lt {n : Nat} {f : Nat → Nat} (hP : Pn n f) {p K c y2 y3 : Nat} (hp : p < n) (hK : Pd f n p K) (hc : c ≤ K) (h : y2 < 2 ^ 7 ∧ ∀ v, y2.testBit v = usd (fun j => it f j p) v c) (h3 : y3 = it f c p) (h0 : y2.testBit y3 = false) : c + 1 ≤ K := by
  refine Nat.lt_of_le_of_ne hc (fun e => ?_)
  rw [h.2 y3, h3, e, hK.2.2.1, usd_of (f := fun j => it f j p) (v := p) K 0 (show 0 < K from hK.1) rfl] at h0
  exact absurd h0 (by decide)
theorem ring_end {f : Nat → Nat} (hP : Pn 7 f) {p K c y2 y3 : Nat} (hp : p < 7) (hK : Pd f 7 p K) (hc : c ≤ K) (h : y2 < 2 ^ 7 ∧ ∀ v, y2.testBit v = usd (fun j => it f j p) v c) (h3 : y3 = it f c p) (h0 : 7 ≤ c ∨ y2.testBit y3 = true) : y2 < 2 ^ 7 ∧ ∃ K, Pd f 7 p K ∧ ∀ v, y2.testBit v = usd (fun j => it f j p) v K := by
  have e : c = K := by
    rcases h0 with h0 | h0
    · have := hK.2.1
      omega
    · rw [h.2 y3] at h0
      obtain ⟨j, hj, ej⟩ := usd_ex c h0
      have ej : it f j p = y3 := ej
      refine Classical.byContradiction fun ne => ?_
      have := hK.inj hP hp (a := j) (b := c) (by omega) (by omega) (ej.trans h3)
      omega
  subst e
  exact ⟨h.1, c, hK, h.2⟩
theorem ring_len {f : Nat → Nat} (hP : Pn 7 f) {p K r : Nat} (hp : p < 7) (hK : Pd f 7 p K) (hr : r < 2 ^ 7) (h : ∀ v, r.testBit v = usd (fun j => it f j p) v K) : Pd f 7 p (pc32 (nI r)) := by
  have e : pc32 (nI r) = K := by
    rw [pc32_nI (by omega), cnt_add (P := fun i => r.testBit i) (Q := fun v => usd (fun j => it f j p) v K) 32 (fun v _ => h v),
      cnt_usd (f := fun j => it f j p) 32 K (fun i j hi hj e => hK.inj hP hp hi hj e),
      cnt_add (P := fun j => decide (it f j p < 32)) (Q := fun _ => true) K (fun j _ => decide_eq_true (by have := it_lt hP hp j; omega)), cnt_all]
  rw [e]
  exact hK
