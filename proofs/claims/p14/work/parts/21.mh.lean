/-! the chain raised: what the contracts want -/
/-- the chain's cells -/
def CM (st sv rc sz kw : Nat → Nat) (ns tk ro nn : Nat) (w : List jC) : Prop :=
  w[2]? = some (.inr (2, [.ref 3, .ref 4, .ref 5, .ref 6, .ref 7, .int (nI ns), .int (nI tk), .int (nI ro), .int (nI nn)])) ∧ w[3]? = some (aF 64 st) ∧ w[4]? = some (aF 64 sv) ∧ w[5]? = some (aF 8 rc) ∧ w[6]? = some (aF 8 sz) ∧ w[7]? = some (aF 21 kw)
def FC (w w' : List jC) : Prop := w'.length = w.length ∧ ∀ i, ¬ (2 ≤ i ∧ i ≤ 7) → w'[i]? = w[i]?
theorem FC.rf {w : List jC} : FC w w := ⟨rfl, fun _ _ => rfl⟩
theorem FC.tr {w w' w'' : List jC} (h : FC w w') (h' : FC w' w'') : FC w w'' := ⟨h'.1.trans h.1, fun i hi => (h'.2 i hi).trans (h.2 i hi)⟩
theorem FC.st {w w' w'' : List jC} {a : Nat} (h : FC w w') (hl : w''.length = w'.length) (hne : ∀ c, c ≠ a → w''[c]? = w'[c]?) (ha : 2 ≤ a ∧ a ≤ 7) : FC w w'' :=
  ⟨hl.trans h.1, fun i hi => (hne i (fun e => hi (by rw [e]; exact ha))).trans (h.2 i hi)⟩
section RAISE
variable {n ro : Nat} {st sv rc kw : Nat → Nat} {ns : Nat}
theorem kw_M (h : CI n ro st sv rc kw ns) {i : Nat} (hi : i < ns) : Mv n (kw i) := by
  obtain ⟨_, hC, _, _, _, hK, _⟩ := h
  obtain ⟨l, g, hl, hg, hr, e⟩ := hK i hi
  rw [e]
  exact ((hC l hl).2.2.2 g hg hr).1
theorem kw_H (h : CI n ro st sv rc kw ns) {H : Nat → Prop} (h2 : Al n rc st H) {i : Nat} (hi : i < ns) : H (kw i) := by
  obtain ⟨_, _, _, _, _, hK, _⟩ := h
  obtain ⟨l, g, hl, hg, hr, e⟩ := hK i hi
  rw [e]
  exact h2 l g hl hg hr
theorem PQ_s {c : Nat} (h : PQ n rc st kw c) (h2 : ∀ j, j < c + 1 → CP n (RC rc) (ST st) n (cM n (kw c) (kw j)) ∧ CP n (RC rc) (ST st) n (cM n (kw j) (kw c))) : PQ n rc st kw (c + 1) := fun i j hi hj => by
  by_cases a : i = c
  · rw [a]
    exact (h2 j hj).1
  · by_cases b : j = c
    · rw [b]
      exact (h2 i hi).2
    · exact h i j (by omega) (by omega)
theorem PW_s (hn : n ≤ 7) {st1 sv1 rc1 kw1 st2 sv2 rc2 kw2 : Nat → Nat} {ns1 ns2 c d : Nat} (hc : c < ns) (hd : d < c + 1) (h : ∀ j, j < d → CP n (RC rc) (ST st) n (cM n (kw c) (kw j)) ∧ CP n (RC rc) (ST st) n (cM n (kw j) (kw c)))
    (h1 : AD n ro st sv rc kw ns (cM n (kw c) (kw d)) st1 sv1 rc1 kw1 ns1) (h2 : AD n ro st1 sv1 rc1 kw1 ns1 (cM n (kw d) (kw c)) st2 sv2 rc2 kw2 ns2) :
    ∀ j, j < d + 1 → CP n (RC rc2) (ST st2) n (cM n (kw2 c) (kw2 j)) ∧ CP n (RC rc2) (ST st2) n (cM n (kw2 j) (kw2 c)) := by
  obtain ⟨_, g1, p1, k1, l1, _⟩ := h1
  obtain ⟨_, g2, p2, k2, _, _⟩ := h2
  have hk : ∀ i, i < ns → kw2 i = kw i := fun i hi => (k2 i (by omega)).trans (k1 i hi)
  intro j hj
  rw [hk c hc, hk j (by omega)]
  by_cases e : j = d
  · rw [e]
    exact ⟨CP_mono g2 n _ (Nat.le_refl n) p1, p2⟩
  · obtain ⟨a, b⟩ := h j (by omega)
    exact ⟨CP_mono (g1.tr g2) n _ (Nat.le_refl n) a, CP_mono (g1.tr g2) n _ (Nat.le_refl n) b⟩
/-- sizes, from the last level on -/
def zF (rc : Nat → Nat) (n : Nat) : Nat → Nat
  | 0 => 1
  | k + 1 => zF rc n k * cnt (fun v => (rc (n - (k + 1))).testBit v) 32
theorem zF_0 {sz : Nat → Nat} : ∀ l, n ≤ l → l ≤ n → up sz n 1 l = zF rc n (n - l) := fun l h1 h2 => by
  have e : l = n := by omega
  rw [e, up_s, Nat.sub_self]
  rfl
theorem zF_s {sz : Nat → Nat} {c : Nat} (hc : 1 ≤ c) (hn : c ≤ n) (h8 : ∀ l, l < n → rc l < 2 ^ 31) (h : ∀ l, c ≤ l → l ≤ n → sz l = zF rc n (n - l)) : ∀ l, c - 1 ≤ l → l ≤ n → up sz (c - 1) (sz (c - 1 + 1) * pc32 (nI (rc (c - 1)))) l = zF rc n (n - l) := fun l h1 h2 => by
  by_cases e : l = c - 1
  · rw [e, up_s, h (c - 1 + 1) (by omega) (by omega), pc32_nI (Nat.lt_trans (h8 (c - 1) (by omega)) (by decide)), show n - (c - 1) = (n - (c - 1 + 1)) + 1 by omega]
    show _ = zF rc n (n - (c - 1 + 1)) * cnt (fun v => (rc (n - (n - (c - 1 + 1) + 1))).testBit v) 32
    rw [show n - (n - (c - 1 + 1) + 1) = c - 1 by omega]
  · rw [up_n e]
    exact h l (by omega) h2
/-- the moves of the first cells of a set -/
def gS (cm : Nat → Nat) (s k y : Nat) : Prop := ∃ c, c < k ∧ s.testBit c = true ∧ y = cm c
theorem gS_M {cm : Nat → Nat} {s k : Nat} (hk : k ≤ 6) (h : ∀ c, c < 6 → Mv n (cm c)) : ∀ y, gS cm s k y → Mv n y := fun y hy => by
  obtain ⟨c, h1, _, e⟩ := hy
  rw [e]
  exact h c (by omega)
theorem RS_s {c : Nat} (hc : c < n) (hn : n ≤ 7) (hM : Mv n ro) (h : ∀ l, l < c → rc l = 2 ^ d8 ro l ∧ st (l * 8 + d8 ro l) = 1754760) : ∀ l, l < c + 1 → up rc c (2 ^ d8 ro c) l = 2 ^ d8 ro l ∧ up st (c * 8 + d8 ro c) 1754760 (l * 8 + d8 ro l) = 1754760 := fun l hl => by
  by_cases e : l = c
  · rw [e, up_s, up_s]
    exact ⟨rfl, rfl⟩
  · have a := hM.2.1.1 c hc
    have b := hM.2.1.1 l (by omega)
    rw [up_n e, up_n (by omega)]
    exact h l (by omega)
theorem RC_0 (h : ∀ l, l < n → rc l = 2 ^ d8 ro l ∧ st (l * 8 + d8 ro l) = 1754760) {l g : Nat} (hl : l < n) (hr : RC rc l g = true) : g = d8 ro l := by
  unfold RC at hr
  rw [(h l hl).1, Nat.testBit_two_pow] at hr
  exact (of_decide_eq_true hr).symm
theorem CI_0 (hn : n ≤ 7) (hM : Mv n ro) (h : ∀ l, l < n → rc l = 2 ^ d8 ro l ∧ st (l * 8 + d8 ro l) = 1754760) : CI n ro st sv rc kw 0 := by
  have h1 : ∀ l, l < n → RC rc l (d8 ro l) = true := fun l hl => by
    unfold RC
    rw [(h l hl).1]
    exact Nat.testBit_two_pow_self
  have hS : ∀ l, l < n → ST st l (d8 ro l) = eM n := fun l hl => by
    unfold ST
    rw [(h l hl).2]
    exact e7_M hn
  refine ⟨hM, fun l hl => ⟨hM.2.1.1 l hl, h1 l hl, hS l hl, fun g hg hr => ?_⟩, fun l g hl hr => ?_, fun l g hl hg hr hne => absurd (RC_0 h hl hr) hne, fun l g hl hg hr hne => absurd (RC_0 h hl hr) hne, fun i hi => absurd hi (Nat.not_lt_zero i), ?_, fun l hl => ?_⟩
  · rw [RC_0 h hl hr, hS l hl]
    exact ⟨eM_Mv hn, fun j hj => eM_d hn (hM.2.1.1 j (by omega)), eM_d hn (hM.2.1.1 l hl)⟩
  · rw [RC_0 h hl hr]
    exact hM.2.1.1 l hl
  · have hz : ∀ k, k ≤ n → nS rc k = 0 := by
      intro k
      induction k with
      | zero => intro _; rfl
      | succ k ih =>
        intro hk
        have a := hM.2.1.1 k (by omega)
        have e : cnt (fun v => (rc k).testBit v) 7 = 1 := by
          rw [← cnt_one (r := d8 ro k) 7 (by omega)]
          refine cnt_add 7 (fun v _ => ?_)
          show (rc k).testBit v = decide (v = d8 ro k)
          rw [(h k (by omega)).1, Nat.testBit_two_pow]
          by_cases q : v = d8 ro k
          · rw [decide_eq_true q, decide_eq_true q.symm]
          · rw [decide_eq_false q, decide_eq_false (fun z => q z.symm)]
        show nS rc k + (cnt (fun v => (rc k).testBit v) 7 - 1) = 0
        rw [ih (by omega), e]
    exact (hz n (Nat.le_refl n)).symm
  · have a := hM.2.1.1 l hl
    rw [(h l hl).1]
    exact Nat.pow_lt_pow_right (by decide) (by omega)
theorem Al_0 (hn : n ≤ 7) (hM : Mv n ro) (h : ∀ l, l < n → rc l = 2 ^ d8 ro l ∧ st (l * 8 + d8 ro l) = 1754760) {gn : Nat → Prop} : Al n rc st (Gg n gn) := fun l g hl hg hr => by
  rw [RC_0 h hl hr]
  unfold ST
  rw [(h l hl).2, e7_M hn]
  exact Gg_e
theorem gS_s {cm : Nat → Nat} {s k : Nat} : ∀ y, gS cm s k y → gS cm s (k + 1) y := fun _ h => by
  obtain ⟨c, h1, h2, h3⟩ := h
  exact ⟨c, by omega, h2, h3⟩
theorem Al_n {cm : Nat → Nat} {s k : Nat} (h : Al n rc st (Gg n (gS cm s k))) : Al n rc st (Gg n (gS cm s (k + 1))) := fun l g hl hg hr => Gg_mono gS_s (h l g hl hg hr)
theorem Al_c {cm : Nat → Nat} {s k : Nat} {st1 sv1 rc1 kw1 st2 rc2 : Nat → Nat} {ns1 : Nat} (hn : n ≤ 7) (hk : k < 6) (hcm : ∀ c, c < 6 → Mv n (cm c)) (h : Al n rc st (Gg n (gS cm s k))) (hb : s.testBit k = true) (had : AD n ro st sv rc kw ns (cm k) st1 sv1 rc1 kw1 ns1)
    (hc : ∀ H : Nat → Prop, Cl n H → Al n rc1 st1 H → Al n rc2 st2 H) : Al n rc2 st2 (Gg n (gS cm s (k + 1))) := by
  have hg := gS_M (s := s) (k := k + 1) (by omega) hcm
  have hcl := Gg_Cl hn hg
  exact hc _ hcl (had.2.2.2.2.2 _ hcl (Al_n h) (Gg_of hn hg ⟨k, Nat.lt_succ_self k, hb, rfl⟩))
theorem CS_n {cm : Nat → Nat} {s k : Nat} (h : ∀ c, c < k → s.testBit c = true → CP n (RC rc) (ST st) n (cm c)) (hb : s.testBit k = false) : ∀ c, c < k + 1 → s.testBit c = true → CP n (RC rc) (ST st) n (cm c) := fun c hc hs => by
  by_cases e : c = k
  · rw [e, hb] at hs
    exact absurd hs (by decide)
  · exact h c (by omega) hs
theorem CS_p {cm : Nat → Nat} {s k : Nat} (h : ∀ c, c < k → s.testBit c = true → CP n (RC rc) (ST st) n (cm c)) (hp : CP n (RC rc) (ST st) n (cm k)) : ∀ c, c < k + 1 → s.testBit c = true → CP n (RC rc) (ST st) n (cm c) := fun c hc hs => by
  by_cases e : c = k
  · rw [e]
    exact hp
  · exact h c (by omega) hs
theorem CS_c {cm : Nat → Nat} {s k : Nat} {st1 sv1 rc1 kw1 st2 rc2 : Nat → Nat} {ns1 : Nat} (h : ∀ c, c < k → s.testBit c = true → CP n (RC rc) (ST st) n (cm c)) (had : AD n ro st sv rc kw ns (cm k) st1 sv1 rc1 kw1 ns1) (hg : GR n rc1 st1 rc2 st2) :
    ∀ c, c < k + 1 → s.testBit c = true → CP n (RC rc2) (ST st2) n (cm c) := fun c hc hs => by
  by_cases e : c = k
  · rw [e]
    exact CP_mono hg n _ (Nat.le_refl n) had.2.2.1
  · exact CP_mono (had.2.1.tr hg) n _ (Nat.le_refl n) (h c (by omega) hs)
/-- what is made up is the group -/
theorem GE_is {cm : Nat → Nat} {s k : Nat} (hn : n ≤ 7) (hk : k = 6) (h : CI n ro st sv rc kw ns) (hQ : PQ n rc st kw ns) (hA : Al n rc st (Gg n (gS cm s k))) (hS : ∀ c, c < k → s.testBit c = true → CP n (RC rc) (ST st) n (cm c)) (hcm : ∀ c, c < 6 → Mv n (cm c)) : ∀ x, CP n (RC rc) (ST st) n x ↔ Gg n (gS cm s 6) x := fun x => by
  subst hk
  refine ⟨fun hx => CP_in hn h.2.1 (Gg_Cl hn (gS_M (Nat.le_refl 6) hcm)) hA n x (Nat.le_refl n) hx, fun hx => ?_⟩
  refine (hx (fun z => Mv n z ∧ CP n (RC rc) (ST st) n z) ⟨eM_Mv hn, CP_e hn h.2.1 n (Nat.le_refl n)⟩ (fun a b ha hz hb => ?_)).2
  obtain ⟨c, h1, h2, e⟩ := hb
  have hcp := hS c h1 h2
  rw [e]
  exact ⟨cM_Mv hn ha (hcm c h1), CP_cM hn h hQ hz.2 hcp⟩
end RAISE
