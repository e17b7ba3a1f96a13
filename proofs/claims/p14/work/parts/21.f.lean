/-! powers, counts of the found, parts -/
theorem pw_le2 {e k : Nat} (he : e ≤ 3) (hk : k ≤ 7) : e ^ k ≤ 2187 :=
  Nat.le_trans (Nat.pow_le_pow_left he k) (Nat.le_trans (Nat.pow_le_pow_right (by decide) hk) (by decide))
theorem pw_le {e n : Nat} (he : e ≤ 3) (hn : n ≤ 7) : e ^ n ≤ 2187 := pw_le2 he hn
theorem pw_step {e n c y d : Nat} (h : y < e ^ (n - c)) (hd : d < e) (h1 : 1 ≤ c) (h2 : c ≤ n) : y * e + d < e ^ (n - c + 1) := by
  rw [Nat.pow_succ]
  have h3 : (y + 1) * e ≤ e ^ (n - c) * e := Nat.mul_le_mul_right e h
  rw [Nat.add_mul, Nat.one_mul] at h3
  omega
theorem col_all {n e : Nat} {f g : Nat → Nat} (hf : Pn n f) (h : ∀ p, p < n → g (f p) < e) : ∀ v, v < n → g v < e := by
  intro v hv
  obtain ⟨p, hp, rfl⟩ := inj_surj n f hf v hv
  exact h p hp
theorem cnt_up1 {P : Nat → Nat} {K j : Nat} (hj : j < K) (h : ¬ P j = 1) : cnt (fun i => P i == 1) K < cnt (fun i => up P j 1 i == 1) K ∧ cnt (fun i => P i == 1) K < K := by
  have h1 : (P j == 1) = false := beq_eq_false_iff_ne.mpr h
  constructor
  · refine cnt_lt K (fun i _ hi => ?_) j hj (by rw [up_s]; rfl) h1
    by_cases e : i = j
    · rw [e, up_s]; rfl
    · rw [up_n e]; exact hi
  · have h2 : cnt (fun i => P i == 1) K < cnt (fun _ => true) K := cnt_lt K (fun i _ _ => rfl) j hj rfl h1
    exact Nat.lt_of_lt_of_le h2 (cnt_le _ _)
def jn (r : Nat → Nat) (a c p : Nat) : Nat := if r p = r c then r a else r p
/-- how many parts -/
def Dn (n : Nat) (r : Nat → Nat) : Nat := cnt (fun v => decide (∃ p, p < n ∧ r p = v)) 7
theorem Dn_join {n a c : Nat} {r r' : Nat → Nat} (h : ∀ p, p < n → r' p = jn r a c p) (ha : a < n) (hc : c < n) (hr : ∀ p, r p < 7) (hne : ¬ r a = r c) : Dn n r' < Dn n r := by
  unfold Dn
  refine cnt_lt 7 (fun v _ hv => ?_) (r c) (hr c) (decide_eq_true ⟨c, hc, rfl⟩) (decide_eq_false ?_)
  · obtain ⟨p, hp, e⟩ := of_decide_eq_true hv
    rw [h p hp] at e
    unfold jn at e
    split at e
    · exact decide_eq_true ⟨a, ha, e⟩
    · exact decide_eq_true ⟨p, hp, e⟩
  · rintro ⟨p, hp, e⟩
    rw [h p hp] at e
    unfold jn at e
    split at e
    · exact hne e
    · rename_i g
      exact g e
