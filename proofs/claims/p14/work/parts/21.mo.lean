/-! what the house's acts want -/
theorem nI_nn {x : Int32} (h : 0 ≤ x) : ∃ k : Nat, k < 2 ^ 31 ∧ x = nI k := by
  have h1 := Int32.le_iff_toInt_le.mp h
  have h0 : (0 : Int32).toInt = 0 := by decide
  have h2 := x.toInt_lt
  refine ⟨x.toInt.toNat, by omega, ?_⟩
  apply Int32.toInt_inj.mp
  rw [nI_toInt (by omega)]
  omega
theorem lay_no {x : Int32} {k : Nat} (hk : 1 ≤ k) (hk2 : k ≤ 5040) (h : ¬ (nI 0 ≤ x ∧ x ≤ nI (k - 1))) : ¬ isN x k := fun g => by
  obtain ⟨b, h1, e⟩ := g
  rw [e] at h
  exact h ⟨nI_le (by omega) (by omega), nI_le (by omega) (by omega)⟩
/-- the remainder that is never below nought -/
def fmI (x y : Int32) : Int32 := if (x ^^^ y) < 0 then (if (x - x / y * y) = 0 then x - x / y * y else x - x / y * y + y) else x - x / y * y
theorem fm_m : ∀ n, n < 8 → 2 ≤ n → ∀ m, m < 208 → fmI (nI m - nI 100) (nI n) = nI ((m + 100 * n - 100) % n) := by decide +kernel
theorem fm_d : ∀ n, n < 8 → 2 ≤ n → ∀ p, p < 7 → ∀ k, k < 201 → fmI (nI p + (nI k - nI 100)) (nI n) = nI ((p + (k + 100 * n - 100)) % n) := fun n hn hn2 p hp k hk => by
  rw [sh_p, fm_m n hn hn2 (p + k) (by omega), show p + k + 100 * n - 100 = p + (k + 100 * n - 100) by omega]
theorem tT_k {n k : Nat} (hn : 2 ≤ n) (hk : k ≤ 200) : tT n (nI k - nI 100) = k + 100 * n - 100 := by
  unfold tT
  rw [pk_sub_toInt (a := k) (b := 100) (by omega) (by omega)]
  omega
theorem turn_f {n p : Nat} (hn1 : 2 ≤ n) (hn2 : n ≤ 7) (hp : p < n) {c : Int32} (h1 : (-100) ≤ c) (h2 : c ≤ nI 100) : fmI (nI p + c) (nI n) = nI ((p + tT n c) % n) := by
  obtain ⟨k, hk, rfl⟩ := k100 h1 h2
  rw [tT_k hn1 hk]
  exact fm_d n (by omega) hn1 p (by omega) k (by omega)
theorem turn_r {n p : Nat} (hn1 : 2 ≤ n) (hn2 : n ≤ 7) (hp : p < n) {c : Int32} (h1 : (-100) ≤ c) (h2 : c ≤ nI 100) :
    (((nI p + c) - (nI p + c) / nI n * nI n) + nI n) - (((nI p + c) - (nI p + c) / nI n * nI n) + nI n) / nI n * nI n = nI ((p + tT n c) % n) := by
  obtain ⟨k, hk, rfl⟩ := k100 h1 h2
  rw [tT_k hn1 hk]
  exact turn_d n (by omega) hn1 p (by omega) k (by omega)
theorem k1000 {c : Int32} (h1 : (-1000) ≤ c) (h2 : c ≤ nI 1000) : ∃ k : Nat, k ≤ 2000 ∧ c = nI k - nI 1000 := int_of (c := c) (b := 1000) (by decide) (by have := Int32.le_iff_toInt_le.mp h1; have e : (-1000 : Int32).toInt = -1000 := (by decide); omega) (by have := Int32.le_iff_toInt_le.mp h2; rw [nI_toInt (by decide)] at this; omega)
theorem tP_k {k : Nat} (hk : k ≤ 2000) : tP (nI k - nI 1000) = k + 260 := by
  unfold tP
  rw [pk_sub_toInt (a := k) (b := 1000) (by omega) (by omega)]
  omega
theorem pow_r {c : Int32} (h1 : (-1000) ≤ c) (h2 : c ≤ nI 1000) {K : Nat} (hK1 : 1 ≤ K) (hK2 : K ≤ 7) : ((c - c / nI K * nI K) + nI K) - ((c - c / nI K * nI K) + nI K) / nI K * nI K = nI (tP c % K) := by
  obtain ⟨k, hk, rfl⟩ := k1000 h1 h2
  rw [tP_k hk]
  have := pow_d K (by omega) hK1 (k / 50) (by omega) (k % 50) (by omega)
  rw [show 50 * (k / 50) + k % 50 = k by omega] at this
  exact this
section NTH
variable {n ro : Nat} {st sv rc sz kw : Nat → Nat} {ns : Nat} {G : Nat → Prop}
theorem nth_cd (h1 : 1 ≤ n) (hn : n ≤ 7) (h : CI n ro st sv rc kw ns) (hG : ∀ x, CP n (RC rc) (ST st) n x ↔ G x) (hs : sz 0 = zF rc n n) : sz 0 = cd n G := by
  rw [hs, ← zF_is h1 hn h.2.1 h.2.2.1 n (Nat.le_refl n)]
  exact cd_iff h1 hn (fun x _ => hG x)
theorem GK_iff (h1 : 1 ≤ n) (hn : n ≤ 7) {T T' : Nat → Prop} {rd : Nat → Nat} {rank y : Nat} (hT : ∀ x, Mv n x → (T x ↔ T' x)) (h : GK n T rd rank y) : GK n T' rd rank y := by
  obtain ⟨lf, a0, a⟩ := h
  have hW : ∀ l p, WT n T rd y l p = WT n T' rd y l p := fun l p => cd_iff h1 hn (fun x hx => and_congr_left (fun _ => hT x hx))
  refine ⟨lf, a0, fun l hl => ?_⟩
  obtain ⟨b1, b2⟩ := a l hl
  rw [hW] at b2
  rw [sm_congr (g := WT n T' rd y l) _ (fun i _ => hW l i)] at b1
  exact ⟨b1, b2⟩
theorem nth_GK (h1 : 1 ≤ n) (hn : n ≤ 7) (hG : ∀ x, CP n (RC rc) (ST st) n x ↔ G x) {rank y : Nat} (h : GK n (TL n rc st 1754760) (d8 ro) rank y) : GK n G (d8 ro) rank y := by
  refine GK_iff h1 hn (fun x hx => ?_) h
  unfold TL
  have e : iM n 1754760 = eM n := by
    rw [e7_M hn]
    have h := c_iM hn (eM_Mv hn)
    rw [eM_c hn (iM_Mv hn (eM_Mv hn))] at h
    exact h
  rw [e, cM_e hn hx]
  exact hG x
end NTH
