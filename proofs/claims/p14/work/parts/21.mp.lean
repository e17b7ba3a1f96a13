/-! what the contracts of rings want; powers of either sign; the search for a renamer -/
theorem rgL_7 {x r a c : Nat} (h : 7 ≤ c) : r = rgL x (7 - c) r a := by
  rw [show 7 - c = 0 by omega]
  rfl
theorem rgL_t {x r a k : Nat} (h : r.testBit a = true) : r = rgL x k r a := by
  cases k with
  | zero => rfl
  | succ k =>
    show r = if r.testBit a = true then r else rgL x k (r ||| 2 ^ a) (d8 x a)
    rw [if_pos h]
theorem rgL_s {x r a c : Nat} (hc : c < 7) (h : r.testBit a = false) : rgL x (7 - c) r a = rgL x (7 - (c + 1)) (r ||| 2 ^ a) (d8 x a) := by
  obtain ⟨j, hj⟩ : ∃ j, 7 - c = j + 1 := ⟨7 - c - 1, by omega⟩
  rw [hj, show 7 - (c + 1) = j by omega]
  show (if r.testBit a = true then r else rgL x j (r ||| 2 ^ a) (d8 x a)) = _
  rw [if_neg (by rw [h]; decide)]
theorem rg31 {x p : Nat} (hP : Pn 7 (d8 x)) (hp : p < 7) : rg x p < 2 ^ 31 := Nat.lt_trans (rg_spec hP hp).1 (by decide)
theorem ln_le (x p : Nat) : ln x p ≤ 32 := cnt_le _ 32
theorem rl_le (x L m : Nat) : rl x L m ≤ m := cnt_le _ m
theorem rl_s1 {x L p : Nat} (h1 : cnt (fun i => (rg x p).testBit i) p = 0) (h2 : ln x p = L) : rl x L p + 1 = rl x L (p + 1) := by
  show _ = rl x L p + (if (ld x p && (ln x p == L)) = true then 1 else 0)
  rw [if_pos]
  unfold ld
  rw [h1, h2, Bool.and_eq_true]
  exact ⟨rfl, beq_self_eq_true L⟩
theorem rl_s0a {x L p : Nat} (h1 : ¬ cnt (fun i => (rg x p).testBit i) p = 0) : rl x L p = rl x L (p + 1) := by
  show _ = rl x L p + (if (ld x p && (ln x p == L)) = true then 1 else 0)
  rw [if_neg (fun h => by
    rw [Bool.and_eq_true] at h
    exact h1 (eq_of_beq h.1)), Nat.add_zero]
theorem rl_s0b {x L p : Nat} (h1 : ¬ ln x p = L) : rl x L p = rl x L (p + 1) := by
  show _ = rl x L p + (if (ld x p && (ln x p == L)) = true then 1 else 0)
  rw [if_neg (fun h => by
    rw [Bool.and_eq_true] at h
    exact h1 (eq_of_beq h.2)), Nat.add_zero]
def LK (x y : Nat) : Prop := ∀ L, 1 ≤ L → L ≤ 7 → rl x L 7 = rl y L 7
theorem LK_no {n x y : Nat} (hn : n ≤ 7) (hx : Mv n x) (hy : Mv n y) (h : ¬ LK x y) (w : Nat → Nat) : ¬ RN n x y w := fun hw => h (fun _ h1 _ => RN_like hn hx hy hw h1)
/-! powers of either sign -/
def absI (a : Int32) : Int32 := if 0 ≤ a then a else -a
theorem abs_nI {c : Int32} (h1 : (-1000) ≤ c) (h2 : c ≤ nI 1000) : absI c = nI c.toInt.natAbs := by
  obtain ⟨k, hk, rfl⟩ := k1000 h1 h2
  unfold absI
  have e : (nI k - nI 1000).toInt = (k : Int) - 1000 := pk_sub_toInt (a := k) (b := 1000) (by omega) (by omega)
  by_cases h : 0 ≤ nI k - nI 1000
  · rw [if_pos h]
    have h := Int32.le_iff_toInt_le.mp h
    rw [e, Int32.toInt_zero] at h
    rw [e, show ((k : Int) - 1000).natAbs = k - 1000 by omega]
    apply Int32.toInt_inj.mp
    rw [e, nI_toInt (by omega)]
    omega
  · rw [if_neg h]
    have h : ¬ (0 : Int32).toInt ≤ (nI k - nI 1000).toInt := fun q => h (Int32.le_iff_toInt_le.mpr q)
    rw [e, Int32.toInt_zero] at h
    rw [e, show ((k : Int) - 1000).natAbs = 1000 - k by omega]
    have e2 : -(nI k - nI 1000) = nI 1000 - nI k := by rw [Int32.neg_sub]
    rw [e2, pk_sub (by omega)]
theorem abs_1000 {c : Int32} (h1 : (-1000) ≤ c) (h2 : c ≤ nI 1000) : c.toInt.natAbs ≤ 1000 := by
  obtain ⟨k, hk, rfl⟩ := k1000 h1 h2
  rw [pk_sub_toInt (a := k) (b := 1000) (by omega) (by omega)]
  omega
def pwM (c : Int32) (x : Nat) : Nat := if 0 ≤ c then it7 x c.toInt.natAbs else it7 (i7 x) c.toInt.natAbs
theorem pw_pos {c : Int32} {x : Nat} (h : 0 ≤ c) : it7 x c.toInt.natAbs = pwM c x := (if_pos h).symm
theorem pw_neg {c : Int32} {x : Nat} (h : ¬ 0 ≤ c) : it7 (i7 x) c.toInt.natAbs = pwM c x := (if_neg h).symm
theorem pwM_Mv {n x : Nat} (hn : n ≤ 7) (hx : Mv n x) (c : Int32) : Mv n (pwM c x) := by
  unfold pwM
  split
  · exact (it7_M hn hx _).1
  · exact (it7_M hn (i7_Mv hn hx) _).1
theorem it_4m {n : Nat} {f : Nat → Nat} (hn : n ≤ 7) (h : Pn n f) {p : Nat} (hp : p < n) (m : Nat) : it f (420 * m) p = p := by
  obtain ⟨K, k1, k2, k3, _⟩ := it_ret h hp
  obtain ⟨j, hj⟩ := dvd420 K (by omega) k1
  rw [hj, Nat.mul_assoc]
  exact it_mul k3 (j * m)
theorem it_inv {n : Nat} {f g : Nat → Nat} (hg : Pn n g) (hi : ∀ q, q < n → f (g q) = q) {p : Nat} (hp : p < n) : ∀ t, it f t (it g t p) = p := by
  intro t
  induction t with
  | zero => rfl
  | succ t ih =>
    have h3 := it_lt hg hp t
    rw [it_add f _ 1 t]
    show it f t (f (g (it g t p))) = p
    rw [hi _ h3]
    exact ih
/-- what the reference makes of it -/
theorem pwM_d {n x : Nat} (hn : n ≤ 7) (hx : Mv n x) {c : Int32} (h1 : (-1000) ≤ c) (h2 : c ≤ nI 1000) {p : Nat} (hp : p < n) : d8 (pwM c x) p = it (d8 x) (tP c) p := by
  obtain ⟨k, hk, hc⟩ := k1000 h1 h2
  have ht : tP c = k + 260 := by rw [hc, tP_k hk]
  rw [ht]
  have e : c.toInt = (k : Int) - 1000 := by rw [hc]; exact pk_sub_toInt (a := k) (b := 1000) (by omega) (by omega)
  clear hc ht
  have hP := hx.2.1
  obtain ⟨m3, hm3⟩ : ∃ m : Nat, m = 3 := ⟨3, rfl⟩
  unfold pwM
  by_cases h : 0 ≤ c
  · rw [if_pos h]
    have h := Int32.le_iff_toInt_le.mp h
    rw [e, Int32.toInt_zero] at h
    rw [e, show ((k : Int) - 1000).natAbs = k - 1000 by omega, (it7_M hn hx _).2 p hp, show k + 260 = (k - 1000) + 420 * m3 by omega, it_add, it_4m hn hP hp]
  · rw [if_neg h]
    have h : ¬ (0 : Int32).toInt ≤ c.toInt := fun q => h (Int32.le_iff_toInt_le.mpr q)
    rw [e, Int32.toInt_zero] at h
    rw [e, show ((k : Int) - 1000).natAbs = 1000 - k by omega, (it7_M hn (i7_Mv hn hx) _).2 p hp]
    have hi : ∀ q, q < n → d8 x (d8 (i7 x) q) = q := fun q hq => by
      rw [i7_M hn hx, ← cM_d hn (iM_Mv hn hx) hx hq, iM_c hn hx, eM_d hn hq]
    have hb := it_inv (i7_Mv hn hx).2.1 hi hp
    refine it_inj hP (it_lt (i7_Mv hn hx).2.1 hp _) (it_lt hP hp _) (1000 - k) ?_
    rw [hb, ← it_add, show 1000 - k + (k + 260) = 420 * m3 by omega, it_4m hn hP hp]
/-! the reference's search -/
def RNr (n : Nat) (mv : Nat → Nat) (A B : Nat) (f : Nat → Nat) : Prop := ∀ p, p < n → f (mv (A * 7 + p)) = mv (B * 7 + f p)
def RQ (n : Nat) (mv rw : Nat → Nat) (A B c y : Nat) : Prop := (y = 1 ∧ ∀ p, p < c → rw (mv (A * 7 + p)) = mv (B * 7 + rw p)) ∨ (y = 0 ∧ ∃ p, p < n ∧ ¬ rw (mv (A * 7 + p)) = mv (B * 7 + rw p))
section SEARCH
variable {n : Nat} {mv rw : Nat → Nat} {A B c y k : Nat}
theorem RQ_0 : RQ n mv rw A B 0 1 := Or.inl ⟨rfl, fun p hp => absurd hp (Nat.not_lt_zero p)⟩
theorem RQ_1 (h : RQ n mv rw A B c y) (h0 : ¬ y = 0) (e : rw (mv (A * 7 + c)) = mv (B * 7 + rw c)) : RQ n mv rw A B (c + 1) 1 := by
  rcases h with ⟨_, h⟩ | ⟨h, _⟩
  · refine Or.inl ⟨rfl, fun p hp => ?_⟩
    by_cases q : p = c
    · rw [q]; exact e
    · exact h p (by omega)
  · exact absurd h h0
theorem RQ_2 (hc : c < n) (e : ¬ rw (mv (A * 7 + c)) = mv (B * 7 + rw c)) : RQ n mv rw A B (c + 1) 0 := Or.inr ⟨rfl, c, hc, e⟩
theorem RQ_end (hP : PM n mv) (hA : A < 6) (hrow : ∀ p, p < n → rw p = rwF n k p) (h : RQ n mv rw A B c y) (h0 : ¬ y = 0) (hc : n ≤ c) : RNr n mv A B (rwF n k) := by
  rcases h with ⟨_, h⟩ | ⟨h, _⟩
  · intro p hp
    have h1 := (hP A hA).1 p hp
    rw [← hrow p hp, ← hrow _ h1]
    exact h p (by omega)
  · exact absurd h h0
theorem RQ_no (hP : PM n mv) (hA : A < 6) (hrow : ∀ p, p < n → rw p = rwF n k p) (h : RQ n mv rw A B c y) (h0 : y = 0) : ¬ RNr n mv A B (rwF n k) := fun hq => by
  rcases h with ⟨h, _⟩ | ⟨_, p, hp, h⟩
  · omega
  · have h1 := (hP A hA).1 p hp
    rw [hrow p hp, hrow _ h1] at h
    exact h (hq p hp)
theorem RQ_nx {P : Nat → Prop} (h : ∀ j, j < c → ¬ P j) (h1 : ¬ P c) : ∀ j, j < c + 1 → ¬ P j := fun j hj => by
  by_cases q : j = c
  · rw [q]; exact h1
  · exact h j (by omega)
end SEARCH
