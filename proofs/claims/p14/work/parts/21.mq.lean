/-! the reference's group by its numbers -/
def mW (n : Nat) (mv : Nat → Nat) (c : Nat) : Nat := mkM n (fun p => mv (c * 7 + p))
/-- what comes of a number by one more move -/
def goN (n : Nat) (mv : Nat → Nat) (s num c k : Nat) : Prop := ∃ j, j < c ∧ s.testBit j = true ∧ k = nu n (cM n (XM n num) (mW n mv j))
/-- the bits are the group of the set -/
def BX (n : Nat) (mv : Nat → Nat) (s : Nat) (bt : List Int32) : Prop := ∀ k, bitL bt k = true ↔ (k < fc n ∧ Gg n (gS (mW n mv) s 6) (XM n k))
def KX (n : Nat) (mv : Nat → Nat) (kn : Int32) (bt : List Int32) : Prop := kn = (-1) ∨ ∃ t, t < 64 ∧ kn = nI t ∧ BX n mv t bt
section REFG
variable {n : Nat} {mv : Nat → Nat}
theorem mW_Mv (hn : n ≤ 7) (hP : PM n mv) {c : Nat} (hc : c < 6) : Mv n (mW n mv c) := mkM_Mv hn (hP c hc)
theorem mW_d (hn : n ≤ 7) (hP : PM n mv) {c p : Nat} (hc : c < 6) (hp : p < n) : d8 (mW n mv c) p = mv (c * 7 + p) := mkM_d hn (hP c hc).1 hp
theorem gW_M (hn : n ≤ 7) (hP : PM n mv) (s : Nat) : ∀ y, gS (mW n mv) s 6 y → Mv n y := gS_M (Nat.le_refl 6) (fun _ hc => mW_Mv hn hP hc)
theorem goN_nu (h1 : 2 ≤ n) (hn : n ≤ 7) (hP : PM n mv) {c num : Nat} {nx : Nat → Nat} (hc : c < 6) (h : ∀ p, p < n → nx p = mv (c * 7 + rwF n num p)) : nuF nx 0 n n = nu n (cM n (XM n num) (mW n mv c)) :=
  nu_congr (fun p hp => by
    have hX := XM_Mv (n := n) (by omega) hn num
    rw [h p hp, cM_d hn hX (mW_Mv hn hP hc) hp, XM_d (by omega) hn hp, mW_d hn hP hc]
    have := hX.2.1.1 p hp
    rw [XM_d (by omega) hn hp] at this
    exact this)
theorem goN_0 {s num : Nat} {bt : List Int32} : ∀ k, bitL bt k = true ↔ (bitL bt k = true ∨ goN n mv s num 0 k) := fun k =>
  ⟨Or.inl, fun h => h.elim id (fun ⟨j, hj, _⟩ => absurd hj (Nat.not_lt_zero j))⟩
theorem goN_n {s num c : Nat} {bt bt1 : List Int32} (h : ∀ k, bitL bt1 k = true ↔ (bitL bt k = true ∨ goN n mv s num c k)) (hb : s / 2 ^ c % 2 ^ 1 = 0) : ∀ k, bitL bt1 k = true ↔ (bitL bt k = true ∨ goN n mv s num (c + 1) k) := fun k => by
  have hs : s.testBit c = false := tb_0 (by omega)
  rw [h k]
  refine or_congr_right ⟨fun ⟨j, h1, h2, h3⟩ => ⟨j, by omega, h2, h3⟩, fun ⟨j, h1, h2, h3⟩ => ⟨j, ?_, h2, h3⟩⟩
  by_cases e : j = c
  · rw [e, hs] at h2
    exact absurd h2 (by decide)
  · omega
theorem goN_s {s num c m : Nat} {bt bt1 : List Int32} (h : ∀ k, bitL bt1 k = true ↔ (bitL bt k = true ∨ goN n mv s num c k)) (hb : ¬ s / 2 ^ c % 2 ^ 1 = 0) (hl : bt1.length = 158) (hm : m < 5056) (e : m = nu n (cM n (XM n num) (mW n mv c))) :
    ∀ k, bitL (bt1.set (nI (m / 2 ^ 5)).toNatClampNeg (bt1.getD (nI (m / 2 ^ 5)).toNatClampNeg 0 ||| nI 1 <<< (nI (m % 2 ^ 5) &&& 31))) k = true ↔ (bitL bt k = true ∨ goN n mv s num (c + 1) k) := fun k => by
  have hs : s.testBit c = true := tb_1 (by have := Nat.mod_lt (s / 2 ^ c) (show 0 < 2 ^ 1 by decide); omega)
  rw [bitL_or' hm hl k, Bool.or_eq_true, h k, decide_eq_true_eq]
  constructor
  · rintro ((h1 | ⟨j, h1, h2, h3⟩) | h1)
    · exact Or.inl h1
    · exact Or.inr ⟨j, by omega, h2, h3⟩
    · exact Or.inr ⟨c, by omega, hs, h1.trans e⟩
  · rintro (h1 | ⟨j, h1, h2, h3⟩)
    · exact Or.inl (Or.inl h1)
    · by_cases q : j = c
      · rw [q] at h3
        exact Or.inr (h3.trans e.symm)
      · exact Or.inl (Or.inr ⟨j, by omega, h2, h3⟩)
/-! the closure -/
theorem XM_0 (h1 : 2 ≤ n) (hn : n ≤ 7) : XM n 0 = eM n := by
  have e : nu n (eM n) = 0 := by
    have hz : ∀ p, p ≤ n → nuF (d8 (eM n)) 0 n p = 0 := by
      intro p
      induction p with
      | zero => intro _; rfl
      | succ p ih =>
        intro hp
        show nuF (d8 (eM n)) 0 n p * (n - p) + les (d8 (eM n)) 0 p n = 0
        rw [ih (by omega), Nat.zero_mul, Nat.zero_add]
        have hl : ∀ q, q ≤ n → les (d8 (eM n)) 0 p q = 0 := by
          intro q
          induction q with
          | zero => intro _; rfl
          | succ q iq =>
            intro hq
            show les (d8 (eM n)) 0 p q + (if p < q ∧ d8 (eM n) (0 + q) < d8 (eM n) (0 + p) then 1 else 0) = 0
            rw [iq (by omega), Nat.zero_add, Nat.zero_add, Nat.zero_add, eM_d hn (show q < n by omega), eM_d hn (show p < n by omega), if_neg (by omega)]
        exact hl n (Nat.le_refl n)
    exact hz n (Nat.le_refl n)
  have h := XM_nu (n := n) (by omega) hn (eM_Mv hn)
  rw [e] at h
  exact h
theorem CX_0 (h1 : 2 ≤ n) (hn : n ≤ 7) {gn : Nat → Prop} : ∀ k, bitL ((List.replicate 158 0).set (nI 0).toNatClampNeg (nI 1)) k = true → k < fc n ∧ Gg n gn (XM n k) := fun k hk => by
  rw [c0, bitL_1 (by decide)] at hk
  have e := of_decide_eq_true hk
  subst e
  rw [XM_0 h1 hn]
  exact ⟨fc_pos n, Gg_e⟩
theorem CX_g0 {P : Nat → Prop} : ∀ k, bitL (List.replicate 158 0) k = true → P k := fun k hk => by
  rw [bitL_0] at hk
  exact absurd hk (by decide)
theorem CX_w {w : Nat} {g h : List Int32} {x : Nat} (H : x = 0 → ∀ k, k < 32 * w → bitL g k = true → bitL h k = true) (hz : (g.getD (nI w).toNatClampNeg 0 &&& (h.getD (nI w).toNatClampNeg 0 ^^^ (-1))) = 0) (hw : w < 158 := by omega) : x = 0 → ∀ k, k < 32 * (w + 1) → bitL g k = true → bitL h k = true := fun hx k hk hb => by
  by_cases e : k < 32 * w
  · exact H hx k e hb
  · obtain ⟨r, rfl⟩ : ∃ r, k = 32 * w + r := ⟨k - 32 * w, by omega⟩
    have hr : r < 32 := by omega
    rw [bitL_at hr] at hb ⊢
    rw [nI_clamp (by omega)] at hz
    have e1 : (g.getD w 0 &&& (h.getD w 0 ^^^ (-1))).toBitVec = (g.getD w 0).toBitVec &&& ~~~ (h.getD w 0).toBitVec := by
      show (g.getD w 0).toBitVec &&& ((h.getD w 0).toBitVec ^^^ (-1#32)) = _
      rw [show (-1#32) = BitVec.allOnes 32 by decide, BitVec.xor_allOnes]
    have e2 := congrArg (fun z => z.toBitVec.getLsbD r) hz
    have e2 : (g.getD w 0 &&& (h.getD w 0 ^^^ (-1))).toBitVec.getLsbD r = (0 : Int32).toBitVec.getLsbD r := e2
    rw [e1, BitVec.getLsbD_and, BitVec.getLsbD_not, hb] at e2
    have e3 : (0 : Int32).toBitVec.getLsbD r = false := by
      show (0#32).getLsbD r = false
      simp
    rw [e3] at e2
    simp only [hr, decide_true, Bool.true_and, Bool.not_eq_false'] at e2
    exact e2
theorem CX_sd (h1 : 2 ≤ n) (hn : n ≤ 7) (hP : PM n mv) {s num : Nat} {bt bt' : List Int32} (h : ∀ k, bitL bt k = true → k < fc n ∧ Gg n (gS (mW n mv) s 6) (XM n k)) (hg : ∀ k, bitL bt' k = true ↔ (bitL bt k = true ∨ goN n mv s num 6 k)) (hk : bitL bt num = true) : ∀ k, bitL bt' k = true → k < fc n ∧ Gg n (gS (mW n mv) s 6) (XM n k) := fun k hb => by
  rcases (hg k).mp hb with hb | ⟨j, j1, j2, j3⟩
  · exact h k hb
  · have hX := XM_Mv (n := n) (by omega) hn num
    have hM := cM_Mv hn hX (mW_Mv hn hP j1)
    rw [j3]
    refine ⟨nu_b _ _, ?_⟩
    rw [XM_nu (by omega) hn hM]
    exact Gg_s hX (h num hk).2 ⟨j, j1, j2, rfl⟩
theorem CX_go {s c r : Nat} {bt bt' g : List Int32} (h : ∀ k, bitL g k = true → bitL bt k = true ∧ ∀ j, j < 6 → s.testBit j = true → bitL bt (nu n (cM n (XM n k) (mW n mv j))) = true) (hg : ∀ k, bitL bt' k = true ↔ (bitL bt k = true ∨ goN n mv s (32 * c + r) 6 k)) (hk : bitL bt (32 * c + r) = true) (hc : c < 158) (hl : g.length = 158) (hr : r < 32 := by omega) :
    ∀ k, bitL (g.set (nI c).toNatClampNeg (g.getD (nI c).toNatClampNeg 0 ||| nI 1 <<< (nI r &&& 31))) k = true → bitL bt' k = true ∧ ∀ j, j < 6 → s.testBit j = true → bitL bt' (nu n (cM n (XM n k) (mW n mv j))) = true := fun k hb => by
  rw [nI_clamp (by omega), bitL_or (by omega) hr, Bool.or_eq_true, decide_eq_true_eq] at hb
  rcases hb with hb | hb
  · obtain ⟨a, b⟩ := h k hb
    exact ⟨(hg k).mpr (Or.inl a), fun j h1 h2 => (hg _).mpr (Or.inl (b j h1 h2))⟩
  · rw [hb]
    exact ⟨(hg _).mpr (Or.inl hk), fun j h1 h2 => (hg _).mpr (Or.inr ⟨j, h1, h2, rfl⟩)⟩
theorem CX_end (h1 : 2 ≤ n) (hn : n ≤ 7) (hP : PM n mv) {s : Nat} {bt g : List Int32} (h : ∀ k, bitL bt k = true → k < fc n ∧ Gg n (gS (mW n mv) s 6) (XM n k)) (h0 : bitL bt 0 = true) (hg : ∀ k, bitL g k = true → bitL bt k = true ∧ ∀ j, j < 6 → s.testBit j = true → bitL bt (nu n (cM n (XM n k) (mW n mv j))) = true) (hh : ∀ k, bitL bt k = true → bitL g k = true) : BX n mv s bt := fun k => by
  refine ⟨h k, fun ⟨hk, hG⟩ => ?_⟩
  have hz : nu n (eM n) = 0 := by
    rw [← XM_0 h1 hn]
    exact nu_XM (by omega) hn (fc_pos n)
  have hb := (hG (fun z => Mv n z ∧ bitL bt (nu n z) = true) ⟨eM_Mv hn, by rw [hz]; exact h0⟩ (fun a b ha hb hy => by
    obtain ⟨j, j1, j2, j3⟩ := hy
    rw [j3]
    have h3 := (hg _ (hh _ hb.2)).2 j j1 j2
    rw [XM_nu (by omega) hn ha] at h3
    exact ⟨cM_Mv hn ha (mW_Mv hn hP j1), h3⟩)).2
  rw [nu_XM (by omega) hn hk] at hb
  exact hb
/-! cell by cell as they are enough -/
theorem en_x {e k : Nat} (he : e < 64) (hk : k < 6) : (nI e ||| (nI 1 <<< (nI k &&& 31))) = nI (e ||| 2 ^ k) := by
  have h2 : 2 ^ k < 2 ^ 6 := Nat.pow_lt_pow_right (by decide) hk
  rw [pk_shlN (n := 1) _ k (sh_of (by omega)) (by rw [Nat.one_mul]; exact Nat.pow_lt_pow_right (by decide) (by omega)), Nat.one_mul]
  exact or_nI (by omega) (by omega)
theorem GX_0 (h1 : 2 ≤ n) (hn : n ≤ 7) : BX n mv 0 ((List.replicate 158 0).set (nI 0).toNatClampNeg (nI 1)) := fun k => by
  refine ⟨CX_0 h1 hn k, fun ⟨hk, hG⟩ => ?_⟩
  have e : XM n k = eM n := hG (fun z => z = eM n) rfl (fun a b _ _ hb => by
    obtain ⟨j, _, j2, _⟩ := hb
    rw [Nat.zero_testBit] at j2
    exact absurd j2 (by decide))
  have e2 : k = 0 := by
    rw [← nu_XM (n := n) (by omega) hn hk, e, ← XM_0 h1 hn]
    exact nu_XM (by omega) hn (fc_pos n)
  rw [e2]
  exact bitL_10
theorem GX_e {e s c : Nat} (h : ∀ j, e.testBit j = true → s.testBit j = true) (hb : ¬ s / 2 ^ c % 2 ^ 1 = 0) : ∀ j, (e ||| 2 ^ c).testBit j = true → s.testBit j = true := fun j hj => by
  rw [set_bit, Bool.or_eq_true, decide_eq_true_eq] at hj
  rcases hj with hj | hj
  · exact h j hj
  · rw [← hj]
    exact tb_1 (by have := Nat.mod_lt (s / 2 ^ c) (show 0 < 2 ^ 1 by decide); omega)
theorem gW_or {e c : Nat} : ∀ y, gS (mW n mv) e 6 y → gS (mW n mv) (e ||| 2 ^ c) 6 y := fun _ h => by
  obtain ⟨j, h1, h2, h3⟩ := h
  exact ⟨j, h1, by rw [set_bit, h2, Bool.true_or], h3⟩
theorem GX_t (h1 : 2 ≤ n) (hn : n ≤ 7) (hP : PM n mv) {e s c : Nat} (hc : c < 6) (h : ∀ j, j < c → s.testBit j = true → Gg n (gS (mW n mv) e 6) (mW n mv j)) : ∀ j, j < c + 1 → s.testBit j = true → Gg n (gS (mW n mv) (e ||| 2 ^ c) 6) (mW n mv j) := fun j hj hs => by
  by_cases q : j = c
  · rw [q]
    exact Gg_of hn (gW_M hn hP _) ⟨c, hc, by rw [set_bit, decide_eq_true rfl, Bool.or_true], rfl⟩
  · exact Gg_mono gW_or (h j (by omega) hs)
theorem nuF_off (f : Nat → Nat) (fr n : Nat) : ∀ p, nuF f fr n p = nuF (fun q => f (fr + q)) 0 n p
  | 0 => rfl
  | p + 1 => by
    have hl : ∀ q, les f fr p q = les (fun q => f (fr + q)) 0 p q := by
      intro q
      induction q with
      | zero => rfl
      | succ q ih =>
        show les f fr p q + (if p < q ∧ f (fr + q) < f (fr + p) then 1 else 0) = les (fun q => f (fr + q)) 0 p q + (if p < q ∧ f (fr + (0 + q)) < f (fr + (0 + p)) then 1 else 0)
        rw [ih, Nat.zero_add, Nat.zero_add]
    show nuF f fr n p * (n - p) + les f fr p n = nuF (fun q => f (fr + q)) 0 n p * (n - p) + les (fun q => f (fr + q)) 0 p n
    rw [nuF_off f fr n p, hl]
theorem nu_mW (hn : n ≤ 7) (hP : PM n mv) {c : Nat} (hc : c < 6) : nuF mv (c * 7) n n = nu n (mW n mv c) := by
  rw [nuF_off]
  exact nu_congr (fun p hp => (mW_d hn hP hc hp).symm)
theorem GX_k (h1 : 2 ≤ n) (hn : n ≤ 7) (hP : PM n mv) {e s c : Nat} {bt : List Int32} (hc : c < 6) (hB : BX n mv e bt) (h : ∀ j, j < c → s.testBit j = true → Gg n (gS (mW n mv) e 6) (mW n mv j)) (hb : bitL bt (nuF mv (c * 7) n n) = true) : ∀ j, j < c + 1 → s.testBit j = true → Gg n (gS (mW n mv) e 6) (mW n mv j) := fun j hj hs => by
  by_cases q : j = c
  · have h2 := ((hB _).mp hb).2
    rw [nu_mW hn hP hc, XM_nu (by omega) hn (mW_Mv hn hP hc)] at h2
    rw [q]
    exact h2
  · exact h j (by omega) hs
theorem GX_n {e s c : Nat} (h : ∀ j, j < c → s.testBit j = true → Gg n (gS (mW n mv) e 6) (mW n mv j)) (hb : s / 2 ^ c % 2 ^ 1 = 0) : ∀ j, j < c + 1 → s.testBit j = true → Gg n (gS (mW n mv) e 6) (mW n mv j) := fun j hj hs => by
  by_cases q : j = c
  · rw [q, tb_0 (by omega)] at hs
    exact absurd hs (by decide)
  · exact h j (by omega) hs
theorem GX_end (h1 : 2 ≤ n) (hn : n ≤ 7) (hP : PM n mv) {e s c : Nat} {bt : List Int32} (hc : 6 ≤ c) (hB : BX n mv e bt) (he : ∀ j, e.testBit j = true → s.testBit j = true) (h : ∀ j, j < c → s.testBit j = true → Gg n (gS (mW n mv) e 6) (mW n mv j)) : BX n mv s bt := fun k => by
  rw [hB k]
  refine and_congr_right (fun _ => ⟨fun hG => Gg_mono (fun y ⟨j, h1, h2, h3⟩ => ⟨j, h1, he j h2, h3⟩) hG, fun hG => ?_⟩)
  refine (hG (fun z => Mv n z ∧ Gg n (gS (mW n mv) e 6) z) ⟨eM_Mv hn, Gg_e⟩ (fun a b ha hz hb => ?_)).2
  obtain ⟨j, j1, j2, j3⟩ := hb
  rw [j3]
  exact ⟨cM_Mv hn ha (mW_Mv hn hP j1), Gg_mul hn (gW_M hn hP e) hz.2 (h j (by omega) j2)⟩
theorem KX_of {s : Nat} {kn : Int32} {bt : List Int32} (h : KX n mv kn bt) (e : kn = nI s) (hs : s < 64) : BX n mv s bt := by
  rcases h with h | ⟨t, h1, h2, h3⟩
  · rw [e] at h
    have h2 := nI_pos' (n := s) (by omega)
    rw [h] at h2
    exact absurd h2 (by decide)
  · have e2 : s = t := (nI_eq (by omega) (by omega)).mp (e.symm.trans h2)
    rw [e2]
    exact h3
theorem BX_BT (h1 : 2 ≤ n) (hn : n ≤ 7) {s : Nat} {bt : List Int32} (h : BX n mv s bt) : BT n bt :=
  ⟨fun k hk => ((h k).mp hk).1, (h 0).mpr ⟨fc_pos n, by rw [XM_0 h1 hn]; exact Gg_e⟩⟩
theorem KX_KB (h1 : 2 ≤ n) (hn : n ≤ 7) {kn : Int32} {bt : List Int32} (h : KX n mv kn bt) : KB n kn bt := by
  rcases h with h | ⟨t, _, _, h3⟩
  · exact Or.inl h
  · exact Or.inr (BX_BT h1 hn h3)
end REFG
theorem KX_i {n s : Nat} {mv : Nat → Nat} {kn : Int32} {bt : List Int32} (hB : BX n mv s bt) (hs : s < 64) (hk : kn = nI s) : KX n mv kn bt := Or.inr ⟨s, hs, hk, hB⟩
