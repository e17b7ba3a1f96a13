/-! the reference's acts, told exactly -/
/-- one cell gets a move -/
def ACT (n : Nat) (mv : Nat → Nat) (a : Nat) (f mv' : Nat → Nat) : Prop := (∀ p, p < n → mv' (a * 7 + p) = f p) ∧ ∀ k p, k < 6 → k ≠ a → p < n → mv' (k * 7 + p) = mv (k * 7 + p)
theorem ACT_of {n a : Nat} {mv mv' its f : Nat → Nat} (hn : n ≤ 7) (h : mv' = stM mv a n its) (hf : ∀ p, p < n → its p = f p) : ACT n mv a f mv' := by
  subst h
  exact ⟨fun p hp => (stM_at hp).trans (hf p hp), fun k p _ hne hp => stM_ne hn (by omega) hne⟩
theorem stM_congr {mv f g : Nat → Nat} {a n : Nat} (h : ∀ p, p < n → f p = g p) : stM mv a n f = stM mv a n g := by
  funext i
  unfold stM
  by_cases e : a * 7 ≤ i ∧ i < a * 7 + n
  · rw [if_pos e, if_pos e, h _ (by omega)]
  · rw [if_neg e, if_neg e]
/-- two points brought to each other -/
def sw2 (b c v : Nat) : Nat := if v = c then b else if v = b then c else v
theorem sw2_is {n b c v : Nat} {r : Nat → Nat} (h : ∀ p, p < n → r p = p) (hv : v < n) : up (up r b c) c b v = sw2 b c v := by
  unfold sw2
  by_cases e : v = c
  · rw [e, up_s, if_pos rfl]
  · rw [up_n e, if_neg e]
    by_cases e2 : v = b
    · rw [e2, up_s, if_pos rfl]
    · rw [up_n e2, if_neg e2, h v hv]
def sw3 (b c f v : Nat) : Nat := if v = f then b else if v = c then f else if v = b then c else v
theorem sw3_is {n b c f v : Nat} {r : Nat → Nat} (h : ∀ p, p < n → r p = p) (hv : v < n) : up (up (up r b c) c f) f b v = sw3 b c f v := by
  unfold sw3
  by_cases e : v = f
  · rw [e, up_s, if_pos rfl]
  · rw [up_n e, if_neg e]
    by_cases e1 : v = c
    · rw [e1, up_s, if_pos rfl]
    · rw [up_n e1, if_neg e1]
      by_cases e2 : v = b
      · rw [e2, up_s, if_pos rfl]
      · rw [up_n e2, if_neg e2, h v hv]
/-- by how much a turn brings on -/
def tT (n : Nat) (c : Int32) : Nat := (c.toInt + 100 * n).toNat
def tP (c : Int32) : Nat := (c.toInt + 1260).toNat
theorem k100 {c : Int32} (h1 : (-100) ≤ c) (h2 : c ≤ nI 100) : ∃ k : Nat, k ≤ 200 ∧ c = nI k - nI 100 := int_of (c := c) (b := 100) (by decide) (by have := Int32.le_iff_toInt_le.mp h1; have e : (-100 : Int32).toInt = -100 := (by decide); omega) (by have := Int32.le_iff_toInt_le.mp h2; rw [nI_toInt (by decide)] at this; omega)
/-! cells of both sides -/
/-- the house's moves are the reference's -/
def RLx (n : Nat) (cm mv : Nat → Nat) : Prop := ∀ c, c < 6 → cm c = mkM n (fun p => mv (c * 7 + p))
theorem mkM_congr {n : Nat} {f g : Nat → Nat} (h : ∀ p, p < n → f p = g p) : mkM n f = mkM n g := by
  unfold mkM
  refine mk8_congr 7 (fun p _ => ?_)
  show (if p < n then f p % 8 else p % 8) = (if p < n then g p % 8 else p % 8)
  by_cases e : p < n
  · rw [if_pos e, if_pos e, h p e]
  · rw [if_neg e, if_neg e]
theorem RLx_act {n a : Nat} {cm mv mv' f : Nat → Nat} {x : Nat} (h : RLx n cm mv) (hA : ACT n mv a f mv') (hx : x = mkM n f) : RLx n (up cm a x) mv' := fun c hc => by
  by_cases e : c = a
  · rw [e, up_s, hx]
    exact mkM_congr (fun p hp => (hA.1 p hp).symm)
  · rw [up_n e, h c hc]
    exact mkM_congr (fun p hp => (hA.2 c p hc e hp).symm)
theorem RLx_M {n : Nat} {cm mv : Nat → Nat} (hn : n ≤ 7) (h : RLx n cm mv) (hP : PM n mv) : ∀ c, c < 6 → Mv n (cm c) := fun c hc => by
  rw [h c hc]
  exact mkM_Mv hn (hP c hc)
theorem RLx_d {n : Nat} {cm mv : Nat → Nat} (hn : n ≤ 7) (h : RLx n cm mv) (hP : PM n mv) {c p : Nat} (hc : c < 6) (hp : p < n) : d8 (cm c) p = mv (c * 7 + p) := by
  rw [h c hc]
  exact mkM_d hn (hP c hc).1 hp
/-- done behind, in both forms -/
theorem c7_mkM {n : Nat} {f g : Nat → Nat} (hn : n ≤ 7) (hf : Pn n f) (hg : Pn n g) : c7 (mkM n f) (mkM n g) = mkM n (fun p => g (f p)) := by
  rw [c7_M hn (mkM_Mv hn hf) (mkM_Mv hn hg)]
  unfold cM
  exact mkM_congr (fun p hp => by rw [mkM_d hn hf.1 hp, mkM_d hn hg.1 (hf.1 p hp)])
theorem i7_mkM {n : Nat} {f g : Nat → Nat} (hn : n ≤ 7) (hf : Pn n f) (h : ∀ p, p < n → g (f p) = p) : i7 (mkM n f) = mkM n g := by
  have hg : Pn n g := Pn_inv hf (Pn_id n) h
  have hM := mkM_Mv hn hf
  rw [i7_M hn hM]
  refine (iM_Mv hn hM).ext (mkM_Mv hn hg) (fun v hv => ?_)
  obtain ⟨p, hp, e⟩ := inj_surj n f hf v hv
  rw [mkM_d hn hg.1 hv, ← e, h p hp]
  exact iM_at hn hM hp (mkM_d hn hf.1 hp)
