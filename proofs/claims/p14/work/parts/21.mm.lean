/-! the house's own cells -/
def HX (n : Nat) (e r q : Int32) (cm : Nat → Nat) (w : List jC) : Prop := w[0]? = some (.inr (7, [.ref 1, .ref 2, .ref 8, .ref 12, .ref 14, .int (nI n), .int e, .int r, .int q])) ∧ w[1]? = some (aF 6 cm)
/-- all cells but the house's two are kept -/
def FH (w w' : List jC) : Prop := w.length ≤ w'.length ∧ ∀ i, 2 ≤ i → i < w.length → w'[i]? = w[i]?
theorem FH.rf {w : List jC} : FH w w := ⟨Nat.le_refl _, fun _ _ _ => rfl⟩
theorem FH.tr {w w' w'' : List jC} (h : FH w w') (h' : FH w' w'') : FH w w'' := ⟨Nat.le_trans h.1 h'.1, fun i hi hl => (h'.2 i hi (Nat.lt_of_lt_of_le hl h.1)).trans (h.2 i hi hl)⟩
theorem FH.st {w w' w'' : List jC} {a : Nat} (h : FH w w') (hl : w''.length = w'.length) (hne : ∀ c, c ≠ a → w''[c]? = w'[c]?) (ha : a < 2) : FH w w'' :=
  ⟨by rw [hl]; exact h.1, fun i hi hl2 => (hne i (by omega)).trans (h.2 i hi hl2)⟩
/-- all but those and the chain's -/
def FN (w w' : List jC) : Prop := w.length ≤ w'.length ∧ ∀ i, 8 ≤ i → i < w.length → w'[i]? = w[i]?
theorem FN.rf {w : List jC} : FN w w := ⟨Nat.le_refl _, fun _ _ _ => rfl⟩
theorem FN.trH {w w' w'' : List jC} (h : FN w w') (h' : FH w' w'') : FN w w'' := ⟨Nat.le_trans h.1 h'.1, fun i hi hl => (h'.2 i (by omega) (Nat.lt_of_lt_of_le hl h.1)).trans (h.2 i hi hl)⟩
theorem FN.trC {w w' w'' : List jC} (h : FN w w') (h' : FC w' w'') : FN w w'' := ⟨by rw [h'.1]; exact h.1, fun i hi hl => (h'.2 i (by omega)).trans (h.2 i hi hl)⟩
theorem FN.st {w w' w'' : List jC} {a : Nat} (h : FN w w') (hl : w''.length = w'.length) (hne : ∀ c, c ≠ a → w''[c]? = w'[c]?) (ha : a < 8) : FN w w'' :=
  ⟨by rw [hl]; exact h.1, fun i hi hl2 => (hne i (by omega)).trans (h.2 i hi hl2)⟩
/-- an argument that is one of the first naturals -/
def isN (x : Int32) (k : Nat) : Prop := ∃ b : Nat, b < k ∧ x = nI b
theorem ne_isN {x : Int32} {k : Nat} (h : ∀ b : Nat, b < k → x ≠ nI b) (g : isN x k) : False := by
  obtain ⟨b, h1, h2⟩ := g
  exact h b h1 h2
theorem isN_of {b k : Nat} (h : b < k) : isN (nI b) k := ⟨b, h, rfl⟩
theorem up_M {n : Nat} {cm : Nat → Nat} (hcm : ∀ c, c < 6 → Mv n (cm c)) {a b : Nat} (_ : a < 6) (hb : b < 6) : ∀ c, c < 6 → Mv n (up cm a (cm b) c) := fun c hc => by
  unfold up
  split
  · exact hcm b hb
  · exact hcm c hc
theorem c7_Mv {n x y : Nat} (hn : n ≤ 7) (hx : Mv n x) (hy : Mv n y) : Mv n (c7 x y) := by
  rw [c7_M hn hx hy]
  exact cM_Mv hn hx hy
theorem i7_Mv {n x : Nat} (hn : n ≤ 7) (hx : Mv n x) : Mv n (i7 x) := by
  rw [i7_M hn hx]
  exact iM_Mv hn hx
/-- a move put together place by place -/
def bW (f : Nat → Nat) : Nat → Nat
  | 0 => 1754760
  | k + 1 => w8 (bW f k) k (f k)
theorem bW_lt {f : Nat → Nat} (hf : ∀ p, p < 7 → f p < 8) : ∀ k, k ≤ 7 → bW f k < 2 ^ (3 * 7)
  | 0, _ => (by decide : 1754760 < 2 ^ (3 * 7))
  | k + 1, h => w8_lt (bW_lt hf k (by omega)) (by omega) (hf k (by omega))
theorem bW_d {f : Nat → Nat} (hf : ∀ p, p < 7 → f p < 8) : ∀ k, k ≤ 7 → ∀ q, q < 7 → d8 (bW f k) q = if q < k then f q else q
  | 0, _, q, hq => by
    rw [if_neg (Nat.not_lt_zero q)]
    exact e7_d q hq
  | k + 1, h, q, hq => by
    show d8 (w8 (bW f k) k (f k)) q = _
    rw [w8_d (by omega) (hf k (by omega)) (by omega), bW_d hf k (by omega) q hq]
    by_cases e : q = k
    · subst e
      rw [if_pos rfl, if_pos (by omega)]
    · rw [if_neg e]
      by_cases e2 : q < k
      · rw [if_pos e2, if_pos (by omega)]
      · rw [if_neg e2, if_neg (by omega)]
theorem bW_M {n : Nat} {f : Nat → Nat} (hn : n ≤ 7) (hf : Pn n f) (g : Nat → Nat) (hg : ∀ p, p < n → g p = f p) (h8 : ∀ p, p < 7 → g p < 8) : bW g n = mkM n f := by
  refine d8_ext 7 _ _ (bW_lt h8 n hn) (mkM_Mv hn hf).1 (fun p hp => ?_)
  rw [bW_d h8 n hn p hp]
  by_cases e : p < n
  · rw [if_pos e, mkM_d hn hf.1 e, hg p e]
  · rw [if_neg e, (mkM_Mv hn hf).2.2 p (by omega) hp]
