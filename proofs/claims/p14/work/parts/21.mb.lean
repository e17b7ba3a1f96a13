/-! a group level by level: when all pairs of steps are made up, all is (Knuth) -/
def Ch (n : Nat) (rd : Nat → Nat) (rc : Nat → Nat → Bool) (st : Nat → Nat → Nat) : Prop :=
  ∀ l, l < n → rd l < n ∧ rc l (rd l) = true ∧ st l (rd l) = eM n ∧ ∀ g, g < n → rc l g = true → Mv n (st l g) ∧ (∀ j, j < l → d8 (st l g) (rd j) = rd j) ∧ d8 (st l g) (rd l) = g
def CP (n : Nat) (rc : Nat → Nat → Bool) (st : Nat → Nat → Nat) : Nat → Nat → Prop
  | 0, x => x = eM n
  | m + 1, x => ∃ g h, g < n ∧ rc (n - (m + 1)) g = true ∧ CP n rc st m h ∧ x = cM n h (st (n - (m + 1)) g)
section CHAIN
variable {n : Nat} {rd : Nat → Nat} {rc : Nat → Nat → Bool} {st : Nat → Nat → Nat}
theorem CP_Mv (hn : n ≤ 7) (hC : Ch n rd rc st) : ∀ m x, m ≤ n → CP n rc st m x → Mv n x ∧ ∀ j, j < n - m → d8 x (rd j) = rd j
  | 0, x, _, h => by
    have h : x = eM n := h
    subst h
    exact ⟨eM_Mv hn, fun j hj => eM_d hn (hC j (by omega)).1⟩
  | m + 1, x, hm, ⟨g, h, hg, hr, hh, hx⟩ => by
    obtain ⟨h1, h2⟩ := CP_Mv hn hC m h (by omega) hh
    obtain ⟨s1, s2, -⟩ := (hC (n - (m + 1)) (by omega)).2.2.2 g hg hr
    subst hx
    refine ⟨cM_Mv hn h1 s1, fun j hj => ?_⟩
    rw [cM_d hn h1 s1 (hC j (by omega)).1, h2 j (by omega), s2 j hj]
theorem CP_e (hn : n ≤ 7) (hC : Ch n rd rc st) : ∀ m, m ≤ n → CP n rc st m (eM n)
  | 0, _ => rfl
  | m + 1, hm => by
    obtain ⟨r1, r2, r3, -⟩ := hC (n - (m + 1)) (by omega)
    exact ⟨rd (n - (m + 1)), eM n, r1, r2, CP_e hn hC m (by omega), by rw [r3, cM_e hn (eM_Mv hn)]⟩
theorem CP_up (hn : n ≤ 7) (hC : Ch n rd rc st) {m x : Nat} (hm : m + 1 ≤ n) (h : CP n rc st m x) : CP n rc st (m + 1) x := by
  obtain ⟨r1, r2, r3, -⟩ := hC (n - (m + 1)) (by omega)
  exact ⟨rd (n - (m + 1)), x, r1, r2, h, by rw [r3, cM_e hn (CP_Mv hn hC m x (by omega) h).1]⟩
theorem CP_ups (hn : n ≤ 7) (hC : Ch n rd rc st) {m x : Nat} (h : CP n rc st m x) : ∀ k, m + k ≤ n → CP n rc st (m + k) x
  | 0, _ => h
  | k + 1, hk => CP_up hn hC hk (CP_ups hn hC h k (by omega))
/-- the step of its first level is told by where that point goes -/
theorem CP_goal (hn : n ≤ 7) (hC : Ch n rd rc st) {m g h : Nat} (hm : m + 1 ≤ n) (hg : g < n) (hr : rc (n - (m + 1)) g = true) (hh : CP n rc st m h) : d8 (cM n h (st (n - (m + 1)) g)) (rd (n - (m + 1))) = g := by
  obtain ⟨h1, h2⟩ := CP_Mv hn hC m h (by omega) hh
  obtain ⟨s1, s2, s3⟩ := (hC (n - (m + 1)) (by omega)).2.2.2 g hg hr
  rw [cM_d hn h1 s1 (hC (n - (m + 1)) (by omega)).1, h2 (n - (m + 1)) (by omega), s3]
theorem CP_down (hn : n ≤ 7) (hC : Ch n rd rc st) {m x : Nat} (hm : m + 1 ≤ n) (h : CP n rc st (m + 1) x) (hf : d8 x (rd (n - (m + 1))) = rd (n - (m + 1))) : CP n rc st m x := by
  obtain ⟨g, y, hg, hr, hy, rfl⟩ := h
  rw [CP_goal hn hC hm hg hr hy] at hf
  subst hf
  rw [(hC (n - (m + 1)) (by omega)).2.2.1, cM_e hn (CP_Mv hn hC m y (by omega) hy).1]
  exact hy
theorem CP_downs (hn : n ≤ 7) (hC : Ch n rd rc st) {m x : Nat} : ∀ k, m + k ≤ n → CP n rc st (m + k) x → (∀ j, j < n - m → d8 x (rd j) = rd j) → CP n rc st m x
  | 0, _, h, _ => h
  | k + 1, hk, h, hf => CP_downs hn hC k (by omega) (CP_down hn hC (m := m + k) hk h (hf _ (by omega))) hf
/-- all pairs of steps are made up -/
def CK (n : Nat) (rc : Nat → Nat → Bool) (st : Nat → Nat → Nat) : Prop := ∀ l l' g g', l < n → l' < n → g < n → g' < n → rc l g = true → rc l' g' = true → CP n rc st n (cM n (st l g) (st l' g'))
theorem CP_pair (hn : n ≤ 7) (hC : Ch n rd rc st) (hK : CK n rc st) {m l' g g' : Nat} (hm : m + 1 ≤ n) (hl : n - (m + 1) ≤ l') (hl2 : l' < n) (hg : g < n) (hg' : g' < n) (hr : rc (n - (m + 1)) g = true) (hr' : rc l' g' = true) : CP n rc st (m + 1) (cM n (st (n - (m + 1)) g) (st l' g')) := by
  obtain ⟨s1, s2, -⟩ := (hC (n - (m + 1)) (by omega)).2.2.2 g hg hr
  obtain ⟨t1, t2, -⟩ := (hC l' hl2).2.2.2 g' hg' hr'
  refine CP_downs hn hC (n - (m + 1)) (by omega) ?_ (fun j hj => ?_)
  · rw [show m + 1 + (n - (m + 1)) = n by omega]
    exact hK _ _ _ _ (by omega) hl2 hg hg' hr hr'
  · rw [cM_d hn s1 t1 (hC j (by omega)).1, s2 j hj, t2 j (by omega)]
theorem CP_step (hn : n ≤ 7) (hC : Ch n rd rc st) (hK : CK n rc st) {m : Nat} (hm : m + 1 ≤ n) (ih : ∀ x y, CP n rc st m x → CP n rc st m y → CP n rc st m (cM n x y)) {w l' g' : Nat} (hl : n - (m + 1) ≤ l') (hl2 : l' < n) (hg' : g' < n) (hr' : rc l' g' = true) (hw : CP n rc st (m + 1) w) : CP n rc st (m + 1) (cM n w (st l' g')) := by
  obtain ⟨g, a, hg, hr, ha, rfl⟩ := hw
  obtain ⟨s1, -, -⟩ := (hC (n - (m + 1)) (by omega)).2.2.2 g hg hr
  obtain ⟨t1, -, -⟩ := (hC l' hl2).2.2.2 g' hg' hr'
  have a1 := (CP_Mv hn hC m a (by omega) ha).1
  obtain ⟨g2, a2, hg2, hr2, ha2, e2⟩ := CP_pair hn hC hK hm hl hl2 hg hg' hr hr'
  rw [cM_assoc hn a1 s1 t1, e2, ← cM_assoc hn a1 (CP_Mv hn hC m a2 (by omega) ha2).1 ((hC (n - (m + 1)) (by omega)).2.2.2 g2 hg2 hr2).1]
  exact ⟨g2, _, hg2, hr2, ih _ _ ha ha2, rfl⟩
theorem CP_steps (hn : n ≤ 7) (hC : Ch n rd rc st) (hK : CK n rc st) {m : Nat} (hm : m + 1 ≤ n) (ih : ∀ x y, CP n rc st m x → CP n rc st m y → CP n rc st m (cM n x y)) {w : Nat} (hw : CP n rc st (m + 1) w) : ∀ k h, k ≤ m → CP n rc st k h → CP n rc st (m + 1) (cM n w h)
  | 0, h, _, hh => by
    have hh : h = eM n := hh
    subst hh
    rw [cM_e hn (CP_Mv hn hC (m + 1) w hm hw).1]
    exact hw
  | k + 1, h, hk, ⟨g, y, hg, hr, hy, e⟩ => by
    subst e
    have y1 := (CP_Mv hn hC k y (by omega) hy).1
    have s1 := ((hC (n - (k + 1)) (by omega)).2.2.2 g hg hr).1
    rw [← cM_assoc hn (CP_Mv hn hC (m + 1) w hm hw).1 y1 s1]
    exact CP_step hn hC hK hm ih (by omega) (by omega) hg hr (CP_steps hn hC hK hm ih hw k y (by omega) hy)
theorem CP_mul (hn : n ≤ 7) (hC : Ch n rd rc st) (hK : CK n rc st) : ∀ m, m ≤ n → ∀ x y, CP n rc st m x → CP n rc st m y → CP n rc st m (cM n x y)
  | 0, _, x, y, hx, hy => by
    have hx : x = eM n := hx
    have hy : y = eM n := hy
    subst hx; subst hy
    exact cM_e hn (eM_Mv hn)
  | m + 1, hm, x, y, hx, ⟨g, h, hg, hr, hh, e⟩ => by
    have ih := CP_mul hn hC hK m (by omega)
    subst e
    have x1 := (CP_Mv hn hC (m + 1) x hm hx).1
    have h1 := (CP_Mv hn hC m h (by omega) hh).1
    have s1 := ((hC (n - (m + 1)) (by omega)).2.2.2 g hg hr).1
    rw [← cM_assoc hn x1 h1 s1]
    exact CP_step hn hC hK hm ih (Nat.le_refl _) (by omega) hg hr (CP_steps hn hC hK hm ih hx m h (Nat.le_refl _) hh)
end CHAIN
