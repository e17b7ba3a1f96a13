/-! the chain: what it keeps, what a move does to it -/
def RC (rc : Nat → Nat) (l g : Nat) : Bool := (rc l).testBit g
def ST (st : Nat → Nat) (l g : Nat) : Nat := st (l * 8 + g)
def nS (rc : Nat → Nat) : Nat → Nat
  | 0 => 0
  | l + 1 => nS rc l + (cnt (fun v => (rc l).testBit v) 7 - 1)
def sN (n : Nat) : Nat → Nat
  | 0 => 0
  | l + 1 => sN n l + (n - l - 1)
theorem sN_21 : ∀ n, n < 8 → sN n n ≤ 21 := by decide
theorem cnt_free {n k : Nat} {f : Nat → Nat} (hn : n ≤ 7) (hlt : ∀ j, j < k → f j < n) (hi : ∀ i j, i < k → j < k → f i = f j → i = j) : cnt (fun v => decide (v < n) && !usd f v k) 7 = n - k := by
  obtain ⟨c, hc⟩ : ∃ c, 7 = n + c := ⟨7 - n, by omega⟩
  rw [hc, cnt_split, cnt_0 (P := fun i => decide (n + i < n) && !usd f (n + i) k) c (fun i _ => by
    show (decide (n + i < n) && !usd f (n + i) k) = false
    rw [decide_eq_false (by omega), Bool.false_and]), Nat.add_zero]
  have h1 := cnt_not (fun v => usd f v k) n
  have h2 := cnt_usd (f := f) n k hi
  have h3 : cnt (fun j => decide (f j < n)) k = k := by
    rw [cnt_add (P := fun j => decide (f j < n)) (Q := fun _ => true) k (fun j hj => decide_eq_true (hlt j hj))]
    exact cnt_all k
  rw [cnt_add (P := fun v => decide (v < n) && !usd f v k) (Q := fun v => !usd f v k) n (fun v hv => by
    show (decide (v < n) && !usd f v k) = !usd f v k
    rw [decide_eq_true hv, Bool.true_and])]
  omega
/-- closed under doing one behind the other, and under undoing -/
def Cl (n : Nat) (H : Nat → Prop) : Prop := (∀ a b, Mv n a → Mv n b → H a → H b → H (cM n a b)) ∧ (∀ a, Mv n a → H a → H (iM n a)) ∧ H (eM n)
/-- all steps are in it -/
def Al (n : Nat) (rc st : Nat → Nat) (H : Nat → Prop) : Prop := ∀ l g, l < n → g < n → RC rc l g = true → H (ST st l g)
def CI (n ro : Nat) (st sv rc kw : Nat → Nat) (ns : Nat) : Prop :=
  Mv n ro ∧ Ch n (d8 ro) (RC rc) (ST st) ∧ (∀ l g, l < n → RC rc l g = true → g < n) ∧ (∀ l g, l < n → g < n → RC rc l g = true → g ≠ d8 ro l → sv (l * 8 + g) = i7 (ST st l g)) ∧
  (∀ l g, l < n → g < n → RC rc l g = true → g ≠ d8 ro l → ∃ i, i < ns ∧ kw i = ST st l g) ∧ (∀ i, i < ns → ∃ l g, l < n ∧ g < n ∧ RC rc l g = true ∧ kw i = ST st l g) ∧ ns = nS rc n ∧ ∀ l, l < n → rc l < 2 ^ 31
/-- a chain has grown -/
def GR (n : Nat) (rc st rc' st' : Nat → Nat) : Prop := ∀ l g, l < n → g < n → RC rc l g = true → RC rc' l g = true ∧ ST st' l g = ST st l g
theorem GR.rf {n : Nat} {rc st : Nat → Nat} : GR n rc st rc st := fun _ _ _ _ h => ⟨h, rfl⟩
theorem GR.tr {n : Nat} {rc st rc' st' rc'' st'' : Nat → Nat} (h : GR n rc st rc' st') (h' : GR n rc' st' rc'' st'') : GR n rc st rc'' st'' := fun l g hl hg hr => by
  obtain ⟨a1, a2⟩ := h l g hl hg hr
  obtain ⟨b1, b2⟩ := h' l g hl hg a1
  exact ⟨b1, b2.trans a2⟩
section CHN
variable {n ro : Nat} {st sv rc kw : Nat → Nat} {ns : Nat}
/-- what can't be reached at a level -/
theorem Ch_ne (hM : Mv n ro) (hC : Ch n (d8 ro) (RC rc) (ST st)) {l g j : Nat} (hl : l < n) (hg : g < n) (hr : RC rc l g = true) (hj : j < l) : d8 ro j ≠ g := by
  intro e
  obtain ⟨h1, h2, h3⟩ := (hC l hl).2.2.2 g hg hr
  have a1 := hM.2.1.1 l hl
  have a2 := hM.2.1.1 j (by omega)
  have h4 : d8 (ST st l g) (d8 ro l) = d8 (ST st l g) (d8 ro j) := by rw [h3, h2 j hj, e]
  have h5 := h1.2.1.2 _ _ a1 a2 h4
  have := hM.2.1.2 _ _ hl (by omega) h5
  omega
theorem Ch_cnt (hn : n ≤ 7) (hM : Mv n ro) (hC : Ch n (d8 ro) (RC rc) (ST st)) (hB : ∀ l g, l < n → RC rc l g = true → g < n) {l : Nat} (hl : l < n) : cnt (fun v => (rc l).testBit v) 7 ≤ n - l := by
  rw [← cnt_free (f := d8 ro) (k := l) hn (fun j hj => hM.2.1.1 j (by omega)) (fun i j hi hj e => hM.2.1.2 i j (by omega) (by omega) e)]
  refine cnt_mono 7 (fun g _ hg => ?_)
  have hg1 := hB l g hl hg
  show (decide (g < n) && !usd (d8 ro) g l) = true
  rw [decide_eq_true hg1, Bool.true_and]
  cases hu : usd (d8 ro) g l with
  | false => rfl
  | true =>
    obtain ⟨j, h1, h2⟩ := usd_ex l hu
    exact absurd h2 (Ch_ne hM hC hl hg1 hg h1)
theorem nS_le (hn : n ≤ 7) (hM : Mv n ro) (hC : Ch n (d8 ro) (RC rc) (ST st)) (hB : ∀ l g, l < n → RC rc l g = true → g < n) : ∀ l, l ≤ n → nS rc l ≤ sN n l
  | 0, _ => Nat.le_refl _
  | l + 1, hl => by
    have h1 := nS_le hn hM hC hB l (by omega)
    have h2 := Ch_cnt hn hM hC hB (show l < n by omega)
    show nS rc l + (cnt (fun v => (rc l).testBit v) 7 - 1) ≤ sN n l + (n - l - 1)
    omega
theorem CI_ns21 (hn : n ≤ 7) (h : CI n ro st sv rc kw ns) : ns ≤ 21 := by
  obtain ⟨h1, h2, h3, _, _, _, h7, _⟩ := h
  rw [h7]
  exact Nat.le_trans (nS_le hn h1 h2 h3 n (Nat.le_refl n)) (sN_21 n (by omega))
/-- a move on its way down -/
def SI (n ro : Nat) (st rc : Nat → Nat) (x l y : Nat) : Prop :=
  Mv n y ∧ (∀ j, j < l → d8 y (d8 ro j) = d8 ro j) ∧ (∀ rc' st' : Nat → Nat, Ch n (d8 ro) (RC rc') (ST st') → GR n rc st rc' st' → (CP n (RC rc') (ST st') n x ↔ CP n (RC rc') (ST st') (n - l) y)) ∧ ∀ H : Nat → Prop, Cl n H → Al n rc st H → H x → H y
theorem SI_0 {x : Nat} (hx : Mv n x) : SI n ro st rc x 0 x :=
  ⟨hx, fun j hj => absurd hj (Nat.not_lt_zero j), fun _ _ _ _ => by rw [Nat.sub_zero], fun _ _ _ h => h⟩
theorem iM_fix {x p : Nat} (hn : n ≤ 7) (hx : Mv n x) (hp : p < n) (h : d8 x p = p) : d8 (iM n x) p = p := by
  rw [iM_d hn hx hp]
  obtain ⟨t1, t2⟩ := so_Pn hx hp
  exact hx.2.1.2 _ _ t1 hp (t2.trans h.symm)
theorem iM_at {x p g : Nat} (hn : n ≤ 7) (hx : Mv n x) (hp : p < n) (h : d8 x p = g) : d8 (iM n x) g = p := by
  have hg : g < n := by rw [← h]; exact hx.2.1.1 p hp
  rw [iM_d hn hx hg]
  obtain ⟨t1, t2⟩ := so_Pn hx hg
  exact hx.2.1.2 _ _ t1 hp (t2.trans h.symm)
theorem cM_back {x y : Nat} (hn : n ≤ 7) (hx : Mv n x) (hy : Mv n y) : cM n (cM n x (iM n y)) y = x := by
  rw [cM_assoc hn hx (iM_Mv hn hy) hy, iM_c hn hy, cM_e hn hx]
theorem cM_forth {x y : Nat} (hn : n ≤ 7) (hx : Mv n x) (hy : Mv n y) : cM n (cM n x y) (iM n y) = x := by
  rw [cM_assoc hn hx hy (iM_Mv hn hy), c_iM hn hy, cM_e hn hx]
theorem SI_s1 (hn : n ≤ 7) (h : CI n ro st sv rc kw ns) {x l y : Nat} (hl : l < n) (hI : SI n ro st rc x l y) (hr : RC rc l (d8 y (d8 ro l)) = true) (hne : d8 y (d8 ro l) ≠ d8 ro l) : SI n ro st rc x (l + 1) (c7 y (sv (l * 8 + d8 y (d8 ro l)))) := by
  obtain ⟨hM, hC, hB, hV, _, _, _, _⟩ := h
  obtain ⟨i1, i2, i3, i4⟩ := hI
  have r1 := hM.2.1.1 l hl
  have g1 : d8 y (d8 ro l) < n := i1.2.1.1 _ r1
  obtain ⟨s1, s2, s3⟩ := (hC l hl).2.2.2 _ g1 hr
  have v1 := iM_Mv hn s1
  rw [hV l _ hl g1 hr hne, i7_M hn s1, c7_M hn i1 v1]
  refine ⟨cM_Mv hn i1 v1, fun j hj => ?_, fun rc' st' hC' hG => (i3 rc' st' hC' hG).trans ⟨fun hp => ?_, fun hp => ?_⟩, fun H h1 h2 h3 => h1.1 _ _ i1 v1 (i4 H h1 h2 h3) (h1.2.1 _ s1 (h2 l _ hl g1 hr))⟩
  · have rj := hM.2.1.1 j (by omega)
    rw [cM_d hn i1 v1 rj]
    by_cases e : j = l
    · subst e
      exact iM_at hn s1 r1 s3
    · rw [i2 j (by omega)]
      exact iM_fix hn s1 rj (s2 j (by omega))
  · obtain ⟨m, hm⟩ : ∃ m, n - l = m + 1 := ⟨n - l - 1, by omega⟩
    rw [hm] at hp
    obtain ⟨g, w, hg, hgr, hw, e⟩ := hp
    have hml : n - (m + 1) = l := by omega
    rw [show n - (l + 1) = m by omega]
    have w1 := (CP_Mv hn hC' m w (by omega) hw).1
    have e2 := CP_goal hn hC' (m := m) (g := g) (h := w) (by omega) hg hgr hw
    rw [← e, hml] at e2
    rw [hml] at e
    have eg : g = d8 y (d8 ro l) := e2.symm
    rw [eg, (hG l _ hl g1 hr).2] at e
    have e3 : cM n y (iM n (ST st l (d8 y (d8 ro l)))) = w := by
      have e4 := cM_forth hn w1 s1
      rw [← e] at e4
      exact e4
    rw [e3]
    exact hw
  · obtain ⟨m, hm⟩ : ∃ m, n - l = m + 1 := ⟨n - l - 1, by omega⟩
    rw [show n - (l + 1) = m by omega] at hp
    rw [hm]
    have hml : n - (m + 1) = l := by omega
    obtain ⟨b1, b2⟩ := hG l _ hl g1 hr
    refine ⟨d8 y (d8 ro l), _, g1, by rw [hml]; exact b1, hp, ?_⟩
    rw [hml, b2]
    exact (cM_back hn i1 s1).symm
theorem SI_s0 (hn : n ≤ 7) (h : CI n ro st sv rc kw ns) {x l y : Nat} (hl : l < n) (hI : SI n ro st rc x l y) (he : d8 y (d8 ro l) = d8 ro l) : SI n ro st rc x (l + 1) y := by
  obtain ⟨hM, hC, _⟩ := h
  obtain ⟨i1, i2, i3, i4⟩ := hI
  obtain ⟨m, hm⟩ : ∃ m, n - l = m + 1 := ⟨n - l - 1, by omega⟩
  have hml : n - (m + 1) = l := by omega
  refine ⟨i1, fun j hj => ?_, fun rc' st' hC' hG => (i3 rc' st' hC' hG).trans ⟨fun hp => ?_, fun hp => ?_⟩, i4⟩
  · by_cases e : j = l
    · rw [e]; exact he
    · exact i2 j (by omega)
  · rw [hm] at hp
    rw [show n - (l + 1) = m by omega]
    exact CP_down hn hC' (by omega) hp (by rw [hml]; exact he)
  · rw [show n - (l + 1) = m by omega] at hp
    rw [hm]
    exact CP_up hn hC' (by omega) hp
theorem SI_n (hn : n ≤ 7) (h : CI n ro st sv rc kw ns) {x l y : Nat} (hl : n ≤ l) (hI : SI n ro st rc x l y) : CP n (RC rc) (ST st) n x := by
  obtain ⟨i1, i2, i3, _⟩ := hI
  refine (i3 rc st h.2.1 GR.rf).mpr ?_
  rw [show n - l = 0 by omega]
  show y = eM n
  refine i1.ext (eM_Mv hn) (fun p hp => ?_)
  obtain ⟨j, hj, e⟩ := inj_surj n (d8 ro) h.1.2.1 p hp
  rw [eM_d hn hp, ← e]
  exact i2 j (by omega)
theorem SI_not (hn : n ≤ 7) (h : CI n ro st sv rc kw ns) {x l y : Nat} (hl : l < n) (hI : SI n ro st rc x l y) (hr : RC rc l (d8 y (d8 ro l)) = false) : ¬ CP n (RC rc) (ST st) n x := by
  intro hp
  have hp := (hI.2.2.1 rc st h.2.1 GR.rf).mp hp
  obtain ⟨m, hm⟩ : ∃ m, n - l = m + 1 := ⟨n - l - 1, by omega⟩
  have hml : n - (m + 1) = l := by omega
  rw [hm] at hp
  obtain ⟨g, w, hg, hgr, hw, e⟩ := hp
  have e2 := CP_goal hn h.2.1 (m := m) (g := g) (h := w) (by omega) hg hgr hw
  rw [← e, hml] at e2
  rw [hml] at hgr
  rw [e2, hgr] at hr
  exact absurd hr (by decide)
end CHN
theorem CP_mono {n : Nat} {rc st rc' st' : Nat → Nat} (h : GR n rc st rc' st') : ∀ m x, m ≤ n → CP n (RC rc) (ST st) m x → CP n (RC rc') (ST st') m x
  | 0, _, _, hx => hx
  | m + 1, x, hm, ⟨g, w, hg, hr, hw, e⟩ => by
    obtain ⟨a1, a2⟩ := h (n - (m + 1)) g (by omega) hg hr
    exact ⟨g, w, hg, a1, CP_mono h m w (by omega) hw, by rw [a2]; exact e⟩
/-- what a move that is let in makes of a chain -/
def AD (n ro : Nat) (st sv rc kw : Nat → Nat) (ns x : Nat) (st' sv' rc' kw' : Nat → Nat) (ns' : Nat) : Prop :=
  CI n ro st' sv' rc' kw' ns' ∧ GR n rc st rc' st' ∧ CP n (RC rc') (ST st') n x ∧ (∀ i, i < ns → kw' i = kw i) ∧ ns ≤ ns' ∧ ∀ H : Nat → Prop, Cl n H → Al n rc st H → H x → Al n rc' st' H
theorem AD_0 {n ro : Nat} {st sv rc kw : Nat → Nat} {ns x : Nat} (h : CI n ro st sv rc kw ns) (hx : CP n (RC rc) (ST st) n x) : AD n ro st sv rc kw ns x st sv rc kw ns :=
  ⟨h, GR.rf, hx, fun _ _ => rfl, Nat.le_refl _, fun _ _ h _ => h⟩
section NEW
variable {n ro : Nat} {st sv rc kw : Nat → Nat} {ns x l y : Nat}
theorem RC_up {g : Nat} {l' g' : Nat} : RC (up rc l (rc l ||| 2 ^ g)) l' g' = (RC rc l' g' || (decide (l' = l) && decide (g = g'))) := by
  unfold RC
  by_cases e : l' = l
  · subst e
    rw [up_s, set_bit, decide_eq_true rfl, Bool.true_and]
  · rw [up_n e, decide_eq_false e, Bool.false_and, Bool.or_false]
theorem ST_up {g v : Nat} (hg : g < 8) {l' g' : Nat} (hg' : g' < 8) : ST (up st (l * 8 + g) v) l' g' = if l' = l ∧ g' = g then v else ST st l' g' := by
  unfold ST
  by_cases e : l' = l ∧ g' = g
  · rw [if_pos e, e.1, e.2, up_s]
  · rw [if_neg e, up_n (by omega)]
/-- the chain with one more step; its steps are still few -/
theorem NEW_C (hn : n ≤ 7) (h : CI n ro st sv rc kw ns) (hl : l < n) (hI : SI n ro st rc x l y) (hr : RC rc l (d8 y (d8 ro l)) = false) :
    Ch n (d8 ro) (RC (up rc l (rc l ||| 2 ^ d8 y (d8 ro l)))) (ST (up st (l * 8 + d8 y (d8 ro l)) y)) ∧ (∀ l' g', l' < n → RC (up rc l (rc l ||| 2 ^ d8 y (d8 ro l))) l' g' = true → g' < n) ∧ nS (up rc l (rc l ||| 2 ^ d8 y (d8 ro l))) n = ns + 1 ∧ ns + 1 ≤ 21 := by
  obtain ⟨hM, hC, hB, _, _, _, h7, _⟩ := h
  obtain ⟨i1, i2, _, _⟩ := hI
  have r1 := hM.2.1.1 l hl
  have g1 : d8 y (d8 ro l) < n := i1.2.1.1 _ r1
  have A : Ch n (d8 ro) (RC (up rc l (rc l ||| 2 ^ d8 y (d8 ro l)))) (ST (up st (l * 8 + d8 y (d8 ro l)) y)) := by
    intro l' hl'
    obtain ⟨c1, c2, c3, c4⟩ := hC l' hl'
    refine ⟨c1, by rw [RC_up, c2, Bool.true_or], ?_, fun g' hg' hr' => ?_⟩
    · rw [ST_up (by omega) (by omega), if_neg]
      · exact c3
      · intro e
        rw [← e.2, ← e.1, c2] at hr
        exact absurd hr (by decide)
    · rw [ST_up (by omega) (by omega)]
      by_cases e : l' = l ∧ g' = d8 y (d8 ro l)
      · rw [if_pos e, e.1, e.2]
        exact ⟨i1, i2, rfl⟩
      · rw [if_neg e]
        rw [RC_up] at hr'
        rcases Bool.or_eq_true _ _ |>.mp hr' with q | q
        · exact c4 g' hg' q
        · obtain ⟨q1, q2⟩ := Bool.and_eq_true _ _ |>.mp q
          exact absurd ⟨of_decide_eq_true q1, (of_decide_eq_true q2).symm⟩ e
  have B : ∀ l' g', l' < n → RC (up rc l (rc l ||| 2 ^ d8 y (d8 ro l))) l' g' = true → g' < n := by
    intro l' g' hl' hr'
    rw [RC_up] at hr'
    rcases Bool.or_eq_true _ _ |>.mp hr' with q | q
    · exact hB l' g' hl' q
    · obtain ⟨_, q2⟩ := Bool.and_eq_true _ _ |>.mp q
      rw [← of_decide_eq_true q2]
      exact g1
  have hone : 1 ≤ cnt (fun v => (rc l).testBit v) 7 := cnt_pos 7 (d8 ro l) (by omega) (hC l hl).2.1
  have hmore : cnt (fun v => (rc l ||| 2 ^ d8 y (d8 ro l)).testBit v) 7 = cnt (fun v => (rc l).testBit v) 7 + 1 := by
    have e1 : cnt (fun v => (rc l ||| 2 ^ d8 y (d8 ro l)).testBit v) 7 = cnt (fun v => (rc l).testBit v || decide (v = d8 y (d8 ro l))) 7 :=
      cnt_add 7 (fun v _ => by
        show (rc l ||| 2 ^ d8 y (d8 ro l)).testBit v = ((rc l).testBit v || decide (v = d8 y (d8 ro l)))
        rw [set_bit]
        by_cases q : d8 y (d8 ro l) = v
        · rw [decide_eq_true q, decide_eq_true q.symm]
        · rw [decide_eq_false q, decide_eq_false (fun z => q z.symm)])
    rw [e1, cnt_or _ _ 7 (fun v _ hv => decide_eq_false (fun q => by
      rw [q] at hv
      have hr : (rc l).testBit (d8 y (d8 ro l)) = false := hr
      rw [hr] at hv
      exact absurd hv (by decide))), cnt_one 7 (by omega)]
  have C : ∀ k, k ≤ n → nS (up rc l (rc l ||| 2 ^ d8 y (d8 ro l))) k = nS rc k + (if l < k then 1 else 0) := by
    intro k
    induction k with
    | zero => intro _; rfl
    | succ k ih =>
      intro hk
      show nS (up rc l (rc l ||| 2 ^ d8 y (d8 ro l))) k + (cnt (fun v => (up rc l (rc l ||| 2 ^ d8 y (d8 ro l)) k).testBit v) 7 - 1) = nS rc k + (cnt (fun v => (rc k).testBit v) 7 - 1) + (if l < k + 1 then 1 else 0)
      rw [ih (by omega)]
      by_cases e : k = l
      · subst e
        rw [up_s, hmore, if_neg (Nat.lt_irrefl k), if_pos (Nat.lt_succ_self k)]
        omega
      · rw [up_n e]
        by_cases q : l < k
        · rw [if_pos q, if_pos (by omega)]; omega
        · rw [if_neg q, if_neg (by omega)]
          omega
  have D := C n (Nat.le_refl n)
  rw [if_pos hl, ← h7] at D
  refine ⟨A, B, D, ?_⟩
  rw [← D]
  exact Nat.le_trans (nS_le hn hM A B n (Nat.le_refl n)) (sN_21 n (by omega))
theorem NEW (hn : n ≤ 7) (h : CI n ro st sv rc kw ns) (hl : l < n) (hI : SI n ro st rc x l y) (hr : RC rc l (d8 y (d8 ro l)) = false) :
    AD n ro st sv rc kw ns x (up st (l * 8 + d8 y (d8 ro l)) y) (up sv (l * 8 + d8 y (d8 ro l)) (i7 y)) (up rc l (rc l ||| 2 ^ d8 y (d8 ro l))) (up kw ns y) (ns + 1) := by
  obtain ⟨A, B, D, _⟩ := NEW_C hn h hl hI hr
  have hnot := hr
  obtain ⟨hM, hC, hB, hV, hK, hK2, h7, h8⟩ := h
  obtain ⟨i1, i2, i3, i4⟩ := hI
  have r1 := hM.2.1.1 l hl
  have g1 : d8 y (d8 ro l) < n := i1.2.1.1 _ r1
  have ncase : ∀ l' g', RC (up rc l (rc l ||| 2 ^ d8 y (d8 ro l))) l' g' = true → ¬ (l' = l ∧ g' = d8 y (d8 ro l)) → RC rc l' g' = true := by
    intro l' g' hr' e
    rw [RC_up] at hr'
    rcases Bool.or_eq_true _ _ |>.mp hr' with q | q
    · exact q
    · obtain ⟨q1, q2⟩ := Bool.and_eq_true _ _ |>.mp q
      exact absurd ⟨of_decide_eq_true q1, (of_decide_eq_true q2).symm⟩ e
  have G : GR n rc st (up rc l (rc l ||| 2 ^ d8 y (d8 ro l))) (up st (l * 8 + d8 y (d8 ro l)) y) := by
    intro l' g' hl' hg' hr'
    refine ⟨by rw [RC_up, hr', Bool.true_or], ?_⟩
    rw [ST_up (by omega) (by omega), if_neg]
    intro e
    rw [← e.2, ← e.1, hr'] at hnot
    exact absurd hnot (by decide)
  refine ⟨⟨hM, A, B, fun l' g' hl' hg' hr' hne => ?_, fun l' g' hl' hg' hr' hne => ?_, fun i hi => ?_, D.symm, fun l' hl' => ?_⟩, G, ?_, fun i hi => up_n (by omega), Nat.le_succ _, fun H h1 h2 h3 l' g' hl' hg' hr' => ?_⟩
  · rw [ST_up (by omega) (by omega)]
    by_cases e : l' = l ∧ g' = d8 y (d8 ro l)
    · rw [if_pos e, e.1, e.2, up_s]
    · rw [if_neg e, up_n (by omega)]
      exact hV l' g' hl' hg' (ncase l' g' hr' e) hne
  · rw [ST_up (by omega) (by omega)]
    by_cases e : l' = l ∧ g' = d8 y (d8 ro l)
    · rw [if_pos e]
      exact ⟨ns, Nat.lt_succ_self _, up_s _ _ _⟩
    · rw [if_neg e]
      obtain ⟨i, h1, h2⟩ := hK l' g' hl' hg' (ncase l' g' hr' e) hne
      exact ⟨i, by omega, by rw [up_n (by omega)]; exact h2⟩
  · by_cases e : i = ns
    · refine ⟨l, d8 y (d8 ro l), hl, g1, by rw [RC_up, decide_eq_true rfl, decide_eq_true rfl, Bool.true_and, Bool.or_true], ?_⟩
      rw [e, up_s, ST_up (by omega) (by omega), if_pos ⟨rfl, rfl⟩]
    · obtain ⟨l', g', a1, a2, a3, a4⟩ := hK2 i (by omega)
      obtain ⟨b1, b2⟩ := G l' g' a1 a2 a3
      exact ⟨l', g', a1, a2, b1, by rw [up_n e, a4, b2]⟩
  · by_cases e : l' = l
    · rw [e, up_s]
      exact Nat.or_lt_two_pow (h8 l hl) (Nat.pow_lt_pow_right (by decide) (by omega))
    · rw [up_n e]
      exact h8 l' hl'
  · -- the move itself is made up now
    have hs : ST (up st (l * 8 + d8 y (d8 ro l)) y) l (d8 y (d8 ro l)) = y := by rw [ST_up (by omega) (by omega), if_pos ⟨rfl, rfl⟩]
    refine (i3 _ _ A G).mpr ?_
    obtain ⟨m, hm⟩ : ∃ m, n - l = m + 1 := ⟨n - l - 1, by omega⟩
    have hml : n - (m + 1) = l := by omega
    rw [hm]
    refine ⟨d8 y (d8 ro l), eM n, g1, by rw [hml, RC_up, decide_eq_true rfl, decide_eq_true rfl, Bool.true_and, Bool.or_true], CP_e hn A m (by omega), ?_⟩
    rw [hml, hs, eM_c hn i1]
  · rw [ST_up (by omega) (by omega)]
    by_cases e : l' = l ∧ g' = d8 y (d8 ro l)
    · rw [if_pos e]
      exact i4 H h1 h2 h3
    · rw [if_neg e]
      exact h2 l' g' hl' hg' (ncase l' g' hr' e)
end NEW
/-! pairs of steps that are made up; then all is a group -/
def PQ (n : Nat) (rc st kw : Nat → Nat) (k : Nat) : Prop := ∀ i j, i < k → j < k → CP n (RC rc) (ST st) n (cM n (kw i) (kw j))
section PAIRS
variable {n ro : Nat} {st sv rc kw : Nat → Nat} {ns : Nat}
theorem PQ.grow {rc' st' kw' : Nat → Nat} {k : Nat} (h : PQ n rc st kw k) (hG : GR n rc st rc' st') (hk : ∀ i, i < k → kw' i = kw i) : PQ n rc' st' kw' k := fun i j hi hj => by
  rw [hk i hi, hk j hj]
  exact CP_mono hG n _ (Nat.le_refl n) (h i j hi hj)
theorem CP_one (hn : n ≤ 7) (hC : Ch n (d8 ro) (RC rc) (ST st)) {l g : Nat} (hl : l < n) (hg : g < n) (hr : RC rc l g = true) : CP n (RC rc) (ST st) n (ST st l g) := by
  obtain ⟨m, hm⟩ : ∃ m, n - l = m + 1 := ⟨n - l - 1, by omega⟩
  have hml : n - (m + 1) = l := by omega
  have h1 : CP n (RC rc) (ST st) (m + 1) (ST st l g) := by
    refine ⟨g, eM n, hg, by rw [hml]; exact hr, CP_e hn hC m (by omega), ?_⟩
    rw [hml, eM_c hn ((hC l hl).2.2.2 g hg hr).1]
  have h2 := CP_ups hn hC h1 l (by omega)
  rw [show m + 1 + l = n by omega] at h2
  exact h2
theorem CK_of (hn : n ≤ 7) (h : CI n ro st sv rc kw ns) (hQ : PQ n rc st kw ns) : CK n (RC rc) (ST st) := by
  obtain ⟨hM, hC, hB, _, hK, _⟩ := h
  intro l l' g g' hl hl' hg hg' hr hr'
  have s1 := ((hC l hl).2.2.2 g hg hr).1
  have s2 := ((hC l' hl').2.2.2 g' hg' hr').1
  by_cases a : g = d8 ro l
  · have e : ST st l g = eM n := by rw [a]; exact (hC l hl).2.2.1
    rw [e, eM_c hn s2]
    exact CP_one hn hC hl' hg' hr'
  · by_cases b : g' = d8 ro l'
    · have e : ST st l' g' = eM n := by rw [b]; exact (hC l' hl').2.2.1
      rw [e, cM_e hn s1]
      exact CP_one hn hC hl hg hr
    · obtain ⟨i, h1, h2⟩ := hK l g hl hg hr a
      obtain ⟨j, h3, h4⟩ := hK l' g' hl' hg' hr' b
      rw [← h2, ← h4]
      exact hQ i j h1 h3
theorem CP_cM (hn : n ≤ 7) (h : CI n ro st sv rc kw ns) (hQ : PQ n rc st kw ns) {x y : Nat} (hx : CP n (RC rc) (ST st) n x) (hy : CP n (RC rc) (ST st) n y) : CP n (RC rc) (ST st) n (cM n x y) :=
  CP_mul hn h.2.1 (CK_of hn h hQ) n (Nat.le_refl n) x y hx hy
/-- what is made up is in whatever is closed and has the steps -/
theorem CP_in (hn : n ≤ 7) (hC : Ch n (d8 ro) (RC rc) (ST st)) {H : Nat → Prop} (h1 : Cl n H) (h2 : Al n rc st H) : ∀ m x, m ≤ n → CP n (RC rc) (ST st) m x → H x
  | 0, x, _, hx => by
    have hx : x = eM n := hx
    rw [hx]
    exact h1.2.2
  | m + 1, x, hm, ⟨g, w, hg, hr, hw, e⟩ => by
    have w1 := (CP_Mv hn hC m w (by omega) hw).1
    have s1 := ((hC (n - (m + 1)) (by omega)).2.2.2 g hg hr).1
    rw [e]
    exact h1.1 _ _ w1 s1 (CP_in hn hC h1 h2 m w (by omega) hw) (h2 _ g (by omega) hg hr)
end PAIRS
/-! the group of some moves -/
def Gg (n : Nat) (gn : Nat → Prop) (x : Nat) : Prop := ∀ H : Nat → Prop, H (eM n) → (∀ a b, Mv n a → H a → gn b → H (cM n a b)) → H x
section GROUP
variable {n : Nat} {gn : Nat → Prop}
theorem Gg_e : Gg n gn (eM n) := fun _ h _ => h
theorem Gg_Mv (hn : n ≤ 7) (hg : ∀ y, gn y → Mv n y) {x : Nat} (h : Gg n gn x) : Mv n x := h (Mv n) (eM_Mv hn) (fun a b ha _ hb => cM_Mv hn ha (hg b hb))
theorem Gg_s {x y : Nat} (hx : Mv n x) (h : Gg n gn x) (hy : gn y) : Gg n gn (cM n x y) := fun H h1 h2 => h2 x y hx (h H h1 h2) hy
theorem Gg_of (hn : n ≤ 7) (hg : ∀ y, gn y → Mv n y) {y : Nat} (hy : gn y) : Gg n gn y := by
  have h := Gg_s (n := n) (eM_Mv hn) Gg_e hy
  rw [eM_c hn (hg y hy)] at h
  exact h
theorem Gg_mul (hn : n ≤ 7) (hg : ∀ y, gn y → Mv n y) {x y : Nat} (hx : Gg n gn x) (hy : Gg n gn y) : Gg n gn (cM n x y) := by
  have hxM := Gg_Mv hn hg hx
  refine (hy (fun z => Mv n z ∧ Gg n gn (cM n x z)) ⟨eM_Mv hn, by rw [cM_e hn hxM]; exact hx⟩ (fun a b ha h hb => ⟨cM_Mv hn ha (hg b hb), ?_⟩)).2
  rw [← cM_assoc hn hxM ha (hg b hb)]
  exact Gg_s (cM_Mv hn hxM ha) h.2 hb
theorem it_420 {f : Nat → Nat} (hf : Pn n f) (hn : n ≤ 7) {p : Nat} (hp : p < n) : it f 420 p = p := by
  obtain ⟨K, h1, h2, h3, _⟩ := it_ret hf hp
  obtain ⟨m, hm⟩ := dvd420 K (by omega) h1
  rw [hm]
  exact it_mul h3 m
theorem it7_420 {x : Nat} (hn : n ≤ 7) (hx : Mv n x) : it7 x 420 = eM n := by
  obtain ⟨h1, h2⟩ := it7_M hn hx 420
  refine h1.ext (eM_Mv hn) (fun p hp => ?_)
  rw [h2 p hp, eM_d hn hp]
  exact it_420 hx.2.1 hn hp
theorem iM_it7 {x : Nat} (hn : n ≤ 7) (hx : Mv n x) : iM n x = it7 x 419 := by
  have h1 := (it7_M hn hx 419).1
  have e : cM n (it7 x 419) x = eM n := by
    rw [← c7_M hn h1 hx]
    exact it7_420 hn hx
  have e2 := cM_forth hn h1 hx
  rw [e, eM_c hn (iM_Mv hn hx)] at e2
  exact e2
theorem Gg_it (hn : n ≤ 7) (hg : ∀ y, gn y → Mv n y) {x : Nat} (hx : Gg n gn x) : ∀ k, Gg n gn (it7 x k)
  | 0 => by
    show Gg n gn 1754760
    rw [e7_M hn]
    exact Gg_e
  | k + 1 => by
    show Gg n gn (c7 (it7 x k) x)
    rw [c7_M hn (it7_M hn (Gg_Mv hn hg hx) k).1 (Gg_Mv hn hg hx)]
    exact Gg_mul hn hg (Gg_it hn hg hx k) hx
theorem Gg_Cl (hn : n ≤ 7) (hg : ∀ y, gn y → Mv n y) : Cl n (Gg n gn) :=
  ⟨fun _ _ _ _ ha hb => Gg_mul hn hg ha hb, fun a ha h => by rw [iM_it7 hn ha]; exact Gg_it hn hg h 419, Gg_e⟩
theorem Gg_mono {gn' : Nat → Prop} (h : ∀ y, gn y → gn' y) {x : Nat} (hx : Gg n gn x) : Gg n gn' x :=
  fun H h1 h2 => hx H h1 (fun a b ha hH hb => h2 a b ha hH (h b hb))
end GROUP
