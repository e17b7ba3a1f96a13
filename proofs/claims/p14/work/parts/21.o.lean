/-! nth of the reference, told exactly -/
def LF (n : Nat) (bt : List Int32) (f tf : Nat → Nat) (F rank c y : Nat) : Prop :=
  ∃ lf : Nat → Nat, lf 0 = rank ∧ lf c = y ∧ ∀ l, l < c → lf l = sm (fun v => nw n bt f tf l v F) (tf l) + lf (l + 1) ∧ lf (l + 1) < nw n bt f tf l (tf l) F
theorem LF_0 {n : Nat} {bt : List Int32} {f tf : Nat → Nat} {F rank : Nat} : LF n bt f tf F rank 0 rank := ⟨fun _ => rank, rfl, rfl, fun l hl => absurd hl (Nat.not_lt_zero l)⟩
theorem nw_up {n : Nat} {bt : List Int32} {f tf : Nat → Nat} {c p l v K : Nat} (h : l ≤ c) : nw n bt f (up tf c p) l v K = nw n bt f tf l v K := by
  unfold nw
  refine cnt_add K (fun i _ => ?_)
  rw [sc_up l h]
theorem LF_s {n : Nat} {bt : List Int32} {f tf g : Nat → Nat} {F rank c y x p : Nat} (h : LF n bt f tf F rank c y) (hp : p < n) (hg : ∀ v, v < n → g v = nw n bt f tf c v F) (hy : y = sm g p + x) (hx : x < g p) : LF n bt f (up tf c p) F rank (c + 1) x := by
  obtain ⟨lf, l0, l1, l2⟩ := h
  refine ⟨fun l => if l = c + 1 then x else lf l, ?_, if_pos rfl, fun l hl => ?_⟩
  · show (if 0 = c + 1 then x else lf 0) = rank
    rw [if_neg (by omega)]
    exact l0
  · show (if l = c + 1 then x else lf l) = sm (fun v => nw n bt f (up tf c p) l v F) (up tf c p l) + (if l + 1 = c + 1 then x else lf (l + 1)) ∧ (if l + 1 = c + 1 then x else lf (l + 1)) < nw n bt f (up tf c p) l (up tf c p l) F
    rw [if_neg (show ¬ l = c + 1 by omega)]
    by_cases e : l = c
    · subst e
      rw [if_pos rfl, up_s, l1, hy, sm_congr (f := g) (g := fun v => nw n bt f (up tf l p) l v F) p (fun v hv => by rw [hg v (by omega)]; exact (nw_up (Nat.le_refl l)).symm), nw_up (Nat.le_refl l), ← hg p hp]
      exact ⟨rfl, hx⟩
    · rw [if_neg (show ¬ l + 1 = c + 1 by omega), up_n e, nw_up (show l ≤ c by omega), sm_congr (f := fun v => nw n bt f (up tf c p) l v F) (g := fun v => nw n bt f tf l v F) _ (fun v _ => nw_up (by omega))]
      exact l2 l (by omega)
theorem LF_end {n c : Nat} {bt : List Int32} {f tf : Nat → Nat} {F rank y : Nat} (h : LF n bt f tf F rank c y) (e : c = n) : LF n bt f tf F rank n y := by
  rw [e] at h
  exact h
section RNTH
variable {n : Nat} {G : Nat → Prop}
theorem sc_all {n k : Nat} {f tf : Nat → Nat} : ∀ m, (∀ j, j < m → rwF n k (f j) = tf j) → sc n k f tf m = true
  | 0, _ => rfl
  | m + 1, h => sc_s (sc_all m (fun j hj => h j (by omega))) (h m (Nat.lt_succ_self m))
theorem nw_WT (h1 : 1 ≤ n) (hn : n ≤ 7) {bt : List Int32} (hB : ∀ k, bitL bt k = true ↔ (k < fc n ∧ G (XM n k))) {f tf : Nat → Nat} (hf : ∀ j, j < n → f j < n) {y l v : Nat} (hl : l < n) (hy : ∀ j, j < l → d8 y (f j) = tf j) : nw n bt f tf l v (fc n) = WT n G f y l v := by
  unfold WT cd nw
  refine (ct_cnt (fc n) (fun k hk => ?_)).symm
  show (G (XM n k) ∧ (∀ j, j < l → d8 (XM n k) (f j) = d8 y (f j)) ∧ d8 (XM n k) (f l) = v) ↔ _
  rw [Bool.and_eq_true, Bool.and_eq_true, beq_iff_eq]
  have hd : ∀ j, j < n → d8 (XM n k) (f j) = rwF n k (f j) := fun j hj => XM_d h1 hn (hf j hj)
  refine ⟨fun ⟨a, b, c⟩ => ⟨(hB k).mpr ⟨hk, a⟩, sc_all l (fun j hj => ?_), ?_⟩, fun ⟨a, b, c⟩ => ⟨((hB k).mp a).2, fun j hj => ?_, ?_⟩⟩
  · rw [← hd j (by omega), b j hj, hy j hj]
  · rw [← hd l hl]
    exact c
  · rw [hd j (by omega), hy j hj]
    exact sc_at l b j hj
  · rw [hd l hl]
    exact c
theorem LF_GK (h1 : 1 ≤ n) (hn : n ≤ 7) {bt : List Int32} (hB : ∀ k, bitL bt k = true ↔ (k < fc n ∧ G (XM n k))) {f tf : Nat → Nat} (hf : ∀ j, j < n → f j < n) {rank y x : Nat} (hy : ∀ j, j < n → d8 y (f j) = tf j) (h : LF n bt f tf (fc n) rank n x) : GK n G f rank y := by
  obtain ⟨lf, l0, _, l2⟩ := h
  refine ⟨lf, l0, fun l hl => ?_⟩
  have hW : ∀ v, nw n bt f tf l v (fc n) = WT n G f y l v := fun v => nw_WT h1 hn hB hf hl (fun j hj => hy j (by omega))
  obtain ⟨a, b⟩ := l2 l hl
  rw [hy l hl, ← hW (tf l), ← sm_congr (f := fun v => nw n bt f tf l v (fc n)) (g := WT n G f y l) _ (fun v _ => hW v)]
  exact ⟨a, b⟩
theorem BX_cd (hn : n ≤ 7) {bt : List Int32} (hB : ∀ k, bitL bt k = true ↔ (k < fc n ∧ G (XM n k))) : cnt (bitL bt) 5056 = cd n G := by
  have hf := fc_7 hn
  obtain ⟨c, hc⟩ : ∃ c, 5056 = fc n + c := ⟨5056 - fc n, by omega⟩
  rw [hc, cnt_split, cnt_0 (P := fun i => bitL bt (fc n + i)) c (fun i _ => by
    cases q : bitL bt (fc n + i) with
    | false => rfl
    | true => have := ((hB _).mp q).1; omega), Nat.add_zero]
  exact (ct_cnt (fc n) (fun k hk => ⟨fun a => (hB k).mpr ⟨hk, a⟩, fun a => ((hB k).mp a).2⟩)).symm
theorem GK_rd (h1 : 1 ≤ n) (hn : n ≤ 7) {rd rd' : Nat → Nat} (h : ∀ j, j < n → rd j = rd' j) {rank y : Nat} (hG : GK n G rd rank y) : GK n G rd' rank y := by
  obtain ⟨lf, a0, a⟩ := hG
  refine ⟨lf, a0, fun l hl => ?_⟩
  have hW : ∀ v, WT n G rd y l v = WT n G rd' y l v := fun v => cd_iff h1 hn (fun x _ => by
    rw [h l hl]
    exact ⟨fun e => ⟨e.1, fun j hj => by rw [← h j (by omega)]; exact e.2.1 j hj, e.2.2⟩, fun e => ⟨e.1, fun j hj => by rw [h j (by omega)]; exact e.2.1 j hj, e.2.2⟩⟩)
  obtain ⟨b1, b2⟩ := a l hl
  rw [← h l hl, ← hW, ← sm_congr (f := WT n G rd y l) (g := WT n G rd' y l) _ (fun v _ => hW v)]
  exact ⟨b1, b2⟩
end RNTH
