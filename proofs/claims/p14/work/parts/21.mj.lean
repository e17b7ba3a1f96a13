/-! the move of a rank -/
section RANK
variable {n : Nat}
/-- how many bring the first points of a row as y does, and the next one to p -/
noncomputable def WT (n : Nat) (T : Nat → Prop) (rd : Nat → Nat) (y l p : Nat) : Nat := cd n (fun x => T x ∧ (∀ j, j < l → d8 x (rd j) = d8 y (rd j)) ∧ d8 x (rd l) = p)
def GK (n : Nat) (T : Nat → Prop) (rd : Nat → Nat) (rank y : Nat) : Prop :=
  ∃ lf : Nat → Nat, lf 0 = rank ∧ ∀ l, l < n → lf l = sm (WT n T rd y l) (d8 y (rd l)) + lf (l + 1) ∧ lf (l + 1) < WT n T rd y l (d8 y (rd l))
theorem sm_le (f : Nat → Nat) {a : Nat} : ∀ b, a ≤ b → sm f a ≤ sm f b
  | 0, h => by rw [Nat.le_zero.mp h]; exact Nat.le_refl _
  | b + 1, h => by
    by_cases e : a = b + 1
    · rw [e]; exact Nat.le_refl _
    · exact Nat.le_trans (sm_le f b (by omega)) (Nat.le_add_right _ _)
theorem WT_pre (h1 : 1 ≤ n) (hn : n ≤ 7) {T : Nat → Prop} {rd : Nat → Nat} {y y' l : Nat} (h : ∀ j, j < l → d8 y (rd j) = d8 y' (rd j)) (p : Nat) : WT n T rd y l p = WT n T rd y' l p :=
  cd_iff h1 hn (fun x _ => ⟨fun e => ⟨e.1, fun j hj => (e.2.1 j hj).trans (h j hj), e.2.2⟩, fun e => ⟨e.1, fun j hj => (e.2.1 j hj).trans (h j hj).symm, e.2.2⟩⟩)
theorem GK_pre (h1 : 1 ≤ n) (hn : n ≤ 7) {T : Nat → Prop} {rd : Nat → Nat} {rank y y' : Nat} {lf lf' : Nat → Nat} (a0 : lf 0 = rank) (b0 : lf' 0 = rank) (m : Nat)
    (a : ∀ l, l < m → lf l = sm (WT n T rd y l) (d8 y (rd l)) + lf (l + 1) ∧ lf (l + 1) < WT n T rd y l (d8 y (rd l)))
    (b : ∀ l, l < m → lf' l = sm (WT n T rd y' l) (d8 y' (rd l)) + lf' (l + 1) ∧ lf' (l + 1) < WT n T rd y' l (d8 y' (rd l))) : ∀ l, l ≤ m → (∀ j, j < l → d8 y (rd j) = d8 y' (rd j)) ∧ lf l = lf' l
  | 0, _ => ⟨fun j hj => absurd hj (Nat.not_lt_zero j), a0.trans b0.symm⟩
  | l + 1, hl => by
    obtain ⟨i1, i2⟩ := GK_pre h1 hn a0 b0 m a b l (by omega)
    obtain ⟨p1, p2⟩ := a l (by omega)
    obtain ⟨q1, q2⟩ := b l (by omega)
    have hW : ∀ p, WT n T rd y l p = WT n T rd y' l p := WT_pre h1 hn i1
    have hS : ∀ k, sm (WT n T rd y l) k = sm (WT n T rd y' l) k := fun k => sm_congr k (fun i _ => hW i)
    have e : d8 y (rd l) = d8 y' (rd l) := by
      refine Classical.byContradiction fun ne => ?_
      rcases Nat.lt_or_gt_of_ne ne with h | h
      · have := sm_le (WT n T rd y' l) (d8 y' (rd l)) (show d8 y (rd l) + 1 ≤ d8 y' (rd l) from h)
        have e3 : sm (WT n T rd y' l) (d8 y (rd l) + 1) = sm (WT n T rd y' l) (d8 y (rd l)) + WT n T rd y' l (d8 y (rd l)) := rfl
        rw [hW] at p2
        rw [hS] at p1
        omega
      · have := sm_le (WT n T rd y' l) (d8 y (rd l)) (show d8 y' (rd l) + 1 ≤ d8 y (rd l) from h)
        have e3 : sm (WT n T rd y' l) (d8 y' (rd l) + 1) = sm (WT n T rd y' l) (d8 y' (rd l)) + WT n T rd y' l (d8 y' (rd l)) := rfl
        rw [hS] at p1
        omega
    refine ⟨fun j hj => ?_, ?_⟩
    · by_cases q : j = l
      · rw [q]; exact e
      · exact i1 j (by omega)
    · rw [hS, e] at p1
      omega
theorem GK_same (h1 : 1 ≤ n) (hn : n ≤ 7) {T : Nat → Prop} {rd : Nat → Nat} (hrd : Pn n rd) {rank y y' : Nat} (hy : Mv n y) (hy' : Mv n y') (h : GK n T rd rank y) (h' : GK n T rd rank y') : y = y' := by
  obtain ⟨lf, a0, a⟩ := h
  obtain ⟨lf', b0, b⟩ := h'
  have hp := (GK_pre h1 hn a0 b0 n a b n (Nat.le_refl n)).1
  refine hy.ext hy' (fun p hq => ?_)
  obtain ⟨j, hj, e⟩ := inj_surj n rd hrd p hq
  rw [← e]
  exact hp j hj
end RANK
section MOVEAT
variable {n ro : Nat} {st sv rc kw : Nat → Nat} {ns la : Nat}
/-- made up, then the last one -/
def TL (n : Nat) (rc st : Nat → Nat) (la x : Nat) : Prop := CP n (RC rc) (ST st) n (cM n x (iM n la))
theorem CP_it (hn : n ≤ 7) (h : CI n ro st sv rc kw ns) (hQ : PQ n rc st kw ns) {x : Nat} (hx : CP n (RC rc) (ST st) n x) : ∀ k, CP n (RC rc) (ST st) n (it7 x k)
  | 0 => by
    show CP n (RC rc) (ST st) n 1754760
    rw [e7_M hn]
    exact CP_e hn h.2.1 n (Nat.le_refl n)
  | k + 1 => by
    have hM := (CP_Mv hn h.2.1 n x (Nat.le_refl n) hx).1
    show CP n (RC rc) (ST st) n (c7 (it7 x k) x)
    rw [c7_M hn (it7_M hn hM k).1 hM]
    exact CP_cM hn h hQ (CP_it hn h hQ hx k) hx
theorem CP_iM (hn : n ≤ 7) (h : CI n ro st sv rc kw ns) (hQ : PQ n rc st kw ns) {x : Nat} (hx : CP n (RC rc) (ST st) n x) : CP n (RC rc) (ST st) n (iM n x) := by
  rw [iM_it7 hn (CP_Mv hn h.2.1 n x (Nat.le_refl n) hx).1]
  exact CP_it hn h hQ hx 419
theorem iM_iM (hn : n ≤ 7) {x : Nat} (hx : Mv n x) : iM n (iM n x) = x := by
  have h := cM_forth hn hx (iM_Mv hn hx)
  rw [c_iM hn hx, eM_c hn (iM_Mv hn (iM_Mv hn hx))] at h
  exact h
theorem iM_cM (hn : n ≤ 7) {x y : Nat} (hx : Mv n x) (hy : Mv n y) : iM n (cM n x y) = cM n (iM n y) (iM n x) := by
  have hxy := cM_Mv hn hx hy
  have h1 : cM n (cM n x y) (cM n (iM n y) (iM n x)) = eM n := by
    rw [← cM_assoc hn hxy (iM_Mv hn hy) (iM_Mv hn hx), cM_forth hn hx hy, c_iM hn hx]
  have h2 : cM n (iM n (cM n x y)) (cM n (cM n x y) (cM n (iM n y) (iM n x))) = cM n (iM n y) (iM n x) := by
    rw [← cM_assoc hn (iM_Mv hn hxy) hxy (cM_Mv hn (iM_Mv hn hy) (iM_Mv hn hx)), iM_c hn hxy, eM_c hn (cM_Mv hn (iM_Mv hn hy) (iM_Mv hn hx))]
  rw [h1, cM_e hn (iM_Mv hn hxy)] at h2
  exact h2
/-- of two that are made up with the last one, one undone behind the other -/
theorem TL_div (hn : n ≤ 7) (h : CI n ro st sv rc kw ns) (hQ : PQ n rc st kw ns) (hla : Mv n la) {x b : Nat} (hx : Mv n x) (hb : Mv n b) (hT : TL n rc st la b) : TL n rc st la x ↔ CP n (RC rc) (ST st) n (cM n x (iM n b)) := by
  have li := iM_Mv hn hla
  have bi := iM_Mv hn hb
  have e1 : cM n (cM n x (iM n la)) (iM n (cM n b (iM n la))) = cM n x (iM n b) := by
    rw [iM_cM hn hb li, iM_iM hn hla, cM_assoc hn hx li (cM_Mv hn hla bi), ← cM_assoc hn li hla bi, iM_c hn hla, eM_c hn bi]
  have e2 : cM n (cM n x (iM n b)) (cM n b (iM n la)) = cM n x (iM n la) := by
    rw [cM_assoc hn hx bi (cM_Mv hn hb li), ← cM_assoc hn bi hb li, iM_c hn hb, eM_c hn li]
  refine ⟨fun hX => ?_, fun hX => ?_⟩
  · rw [← e1]
    exact CP_cM hn h hQ hX (CP_iM hn h hQ hT)
  · show CP n (RC rc) (ST st) n (cM n x (iM n la))
    rw [← e2]
    exact CP_cM hn h hQ hX hT
theorem img_inv (hn : n ≤ 7) (hB : ∀ l g, l < n → RC rc l g = true → g < n) {b : Nat} (hb : Mv n b) {l p : Nat} (hl : l < n) (hp : p < n) : img (d8 b) (rc l) p 7 = true ↔ RC rc l (d8 (iM n b) p) = true := by
  have ht : d8 b (d8 (iM n b) p) = p := by
    have e := iM_c hn hb
    have e2 := cM_d hn (iM_Mv hn hb) hb hp
    rw [e, eM_d hn hp] at e2
    exact e2.symm
  refine ⟨fun h => ?_, fun h => ?_⟩
  · obtain ⟨q, _, h2, h3⟩ := img_ex 7 h
    have hq := hB l q hl h2
    have e := iM_at hn hb hq h3
    rw [e]
    exact h2
  · exact img_of 7 _ (by have := hB l _ hl h; omega) h ht
theorem WT_is (h1 : 1 ≤ n) (hn : n ≤ 7) (h : CI n ro st sv rc kw ns) (hQ : PQ n rc st kw ns) (hla : Mv n la) {b : Nat} (hb : Mv n b) (hT : TL n rc st la b) {l p : Nat} (hl : l < n) (hp : p < n) :
    WT n (TL n rc st la) (d8 ro) b l p = if img (d8 b) (rc l) p 7 = true then zF rc n (n - (l + 1)) else 0 := by
  have hM := h.1
  have hC := h.2.1
  have hB := h.2.2.1
  have bi := iM_Mv hn hb
  have hbi : ∀ q, q < n → d8 (iM n b) (d8 b q) = q := fun q hq => iM_at hn hb hq rfl
  have hgp : d8 (iM n b) p < n := bi.2.1.1 p hp
  have e1 : WT n (TL n rc st la) (d8 ro) b l p = cd n (fun y => CP n (RC rc) (ST st) n y ∧ (∀ j, j < l → d8 y (d8 ro j) = d8 ro j) ∧ d8 y (d8 ro l) = d8 (iM n b) p) := by
    rw [← cd_t h1 hn bi]
    refine cd_iff h1 hn (fun x hx => ?_)
    refine and_congr (TL_div hn h hQ hla hx hb hT) (and_congr ⟨fun a j hj => ?_, fun a j hj => ?_⟩ ⟨fun a => ?_, fun a => ?_⟩)
    · have rj := hM.2.1.1 j (by omega)
      rw [cM_d hn hx bi rj, a j hj]
      exact hbi _ rj
    · have rj := hM.2.1.1 j (by omega)
      have a := a j hj
      rw [cM_d hn hx bi rj] at a
      refine bi.2.1.2 _ _ (hx.2.1.1 _ rj) (hb.2.1.1 _ rj) ?_
      rw [a]
      exact (hbi _ rj).symm
    · rw [cM_d hn hx bi (hM.2.1.1 l hl), a]
    · rw [cM_d hn hx bi (hM.2.1.1 l hl)] at a
      exact bi.2.1.2 _ _ (hx.2.1.1 _ (hM.2.1.1 l hl)) hp a
  obtain ⟨m, hm⟩ : ∃ m, n - l = m + 1 := ⟨n - l - 1, by omega⟩
  have hml : n - (m + 1) = l := by omega
  have hmz : n - (l + 1) = m := by omega
  have hdown : ∀ y, (CP n (RC rc) (ST st) n y ∧ ∀ j, j < l → d8 y (d8 ro j) = d8 ro j) ↔ CP n (RC rc) (ST st) (m + 1) y := fun y => by
    refine ⟨fun a => CP_downs hn hC l (by omega) (by rw [show m + 1 + l = n by omega]; exact a.1) (fun j hj => a.2 j (by omega)), fun a => ⟨?_, fun j hj => (CP_Mv hn hC (m + 1) y (by omega) a).2 j (by omega)⟩⟩
    have := CP_ups hn hC a l (by omega)
    rw [show m + 1 + l = n by omega] at this
    exact this
  rw [e1, hmz]
  by_cases q : img (d8 b) (rc l) p 7 = true
  · rw [if_pos q]
    have hr := (img_inv hn hB hb hl hp).mp q
    have s1 := ((hC l hl).2.2.2 _ hgp hr).1
    rw [← zF_is h1 hn hC hB m (by omega), ← cd_t (P := CP n (RC rc) (ST st) m) h1 hn (iM_Mv hn s1)]
    refine cd_iff h1 hn (fun y hy => ?_)
    have hpart := CP_part hn hC (m := m) (g := d8 (iM n b) p) (x := y) (by omega) hgp (by rw [hml]; exact hr) hy
    rw [hml] at hpart
    rw [← hpart, ← hdown y]
    exact ⟨fun a => ⟨⟨a.1, a.2.1⟩, a.2.2⟩, fun a => ⟨a.1.1, a.1.2, a.2⟩⟩
  · rw [if_neg q]
    refine cd_0 h1 hn (fun y _ a => q ?_)
    refine (img_inv hn hB hb hl hp).mpr ?_
    obtain ⟨g, w, hg, hgr, hw, e⟩ := (hdown y).mp ⟨a.1, a.2.1⟩
    have e2 := CP_goal hn hC (m := m) (g := g) (h := w) (by omega) hg hgr hw
    rw [← e, hml, a.2.2] at e2
    rw [e2, ← hml]
    exact hgr
/-- on the way through the levels -/
def MI (n ro : Nat) (rc st : Nat → Nat) (la rank c rest b : Nat) : Prop :=
  Mv n b ∧ TL n rc st la b ∧ rest < zF rc n (n - c) ∧ ∃ lf : Nat → Nat, lf 0 = rank ∧ lf c = rest ∧ ∀ l, l < c → lf l = sm (WT n (TL n rc st la) (d8 ro) b l) (d8 b (d8 ro l)) + lf (l + 1) ∧ lf (l + 1) < WT n (TL n rc st la) (d8 ro) b l (d8 b (d8 ro l))
theorem MI_0 (hn : n ≤ 7) (h : CI n ro st sv rc kw ns) (hla : Mv n la) {rank : Nat} (hr : rank < zF rc n n) : MI n ro rc st la rank 0 rank la :=
  ⟨hla, by show CP n (RC rc) (ST st) n (cM n la (iM n la)); rw [c_iM hn hla]; exact CP_e hn h.2.1 n (Nat.le_refl n), hr, fun _ => rank, rfl, rfl, fun l hl => absurd hl (Nat.not_lt_zero l)⟩
theorem MI_n {rank c rest b : Nat} (hc : c = n) (hI : MI n ro rc st la rank c rest b) : Mv n b ∧ GK n (TL n rc st la) (d8 ro) rank b := by
  subst hc
  obtain ⟨a1, _, _, lf, l0, _, l2⟩ := hI
  exact ⟨a1, lf, l0, l2⟩
theorem cnt_perm {B : Nat → Bool} {N : Nat} {f : Nat → Nat} (hf : Pn N f) : cnt (fun k => B (f k)) N = cnt B N := by
  rw [← ct_cnt (P := fun k => B (f k) = true) N (fun _ _ => Iff.rfl), ← ct_cnt (P := fun k => B k = true) (B := B) N (fun _ _ => Iff.rfl)]
  exact ct_perm (P := fun k => B k = true) hf
theorem img_cnt (hn : n ≤ 7) (hB : ∀ l g, l < n → RC rc l g = true → g < n) {b : Nat} (hb : Mv n b) {l : Nat} (hl : l < n) : cnt (fun v => img (d8 b) (rc l) v 7) n = cnt (fun v => (rc l).testBit v) 32 := by
  obtain ⟨c, hc⟩ : ∃ c, 32 = n + c := ⟨32 - n, by omega⟩
  rw [hc, cnt_split, cnt_0 (P := fun i => (rc l).testBit (n + i)) c (fun i _ => by
    cases q : (rc l).testBit (n + i) with
    | false => rfl
    | true => have := hB l (n + i) hl q; omega), Nat.add_zero, ← cnt_perm (B := fun v => (rc l).testBit v) (iM_Mv hn hb).2.1]
  refine cnt_add n (fun v hv => ?_)
  show img (d8 b) (rc l) v 7 = (rc l).testBit (d8 (iM n b) v)
  have h := img_inv hn hB hb hl hv
  cases q : img (d8 b) (rc l) v 7 with
  | true => exact (h.mp q).symm
  | false =>
    cases q2 : (rc l).testBit (d8 (iM n b) v) with
    | false => rfl
    | true => rw [h.mpr q2] at q; exact absurd q (by decide)
theorem img_out (hn : n ≤ 7) (hB : ∀ l g, l < n → RC rc l g = true → g < n) {b : Nat} (hb : Mv n b) {l v : Nat} (hl : l < n) (h : img (d8 b) (rc l) v 7 = true) : v < n := by
  obtain ⟨q, _, h2, h3⟩ := img_ex 7 h
  rw [← h3]
  exact hb.2.1.1 q (hB l q hl h2)
theorem img_cnt7 (hn : n ≤ 7) (hB : ∀ l g, l < n → RC rc l g = true → g < n) {b : Nat} (hb : Mv n b) {l r : Nat} (hl : l < n) (hr : ∀ v, r.testBit v = img (d8 b) (rc l) v 7) : cnt (fun v => r.testBit v) 7 = cnt (fun v => (rc l).testBit v) 32 := by
  rw [← img_cnt hn hB hb hl, cnt_add (P := fun v => r.testBit v) (Q := fun v => img (d8 b) (rc l) v 7) 7 (fun v _ => hr v)]
  obtain ⟨c, hc⟩ : ∃ c, 7 = n + c := ⟨7 - n, by omega⟩
  have h0 : cnt (fun i => img (d8 b) (rc l) (n + i) 7) c = 0 := cnt_0 c (fun i _ => by
    cases q : img (d8 b) (rc l) (n + i) 7 with
    | false => rfl
    | true => have := img_out hn hB hb hl q; omega)
  have h2 := cnt_split (fun v => img (d8 b) (rc l) v 7) n c
  rw [h0, Nat.add_zero] at h2
  rw [← h2]
  exact congrArg (cnt _) hc
theorem zF_pos (h1 : 1 ≤ n) (hn : n ≤ 7) (h : CI n ro st sv rc kw ns) : ∀ m, m ≤ n → 1 ≤ zF rc n m
  | 0, _ => Nat.le_refl 1
  | m + 1, hm => by
    have ih := zF_pos h1 hn h m (by omega)
    have hC := (h.2.1 (n - (m + 1)) (by omega))
    have hc : 1 ≤ cnt (fun v => (rc (n - (m + 1))).testBit v) 32 := cnt_pos 32 _ (by have := hC.1; omega) hC.2.1
    exact Nat.le_trans (Nat.le_of_eq (by rfl : (1 : Nat) = 1 * 1)) (Nat.mul_le_mul ih hc)
theorem zF_5040 (h1 : 1 ≤ n) (hn : n ≤ 7) (h : CI n ro st sv rc kw ns) {m : Nat} (hm : m ≤ n) : zF rc n m ≤ 5040 := by
  rw [← zF_is h1 hn h.2.1 h.2.2.1 m hm]
  refine Nat.le_trans ?_ (fc_7 hn)
  unfold cd
  have : ∀ k, ct (fun k => CP n (RC rc) (ST st) m (XM n k)) k ≤ k := by
    intro k
    induction k with
    | zero => exact Nat.le_refl 0
    | succ k ih =>
      show ct (fun k => CP n (RC rc) (ST st) m (XM n k)) k + on (CP n (RC rc) (ST st) m (XM n k)) ≤ k + 1
      by_cases q : CP n (RC rc) (ST st) m (XM n k)
      · rw [on_t q]; omega
      · rw [on_f q]; omega
  exact this (fc n)
theorem MI_idx (h1 : 1 ≤ n) (hn : n ≤ 7) (h : CI n ro st sv rc kw ns) {rank c rest b r : Nat} (hc : c < n) (hI : MI n ro rc st la rank c rest b) (hr : ∀ v, r.testBit v = img (d8 b) (rc c) v 7) : rest / zF rc n (n - (c + 1)) < cnt (fun v => r.testBit v) 7 := by
  obtain ⟨a1, _, a3, _⟩ := hI
  rw [img_cnt7 hn h.2.2.1 a1 hc hr]
  refine Nat.div_lt_of_lt_mul ?_
  rw [show n - c = (n - (c + 1)) + 1 by omega] at a3
  have a3 : rest < zF rc n (n - (c + 1)) * cnt (fun v => (rc (n - (n - (c + 1) + 1))).testBit v) 32 := a3
  rw [show n - (n - (c + 1) + 1) = c by omega] at a3
  exact a3
theorem MI_src {b r c p : Nat} (hr : ∀ v, r.testBit v = img (d8 b) (rc c) v 7) (hp : r.testBit p = true) : ∃ q, q < 7 ∧ d8 b q = p := by
  rw [hr p] at hp
  obtain ⟨q, h1, _, h3⟩ := img_ex 7 hp
  exact ⟨q, h1, h3⟩
theorem MI_st (hn : n ≤ 7) (h : CI n ro st sv rc kw ns) {rank c rest b r p q : Nat} (hc : c < n) (hI : MI n ro rc st la rank c rest b) (hr : ∀ v, r.testBit v = img (d8 b) (rc c) v 7) (hp : r.testBit p = true) (hq7 : q < 7) (hq : d8 b q = p) : st (c * 8 + q) < 2 ^ (3 * 7) := by
  rw [hr p] at hp
  obtain ⟨q', g1, g2, g3⟩ := img_ex 7 hp
  have e : q = q' := (hI.1.p7 hn).2 q q' hq7 g1 (hq.trans g3.symm)
  rw [e]
  exact ((h.2.1 c hc).2.2.2 q' (h.2.2.1 c q' hc g2) g2).1.1
theorem MI_s (h1 : 1 ≤ n) (hn : n ≤ 7) (h : CI n ro st sv rc kw ns) (hQ : PQ n rc st kw ns) (hla : Mv n la) {rank c rest b r p q : Nat} (hc : c < n) (hI : MI n ro rc st la rank c rest b) (hr : ∀ v, r.testBit v = img (d8 b) (rc c) v 7)
    (hp : r.testBit p = true) (hpc : cnt (fun v => r.testBit v) p = rest / zF rc n (n - (c + 1))) (hq7 : q < 7) (hq : d8 b q = p) :
    MI n ro rc st la rank (c + 1) (rest - rest / zF rc n (n - (c + 1)) * zF rc n (n - (c + 1))) (c7 (st (c * 8 + q)) b) := by
  obtain ⟨a1, a2, a3, lf, l0, l1, l2⟩ := hI
  have hM := h.1
  have hC := h.2.1
  have hB := h.2.2.1
  have hpi := hp
  rw [hr p] at hpi
  have hpn := img_out hn hB a1 hc hpi
  have hRq : RC rc c q = true := by
    obtain ⟨q', g1, g2, g3⟩ := img_ex 7 hpi
    have e : q = q' := (a1.p7 hn).2 q q' hq7 g1 (hq.trans g3.symm)
    rw [e]
    exact g2
  have hqn := hB c q hc hRq
  obtain ⟨s1, s2, s3⟩ := (hC c hc).2.2.2 q hqn hRq
  have s1 : Mv n (st (c * 8 + q)) := s1
  have hz := zF_pos h1 hn h (n - (c + 1)) (by omega)
  have hb' : c7 (st (c * 8 + q)) b = cM n (st (c * 8 + q)) b := c7_M hn s1 a1
  have m1 := cM_Mv hn s1 a1
  have hold : ∀ j, j < c → d8 (cM n (st (c * 8 + q)) b) (d8 ro j) = d8 b (d8 ro j) := fun j hj => by
    rw [cM_d hn s1 a1 (hM.2.1.1 j (by omega))]
    exact congrArg (d8 b) (s2 j hj)
  have hnew : d8 (cM n (st (c * 8 + q)) b) (d8 ro c) = p := by
    rw [cM_d hn s1 a1 (hM.2.1.1 c hc)]
    exact (congrArg (d8 b) s3).trans hq
  have hW : ∀ l, l ≤ c → ∀ v, WT n (TL n rc st la) (d8 ro) (cM n (st (c * 8 + q)) b) l v = WT n (TL n rc st la) (d8 ro) b l v := fun l hl v => WT_pre h1 hn (fun j hj => hold j (by omega)) v
  have hWc : ∀ v, v < n → WT n (TL n rc st la) (d8 ro) b c v = zF rc n (n - (c + 1)) * (if r.testBit v = true then 1 else 0) := fun v hv => by
    rw [WT_is h1 hn h hQ hla a1 a2 hc hv, hr v]
    by_cases e : img (d8 b) (rc c) v 7 = true
    · rw [if_pos e, if_pos e, Nat.mul_one]
    · rw [if_neg e, if_neg e, Nat.mul_zero]
  have hmod : rest - rest / zF rc n (n - (c + 1)) * zF rc n (n - (c + 1)) = rest % zF rc n (n - (c + 1)) := by
    have := Nat.div_add_mod rest (zF rc n (n - (c + 1)))
    rw [Nat.mul_comm] at this
    omega
  rw [hb', hmod]
  refine ⟨m1, ?_, Nat.mod_lt _ hz, fun l => if l = c + 1 then rest % zF rc n (n - (c + 1)) else lf l, ?_, if_pos rfl, fun l hl => ?_⟩
  · show CP n (RC rc) (ST st) n (cM n (cM n (st (c * 8 + q)) b) (iM n la))
    rw [cM_assoc hn s1 a1 (iM_Mv hn hla)]
    exact CP_cM hn h hQ (CP_one hn hC hc hqn hRq) a2
  · show (if 0 = c + 1 then rest % zF rc n (n - (c + 1)) else lf 0) = rank
    rw [if_neg (by omega)]
    exact l0
  · show (if l = c + 1 then rest % zF rc n (n - (c + 1)) else lf l) = sm (WT n (TL n rc st la) (d8 ro) (cM n (st (c * 8 + q)) b) l) (d8 (cM n (st (c * 8 + q)) b) (d8 ro l)) + (if l + 1 = c + 1 then rest % zF rc n (n - (c + 1)) else lf (l + 1)) ∧ (if l + 1 = c + 1 then rest % zF rc n (n - (c + 1)) else lf (l + 1)) < WT n (TL n rc st la) (d8 ro) (cM n (st (c * 8 + q)) b) l (d8 (cM n (st (c * 8 + q)) b) (d8 ro l))
    rw [if_neg (show ¬ l = c + 1 by omega)]
    by_cases e : l = c
    · subst e
      rw [if_pos rfl, l1, hnew, sm_congr (g := fun v => zF rc n (n - (l + 1)) * (if r.testBit v = true then 1 else 0)) p (fun v hv => by rw [hW l (Nat.le_refl l), hWc v (by omega)]), sm_mul, hpc, hW l (Nat.le_refl l), hWc p hpn, if_pos hp, Nat.mul_one]
      exact ⟨(Nat.div_add_mod _ _).symm, Nat.mod_lt _ hz⟩
    · rw [if_neg (show ¬ l + 1 = c + 1 by omega), hold l (by omega), sm_congr (g := WT n (TL n rc st la) (d8 ro) b l) _ (fun v _ => hW l (by omega) v), hW l (by omega)]
      exact l2 l (by omega)
end MOVEAT
