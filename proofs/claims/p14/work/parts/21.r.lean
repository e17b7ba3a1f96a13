section
/-! what a chain tells: reach, rank, whether a move is in the group -/
theorem bt_f {b : Bool} (h : ¬ b = true) : b = false := by
  cases b with
  | false => rfl
  | true => exact absurd rfl h
/-- the sum of 2^v for those that are so -/
noncomputable def sBv (P : Nat → Prop) : Nat → Nat
  | 0 => 0
  | v + 1 => @ite _ (P v) (Classical.propDecidable (P v)) (sBv P v ||| 2 ^ v) (sBv P v)
theorem sBv_t {P : Nat → Prop} {v : Nat} (h : P v) : sBv P (v + 1) = sBv P v ||| 2 ^ v := @if_pos _ (Classical.propDecidable (P v)) h _ _ _
theorem sBv_f {P : Nat → Prop} {v : Nat} (h : ¬ P v) : sBv P (v + 1) = sBv P v := @if_neg _ (Classical.propDecidable (P v)) h _ _ _
theorem sBv_bit {P : Nat → Prop} {v : Nat} : ∀ m, (sBv P m).testBit v = true ↔ (v < m ∧ P v)
  | 0 => by
    show (0 : Nat).testBit v = true ↔ _
    rw [Nat.zero_testBit]
    exact ⟨fun h => absurd h (by decide), fun h => absurd h.1 (Nat.not_lt_zero v)⟩
  | m + 1 => by
    have ih := sBv_bit (P := P) (v := v) m
    by_cases q : P m
    · rw [sBv_t q, Nat.testBit_or, Bool.or_eq_true, ih, Nat.testBit_two_pow, decide_eq_true_eq]
      refine ⟨fun h => ?_, fun h => ?_⟩
      · rcases h with h | h
        · exact ⟨by omega, h.2⟩
        · subst h; exact ⟨Nat.lt_succ_self m, q⟩
      · by_cases e : v = m
        · exact Or.inr e.symm
        · exact Or.inl ⟨by omega, h.2⟩
    · rw [sBv_f q, ih]
      refine ⟨fun h => ⟨by omega, h.2⟩, fun h => ⟨?_, h.2⟩⟩
      by_cases e : v = m
      · rw [e] at h; exact absurd h.2 q
      · omega
theorem sBv_is {P : Nat → Prop} {r m : Nat} (h : ∀ v, r.testBit v = true ↔ (v < m ∧ P v)) : r = sBv P m :=
  Nat.eq_of_testBit_eq (fun v => Bool.eq_iff_iff.mpr ((h v).trans (sBv_bit m).symm))
theorem sBv_congr {P Q : Nat → Prop} {m : Nat} (h : ∀ v, v < m → (P v ↔ Q v)) : sBv P m = sBv Q m :=
  sBv_is (fun v => (sBv_bit m).trans ⟨fun q => ⟨q.1, (h v q.1).mp q.2⟩, fun q => ⟨q.1, (h v q.1).mpr q.2⟩⟩)
/-- the points of REACH -/
def RP (n : Nat) (G : Nat → Prop) (rd : Nat → Nat) (l v : Nat) : Prop := ∃ x, Mv n x ∧ G x ∧ (∀ j, j < l → d8 x (rd j) = rd j) ∧ d8 x (rd l) = v
section TELLS
variable {n ro : Nat} {st sv rc kw : Nat → Nat} {ns : Nat} {G : Nat → Prop}
theorem RP_is (hn : n ≤ 7) (h : CI n ro st sv rc kw ns) (hG : ∀ x, CP n (RC rc) (ST st) n x ↔ G x) {l v : Nat} (hl : l < n) : RC rc l v = true ↔ RP n G (d8 ro) l v := by
  obtain ⟨hM, hC, hB, _⟩ := h
  refine ⟨fun hr => ?_, fun ⟨x, hx, hg, hf, he⟩ => ?_⟩
  · have hv := hB l v hl hr
    obtain ⟨s1, s2, s3⟩ := (hC l hl).2.2.2 v hv hr
    exact ⟨ST st l v, s1, (hG _).mp (CP_one hn hC hl hv hr), s2, s3⟩
  · have hp := (hG x).mpr hg
    obtain ⟨m, hm⟩ : ∃ m, n - l = m + 1 := ⟨n - l - 1, by omega⟩
    have hml : n - (m + 1) = l := by omega
    have hd := CP_downs hn hC (m := m + 1) l (by omega) (by rw [show m + 1 + l = n by omega]; exact hp) (fun j hj => hf j (by omega))
    obtain ⟨g, w, hgn, hgr, hw, e⟩ := hd
    have e2 := CP_goal hn hC (m := m) (g := g) (h := w) (by omega) hgn hgr hw
    rw [← e, hml, he] at e2
    rw [e2, ← hml]
    exact hgr
theorem rc_sBv (hn : n ≤ 7) (h : CI n ro st sv rc kw ns) (hG : ∀ x, CP n (RC rc) (ST st) n x ↔ G x) {l : Nat} (hl : l < n) : rc l = sBv (RP n G (d8 ro) l) n :=
  sBv_is (fun v => ⟨fun q => ⟨h.2.2.1 l v hl q, (RP_is hn h hG hl).mp q⟩, fun q => (RP_is hn h hG hl).mpr q.2⟩)
/-- the rank of a move, level by level -/
noncomputable def rkS (n : Nat) (T : Nat → Prop) (rd : Nat → Nat) (x : Nat) : Nat → Nat
  | 0 => 0
  | c + 1 => rkS n T rd x c + sm (WT n T rd x c) (d8 x (rd c))
def RK (n ro : Nat) (rc st : Nat → Nat) (x c r b : Nat) : Prop :=
  Mv n b ∧ TL n rc st 1754760 b ∧ (∀ j, j < c → d8 b (d8 ro j) = d8 x (d8 ro j)) ∧ r = rkS n (TL n rc st 1754760) (d8 ro) x c ∧ r + zF rc n (n - c) ≤ zF rc n n
theorem TL_e (hn : n ≤ 7) {x : Nat} (hx : Mv n x) : TL n rc st 1754760 x ↔ CP n (RC rc) (ST st) n x := by
  unfold TL
  rw [e7_M hn]
  have e : iM n (eM n) = eM n := by
    have := iM_c hn (eM_Mv hn)
    rw [cM_e hn (iM_Mv hn (eM_Mv hn))] at this
    exact this
  rw [e, cM_e hn hx]
theorem RK_0 (hn : n ≤ 7) (h : CI n ro st sv rc kw ns) {x : Nat} : RK n ro rc st x 0 0 1754760 :=
  ⟨by rw [e7_M hn]; exact eM_Mv hn, (TL_e hn (by rw [e7_M hn]; exact eM_Mv hn)).mpr (by rw [e7_M hn]; exact CP_e hn h.2.1 n (Nat.le_refl n)), fun j hj => absurd hj (Nat.not_lt_zero j), rfl, by rw [Nat.zero_add, Nat.sub_zero]; exact Nat.le_refl _⟩
theorem e_Mv (hn : n ≤ 7) : Mv n 1754760 := by
  rw [e7_M hn]
  exact eM_Mv hn
theorem WT_x (h1 : 1 ≤ n) (hn : n ≤ 7) {x b c : Nat} (hf : ∀ j, j < c → d8 b (d8 ro j) = d8 x (d8 ro j)) (T : Nat → Prop) (p : Nat) : WT n T (d8 ro) x c p = WT n T (d8 ro) b c p :=
  WT_pre h1 hn (fun j hj => (hf j hj).symm) p
theorem cd_pos (h1 : 1 ≤ n) (hn : n ≤ 7) {P : Nat → Prop} {x : Nat} (hx : Mv n x) (h : P x) : 1 ≤ cd n P := by
  have e : P (XM n (nu n x)) := by rw [XM_nu h1 hn hx]; exact h
  have := sm_ge (f := fun k => on (P (XM n k))) (fc n) (nu_b n x)
  have h2 : on (P (XM n (nu n x))) = 1 := on_t e
  have this : on (P (XM n (nu n x))) ≤ cd n P := this
  omega
/-- no such goal: the move isn't in the group -/
theorem RK_no (h1 : 1 ≤ n) (hn : n ≤ 7) (h : CI n ro st sv rc kw ns) (hQ : PQ n rc st kw ns) {x c r b gs : Nat} (hx : Mv n x) (hc : c < n) (hI : RK n ro rc st x c r b) (hg : ∀ v, gs.testBit v = img (d8 b) (rc c) v 7) (hb : gs.testBit (d8 x (d8 ro c)) = false) : ¬ CP n (RC rc) (ST st) n x := fun hp => by
  obtain ⟨a1, a2, a3, _⟩ := hI
  have hrd := h.1.2.1.1 c hc
  have hgn := hx.2.1.1 _ hrd
  have hw := WT_is h1 hn h hQ (e_Mv hn) a1 a2 hc hgn
  rw [← hg, hb, if_neg Bool.false_ne_true] at hw
  have := cd_pos h1 hn (P := fun y => TL n rc st 1754760 y ∧ (∀ j, j < c → d8 y (d8 ro j) = d8 b (d8 ro j)) ∧ d8 y (d8 ro c) = d8 x (d8 ro c)) hx ⟨(TL_e hn hx).mpr hp, fun j hj => (a3 j hj).symm, rfl⟩
  have hw : cd n (fun y => TL n rc st 1754760 y ∧ (∀ j, j < c → d8 y (d8 ro j) = d8 b (d8 ro j)) ∧ d8 y (d8 ro c) = d8 x (d8 ro c)) = 0 := hw
  omega
theorem RK_b (h1 : 1 ≤ n) (hn : n ≤ 7) (h : CI n ro st sv rc kw ns) {x c r b gs g : Nat} (hc : c < n) (hI : RK n ro rc st x c r b) (hg : ∀ v, gs.testBit v = img (d8 b) (rc c) v 7) (hb : gs.testBit g = true) (hg7 : g < 7) : r + cnt (fun v => gs.testBit v) g * zF rc n (n - (c + 1)) + zF rc n (n - (c + 1)) ≤ zF rc n n := by
  obtain ⟨a1, _, _, _, a5⟩ := hI
  have e := img_cnt7 hn h.2.2.1 a1 hc hg
  have hz : zF rc n (n - c) = zF rc n (n - (c + 1)) * cnt (fun v => (rc c).testBit v) 32 := by
    rw [show n - c = (n - (c + 1)) + 1 by omega]
    show zF rc n (n - (c + 1)) * cnt (fun v => (rc (n - (n - (c + 1) + 1))).testBit v) 32 = _
    rw [show n - (n - (c + 1) + 1) = c by omega]
  have hlt : cnt (fun v => gs.testBit v) g + 1 ≤ cnt (fun v => gs.testBit v) 7 := by
    obtain ⟨k, hk⟩ : ∃ k, 7 = g + 1 + k := ⟨6 - g, by omega⟩
    rw [hk, cnt_split]
    have : cnt (fun v => gs.testBit v) (g + 1) = cnt (fun v => gs.testBit v) g + 1 := by
      show cnt (fun v => gs.testBit v) g + (if gs.testBit g = true then 1 else 0) = _
      rw [if_pos hb]
    omega
  rw [e] at hlt
  have hm : (cnt (fun v => gs.testBit v) g + 1) * zF rc n (n - (c + 1)) ≤ zF rc n (n - (c + 1)) * cnt (fun v => (rc c).testBit v) 32 := by
    rw [Nat.mul_comm (zF rc n (n - (c + 1)))]
    exact Nat.mul_le_mul_right _ hlt
  rw [Nat.add_mul, Nat.one_mul, ← hz] at hm
  omega
theorem RK_s (h1 : 1 ≤ n) (hn : n ≤ 7) (h : CI n ro st sv rc kw ns) (hQ : PQ n rc st kw ns) {x c r b gs q : Nat} (hx : Mv n x) (hc : c < n) (hI : RK n ro rc st x c r b) (hg : ∀ v, gs.testBit v = img (d8 b) (rc c) v 7)
    (hb : gs.testBit (d8 x (d8 ro c)) = true) (hq7 : q < 7) (hq : d8 b q = d8 x (d8 ro c)) : RK n ro rc st x (c + 1) (r + cnt (fun v => gs.testBit v) (d8 x (d8 ro c)) * zF rc n (n - (c + 1))) (c7 (st (c * 8 + q)) b) := by
  have hrd := h.1.2.1.1 c hc
  have hgn := hx.2.1.1 _ hrd
  have hbound := RK_b h1 hn h hc hI hg hb (by omega)
  obtain ⟨a1, a2, a3, a4, a5⟩ := hI
  have hM := h.1
  have hC := h.2.1
  have hB := h.2.2.1
  have hpi := hb
  rw [hg] at hpi
  have hRq : RC rc c q = true := by
    obtain ⟨q', g1, g2, g3⟩ := img_ex 7 hpi
    have e : q = q' := (a1.p7 hn).2 q q' hq7 g1 (hq.trans g3.symm)
    rw [e]
    exact g2
  have hqn := hB c q hc hRq
  obtain ⟨s1, s2, s3⟩ := (hC c hc).2.2.2 q hqn hRq
  have s1 : Mv n (st (c * 8 + q)) := s1
  have hb' : c7 (st (c * 8 + q)) b = cM n (st (c * 8 + q)) b := c7_M hn s1 a1
  have m1 := cM_Mv hn s1 a1
  rw [hb']
  refine ⟨m1, ?_, fun j hj => ?_, ?_, hbound⟩
  · show CP n (RC rc) (ST st) n (cM n (cM n (st (c * 8 + q)) b) (iM n 1754760))
    rw [cM_assoc hn s1 a1 (iM_Mv hn (e_Mv hn))]
    exact CP_cM hn h hQ (CP_one hn hC hc hqn hRq) a2
  · by_cases e : j = c
    · subst e
      rw [cM_d hn s1 a1 hrd]
      exact (congrArg (d8 b) s3).trans hq
    · rw [cM_d hn s1 a1 (hM.2.1.1 j (by omega)), ← a3 j (by omega)]
      exact congrArg (d8 b) (s2 j (by omega))
  · show _ = rkS n (TL n rc st 1754760) (d8 ro) x c + sm (WT n (TL n rc st 1754760) (d8 ro) x c) (d8 x (d8 ro c))
    rw [← a4, sm_congr (g := fun v => zF rc n (n - (c + 1)) * (if gs.testBit v = true then 1 else 0)) (d8 x (d8 ro c)) (fun v hv => by
      rw [WT_x h1 hn a3, WT_is h1 hn h hQ (e_Mv hn) a1 a2 hc (show v < n by omega), hg v]
      by_cases e : img (d8 b) (rc c) v 7 = true
      · rw [if_pos e, if_pos e, Nat.mul_one]
      · rw [if_neg e, if_neg e, Nat.mul_zero]), sm_mul, Nat.mul_comm]
theorem RK_st (hn : n ≤ 7) (h : CI n ro st sv rc kw ns) {x c r b gs q : Nat} (hc : c < n) (hI : RK n ro rc st x c r b) (hg : ∀ v, gs.testBit v = img (d8 b) (rc c) v 7) {p : Nat} (hp : gs.testBit p = true) (hq7 : q < 7) (hq : d8 b q = p) : st (c * 8 + q) < 2 ^ (3 * 7) := by
  rw [hg p] at hp
  obtain ⟨q', g1, g2, g3⟩ := img_ex 7 hp
  have e : q = q' := (hI.1.p7 hn).2 q q' hq7 g1 (hq.trans g3.symm)
  rw [e]
  exact ((h.2.1 c hc).2.2.2 q' (h.2.2.1 c q' hc g2) g2).1.1
theorem RK_n (hn : n ≤ 7) (h : CI n ro st sv rc kw ns) {x c r b : Nat} (hx : Mv n x) (hc : c = n) (hI : RK n ro rc st x c r b) : CP n (RC rc) (ST st) n x ∧ r = rkS n (TL n rc st 1754760) (d8 ro) x n := by
  subst hc
  obtain ⟨a1, a2, a3, a4, _⟩ := hI
  have e : b = x := a1.ext hx (fun p hp => by
    obtain ⟨j, hj, e⟩ := inj_surj _ (d8 ro) h.1.2.1 p hp
    rw [← e]
    exact a3 j hj)
  rw [e] at a2
  exact ⟨(TL_e hn hx).mp a2, a4⟩
def RKV (G : Prop) (r : Nat) (v : Int32) : Prop := (G ∧ v = nI r ∧ r < 5041) ∨ (¬ G ∧ v = (-1))
theorem rkS_iff (h1 : 1 ≤ n) (hn : n ≤ 7) {T T' : Nat → Prop} (hT : ∀ x, Mv n x → (T x ↔ T' x)) (rd : Nat → Nat) (x : Nat) : ∀ c, rkS n T rd x c = rkS n T' rd x c
  | 0 => rfl
  | c + 1 => by
    show rkS n T rd x c + sm (WT n T rd x c) (d8 x (rd c)) = rkS n T' rd x c + sm (WT n T' rd x c) (d8 x (rd c))
    have hw : ∀ p, WT n T rd x c p = WT n T' rd x c p := fun p => cd_iff h1 hn (fun y hy => and_congr (hT y hy) Iff.rfl)
    rw [rkS_iff h1 hn hT rd x c, sm_congr (f := WT n T rd x c) (g := WT n T' rd x c) _ (fun p _ => hw p)]
/-- a rank's answer -/
noncomputable def rkI (G : Prop) (r : Nat) : Int32 := @ite _ G (Classical.propDecidable G) (nI r) (-1)
theorem rkI_of {G : Prop} {r : Nat} {v : Int32} (h : RKV G r v) : v = rkI G r := by
  rcases h with ⟨g, e, _⟩ | ⟨g, e⟩
  · exact e.trans (@if_pos _ (Classical.propDecidable G) g _ _ _).symm
  · exact e.trans (@if_neg _ (Classical.propDecidable G) g _ _ _).symm
theorem rkI_iff {G G' : Prop} {r r' : Nat} (h : G ↔ G') (e : r = r') : rkI G r = rkI G' r' := by
  rw [e, propext h]
end TELLS
theorem RKV_lt {G : Prop} {r : Nat} {v : Int32} (h : RKV G r v) (hl : v < 0) : ¬ G := fun g => by
  rcases h with ⟨_, e, hr⟩ | ⟨q, _⟩
  · rw [e] at hl
    exact absurd hl (nI_pos (n := r) (by omega))
  · exact q g
theorem RKV_ge {G : Prop} {r : Nat} {v : Int32} (h : RKV G r v) (hl : ¬ v < 0) : G := by
  rcases h with ⟨g, _⟩ | ⟨_, e⟩
  · exact g
  · rw [e] at hl
    exact absurd (by decide) hl
theorem hA_s {P B : Nat → Prop} {c : Nat} (h : ∀ i, i < c → B i → P i) (hc : B c → P c) : ∀ i, i < c + 1 → B i → P i := fun i hi hb => by
  by_cases e : i = c
  · rw [e] at hb ⊢; exact hc hb
  · exact h i (by omega) hb
end
section
/-! what groups answer: parts, shares, pairs, enough -/
noncomputable def ppI (P : Prop) (x y : Int32) : Int32 := @ite _ P (Classical.propDecidable P) x y
theorem ppI_t {P : Prop} {x y : Int32} (h : P) : ppI P x y = x := @if_pos _ (Classical.propDecidable P) h _ _ _
theorem ppI_f {P : Prop} {x y : Int32} (h : ¬ P) : ppI P x y = y := @if_neg _ (Classical.propDecidable P) h _ _ _
theorem ppI_iff {P Q : Prop} {x y : Int32} (h : P ↔ Q) : ppI P x y = ppI Q x y := by rw [propext h]
theorem all_iff {P Q : Nat → Prop} {B : Nat → Prop} {f : Nat → Nat} (h : ∀ x, P x ↔ Q x) : (∀ c, c < 6 → B c → P (f c)) ↔ (∀ c, c < 6 → B c → Q (f c)) :=
  ⟨fun a c hc hb => (h _).mp (a c hc hb), fun a c hc hb => (h _).mpr (a c hc hb)⟩
/-- any two points come to any two -/
def TF (n : Nat) (G : Nat → Prop) : Prop := ∀ u v, u < n → v < n → u ≠ v → ∃ x, Mv n x ∧ G x ∧ d8 x 0 = u ∧ d8 x 1 = v
/-- the least number so told -/
noncomputable def lsK (P : Nat → Prop) : Nat → Nat → Nat
  | 0, k => k
  | m + 1, k => @ite _ (P k) (Classical.propDecidable (P k)) k (lsK P m (k + 1))
theorem lsK_is {P : Nat → Prop} {y : Nat} (hy : P y) (hl : ∀ k, k < y → ¬ P k) : ∀ m k, k ≤ y → y ≤ k + m → lsK P m k = y
  | 0, k, h1, h2 => by
    show k = y
    omega
  | m + 1, k, h1, h2 => by
    show @ite _ (P k) (Classical.propDecidable (P k)) k (lsK P m (k + 1)) = y
    by_cases e : k = y
    · subst e
      exact @if_pos _ (Classical.propDecidable (P k)) hy _ _ _
    · rw [@if_neg _ (Classical.propDecidable (P k)) (hl k (by omega)) _ _ _]
      exact lsK_is hy hl m (k + 1) (by omega) (by omega)
/-- the least number in a share -/
noncomputable def lsN (n : Nat) (G : Nat → Prop) (y : Nat) : Nat := lsK (fun k => ∃ x, Mv n x ∧ G x ∧ nu n (cM n x y) = k) (fc n) 0
theorem lsN_is {n : Nat} {G : Nat → Prop} {y z : Nat} (hz : ∃ x, Mv n x ∧ G x ∧ cM n x y = z) (hl : ∀ x, Mv n x → G x → nu n z ≤ nu n (cM n x y)) : lsN n G y = nu n z := by
  obtain ⟨x, h1, h2, h3⟩ := hz
  refine lsK_is ⟨x, h1, h2, by rw [h3]⟩ (fun k hk ⟨x', a, b, c⟩ => ?_) (fc n) 0 (Nat.zero_le _) (by have := nu_b n z; omega)
  have := hl x' a b
  omega
section LEAST
variable {n : Nat}
theorem d8_e {n : Nat} (hn : n ≤ 7) {p : Nat} (hp : p < n) : d8 1754760 p = p := e7_d p (by omega)
/-- the first one by the row 0, 1, 2 .. has the least number -/
theorem GK_least (h1 : 1 ≤ n) (hn : n ≤ 7) {T : Nat → Prop} {y : Nat} (hy : Mv n y) (h : GK n T (d8 1754760) 0 y) {z : Nat} (hz : Mv n z) (hT : T z) : nu n y ≤ nu n z := by
  obtain ⟨lf, l0, l1⟩ := h
  have hl : ∀ l, l ≤ n → lf l = 0 := by
    intro l
    induction l with
    | zero => intro _; exact l0
    | succ l ih =>
      intro hl
      have := (l1 l (by omega)).1
      rw [ih (by omega)] at this
      omega
  by_cases e : y = z
  · rw [e]; exact Nat.le_refl _
  · -- the first place where they differ
    obtain ⟨p, hp, hd⟩ : ∃ p, p < n ∧ d8 y p ≠ d8 z p := by
      refine Classical.byContradiction fun hno => e (hy.ext hz (fun p hp => ?_))
      exact Classical.byContradiction fun q => hno ⟨p, hp, q⟩
    obtain ⟨q, q1, q2, q3⟩ := least (P := fun i => d8 y i ≠ d8 z i) p hd
    have hqn : q < n := by omega
    have hag : ∀ j, j < q → d8 y j = d8 z j := fun j hj => Classical.byContradiction fun w => q3 j hj w
    refine Nat.le_of_lt (nu_lex hy.2.1 hz.2.1 hqn hag ?_)
    rcases Nat.lt_or_gt_of_ne q2 with w | w
    · exact w
    · have h2 := (l1 q hqn).1
      rw [hl q (by omega), hl (q + 1) (by omega)] at h2
      have h3 : sm (WT n T (d8 1754760) y q) (d8 y (d8 1754760 q)) = 0 := by omega
      rw [d8_e hn hqn] at h3
      have h4 := sm_ge (f := WT n T (d8 1754760) y q) (d8 y q) w
      have h5 : 1 ≤ WT n T (d8 1754760) y q (d8 z q) := cd_pos h1 hn hz ⟨hT, fun j hj => by rw [d8_e hn (show j < n by omega)]; exact (hag j hj).symm, by rw [d8_e hn hqn]⟩
      omega
theorem GK_in (h1 : 1 ≤ n) (hn : n ≤ 7) {T : Nat → Prop} {rd : Nat → Nat} (hrd : Pn n rd) {y r : Nat} (hy : Mv n y) (h : GK n T rd r y) : T y := by
  obtain ⟨lf, _, l1⟩ := h
  obtain ⟨m, hm⟩ : ∃ m, n = m + 1 := ⟨n - 1, by omega⟩
  have h2 := (l1 m (by omega)).2
  have h3 : 1 ≤ WT n T rd y m (d8 y (rd m)) := by omega
  refine Classical.byContradiction fun q => ?_
  have : WT n T rd y m (d8 y (rd m)) = 0 := cd_0 h1 hn (fun x hx ⟨a, b, c⟩ => q (by
    have : x = y := hx.ext hy (fun p hp => by
      obtain ⟨j, hj, e⟩ := inj_surj n rd hrd p hp
      rw [← e]
      by_cases w : j < m
      · exact b j w
      · rw [show j = m by omega]; exact c)
    rw [← this]; exact a))
  omega
variable {ro : Nat} {st sv rc kw : Nat → Nat} {ns : Nat} {G : Nat → Prop}
/-- made up, then the last one: the share -/
theorem TL_share (hn : n ≤ 7) (h : CI n ro st sv rc kw ns) (hG : ∀ x, CP n (RC rc) (ST st) n x ↔ G x) {la z : Nat} (hla : Mv n la) (hz : Mv n z) : TL n rc st la z ↔ ∃ x, Mv n x ∧ G x ∧ cM n x la = z := by
  refine ⟨fun a => ⟨cM n z (iM n la), cM_Mv hn hz (iM_Mv hn hla), (hG _).mp a, ?_⟩, fun ⟨x, x1, x2, x3⟩ => ?_⟩
  · rw [cM_assoc hn hz (iM_Mv hn hla) hla, iM_c hn hla, cM_e hn hz]
  · show CP n (RC rc) (ST st) n (cM n z (iM n la))
    rw [← x3, cM_forth hn x1 hla]
    exact (hG _).mpr x2
theorem share_is (h1 : 1 ≤ n) (hn : n ≤ 7) (h : CI n ro st sv rc kw ns) (hG : ∀ x, CP n (RC rc) (ST st) n x ↔ G x) {la y : Nat} (hla : Mv n la) (hy : Mv n y) (hK : GK n (TL n rc st la) (d8 1754760) 0 y) : nu n y = lsN n G la := by
  have hin := GK_in h1 hn (e_Mv hn).2.1 hy hK
  refine (lsN_is ((TL_share hn h hG hla hy).mp hin) (fun x hx hg => ?_)).symm
  exact GK_least h1 hn hy hK (cM_Mv hn hx hla) ((TL_share hn h hG hla (cM_Mv hn hx hla)).mpr ⟨x, hx, hg, rfl⟩)
/-- two levels tell pairs -/
theorem cnt_full {P : Nat → Bool} {n : Nat} (h : cnt P n = n) : ∀ v, v < n → P v = true := by
  induction n with
  | zero => intro v hv; exact absurd hv (Nat.not_lt_zero v)
  | succ n ih =>
    have h : cnt P n + (if P n = true then 1 else 0) = n + 1 := h
    have hl := cnt_le P n
    by_cases e : P n = true
    · rw [if_pos e] at h
      intro v hv
      by_cases q : v = n
      · rw [q]; exact e
      · exact ih (by omega) v (by omega)
    · rw [if_neg e] at h
      omega
theorem pc_n {x n : Nat} (hn : n ≤ 7) (hx : x < 2 ^ 31) (h : ∀ v, x.testBit v = true → v < n) : pc32 (nI x) = cnt (fun v => x.testBit v) n := by
  rw [pc32_nI (Nat.lt_trans hx (by decide))]
  obtain ⟨c, hc⟩ : ∃ c, 32 = n + c := ⟨32 - n, by omega⟩
  rw [hc, cnt_split, cnt_0 (P := fun i => x.testBit (n + i)) c (fun i _ => by
    cases q : x.testBit (n + i) with
    | false => rfl
    | true => have := h _ q; omega), Nat.add_zero]
theorem cnt_but {P : Nat → Bool} {n : Nat} (hn : 1 ≤ n) (h0 : P 0 = false) (h : cnt P n = n - 1) : ∀ v, v < n → v ≠ 0 → P v = true := by
  intro v hv hv0
  obtain ⟨k, hk⟩ : ∃ k, n = 1 + k := ⟨n - 1, by omega⟩
  rw [hk, cnt_split] at h
  have h1 : cnt P 1 = 0 := by
    show 0 + (if P 0 = true then 1 else 0) = 0
    rw [h0]; rfl
  have h2 : cnt (fun i => P (1 + i)) k = k := by omega
  have := cnt_full h2 (v - 1) (by omega)
  rw [show 1 + (v - 1) = v by omega] at this
  exact this
theorem cnt_most {P : Nat → Bool} {n : Nat} (hn : 1 ≤ n) (h0 : P 0 = false) (h : ∀ v, v < n → v ≠ 0 → P v = true) : cnt P n = n - 1 := by
  obtain ⟨k, hk⟩ : ∃ k, n = 1 + k := ⟨n - 1, by omega⟩
  rw [hk, cnt_split]
  have h1 : cnt P 1 = 0 := by
    show 0 + (if P 0 = true then 1 else 0) = 0
    rw [h0]; rfl
  have h2 : cnt (fun i => P (1 + i)) k = k := by
    rw [cnt_add (Q := fun _ => true) k (fun i hi => h _ (by omega) (by omega)), cnt_all]
  omega
theorem two_is (hn1 : 2 ≤ n) (hn : n ≤ 7) (hc : ∀ a b, Mv n a → Mv n b → G a → G b → G (cM n a b)) (hi : ∀ a, Mv n a → G a → G (iM n a)) (h : CI n 1754760 st sv rc kw ns) (hG : ∀ x, CP n (RC rc) (ST st) n x ↔ G x) :
    (pc32 (nI (rc 0)) = n ∧ pc32 (nI (rc 1)) = n - 1) ↔ TF n G := by
  have e0 : d8 1754760 0 = 0 := e7_d 0 (by decide)
  have e1 : d8 1754760 1 = 1 := e7_d 1 (by decide)
  have hB := h.2.2.1
  rw [pc_n hn (h.2.2.2.2.2.2.2 0 (by omega)) (fun v hv => hB 0 v (by omega) hv), pc_n hn (h.2.2.2.2.2.2.2 1 (by omega)) (fun v hv => hB 1 v (by omega) hv)]
  have r0 : ∀ v, (rc 0).testBit v = true ↔ ∃ x, Mv n x ∧ G x ∧ d8 x 0 = v := fun v => (RP_is hn h hG (l := 0) (by omega)).trans (by
    unfold RP
    rw [e0]
    exact ⟨fun ⟨x, a, b, _, c⟩ => ⟨x, a, b, c⟩, fun ⟨x, a, b, c⟩ => ⟨x, a, b, fun j hj => absurd hj (Nat.not_lt_zero j), c⟩⟩)
  have r1 : ∀ v, (rc 1).testBit v = true ↔ ∃ x, Mv n x ∧ G x ∧ d8 x 0 = 0 ∧ d8 x 1 = v := fun v => (RP_is hn h hG (l := 1) (by omega)).trans (by
    unfold RP
    rw [e1]
    exact ⟨fun ⟨x, a, b, d, c⟩ => ⟨x, a, b, by have := d 0 (by decide); rw [e0] at this; exact this, c⟩, fun ⟨x, a, b, d, c⟩ => ⟨x, a, b, fun j hj => by rw [show j = 0 by omega, e0]; exact d, c⟩⟩)
  have z1 : (rc 1).testBit 0 = false := bt_f (fun q => by
    obtain ⟨x, a, _, c, d⟩ := (r1 0).mp q
    have := a.2.1.2 0 1 (by omega) (by omega) (c.trans d.symm)
    omega)
  refine ⟨fun ⟨a, b⟩ u v hu hv hne => ?_, fun hT => ⟨?_, ?_⟩⟩
  · obtain ⟨x, x1, x2, x3⟩ := (r0 u).mp (cnt_full a u hu)
    -- undo it: where must 1 go first
    have xi := iM_Mv hn x1
    have hw : d8 (iM n x) v < n := xi.2.1.1 v hv
    have hwx : d8 x (d8 (iM n x) v) = v := by
      have := cM_d hn xi x1 hv
      rw [iM_c hn x1, eM_d hn hv] at this
      exact this.symm
    have hw0 : d8 (iM n x) v ≠ 0 := fun e => hne (by rw [← x3, ← hwx, e])
    obtain ⟨z, z1, z2, z3, z4⟩ := (r1 _).mp (cnt_but (by omega) z1 b _ hw hw0)
    exact ⟨cM n z x, cM_Mv hn z1 x1, hc _ _ z1 x1 z2 x2, by rw [cM_d hn z1 x1 (by omega), z3, x3], by rw [cM_d hn z1 x1 (by omega), z4, hwx]⟩
  · rw [cnt_add (Q := fun _ => true) n (fun v hv => (r0 v).mpr (by
      obtain ⟨w, hw, hne⟩ : ∃ w, w < n ∧ v ≠ w := ⟨if v = 0 then 1 else 0, by split <;> omega, by split <;> omega⟩
      obtain ⟨x, a, b, c, _⟩ := hT v w hv hw hne
      exact ⟨x, a, b, c⟩)), cnt_all]
  · exact cnt_most (by omega) z1 (fun v hv h0 => (r1 v).mpr (by
      obtain ⟨x, a, b, c, d⟩ := hT 0 v (by omega) hv (fun e => h0 e.symm)
      exact ⟨x, a, b, c, d⟩))
/-- ENOUGH, cell by cell -/
noncomputable def enF (n : Nat) (cm : Nat → Nat) (s : Nat) : Nat → Nat
  | 0 => 0
  | c + 1 => @ite _ (s.testBit c = true ∧ ¬ Gg n (gS cm s c) (cm c)) (Classical.propDecidable _) (enF n cm s c ||| 2 ^ c) (enF n cm s c)
theorem enF_t {cm : Nat → Nat} {s c : Nat} (h1 : s.testBit c = true) (h2 : ¬ Gg n (gS cm s c) (cm c)) : enF n cm s (c + 1) = enF n cm s c ||| 2 ^ c := @if_pos _ (Classical.propDecidable _) ⟨h1, h2⟩ _ _ _
theorem enF_f {cm : Nat → Nat} {s c : Nat} (h : ¬ (s.testBit c = true ∧ ¬ Gg n (gS cm s c) (cm c))) : enF n cm s (c + 1) = enF n cm s c := @if_neg _ (Classical.propDecidable _) h _ _ _
/-- .. the group made so far -/
theorem GE_c {cm : Nat → Nat} {s k : Nat} (hn : n ≤ 7) (hk : k ≤ 6) (h : CI n ro st sv rc kw ns) (hQ : PQ n rc st kw ns) (hA : Al n rc st (Gg n (gS cm s k))) (hS : ∀ c, c < k → s.testBit c = true → CP n (RC rc) (ST st) n (cm c)) (hcm : ∀ c, c < 6 → Mv n (cm c)) : ∀ x, CP n (RC rc) (ST st) n x ↔ Gg n (gS cm s k) x := fun x => by
  refine ⟨fun hx => CP_in hn h.2.1 (Gg_Cl hn (gS_M hk hcm)) hA n x (Nat.le_refl n) hx, fun hx => ?_⟩
  refine (hx (fun z => Mv n z ∧ CP n (RC rc) (ST st) n z) ⟨eM_Mv hn, CP_e hn h.2.1 n (Nat.le_refl n)⟩ (fun a b ha hz hb => ?_)).2
  obtain ⟨c, h1, h2, e⟩ := hb
  have hcp := hS c h1 h2
  rw [e]
  exact ⟨cM_Mv hn ha (hcm c (by omega)), CP_cM hn h hQ hz.2 hcp⟩
end LEAST
end
