section
/-! what a chain tells: reach, rank, whether a move is in the group -/
theorem bt_f {b : Bool} (h : ¬ b = true) : b = false := by
  cases b with
  | false => rfl
  | true => exact absurd rfl h
/-- the sum of 2^v for those that are so -/
noncomputable def sBv (P : Nat → Prop) : Nat → Nat
  | 0 => 0
  | v + 1 => @ite _ (P v) (Classical.propDecidable (P v)) (sBv P v ||| 2 ^ v) (sBv P v)
theorem sBv_t {P : Nat → Prop} {v : Nat} (h : P v) : sBv P (v + 1) = sBv P v ||| 2 ^ v := @if_pos _ (Classical.propDecidable (P v)) h _ _ _
theorem sBv_f {P : Nat → Prop} {v : Nat} (h : ¬ P v) : sBv P (v + 1) = sBv P v := @if_neg _ (Classical.propDecidable (P v)) h _ _ _
theorem sBv_bit {P : Nat → Prop} {v : Nat} : ∀ m, (sBv P m).testBit v = true ↔ (v < m ∧ P v)
  | 0 => by
    show (0 : Nat).testBit v = true ↔ _
    rw [Nat.zero_testBit]
    exact ⟨fun h => absurd h (by decide), fun h => absurd h.1 (Nat.not_lt_zero v)⟩
  | m + 1 => by
    have ih := sBv_bit (P := P) (v := v) m
    by_cases q : P m
    · rw [sBv_t q, Nat.testBit_or, Bool.or_eq_true, ih, Nat.testBit_two_pow, decide_eq_true_eq]
      refine ⟨fun h => ?_, fun h => ?_⟩
      · rcases h with h | h
        · exact ⟨by omega, h.2⟩
        · subst h; exact ⟨Nat.lt_succ_self m, q⟩
      · by_cases e : v = m
        · exact Or.inr e.symm
        · exact Or.inl ⟨by omega, h.2⟩
    · rw [sBv_f q, ih]
      refine ⟨fun h => ⟨by omega, h.2⟩, fun h => ⟨?_, h.2⟩⟩
      by_cases e : v = m
      · rw [e] at h; exact absurd h.2 q
      · omega
theorem sBv_is {P : Nat → Prop} {r m : Nat} (h : ∀ v, r.testBit v = true ↔ (v < m ∧ P v)) : r = sBv P m :=
  Nat.eq_of_testBit_eq (fun v => Bool.eq_iff_iff.mpr ((h v).trans (sBv_bit m).symm))
theorem sBv_congr {P Q : Nat → Prop} {m : Nat} (h : ∀ v, v < m → (P v ↔ Q v)) : sBv P m = sBv Q m :=
  sBv_is (fun v => (sBv_bit m).trans ⟨fun q => ⟨q.1, (h v q.1).mp q.2⟩, fun q => ⟨q.1, (h v q.1).mpr q.2⟩⟩)
/-- the points of REACH -/
def RP (n : Nat) (G : Nat → Prop) (rd : Nat → Nat) (l v : Nat) : Prop := ∃ x, Mv n x ∧ G x ∧ (∀ j, j < l → d8 x (rd j) = rd j) ∧ d8 x (rd l) = v
section TELLS
variable {n ro : Nat} {st sv rc kw : Nat → Nat} {ns : Nat} {G : Nat → Prop}
theorem RP_is (hn : n ≤ 7) (h : CI n ro st sv rc kw ns) (hG : ∀ x, CP n (RC rc) (ST st) n x ↔ G x) {l v : Nat} (hl : l < n) : RC rc l v = true ↔ RP n G (d8 ro) l v := by
  obtain ⟨hM, hC, hB, _⟩ := h
  refine ⟨fun hr => ?_, fun ⟨x, hx, hg, hf, he⟩ => ?_⟩
  · have hv := hB l v hl hr
    obtain ⟨s1, s2, s3⟩ := (hC l hl).2.2.2 v hv hr
    exact ⟨ST st l v, s1, (hG _).mp (CP_one hn hC hl hv hr), s2, s3⟩
  · have hp := (hG x).mpr hg
    obtain ⟨m, hm⟩ : ∃ m, n - l = m + 1 := ⟨n - l - 1, by omega⟩
    have hml : n - (m + 1) = l := by omega
    have hd := CP_downs hn hC (m := m + 1) l (by omega) (by rw [show m + 1 + l = n by omega]; exact hp) (fun j hj => hf j (by omega))
    obtain ⟨g, w, hgn, hgr, hw, e⟩ := hd
    have e2 := CP_goal hn hC (m := m) (g := g) (h := w) (by omega) hgn hgr hw
    rw [← e, hml, he] at e2
    rw [e2, ← hml]
    exact hgr
theorem rc_sBv (hn : n ≤ 7) (h : CI n ro st sv rc kw ns) (hG : ∀ x, CP n (RC rc) (ST st) n x ↔ G x) {l : Nat} (hl : l < n) : rc l = sBv (RP n G (d8 ro) l) n :=
  sBv_is (fun v => ⟨fun q => ⟨h.2.2.1 l v hl q, (RP_is hn h hG hl).mp q⟩, fun q => (RP_is hn h hG hl).mpr q.2⟩)
/-- the rank of a move, level by level -/
noncomputable def rkS (n : Nat) (T : Nat → Prop) (rd : Nat → Nat) (x : Nat) : Nat → Nat
  | 0 => 0
  | c + 1 => rkS n T rd x c + sm (WT n T rd x c) (d8 x (rd c))
def RK (n ro : Nat) (rc st : Nat → Nat) (x c r b : Nat) : Prop :=
  Mv n b ∧ TL n rc st 1754760 b ∧ (∀ j, j < c → d8 b (d8 ro j) = d8 x (d8 ro j)) ∧ r = rkS n (TL n rc st 1754760) (d8 ro) x c ∧ r + zF rc n (n - c) ≤ zF rc n n
theorem TL_e (hn : n ≤ 7) {x : Nat} (hx : Mv n x) : TL n rc st 1754760 x ↔ CP n (RC rc) (ST st) n x := by
  unfold TL
  rw [e7_M hn]
  have e : iM n (eM n) = eM n := by
    have := iM_c hn (eM_Mv hn)
    rw [cM_e hn (iM_Mv hn (eM_Mv hn))] at this
    exact this
  rw [e, cM_e hn hx]
theorem RK_0 (hn : n ≤ 7) (h : CI n ro st sv rc kw ns) {x : Nat} : RK n ro rc st x 0 0 1754760 :=
  ⟨by rw [e7_M hn]; exact eM_Mv hn, (TL_e hn (by rw [e7_M hn]; exact eM_Mv hn)).mpr (by rw [e7_M hn]; exact CP_e hn h.2.1 n (Nat.le_refl n)), fun j hj => absurd hj (Nat.not_lt_zero j), rfl, by rw [Nat.zero_add, Nat.sub_zero]; exact Nat.le_refl _⟩
theorem e_Mv (hn : n ≤ 7) : Mv n 1754760 := by
  rw [e7_M hn]
  exact eM_Mv hn
theorem WT_x (h1 : 1 ≤ n) (hn : n ≤ 7) {x b c : Nat} (hf : ∀ j, j < c → d8 b (d8 ro j) = d8 x (d8 ro j)) (T : Nat → Prop) (p : Nat) : WT n T (d8 ro) x c p = WT n T (d8 ro) b c p :=
  WT_pre h1 hn (fun j hj => (hf j hj).symm) p
theorem cd_pos (h1 : 1 ≤ n) (hn : n ≤ 7) {P : Nat → Prop} {x : Nat} (hx : Mv n x) (h : P x) : 1 ≤ cd n P := by
  have e : P (XM n (nu n x)) := by rw [XM_nu h1 hn hx]; exact h
  have := sm_ge (f := fun k => on (P (XM n k))) (fc n) (nu_b n x)
  have h2 : on (P (XM n (nu n x))) = 1 := on_t e
  have this : on (P (XM n (nu n x))) ≤ cd n P := this
  omega
/-- no such goal: the move isn't in the group -/
theorem RK_no (h1 : 1 ≤ n) (hn : n ≤ 7) (h : CI n ro st sv rc kw ns) (hQ : PQ n rc st kw ns) {x c r b gs : Nat} (hx : Mv n x) (hc : c < n) (hI : RK n ro rc st x c r b) (hg : ∀ v, gs.testBit v = img (d8 b) (rc c) v 7) (hb : gs.testBit (d8 x (d8 ro c)) = false) : ¬ CP n (RC rc) (ST st) n x := fun hp => by
  obtain ⟨a1, a2, a3, _⟩ := hI
  have hrd := h.1.2.1.1 c hc
  have hgn := hx.2.1.1 _ hrd
  have hw := WT_is h1 hn h hQ (e_Mv hn) a1 a2 hc hgn
  rw [← hg, hb, if_neg Bool.false_ne_true] at hw
  have := cd_pos h1 hn (P := fun y => TL n rc st 1754760 y ∧ (∀ j, j < c → d8 y (d8 ro j) = d8 b (d8 ro j)) ∧ d8 y (d8 ro c) = d8 x (d8 ro c)) hx ⟨(TL_e hn hx).mpr hp, fun j hj => (a3 j hj).symm, rfl⟩
  have hw : cd n (fun y => TL n rc st 1754760 y ∧ (∀ j, j < c → d8 y (d8 ro j) = d8 b (d8 ro j)) ∧ d8 y (d8 ro c) = d8 x (d8 ro c)) = 0 := hw
  omega
theorem RK_b (h1 : 1 ≤ n) (hn : n ≤ 7) (h : CI n ro st sv rc kw ns) {x c r b gs g : Nat} (hc : c < n) (hI : RK n ro rc st x c r b) (hg : ∀ v, gs.testBit v = img (d8 b) (rc c) v 7) (hb : gs.testBit g = true) (hg7 : g < 7) : r + cnt (fun v => gs.testBit v) g * zF rc n (n - (c + 1)) + zF rc n (n - (c + 1)) ≤ zF rc n n := by
  obtain ⟨a1, _, _, _, a5⟩ := hI
  have e := img_cnt7 hn h.2.2.1 a1 hc hg
  have hz : zF rc n (n - c) = zF rc n (n - (c + 1)) * cnt (fun v => (rc c).testBit v) 32 := by
    rw [show n - c = (n - (c + 1)) + 1 by omega]
    show zF rc n (n - (c + 1)) * cnt (fun v => (rc (n - (n - (c + 1) + 1))).testBit v) 32 = _
    rw [show n - (n - (c + 1) + 1) = c by omega]
  have hlt : cnt (fun v => gs.testBit v) g + 1 ≤ cnt (fun v => gs.testBit v) 7 := by
    obtain ⟨k, hk⟩ : ∃ k, 7 = g + 1 + k := ⟨6 - g, by omega⟩
    rw [hk, cnt_split]
    have : cnt (fun v => gs.testBit v) (g + 1) = cnt (fun v => gs.testBit v) g + 1 := by
      show cnt (fun v => gs.testBit v) g + (if gs.testBit g = true then 1 else 0) = _
      rw [if_pos hb]
    omega
  rw [e] at hlt
  have hm : (cnt (fun v => gs.testBit v) g + 1) * zF rc n (n - (c + 1)) ≤ zF rc n (n - (c + 1)) * cnt (fun v => (rc c).testBit v) 32 := by
    rw [Nat.mul_comm (zF rc n (n - (c + 1)))]
    exact Nat.mul_le_mul_right _ hlt
  rw [Nat.add_mul, Nat.one_mul, ← hz] at hm
  omega
theorem RK_s (h1 : 1 ≤ n) (hn : n ≤ 7) (h : CI n ro st sv rc kw ns) (hQ : PQ n rc st kw ns) {x c r b gs q : Nat} (hx : Mv n x) (hc : c < n) (hI : RK n ro rc st x c r b) (hg : ∀ v, gs.testBit v = img (d8 b) (rc c) v 7)
    (hb : gs.testBit (d8 x (d8 ro c)) = true) (hq7 : q < 7) (hq : d8 b q = d8 x (d8 ro c)) : RK n ro rc st x (c + 1) (r + cnt (fun v => gs.testBit v) (d8 x (d8 ro c)) * zF rc n (n - (c + 1))) (c7 (st (c * 8 + q)) b) := by
  have hrd := h.1.2.1.1 c hc
  have hgn := hx.2.1.1 _ hrd
  have hbound := RK_b h1 hn h hc hI hg hb (by omega)
  obtain ⟨a1, a2, a3, a4, a5⟩ := hI
  have hM := h.1
  have hC := h.2.1
  have hB := h.2.2.1
  have hpi := hb
  rw [hg] at hpi
  have hRq : RC rc c q = true := by
    obtain ⟨q', g1, g2, g3⟩ := img_ex 7 hpi
    have e : q = q' := (a1.p7 hn).2 q q' hq7 g1 (hq.trans g3.symm)
    rw [e]
    exact g2
  have hqn := hB c q hc hRq
  obtain ⟨s1, s2, s3⟩ := (hC c hc).2.2.2 q hqn hRq
  have s1 : Mv n (st (c * 8 + q)) := s1
  have hb' : c7 (st (c * 8 + q)) b = cM n (st (c * 8 + q)) b := c7_M hn s1 a1
  have m1 := cM_Mv hn s1 a1
  rw [hb']
  refine ⟨m1, ?_, fun j hj => ?_, ?_, hbound⟩
  · show CP n (RC rc) (ST st) n (cM n (cM n (st (c * 8 + q)) b) (iM n 1754760))
    rw [cM_assoc hn s1 a1 (iM_Mv hn (e_Mv hn))]
    exact CP_cM hn h hQ (CP_one hn hC hc hqn hRq) a2
  · by_cases e : j = c
    · subst e
      rw [cM_d hn s1 a1 hrd]
      exact (congrArg (d8 b) s3).trans hq
    · rw [cM_d hn s1 a1 (hM.2.1.1 j (by omega)), ← a3 j (by omega)]
      exact congrArg (d8 b) (s2 j (by omega))
  · show _ = rkS n (TL n rc st 1754760) (d8 ro) x c + sm (WT n (TL n rc st 1754760) (d8 ro) x c) (d8 x (d8 ro c))
    rw [← a4, sm_congr (g := fun v => zF rc n (n - (c + 1)) * (if gs.testBit v = true then 1 else 0)) (d8 x (d8 ro c)) (fun v hv => by
      rw [WT_x h1 hn a3, WT_is h1 hn h hQ (e_Mv hn) a1 a2 hc (show v < n by omega), hg v]
      by_cases e : img (d8 b) (rc c) v 7 = true
      · rw [if_pos e, if_pos e, Nat.mul_one]
      · rw [if_neg e, if_neg e, Nat.mul_zero]), sm_mul, Nat.mul_comm]
theorem RK_st (hn : n ≤ 7) (h : CI n ro st sv rc kw ns) {x c r b gs q : Nat} (hc : c < n) (hI : RK n ro rc st x c r b) (hg : ∀ v, gs.testBit v = img (d8 b) (rc c) v 7) {p : Nat} (hp : gs.testBit p = true) (hq7 : q < 7) (hq : d8 b q = p) : st (c * 8 + q) < 2 ^ (3 * 7) := by
  rw [hg p] at hp
  obtain ⟨q', g1, g2, g3⟩ := img_ex 7 hp
  have e : q = q' := (hI.1.p7 hn).2 q q' hq7 g1 (hq.trans g3.symm)
  rw [e]
  exact ((h.2.1 c hc).2.2.2 q' (h.2.2.1 c q' hc g2) g2).1.1
theorem RK_n (hn : n ≤ 7) (h : CI n ro st sv rc kw ns) {x c r b : Nat} (hx : Mv n x) (hc : c = n) (hI : RK n ro rc st x c r b) : CP n (RC rc) (ST st) n x ∧ r = rkS n (TL n rc st 1754760) (d8 ro) x n := by
  subst hc
  obtain ⟨a1, a2, a3, a4, _⟩ := hI
  have e : b = x := a1.ext hx (fun p hp => by
    obtain ⟨j, hj, e⟩ := inj_surj _ (d8 ro) h.1.2.1 p hp
    rw [← e]
    exact a3 j hj)
  rw [e] at a2
  exact ⟨(TL_e hn hx).mp a2, a4⟩
def RKV (G : Prop) (r : Nat) (v : Int32) : Prop := (G ∧ v = nI r ∧ r < 5041) ∨ (¬ G ∧ v = (-1))
theorem rkS_iff (h1 : 1 ≤ n) (hn : n ≤ 7) {T T' : Nat → Prop} (hT : ∀ x, Mv n x → (T x ↔ T' x)) (rd : Nat → Nat) (x : Nat) : ∀ c, rkS n T rd x c = rkS n T' rd x c
  | 0 => rfl
  | c + 1 => by
    show rkS n T rd x c + sm (WT n T rd x c) (d8 x (rd c)) = rkS n T' rd x c + sm (WT n T' rd x c) (d8 x (rd c))
    have hw : ∀ p, WT n T rd x c p = WT n T' rd x c p := fun p => cd_iff h1 hn (fun y hy => and_congr (hT y hy) Iff.rfl)
    rw [rkS_iff h1 hn hT rd x c, sm_congr (f := WT n T rd x c) (g := WT n T' rd x c) _ (fun p _ => hw p)]
/-- a rank's answer -/
noncomputable def rkI (G : Prop) (r : Nat) : Int32 := @ite _ G (Classical.propDecidable G) (nI r) (-1)
theorem rkI_of {G : Prop} {r : Nat} {v : Int32} (h : RKV G r v) : v = rkI G r := by
  rcases h with ⟨g, e, _⟩ | ⟨g, e⟩
  · exact e.trans (@if_pos _ (Classical.propDecidable G) g _ _ _).symm
  · exact e.trans (@if_neg _ (Classical.propDecidable G) g _ _ _).symm
theorem rkI_iff {G G' : Prop} {r r' : Nat} (h : G ↔ G') (e : r = r') : rkI G r = rkI G' r' := by
  rw [e, propext h]
end TELLS
theorem RKV_lt {G : Prop} {r : Nat} {v : Int32} (h : RKV G r v) (hl : v < 0) : ¬ G := fun g => by
  rcases h with ⟨_, e, hr⟩ | ⟨q, _⟩
  · rw [e] at hl
    exact absurd hl (nI_pos (n := r) (by omega))
  · exact q g
theorem RKV_ge {G : Prop} {r : Nat} {v : Int32} (h : RKV G r v) (hl : ¬ v < 0) : G := by
  rcases h with ⟨g, _⟩ | ⟨_, e⟩
  · exact g
  · rw [e] at hl
    exact absurd (by decide) hl
theorem hA_s {P B : Nat → Prop} {c : Nat} (h : ∀ i, i < c → B i → P i) (hc : B c → P c) : ∀ i, i < c + 1 → B i → P i := fun i hi hb => by
  by_cases e : i = c
  · rw [e] at hb ⊢; exact hc hb
  · exact h i (by omega) hb
end
section
/-! what groups answer: parts, shares, pairs, enough -/
noncomputable def ppI (P : Prop) (x y : Int32) : Int32 := @ite _ P (Classical.propDecidable P) x y
theorem ppI_t {P : Prop} {x y : Int32} (h : P) : ppI P x y = x := @if_pos _ (Classical.propDecidable P) h _ _ _
theorem ppI_f {P : Prop} {x y : Int32} (h : ¬ P) : ppI P x y = y := @if_neg _ (Classical.propDecidable P) h _ _ _
theorem ppI_iff {P Q : Prop} {x y : Int32} (h : P ↔ Q) : ppI P x y = ppI Q x y := by rw [propext h]
theorem all_iff {P Q : Nat → Prop} {B : Nat → Prop} {f : Nat → Nat} (h : ∀ x, P x ↔ Q x) : (∀ c, c < 6 → B c → P (f c)) ↔ (∀ c, c < 6 → B c → Q (f c)) :=
  ⟨fun a c hc hb => (h _).mp (a c hc hb), fun a c hc hb => (h _).mpr (a c hc hb)⟩
/-- any two points come to any two -/
def TF (n : Nat) (G : Nat → Prop) : Prop := ∀ u v, u < n → v < n → u ≠ v → ∃ x, Mv n x ∧ G x ∧ d8 x 0 = u ∧ d8 x 1 = v
/-- the least number so told -/
noncomputable def lsK (P : Nat → Prop) : Nat → Nat → Nat
  | 0, k => k
  | m + 1, k => @ite _ (P k) (Classical.propDecidable (P k)) k (lsK P m (k + 1))
theorem lsK_is {P : Nat → Prop} {y : Nat} (hy : P y) (hl : ∀ k, k < y → ¬ P k) : ∀ m k, k ≤ y → y ≤ k + m → lsK P m k = y
  | 0, k, h1, h2 => by
    show k = y
    omega
  | m + 1, k, h1, h2 => by
    show @ite _ (P k) (Classical.propDecidable (P k)) k (lsK P m (k + 1)) = y
    by_cases e : k = y
    · subst e
      exact @if_pos _ (Classical.propDecidable (P k)) hy _ _ _
    · rw [@if_neg _ (Classical.propDecidable (P k)) (hl k (by omega)) _ _ _]
      exact lsK_is hy hl m (k + 1) (by omega) (by omega)
/-- the least number in a share -/
noncomputable def lsN (n : Nat) (G : Nat → Prop) (y : Nat) : Nat := lsK (fun k => ∃ x, Mv n x ∧ G x ∧ nu n (cM n x y) = k) (fc n) 0
theorem lsN_is {n : Nat} {G : Nat → Prop} {y z : Nat} (hz : ∃ x, Mv n x ∧ G x ∧ cM n x y = z) (hl : ∀ x, Mv n x → G x → nu n z ≤ nu n (cM n x y)) : lsN n G y = nu n z := by
  obtain ⟨x, h1, h2, h3⟩ := hz
  refine lsK_is ⟨x, h1, h2, by rw [h3]⟩ (fun k hk ⟨x', a, b, c⟩ => ?_) (fc n) 0 (Nat.zero_le _) (by have := nu_b n z; omega)
  have := hl x' a b
  omega
section LEAST
variable {n : Nat}
theorem d8_e {n : Nat} (hn : n ≤ 7) {p : Nat} (hp : p < n) : d8 1754760 p = p := e7_d p (by omega)
/-- the first one by the row 0, 1, 2 .. has the least number -/
theorem GK_least (h1 : 1 ≤ n) (hn : n ≤ 7) {T : Nat → Prop} {y : Nat} (hy : Mv n y) (h : GK n T (d8 1754760) 0 y) {z : Nat} (hz : Mv n z) (hT : T z) : nu n y ≤ nu n z := by
  obtain ⟨lf, l0, l1⟩ := h
  have hl : ∀ l, l ≤ n → lf l = 0 := by
    intro l
    induction l with
    | zero => intro _; exact l0
    | succ l ih =>
      intro hl
      have := (l1 l (by omega)).1
      rw [ih (by omega)] at this
      omega
  by_cases e : y = z
  · rw [e]; exact Nat.le_refl _
  · -- the first place where they differ
    obtain ⟨p, hp, hd⟩ : ∃ p, p < n ∧ d8 y p ≠ d8 z p := by
      refine Classical.byContradiction fun hno => e (hy.ext hz (fun p hp => ?_))
      exact Classical.byContradiction fun q => hno ⟨p, hp, q⟩
    obtain ⟨q, q1, q2, q3⟩ := least (P := fun i => d8 y i ≠ d8 z i) p hd
    have hqn : q < n := by omega
    have hag : ∀ j, j < q → d8 y j = d8 z j := fun j hj => Classical.byContradiction fun w => q3 j hj w
    refine Nat.le_of_lt (nu_lex hy.2.1 hz.2.1 hqn hag ?_)
    rcases Nat.lt_or_gt_of_ne q2 with w | w
    · exact w
    · have h2 := (l1 q hqn).1
      rw [hl q (by omega), hl (q + 1) (by omega)] at h2
      have h3 : sm (WT n T (d8 1754760) y q) (d8 y (d8 1754760 q)) = 0 := by omega
      rw [d8_e hn hqn] at h3
      have h4 := sm_ge (f := WT n T (d8 1754760) y q) (d8 y q) w
      have h5 : 1 ≤ WT n T (d8 1754760) y q (d8 z q) := cd_pos h1 hn hz ⟨hT, fun j hj => by rw [d8_e hn (show j < n by omega)]; exact (hag j hj).symm, by rw [d8_e hn hqn]⟩
      omega
theorem GK_in (h1 : 1 ≤ n) (hn : n ≤ 7) {T : Nat → Prop} {rd : Nat → Nat} (hrd : Pn n rd) {y r : Nat} (hy : Mv n y) (h : GK n T rd r y) : T y := by
  obtain ⟨lf, _, l1⟩ := h
  obtain ⟨m, hm⟩ : ∃ m, n = m + 1 := ⟨n - 1, by omega⟩
  have h2 := (l1 m (by omega)).2
  have h3 : 1 ≤ WT n T rd y m (d8 y (rd m)) := by omega
  refine Classical.byContradiction fun q => ?_
  have : WT n T rd y m (d8 y (rd m)) = 0 := cd_0 h1 hn (fun x hx ⟨a, b, c⟩ => q (by
    have : x = y := hx.ext hy (fun p hp => by
      obtain ⟨j, hj, e⟩ := inj_surj n rd hrd p hp
      rw [← e]
      by_cases w : j < m
      · exact b j w
      · rw [show j = m by omega]; exact c)
    rw [← this]; exact a))
  omega
variable {ro : Nat} {st sv rc kw : Nat → Nat} {ns : Nat} {G : Nat → Prop}
/-- made up, then the last one: the share -/
theorem TL_share (hn : n ≤ 7) (h : CI n ro st sv rc kw ns) (hG : ∀ x, CP n (RC rc) (ST st) n x ↔ G x) {la z : Nat} (hla : Mv n la) (hz : Mv n z) : TL n rc st la z ↔ ∃ x, Mv n x ∧ G x ∧ cM n x la = z := by
  refine ⟨fun a => ⟨cM n z (iM n la), cM_Mv hn hz (iM_Mv hn hla), (hG _).mp a, ?_⟩, fun ⟨x, x1, x2, x3⟩ => ?_⟩
  · rw [cM_assoc hn hz (iM_Mv hn hla) hla, iM_c hn hla, cM_e hn hz]
  · show CP n (RC rc) (ST st) n (cM n z (iM n la))
    rw [← x3, cM_forth hn x1 hla]
    exact (hG _).mpr x2
theorem share_is (h1 : 1 ≤ n) (hn : n ≤ 7) (h : CI n ro st sv rc kw ns) (hG : ∀ x, CP n (RC rc) (ST st) n x ↔ G x) {la y : Nat} (hla : Mv n la) (hy : Mv n y) (hK : GK n (TL n rc st la) (d8 1754760) 0 y) : nu n y = lsN n G la := by
  have hin := GK_in h1 hn (e_Mv hn).2.1 hy hK
  refine (lsN_is ((TL_share hn h hG hla hy).mp hin) (fun x hx hg => ?_)).symm
  exact GK_least h1 hn hy hK (cM_Mv hn hx hla) ((TL_share hn h hG hla (cM_Mv hn hx hla)).mpr ⟨x, hx, hg, rfl⟩)
/-- two levels tell pairs -/
theorem cnt_full {P : Nat → Bool} {n : Nat} (h : cnt P n = n) : ∀ v, v < n → P v = true := by
  induction n with
  | zero => intro v hv; exact absurd hv (Nat.not_lt_zero v)
  | succ n ih =>
    have h : cnt P n + (if P n = true then 1 else 0) = n + 1 := h
    have hl := cnt_le P n
    by_cases e : P n = true
    · rw [if_pos e] at h
      intro v hv
      by_cases q : v = n
      · rw [q]; exact e
      · exact ih (by omega) v (by omega)
    · rw [if_neg e] at h
      omega
theorem pc_n {x n : Nat} (hn : n ≤ 7) (hx : x < 2 ^ 31) (h : ∀ v, x.testBit v = true → v < n) : pc32 (nI x) = cnt (fun v => x.testBit v) n := by
  rw [pc32_nI (Nat.lt_trans hx (by decide))]
  obtain ⟨c, hc⟩ : ∃ c, 32 = n + c := ⟨32 - n, by omega⟩
  rw [hc, cnt_split, cnt_0 (P := fun i => x.testBit (n + i)) c (fun i _ => by
    cases q : x.testBit (n + i) with
    | false => rfl
    | true => have := h _ q; omega), Nat.add_zero]
theorem cnt_but {P : Nat → Bool} {n : Nat} (hn : 1 ≤ n) (h0 : P 0 = false) (h : cnt P n = n - 1) : ∀ v, v < n → v ≠ 0 → P v = true := by
  intro v hv hv0
  obtain ⟨k, hk⟩ : ∃ k, n = 1 + k := ⟨n - 1, by omega⟩
  rw [hk, cnt_split] at h
  have h1 : cnt P 1 = 0 := by
    show 0 + (if P 0 = true then 1 else 0) = 0
    rw [h0]; rfl
  have h2 : cnt (fun i => P (1 + i)) k = k := by omega
  have := cnt_full h2 (v - 1) (by omega)
  rw [show 1 + (v - 1) = v by omega] at this
  exact this
theorem cnt_most {P : Nat → Bool} {n : Nat} (hn : 1 ≤ n) (h0 : P 0 = false) (h : ∀ v, v < n → v ≠ 0 → P v = true) : cnt P n = n - 1 := by
  obtain ⟨k, hk⟩ : ∃ k, n = 1 + k := ⟨n - 1, by omega⟩
  rw [hk, cnt_split]
  have h1 : cnt P 1 = 0 := by
    show 0 + (if P 0 = true then 1 else 0) = 0
    rw [h0]; rfl
  have h2 : cnt (fun i => P (1 + i)) k = k := by
    rw [cnt_add (Q := fun _ => true) k (fun i hi => h _ (by omega) (by omega)), cnt_all]
  omega
theorem two_is (hn1 : 2 ≤ n) (hn : n ≤ 7) (hc : ∀ a b, Mv n a → Mv n b → G a → G b → G (cM n a b)) (hi : ∀ a, Mv n a → G a → G (iM n a)) (h : CI n 1754760 st sv rc kw ns) (hG : ∀ x, CP n (RC rc) (ST st) n x ↔ G x) :
    (pc32 (nI (rc 0)) = n ∧ pc32 (nI (rc 1)) = n - 1) ↔ TF n G := by
  have e0 : d8 1754760 0 = 0 := e7_d 0 (by decide)
  have e1 : d8 1754760 1 = 1 := e7_d 1 (by decide)
  have hB := h.2.2.1
  rw [pc_n hn (h.2.2.2.2.2.2.2 0 (by omega)) (fun v hv => hB 0 v (by omega) hv), pc_n hn (h.2.2.2.2.2.2.2 1 (by omega)) (fun v hv => hB 1 v (by omega) hv)]
  have r0 : ∀ v, (rc 0).testBit v = true ↔ ∃ x, Mv n x ∧ G x ∧ d8 x 0 = v := fun v => (RP_is hn h hG (l := 0) (by omega)).trans (by
    unfold RP
    rw [e0]
    exact ⟨fun ⟨x, a, b, _, c⟩ => ⟨x, a, b, c⟩, fun ⟨x, a, b, c⟩ => ⟨x, a, b, fun j hj => absurd hj (Nat.not_lt_zero j), c⟩⟩)
  have r1 : ∀ v, (rc 1).testBit v = true ↔ ∃ x, Mv n x ∧ G x ∧ d8 x 0 = 0 ∧ d8 x 1 = v := fun v => (RP_is hn h hG (l := 1) (by omega)).trans (by
    unfold RP
    rw [e1]
    exact ⟨fun ⟨x, a, b, d, c⟩ => ⟨x, a, b, by have := d 0 (by decide); rw [e0] at this; exact this, c⟩, fun ⟨x, a, b, d, c⟩ => ⟨x, a, b, fun j hj => by rw [show j = 0 by omega, e0]; exact d, c⟩⟩)
  have z1 : (rc 1).testBit 0 = false := bt_f (fun q => by
    obtain ⟨x, a, _, c, d⟩ := (r1 0).mp q
    have := a.2.1.2 0 1 (by omega) (by omega) (c.trans d.symm)
    omega)
  refine ⟨fun ⟨a, b⟩ u v hu hv hne => ?_, fun hT => ⟨?_, ?_⟩⟩
  · obtain ⟨x, x1, x2, x3⟩ := (r0 u).mp (cnt_full a u hu)
    -- undo it: where must 1 go first
    have xi := iM_Mv hn x1
    have hw : d8 (iM n x) v < n := xi.2.1.1 v hv
    have hwx : d8 x (d8 (iM n x) v) = v := by
      have := cM_d hn xi x1 hv
      rw [iM_c hn x1, eM_d hn hv] at this
      exact this.symm
    have hw0 : d8 (iM n x) v ≠ 0 := fun e => hne (by rw [← x3, ← hwx, e])
    obtain ⟨z, z1, z2, z3, z4⟩ := (r1 _).mp (cnt_but (by omega) z1 b _ hw hw0)
    exact ⟨cM n z x, cM_Mv hn z1 x1, hc _ _ z1 x1 z2 x2, by rw [cM_d hn z1 x1 (by omega), z3, x3], by rw [cM_d hn z1 x1 (by omega), z4, hwx]⟩
  · rw [cnt_add (Q := fun _ => true) n (fun v hv => (r0 v).mpr (by
      obtain ⟨w, hw, hne⟩ : ∃ w, w < n ∧ v ≠ w := ⟨if v = 0 then 1 else 0, by split <;> omega, by split <;> omega⟩
      obtain ⟨x, a, b, c, _⟩ := hT v w hv hw hne
      exact ⟨x, a, b, c⟩)), cnt_all]
  · exact cnt_most (by omega) z1 (fun v hv h0 => (r1 v).mpr (by
      obtain ⟨x, a, b, c, d⟩ := hT 0 v (by omega) hv (fun e => h0 e.symm)
      exact ⟨x, a, b, c, d⟩))
/-- ENOUGH, cell by cell -/
noncomputable def enF (n : Nat) (cm : Nat → Nat) (s : Nat) : Nat → Nat
  | 0 => 0
  | c + 1 => @ite _ (s.testBit c = true ∧ ¬ Gg n (gS cm s c) (cm c)) (Classical.propDecidable _) (enF n cm s c ||| 2 ^ c) (enF n cm s c)
theorem enF_t {cm : Nat → Nat} {s c : Nat} (h1 : s.testBit c = true) (h2 : ¬ Gg n (gS cm s c) (cm c)) : enF n cm s (c + 1) = enF n cm s c ||| 2 ^ c := @if_pos _ (Classical.propDecidable _) ⟨h1, h2⟩ _ _ _
theorem enF_f {cm : Nat → Nat} {s c : Nat} (h : ¬ (s.testBit c = true ∧ ¬ Gg n (gS cm s c) (cm c))) : enF n cm s (c + 1) = enF n cm s c := @if_neg _ (Classical.propDecidable _) h _ _ _
/-- .. the group made so far -/
theorem GE_c {cm : Nat → Nat} {s k : Nat} (hn : n ≤ 7) (hk : k ≤ 6) (h : CI n ro st sv rc kw ns) (hQ : PQ n rc st kw ns) (hA : Al n rc st (Gg n (gS cm s k))) (hS : ∀ c, c < k → s.testBit c = true → CP n (RC rc) (ST st) n (cm c)) (hcm : ∀ c, c < 6 → Mv n (cm c)) : ∀ x, CP n (RC rc) (ST st) n x ↔ Gg n (gS cm s k) x := fun x => by
  refine ⟨fun hx => CP_in hn h.2.1 (Gg_Cl hn (gS_M hk hcm)) hA n x (Nat.le_refl n) hx, fun hx => ?_⟩
  refine (hx (fun z => Mv n z ∧ CP n (RC rc) (ST st) n z) ⟨eM_Mv hn, CP_e hn h.2.1 n (Nat.le_refl n)⟩ (fun a b ha hz hb => ?_)).2
  obtain ⟨c, h1, h2, e⟩ := hb
  have hcp := hS c h1 h2
  rw [e]
  exact ⟨cM_Mv hn ha (hcm c (by omega)), CP_cM hn h hQ hz.2 hcp⟩
end LEAST
end
section
/-! loops over the numbers of a group -/
section KI
variable {bt : List Int32} {F : Nat} {I : Nat → Prop}
theorem KI_gap (hs : ∀ m, bitL bt m = false → I m → I (m + 1)) {a : Nat} : ∀ b, a ≤ b → I a → (∀ j, a ≤ j → j < b → bitL bt j = false) → I b
  | 0, h, hI, _ => by
    rw [Nat.le_zero.mp h] at hI
    exact hI
  | b + 1, h, hI, hb => by
    by_cases e : a = b + 1
    · rw [← e]; exact hI
    · exact hs b (hb b (by omega) (by omega)) (KI_gap hs b (by omega) hI (fun j h1 h2 => hb j h1 (by omega)))
theorem KI_0 (hs : ∀ m, bitL bt m = false → I m → I (m + 1)) {a : Nat} (h : I a) (ha : a ≤ F) (hb : ∀ j, a ≤ j → j < F → bitL bt j = false) : I (KK F 0) := KI_gap hs F ha h hb
theorem KI_1 (hs : ∀ m, bitL bt m = false → I m → I (m + 1)) {a q : Nat} (h : I a) (ha : a ≤ q) (hb : ∀ j, a ≤ j → j < q → bitL bt j = false) : I (KK F (q + 1)) := by
  rw [KK_s]
  exact KI_gap hs q ha h hb
end KI
/-- a sum of powers of two, number by number -/
def RBt (n : Nat) (bt : List Int32) (rd : Nat → Nat) (l z m : Nat) : Prop := z < 2 ^ 7 ∧ ∀ v, z.testBit v = true ↔ ∃ k, k < m ∧ bitL bt k = true ∧ (∀ j, j < l → rwF n k (rd j) = rd j) ∧ rwF n k (rd l) = v
section RBT
variable {n l z m : Nat} {bt : List Int32} {rd : Nat → Nat}
theorem RBt_0 : RBt n bt rd l 0 0 := ⟨by decide, fun v => by
  rw [Nat.zero_testBit]
  exact ⟨fun h => absurd h (by decide), fun ⟨k, h, _⟩ => absurd h (Nat.not_lt_zero k)⟩⟩
theorem RBt_f : ∀ m, bitL bt m = false → RBt n bt rd l z m → RBt n bt rd l z (m + 1) := fun m hb h => ⟨h.1, fun v => (h.2 v).trans ⟨fun ⟨k, h1, h2⟩ => ⟨k, by omega, h2⟩, fun ⟨k, h1, h2, h3⟩ => by
  by_cases e : k = m
  · rw [e, hb] at h2; exact absurd h2 (by decide)
  · exact ⟨k, by omega, h2, h3⟩⟩⟩
theorem RBt_n (h : RBt n bt rd l z m) (hn : ¬ ∀ j, j < l → rwF n m (rd j) = rd j) : RBt n bt rd l z (m + 1) := ⟨h.1, fun v => (h.2 v).trans ⟨fun ⟨k, h1, h2⟩ => ⟨k, by omega, h2⟩, fun ⟨k, h1, h2, h3, h4⟩ => by
  by_cases e : k = m
  · rw [e] at h3; exact absurd h3 hn
  · exact ⟨k, by omega, h2, h3, h4⟩⟩⟩
theorem RBt_s {g : Nat} (h : RBt n bt rd l z m) (hb : bitL bt m = true) (hf : ∀ j, j < l → rwF n m (rd j) = rd j) (hg : g = rwF n m (rd l)) (h7 : g < 7) : RBt n bt rd l (z ||| 2 ^ g) (m + 1) := ⟨Nat.or_lt_two_pow h.1 (Nat.pow_lt_pow_right (by decide) h7), fun v => by
  rw [Nat.testBit_or, Bool.or_eq_true, h.2 v, Nat.testBit_two_pow, decide_eq_true_eq]
  refine ⟨fun a => ?_, fun ⟨k, h1, h2, h3, h4⟩ => ?_⟩
  · rcases a with ⟨k, h1, h2⟩ | a
    · exact ⟨k, by omega, h2⟩
    · exact ⟨m, Nat.lt_succ_self m, hb, hf, by rw [← hg]; exact a⟩
  · by_cases e : k = m
    · rw [e] at h4; exact Or.inr (hg.trans h4)
    · exact Or.inl ⟨k, by omega, h2, h3, h4⟩⟩
theorem RBt_end {G : Nat → Prop} (h1 : 1 ≤ n) (hn : n ≤ 7) (hB : ∀ k, bitL bt k = true ↔ (k < fc n ∧ G (XM n k))) (hrd : ∀ j, j < n → rd j < n) (hl : l < n) (h : RBt n bt rd l z (fc n)) : z = sBv (RP n G rd l) n :=
  sBv_is (fun v => (h.2 v).trans ⟨fun ⟨k, a, b, c, d⟩ => ⟨by rw [← d]; exact (rwF_Pn h1).1 _ (hrd l hl), XM n k, XM_Mv h1 hn k, ((hB k).mp b).2, fun j hj => by rw [XM_d h1 hn (hrd j (by omega))]; exact c j hj, by rw [XM_d h1 hn (hrd l hl)]; exact d⟩, fun ⟨_, x, hx, hg, hf, he⟩ => by
    have e := XM_nu h1 hn hx
    refine ⟨nu n x, nu_b n x, (hB _).mpr ⟨nu_b n x, by rw [e]; exact hg⟩, fun j hj => ?_, ?_⟩
    · rw [← XM_d h1 hn (hrd j (by omega)), e]; exact hf j hj
    · rw [← XM_d h1 hn (hrd l hl), e]; exact he⟩)
end RBT
/-- a test, place by place -/
def STt (rw rd : Nat → Nat) (l c y : Nat) : Prop := (y = 1 ∧ ∀ j, j < c → rw (rd j) = rd j) ∨ (y = 0 ∧ ∃ j, j < l ∧ ¬ rw (rd j) = rd j)
section STT
variable {rw rd : Nat → Nat} {l c y : Nat}
theorem STt_0 : STt rw rd l 0 1 := Or.inl ⟨rfl, fun j hj => absurd hj (Nat.not_lt_zero j)⟩
theorem STt_1 (h : STt rw rd l c y) (e : rw (rd c) = rd c) : STt rw rd l (c + 1) (y % 2 ^ 1) := by
  rcases h with ⟨rfl, h⟩ | ⟨rfl, h⟩
  · exact Or.inl ⟨rfl, fun j hj => by
      by_cases q : j = c
      · rw [q]; exact e
      · exact h j (by omega)⟩
  · exact Or.inr ⟨rfl, h⟩
theorem STt_n (hc : c < l) (e : ¬ rw (rd c) = rd c) : STt rw rd l (c + 1) (y * 0) := Or.inr ⟨rfl, c, hc, e⟩
theorem STt_y {g : Nat → Nat} (h : STt rw rd l c y) (hc : l ≤ c) (hy : ¬ y = 0) (hg : ∀ j, j < l → rw (rd j) = g (rd j)) : ∀ j, j < l → g (rd j) = rd j := by
  rcases h with ⟨_, h⟩ | ⟨e, _⟩
  · exact fun j hj => (hg j hj).symm.trans (h j (by omega))
  · exact absurd e hy
theorem STt_f {g : Nat → Nat} (h : STt rw rd l c y) (hy : y = 0) (hg : ∀ j, j < l → rw (rd j) = g (rd j)) : ¬ ∀ j, j < l → g (rd j) = rd j := fun q => by
  rcases h with ⟨e, _⟩ | ⟨_, j, hj, e⟩
  · omega
  · exact e ((hg j hj).trans (q j hj))
end STT
/-- a count, number by number -/
def CTt (bt : List Int32) (P : Nat → Prop) (y m : Nat) : Prop := y = ct (fun k => bitL bt k = true ∧ P k) m
section CTT
variable {bt : List Int32} {P : Nat → Prop} {y m : Nat}
theorem CTt_0 : CTt bt P 0 0 := rfl
theorem ct_s (Q : Nat → Prop) (m : Nat) : ct Q (m + 1) = ct Q m + on (Q m) := rfl
theorem CTt_f : ∀ m, bitL bt m = false → CTt bt P y m → CTt bt P y (m + 1) := fun m hb h => by
  unfold CTt at h ⊢
  rw [ct_s, on_f (fun q => by rw [hb] at q; exact absurd q.1 (by decide)), Nat.add_zero]
  exact h
theorem CTt_y (h : CTt bt P y m) (hb : bitL bt m = true) (hp : P m) : CTt bt P (y + 1) (m + 1) := by
  unfold CTt at h ⊢
  rw [ct_s, on_t (p := bitL bt m = true ∧ P m) ⟨hb, hp⟩, ← h]
theorem CTt_n (h : CTt bt P y m) (hp : ¬ P m) : CTt bt P (y + 0) (m + 1) := by
  unfold CTt at h ⊢
  rw [ct_s, on_f (fun q => hp q.2), ← h]
theorem CTt_le (h : CTt bt P y m) : y ≤ m := by
  unfold CTt at h
  rw [h]
  exact ct_le _ m
theorem CTt_end {n : Nat} {G Q : Nat → Prop} (hB : ∀ k, bitL bt k = true ↔ (k < fc n ∧ G (XM n k))) (hP : ∀ k, k < fc n → (P k ↔ Q (XM n k))) (h : CTt bt P y (fc n)) : y = cd n (fun x => G x ∧ Q x) := by
  unfold CTt at h
  rw [h]
  exact ct_iff (fun k hk => and_congr ⟨fun a => ((hB k).mp a).2, fun a => (hB k).mpr ⟨hk, a⟩⟩ (hP k hk))
end CTT
/-- a sum, number by number -/
def SMt (bt : List Int32) (g : Nat → Nat) (y m : Nat) : Prop := y = sm (fun k => if bitL bt k = true then g k else 0) m
section SMT
variable {bt : List Int32} {g : Nat → Nat} {y m : Nat}
theorem SMt_0 : SMt bt g 0 0 := rfl
theorem SMt_f : ∀ m, bitL bt m = false → SMt bt g y m → SMt bt g y (m + 1) := fun m hb h => by
  unfold SMt at h ⊢
  show y = sm _ m + (if bitL bt m = true then g m else 0)
  rw [if_neg (bf hb), Nat.add_zero]
  exact h
theorem SMt_s {x : Nat} (h : SMt bt g y m) (hb : bitL bt m = true) (hx : x = g m) : SMt bt g (y + x) (m + 1) := by
  unfold SMt at h ⊢
  show y + x = sm _ m + (if bitL bt m = true then g m else 0)
  rw [if_pos hb, hx, ← h]
end SMT
/-- the least of some numbers -/
def LMt (bt : List Int32) (g : Nat → Nat) (y0 y m : Nat) : Prop := (∀ k, k < m → bitL bt k = true → y ≤ g k) ∧ y ≤ y0 ∧ (y = y0 ∨ ∃ k, k < m ∧ bitL bt k = true ∧ y = g k)
section LMT
variable {bt : List Int32} {g : Nat → Nat} {y0 y m : Nat}
theorem LMt_0 : LMt bt g y0 y0 0 := ⟨fun k hk => absurd hk (Nat.not_lt_zero k), Nat.le_refl _, Or.inl rfl⟩
theorem LMt_f : ∀ m, bitL bt m = false → LMt bt g y0 y m → LMt bt g y0 y (m + 1) := fun m hb h => ⟨fun k hk hkb => by
  by_cases e : k = m
  · rw [e, hb] at hkb; exact absurd hkb (by decide)
  · exact h.1 k (by omega) hkb, h.2.1, h.2.2.imp id (fun ⟨k, h1, h2⟩ => ⟨k, by omega, h2⟩)⟩
theorem LMt_s {x : Nat} (h : LMt bt g y0 y m) (hb : bitL bt m = true) (hx : x = g m) : LMt bt g y0 (min y x) (m + 1) := by
  obtain ⟨h1, h2, h3⟩ := h
  refine ⟨fun k hk hkb => ?_, by omega, ?_⟩
  · by_cases e : k = m
    · rw [e, ← hx]; omega
    · have := h1 k (by omega) hkb; omega
  · by_cases q : y ≤ x
    · rw [Nat.min_eq_left q]
      exact h3.imp id (fun ⟨k, a, b⟩ => ⟨k, by omega, b⟩)
    · rw [Nat.min_eq_right (by omega)]
      exact Or.inr ⟨m, Nat.lt_succ_self m, hb, hx⟩
end LMT
/-! rank: how many go ahead -/
def LSr (n : Nat) (rd : Nat → Nat) (y x : Nat → Nat) : Prop := ∃ l, l < n ∧ (∀ j, j < l → y (rd j) = x (rd j)) ∧ y (rd l) < x (rd l)
section RANKS
variable {n : Nat}
theorem ct_or {P Q : Nat → Prop} {m : Nat} (h : ∀ i, i < m → P i → ¬ Q i) : ct (fun i => P i ∨ Q i) m = ct P m + ct Q m := by
  unfold ct
  rw [← sm_add]
  refine sm_congr m (fun i hi => ?_)
  by_cases a : P i
  · rw [on_t (p := P i ∨ Q i) (Or.inl a), on_t a, on_f (h i hi a)]
  · by_cases b : Q i
    · rw [on_t (p := P i ∨ Q i) (Or.inr b), on_f a, on_t b]
    · rw [on_f (fun q : P i ∨ Q i => q.elim a b), on_f a, on_f b]
theorem cd_or {P Q : Nat → Prop} (h : ∀ x, P x → ¬ Q x) : cd n (fun x => P x ∨ Q x) = cd n P + cd n Q := ct_or (fun _ _ => h _)
theorem cd_none (h1 : 1 ≤ n) (hn : n ≤ 7) {P : Nat → Prop} (h : ∀ x, Mv n x → ¬ P x) : cd n P = 0 := cd_0 h1 hn (fun x hx => h x hx)
/-- those that go elsewhere first at a level -/
def LSl (T : Nat → Prop) (rd : Nat → Nat) (x l y : Nat) : Prop := T y ∧ (∀ j, j < l → d8 y (rd j) = d8 x (rd j)) ∧ d8 y (rd l) < d8 x (rd l)
theorem LSl_sm (h1 : 1 ≤ n) (hn : n ≤ 7) (T : Nat → Prop) (rd : Nat → Nat) (x l : Nat) : ∀ g, cd n (fun y => T y ∧ (∀ j, j < l → d8 y (rd j) = d8 x (rd j)) ∧ d8 y (rd l) < g) = sm (WT n T rd x l) g
  | 0 => cd_none h1 hn (fun y _ q => absurd q.2.2 (Nat.not_lt_zero _))
  | g + 1 => by
    show _ = sm (WT n T rd x l) g + WT n T rd x l g
    rw [← LSl_sm h1 hn T rd x l g]
    unfold WT
    rw [← cd_or (fun y a b => by have := a.2.2; have := b.2.2; omega)]
    refine cd_iff h1 hn (fun y _ => ⟨fun a => ?_, fun a => ?_⟩)
    · by_cases e : d8 y (rd l) = g
      · exact Or.inr ⟨a.1, a.2.1, e⟩
      · exact Or.inl ⟨a.1, a.2.1, by have := a.2.2; omega⟩
    · rcases a with a | a
      · exact ⟨a.1, a.2.1, by have := a.2.2; omega⟩
      · exact ⟨a.1, a.2.1, by have := a.2.2; omega⟩
theorem rkS_is (h1 : 1 ≤ n) (hn : n ≤ 7) (T : Nat → Prop) (rd : Nat → Nat) (x : Nat) : ∀ c, rkS n T rd x c = cd n (fun y => T y ∧ ∃ l, l < c ∧ (∀ j, j < l → d8 y (rd j) = d8 x (rd j)) ∧ d8 y (rd l) < d8 x (rd l))
  | 0 => (cd_none h1 hn (fun y _ ⟨_, l, hl, _⟩ => absurd hl (Nat.not_lt_zero l))).symm
  | c + 1 => by
    show rkS n T rd x c + sm (WT n T rd x c) (d8 x (rd c)) = _
    rw [rkS_is h1 hn T rd x c, ← LSl_sm h1 hn T rd x c (d8 x (rd c)), ← cd_or (fun y ⟨_, l, hl, _, hlt⟩ ⟨_, b, _⟩ => by
      have := b l hl
      omega)]
    refine cd_iff h1 hn (fun y _ => ⟨fun a => ?_, fun ⟨t, l, hl, q⟩ => ?_⟩)
    · rcases a with ⟨t, l, hl, q⟩ | ⟨t, q⟩
      · exact ⟨t, l, by omega, q⟩
      · exact ⟨t, c, Nat.lt_succ_self c, q⟩
    · by_cases e : l = c
      · rw [e] at q; exact Or.inr ⟨t, q⟩
      · exact Or.inl ⟨t, l, by omega, q⟩
end RANKS
/-- a set's cells, one behind the other -/
def PTt (s : Nat) (P : Nat → Prop) (c y : Nat) : Prop := (y = 1 ∧ ∀ i, i < c → s.testBit i = true → P i) ∨ (y = 0 ∧ ∃ i, i < 6 ∧ s.testBit i = true ∧ ¬ P i)
section PTT
variable {s c y : Nat} {P : Nat → Prop}
theorem PTt_0 : PTt s P 0 1 := Or.inl ⟨rfl, fun i hi => absurd hi (Nat.not_lt_zero i)⟩
theorem PTt_4 (h : PTt s P c y) (hb : s.testBit c = false) : PTt s P (c + 1) y := h.imp (fun ⟨e, q⟩ => ⟨e, fun i hi hs => by
  by_cases w : i = c
  · rw [w, hb] at hs; exact absurd hs (by decide)
  · exact q i (by omega) hs⟩) id
theorem PTt_1 (h : PTt s P c y) (hp : P c) (hy : ¬ y = 0) : PTt s P (c + 1) 1 := by
  rcases h with ⟨_, q⟩ | ⟨e, _⟩
  · exact Or.inl ⟨rfl, fun i hi hs => by
      by_cases w : i = c
      · rw [w]; exact hp
      · exact q i (by omega) hs⟩
  · exact absurd e hy
theorem PTt_2 (hc : c < 6) (hb : s.testBit c = true) (hp : ¬ P c) : PTt s P (c + 1) 0 := Or.inr ⟨rfl, c, hc, hb, hp⟩
theorem PTt_3 (h : PTt s P c y) (hy : y = 0) : PTt s P (c + 1) 0 := by
  rcases h with ⟨e, _⟩ | ⟨_, q⟩
  · omega
  · exact Or.inr ⟨rfl, q⟩
theorem PTt_end (h : PTt s P c y) (hc : 6 ≤ c) : (y = 0 ∧ ¬ ∀ i, i < 6 → s.testBit i = true → P i) ∨ (y = 1 ∧ ∀ i, i < 6 → s.testBit i = true → P i) := by
  rcases h with ⟨e, q⟩ | ⟨e, i, hi, hs, hn⟩
  · exact Or.inr ⟨e, fun i hi hs => q i (by omega) hs⟩
  · exact Or.inl ⟨e, fun q => hn (q i hi hs)⟩
theorem PT_0 {Q : Prop} {k : Nat} (h : (k = 0 ∧ ¬ Q) ∨ (k = 1 ∧ Q)) (e : k = 0) : ¬ Q := by
  rcases h with h | h
  · exact h.2
  · omega
theorem PT_1 {Q : Prop} {k : Nat} (h : (k = 0 ∧ ¬ Q) ∨ (k = 1 ∧ Q)) (e : ¬ k = 0) : Q := by
  rcases h with h | h
  · exact absurd h.1 e
  · exact h.2
end PTT
section REFG
variable {n : Nat}
theorem in_bit {mv : Nat → Nat} {s a : Nat} {bt : List Int32} (h1 : 2 ≤ n) (hn : n ≤ 7) (hP : PM n mv) (hB : BX n mv s bt) (ha : a < 6) : bitL bt (nuF mv (a * 7) n n) = true ↔ Gg n (gS (mW n mv) s 6) (mW n mv a) := by
  rw [nu_mW hn hP ha]
  refine (hB _).trans ?_
  rw [XM_nu (by omega) hn (mW_Mv hn hP ha)]
  exact ⟨fun h => h.2, fun h => ⟨nu_b _ _, h⟩⟩
theorem sg_row {rw : Nat → Nat} {k : Nat} (h1 : 1 ≤ n) (hn : n ≤ 7) (hr : ∀ p, p < n → rw p = rwF n k p) : sg n (XM n k) = sgv (iv rw 0 n) :=
  congrArg sgv (iv_congr (f := rw) (fr := 0) (m := n) (fun p hp => by rw [Nat.zero_add, hr p hp, XM_d h1 hn hp]) n (Nat.le_refl n)).symm
theorem oC_row {rw : Nat → Nat} {k : Nat} (h1 : 1 ≤ n) (hn : n ≤ 7) (hr : ∀ p, p < n → rw p = rwF n k p) : oC (XM n k) = olc (lF (fun p => rw (0 + p)) n) n := by
  have hM := XM_Mv h1 hn k
  refine order_is hn hM (fun p hp => ?_)
  rw [lF_ln hn hM (f := fun p => rw (0 + p)) (fun q hq => by show rw (0 + q) = _; rw [Nat.zero_add, hr q hq, XM_d h1 hn hq]) hp]
  exact lF_Pd (ln_Pd (hM.P7 hn) (show p < 7 by omega))
theorem cd_5040 (hn : n ≤ 7) (P : Nat → Prop) : cd n P ≤ 5040 := Nat.le_trans (ct_le _ _) (fc_7 hn)
theorem LS_y {rd rw xc : Nat → Nat} {k c : Nat} (hc : c < n) (h : ∀ j, j < c → rw (rd j) = xc (rd j)) (hl : rw (rd c) < xc (rd c)) (hg : ∀ j, j < n → rw (rd j) = rwF n k (rd j)) : LSr n rd (rwF n k) xc :=
  ⟨c, hc, fun j hj => (hg j (by omega)).symm.trans (h j hj), by rw [← hg c hc]; exact hl⟩
theorem LS_n1 {rd rw xc : Nat → Nat} {k c : Nat} (hc : n ≤ c) (h : ∀ j, j < c → rw (rd j) = xc (rd j)) (hg : ∀ j, j < n → rw (rd j) = rwF n k (rd j)) : ¬ LSr n rd (rwF n k) xc := fun ⟨l, hl, _, q⟩ => by
  rw [← hg l hl, h l (by omega)] at q
  omega
theorem LS_n2 {rd rw xc : Nat → Nat} {k c : Nat} (hc : c < n) (h : ∀ j, j < c → rw (rd j) = xc (rd j)) (hne : ¬ rw (rd c) = xc (rd c)) (hge : xc (rd c) ≤ rw (rd c)) (hg : ∀ j, j < n → rw (rd j) = rwF n k (rd j)) : ¬ LSr n rd (rwF n k) xc := fun ⟨l, hl, ha, q⟩ => by
  rw [← hg l hl] at q
  by_cases e : l < c
  · rw [h l e] at q; omega
  · by_cases e2 : l = c
    · subst e2; omega
    · have := ha c (by omega)
      rw [← hg c hc] at this
      exact hne this
theorem LS_iff {rd xc : Nat → Nat} {k x : Nat} (h1 : 1 ≤ n) (hn : n ≤ 7) (hrd : ∀ j, j < n → rd j < n) (hx : ∀ p, p < n → xc p = d8 x p) : LSr n rd (rwF n k) xc ↔ LSr n rd (d8 (XM n k)) (d8 x) := by
  have e : ∀ j, j < n → rwF n k (rd j) = d8 (XM n k) (rd j) := fun j hj => (XM_d h1 hn (hrd j hj)).symm
  refine ⟨fun ⟨l, hl, a, b⟩ => ⟨l, hl, fun j hj => ?_, ?_⟩, fun ⟨l, hl, a, b⟩ => ⟨l, hl, fun j hj => ?_, ?_⟩⟩
  · rw [← e j (by omega), ← hx _ (hrd j (by omega))]; exact a j hj
  · rw [← e l hl, ← hx _ (hrd l hl)]; exact b
  · rw [e j (by omega), hx _ (hrd j (by omega))]; exact a j hj
  · rw [e l hl, hx _ (hrd l hl)]; exact b
end REFG
section LMTE
variable {n : Nat} {G : Nat → Prop} {bt : List Int32}
theorem LMt_end (h1 : 1 ≤ n) (hn : n ≤ 7) (hB : ∀ k, bitL bt k = true ↔ (k < fc n ∧ G (XM n k))) (he : G (eM n)) {y z : Nat} (hy : Mv n y) (h : LMt bt (fun k => nu n (cM n (XM n k) y)) (nu n y) z (fc n)) : z = lsN n G y := by
  obtain ⟨a1, a2, a3⟩ := h
  have hl : ∀ x, Mv n x → G x → z ≤ nu n (cM n x y) := fun x hx hg => by
    have e := XM_nu h1 hn hx
    have : z ≤ nu n (cM n (XM n (nu n x)) y) := a1 (nu n x) (nu_b n x) ((hB _).mpr ⟨nu_b n x, by rw [e]; exact hg⟩)
    rw [e] at this
    exact this
  rcases a3 with e | ⟨k, hk, hb, e⟩
  · rw [e]
    exact (lsN_is ⟨eM n, eM_Mv hn, he, eM_c hn hy⟩ (fun x hx hg => by rw [← e]; exact hl x hx hg)).symm
  · have e : z = nu n (cM n (XM n k) y) := e
    rw [e]
    exact (lsN_is ⟨XM n k, XM_Mv h1 hn k, ((hB k).mp hb).2, rfl⟩ (fun x hx hg => by rw [← e]; exact hl x hx hg)).symm
end LMTE
end
section
/-! things found, each once, and their marks -/
def FB (a b : Nat) (w w' : List jC) : Prop := w'.length = w.length ∧ ∀ i, ¬ (a ≤ i ∧ i ≤ b) → w'[i]? = w[i]?
theorem FB.rf {a b : Nat} {w : List jC} : FB a b w w := ⟨rfl, fun _ _ => rfl⟩
theorem FB.tr {a b : Nat} {w w' w'' : List jC} (h : FB a b w w') (h' : FB a b w' w'') : FB a b w w'' := ⟨h'.1.trans h.1, fun i hi => (h'.2 i hi).trans (h.2 i hi)⟩
theorem FB.st {a b c : Nat} {w w' w'' : List jC} (h : FB a b w w') (hl : w''.length = w'.length) (hne : ∀ i, i ≠ c → w''[i]? = w'[i]?) (hc : a ≤ c ∧ c ≤ b) : FB a b w w'' :=
  ⟨hl.trans h.1, fun i hi => (hne i (fun e => hi (by rw [e]; exact hc))).trans (h.2 i hi)⟩
theorem bit_eq32 (g : List Int32) {k : Nat} (hk : k < 2 ^ 31) : (g.getD (nI (k / 32)).toNatClampNeg 0 >>> (nI (k % 32) &&& 31)) &&& nI 1 = nI 1 ↔ bitL g k = true := bit_eq g hk
theorem bit_ne32 (g : List Int32) {k : Nat} (hk : k < 2 ^ 31) (h : ¬ ((g.getD (nI (k / 32)).toNatClampNeg 0 >>> (nI (k % 32) &&& 31)) &&& nI 1 = nI 1)) : bitL g k = false := by
  cases e : bitL g k
  · rfl
  · exact absurd ((bit_eq32 g hk).mpr e) h
/-- a bit set -/
def stL (g : List Int32) (k : Nat) : List Int32 := g.set (nI (k / 32)).toNatClampNeg (g.getD (nI (k / 32)).toNatClampNeg 0 ||| nI 1 <<< (nI (k % 32) &&& 31))
theorem stL_bit {g : List Int32} {k : Nat} (hk : k < 32 * g.length) (h31 : k < 2 ^ 31) (j : Nat) : bitL (stL g k) j = (bitL g j || decide (j = k)) := by
  unfold stL
  rw [nI_clamp (by omega), bitL_or (by omega) (Nat.mod_lt _ (by decide))]
  have e : 32 * (k / 32) + k % 32 = k := by omega
  rw [e]
/-- what letting in does -/
def AP (ml : List Int32) (tg : Nat → Nat) (mn x k : Nat) (ml' : List Int32) (tg' : Nat → Nat) (mn' : Nat) : Prop :=
  (bitL ml k = true ∧ ml' = ml ∧ tg' = tg ∧ mn' = mn) ∨ (bitL ml k = false ∧ ml' = stL ml k ∧ tg' = up tg mn x ∧ mn' = mn + 1)
theorem sm_y {P : Nat → Prop} [∀ i, Decidable (P i)] {c : Nat} (h : P c) : sm (fun i => if P i then 1 else 0) c + 1 = sm (fun i => if P i then 1 else 0) (c + 1) := by
  show _ = sm (fun i => if P i then 1 else 0) c + (if P c then 1 else 0)
  rw [if_pos h]
theorem sm_z {P : Nat → Prop} [∀ i, Decidable (P i)] {c : Nat} (h : ¬ P c) : sm (fun i => if P i then 1 else 0) c = sm (fun i => if P i then 1 else 0) (c + 1) := by
  show _ = sm (fun i => if P i then 1 else 0) c + (if P c then 1 else 0)
  rw [if_neg h, Nat.add_zero]
theorem sm_bd {f : Nat → Nat} {B : Nat} : ∀ k, (∀ i, i < k → f i ≤ B) → sm f k ≤ k * B
  | 0, _ => Nat.zero_le _
  | k + 1, h => by
    show sm f k + f k ≤ (k + 1) * B
    have h1 := sm_bd k (fun i hi => h i (by omega))
    have h2 := h k (Nat.lt_succ_self k)
    rw [Nat.succ_mul]
    omega
theorem sm_1s : ∀ k, sm (fun _ => 1) k = k
  | 0 => rfl
  | k + 1 => by
    show sm (fun _ => 1) k + 1 = k + 1
    rw [sm_1s k]
/-- the numbers with one more -/
theorem sm_bit {B : Nat → Bool} {g : Nat → Nat} {k : Nat} (hb : B k = false) : ∀ N, sm (fun j => if (B j || decide (j = k)) = true then g j else 0) N = sm (fun j => if B j = true then g j else 0) N + (if k < N then g k else 0)
  | 0 => rfl
  | N + 1 => by
    show sm (fun j => if (B j || decide (j = k)) = true then g j else 0) N + (if (B N || decide (N = k)) = true then g N else 0) = (sm (fun j => if B j = true then g j else 0) N + (if B N = true then g N else 0)) + (if k < N + 1 then g k else 0)
    rw [sm_bit hb N]
    by_cases e : N = k
    · subst e
      have e1 : (false || decide (N = N)) = true := by simp
      rw [hb, e1, if_neg (Nat.lt_irrefl N), if_pos rfl, if_neg (by decide : ¬ false = true), if_pos (Nat.lt_succ_self N)]
    · have e1 : (B N || decide (N = k)) = B N := by simp [e]
      rw [e1]
      by_cases q : k < N
      · rw [if_pos q, if_pos (show k < N + 1 by omega)]
        omega
      · rw [if_neg q, if_neg (show ¬ k < N + 1 by omega)]
        omega
section FIS
variable {n : Nat}
/-- the walk's cells hold moves, each once, by their numbers -/
def FI (n : Nat) (ml : List Int32) (tg : Nat → Nat) (mn : Nat) : Prop :=
  (∀ i, i < mn → Mv n (tg i) ∧ bitL ml (nu n (tg i)) = true) ∧ (∀ k, bitL ml k = true → k < fc n ∧ ∃ i, i < mn ∧ tg i = XM n k) ∧ ∀ g : Nat → Nat, sm (fun i => g (tg i)) mn = sm (fun k => if bitL ml k = true then g (XM n k) else 0) (fc n)
theorem FI_mn {ml : List Int32} {tg : Nat → Nat} {mn : Nat} (h : FI n ml tg mn) : mn = cnt (fun k => bitL ml k) (fc n) := by
  have h1 := h.2.2 (fun _ => 1)
  have e : sm (fun i => (fun _ => 1 : Nat → Nat) (tg i)) mn = mn := sm_1s mn
  rw [e] at h1
  rw [h1]
  have q : ∀ N, sm (fun k => if bitL ml k = true then (fun _ => 1 : Nat → Nat) (XM n k) else 0) N = cnt (fun k => bitL ml k) N := by
    intro N
    induction N with
    | zero => rfl
    | succ N ih =>
      show sm _ N + (if bitL ml N = true then 1 else 0) = cnt (fun k => bitL ml k) N + (if bitL ml N = true then 1 else 0)
      rw [ih]
  exact q _
theorem FI_le {ml : List Int32} {tg : Nat → Nat} {mn : Nat} (h : FI n ml tg mn) : mn ≤ fc n := by
  rw [FI_mn h]
  exact cnt_le _ _
theorem FI_room (hn : n ≤ 7) {ml : List Int32} {tg : Nat → Nat} {mn k : Nat} (h : FI n ml tg mn) (hk : k < fc n) : mn < 5040 ∨ bitL ml k = true := by
  cases e : bitL ml k
  · refine Or.inl (Nat.lt_of_lt_of_le ?_ (fc_7 hn))
    rw [FI_mn h]
    have h1 : ∀ N, k < N → cnt (fun k => bitL ml k) N < N := by
      intro N
      induction N with
      | zero => intro hN; omega
      | succ N ih =>
        intro hN
        show cnt (fun k => bitL ml k) N + (if bitL ml N = true then 1 else 0) < N + 1
        by_cases q : k = N
        · subst q
          rw [e, if_neg (by decide)]
          have := cnt_le (fun k => bitL ml k) k
          omega
        · have := ih (by omega)
          split <;> omega
    exact h1 _ hk
  · exact Or.inr rfl
theorem FI_0 {tg : Nat → Nat} {N : Nat} : FI n (List.replicate N 0) tg 0 := by
  refine ⟨fun i hi => absurd hi (Nat.not_lt_zero i), fun k hk => ?_, fun g => ?_⟩
  · rw [bitL_0] at hk
    exact absurd hk (by decide)
  · show 0 = _
    rw [sm_congr (g := fun _ => 0) (fc n) (fun k _ => by rw [bitL_0]; rfl), sm_0]
theorem FI_add (h1 : 1 ≤ n) (hn : n ≤ 7) {ml ml' : List Int32} {tg tg' : Nat → Nat} {mn mn' x k : Nat} (hl : ml.length = 158) (h : FI n ml tg mn) (hx : Mv n x) (hk : k = nu n x) (ha : AP ml tg mn x k ml' tg' mn') : FI n ml' tg' mn' ∧ (∀ j, bitL ml' j = true ↔ (bitL ml j = true ∨ j = k)) ∧ (∀ i, i < mn → tg' i = tg i) ∧ mn ≤ mn' := by
  rcases ha with ⟨hb, rfl, rfl, rfl⟩ | ⟨hb, rfl, rfl, rfl⟩
  · exact ⟨h, fun j => ⟨Or.inl, fun q => q.elim id (fun e => by rw [e]; exact hb)⟩, fun _ _ => rfl, Nat.le_refl _⟩
  · have hkf : k < fc n := by rw [hk]; exact nu_b n x
    have hf7 := fc_7 hn
    have hs : ∀ j, bitL (stL ml k) j = (bitL ml j || decide (j = k)) := stL_bit (by omega) (by omega)
    have ho : ∀ i, i < mn → up tg mn x i = tg i := fun i hi => up_n (by omega)
    have hX : XM n k = x := by rw [hk]; exact XM_nu h1 hn hx
    refine ⟨⟨fun i hi => ?_, fun j hj => ?_, fun g => ?_⟩, fun j => by rw [hs, Bool.or_eq_true, decide_eq_true_eq], ho, by omega⟩
    · by_cases e : i = mn
      · rw [e, up_s]
        exact ⟨hx, by rw [hs, ← hk]; simp⟩
      · rw [ho i (by omega)]
        obtain ⟨a, b⟩ := h.1 i (by omega)
        exact ⟨a, by rw [hs, b]; rfl⟩
    · rw [hs, Bool.or_eq_true, decide_eq_true_eq] at hj
      rcases hj with hj | hj
      · obtain ⟨a, i, hi, e⟩ := h.2.1 j hj
        exact ⟨a, i, by omega, by rw [ho i hi]; exact e⟩
      · rw [hj]
        exact ⟨hkf, mn, by omega, by rw [up_s, hX]⟩
    · show sm (fun i => g (up tg mn x i)) mn + g (up tg mn x mn) = _
      rw [up_s, sm_congr mn (fun i hi => congrArg g (ho i hi)), h.2.2 g, sm_congr (f := fun j => if bitL (stL ml k) j = true then g (XM n j) else 0) (g := fun j => if (bitL ml j || decide (j = k)) = true then g (XM n j) else 0) (fc n) (fun j _ => by rw [hs]), sm_bit (B := fun j => bitL ml j) (g := fun j => g (XM n j)) hb (fc n), if_pos hkf, hX]
/-- bits that are a set's group -/
def WX (n : Nat) (cm : Nat → Nat) (s : Nat) (ml : List Int32) : Prop := ∀ k, bitL ml k = true ↔ (k < fc n ∧ Gg n (gS cm s 6) (XM n k))
/-- made of the first things -/
def SC (n : Nat) (cm : Nat → Nat) (s : Nat) (ml : List Int32) (tg : Nat → Nat) (m : Nat) : Prop := ∀ i, i < m → ∀ c, c < 6 → s.testBit c = true → bitL ml (nu n (cM n (tg i) (cm c))) = true
def SD (n : Nat) (cm : Nat → Nat) (s : Nat) (ml : List Int32) (x m : Nat) : Prop := ∀ c, c < m → s.testBit c = true → bitL ml (nu n (cM n x (cm c))) = true
def SG (n : Nat) (cm : Nat → Nat) (s : Nat) (ml ml' : List Int32) : Prop := (∀ k, bitL ml k = true → bitL ml' k = true) ∧ ∀ H : Nat → Prop, (∀ a c, Mv n a → c < 6 → s.testBit c = true → H a → H (cM n a (cm c))) → (∀ k, bitL ml k = true → H (XM n k)) → ∀ k, bitL ml' k = true → H (XM n k)
theorem SG_0 {cm : Nat → Nat} {s : Nat} {ml : List Int32} : SG n cm s ml ml := ⟨fun _ h => h, fun _ _ h => h⟩
theorem SC_0 {cm : Nat → Nat} {s : Nat} {ml : List Int32} {tg : Nat → Nat} : SC n cm s ml tg 0 := fun i hi => absurd hi (Nat.not_lt_zero i)
theorem SD_0 {cm : Nat → Nat} {s x : Nat} {ml : List Int32} : SD n cm s ml x 0 := fun i hi => absurd hi (Nat.not_lt_zero i)
theorem SC_s {cm : Nat → Nat} {s m c : Nat} {ml : List Int32} {tg : Nat → Nat} (h : SC n cm s ml tg m) (h2 : SD n cm s ml (tg m) c) (hc : 6 ≤ c) : SC n cm s ml tg (m + 1) := fun i hi c hc6 hs => by
  by_cases e : i = m
  · rw [e]; exact h2 c (by omega) hs
  · exact h i (by omega) c hc6 hs
theorem SD_n {cm : Nat → Nat} {s x c : Nat} {ml : List Int32} (h : SD n cm s ml x c) (hb : s.testBit c = false) : SD n cm s ml x (c + 1) := fun j hj hs => by
  by_cases e : j = c
  · rw [e, hb] at hs; exact absurd hs (by decide)
  · exact h j (by omega) hs
section STP
variable {cm : Nat → Nat} {s c i x k mn mn' : Nat} {ml ml' : List Int32} {tg tg' : Nat → Nat}
theorem SC_k (h : SC n cm s ml tg i) (hi : i ≤ mn) (hg : (∀ j, bitL ml' j = true ↔ (bitL ml j = true ∨ j = k)) ∧ (∀ i, i < mn → tg' i = tg i) ∧ mn ≤ mn') : SC n cm s ml' tg' i := fun j hj c hc hs => by
  rw [hg.2.1 j (by omega)]
  exact (hg.1 _).mpr (Or.inl (h j hj c hc hs))
theorem SD_k (h : SD n cm s ml (tg i) c) (hi : i < mn) (hg : (∀ j, bitL ml' j = true ↔ (bitL ml j = true ∨ j = k)) ∧ (∀ i, i < mn → tg' i = tg i) ∧ mn ≤ mn') (hk : k = nu n (cM n (tg i) (cm c))) : SD n cm s ml' (tg' i) (c + 1) := fun j hj hs => by
  rw [hg.2.1 i hi, hg.1]
  by_cases e : j = c
  · rw [e]; exact Or.inr hk.symm
  · exact Or.inl (h j (by omega) hs)
theorem SG_k (h1 : 1 ≤ n) (hn : n ≤ 7) {ml0 : List Int32} (h : SG n cm s ml0 ml) (hF : FI n ml tg mn) (hi : i < mn) (hg : ∀ j, bitL ml' j = true ↔ (bitL ml j = true ∨ j = k)) (hk : k = nu n (cM n (tg i) (cm c))) (hc : c < 6) (hs : s.testBit c = true) (hM : ∀ c, c < 6 → Mv n (cm c)) : SG n cm s ml0 ml' :=
  ⟨fun j hj => (hg j).mpr (Or.inl (h.1 j hj)), fun H q1 q2 j hj => by
    rcases (hg j).mp hj with hj | hj
    · exact h.2 H q1 q2 j hj
    · obtain ⟨a, b⟩ := hF.1 i hi
      have h3 := h.2 H q1 q2 _ b
      rw [XM_nu h1 hn a] at h3
      rw [hj, hk, XM_nu h1 hn (cM_Mv hn a (hM c hc))]
      exact q1 _ c a hc hs h3⟩
end STP
theorem nu_c7 (hn : n ≤ 7) {x y : Nat} (hx : Mv n x) (hy : Mv n y) : nuF (d8 (c7 x y)) 0 n n = nu n (cM n x y) := by rw [c7_M hn hx hy]; rfl
theorem nu_e (h1 : 2 ≤ n) (hn : n ≤ 7) : nu n (eM n) = 0 := by
  rw [← XM_0 h1 hn]
  exact nu_XM (by omega) hn (fc_pos n)
section WXS
variable {cm : Nat → Nat} {e s c : Nat} {ml ml' : List Int32}
theorem WX_0 (h1 : 2 ≤ n) (hn : n ≤ 7) {N k : Nat} (hk : k = nu n (eM n)) (hg : ∀ j, bitL ml j = true ↔ (bitL (List.replicate N 0) j = true ∨ j = k)) : WX n cm 0 ml := fun j => by
  rw [hg j, bitL_0]
  rw [nu_e h1 hn] at hk
  constructor
  · rintro (q | q)
    · exact absurd q (by decide)
    · rw [q, hk, XM_0 h1 hn]
      exact ⟨fc_pos n, Gg_e⟩
  · rintro ⟨hj, hG⟩
    have e1 : XM n j = eM n := hG (fun z => z = eM n) rfl (fun a b _ _ hb => by
      obtain ⟨i, _, j2, _⟩ := hb
      rw [Nat.zero_testBit] at j2
      exact absurd j2 (by decide))
    refine Or.inr ?_
    rw [← nu_XM (n := n) (by omega) hn hj, e1, nu_e h1 hn, hk]
theorem gS_or : ∀ y, gS cm e 6 y → gS cm (e ||| 2 ^ c) 6 y := fun _ h => by
  obtain ⟨j, h1, h2, h3⟩ := h
  exact ⟨j, h1, by rw [set_bit, h2, Bool.true_or], h3⟩
theorem WE_s (h : ∀ j, e.testBit j = true → s.testBit j = true) (hb : s.testBit c = true) : ∀ j, (e ||| 2 ^ c).testBit j = true → s.testBit j = true := fun j hj => by
  rw [set_bit, Bool.or_eq_true, decide_eq_true_eq] at hj
  rcases hj with hj | hj
  · exact h j hj
  · rw [← hj]; exact hb
theorem WT_s (hn : n ≤ 7) (hM : ∀ c, c < 6 → Mv n (cm c)) (hc : c < 6) (h : ∀ j, j < c → s.testBit j = true → Gg n (gS cm e 6) (cm j)) : ∀ j, j < c + 1 → s.testBit j = true → Gg n (gS cm (e ||| 2 ^ c) 6) (cm j) := fun j hj hs => by
  by_cases q : j = c
  · rw [q]
    exact Gg_of hn (gS_M (Nat.le_refl 6) hM) ⟨c, hc, by rw [set_bit, decide_eq_true rfl, Bool.or_true], rfl⟩
  · exact Gg_mono gS_or (h j (by omega) hs)
theorem WT_k (h1 : 1 ≤ n) (hn : n ≤ 7) (hM : ∀ c, c < 6 → Mv n (cm c)) (hc : c < 6) (hB : WX n cm e ml) (h : ∀ j, j < c → s.testBit j = true → Gg n (gS cm e 6) (cm j)) (hb : bitL ml (nuF (d8 (cm c)) 0 n n) = true) : ∀ j, j < c + 1 → s.testBit j = true → Gg n (gS cm e 6) (cm j) := fun j hj hs => by
  by_cases q : j = c
  · have h2 := ((hB _).mp hb).2
    have e1 : XM n (nuF (d8 (cm c)) 0 n n) = cm c := XM_nu h1 hn (hM c hc)
    rw [e1] at h2
    rw [q]
    exact h2
  · exact h j (by omega) hs
theorem WT_n (h : ∀ j, j < c → s.testBit j = true → Gg n (gS cm e 6) (cm j)) (hb : s.testBit c = false) : ∀ j, j < c + 1 → s.testBit j = true → Gg n (gS cm e 6) (cm j) := fun j hj hs => by
  by_cases q : j = c
  · rw [q, hb] at hs
    exact absurd hs (by decide)
  · exact h j (by omega) hs
theorem WX_end (hn : n ≤ 7) (hM : ∀ c, c < 6 → Mv n (cm c)) (hc : 6 ≤ c) (hB : WX n cm e ml) (he : ∀ j, e.testBit j = true → s.testBit j = true) (h : ∀ j, j < c → s.testBit j = true → Gg n (gS cm e 6) (cm j)) : WX n cm s ml := fun k => by
  rw [hB k]
  refine and_congr_right (fun _ => ⟨fun hG => Gg_mono (fun y ⟨j, h1, h2, h3⟩ => ⟨j, h1, he j h2, h3⟩) hG, fun hG => ?_⟩)
  refine (hG (fun z => Mv n z ∧ Gg n (gS cm e 6) z) ⟨eM_Mv hn, Gg_e⟩ (fun a b ha hz hb => ?_)).2
  obtain ⟨j, j1, j2, j3⟩ := hb
  rw [j3]
  exact ⟨cM_Mv hn ha (hM j j1), Gg_mul hn (gS_M (Nat.le_refl 6) hM) hz.2 (h j (by omega) j2)⟩
theorem WX_sp (h1 : 2 ≤ n) (hn : n ≤ 7) (hM : ∀ c, c < 6 → Mv n (cm c)) {tg : Nat → Nat} {mn : Nat} (hB : WX n cm e ml) (hF : FI n ml' tg mn) (hC : SC n cm (e ||| 2 ^ c) ml' tg mn) (hG : SG n cm (e ||| 2 ^ c) ml ml') : WX n cm (e ||| 2 ^ c) ml' := fun k => by
  refine ⟨fun hk => ⟨(hF.2.1 k hk).1, ?_⟩, fun ⟨hk, q⟩ => ?_⟩
  · exact hG.2 (Gg n (gS cm (e ||| 2 ^ c) 6)) (fun a j ha hj hs hH => Gg_s ha hH ⟨j, hj, hs, rfl⟩) (fun j hj => Gg_mono gS_or ((hB j).mp hj).2) k hk
  · have h0 : bitL ml' (nu n (eM n)) = true := hG.1 _ ((hB _).mpr ⟨nu_b n _, by rw [XM_nu (by omega) hn (eM_Mv hn)]; exact Gg_e⟩)
    have hb := (q (fun z => Mv n z ∧ bitL ml' (nu n z) = true) ⟨eM_Mv hn, h0⟩ (fun a b ha hz hb => by
      obtain ⟨j, j1, j2, j3⟩ := hb
      rw [j3]
      refine ⟨cM_Mv hn ha (hM j j1), ?_⟩
      obtain ⟨_, i, hi, e1⟩ := hF.2.1 _ hz.2
      rw [XM_nu (by omega) hn ha] at e1
      have h3 := hC i hi j j1 j2
      rw [e1] at h3
      exact h3)).2
    rw [nu_XM (by omega) hn hk] at hb
    exact hb
/-- what a group's things are -/
theorem FI_sm (hB : WX n cm s ml) {tg : Nat → Nat} {mn : Nat} (hF : FI n ml tg mn) {P : Nat → Prop} [∀ x, Decidable (P x)] : sm (fun i => if P (tg i) then 1 else 0) mn = cd n (fun x => Gg n (gS cm s 6) x ∧ P x) := by
  rw [hF.2.2 (fun x => if P x then 1 else 0)]
  refine sm_congr (fc n) (fun k hk => ?_)
  by_cases q : bitL ml k = true
  · rw [if_pos q]
    have g := ((hB k).mp q).2
    by_cases p : P (XM n k)
    · rw [if_pos p, on_t (p := Gg n (gS cm s 6) (XM n k) ∧ P (XM n k)) ⟨g, p⟩]
    · rw [if_neg p, on_f (fun a : Gg n (gS cm s 6) (XM n k) ∧ P (XM n k) => p a.2)]
  · rw [if_neg q, on_f (fun a : Gg n (gS cm s 6) (XM n k) ∧ P (XM n k) => q ((hB k).mpr ⟨hk, a.1⟩))]
theorem FI_in (h1 : 1 ≤ n) (hn : n ≤ 7) (hB : WX n cm s ml) {tg : Nat → Nat} {mn x : Nat} (hF : FI n ml tg mn) (hx : Mv n x) : (∃ i, i < mn ∧ tg i = x) ↔ Gg n (gS cm s 6) x := by
  constructor
  · rintro ⟨i, hi, rfl⟩
    have h2 := ((hB _).mp (hF.1 i hi).2).2
    rw [XM_nu h1 hn hx] at h2
    exact h2
  · intro hG
    obtain ⟨_, i, hi, e⟩ := hF.2.1 (nu n x) ((hB _).mpr ⟨nu_b n x, by rw [XM_nu h1 hn hx]; exact hG⟩)
    exact ⟨i, hi, by rw [e, XM_nu h1 hn hx]⟩
end WXS
end FIS
end
