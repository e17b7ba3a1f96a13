section
/-! what a chain tells: reach, rank, whether a move is in the group -/
theorem bt_f {b : Bool} (h : ¬ b = true) : b = false := by
  cases b with
  | false => rfl
  | true => exact absurd rfl h
/-- the sum of 2^v for those that are so -/
noncomputable def sBv (P : Nat → Prop) : Nat → Nat
  | 0 => 0
  | v + 1 => @ite _ (P v) (Classical.propDecidable (P v)) (sBv P v ||| 2 ^ v) (sBv P v)
theorem sBv_t {P : Nat → Prop} {v : Nat} (h : P v) : sBv P (v + 1) = sBv P v ||| 2 ^ v := @if_pos _ (Classical.propDecidable (P v)) h _ _ _
theorem sBv_f {P : Nat → Prop} {v : Nat} (h : ¬ P v) : sBv P (v + 1) = sBv P v := @if_neg _ (Classical.propDecidable (P v)) h _ _ _
theorem sBv_bit {P : Nat → Prop} {v : Nat} : ∀ m, (sBv P m).testBit v = true ↔ (v < m ∧ P v)
  | 0 => by
    show (0 : Nat).testBit v = true ↔ _
    rw [Nat.zero_testBit]
    exact ⟨fun h => absurd h (by decide), fun h => absurd h.1 (Nat.not_lt_zero v)⟩
  | m + 1 => by
    have ih := sBv_bit (P := P) (v := v) m
    by_cases q : P m
    · rw [sBv_t q, Nat.testBit_or, Bool.or_eq_true, ih, Nat.testBit_two_pow, decide_eq_true_eq]
      refine ⟨fun h => ?_, fun h => ?_⟩
      · rcases h with h | h
        · exact ⟨by omega, h.2⟩
        · subst h; exact ⟨Nat.lt_succ_self m, q⟩
      · by_cases e : v = m
        · exact Or.inr e.symm
        · exact Or.inl ⟨by omega, h.2⟩
    · rw [sBv_f q, ih]
      refine ⟨fun h => ⟨by omega, h.2⟩, fun h => ⟨?_, h.2⟩⟩
      by_cases e : v = m
      · rw [e] at h; exact absurd h.2 q
      · omega
theorem sBv_is {P : Nat → Prop} {r m : Nat} (h : ∀ v, r.testBit v = true ↔ (v < m ∧ P v)) : r = sBv P m :=
  Nat.eq_of_testBit_eq (fun v => Bool.eq_iff_iff.mpr ((h v).trans (sBv_bit m).symm))
theorem sBv_congr {P Q : Nat → Prop} {m : Nat} (h : ∀ v, v < m → (P v ↔ Q v)) : sBv P m = sBv Q m :=
  sBv_is (fun v => (sBv_bit m).trans ⟨fun q => ⟨q.1, (h v q.1).mp q.2⟩, fun q => ⟨q.1, (h v q.1).mpr q.2⟩⟩)
/-- the points of REACH -/
def RP (n : Nat) (G : Nat → Prop) (rd : Nat → Nat) (l v : Nat) : Prop := ∃ x, Mv n x ∧ G x ∧ (∀ j, j < l → d8 x (rd j) = rd j) ∧ d8 x (rd l) = v
section TELLS
variable {n ro : Nat} {st sv rc kw : Nat → Nat} {ns : Nat} {G : Nat → Prop}
theorem RP_is (hn : n ≤ 7) (h : CI n ro st sv rc kw ns) (hG : ∀ x, CP n (RC rc) (ST st) n x ↔ G x) {l v : Nat} (hl : l < n) : RC rc l v = true ↔ RP n G (d8 ro) l v := by
  obtain ⟨hM, hC, hB, _⟩ := h
  refine ⟨fun hr => ?_, fun ⟨x, hx, hg, hf, he⟩ => ?_⟩
  · have hv := hB l v hl hr
    obtain ⟨s1, s2, s3⟩ := (hC l hl).2.2.2 v hv hr
    exact ⟨ST st l v, s1, (hG _).mp (CP_one hn hC hl hv hr), s2, s3⟩
  · have hp := (hG x).mpr hg
    obtain ⟨m, hm⟩ : ∃ m, n - l = m + 1 := ⟨n - l - 1, by omega⟩
    have hml : n - (m + 1) = l := by omega
    have hd := CP_downs hn hC (m := m + 1) l (by omega) (by rw [show m + 1 + l = n by omega]; exact hp) (fun j hj => hf j (by omega))
    obtain ⟨g, w, hgn, hgr, hw, e⟩ := hd
    have e2 := CP_goal hn hC (m := m) (g := g) (h := w) (by omega) hgn hgr hw
    rw [← e, hml, he] at e2
    rw [e2, ← hml]
    exact hgr
theorem rc_sBv (hn : n ≤ 7) (h : CI n ro st sv rc kw ns) (hG : ∀ x, CP n (RC rc) (ST st) n x ↔ G x) {l : Nat} (hl : l < n) : rc l = sBv (RP n G (d8 ro) l) n :=
  sBv_is (fun v => ⟨fun q => ⟨h.2.2.1 l v hl q, (RP_is hn h hG hl).mp q⟩, fun q => (RP_is hn h hG hl).mpr q.2⟩)
/-- the rank of a move, level by level -/
noncomputable def rkS (n : Nat) (T : Nat → Prop) (rd : Nat → Nat) (x : Nat) : Nat → Nat
  | 0 => 0
  | c + 1 => rkS n T rd x c + sm (WT n T rd x c) (d8 x (rd c))
def RK (n ro : Nat) (rc st : Nat → Nat) (x c r b : Nat) : Prop :=
  Mv n b ∧ TL n rc st 1754760 b ∧ (∀ j, j < c → d8 b (d8 ro j) = d8 x (d8 ro j)) ∧ r = rkS n (TL n rc st 1754760) (d8 ro) x c ∧ r + zF rc n (n - c) ≤ zF rc n n
theorem TL_e (hn : n ≤ 7) {x : Nat} (hx : Mv n x) : TL n rc st 1754760 x ↔ CP n (RC rc) (ST st) n x := by
  unfold TL
  rw [e7_M hn]
  have e : iM n (eM n) = eM n := by
    have := iM_c hn (eM_Mv hn)
    rw [cM_e hn (iM_Mv hn (eM_Mv hn))] at this
    exact this
  rw [e, cM_e hn hx]
theorem RK_0 (hn : n ≤ 7) (h : CI n ro st sv rc kw ns) {x : Nat} : RK n ro rc st x 0 0 1754760 :=
  ⟨by rw [e7_M hn]; exact eM_Mv hn, (TL_e hn (by rw [e7_M hn]; exact eM_Mv hn)).mpr (by rw [e7_M hn]; exact CP_e hn h.2.1 n (Nat.le_refl n)), fun j hj => absurd hj (Nat.not_lt_zero j), rfl, by rw [Nat.zero_add, Nat.sub_zero]; exact Nat.le_refl _⟩
theorem e_Mv (hn : n ≤ 7) : Mv n 1754760 := by
  rw [e7_M hn]
  exact eM_Mv hn
theorem WT_x (h1 : 1 ≤ n) (hn : n ≤ 7) {x b c : Nat} (hf : ∀ j, j < c → d8 b (d8 ro j) = d8 x (d8 ro j)) (T : Nat → Prop) (p : Nat) : WT n T (d8 ro) x c p = WT n T (d8 ro) b c p :=
  WT_pre h1 hn (fun j hj => (hf j hj).symm) p
theorem cd_pos (h1 : 1 ≤ n) (hn : n ≤ 7) {P : Nat → Prop} {x : Nat} (hx : Mv n x) (h : P x) : 1 ≤ cd n P := by
  have e : P (XM n (nu n x)) := by rw [XM_nu h1 hn hx]; exact h
  have := sm_ge (f := fun k => on (P (XM n k))) (fc n) (nu_b n x)
  have h2 : on (P (XM n (nu n x))) = 1 := on_t e
  have this : on (P (XM n (nu n x))) ≤ cd n P := this
  omega
/-- no such goal: the move isn't in the group -/
theorem RK_no (h1 : 1 ≤ n) (hn : n ≤ 7) (h : CI n ro st sv rc kw ns) (hQ : PQ n rc st kw ns) {x c r b gs : Nat} (hx : Mv n x) (hc : c < n) (hI : RK n ro rc st x c r b) (hg : ∀ v, gs.testBit v = img (d8 b) (rc c) v 7) (hb : gs.testBit (d8 x (d8 ro c)) = false) : ¬ CP n (RC rc) (ST st) n x := fun hp => by
  obtain ⟨a1, a2, a3, _⟩ := hI
  have hrd := h.1.2.1.1 c hc
  have hgn := hx.2.1.1 _ hrd
  have hw := WT_is h1 hn h hQ (e_Mv hn) a1 a2 hc hgn
  rw [← hg, hb, if_neg Bool.false_ne_true] at hw
  have := cd_pos h1 hn (P := fun y => TL n rc st 1754760 y ∧ (∀ j, j < c → d8 y (d8 ro j) = d8 b (d8 ro j)) ∧ d8 y (d8 ro c) = d8 x (d8 ro c)) hx ⟨(TL_e hn hx).mpr hp, fun j hj => (a3 j hj).symm, rfl⟩
  have hw : cd n (fun y => TL n rc st 1754760 y ∧ (∀ j, j < c → d8 y (d8 ro j) = d8 b (d8 ro j)) ∧ d8 y (d8 ro c) = d8 x (d8 ro c)) = 0 := hw
  omega
theorem RK_b (h1 : 1 ≤ n) (hn : n ≤ 7) (h : CI n ro st sv rc kw ns) {x c r b gs g : Nat} (hc : c < n) (hI : RK n ro rc st x c r b) (hg : ∀ v, gs.testBit v = img (d8 b) (rc c) v 7) (hb : gs.testBit g = true) (hg7 : g < 7) : r + cnt (fun v => gs.testBit v) g * zF rc n (n - (c + 1)) + zF rc n (n - (c + 1)) ≤ zF rc n n := by
  obtain ⟨a1, _, _, _, a5⟩ := hI
  have e := img_cnt7 hn h.2.2.1 a1 hc hg
  have hz : zF rc n (n - c) = zF rc n (n - (c + 1)) * cnt (fun v => (rc c).testBit v) 32 := by
    rw [show n - c = (n - (c + 1)) + 1 by omega]
    show zF rc n (n - (c + 1)) * cnt (fun v => (rc (n - (n - (c + 1) + 1))).testBit v) 32 = _
    rw [show n - (n - (c + 1) + 1) = c by omega]
  have hlt : cnt (fun v => gs.testBit v) g + 1 ≤ cnt (fun v => gs.testBit v) 7 := by
    obtain ⟨k, hk⟩ : ∃ k, 7 = g + 1 + k := ⟨6 - g, by omega⟩
    rw [hk, cnt_split]
    have : cnt (fun v => gs.testBit v) (g + 1) = cnt (fun v => gs.testBit v) g + 1 := by
      show cnt (fun v => gs.testBit v) g + (if gs.testBit g = true then 1 else 0) = _
      rw [if_pos hb]
    omega
  rw [e] at hlt
  have hm : (cnt (fun v => gs.testBit v) g + 1) * zF rc n (n - (c + 1)) ≤ zF rc n (n - (c + 1)) * cnt (fun v => (rc c).testBit v) 32 := by
    rw [Nat.mul_comm (zF rc n (n - (c + 1)))]
    exact Nat.mul_le_mul_right _ hlt
  rw [Nat.add_mul, Nat.one_mul, ← hz] at hm
  omega
theorem RK_s (h1 : 1 ≤ n) (hn : n ≤ 7) (h : CI n ro st sv rc kw ns) (hQ : PQ n rc st kw ns) {x c r b gs q : Nat} (hx : Mv n x) (hc : c < n) (hI : RK n ro rc st x c r b) (hg : ∀ v, gs.testBit v = img (d8 b) (rc c) v 7)
    (hb : gs.testBit (d8 x (d8 ro c)) = true) (hq7 : q < 7) (hq : d8 b q = d8 x (d8 ro c)) : RK n ro rc st x (c + 1) (r + cnt (fun v => gs.testBit v) (d8 x (d8 ro c)) * zF rc n (n - (c + 1))) (c7 (st (c * 8 + q)) b) := by
  have hrd := h.1.2.1.1 c hc
  have hgn := hx.2.1.1 _ hrd
  have hbound := RK_b h1 hn h hc hI hg hb (by omega)
  obtain ⟨a1, a2, a3, a4, a5⟩ := hI
  have hM := h.1
  have hC := h.2.1
  have hB := h.2.2.1
  have hpi := hb
  rw [hg] at hpi
  have hRq : RC rc c q = true := by
    obtain ⟨q', g1, g2, g3⟩ := img_ex 7 hpi
    have e : q = q' := (a1.p7 hn).2 q q' hq7 g1 (hq.trans g3.symm)
    rw [e]
    exact g2
  have hqn := hB c q hc hRq
  obtain ⟨s1, s2, s3⟩ := (hC c hc).2.2.2 q hqn hRq
  have s1 : Mv n (st (c * 8 + q)) := s1
  have hb' : c7 (st (c * 8 + q)) b = cM n (st (c * 8 + q)) b := c7_M hn s1 a1
  have m1 := cM_Mv hn s1 a1
  rw [hb']
  refine ⟨m1, ?_, fun j hj => ?_, ?_, hbound⟩
  · show CP n (RC rc) (ST st) n (cM n (cM n (st (c * 8 + q)) b) (iM n 1754760))
    rw [cM_assoc hn s1 a1 (iM_Mv hn (e_Mv hn))]
    exact CP_cM hn h hQ (CP_one hn hC hc hqn hRq) a2
  · by_cases e : j = c
    · subst e
      rw [cM_d hn s1 a1 hrd]
      exact (congrArg (d8 b) s3).trans hq
    · rw [cM_d hn s1 a1 (hM.2.1.1 j (by omega)), ← a3 j (by omega)]
      exact congrArg (d8 b) (s2 j (by omega))
  · show _ = rkS n (TL n rc st 1754760) (d8 ro) x c + sm (WT n (TL n rc st 1754760) (d8 ro) x c) (d8 x (d8 ro c))
    rw [← a4, sm_congr (g := fun v => zF rc n (n - (c + 1)) * (if gs.testBit v = true then 1 else 0)) (d8 x (d8 ro c)) (fun v hv => by
      rw [WT_x h1 hn a3, WT_is h1 hn h hQ (e_Mv hn) a1 a2 hc (show v < n by omega), hg v]
      by_cases e : img (d8 b) (rc c) v 7 = true
      · rw [if_pos e, if_pos e, Nat.mul_one]
      · rw [if_neg e, if_neg e, Nat.mul_zero]), sm_mul, Nat.mul_comm]
theorem RK_st (hn : n ≤ 7) (h : CI n ro st sv rc kw ns) {x c r b gs q : Nat} (hc : c < n) (hI : RK n ro rc st x c r b) (hg : ∀ v, gs.testBit v = img (d8 b) (rc c) v 7) {p : Nat} (hp : gs.testBit p = true) (hq7 : q < 7) (hq : d8 b q = p) : st (c * 8 + q) < 2 ^ (3 * 7) := by
  rw [hg p] at hp
  obtain ⟨q', g1, g2, g3⟩ := img_ex 7 hp
  have e : q = q' := (hI.1.p7 hn).2 q q' hq7 g1 (hq.trans g3.symm)
  rw [e]
  exact ((h.2.1 c hc).2.2.2 q' (h.2.2.1 c q' hc g2) g2).1.1
theorem RK_n (hn : n ≤ 7) (h : CI n ro st sv rc kw ns) {x c r b : Nat} (hx : Mv n x) (hc : c = n) (hI : RK n ro rc st x c r b) : CP n (RC rc) (ST st) n x ∧ r = rkS n (TL n rc st 1754760) (d8 ro) x n := by
  subst hc
  obtain ⟨a1, a2, a3, a4, _⟩ := hI
  have e : b = x := a1.ext hx (fun p hp => by
    obtain ⟨j, hj, e⟩ := inj_surj _ (d8 ro) h.1.2.1 p hp
    rw [← e]
    exact a3 j hj)
  rw [e] at a2
  exact ⟨(TL_e hn hx).mp a2, a4⟩
def RKV (G : Prop) (r : Nat) (v : Int32) : Prop := (G ∧ v = nI r ∧ r < 5041) ∨ (¬ G ∧ v = (-1))
theorem rkS_iff (h1 : 1 ≤ n) (hn : n ≤ 7) {T T' : Nat → Prop} (hT : ∀ x, Mv n x → (T x ↔ T' x)) (rd : Nat → Nat) (x : Nat) : ∀ c, rkS n T rd x c = rkS n T' rd x c
  | 0 => rfl
  | c + 1 => by
    show rkS n T rd x c + sm (WT n T rd x c) (d8 x (rd c)) = rkS n T' rd x c + sm (WT n T' rd x c) (d8 x (rd c))
    have hw : ∀ p, WT n T rd x c p = WT n T' rd x c p := fun p => cd_iff h1 hn (fun y hy => and_congr (hT y hy) Iff.rfl)
    rw [rkS_iff h1 hn hT rd x c, sm_congr (f := WT n T rd x c) (g := WT n T' rd x c) _ (fun p _ => hw p)]
/-- a rank's answer -/
noncomputable def rkI (G : Prop) (r : Nat) : Int32 := @ite _ G (Classical.propDecidable G) (nI r) (-1)
theorem rkI_of {G : Prop} {r : Nat} {v : Int32} (h : RKV G r v) : v = rkI G r := by
  rcases h with ⟨g, e, _⟩ | ⟨g, e⟩
  · exact e.trans (@if_pos _ (Classical.propDecidable G) g _ _ _).symm
  · exact e.trans (@if_neg _ (Classical.propDecidable G) g _ _ _).symm
theorem rkI_iff {G G' : Prop} {r r' : Nat} (h : G ↔ G') (e : r = r') : rkI G r = rkI G' r' := by
  rw [e, propext h]
end TELLS
theorem RKV_lt {G : Prop} {r : Nat} {v : Int32} (h : RKV G r v) (hl : v < 0) : ¬ G := fun g => by
  rcases h with ⟨_, e, hr⟩ | ⟨q, _⟩
  · rw [e] at hl
    exact absurd hl (nI_pos (n := r) (by omega))
  · exact q g
theorem RKV_ge {G : Prop} {r : Nat} {v : Int32} (h : RKV G r v) (hl : ¬ v < 0) : G := by
  rcases h with ⟨g, _⟩ | ⟨_, e⟩
  · exact g
  · rw [e] at hl
    exact absurd (by decide) hl
theorem hA_s {P B : Nat → Prop} {c : Nat} (h : ∀ i, i < c → B i → P i) (hc : B c → P c) : ∀ i, i < c + 1 → B i → P i := fun i hi hb => by
  by_cases e : i = c
  · rw [e] at hb ⊢; exact hc hb
  · exact h i (by omega) hb
end
section
/-! what groups answer: parts, shares, pairs, enough -/
noncomputable def ppI (P : Prop) (x y : Int32) : Int32 := @ite _ P (Classical.propDecidable P) x y
theorem ppI_t {P : Prop} {x y : Int32} (h : P) : ppI P x y = x := @if_pos _ (Classical.propDecidable P) h _ _ _
theorem ppI_f {P : Prop} {x y : Int32} (h : ¬ P) : ppI P x y = y := @if_neg _ (Classical.propDecidable P) h _ _ _
theorem ppI_iff {P Q : Prop} {x y : Int32} (h : P ↔ Q) : ppI P x y = ppI Q x y := by rw [propext h]
theorem all_iff {P Q : Nat → Prop} {B : Nat → Prop} {f : Nat → Nat} (h : ∀ x, P x ↔ Q x) : (∀ c, c < 6 → B c → P (f c)) ↔ (∀ c, c < 6 → B c → Q (f c)) :=
  ⟨fun a c hc hb => (h _).mp (a c hc hb), fun a c hc hb => (h _).mpr (a c hc hb)⟩
/-- any two points come to any two -/
def TF (n : Nat) (G : Nat → Prop) : Prop := ∀ u v, u < n → v < n → u ≠ v → ∃ x, Mv n x ∧ G x ∧ d8 x 0 = u ∧ d8 x 1 = v
/-- the least number so told -/
noncomputable def lsK (P : Nat → Prop) : Nat → Nat → Nat
  | 0, k => k
  | m + 1, k => @ite _ (P k) (Classical.propDecidable (P k)) k (lsK P m (k + 1))
theorem lsK_is {P : Nat → Prop} {y : Nat} (hy : P y) (hl : ∀ k, k < y → ¬ P k) : ∀ m k, k ≤ y → y ≤ k + m → lsK P m k = y
  | 0, k, h1, h2 => by
    show k = y
    omega
  | m + 1, k, h1, h2 => by
    show @ite _ (P k) (Classical.propDecidable (P k)) k (lsK P m (k + 1)) = y
    by_cases e : k = y
    · subst e
      exact @if_pos _ (Classical.propDecidable (P k)) hy _ _ _
    · rw [@if_neg _ (Classical.propDecidable (P k)) (hl k (by omega)) _ _ _]
      exact lsK_is hy hl m (k + 1) (by omega) (by omega)
/-- the least number in a share -/
noncomputable def lsN (n : Nat) (G : Nat → Prop) (y : Nat) : Nat := lsK (fun k => ∃ x, Mv n x ∧ G x ∧ nu n (cM n x y) = k) (fc n) 0
theorem lsN_is {n : Nat} {G : Nat → Prop} {y z : Nat} (hz : ∃ x, Mv n x ∧ G x ∧ cM n x y = z) (hl : ∀ x, Mv n x → G x → nu n z ≤ nu n (cM n x y)) : lsN n G y = nu n z := by
  obtain ⟨x, h1, h2, h3⟩ := hz
  refine lsK_is ⟨x, h1, h2, by rw [h3]⟩ (fun k hk ⟨x', a, b, c⟩ => ?_) (fc n) 0 (Nat.zero_le _) (by have := nu_b n z; omega)
  have := hl x' a b
  omega
section LEAST
variable {n : Nat}
theorem d8_e {n : Nat} (hn : n ≤ 7) {p : Nat} (hp : p < n) : d8 1754760 p = p := e7_d p (by omega)
/-- the first one by the row 0, 1, 2 .. has the least number -/
theorem GK_least (h1 : 1 ≤ n) (hn : n ≤ 7) {T : Nat → Prop} {y : Nat} (hy : Mv n y) (h : GK n T (d8 1754760) 0 y) {z : Nat} (hz : Mv n z) (hT : T z) : nu n y ≤ nu n z := by
  obtain ⟨lf, l0, l1⟩ := h
  have hl : ∀ l, l ≤ n → lf l = 0 := by
    intro l
    induction l with
    | zero => intro _; exact l0
    | succ l ih =>
      intro hl
      have := (l1 l (by omega)).1
      rw [ih (by omega)] at this
      omega
  by_cases e : y = z
  · rw [e]; exact Nat.le_refl _
  · -- the first place where they differ
    obtain ⟨p, hp, hd⟩ : ∃ p, p < n ∧ d8 y p ≠ d8 z p := by
      refine Classical.byContradiction fun hno => e (hy.ext hz (fun p hp => ?_))
      exact Classical.byContradiction fun q => hno ⟨p, hp, q⟩
    obtain ⟨q, q1, q2, q3⟩ := least (P := fun i => d8 y i ≠ d8 z i) p hd
    have hqn : q < n := by omega
    have hag : ∀ j, j < q → d8 y j = d8 z j := fun j hj => Classical.byContradiction fun w => q3 j hj w
    refine Nat.le_of_lt (nu_lex hy.2.1 hz.2.1 hqn hag ?_)
    rcases Nat.lt_or_gt_of_ne q2 with w | w
    · exact w
    · have h2 := (l1 q hqn).1
      rw [hl q (by omega), hl (q + 1) (by omega)] at h2
      have h3 : sm (WT n T (d8 1754760) y q) (d8 y (d8 1754760 q)) = 0 := by omega
      rw [d8_e hn hqn] at h3
      have h4 := sm_ge (f := WT n T (d8 1754760) y q) (d8 y q) w
      have h5 : 1 ≤ WT n T (d8 1754760) y q (d8 z q) := cd_pos h1 hn hz ⟨hT, fun j hj => by rw [d8_e hn (show j < n by omega)]; exact (hag j hj).symm, by rw [d8_e hn hqn]⟩
      omega
theorem GK_in (h1 : 1 ≤ n) (hn : n ≤ 7) {T : Nat → Prop} {rd : Nat → Nat} (hrd : Pn n rd) {y r : Nat} (hy : Mv n y) (h : GK n T rd r y) : T y := by
  obtain ⟨lf, _, l1⟩ := h
  obtain ⟨m, hm⟩ : ∃ m, n = m + 1 := ⟨n - 1, by omega⟩
  have h2 := (l1 m (by omega)).2
  have h3 : 1 ≤ WT n T rd y m (d8 y (rd m)) := by omega
  refine Classical.byContradiction fun q => ?_
  have : WT n T rd y m (d8 y (rd m)) = 0 := cd_0 h1 hn (fun x hx ⟨a, b, c⟩ => q (by
    have : x = y := hx.ext hy (fun p hp => by
      obtain ⟨j, hj, e⟩ := inj_surj n rd hrd p hp
      rw [← e]
      by_cases w : j < m
      · exact b j w
      · rw [show j = m by omega]; exact c)
    rw [← this]; exact a))
  omega
variable {ro : Nat} {st sv rc kw : Nat → Nat} {ns : Nat} {G : Nat → Prop}
/-- made up, then the last one: the share -/
theorem TL_share (hn : n ≤ 7) (h : CI n ro st sv rc kw ns) (hG : ∀ x, CP n (RC rc) (ST st) n x ↔ G x) {la z : Nat} (hla : Mv n la) (hz : Mv n z) : TL n rc st la z ↔ ∃ x, Mv n x ∧ G x ∧ cM n x la = z := by
  refine ⟨fun a => ⟨cM n z (iM n la), cM_Mv hn hz (iM_Mv hn hla), (hG _).mp a, ?_⟩, fun ⟨x, x1, x2, x3⟩ => ?_⟩
  · rw [cM_assoc hn hz (iM_Mv hn hla) hla, iM_c hn hla, cM_e hn hz]
  · show CP n (RC rc) (ST st) n (cM n z (iM n la))
    rw [← x3, cM_forth hn x1 hla]
    exact (hG _).mpr x2
theorem share_is (h1 : 1 ≤ n) (hn : n ≤ 7) (h : CI n ro st sv rc kw ns) (hG : ∀ x, CP n (RC rc) (ST st) n x ↔ G x) {la y : Nat} (hla : Mv n la) (hy : Mv n y) (hK : GK n (TL n rc st la) (d8 1754760) 0 y) : nu n y = lsN n G la := by
  have hin := GK_in h1 hn (e_Mv hn).2.1 hy hK
  refine (lsN_is ((TL_share hn h hG hla hy).mp hin) (fun x hx hg => ?_)).symm
  exact GK_least h1 hn hy hK (cM_Mv hn hx hla) ((TL_share hn h hG hla (cM_Mv hn hx hla)).mpr ⟨x, hx, hg, rfl⟩)
/-- two levels tell pairs -/
theorem cnt_full {P : Nat → Bool} {n : Nat} (h : cnt P n = n) : ∀ v, v < n → P v = true := by
  induction n with
  | zero => intro v hv; exact absurd hv (Nat.not_lt_zero v)
  | succ n ih =>
    have h : cnt P n + (if P n = true then 1 else 0) = n + 1 := h
    have hl := cnt_le P n
    by_cases e : P n = true
    · rw [if_pos e] at h
      intro v hv
      by_cases q : v = n
      · rw [q]; exact e
      · exact ih (by omega) v (by omega)
    · rw [if_neg e] at h
      omega
theorem pc_n {x n : Nat} (hn : n ≤ 7) (hx : x < 2 ^ 31) (h : ∀ v, x.testBit v = true → v < n) : pc32 (nI x) = cnt (fun v => x.testBit v) n := by
  rw [pc32_nI (Nat.lt_trans hx (by decide))]
  obtain ⟨c, hc⟩ : ∃ c, 32 = n + c := ⟨32 - n, by omega⟩
  rw [hc, cnt_split, cnt_0 (P := fun i => x.testBit (n + i)) c (fun i _ => by
    cases q : x.testBit (n + i) with
    | false => rfl
    | true => have := h _ q; omega), Nat.add_zero]
theorem cnt_but {P : Nat → Bool} {n : Nat} (hn : 1 ≤ n) (h0 : P 0 = false) (h : cnt P n = n - 1) : ∀ v, v < n → v ≠ 0 → P v = true := by
  intro v hv hv0
  obtain ⟨k, hk⟩ : ∃ k, n = 1 + k := ⟨n - 1, by omega⟩
  rw [hk, cnt_split] at h
  have h1 : cnt P 1 = 0 := by
    show 0 + (if P 0 = true then 1 else 0) = 0
    rw [h0]; rfl
  have h2 : cnt (fun i => P (1 + i)) k = k := by omega
  have := cnt_full h2 (v - 1) (by omega)
  rw [show 1 + (v - 1) = v by omega] at this
  exact this
theorem cnt_most {P : Nat → Bool} {n : Nat} (hn : 1 ≤ n) (h0 : P 0 = false) (h : ∀ v, v < n → v ≠ 0 → P v = true) : cnt P n = n - 1 := by
  obtain ⟨k, hk⟩ : ∃ k, n = 1 + k := ⟨n - 1, by omega⟩
  rw [hk, cnt_split]
  have h1 : cnt P 1 = 0 := by
    show 0 + (if P 0 = true then 1 else 0) = 0
    rw [h0]; rfl
  have h2 : cnt (fun i => P (1 + i)) k = k := by
    rw [cnt_add (Q := fun _ => true) k (fun i hi => h _ (by omega) (by omega)), cnt_all]
  omega
theorem two_is (hn1 : 2 ≤ n) (hn : n ≤ 7) (hc : ∀ a b, Mv n a → Mv n b → G a → G b → G (cM n a b)) (hi : ∀ a, Mv n a → G a → G (iM n a)) (h : CI n 1754760 st sv rc kw ns) (hG : ∀ x, CP n (RC rc) (ST st) n x ↔ G x) :
    (pc32 (nI (rc 0)) = n ∧ pc32 (nI (rc 1)) = n - 1) ↔ TF n G := by
  have e0 : d8 1754760 0 = 0 := e7_d 0 (by decide)
  have e1 : d8 1754760 1 = 1 := e7_d 1 (by decide)
  have hB := h.2.2.1
  rw [pc_n hn (h.2.2.2.2.2.2.2 0 (by omega)) (fun v hv => hB 0 v (by omega) hv), pc_n hn (h.2.2.2.2.2.2.2 1 (by omega)) (fun v hv => hB 1 v (by omega) hv)]
  have r0 : ∀ v, (rc 0).testBit v = true ↔ ∃ x, Mv n x ∧ G x ∧ d8 x 0 = v := fun v => (RP_is hn h hG (l := 0) (by omega)).trans (by
    unfold RP
    rw [e0]
    exact ⟨fun ⟨x, a, b, _, c⟩ => ⟨x, a, b, c⟩, fun ⟨x, a, b, c⟩ => ⟨x, a, b, fun j hj => absurd hj (Nat.not_lt_zero j), c⟩⟩)
  have r1 : ∀ v, (rc 1).testBit v = true ↔ ∃ x, Mv n x ∧ G x ∧ d8 x 0 = 0 ∧ d8 x 1 = v := fun v => (RP_is hn h hG (l := 1) (by omega)).trans (by
    unfold RP
    rw [e1]
    exact ⟨fun ⟨x, a, b, d, c⟩ => ⟨x, a, b, by have := d 0 (by decide); rw [e0] at this; exact this, c⟩, fun ⟨x, a, b, d, c⟩ => ⟨x, a, b, fun j hj => by rw [show j = 0 by omega, e0]; exact d, c⟩⟩)
  have z1 : (rc 1).testBit 0 = false := bt_f (fun q => by
    obtain ⟨x, a, _, c, d⟩ := (r1 0).mp q
    have := a.2.1.2 0 1 (by omega) (by omega) (c.trans d.symm)
    omega)
  refine ⟨fun ⟨a, b⟩ u v hu hv hne => ?_, fun hT => ⟨?_, ?_⟩⟩
  · obtain ⟨x, x1, x2, x3⟩ := (r0 u).mp (cnt_full a u hu)
    -- undo it: where must 1 go first
    have xi := iM_Mv hn x1
    have hw : d8 (iM n x) v < n := xi.2.1.1 v hv
    have hwx : d8 x (d8 (iM n x) v) = v := by
      have := cM_d hn xi x1 hv
      rw [iM_c hn x1, eM_d hn hv] at this
      exact this.symm
    have hw0 : d8 (iM n x) v ≠ 0 := fun e => hne (by rw [← x3, ← hwx, e])
    obtain ⟨z, z1, z2, z3, z4⟩ := (r1 _).mp (cnt_but (by omega) z1 b _ hw hw0)
    exact ⟨cM n z x, cM_Mv hn z1 x1, hc _ _ z1 x1 z2 x2, by rw [cM_d hn z1 x1 (by omega), z3, x3], by rw [cM_d hn z1 x1 (by omega), z4, hwx]⟩
  · rw [cnt_add (Q := fun _ => true) n (fun v hv => (r0 v).mpr (by
      obtain ⟨w, hw, hne⟩ : ∃ w, w < n ∧ v ≠ w := ⟨if v = 0 then 1 else 0, by split <;> omega, by split <;> omega⟩
      obtain ⟨x, a, b, c, _⟩ := hT v w hv hw hne
      exact ⟨x, a, b, c⟩)), cnt_all]
  · exact cnt_most (by omega) z1 (fun v hv h0 => (r1 v).mpr (by
      obtain ⟨x, a, b, c, d⟩ := hT 0 v (by omega) hv (fun e => h0 e.symm)
      exact ⟨x, a, b, c, d⟩))
/-- ENOUGH, cell by cell -/
noncomputable def enF (n : Nat) (cm : Nat → Nat) (s : Nat) : Nat → Nat
  | 0 => 0
  | c + 1 => @ite _ (s.testBit c = true ∧ ¬ Gg n (gS cm s c) (cm c)) (Classical.propDecidable _) (enF n cm s c ||| 2 ^ c) (enF n cm s c)
theorem enF_t {cm : Nat → Nat} {s c : Nat} (h1 : s.testBit c = true) (h2 : ¬ Gg n (gS cm s c) (cm c)) : enF n cm s (c + 1) = enF n cm s c ||| 2 ^ c := @if_pos _ (Classical.propDecidable _) ⟨h1, h2⟩ _ _ _
theorem enF_f {cm : Nat → Nat} {s c : Nat} (h : ¬ (s.testBit c = true ∧ ¬ Gg n (gS cm s c) (cm c))) : enF n cm s (c + 1) = enF n cm s c := @if_neg _ (Classical.propDecidable _) h _ _ _
/-- .. the group made so far -/
theorem GE_c {cm : Nat → Nat} {s k : Nat} (hn : n ≤ 7) (hk : k ≤ 6) (h : CI n ro st sv rc kw ns) (hQ : PQ n rc st kw ns) (hA : Al n rc st (Gg n (gS cm s k))) (hS : ∀ c, c < k → s.testBit c = true → CP n (RC rc) (ST st) n (cm c)) (hcm : ∀ c, c < 6 → Mv n (cm c)) : ∀ x, CP n (RC rc) (ST st) n x ↔ Gg n (gS cm s k) x := fun x => by
  refine ⟨fun hx => CP_in hn h.2.1 (Gg_Cl hn (gS_M hk hcm)) hA n x (Nat.le_refl n) hx, fun hx => ?_⟩
  refine (hx (fun z => Mv n z ∧ CP n (RC rc) (ST st) n z) ⟨eM_Mv hn, CP_e hn h.2.1 n (Nat.le_refl n)⟩ (fun a b ha hz hb => ?_)).2
  obtain ⟨c, h1, h2, e⟩ := hb
  have hcp := hS c h1 h2
  rw [e]
  exact ⟨cM_Mv hn ha (hcm c (by omega)), CP_cM hn h hQ hz.2 hcp⟩
end LEAST
end
section
/-! loops over the numbers of a group -/
section KI
variable {bt : List Int32} {F : Nat} {I : Nat → Prop}
theorem KI_gap (hs : ∀ m, bitL bt m = false → I m → I (m + 1)) {a : Nat} : ∀ b, a ≤ b → I a → (∀ j, a ≤ j → j < b → bitL bt j = false) → I b
  | 0, h, hI, _ => by
    rw [Nat.le_zero.mp h] at hI
    exact hI
  | b + 1, h, hI, hb => by
    by_cases e : a = b + 1
    · rw [← e]; exact hI
    · exact hs b (hb b (by omega) (by omega)) (KI_gap hs b (by omega) hI (fun j h1 h2 => hb j h1 (by omega)))
theorem KI_0 (hs : ∀ m, bitL bt m = false → I m → I (m + 1)) {a : Nat} (h : I a) (ha : a ≤ F) (hb : ∀ j, a ≤ j → j < F → bitL bt j = false) : I (KK F 0) := KI_gap hs F ha h hb
theorem KI_1 (hs : ∀ m, bitL bt m = false → I m → I (m + 1)) {a q : Nat} (h : I a) (ha : a ≤ q) (hb : ∀ j, a ≤ j → j < q → bitL bt j = false) : I (KK F (q + 1)) := by
  rw [KK_s]
  exact KI_gap hs q ha h hb
end KI
/-- a sum of powers of two, number by number -/
def RBt (n : Nat) (bt : List Int32) (rd : Nat → Nat) (l z m : Nat) : Prop := z < 2 ^ 7 ∧ ∀ v, z.testBit v = true ↔ ∃ k, k < m ∧ bitL bt k = true ∧ (∀ j, j < l → rwF n k (rd j) = rd j) ∧ rwF n k (rd l) = v
section RBT
variable {n l z m : Nat} {bt : List Int32} {rd : Nat → Nat}
theorem RBt_0 : RBt n bt rd l 0 0 := ⟨by decide, fun v => by
  rw [Nat.zero_testBit]
  exact ⟨fun h => absurd h (by decide), fun ⟨k, h, _⟩ => absurd h (Nat.not_lt_zero k)⟩⟩
theorem RBt_f : ∀ m, bitL bt m = false → RBt n bt rd l z m → RBt n bt rd l z (m + 1) := fun m hb h => ⟨h.1, fun v => (h.2 v).trans ⟨fun ⟨k, h1, h2⟩ => ⟨k, by omega, h2⟩, fun ⟨k, h1, h2, h3⟩ => by
  by_cases e : k = m
  · rw [e, hb] at h2; exact absurd h2 (by decide)
  · exact ⟨k, by omega, h2, h3⟩⟩⟩
theorem RBt_n (h : RBt n bt rd l z m) (hn : ¬ ∀ j, j < l → rwF n m (rd j) = rd j) : RBt n bt rd l z (m + 1) := ⟨h.1, fun v => (h.2 v).trans ⟨fun ⟨k, h1, h2⟩ => ⟨k, by omega, h2⟩, fun ⟨k, h1, h2, h3, h4⟩ => by
  by_cases e : k = m
  · rw [e] at h3; exact absurd h3 hn
  · exact ⟨k, by omega, h2, h3, h4⟩⟩⟩
theorem RBt_s {g : Nat} (h : RBt n bt rd l z m) (hb : bitL bt m = true) (hf : ∀ j, j < l → rwF n m (rd j) = rd j) (hg : g = rwF n m (rd l)) (h7 : g < 7) : RBt n bt rd l (z ||| 2 ^ g) (m + 1) := ⟨Nat.or_lt_two_pow h.1 (Nat.pow_lt_pow_right (by decide) h7), fun v => by
  rw [Nat.testBit_or, Bool.or_eq_true, h.2 v, Nat.testBit_two_pow, decide_eq_true_eq]
  refine ⟨fun a => ?_, fun ⟨k, h1, h2, h3, h4⟩ => ?_⟩
  · rcases a with ⟨k, h1, h2⟩ | a
    · exact ⟨k, by omega, h2⟩
    · exact ⟨m, Nat.lt_succ_self m, hb, hf, by rw [← hg]; exact a⟩
  · by_cases e : k = m
    · rw [e] at h4; exact Or.inr (hg.trans h4)
    · exact Or.inl ⟨k, by omega, h2, h3, h4⟩⟩
theorem RBt_end {G : Nat → Prop} (h1 : 1 ≤ n) (hn : n ≤ 7) (hB : ∀ k, bitL bt k = true ↔ (k < fc n ∧ G (XM n k))) (hrd : ∀ j, j < n → rd j < n) (hl : l < n) (h : RBt n bt rd l z (fc n)) : z = sBv (RP n G rd l) n :=
  sBv_is (fun v => (h.2 v).trans ⟨fun ⟨k, a, b, c, d⟩ => ⟨by rw [← d]; exact (rwF_Pn h1).1 _ (hrd l hl), XM n k, XM_Mv h1 hn k, ((hB k).mp b).2, fun j hj => by rw [XM_d h1 hn (hrd j (by omega))]; exact c j hj, by rw [XM_d h1 hn (hrd l hl)]; exact d⟩, fun ⟨_, x, hx, hg, hf, he⟩ => by
    have e := XM_nu h1 hn hx
    refine ⟨nu n x, nu_b n x, (hB _).mpr ⟨nu_b n x, by rw [e]; exact hg⟩, fun j hj => ?_, ?_⟩
    · rw [← XM_d h1 hn (hrd j (by omega)), e]; exact hf j hj
    · rw [← XM_d h1 hn (hrd l hl), e]; exact he⟩)
end RBT
/-- a test, place by place -/
def STt (rw rd : Nat → Nat) (l c y : Nat) : Prop := (y = 1 ∧ ∀ j, j < c → rw (rd j) = rd j) ∨ (y = 0 ∧ ∃ j, j < l ∧ ¬ rw (rd j) = rd j)
section STT
variable {rw rd : Nat → Nat} {l c y : Nat}
theorem STt_0 : STt rw rd l 0 1 := Or.inl ⟨rfl, fun j hj => absurd hj (Nat.not_lt_zero j)⟩
theorem STt_1 (h : STt rw rd l c y) (e : rw (rd c) = rd c) : STt rw rd l (c + 1) (y % 2 ^ 1) := by
  rcases h with ⟨rfl, h⟩ | ⟨rfl, h⟩
  · exact Or.inl ⟨rfl, fun j hj => by
      by_cases q : j = c
      · rw [q]; exact e
      · exact h j (by omega)⟩
  · exact Or.inr ⟨rfl, h⟩
theorem STt_n (hc : c < l) (e : ¬ rw (rd c) = rd c) : STt rw rd l (c + 1) (y * 0) := Or.inr ⟨rfl, c, hc, e⟩
theorem STt_y {g : Nat → Nat} (h : STt rw rd l c y) (hc : l ≤ c) (hy : ¬ y = 0) (hg : ∀ j, j < l → rw (rd j) = g (rd j)) : ∀ j, j < l → g (rd j) = rd j := by
  rcases h with ⟨_, h⟩ | ⟨e, _⟩
  · exact fun j hj => (hg j hj).symm.trans (h j (by omega))
  · exact absurd e hy
theorem STt_f {g : Nat → Nat} (h : STt rw rd l c y) (hy : y = 0) (hg : ∀ j, j < l → rw (rd j) = g (rd j)) : ¬ ∀ j, j < l → g (rd j) = rd j := fun q => by
  rcases h with ⟨e, _⟩ | ⟨_, j, hj, e⟩
  · omega
  · exact e ((hg j hj).trans (q j hj))
end STT
/-- a count, number by number -/
def CTt (bt : List Int32) (P : Nat → Prop) (y m : Nat) : Prop := y = ct (fun k => bitL bt k = true ∧ P k) m
section CTT
variable {bt : List Int32} {P : Nat → Prop} {y m : Nat}
theorem CTt_0 : CTt bt P 0 0 := rfl
theorem ct_s (Q : Nat → Prop) (m : Nat) : ct Q (m + 1) = ct Q m + on (Q m) := rfl
theorem CTt_f : ∀ m, bitL bt m = false → CTt bt P y m → CTt bt P y (m + 1) := fun m hb h => by
  unfold CTt at h ⊢
  rw [ct_s, on_f (fun q => by rw [hb] at q; exact absurd q.1 (by decide)), Nat.add_zero]
  exact h
theorem CTt_y (h : CTt bt P y m) (hb : bitL bt m = true) (hp : P m) : CTt bt P (y + 1) (m + 1) := by
  unfold CTt at h ⊢
  rw [ct_s, on_t (p := bitL bt m = true ∧ P m) ⟨hb, hp⟩, ← h]
theorem CTt_n (h : CTt bt P y m) (hp : ¬ P m) : CTt bt P (y + 0) (m + 1) := by
  unfold CTt at h ⊢
  rw [ct_s, on_f (fun q => hp q.2), ← h]
theorem CTt_le (h : CTt bt P y m) : y ≤ m := by
  unfold CTt at h
  rw [h]
  exact ct_le _ m
theorem CTt_end {n : Nat} {G Q : Nat → Prop} (hB : ∀ k, bitL bt k = true ↔ (k < fc n ∧ G (XM n k))) (hP : ∀ k, k < fc n → (P k ↔ Q (XM n k))) (h : CTt bt P y (fc n)) : y = cd n (fun x => G x ∧ Q x) := by
  unfold CTt at h
  rw [h]
  exact ct_iff (fun k hk => and_congr ⟨fun a => ((hB k).mp a).2, fun a => (hB k).mpr ⟨hk, a⟩⟩ (hP k hk))
end CTT
/-- a sum, number by number -/
def SMt (bt : List Int32) (g : Nat → Nat) (y m : Nat) : Prop := y = sm (fun k => if bitL bt k = true then g k else 0) m
section SMT
variable {bt : List Int32} {g : Nat → Nat} {y m : Nat}
theorem SMt_0 : SMt bt g 0 0 := rfl
theorem SMt_f : ∀ m, bitL bt m = false → SMt bt g y m → SMt bt g y (m + 1) := fun m hb h => by
  unfold SMt at h ⊢
  show y = sm _ m + (if bitL bt m = true then g m else 0)
  rw [if_neg (bf hb), Nat.add_zero]
  exact h
theorem SMt_s {x : Nat} (h : SMt bt g y m) (hb : bitL bt m = true) (hx : x = g m) : SMt bt g (y + x) (m + 1) := by
  unfold SMt at h ⊢
  show y + x = sm _ m + (if bitL bt m = true then g m else 0)
  rw [if_pos hb, hx, ← h]
end SMT
/-- the least of some numbers -/
def LMt (bt : List Int32) (g : Nat → Nat) (y0 y m : Nat) : Prop := (∀ k, k < m → bitL bt k = true → y ≤ g k) ∧ y ≤ y0 ∧ (y = y0 ∨ ∃ k, k < m ∧ bitL bt k = true ∧ y = g k)
section LMT
variable {bt : List Int32} {g : Nat → Nat} {y0 y m : Nat}
theorem LMt_0 : LMt bt g y0 y0 0 := ⟨fun k hk => absurd hk (Nat.not_lt_zero k), Nat.le_refl _, Or.inl rfl⟩
theorem LMt_f : ∀ m, bitL bt m = false → LMt bt g y0 y m → LMt bt g y0 y (m + 1) := fun m hb h => ⟨fun k hk hkb => by
  by_cases e : k = m
  · rw [e, hb] at hkb; exact absurd hkb (by decide)
  · exact h.1 k (by omega) hkb, h.2.1, h.2.2.imp id (fun ⟨k, h1, h2⟩ => ⟨k, by omega, h2⟩)⟩
theorem LMt_s {x : Nat} (h : LMt bt g y0 y m) (hb : bitL bt m = true) (hx : x = g m) : LMt bt g y0 (min y x) (m + 1) := by
  obtain ⟨h1, h2, h3⟩ := h
  refine ⟨fun k hk hkb => ?_, by omega, ?_⟩
  · by_cases e : k = m
    · rw [e, ← hx]; omega
    · have := h1 k (by omega) hkb; omega
  · by_cases q : y ≤ x
    · rw [Nat.min_eq_left q]
      exact h3.imp id (fun ⟨k, a, b⟩ => ⟨k, by omega, b⟩)
    · rw [Nat.min_eq_right (by omega)]
      exact Or.inr ⟨m, Nat.lt_succ_self m, hb, hx⟩
end LMT
/-! rank: how many go ahead -/
def LSr (n : Nat) (rd : Nat → Nat) (y x : Nat → Nat) : Prop := ∃ l, l < n ∧ (∀ j, j < l → y (rd j) = x (rd j)) ∧ y (rd l) < x (rd l)
section RANKS
variable {n : Nat}
theorem ct_or {P Q : Nat → Prop} {m : Nat} (h : ∀ i, i < m → P i → ¬ Q i) : ct (fun i => P i ∨ Q i) m = ct P m + ct Q m := by
  unfold ct
  rw [← sm_add]
  refine sm_congr m (fun i hi => ?_)
  by_cases a : P i
  · rw [on_t (p := P i ∨ Q i) (Or.inl a), on_t a, on_f (h i hi a)]
  · by_cases b : Q i
    · rw [on_t (p := P i ∨ Q i) (Or.inr b), on_f a, on_t b]
    · rw [on_f (fun q : P i ∨ Q i => q.elim a b), on_f a, on_f b]
theorem cd_or {P Q : Nat → Prop} (h : ∀ x, P x → ¬ Q x) : cd n (fun x => P x ∨ Q x) = cd n P + cd n Q := ct_or (fun _ _ => h _)
theorem cd_none (h1 : 1 ≤ n) (hn : n ≤ 7) {P : Nat → Prop} (h : ∀ x, Mv n x → ¬ P x) : cd n P = 0 := cd_0 h1 hn (fun x hx => h x hx)
/-- those that go elsewhere first at a level -/
def LSl (T : Nat → Prop) (rd : Nat → Nat) (x l y : Nat) : Prop := T y ∧ (∀ j, j < l → d8 y (rd j) = d8 x (rd j)) ∧ d8 y (rd l) < d8 x (rd l)
theorem LSl_sm (h1 : 1 ≤ n) (hn : n ≤ 7) (T : Nat → Prop) (rd : Nat → Nat) (x l : Nat) : ∀ g, cd n (fun y => T y ∧ (∀ j, j < l → d8 y (rd j) = d8 x (rd j)) ∧ d8 y (rd l) < g) = sm (WT n T rd x l) g
  | 0 => cd_none h1 hn (fun y _ q => absurd q.2.2 (Nat.not_lt_zero _))
  | g + 1 => by
    show _ = sm (WT n T rd x l) g + WT n T rd x l g
    rw [← LSl_sm h1 hn T rd x l g]
    unfold WT
    rw [← cd_or (fun y a b => by have := a.2.2; have := b.2.2; omega)]
    refine cd_iff h1 hn (fun y _ => ⟨fun a => ?_, fun a => ?_⟩)
    · by_cases e : d8 y (rd l) = g
      · exact Or.inr ⟨a.1, a.2.1, e⟩
      · exact Or.inl ⟨a.1, a.2.1, by have := a.2.2; omega⟩
    · rcases a with a | a
      · exact ⟨a.1, a.2.1, by have := a.2.2; omega⟩
      · exact ⟨a.1, a.2.1, by have := a.2.2; omega⟩
theorem rkS_is (h1 : 1 ≤ n) (hn : n ≤ 7) (T : Nat → Prop) (rd : Nat → Nat) (x : Nat) : ∀ c, rkS n T rd x c = cd n (fun y => T y ∧ ∃ l, l < c ∧ (∀ j, j < l → d8 y (rd j) = d8 x (rd j)) ∧ d8 y (rd l) < d8 x (rd l))
  | 0 => (cd_none h1 hn (fun y _ ⟨_, l, hl, _⟩ => absurd hl (Nat.not_lt_zero l))).symm
  | c + 1 => by
    show rkS n T rd x c + sm (WT n T rd x c) (d8 x (rd c)) = _
    rw [rkS_is h1 hn T rd x c, ← LSl_sm h1 hn T rd x c (d8 x (rd c)), ← cd_or (fun y ⟨_, l, hl, _, hlt⟩ ⟨_, b, _⟩ => by
      have := b l hl
      omega)]
    refine cd_iff h1 hn (fun y _ => ⟨fun a => ?_, fun ⟨t, l, hl, q⟩ => ?_⟩)
    · rcases a with ⟨t, l, hl, q⟩ | ⟨t, q⟩
      · exact ⟨t, l, by omega, q⟩
      · exact ⟨t, c, Nat.lt_succ_self c, q⟩
    · by_cases e : l = c
      · rw [e] at q; exact Or.inr ⟨t, q⟩
      · exact Or.inl ⟨t, l, by omega, q⟩
end RANKS
/-- a set's cells, one behind the other -/
def PTt (s : Nat) (P : Nat → Prop) (c y : Nat) : Prop := (y = 1 ∧ ∀ i, i < c → s.testBit i = true → P i) ∨ (y = 0 ∧ ∃ i, i < 6 ∧ s.testBit i = true ∧ ¬ P i)
section PTT
variable {s c y : Nat} {P : Nat → Prop}
theorem PTt_0 : PTt s P 0 1 := Or.inl ⟨rfl, fun i hi => absurd hi (Nat.not_lt_zero i)⟩
theorem PTt_4 (h : PTt s P c y) (hb : s.testBit c = false) : PTt s P (c + 1) y := h.imp (fun ⟨e, q⟩ => ⟨e, fun i hi hs => by
  by_cases w : i = c
  · rw [w, hb] at hs; exact absurd hs (by decide)
  · exact q i (by omega) hs⟩) id
theorem PTt_1 (h : PTt s P c y) (hp : P c) (hy : ¬ y = 0) : PTt s P (c + 1) 1 := by
  rcases h with ⟨_, q⟩ | ⟨e, _⟩
  · exact Or.inl ⟨rfl, fun i hi hs => by
      by_cases w : i = c
      · rw [w]; exact hp
      · exact q i (by omega) hs⟩
  · exact absurd e hy
theorem PTt_2 (hc : c < 6) (hb : s.testBit c = true) (hp : ¬ P c) : PTt s P (c + 1) 0 := Or.inr ⟨rfl, c, hc, hb, hp⟩
theorem PTt_3 (h : PTt s P c y) (hy : y = 0) : PTt s P (c + 1) 0 := by
  rcases h with ⟨e, _⟩ | ⟨_, q⟩
  · omega
  · exact Or.inr ⟨rfl, q⟩
theorem PTt_end (h : PTt s P c y) (hc : 6 ≤ c) : (y = 0 ∧ ¬ ∀ i, i < 6 → s.testBit i = true → P i) ∨ (y = 1 ∧ ∀ i, i < 6 → s.testBit i = true → P i) := by
  rcases h with ⟨e, q⟩ | ⟨e, i, hi, hs, hn⟩
  · exact Or.inr ⟨e, fun i hi hs => q i (by omega) hs⟩
  · exact Or.inl ⟨e, fun q => hn (q i hi hs)⟩
theorem PT_0 {Q : Prop} {k : Nat} (h : (k = 0 ∧ ¬ Q) ∨ (k = 1 ∧ Q)) (e : k = 0) : ¬ Q := by
  rcases h with h | h
  · exact h.2
  · omega
theorem PT_1 {Q : Prop} {k : Nat} (h : (k = 0 ∧ ¬ Q) ∨ (k = 1 ∧ Q)) (e : ¬ k = 0) : Q := by
  rcases h with h | h
  · exact absurd h.1 e
  · exact h.2
end PTT
section REFG
variable {n : Nat}
theorem in_bit {mv : Nat → Nat} {s a : Nat} {bt : List Int32} (h1 : 2 ≤ n) (hn : n ≤ 7) (hP : PM n mv) (hB : BX n mv s bt) (ha : a < 6) : bitL bt (nuF mv (a * 7) n n) = true ↔ Gg n (gS (mW n mv) s 6) (mW n mv a) := by
  rw [nu_mW hn hP ha]
  refine (hB _).trans ?_
  rw [XM_nu (by omega) hn (mW_Mv hn hP ha)]
  exact ⟨fun h => h.2, fun h => ⟨nu_b _ _, h⟩⟩
theorem sg_row {rw : Nat → Nat} {k : Nat} (h1 : 1 ≤ n) (hn : n ≤ 7) (hr : ∀ p, p < n → rw p = rwF n k p) : sg n (XM n k) = sgv (iv rw 0 n) :=
  congrArg sgv (iv_congr (f := rw) (fr := 0) (m := n) (fun p hp => by rw [Nat.zero_add, hr p hp, XM_d h1 hn hp]) n (Nat.le_refl n)).symm
theorem oC_row {rw : Nat → Nat} {k : Nat} (h1 : 1 ≤ n) (hn : n ≤ 7) (hr : ∀ p, p < n → rw p = rwF n k p) : oC (XM n k) = olc (lF (fun p => rw (0 + p)) n) n := by
  have hM := XM_Mv h1 hn k
  refine order_is hn hM (fun p hp => ?_)
  rw [lF_ln hn hM (f := fun p => rw (0 + p)) (fun q hq => by show rw (0 + q) = _; rw [Nat.zero_add, hr q hq, XM_d h1 hn hq]) hp]
  exact lF_Pd (ln_Pd (hM.P7 hn) (show p < 7 by omega))
theorem cd_5040 (hn : n ≤ 7) (P : Nat → Prop) : cd n P ≤ 5040 := Nat.le_trans (ct_le _ _) (fc_7 hn)
theorem LS_y {rd rw xc : Nat → Nat} {k c : Nat} (hc : c < n) (h : ∀ j, j < c → rw (rd j) = xc (rd j)) (hl : rw (rd c) < xc (rd c)) (hg : ∀ j, j < n → rw (rd j) = rwF n k (rd j)) : LSr n rd (rwF n k) xc :=
  ⟨c, hc, fun j hj => (hg j (by omega)).symm.trans (h j hj), by rw [← hg c hc]; exact hl⟩
theorem LS_n1 {rd rw xc : Nat → Nat} {k c : Nat} (hc : n ≤ c) (h : ∀ j, j < c → rw (rd j) = xc (rd j)) (hg : ∀ j, j < n → rw (rd j) = rwF n k (rd j)) : ¬ LSr n rd (rwF n k) xc := fun ⟨l, hl, _, q⟩ => by
  rw [← hg l hl, h l (by omega)] at q
  omega
theorem LS_n2 {rd rw xc : Nat → Nat} {k c : Nat} (hc : c < n) (h : ∀ j, j < c → rw (rd j) = xc (rd j)) (hne : ¬ rw (rd c) = xc (rd c)) (hge : xc (rd c) ≤ rw (rd c)) (hg : ∀ j, j < n → rw (rd j) = rwF n k (rd j)) : ¬ LSr n rd (rwF n k) xc := fun ⟨l, hl, ha, q⟩ => by
  rw [← hg l hl] at q
  by_cases e : l < c
  · rw [h l e] at q; omega
  · by_cases e2 : l = c
    · subst e2; omega
    · have := ha c (by omega)
      rw [← hg c hc] at this
      exact hne this
theorem LS_iff {rd xc : Nat → Nat} {k x : Nat} (h1 : 1 ≤ n) (hn : n ≤ 7) (hrd : ∀ j, j < n → rd j < n) (hx : ∀ p, p < n → xc p = d8 x p) : LSr n rd (rwF n k) xc ↔ LSr n rd (d8 (XM n k)) (d8 x) := by
  have e : ∀ j, j < n → rwF n k (rd j) = d8 (XM n k) (rd j) := fun j hj => (XM_d h1 hn (hrd j hj)).symm
  refine ⟨fun ⟨l, hl, a, b⟩ => ⟨l, hl, fun j hj => ?_, ?_⟩, fun ⟨l, hl, a, b⟩ => ⟨l, hl, fun j hj => ?_, ?_⟩⟩
  · rw [← e j (by omega), ← hx _ (hrd j (by omega))]; exact a j hj
  · rw [← e l hl, ← hx _ (hrd l hl)]; exact b
  · rw [e j (by omega), hx _ (hrd j (by omega))]; exact a j hj
  · rw [e l hl, hx _ (hrd l hl)]; exact b
end REFG
section LMTE
variable {n : Nat} {G : Nat → Prop} {bt : List Int32}
theorem LMt_end (h1 : 1 ≤ n) (hn : n ≤ 7) (hB : ∀ k, bitL bt k = true ↔ (k < fc n ∧ G (XM n k))) (he : G (eM n)) {y z : Nat} (hy : Mv n y) (h : LMt bt (fun k => nu n (cM n (XM n k) y)) (nu n y) z (fc n)) : z = lsN n G y := by
  obtain ⟨a1, a2, a3⟩ := h
  have hl : ∀ x, Mv n x → G x → z ≤ nu n (cM n x y) := fun x hx hg => by
    have e := XM_nu h1 hn hx
    have : z ≤ nu n (cM n (XM n (nu n x)) y) := a1 (nu n x) (nu_b n x) ((hB _).mpr ⟨nu_b n x, by rw [e]; exact hg⟩)
    rw [e] at this
    exact this
  rcases a3 with e | ⟨k, hk, hb, e⟩
  · rw [e]
    exact (lsN_is ⟨eM n, eM_Mv hn, he, eM_c hn hy⟩ (fun x hx hg => by rw [← e]; exact hl x hx hg)).symm
  · have e : z = nu n (cM n (XM n k) y) := e
    rw [e]
    exact (lsN_is ⟨XM n k, XM_Mv h1 hn k, ((hB k).mp hb).2, rfl⟩ (fun x hx hg => by rw [← e]; exact hl x hx hg)).symm
end LMTE
end
section
/-! things found, each once, and their marks -/
def FB (a b : Nat) (w w' : List jC) : Prop := w'.length = w.length ∧ ∀ i, ¬ (a ≤ i ∧ i ≤ b) → w'[i]? = w[i]?
theorem FB.rf {a b : Nat} {w : List jC} : FB a b w w := ⟨rfl, fun _ _ => rfl⟩
theorem FB.tr {a b : Nat} {w w' w'' : List jC} (h : FB a b w w') (h' : FB a b w' w'') : FB a b w w'' := ⟨h'.1.trans h.1, fun i hi => (h'.2 i hi).trans (h.2 i hi)⟩
theorem FB.st {a b c : Nat} {w w' w'' : List jC} (h : FB a b w w') (hl : w''.length = w'.length) (hne : ∀ i, i ≠ c → w''[i]? = w'[i]?) (hc : a ≤ c ∧ c ≤ b) : FB a b w w'' :=
  ⟨hl.trans h.1, fun i hi => (hne i (fun e => hi (by rw [e]; exact hc))).trans (h.2 i hi)⟩
theorem bit_eq32 (g : List Int32) {k : Nat} (hk : k < 2 ^ 31) : (g.getD (nI (k / 32)).toNatClampNeg 0 >>> (nI (k % 32) &&& 31)) &&& nI 1 = nI 1 ↔ bitL g k = true := bit_eq g hk
theorem bit_ne32 (g : List Int32) {k : Nat} (hk : k < 2 ^ 31) (h : ¬ ((g.getD (nI (k / 32)).toNatClampNeg 0 >>> (nI (k % 32) &&& 31)) &&& nI 1 = nI 1)) : bitL g k = false := by
  cases e : bitL g k
  · rfl
  · exact absurd ((bit_eq32 g hk).mpr e) h
/-- a bit set -/
def stL (g : List Int32) (k : Nat) : List Int32 := g.set (nI (k / 32)).toNatClampNeg (g.getD (nI (k / 32)).toNatClampNeg 0 ||| nI 1 <<< (nI (k % 32) &&& 31))
theorem stL_bit {g : List Int32} {k : Nat} (hk : k < 32 * g.length) (h31 : k < 2 ^ 31) (j : Nat) : bitL (stL g k) j = (bitL g j || decide (j = k)) := by
  unfold stL
  rw [nI_clamp (by omega), bitL_or (by omega) (Nat.mod_lt _ (by decide))]
  have e : 32 * (k / 32) + k % 32 = k := by omega
  rw [e]
/-- what letting in does -/
def AP (ml : List Int32) (tg : Nat → Nat) (mn x k : Nat) (ml' : List Int32) (tg' : Nat → Nat) (mn' : Nat) : Prop :=
  (bitL ml k = true ∧ ml' = ml ∧ tg' = tg ∧ mn' = mn) ∨ (bitL ml k = false ∧ ml' = stL ml k ∧ tg' = up tg mn x ∧ mn' = mn + 1)
theorem sm_y {P : Nat → Prop} [∀ i, Decidable (P i)] {c : Nat} (h : P c) : sm (fun i => if P i then 1 else 0) c + 1 = sm (fun i => if P i then 1 else 0) (c + 1) := by
  show _ = sm (fun i => if P i then 1 else 0) c + (if P c then 1 else 0)
  rw [if_pos h]
theorem sm_z {P : Nat → Prop} [∀ i, Decidable (P i)] {c : Nat} (h : ¬ P c) : sm (fun i => if P i then 1 else 0) c = sm (fun i => if P i then 1 else 0) (c + 1) := by
  show _ = sm (fun i => if P i then 1 else 0) c + (if P c then 1 else 0)
  rw [if_neg h, Nat.add_zero]
theorem sm_bd {f : Nat → Nat} {B : Nat} : ∀ k, (∀ i, i < k → f i ≤ B) → sm f k ≤ k * B
  | 0, _ => Nat.zero_le _
  | k + 1, h => by
    show sm f k + f k ≤ (k + 1) * B
    have h1 := sm_bd k (fun i hi => h i (by omega))
    have h2 := h k (Nat.lt_succ_self k)
    rw [Nat.succ_mul]
    omega
theorem sm_1s : ∀ k, sm (fun _ => 1) k = k
  | 0 => rfl
  | k + 1 => by
    show sm (fun _ => 1) k + 1 = k + 1
    rw [sm_1s k]
/-- the numbers with one more -/
theorem sm_bit {B : Nat → Bool} {g : Nat → Nat} {k : Nat} (hb : B k = false) : ∀ N, sm (fun j => if (B j || decide (j = k)) = true then g j else 0) N = sm (fun j => if B j = true then g j else 0) N + (if k < N then g k else 0)
  | 0 => rfl
  | N + 1 => by
    show sm (fun j => if (B j || decide (j = k)) = true then g j else 0) N + (if (B N || decide (N = k)) = true then g N else 0) = (sm (fun j => if B j = true then g j else 0) N + (if B N = true then g N else 0)) + (if k < N + 1 then g k else 0)
    rw [sm_bit hb N]
    by_cases e : N = k
    · subst e
      have e1 : (false || decide (N = N)) = true := by simp
      rw [hb, e1, if_neg (Nat.lt_irrefl N), if_pos rfl, if_neg (by decide : ¬ false = true), if_pos (Nat.lt_succ_self N)]
    · have e1 : (B N || decide (N = k)) = B N := by simp [e]
      rw [e1]
      by_cases q : k < N
      · rw [if_pos q, if_pos (show k < N + 1 by omega)]
        omega
      · rw [if_neg q, if_neg (show ¬ k < N + 1 by omega)]
        omega
section FIS
variable {n : Nat}
/-- the walk's cells hold moves, each once, by their numbers -/
def FI (n : Nat) (ml : List Int32) (tg : Nat → Nat) (mn : Nat) : Prop :=
  (∀ i, i < mn → Mv n (tg i) ∧ bitL ml (nu n (tg i)) = true) ∧ (∀ k, bitL ml k = true → k < fc n ∧ ∃ i, i < mn ∧ tg i = XM n k) ∧ ∀ g : Nat → Nat, sm (fun i => g (tg i)) mn = sm (fun k => if bitL ml k = true then g (XM n k) else 0) (fc n)
theorem FI_mn {ml : List Int32} {tg : Nat → Nat} {mn : Nat} (h : FI n ml tg mn) : mn = cnt (fun k => bitL ml k) (fc n) := by
  have h1 := h.2.2 (fun _ => 1)
  have e : sm (fun i => (fun _ => 1 : Nat → Nat) (tg i)) mn = mn := sm_1s mn
  rw [e] at h1
  rw [h1]
  have q : ∀ N, sm (fun k => if bitL ml k = true then (fun _ => 1 : Nat → Nat) (XM n k) else 0) N = cnt (fun k => bitL ml k) N := by
    intro N
    induction N with
    | zero => rfl
    | succ N ih =>
      show sm _ N + (if bitL ml N = true then 1 else 0) = cnt (fun k => bitL ml k) N + (if bitL ml N = true then 1 else 0)
      rw [ih]
  exact q _
theorem FI_le {ml : List Int32} {tg : Nat → Nat} {mn : Nat} (h : FI n ml tg mn) : mn ≤ fc n := by
  rw [FI_mn h]
  exact cnt_le _ _
theorem FI_room (hn : n ≤ 7) {ml : List Int32} {tg : Nat → Nat} {mn k : Nat} (h : FI n ml tg mn) (hk : k < fc n) : mn < 5040 ∨ bitL ml k = true := by
  cases e : bitL ml k
  · refine Or.inl (Nat.lt_of_lt_of_le ?_ (fc_7 hn))
    rw [FI_mn h]
    have h1 : ∀ N, k < N → cnt (fun k => bitL ml k) N < N := by
      intro N
      induction N with
      | zero => intro hN; omega
      | succ N ih =>
        intro hN
        show cnt (fun k => bitL ml k) N + (if bitL ml N = true then 1 else 0) < N + 1
        by_cases q : k = N
        · subst q
          rw [e, if_neg (by decide)]
          have := cnt_le (fun k => bitL ml k) k
          omega
        · have := ih (by omega)
          split <;> omega
    exact h1 _ hk
  · exact Or.inr rfl
theorem FI_0 {tg : Nat → Nat} {N : Nat} : FI n (List.replicate N 0) tg 0 := by
  refine ⟨fun i hi => absurd hi (Nat.not_lt_zero i), fun k hk => ?_, fun g => ?_⟩
  · rw [bitL_0] at hk
    exact absurd hk (by decide)
  · show 0 = _
    rw [sm_congr (g := fun _ => 0) (fc n) (fun k _ => by rw [bitL_0]; rfl), sm_0]
theorem FI_add (h1 : 1 ≤ n) (hn : n ≤ 7) {ml ml' : List Int32} {tg tg' : Nat → Nat} {mn mn' x k : Nat} (hl : ml.length = 158) (h : FI n ml tg mn) (hx : Mv n x) (hk : k = nu n x) (ha : AP ml tg mn x k ml' tg' mn') : FI n ml' tg' mn' ∧ (∀ j, bitL ml' j = true ↔ (bitL ml j = true ∨ j = k)) ∧ (∀ i, i < mn → tg' i = tg i) ∧ mn ≤ mn' := by
  rcases ha with ⟨hb, rfl, rfl, rfl⟩ | ⟨hb, rfl, rfl, rfl⟩
  · exact ⟨h, fun j => ⟨Or.inl, fun q => q.elim id (fun e => by rw [e]; exact hb)⟩, fun _ _ => rfl, Nat.le_refl _⟩
  · have hkf : k < fc n := by rw [hk]; exact nu_b n x
    have hf7 := fc_7 hn
    have hs : ∀ j, bitL (stL ml k) j = (bitL ml j || decide (j = k)) := stL_bit (by omega) (by omega)
    have ho : ∀ i, i < mn → up tg mn x i = tg i := fun i hi => up_n (by omega)
    have hX : XM n k = x := by rw [hk]; exact XM_nu h1 hn hx
    refine ⟨⟨fun i hi => ?_, fun j hj => ?_, fun g => ?_⟩, fun j => by rw [hs, Bool.or_eq_true, decide_eq_true_eq], ho, by omega⟩
    · by_cases e : i = mn
      · rw [e, up_s]
        exact ⟨hx, by rw [hs, ← hk]; simp⟩
      · rw [ho i (by omega)]
        obtain ⟨a, b⟩ := h.1 i (by omega)
        exact ⟨a, by rw [hs, b]; rfl⟩
    · rw [hs, Bool.or_eq_true, decide_eq_true_eq] at hj
      rcases hj with hj | hj
      · obtain ⟨a, i, hi, e⟩ := h.2.1 j hj
        exact ⟨a, i, by omega, by rw [ho i hi]; exact e⟩
      · rw [hj]
        exact ⟨hkf, mn, by omega, by rw [up_s, hX]⟩
    · show sm (fun i => g (up tg mn x i)) mn + g (up tg mn x mn) = _
      rw [up_s, sm_congr mn (fun i hi => congrArg g (ho i hi)), h.2.2 g, sm_congr (f := fun j => if bitL (stL ml k) j = true then g (XM n j) else 0) (g := fun j => if (bitL ml j || decide (j = k)) = true then g (XM n j) else 0) (fc n) (fun j _ => by rw [hs]), sm_bit (B := fun j => bitL ml j) (g := fun j => g (XM n j)) hb (fc n), if_pos hkf, hX]
/-- bits that are a set's group -/
def WX (n : Nat) (cm : Nat → Nat) (s : Nat) (ml : List Int32) : Prop := ∀ k, bitL ml k = true ↔ (k < fc n ∧ Gg n (gS cm s 6) (XM n k))
/-- made of the first things -/
def SC (n : Nat) (cm : Nat → Nat) (s : Nat) (ml : List Int32) (tg : Nat → Nat) (m : Nat) : Prop := ∀ i, i < m → ∀ c, c < 6 → s.testBit c = true → bitL ml (nu n (cM n (tg i) (cm c))) = true
def SD (n : Nat) (cm : Nat → Nat) (s : Nat) (ml : List Int32) (x m : Nat) : Prop := ∀ c, c < m → s.testBit c = true → bitL ml (nu n (cM n x (cm c))) = true
def SG (n : Nat) (cm : Nat → Nat) (s : Nat) (ml ml' : List Int32) : Prop := (∀ k, bitL ml k = true → bitL ml' k = true) ∧ ∀ H : Nat → Prop, (∀ a c, Mv n a → c < 6 → s.testBit c = true → H a → H (cM n a (cm c))) → (∀ k, bitL ml k = true → H (XM n k)) → ∀ k, bitL ml' k = true → H (XM n k)
theorem SG_0 {cm : Nat → Nat} {s : Nat} {ml : List Int32} : SG n cm s ml ml := ⟨fun _ h => h, fun _ _ h => h⟩
theorem SC_0 {cm : Nat → Nat} {s : Nat} {ml : List Int32} {tg : Nat → Nat} : SC n cm s ml tg 0 := fun i hi => absurd hi (Nat.not_lt_zero i)
theorem SD_0 {cm : Nat → Nat} {s x : Nat} {ml : List Int32} : SD n cm s ml x 0 := fun i hi => absurd hi (Nat.not_lt_zero i)
theorem SC_s {cm : Nat → Nat} {s m c : Nat} {ml : List Int32} {tg : Nat → Nat} (h : SC n cm s ml tg m) (h2 : SD n cm s ml (tg m) c) (hc : 6 ≤ c) : SC n cm s ml tg (m + 1) := fun i hi c hc6 hs => by
  by_cases e : i = m
  · rw [e]; exact h2 c (by omega) hs
  · exact h i (by omega) c hc6 hs
theorem SD_n {cm : Nat → Nat} {s x c : Nat} {ml : List Int32} (h : SD n cm s ml x c) (hb : s.testBit c = false) : SD n cm s ml x (c + 1) := fun j hj hs => by
  by_cases e : j = c
  · rw [e, hb] at hs; exact absurd hs (by decide)
  · exact h j (by omega) hs
section STP
variable {cm : Nat → Nat} {s c i x k mn mn' : Nat} {ml ml' : List Int32} {tg tg' : Nat → Nat}
theorem SC_k (h : SC n cm s ml tg i) (hi : i ≤ mn) (hg : (∀ j, bitL ml' j = true ↔ (bitL ml j = true ∨ j = k)) ∧ (∀ i, i < mn → tg' i = tg i) ∧ mn ≤ mn') : SC n cm s ml' tg' i := fun j hj c hc hs => by
  rw [hg.2.1 j (by omega)]
  exact (hg.1 _).mpr (Or.inl (h j hj c hc hs))
theorem SD_k (h : SD n cm s ml (tg i) c) (hi : i < mn) (hg : (∀ j, bitL ml' j = true ↔ (bitL ml j = true ∨ j = k)) ∧ (∀ i, i < mn → tg' i = tg i) ∧ mn ≤ mn') (hk : k = nu n (cM n (tg i) (cm c))) : SD n cm s ml' (tg' i) (c + 1) := fun j hj hs => by
  rw [hg.2.1 i hi, hg.1]
  by_cases e : j = c
  · rw [e]; exact Or.inr hk.symm
  · exact Or.inl (h j (by omega) hs)
theorem SG_k (h1 : 1 ≤ n) (hn : n ≤ 7) {ml0 : List Int32} (h : SG n cm s ml0 ml) (hF : FI n ml tg mn) (hi : i < mn) (hg : ∀ j, bitL ml' j = true ↔ (bitL ml j = true ∨ j = k)) (hk : k = nu n (cM n (tg i) (cm c))) (hc : c < 6) (hs : s.testBit c = true) (hM : ∀ c, c < 6 → Mv n (cm c)) : SG n cm s ml0 ml' :=
  ⟨fun j hj => (hg j).mpr (Or.inl (h.1 j hj)), fun H q1 q2 j hj => by
    rcases (hg j).mp hj with hj | hj
    · exact h.2 H q1 q2 j hj
    · obtain ⟨a, b⟩ := hF.1 i hi
      have h3 := h.2 H q1 q2 _ b
      rw [XM_nu h1 hn a] at h3
      rw [hj, hk, XM_nu h1 hn (cM_Mv hn a (hM c hc))]
      exact q1 _ c a hc hs h3⟩
end STP
theorem nu_c7 (hn : n ≤ 7) {x y : Nat} (hx : Mv n x) (hy : Mv n y) : nuF (d8 (c7 x y)) 0 n n = nu n (cM n x y) := by rw [c7_M hn hx hy]; rfl
theorem nu_e (h1 : 2 ≤ n) (hn : n ≤ 7) : nu n (eM n) = 0 := by
  rw [← XM_0 h1 hn]
  exact nu_XM (by omega) hn (fc_pos n)
section WXS
variable {cm : Nat → Nat} {e s c : Nat} {ml ml' : List Int32}
theorem WX_0 (h1 : 2 ≤ n) (hn : n ≤ 7) {N k : Nat} (hk : k = nu n (eM n)) (hg : ∀ j, bitL ml j = true ↔ (bitL (List.replicate N 0) j = true ∨ j = k)) : WX n cm 0 ml := fun j => by
  rw [hg j, bitL_0]
  rw [nu_e h1 hn] at hk
  constructor
  · rintro (q | q)
    · exact absurd q (by decide)
    · rw [q, hk, XM_0 h1 hn]
      exact ⟨fc_pos n, Gg_e⟩
  · rintro ⟨hj, hG⟩
    have e1 : XM n j = eM n := hG (fun z => z = eM n) rfl (fun a b _ _ hb => by
      obtain ⟨i, _, j2, _⟩ := hb
      rw [Nat.zero_testBit] at j2
      exact absurd j2 (by decide))
    refine Or.inr ?_
    rw [← nu_XM (n := n) (by omega) hn hj, e1, nu_e h1 hn, hk]
theorem gS_or : ∀ y, gS cm e 6 y → gS cm (e ||| 2 ^ c) 6 y := fun _ h => by
  obtain ⟨j, h1, h2, h3⟩ := h
  exact ⟨j, h1, by rw [set_bit, h2, Bool.true_or], h3⟩
theorem WE_s (h : ∀ j, e.testBit j = true → s.testBit j = true) (hb : s.testBit c = true) : ∀ j, (e ||| 2 ^ c).testBit j = true → s.testBit j = true := fun j hj => by
  rw [set_bit, Bool.or_eq_true, decide_eq_true_eq] at hj
  rcases hj with hj | hj
  · exact h j hj
  · rw [← hj]; exact hb
theorem WT_s (hn : n ≤ 7) (hM : ∀ c, c < 6 → Mv n (cm c)) (hc : c < 6) (h : ∀ j, j < c → s.testBit j = true → Gg n (gS cm e 6) (cm j)) : ∀ j, j < c + 1 → s.testBit j = true → Gg n (gS cm (e ||| 2 ^ c) 6) (cm j) := fun j hj hs => by
  by_cases q : j = c
  · rw [q]
    exact Gg_of hn (gS_M (Nat.le_refl 6) hM) ⟨c, hc, by rw [set_bit, decide_eq_true rfl, Bool.or_true], rfl⟩
  · exact Gg_mono gS_or (h j (by omega) hs)
theorem WT_k (h1 : 1 ≤ n) (hn : n ≤ 7) (hM : ∀ c, c < 6 → Mv n (cm c)) (hc : c < 6) (hB : WX n cm e ml) (h : ∀ j, j < c → s.testBit j = true → Gg n (gS cm e 6) (cm j)) (hb : bitL ml (nuF (d8 (cm c)) 0 n n) = true) : ∀ j, j < c + 1 → s.testBit j = true → Gg n (gS cm e 6) (cm j) := fun j hj hs => by
  by_cases q : j = c
  · have h2 := ((hB _).mp hb).2
    have e1 : XM n (nuF (d8 (cm c)) 0 n n) = cm c := XM_nu h1 hn (hM c hc)
    rw [e1] at h2
    rw [q]
    exact h2
  · exact h j (by omega) hs
theorem WT_n (h : ∀ j, j < c → s.testBit j = true → Gg n (gS cm e 6) (cm j)) (hb : s.testBit c = false) : ∀ j, j < c + 1 → s.testBit j = true → Gg n (gS cm e 6) (cm j) := fun j hj hs => by
  by_cases q : j = c
  · rw [q, hb] at hs
    exact absurd hs (by decide)
  · exact h j (by omega) hs
theorem WX_end (hn : n ≤ 7) (hM : ∀ c, c < 6 → Mv n (cm c)) (hc : 6 ≤ c) (hB : WX n cm e ml) (he : ∀ j, e.testBit j = true → s.testBit j = true) (h : ∀ j, j < c → s.testBit j = true → Gg n (gS cm e 6) (cm j)) : WX n cm s ml := fun k => by
  rw [hB k]
  refine and_congr_right (fun _ => ⟨fun hG => Gg_mono (fun y ⟨j, h1, h2, h3⟩ => ⟨j, h1, he j h2, h3⟩) hG, fun hG => ?_⟩)
  refine (hG (fun z => Mv n z ∧ Gg n (gS cm e 6) z) ⟨eM_Mv hn, Gg_e⟩ (fun a b ha hz hb => ?_)).2
  obtain ⟨j, j1, j2, j3⟩ := hb
  rw [j3]
  exact ⟨cM_Mv hn ha (hM j j1), Gg_mul hn (gS_M (Nat.le_refl 6) hM) hz.2 (h j (by omega) j2)⟩
theorem WX_sp (h1 : 2 ≤ n) (hn : n ≤ 7) (hM : ∀ c, c < 6 → Mv n (cm c)) {tg : Nat → Nat} {mn : Nat} (hB : WX n cm e ml) (hF : FI n ml' tg mn) (hC : SC n cm (e ||| 2 ^ c) ml' tg mn) (hG : SG n cm (e ||| 2 ^ c) ml ml') : WX n cm (e ||| 2 ^ c) ml' := fun k => by
  refine ⟨fun hk => ⟨(hF.2.1 k hk).1, ?_⟩, fun ⟨hk, q⟩ => ?_⟩
  · exact hG.2 (Gg n (gS cm (e ||| 2 ^ c) 6)) (fun a j ha hj hs hH => Gg_s ha hH ⟨j, hj, hs, rfl⟩) (fun j hj => Gg_mono gS_or ((hB j).mp hj).2) k hk
  · have h0 : bitL ml' (nu n (eM n)) = true := hG.1 _ ((hB _).mpr ⟨nu_b n _, by rw [XM_nu (by omega) hn (eM_Mv hn)]; exact Gg_e⟩)
    have hb := (q (fun z => Mv n z ∧ bitL ml' (nu n z) = true) ⟨eM_Mv hn, h0⟩ (fun a b ha hz hb => by
      obtain ⟨j, j1, j2, j3⟩ := hb
      rw [j3]
      refine ⟨cM_Mv hn ha (hM j j1), ?_⟩
      obtain ⟨_, i, hi, e1⟩ := hF.2.1 _ hz.2
      rw [XM_nu (by omega) hn ha] at e1
      have h3 := hC i hi j j1 j2
      rw [e1] at h3
      exact h3)).2
    rw [nu_XM (by omega) hn hk] at hb
    exact hb
/-- what a group's things are -/
theorem FI_sm (hB : WX n cm s ml) {tg : Nat → Nat} {mn : Nat} (hF : FI n ml tg mn) {P : Nat → Prop} [∀ x, Decidable (P x)] : sm (fun i => if P (tg i) then 1 else 0) mn = cd n (fun x => Gg n (gS cm s 6) x ∧ P x) := by
  rw [hF.2.2 (fun x => if P x then 1 else 0)]
  refine sm_congr (fc n) (fun k hk => ?_)
  by_cases q : bitL ml k = true
  · rw [if_pos q]
    have g := ((hB k).mp q).2
    by_cases p : P (XM n k)
    · rw [if_pos p, on_t (p := Gg n (gS cm s 6) (XM n k) ∧ P (XM n k)) ⟨g, p⟩]
    · rw [if_neg p, on_f (fun a : Gg n (gS cm s 6) (XM n k) ∧ P (XM n k) => p a.2)]
  · rw [if_neg q, on_f (fun a : Gg n (gS cm s 6) (XM n k) ∧ P (XM n k) => q ((hB k).mpr ⟨hk, a.1⟩))]
theorem FI_in (h1 : 1 ≤ n) (hn : n ≤ 7) (hB : WX n cm s ml) {tg : Nat → Nat} {mn x : Nat} (hF : FI n ml tg mn) (hx : Mv n x) : (∃ i, i < mn ∧ tg i = x) ↔ Gg n (gS cm s 6) x := by
  constructor
  · rintro ⟨i, hi, rfl⟩
    have h2 := ((hB _).mp (hF.1 i hi).2).2
    rw [XM_nu h1 hn hx] at h2
    exact h2
  · intro hG
    obtain ⟨_, i, hi, e⟩ := hF.2.1 (nu n x) ((hB _).mpr ⟨nu_b n x, by rw [XM_nu h1 hn hx]; exact hG⟩)
    exact ⟨i, hi, by rw [e, XM_nu h1 hn hx]⟩
end WXS
end FIS
end
section
/-! parts of the points, told by masks -/
def PT (po : Nat → Nat) : Prop := (∀ p, p < 8 → po p < 2 ^ 8) ∧ (∀ p, p < 8 → (po p).testBit p = true) ∧ ∀ p q, p < 8 → q < 8 → (po p).testBit q = true → po q = po p
def EqR (R : Nat → Nat → Prop) : Prop := (∀ p, R p p) ∧ (∀ p q, R p q → R q p) ∧ ∀ p q r, R p q → R q r → R p r
def PU (R : Nat → Nat → Prop) (po : Nat → Nat) : Prop := ∀ p q, p < 8 → q < 8 → (po p).testBit q = true → R p q
/-- two parts joined -/
def JF (po : Nat → Nat) (a b p : Nat) : Nat := if (po a ||| po b).testBit p = true then po a ||| po b else po p
def JP (po : Nat → Nat) (a b : Nat) (po' : Nat → Nat) : Prop := ((po a).testBit b = true ∧ po' = po) ∨ ((po a).testBit b = false ∧ ∀ p, p < 8 → po' p = JF po a b p)
section PTS
variable {po po' : Nat → Nat} {a b : Nat}
theorem or_bit (x y q : Nat) : (x ||| y).testBit q = true ↔ (x.testBit q = true ∨ y.testBit q = true) := by rw [Nat.testBit_or, Bool.or_eq_true]
theorem PT.sy (h : PT po) {p q : Nat} (hp : p < 8) (hq : q < 8) (e : (po p).testBit q = true) : (po q).testBit p = true := by
  rw [h.2.2 p q hp hq e]
  exact h.2.1 p hp
theorem PT.b8 (h : PT po) {p q : Nat} (hp : p < 8) (e : (po p).testBit q = true) : q < 8 := by
  by_cases c : q < 8
  · exact c
  · have := Nat.lt_of_lt_of_le (h.1 p hp) (Nat.pow_le_pow_right (by decide : 0 < 2) (by omega : 8 ≤ q))
    rw [Nat.testBit_lt_two_pow this] at e
    exact absurd e (by decide)
theorem PTi_0 (h : ∀ p, p < 8 → po p = 2 ^ p) : PT po := by
  refine ⟨fun p hp => ?_, fun p hp => ?_, fun p q hp hq e => ?_⟩
  · rw [h p hp]; exact Nat.pow_lt_pow_right (by decide) hp
  · rw [h p hp, Nat.testBit_two_pow]; simp
  · rw [h p hp, Nat.testBit_two_pow, decide_eq_true_eq] at e
    rw [e]
theorem PTi_e (h : ∀ p, p < 8 → po p = 2 ^ p) {p q : Nat} (hp : p < 8) (e : (po p).testBit q = true) : p = q := by
  rw [h p hp, Nat.testBit_two_pow, decide_eq_true_eq] at e
  exact e
theorem PTi_j (h : PT po) (ha : a < 8) (hb : b < 8) (hj : JP po a b po') : PT po' ∧ (∀ p q, p < 8 → q < 8 → (po p).testBit q = true → (po' p).testBit q = true) ∧ (po' a).testBit b = true ∧ ∀ R, EqR R → PU R po → R a b → PU R po' := by
  rcases hj with ⟨e, rfl⟩ | ⟨e, hf⟩
  · exact ⟨h, fun _ _ _ _ q => q, e, fun _ _ q _ => q⟩
  · have hJ : ∀ q, (po a ||| po b).testBit q = true ↔ ((po a).testBit q = true ∨ (po b).testBit q = true) := or_bit _ _
    have hin : ∀ p, p < 8 → (po a ||| po b).testBit p = true → po' p = po a ||| po b := fun p hp q => by rw [hf p hp]; exact if_pos q
    have hout : ∀ p, p < 8 → ¬ (po a ||| po b).testBit p = true → po' p = po p := fun p hp q => by rw [hf p hp]; exact if_neg q
    -- a point outside of both parts has a part that meets neither
    have hsep : ∀ p q, p < 8 → q < 8 → (po p).testBit q = true → ((po a ||| po b).testBit p = true ↔ (po a ||| po b).testBit q = true) := fun p q hp hq hpq => by
      have e1 := h.2.2 p q hp hq hpq
      rw [hJ, hJ]
      have key : ∀ c, c < 8 → ((po c).testBit p = true ↔ (po c).testBit q = true) := fun c hc => by
        constructor
        · intro g
          rw [← h.2.2 c p hc hp g]
          exact hpq
        · intro g
          have g1 := h.2.2 c q hc hq g
          rw [← g1, e1]
          exact h.2.1 p hp
      rw [key a ha, key b hb]
    refine ⟨⟨fun p hp => ?_, fun p hp => ?_, fun p q hp hq hpq => ?_⟩, fun p q hp hq hpq => ?_, ?_, fun R hR hU hab p q hp hq hpq => ?_⟩
    · by_cases c : (po a ||| po b).testBit p = true
      · rw [hin p hp c]; exact Nat.or_lt_two_pow (h.1 a ha) (h.1 b hb)
      · rw [hout p hp c]; exact h.1 p hp
    · by_cases c : (po a ||| po b).testBit p = true
      · rw [hin p hp c]; exact c
      · rw [hout p hp c]; exact h.2.1 p hp
    · by_cases c : (po a ||| po b).testBit p = true
      · rw [hin p hp c] at hpq ⊢
        exact hin q hq hpq
      · rw [hout p hp c] at hpq ⊢
        rw [hout q hq (fun g => c ((hsep p q hp hq hpq).mpr g))]
        exact h.2.2 p q hp hq hpq
    · by_cases c : (po a ||| po b).testBit p = true
      · rw [hin p hp c]; exact (hsep p q hp hq hpq).mp c
      · rw [hout p hp c]; exact hpq
    · rw [hin a ha ((hJ a).mpr (Or.inl (h.2.1 a ha)))]
      exact (hJ b).mpr (Or.inr (h.2.1 b hb))
    · by_cases c : (po a ||| po b).testBit p = true
      · rw [hin p hp c] at hpq
        have to_a : ∀ x, x < 8 → (po a ||| po b).testBit x = true → R a x := fun x hx g => by
          rcases (hJ x).mp g with g | g
          · exact hU a x ha hx g
          · exact hR.2.2 _ _ _ hab (hU b x hb hx g)
        exact hR.2.2 _ _ _ (hR.2.1 _ _ (to_a p hp c)) (to_a q hq hpq)
      · rw [hout p hp c] at hpq
        exact hU p q hp hq hpq
/-- how many parts: their least points -/
def LPo (po : Nat → Nat) (p : Nat) : Bool := cnt (fun i => (po p).testBit i) p == 0
def NC (po : Nat → Nat) (n : Nat) : Nat := cnt (LPo po) n
theorem cnt_z {P : Nat → Bool} : ∀ k, cnt P k = 0 → ∀ i, i < k → P i = false
  | 0, _, i, hi => absurd hi (Nat.not_lt_zero i)
  | k + 1, h, i, hi => by
    have h' : cnt P k + (if P k = true then 1 else 0) = 0 := h
    by_cases e : i = k
    · rw [e]
      cases q : P k
      · rfl
      · rw [q, if_pos rfl] at h'; omega
    · exact cnt_z k (by omega) i (by omega)
theorem LPo_iff {p : Nat} : LPo po p = true ↔ ∀ q, q < p → ¬ (po p).testBit q = true := by
  unfold LPo
  rw [beq_iff_eq]
  refine ⟨fun h q hq e => ?_, fun h => cnt_0 p (fun i hi => bt_f (h i hi))⟩
  rw [cnt_z p h q hq] at e
  exact absurd e (by decide)
/-- each part has a least point -/
theorem LPo_ex (h : PT po) : ∀ k p, p ≤ k → p < 8 → ∃ m, m ≤ p ∧ (po p).testBit m = true ∧ LPo po m = true
  | 0, p, hk, hp => ⟨p, Nat.le_refl p, h.2.1 p hp, LPo_iff.mpr (fun q hq => by omega)⟩
  | k + 1, p, hk, hp => by
    by_cases c : ∃ q, q < p ∧ (po p).testBit q = true
    · obtain ⟨q, hq, e⟩ := c
      obtain ⟨m, h1, h2, h3⟩ := LPo_ex h k q (by omega) (by omega)
      rw [h.2.2 p q hp (by omega) e] at h2
      exact ⟨m, by omega, h2, h3⟩
    · exact ⟨p, Nat.le_refl p, h.2.1 p hp, LPo_iff.mpr (fun q hq e => c ⟨q, hq, e⟩)⟩
theorem NC_j {n : Nat} (hn : n ≤ 8) (h : PT po) (ha : a < n) (hb : b < n) (hj : JP po a b po') (hne : (po a).testBit b = false) : NC po' n < NC po n := by
  obtain ⟨h', hm, hab, _⟩ := PTi_j h (by omega) (by omega) hj
  obtain ⟨m1, l1, t1, q1⟩ := LPo_ex h a a (Nat.le_refl a) (by omega)
  obtain ⟨m2, l2, t2, q2⟩ := LPo_ex h b b (Nat.le_refl b) (by omega)
  have hmm : m1 ≠ m2 := fun e => by
    subst e
    have e1 := h.2.2 a m1 (by omega) (by omega) t1
    have e2 := h.2.2 b m1 (by omega) (by omega) t2
    rw [← e1, e2, h.2.1 b (by omega)] at hne
    exact absurd hne (by decide)
  have s1 : (po' a).testBit m1 = true := hm a m1 (by omega) (by omega) t1
  have s2 : (po' a).testBit m2 = true := by rw [← h'.2.2 a b (by omega) (by omega) hab]; exact hm b m2 (by omega) (by omega) t2
  have e1 := h'.2.2 a m1 (by omega) (by omega) s1
  have e2 := h'.2.2 a m2 (by omega) (by omega) s2
  have hsub : ∀ i, i < n → LPo po' i = true → LPo po i = true := fun i hi g => LPo_iff.mpr (fun q hq e => LPo_iff.mp g q hq (hm i q (by omega) (by omega) e))
  by_cases c : m1 < m2
  · refine cnt_lt n hsub m2 (by omega) q2 (bt_f (fun g => LPo_iff.mp g m1 c ?_))
    rw [e2]; exact s1
  · refine cnt_lt n hsub m1 (by omega) q1 (bt_f (fun g => LPo_iff.mp g m2 (by omega) ?_))
    rw [e1]; exact s2
theorem NC_0 {n : Nat} (hn : n ≤ 8) (h : ∀ p, p < 8 → po p = 2 ^ p) : NC po n ≤ n := cnt_le _ n
theorem NC_1 {n : Nat} (h1 : 1 ≤ n) (hn : n ≤ 8) (h : PT po) : 1 ≤ NC po n := by
  have hz : LPo po 0 = true := LPo_iff.mpr (fun q hq => absurd hq (Nat.not_lt_zero q))
  have : cnt (fun _ => false) n < NC po n := cnt_lt n (fun i _ g => absurd g (by decide)) 0 (by omega) hz rfl
  omega
/-- nothing to be joined by a move -/
def JMv (n : Nat) (po : Nat → Nat) (x : Nat) : Prop := ∀ p q, p < n → q < p → (po p).testBit q = true → (po (d8 x p)).testBit (d8 x q) = true
/-- joining what a move brings apart: so far -/
def CC (po0 : Nat → Nat) (x c d : Nat) : Prop := (∀ p q, p < c → q < p → (po0 p).testBit q = true → (po0 (d8 x p)).testBit (d8 x q) = true) ∧ ∀ q, q < d → (po0 c).testBit q = true → (po0 (d8 x c)).testBit (d8 x q) = true
def JS (n : Nat) (po0 po : Nat → Nat) (x c d y : Nat) : Prop := (y = 0 ∧ po = po0 ∧ CC po0 x c d) ∨ (y = 1 ∧ ¬ JMv n po0 x ∧ NC po n < NC po0 n)
section JSS
variable {n x c d y : Nat} {po0 : Nat → Nat}
theorem JS_0 : JS n po0 po0 x 0 0 0 := Or.inl ⟨rfl, rfl, fun p q hp => absurd hp (Nat.not_lt_zero p), fun q hq => absurd hq (Nat.not_lt_zero q)⟩
theorem JS_out (h : JS n po0 po x c d y) (hd : c ≤ d) : JS n po0 po x (c + 1) 0 y := h.imp (fun ⟨e, e2, q1, q2⟩ => ⟨e, e2, fun p q hp hq g => by
  by_cases w : p = c
  · rw [w] at g hq ⊢; exact q2 q (by omega) g
  · exact q1 p q (by omega) hq g, fun q hq => absurd hq (Nat.not_lt_zero q)⟩) id
theorem JS_skip (h : JS n po0 po x c d y) (hb : (po c).testBit d = false) : JS n po0 po x c (d + 1) y := h.imp (fun ⟨e, e2, q1, q2⟩ => ⟨e, e2, q1, fun q hq g => by
  by_cases w : q = d
  · rw [w, ← e2, hb] at g; exact absurd g (by decide)
  · exact q2 q (by omega) g⟩) id
theorem JP_same (hj : JP po a b po') (hb : (po a).testBit b = true) : po' = po := by
  rcases hj with ⟨_, e⟩ | ⟨e, _⟩
  · exact e
  · rw [hb] at e; exact absurd e (by decide)
theorem JS_keep (h : JS n po0 po x c d y) (hj : JP po (d8 x c) (d8 x d) po') (hb : (po (d8 x c)).testBit (d8 x d) = true) : JS n po0 po' x c (d + 1) y := by
  rw [JP_same hj hb]
  exact h.imp (fun ⟨e, e2, q1, q2⟩ => ⟨e, e2, q1, fun q hq g => by
    by_cases w : q = d
    · rw [w, ← e2]; exact hb
    · exact q2 q (by omega) g⟩) id
theorem JS_join (hn : n ≤ 7) (hx : Mv n x) (hP : PT po) (hc : c < n) (hd : d < c) (h : JS n po0 po x c d y) (hi : (po c).testBit d = true) (hj : JP po (d8 x c) (d8 x d) po') (hb : (po (d8 x c)).testBit (d8 x d) = false) : JS n po0 po' x c (d + 1) 1 := by
  have hlt := NC_j (by omega : n ≤ 8) hP (hx.2.1.1 c hc) (hx.2.1.1 d (by omega)) hj hb
  rcases h with ⟨_, e2, _⟩ | ⟨_, e1, e2⟩
  · rw [e2] at hi hb hlt
    exact Or.inr ⟨rfl, fun g => by rw [g c d hc hd hi] at hb; exact absurd hb (by decide), hlt⟩
  · exact Or.inr ⟨rfl, e1, by omega⟩
theorem JS_v (h : JS n po0 po x c d y) (hc : n ≤ c) : (y = 0 ∧ JMv n po0 x) ∨ (y = 1 ∧ ¬ JMv n po0 x) := h.imp (fun ⟨e, _, q, _⟩ => ⟨e, fun p q' hp hq g => q p q' (by omega) hq g⟩) (fun ⟨e, q, _⟩ => ⟨e, q⟩)
theorem JS_p (h : JS n po0 po x c d y) (hc : n ≤ c) : (JMv n po0 x ∧ po = po0) ∨ (¬ JMv n po0 x ∧ NC po n < NC po0 n) := h.imp (fun ⟨_, e, q, _⟩ => ⟨fun p q' hp hq g => q p q' (by omega) hq g, e⟩) (fun ⟨_, q, e⟩ => ⟨q, e⟩)
/-- rounds over a set's moves -/
def JB (n s : Nat) (cm po : Nat → Nat) (y r : Nat) : Prop := (y = 0 ∧ ∀ c, c < 6 → s.testBit c = true → JMv n po (cm c)) ∨ (y = 1 ∧ NC po n + r + 1 ≤ n)
def JC (n s : Nat) (cm po : Nat → Nat) (z c r : Nat) : Prop := (z = 0 ∧ NC po n + r + 1 ≤ n ∧ ∀ j, j < c → s.testBit j = true → JMv n po (cm j)) ∨ (z = 1 ∧ NC po n + r + 2 ≤ n)
variable {s r z : Nat} {cm : Nat → Nat}
theorem JB_0 (h : ∀ p, p < 8 → po p = 2 ^ p) (hn : n ≤ 7) : ∀ c, c < 6 → s.testBit c = true → JMv n po (cm c) := fun c _ _ p q hp hq g => by
  have e := PTi_e h (by omega) g
  omega
theorem JB_1 (h0 : ∀ p, p < 8 → po p = 2 ^ p) (hn : n ≤ 7) (ha : a < n) (hb : b < n) (hj : JP po a b po') (hne : (po a).testBit b = false) : JB n s cm po' 1 0 := by
  have h1 := NC_j (by omega : n ≤ 8) (PTi_0 h0) ha hb hj hne
  have h2 := NC_0 (by omega : n ≤ 8) h0
  exact Or.inr ⟨rfl, by omega⟩
theorem JC_0 (h : JB n s cm po y r) (hy : ¬ y = 0) : JC n s cm po 0 0 r := by
  rcases h with ⟨e, _⟩ | ⟨_, e⟩
  · exact absurd e hy
  · exact Or.inl ⟨rfl, e, fun j hj => absurd hj (Nat.not_lt_zero j)⟩
theorem JC_n (h : JC n s cm po z c r) (hb : s.testBit c = false) : JC n s cm po z (c + 1) r := h.imp (fun ⟨e, q, g⟩ => ⟨e, q, fun j hj hs => by
  by_cases w : j = c
  · rw [w, hb] at hs; exact absurd hs (by decide)
  · exact g j (by omega) hs⟩) id
theorem JC_k (h : JC n s cm po z c r) (hk : JMv n po (cm c)) (hp : (JMv n po (cm c) ∧ po' = po) ∨ (¬ JMv n po (cm c) ∧ NC po' n < NC po n)) : JC n s cm po' z (c + 1) r := by
  rcases hp with ⟨_, e⟩ | ⟨e, _⟩
  · rw [e]
    exact h.imp (fun ⟨e, q, g⟩ => ⟨e, q, fun j hj hs => by
      by_cases w : j = c
      · rw [w]; exact hk
      · exact g j (by omega) hs⟩) id
  · exact absurd hk e
theorem JC_1 (h : JC n s cm po z c r) (hk : ¬ JMv n po (cm c)) (hp : (JMv n po (cm c) ∧ po' = po) ∨ (¬ JMv n po (cm c) ∧ NC po' n < NC po n)) : JC n s cm po' 1 (c + 1) r := by
  rcases hp with ⟨e, _⟩ | ⟨_, e⟩
  · exact absurd e hk
  · rcases h with ⟨_, q, _⟩ | ⟨_, q⟩
    · exact Or.inr ⟨rfl, by omega⟩
    · exact Or.inr ⟨rfl, by omega⟩
theorem JB_s (h : JC n s cm po z c r) (hc : 6 ≤ c) : JB n s cm po z (r + 1) := h.imp (fun ⟨e, _, g⟩ => ⟨e, fun j hj hs => g j (by omega) hs⟩) (fun ⟨e, q⟩ => ⟨e, by omega⟩)
theorem JB_end (hn : n ≤ 7) (h1 : 1 ≤ n) (hP : PT po) (h : JB n s cm po y r) (hr : 7 ≤ r ∨ y = 0) : ∀ c, c < 6 → s.testBit c = true → JMv n po (cm c) := by
  rcases h with ⟨_, g⟩ | ⟨e, q⟩
  · exact g
  · have := NC_1 h1 (by omega : n ≤ 8) hP
    omega
end JSS
end PTS
/-- where one can come to -/
def Om (n : Nat) (cm : Nat → Nat) (s p q : Nat) : Prop := ∀ H : Nat → Prop, H p → (∀ x c, x < n → c < 6 → s.testBit c = true → H x → H (d8 (cm c) x)) → H q
/-- the least parting that the moves keep and that has a pair together -/
def Bc (n : Nat) (cm : Nat → Nat) (s a b p q : Nat) : Prop := ∀ R : Nat → Nat → Prop, EqR R → R a b → (∀ x y c, x < n → y < n → c < 6 → s.testBit c = true → R x y → R (d8 (cm c) x) (d8 (cm c) y)) → R p q
section OMS
variable {n s : Nat} {cm : Nat → Nat}
theorem Om_rf (p : Nat) : Om n cm s p p := fun _ h _ => h
theorem Om_s {p x c : Nat} (h : Om n cm s p x) (hx : x < n) (hc : c < 6) (hs : s.testBit c = true) : Om n cm s p (d8 (cm c) x) := fun H h1 h2 => h2 x c hx hc hs (h H h1 h2)
theorem Om_lt (hM : ∀ c, c < 6 → Mv n (cm c)) {p q : Nat} (hp : p < n) (h : Om n cm s p q) : q < n := h (fun z => z < n) hp (fun x c hx hc _ _ => (hM c hc).2.1.1 x hx)
/-- back again: a move comes round -/
theorem Om_back (hM : ∀ c, c < 6 → Mv n (cm c)) {p x c : Nat} (hx : x < n) (hc : c < 6) (hs : s.testBit c = true) (h : Om n cm s p (d8 (cm c) x)) : Om n cm s p x := by
  have hP := (hM c hc).2.1
  obtain ⟨K, hK⟩ := Pd_ex hP hx
  have hl : ∀ j, it (d8 (cm c)) j x < n := fun j => by
    induction j with
    | zero => exact hx
    | succ j ih => exact hP.1 _ ih
  have hk : ∀ j, Om n cm s p (it (d8 (cm c)) (j + 1) x) := fun j => by
    induction j with
    | zero => exact h
    | succ j ih => exact Om_s ih (hl (j + 1)) hc hs
  have e := hk (K - 1)
  have hK1 := hK.1
  rw [show K - 1 + 1 = K by omega, hK.2.2.1] at e
  exact e
/-- the house's parting by coming -/
theorem Om_is (hn : n ≤ 7) (hM : ∀ c, c < 6 → Mv n (cm c)) {po : Nat → Nat} (hT : PT po) (hc : ∀ c p, c < 6 → s.testBit c = true → p < n → (po p).testBit (d8 (cm c) p) = true)
    (hU : ∀ R, EqR R → (∀ c p, c < 6 → s.testBit c = true → p < n → R p (d8 (cm c) p)) → PU R po) {p : Nat} (hp : p < n) (q : Nat) : (po p).testBit q = true ↔ (q < n ∧ Om n cm s p q) := by
  constructor
  · intro h
    have hq8 := hT.b8 (show p < 8 by omega) h
    have hR := hU (fun x y => (x < n ↔ y < n) ∧ ∀ z, (x < n → Om n cm s z x) ↔ (y < n → Om n cm s z y)) ⟨fun x => ⟨Iff.rfl, fun z => Iff.rfl⟩, fun x y h => ⟨h.1.symm, fun z => (h.2 z).symm⟩, fun x y w h h' => ⟨h.1.trans h'.1, fun z => (h.2 z).trans (h'.2 z)⟩⟩ (fun c x hc6 hs hx => by
      have hy := (hM c hc6).2.1.1 x hx
      exact ⟨⟨fun _ => hy, fun _ => hx⟩, fun z => ⟨fun g _ => Om_s (g hx) hx hc6 hs, fun g _ => Om_back hM hx hc6 hs (g hy)⟩⟩) p q (by omega) hq8 h
    have hqn := hR.1.mp hp
    exact ⟨hqn, (hR.2 p).mp (fun _ => Om_rf p) hqn⟩
  · rintro ⟨hq, h⟩
    exact h (fun z => (po p).testBit z = true) (hT.2.1 p (by omega)) (fun x c hx hc6 hs g => by
      rw [← hT.2.2 p x (by omega) (by omega) g]
      exact hc c x hc6 hs hx)
theorem Bc_is (hn : n ≤ 7) {a b : Nat} (ha : a < n) (hb : b < n) (hM : ∀ c, c < 6 → Mv n (cm c)) {po : Nat → Nat} (hT : PT po) (hab : (po a).testBit b = true) (hc : ∀ c, c < 6 → s.testBit c = true → JMv n po (cm c))
    (hU : ∀ R, EqR R → R a b → (∀ x y c, x < n → y < n → c < 6 → s.testBit c = true → R x y → R (d8 (cm c) x) (d8 (cm c) y)) → PU R po) {p : Nat} (hp : p < n) (q : Nat) : (po p).testBit q = true ↔ (q < n ∧ Bc n cm s a b p q) := by
  constructor
  · intro h
    have hq8 := hT.b8 (show p < 8 by omega) h
    have hR := hU (fun x y => x = y ∨ (x < n ∧ y < n)) ⟨fun x => Or.inl rfl, fun x y h => h.elim (fun e => Or.inl e.symm) (fun e => Or.inr ⟨e.2, e.1⟩), fun x y w h h' => by
        rcases h with rfl | h
        · exact h'
        · rcases h' with rfl | h'
          · exact Or.inr h
          · exact Or.inr ⟨h.1, h'.2⟩⟩ (Or.inr ⟨ha, hb⟩) (fun x y c hx hy hc6 _ _ => Or.inr ⟨(hM c hc6).2.1.1 x hx, (hM c hc6).2.1.1 y hy⟩) p q (by omega) hq8 h
    refine ⟨by rcases hR with e | e <;> omega, fun R h1 h2 h3 => hU R h1 h2 h3 p q (by omega) hq8 h⟩
  · rintro ⟨hq, h⟩
    have g := h (fun x y => x = y ∨ (x < 8 ∧ y < 8 ∧ (po x).testBit y = true)) ⟨fun x => Or.inl rfl, fun x y g => g.elim (fun e => Or.inl e.symm) (fun e => Or.inr ⟨e.2.1, e.1, hT.sy e.1 e.2.1 e.2.2⟩), fun x y w g g' => by
        rcases g with rfl | g
        · exact g'
        · rcases g' with rfl | g'
          · exact Or.inr g
          · refine Or.inr ⟨g.1, g'.2.1, ?_⟩
            rw [← hT.2.2 x y g.1 g.2.1 g.2.2]
            exact g'.2.2⟩ (Or.inr ⟨by omega, by omega, hab⟩) (fun x y c hx hy hc6 hs g => by
        rcases g with rfl | ⟨_, _, g⟩
        · exact Or.inl rfl
        · have h1 := (hM c hc6).2.1.1 x hx
          have h2 := (hM c hc6).2.1.1 y hy
          refine Or.inr ⟨by omega, by omega, ?_⟩
          by_cases e : y < x
          · exact hc c hc6 hs x y hx e g
          · by_cases e2 : x = y
            · rw [e2]; exact hT.2.1 _ (by omega)
            · exact hT.sy (by omega) (by omega) (hc c hc6 hs y x hy (by omega) (hT.sy (by omega) (by omega) g)))
    rcases g with rfl | g
    · exact hT.2.1 p (by omega)
    · exact g.2.2
/-- masks and counts of an equivalence told so -/
theorem PM_sBv {po : Nat → Nat} {P : Nat → Prop} {p : Nat} (h : ∀ q, (po p).testBit q = true ↔ (q < n ∧ P q)) : po p = sBv P n := sBv_is h
theorem NC_ct {po : Nat → Nat} {P : Nat → Nat → Prop} (h : ∀ p, p < n → ∀ q, (po p).testBit q = true ↔ (q < n ∧ P p q)) : NC po n = ct (fun p => ∀ q, q < p → ¬ P p q) n := by
  refine (ct_cnt n (fun p hp => ?_)).symm
  rw [LPo_iff]
  exact ⟨fun g q hq e => g q hq ((h p hp q).mp e).2, fun g q hq e => g q hq ((h p hp q).mpr ⟨by omega, e⟩)⟩
end OMS
end
section
/-! where the reference's points come to, and its parts -/
def Omr (n : Nat) (mv : Nat → Nat) (s p q : Nat) : Prop := ∀ H : Nat → Prop, H p → (∀ x k, x < n → k < 6 → s.testBit k = true → H x → H (mv (k * 7 + x))) → H q
def Bcr (n : Nat) (mv : Nat → Nat) (s a b p q : Nat) : Prop := ∀ R : Nat → Nat → Prop, EqR R → R a b → (∀ x y k, x < n → y < n → k < 6 → s.testBit k = true → R x y → R (mv (k * 7 + x)) (mv (k * 7 + y))) → R p q
def pcn (m : Nat) : Nat := cnt (fun i => m.testBit i) 7
section CWS
variable {n s a m m0 c d t : Nat} {mv : Nat → Nat}
def CWa (n : Nat) (mv : Nat → Nat) (s a m : Nat) : Prop := m < 2 ^ 7 ∧ m.testBit a = true ∧ ∀ q, m.testBit q = true → q < n ∧ Omr n mv s a q
/-- a set that a move keeps -/
def CLk (n : Nat) (mv : Nat → Nat) (m k e : Nat) : Prop := ∀ p, p < e → p < n → m.testBit p = true → m.testBit (mv (k * 7 + p)) = true
def CW (n : Nat) (mv : Nat → Nat) (s a m t : Nat) : Prop := CWa n mv s a m ∧ ((∀ q, Omr n mv s a q → m.testBit q = true) ∨ t + 1 ≤ pcn m)
def CV (n : Nat) (mv : Nat → Nat) (s a m0 m c : Nat) : Prop := CWa n mv s a m ∧ ((m = m0 ∧ ∀ k, k < c → s.testBit k = true → CLk n mv m k n) ∨ pcn m0 + 1 ≤ pcn m)
def CU (n : Nat) (mv : Nat → Nat) (s a m0 m c d : Nat) : Prop := CWa n mv s a m ∧ ((m = m0 ∧ (∀ k, k < c → s.testBit k = true → CLk n mv m k n) ∧ CLk n mv m c d) ∨ pcn m0 + 1 ≤ pcn m)
theorem pcn_le (h : CWa n mv s a m) (hn : n ≤ 7) : pcn m ≤ n := by
  have q : ∀ e, cnt (fun i => m.testBit i) (n + e) = cnt (fun i => m.testBit i) n := by
    intro e
    induction e with
    | zero => rfl
    | succ e ih =>
      show cnt (fun i => m.testBit i) (n + e) + (if m.testBit (n + e) = true then 1 else 0) = _
      rw [ih, if_neg (fun g => by have := (h.2.2 _ g).1; omega), Nat.add_zero]
  have e := q (7 - n)
  rw [show n + (7 - n) = 7 by omega] at e
  show cnt (fun i => m.testBit i) 7 ≤ n
  rw [e]
  exact cnt_le _ n
theorem pcn_mono {m' : Nat} (h : ∀ i, m.testBit i = true → m'.testBit i = true) : pcn m ≤ pcn m' := by
  have q : ∀ k, cnt (fun i => m.testBit i) k ≤ cnt (fun i => m'.testBit i) k := by
    intro k
    induction k with
    | zero => exact Nat.le_refl 0
    | succ k ih =>
      show cnt _ k + (if m.testBit k = true then 1 else 0) ≤ cnt _ k + (if m'.testBit k = true then 1 else 0)
      by_cases e : m.testBit k = true
      · rw [if_pos e, if_pos (h k e)]; omega
      · rw [if_neg e]; split <;> omega
  exact q 7
theorem pcn_up {g : Nat} (hg : g < 7) (h : ¬ m.testBit g = true) : pcn m + 1 ≤ pcn (m ||| 2 ^ g) := by
  refine cnt_lt 7 (fun i _ e => ?_) g hg ?_ (bt_f h)
  · show (m ||| 2 ^ g).testBit i = true
    rw [set_bit]
    have e : m.testBit i = true := e
    rw [e]; rfl
  · show (m ||| 2 ^ g).testBit g = true
    rw [set_bit, decide_eq_true rfl, Bool.or_true]
theorem CW_0 (hn : n ≤ 7) (ha : a < n) : CW n mv s a (2 ^ a) 0 := by
  refine ⟨⟨Nat.pow_lt_pow_right (by decide) (by omega), by rw [Nat.testBit_two_pow]; simp, fun q e => ?_⟩, Or.inr ?_⟩
  · rw [Nat.testBit_two_pow, decide_eq_true_eq] at e
    subst e
    exact ⟨ha, fun _ h _ => h⟩
  · have h : cnt (fun _ => false) 7 < pcn (2 ^ a) := cnt_lt 7 (fun i _ g => absurd g (by decide)) a (by omega) (by show (2 ^ a).testBit a = true; rw [Nat.testBit_two_pow]; simp) rfl
    omega
theorem CV_0 (h : CW n mv s a m t) : CV n mv s a m m 0 := ⟨h.1, Or.inl ⟨rfl, fun k hk => absurd hk (Nat.not_lt_zero k)⟩⟩
theorem CU_0 (h : CV n mv s a m0 m c) : CU n mv s a m0 m c 0 := ⟨h.1, h.2.imp (fun ⟨e, q⟩ => ⟨e, q, fun p hp => absurd hp (Nat.not_lt_zero p)⟩) id⟩
theorem CLk_s (h : CLk n mv m c d) (h2 : m.testBit d = true → d < n → m.testBit (mv (c * 7 + d)) = true) : CLk n mv m c (d + 1) := fun p hp hn hb => by
  by_cases e : p = d
  · rw [e] at hb hn ⊢; exact h2 hb hn
  · exact h p (by omega) hn hb
theorem CU_n (h : CU n mv s a m0 m c d) (hb : ¬ m.testBit d = true) : CU n mv s a m0 m c (d + 1) := ⟨h.1, h.2.imp (fun ⟨e, q, g⟩ => ⟨e, q, CLk_s g (fun x => absurd x hb)⟩) id⟩
theorem CU_y {g : Nat} (h : CU n mv s a m0 m c d) (hb : m.testBit d = true) (hd : d < n) (hc : c < 6) (hs : s.testBit c = true) (hg : g = mv (c * 7 + d)) (hgn : g < n) (hn : n ≤ 7) : CU n mv s a m0 (m ||| 2 ^ g) c (d + 1) := by
  by_cases e : m.testBit g = true
  · have e2 : m ||| 2 ^ g = m := Nat.eq_of_testBit_eq (fun i => by
      rw [set_bit]
      by_cases q : g = i
      · rw [← q, e]; rfl
      · rw [decide_eq_false q, Bool.or_false])
    rw [e2]
    exact ⟨h.1, h.2.imp (fun ⟨e1, q, k⟩ => ⟨e1, q, CLk_s k (fun _ _ => by rw [← hg]; exact e)⟩) id⟩
  · have hup := pcn_up (by omega) e
    refine ⟨⟨Nat.or_lt_two_pow h.1.1 (Nat.pow_lt_pow_right (by decide) (by omega)), by rw [set_bit, h.1.2.1]; rfl, fun q hq => ?_⟩, Or.inr ?_⟩
    · rw [set_bit, Bool.or_eq_true, decide_eq_true_eq] at hq
      rcases hq with hq | hq
      · exact h.1.2.2 q hq
      · rw [← hq]
        exact ⟨hgn, fun H h1 h2 => by rw [hg]; exact h2 d c hd hc hs ((h.1.2.2 d hb).2 H h1 h2)⟩
    · rcases h.2 with ⟨q, _⟩ | q
      · rw [← q]; exact hup
      · omega
theorem CV_s (h : CU n mv s a m0 m c d) (hd : n ≤ d) : CV n mv s a m0 m (c + 1) := ⟨h.1, h.2.imp (fun ⟨e, q, g⟩ => ⟨e, fun k hk hs => by
  by_cases w : k = c
  · rw [w]; exact fun p _ hp hb => g p (by omega) hp hb
  · exact q k (by omega) hs⟩) id⟩
theorem CV_n (h : CV n mv s a m0 m c) (hb : s.testBit c = false) : CV n mv s a m0 m (c + 1) := ⟨h.1, h.2.imp (fun ⟨e, q⟩ => ⟨e, fun k hk hs => by
  by_cases w : k = c
  · rw [w, hb] at hs; exact absurd hs (by decide)
  · exact q k (by omega) hs⟩) id⟩
theorem CW_s (h0 : CW n mv s a m0 t) (h : CV n mv s a m0 m c) (hc : 6 ≤ c) : CW n mv s a m (t + 1) := by
  refine ⟨h.1, ?_⟩
  rcases h.2 with ⟨_, q⟩ | q
  · exact Or.inl (fun x hx => hx (fun z => m.testBit z = true) h.1.2.1 (fun y k hy hk hs hb => q k (by omega) hs y hy hy hb))
  · rcases h0.2 with f | f
    · have := pcn_mono (m := m) (m' := m0) (fun i hi => f i (h.1.2.2 i hi).2)
      omega
    · exact Or.inr (by omega)
theorem CW_end (hn : n ≤ 7) (h : CW n mv s a m t) (ht : n ≤ t) : m = sBv (Omr n mv s a) n := by
  refine sBv_is (fun q => ⟨fun g => h.1.2.2 q g, fun g => ?_⟩)
  rcases h.2 with f | f
  · exact f q g.2
  · have := pcn_le h.1 hn
    omega
end CWS
theorem sBv_low {P : Nat → Prop} {n p : Nat} (hp : p ≤ n) : sBv P n % 2 ^ p = 0 ↔ ∀ q, q < p → ¬ P q := by
  constructor
  · intro h q hq hP
    have hb : (sBv P n % 2 ^ p).testBit q = true := by
      rw [Nat.testBit_mod_two_pow, decide_eq_true hq, Bool.true_and]
      exact (sBv_bit n).mpr ⟨by omega, hP⟩
    rw [h, Nat.zero_testBit] at hb
    exact absurd hb (by decide)
  · intro h
    refine Nat.eq_of_testBit_eq (fun i => ?_)
    rw [Nat.testBit_mod_two_pow, Nat.zero_testBit]
    by_cases e : i < p
    · rw [bt_f (fun g => h i e ((sBv_bit n).mp g).2), Bool.and_false]
    · rw [decide_eq_false e, Bool.false_and]
theorem sBv_31 {P : Nat → Prop} {n : Nat} (hn : n ≤ 7) : sBv P n < 2 ^ 7 := by
  refine Nat.lt_pow_two_of_testBit _ (fun i hi => bt_f (fun g => ?_))
  have := ((sBv_bit n).mp g).1
  omega
theorem ct_y {P : Nat → Prop} {c : Nat} (h : P c) : ct P c + 1 = ct P (c + 1) := by
  show _ = ct P c + on (P c)
  rw [on_t h]
theorem ct_n {P : Nat → Prop} {c : Nat} (h : ¬ P c) : ct P c + 0 = ct P (c + 1) := by
  show _ = ct P c + on (P c)
  rw [on_f h]
/-! labels -/
section RTS
variable {n s a b : Nat} {mv rw rw' : Nat → Nat}
/-- each label is its own -/
def RLb (n : Nat) (rw : Nat → Nat) : Prop := ∀ p, p < n → rw p < n ∧ rw (rw p) = rw p
def RU (n : Nat) (mv : Nat → Nat) (s a b : Nat) (rw : Nat → Nat) : Prop := ∀ R : Nat → Nat → Prop, EqR R → R a b → (∀ x y k, x < n → y < n → k < 6 → s.testBit k = true → R x y → R (mv (k * 7 + x)) (mv (k * 7 + y))) → ∀ p q, p < n → q < n → rw p = rw q → R p q
/-- what a move keeps together -/
def RK2 (n : Nat) (mv rw : Nat → Nat) (k c d : Nat) : Prop := (∀ p q, p < c → q < p → rw p = rw q → rw (mv (k * 7 + p)) = rw (mv (k * 7 + q))) ∧ ∀ q, q < d → rw c = rw q → rw (mv (k * 7 + c)) = rw (mv (k * 7 + q))
def RKs (n : Nat) (mv : Nat → Nat) (s : Nat) (rw : Nat → Nat) (c : Nat) : Prop := ∀ k, k < c → s.testBit k = true → RK2 n mv rw k n 0
theorem jn_same {x y p q : Nat} (h : ∀ p, p < n → rw' p = jn rw x y p) (hp : p < n) (hq : q < n) (e : rw p = rw q) : rw' p = rw' q := by
  rw [h p hp, h q hq]
  unfold jn
  rw [e]
theorem jn_lb {x y : Nat} (hL : RLb n rw) (hx : x < n) (h : ∀ p, p < n → rw' p = jn rw x y p) : RLb n rw' := fun p hp => by
  obtain ⟨l1, l2⟩ := hL p hp
  obtain ⟨x1, x2⟩ := hL x hx
  rw [h p hp]
  unfold jn
  split
  · refine ⟨x1, ?_⟩
    rw [h _ x1]
    unfold jn
    rw [x2]
    split <;> rfl
  · rename_i hne
    refine ⟨l1, ?_⟩
    rw [h _ l1]
    unfold jn
    rw [l2, if_neg hne]
theorem jn_u {x y : Nat} (hU : RU n mv s a b rw) (hx : x < n) (hy : y < n) (h : ∀ p, p < n → rw' p = jn rw x y p) (hR : ∀ R : Nat → Nat → Prop, EqR R → R a b → (∀ x y k, x < n → y < n → k < 6 → s.testBit k = true → R x y → R (mv (k * 7 + x)) (mv (k * 7 + y))) → R x y) : RU n mv s a b rw' := fun R h1 h2 h3 p q hp hq e => by
  have hxy := hR R h1 h2 h3
  have hu := hU R h1 h2 h3
  have tox : ∀ z, z < n → rw' z = rw x → R z x := fun z hz e => by
    rw [h z hz] at e
    unfold jn at e
    by_cases c : rw z = rw y
    · exact h1.2.2 _ _ _ (hu z y hz hy c) (h1.2.1 _ _ hxy)
    · rw [if_neg c] at e; exact hu z x hz hx e
  by_cases c : rw p = rw y
  · have e1 : rw' p = rw x := by rw [h p hp]; unfold jn; rw [if_pos c]
    exact h1.2.2 _ _ _ (tox p hp e1) (h1.2.1 _ _ (tox q hq (e.symm.trans e1)))
  · have e1 : rw' p = rw p := by rw [h p hp]; unfold jn; rw [if_neg c]
    by_cases c2 : rw q = rw y
    · have e2 : rw' q = rw x := by rw [h q hq]; unfold jn; rw [if_pos c2]
      exact h1.2.2 _ _ _ (tox p hp (e.trans e2)) (h1.2.1 _ _ (tox q hq e2))
    · have e2 : rw' q = rw q := by rw [h q hq]; unfold jn; rw [if_neg c2]
      exact hu p q hp hq (e1.symm.trans (e.trans e2))
theorem jn_ab {x y : Nat} (hx : x < n) (hy : y < n) (h : ∀ p, p < n → rw' p = jn rw x y p) : rw' x = rw' y := by
  rw [h x hx, h y hy]
  unfold jn
  rw [if_pos rfl]
  split <;> rfl
theorem RLb_0 (h : ∀ p, p < n → rw p = p) : RLb n rw := fun p hp => by
  rw [h p hp]
  exact ⟨hp, h p hp⟩
theorem RU_0 (h : ∀ p, p < n → rw p = p) : RU n mv s a b rw := fun R h1 _ _ p q hp hq e => by
  rw [h p hp, h q hq] at e
  rw [e]
  exact h1.1 q
theorem RK2_s {k c d : Nat} (h : RK2 n mv rw k c d) (h2 : rw c = rw d → rw (mv (k * 7 + c)) = rw (mv (k * 7 + d))) : RK2 n mv rw k c (d + 1) := ⟨h.1, fun q hq e => by
  by_cases w : q = d
  · rw [w] at e ⊢; exact h2 e
  · exact h.2 q (by omega) e⟩
theorem RK2_o {k c d : Nat} (h : RK2 n mv rw k c d) (hd : c ≤ d) : RK2 n mv rw k (c + 1) 0 := ⟨fun p q hp hq e => by
  by_cases w : p = c
  · rw [w] at e hq ⊢; exact h.2 q (by omega) e
  · exact h.1 p q (by omega) hq e, fun q hq => absurd hq (Nat.not_lt_zero q)⟩
theorem RK2_0 {k : Nat} : RK2 n mv rw k 0 0 := ⟨fun p _ hp => absurd hp (Nat.not_lt_zero p), fun q hq => absurd hq (Nat.not_lt_zero q)⟩
theorem RKs_s {c d e : Nat} (h : RKs n mv s rw c) (h2 : RK2 n mv rw c d e) (hd : n ≤ d) : RKs n mv s rw (c + 1) := fun k hk hs => by
  by_cases w : k = c
  · rw [w]; exact ⟨fun p q hp hq g => h2.1 p q (by omega) hq g, fun q hq => absurd hq (Nat.not_lt_zero q)⟩
  · exact h k (by omega) hs
theorem RKs_n {c : Nat} (h : RKs n mv s rw c) (hb : s.testBit c = false) : RKs n mv s rw (c + 1) := fun k hk hs => by
  by_cases w : k = c
  · rw [w, hb] at hs; exact absurd hs (by decide)
  · exact h k (by omega) hs
/-- what the labels tell at the end -/
theorem RT_is (hP : PM n mv) (ha : a < n) (hb : b < n) (hU : RU n mv s a b rw) (hab : rw a = rw b) (hK : RKs n mv s rw 6) {p q : Nat} (hp : p < n) (hq : q < n) : rw p = rw q ↔ Bcr n mv s a b p q := by
  constructor
  · intro e R h1 h2 h3
    exact hU R h1 h2 h3 p q hp hq e
  · intro h
    have g := h (fun x y => x = y ∨ (x < n ∧ y < n ∧ rw x = rw y)) ⟨fun x => Or.inl rfl, fun x y g => g.elim (fun e => Or.inl e.symm) (fun e => Or.inr ⟨e.2.1, e.1, e.2.2.symm⟩), fun x y w g g' => by
        rcases g with rfl | g
        · exact g'
        · rcases g' with rfl | g'
          · exact Or.inr g
          · exact Or.inr ⟨g.1, g'.2.1, g.2.2.trans g'.2.2⟩⟩ (Or.inr ⟨ha, hb, hab⟩) (fun x y k hx hy hk hs g => by
        rcases g with rfl | ⟨_, _, g⟩
        · exact Or.inl rfl
        · refine Or.inr ⟨(hP k hk).1 x hx, (hP k hk).1 y hy, ?_⟩
          by_cases c : y < x
          · exact (hK k hk hs).1 x y hx c g
          · by_cases c2 : x = y
            · rw [c2]
            · exact ((hK k hk hs).1 y x hy (by omega) g.symm).symm)
    rcases g with rfl | g
    · rfl
    · exact g.2.2
/-- representatives of either kind are as many -/
theorem rep_ct {E : Nat → Nat → Prop} {F G : Nat → Prop} (hE : ∀ p q, E p q → E q p) (hf : ∀ p, p < n → ∃ v, v < n ∧ F v ∧ E p v ∧ ∀ w, w < n → F w → E p w → w = v) (hg : ∀ p, p < n → ∃ v, v < n ∧ G v ∧ E p v ∧ ∀ w, w < n → G w → E p w → w = v) : ct F n = ct G n := by
  have h1 : ∀ (F G : Nat → Prop), (∀ p, p < n → ∃ v, v < n ∧ G v ∧ E p v ∧ ∀ w, w < n → G w → E p w → w = v) → ct F n = sm (fun p => sm (fun q => on ((F p ∧ G q) ∧ E p q)) n) n := by
    intro F G hg
    refine sm_congr n (fun p hp => ?_)
    obtain ⟨v, g1, g2, g3, g4⟩ := hg p hp
    exact (sm_one n (v := v) g1 (fun q hq hne => on_f (fun e => hne (g4 q hq e.1.2 e.2))) (on_iff ⟨fun e => e.1.1, fun e => ⟨⟨e, g2⟩, g3⟩⟩)).symm
  rw [h1 F G hg, h1 G F hf, sm_swap]
  exact sm_congr n (fun p _ => sm_congr n (fun q _ => on_iff ⟨fun e => ⟨⟨e.1.2, e.1.1⟩, hE _ _ e.2⟩, fun e => ⟨⟨e.1.2, e.1.1⟩, hE _ _ e.2⟩⟩))
theorem lst_ex {rw : Nat → Nat} : ∀ k p, p ≤ k → ∃ m, m ≤ p ∧ rw p = rw m ∧ ∀ q, q < m → ¬ rw m = rw q
  | 0, p, hk => ⟨p, Nat.le_refl p, rfl, fun q hq => by omega⟩
  | k + 1, p, hk => by
    by_cases c : ∃ q, q < p ∧ rw p = rw q
    · obtain ⟨q, hq, e⟩ := c
      obtain ⟨m, h1, h2, h3⟩ := lst_ex (rw := rw) k q (by omega)
      exact ⟨m, by omega, e.trans h2, h3⟩
    · exact ⟨p, Nat.le_refl p, rfl, fun q hq e => c ⟨q, hq, e⟩⟩
theorem cnt_ext {P : Nat → Bool} (h : ∀ i, n ≤ i → P i = false) : ∀ k, cnt P (n + k) = cnt P n
  | 0 => rfl
  | k + 1 => by
    show cnt P (n + k) + (if P (n + k) = true then 1 else 0) = cnt P n
    rw [cnt_ext h k, h (n + k) (by omega), if_neg (by decide), Nat.add_zero]
end RTS
end
