/-! what a chain tells: reach, rank, whether a move is in the group -/
theorem bt_f {b : Bool} (h : ¬ b = true) : b = false := by
  cases b with
  | false => rfl
  | true => exact absurd rfl h
/-- the sum of 2^v for those that are so -/
noncomputable def sBv (P : Nat → Prop) : Nat → Nat
  | 0 => 0
  | v + 1 => @ite _ (P v) (Classical.propDecidable (P v)) (sBv P v ||| 2 ^ v) (sBv P v)
theorem sBv_t {P : Nat → Prop} {v : Nat} (h : P v) : sBv P (v + 1) = sBv P v ||| 2 ^ v := @if_pos _ (Classical.propDecidable (P v)) h _ _ _
theorem sBv_f {P : Nat → Prop} {v : Nat} (h : ¬ P v) : sBv P (v + 1) = sBv P v := @if_neg _ (Classical.propDecidable (P v)) h _ _ _
theorem sBv_bit {P : Nat → Prop} {v : Nat} : ∀ m, (sBv P m).testBit v = true ↔ (v < m ∧ P v)
  | 0 => by
    show (0 : Nat).testBit v = true ↔ _
    rw [Nat.zero_testBit]
    exact ⟨fun h => absurd h (by decide), fun h => absurd h.1 (Nat.not_lt_zero v)⟩
  | m + 1 => by
    have ih := sBv_bit (P := P) (v := v) m
    by_cases q : P m
    · rw [sBv_t q, Nat.testBit_or, Bool.or_eq_true, ih, Nat.testBit_two_pow, decide_eq_true_eq]
      refine ⟨fun h => ?_, fun h => ?_⟩
      · rcases h with h | h
        · exact ⟨by omega, h.2⟩
        · subst h; exact ⟨Nat.lt_succ_self m, q⟩
      · by_cases e : v = m
        · exact Or.inr e.symm
        · exact Or.inl ⟨by omega, h.2⟩
    · rw [sBv_f q, ih]
      refine ⟨fun h => ⟨by omega, h.2⟩, fun h => ⟨?_, h.2⟩⟩
      by_cases e : v = m
      · rw [e] at h; exact absurd h.2 q
      · omega
theorem sBv_is {P : Nat → Prop} {r m : Nat} (h : ∀ v, r.testBit v = true ↔ (v < m ∧ P v)) : r = sBv P m :=
  Nat.eq_of_testBit_eq (fun v => Bool.eq_iff_iff.mpr ((h v).trans (sBv_bit m).symm))
theorem sBv_congr {P Q : Nat → Prop} {m : Nat} (h : ∀ v, v < m → (P v ↔ Q v)) : sBv P m = sBv Q m :=
  sBv_is (fun v => (sBv_bit m).trans ⟨fun q => ⟨q.1, (h v q.1).mp q.2⟩, fun q => ⟨q.1, (h v q.1).mpr q.2⟩⟩)
/-- the points of REACH -/
def RP (n : Nat) (G : Nat → Prop) (rd : Nat → Nat) (l v : Nat) : Prop := ∃ x, Mv n x ∧ G x ∧ (∀ j, j < l → d8 x (rd j) = rd j) ∧ d8 x (rd l) = v
section TELLS
variable {n ro : Nat} {st sv rc kw : Nat → Nat} {ns : Nat} {G : Nat → Prop}
theorem RP_is (hn : n ≤ 7) (h : CI n ro st sv rc kw ns) (hG : ∀ x, CP n (RC rc) (ST st) n x ↔ G x) {l v : Nat} (hl : l < n) : RC rc l v = true ↔ RP n G (d8 ro) l v := by
  obtain ⟨hM, hC, hB, _⟩ := h
  refine ⟨fun hr => ?_, fun ⟨x, hx, hg, hf, he⟩ => ?_⟩
  · have hv := hB l v hl hr
    obtain ⟨s1, s2, s3⟩ := (hC l hl).2.2.2 v hv hr
    exact ⟨ST st l v, s1, (hG _).mp (CP_one hn hC hl hv hr), s2, s3⟩
  · have hp := (hG x).mpr hg
    obtain ⟨m, hm⟩ : ∃ m, n - l = m + 1 := ⟨n - l - 1, by omega⟩
    have hml : n - (m + 1) = l := by omega
    have hd := CP_downs hn hC (m := m + 1) l (by omega) (by rw [show m + 1 + l = n by omega]; exact hp) (fun j hj => hf j (by omega))
    obtain ⟨g, w, hgn, hgr, hw, e⟩ := hd
    have e2 := CP_goal hn hC (m := m) (g := g) (h := w) (by omega) hgn hgr hw
    rw [← e, hml, he] at e2
    rw [e2, ← hml]
    exact hgr
theorem rc_sBv (hn : n ≤ 7) (h : CI n ro st sv rc kw ns) (hG : ∀ x, CP n (RC rc) (ST st) n x ↔ G x) {l : Nat} (hl : l < n) : rc l = sBv (RP n G (d8 ro) l) n :=
  sBv_is (fun v => ⟨fun q => ⟨h.2.2.1 l v hl q, (RP_is hn h hG hl).mp q⟩, fun q => (RP_is hn h hG hl).mpr q.2⟩)
/-- the rank of a move, level by level -/
noncomputable def rkS (n : Nat) (T : Nat → Prop) (rd : Nat → Nat) (x : Nat) : Nat → Nat
  | 0 => 0
  | c + 1 => rkS n T rd x c + sm (WT n T rd x c) (d8 x (rd c))
def RK (n ro : Nat) (rc st : Nat → Nat) (x c r b : Nat) : Prop :=
  Mv n b ∧ TL n rc st 1754760 b ∧ (∀ j, j < c → d8 b (d8 ro j) = d8 x (d8 ro j)) ∧ r = rkS n (TL n rc st 1754760) (d8 ro) x c ∧ r + zF rc n (n - c) ≤ zF rc n n
theorem TL_e (hn : n ≤ 7) {x : Nat} (hx : Mv n x) : TL n rc st 1754760 x ↔ CP n (RC rc) (ST st) n x := by
  unfold TL
  rw [e7_M hn]
  have e : iM n (eM n) = eM n := by
    have := iM_c hn (eM_Mv hn)
    rw [cM_e hn (iM_Mv hn (eM_Mv hn))] at this
    exact this
  rw [e, cM_e hn hx]
theorem RK_0 (hn : n ≤ 7) (h : CI n ro st sv rc kw ns) {x : Nat} : RK n ro rc st x 0 0 1754760 :=
  ⟨by rw [e7_M hn]; exact eM_Mv hn, (TL_e hn (by rw [e7_M hn]; exact eM_Mv hn)).mpr (by rw [e7_M hn]; exact CP_e hn h.2.1 n (Nat.le_refl n)), fun j hj => absurd hj (Nat.not_lt_zero j), rfl, by rw [Nat.zero_add, Nat.sub_zero]; exact Nat.le_refl _⟩
theorem e_Mv (hn : n ≤ 7) : Mv n 1754760 := by
  rw [e7_M hn]
  exact eM_Mv hn
theorem WT_x (h1 : 1 ≤ n) (hn : n ≤ 7) {x b c : Nat} (hf : ∀ j, j < c → d8 b (d8 ro j) = d8 x (d8 ro j)) (T : Nat → Prop) (p : Nat) : WT n T (d8 ro) x c p = WT n T (d8 ro) b c p :=
  WT_pre h1 hn (fun j hj => (hf j hj).symm) p
theorem cd_pos (h1 : 1 ≤ n) (hn : n ≤ 7) {P : Nat → Prop} {x : Nat} (hx : Mv n x) (h : P x) : 1 ≤ cd n P := by
  have e : P (XM n (nu n x)) := by rw [XM_nu h1 hn hx]; exact h
  have := sm_ge (f := fun k => on (P (XM n k))) (fc n) (nu_b n x)
  have h2 : on (P (XM n (nu n x))) = 1 := on_t e
  have this : on (P (XM n (nu n x))) ≤ cd n P := this
  omega
/-- no such goal: the move isn't in the group -/
theorem RK_no (h1 : 1 ≤ n) (hn : n ≤ 7) (h : CI n ro st sv rc kw ns) (hQ : PQ n rc st kw ns) {x c r b gs : Nat} (hx : Mv n x) (hc : c < n) (hI : RK n ro rc st x c r b) (hg : ∀ v, gs.testBit v = img (d8 b) (rc c) v 7) (hb : gs.testBit (d8 x (d8 ro c)) = false) : ¬ CP n (RC rc) (ST st) n x := fun hp => by
  obtain ⟨a1, a2, a3, _⟩ := hI
  have hrd := h.1.2.1.1 c hc
  have hgn := hx.2.1.1 _ hrd
  have hw := WT_is h1 hn h hQ (e_Mv hn) a1 a2 hc hgn
  rw [← hg, hb, if_neg Bool.false_ne_true] at hw
  have := cd_pos h1 hn (P := fun y => TL n rc st 1754760 y ∧ (∀ j, j < c → d8 y (d8 ro j) = d8 b (d8 ro j)) ∧ d8 y (d8 ro c) = d8 x (d8 ro c)) hx ⟨(TL_e hn hx).mpr hp, fun j hj => (a3 j hj).symm, rfl⟩
  have hw : cd n (fun y => TL n rc st 1754760 y ∧ (∀ j, j < c → d8 y (d8 ro j) = d8 b (d8 ro j)) ∧ d8 y (d8 ro c) = d8 x (d8 ro c)) = 0 := hw
  omega
theorem RK_b (h1 : 1 ≤ n) (hn : n ≤ 7) (h : CI n ro st sv rc kw ns) {x c r b gs g : Nat} (hc : c < n) (hI : RK n ro rc st x c r b) (hg : ∀ v, gs.testBit v = img (d8 b) (rc c) v 7) (hb : gs.testBit g = true) (hg7 : g < 7) : r + cnt (fun v => gs.testBit v) g * zF rc n (n - (c + 1)) + zF rc n (n - (c + 1)) ≤ zF rc n n := by
  obtain ⟨a1, _, _, _, a5⟩ := hI
  have e := img_cnt7 hn h.2.2.1 a1 hc hg
  have hz : zF rc n (n - c) = zF rc n (n - (c + 1)) * cnt (fun v => (rc c).testBit v) 32 := by
    rw [show n - c = (n - (c + 1)) + 1 by omega]
    show zF rc n (n - (c + 1)) * cnt (fun v => (rc (n - (n - (c + 1) + 1))).testBit v) 32 = _
    rw [show n - (n - (c + 1) + 1) = c by omega]
  have hlt : cnt (fun v => gs.testBit v) g + 1 ≤ cnt (fun v => gs.testBit v) 7 := by
    obtain ⟨k, hk⟩ : ∃ k, 7 = g + 1 + k := ⟨6 - g, by omega⟩
    rw [hk, cnt_split]
    have : cnt (fun v => gs.testBit v) (g + 1) = cnt (fun v => gs.testBit v) g + 1 := by
      show cnt (fun v => gs.testBit v) g + (if gs.testBit g = true then 1 else 0) = _
      rw [if_pos hb]
    omega
  rw [e] at hlt
  have hm : (cnt (fun v => gs.testBit v) g + 1) * zF rc n (n - (c + 1)) ≤ zF rc n (n - (c + 1)) * cnt (fun v => (rc c).testBit v) 32 := by
    rw [Nat.mul_comm (zF rc n (n - (c + 1)))]
    exact Nat.mul_le_mul_right _ hlt
  rw [Nat.add_mul, Nat.one_mul, ← hz] at hm
  omega
theorem RK_s (h1 : 1 ≤ n) (hn : n ≤ 7) (h : CI n ro st sv rc kw ns) (hQ : PQ n rc st kw ns) {x c r b gs q : Nat} (hx : Mv n x) (hc : c < n) (hI : RK n ro rc st x c r b) (hg : ∀ v, gs.testBit v = img (d8 b) (rc c) v 7)
    (hb : gs.testBit (d8 x (d8 ro c)) = true) (hq7 : q < 7) (hq : d8 b q = d8 x (d8 ro c)) : RK n ro rc st x (c + 1) (r + cnt (fun v => gs.testBit v) (d8 x (d8 ro c)) * zF rc n (n - (c + 1))) (c7 (st (c * 8 + q)) b) := by
  have hrd := h.1.2.1.1 c hc
  have hgn := hx.2.1.1 _ hrd
  have hbound := RK_b h1 hn h hc hI hg hb (by omega)
  obtain ⟨a1, a2, a3, a4, a5⟩ := hI
  have hM := h.1
  have hC := h.2.1
  have hB := h.2.2.1
  have hpi := hb
  rw [hg] at hpi
  have hRq : RC rc c q = true := by
    obtain ⟨q', g1, g2, g3⟩ := img_ex 7 hpi
    have e : q = q' := (a1.p7 hn).2 q q' hq7 g1 (hq.trans g3.symm)
    rw [e]
    exact g2
  have hqn := hB c q hc hRq
  obtain ⟨s1, s2, s3⟩ := (hC c hc).2.2.2 q hqn hRq
  have s1 : Mv n (st (c * 8 + q)) := s1
  have hb' : c7 (st (c * 8 + q)) b = cM n (st (c * 8 + q)) b := c7_M hn s1 a1
  have m1 := cM_Mv hn s1 a1
  rw [hb']
  refine ⟨m1, ?_, fun j hj => ?_, ?_, hbound⟩
  · show CP n (RC rc) (ST st) n (cM n (cM n (st (c * 8 + q)) b) (iM n 1754760))
    rw [cM_assoc hn s1 a1 (iM_Mv hn (e_Mv hn))]
    exact CP_cM hn h hQ (CP_one hn hC hc hqn hRq) a2
  · by_cases e : j = c
    · subst e
      rw [cM_d hn s1 a1 hrd]
      exact (congrArg (d8 b) s3).trans hq
    · rw [cM_d hn s1 a1 (hM.2.1.1 j (by omega)), ← a3 j (by omega)]
      exact congrArg (d8 b) (s2 j (by omega))
  · show _ = rkS n (TL n rc st 1754760) (d8 ro) x c + sm (WT n (TL n rc st 1754760) (d8 ro) x c) (d8 x (d8 ro c))
    rw [← a4, sm_congr (g := fun v => zF rc n (n - (c + 1)) * (if gs.testBit v = true then 1 else 0)) (d8 x (d8 ro c)) (fun v hv => by
      rw [WT_x h1 hn a3, WT_is h1 hn h hQ (e_Mv hn) a1 a2 hc (show v < n by omega), hg v]
      by_cases e : img (d8 b) (rc c) v 7 = true
      · rw [if_pos e, if_pos e, Nat.mul_one]
      · rw [if_neg e, if_neg e, Nat.mul_zero]), sm_mul, Nat.mul_comm]
theorem RK_st (hn : n ≤ 7) (h : CI n ro st sv rc kw ns) {x c r b gs q : Nat} (hc : c < n) (hI : RK n ro rc st x c r b) (hg : ∀ v, gs.testBit v = img (d8 b) (rc c) v 7) {p : Nat} (hp : gs.testBit p = true) (hq7 : q < 7) (hq : d8 b q = p) : st (c * 8 + q) < 2 ^ (3 * 7) := by
  rw [hg p] at hp
  obtain ⟨q', g1, g2, g3⟩ := img_ex 7 hp
  have e : q = q' := (hI.1.p7 hn).2 q q' hq7 g1 (hq.trans g3.symm)
  rw [e]
  exact ((h.2.1 c hc).2.2.2 q' (h.2.2.1 c q' hc g2) g2).1.1
theorem RK_n (hn : n ≤ 7) (h : CI n ro st sv rc kw ns) {x c r b : Nat} (hx : Mv n x) (hc : c = n) (hI : RK n ro rc st x c r b) : CP n (RC rc) (ST st) n x ∧ r = rkS n (TL n rc st 1754760) (d8 ro) x n := by
  subst hc
  obtain ⟨a1, a2, a3, a4, _⟩ := hI
  have e : b = x := a1.ext hx (fun p hp => by
    obtain ⟨j, hj, e⟩ := inj_surj _ (d8 ro) h.1.2.1 p hp
    rw [← e]
    exact a3 j hj)
  rw [e] at a2
  exact ⟨(TL_e hn hx).mp a2, a4⟩
def RKV (G : Prop) (r : Nat) (v : Int32) : Prop := (G ∧ v = nI r ∧ r < 5041) ∨ (¬ G ∧ v = (-1))
theorem rkS_iff (h1 : 1 ≤ n) (hn : n ≤ 7) {T T' : Nat → Prop} (hT : ∀ x, Mv n x → (T x ↔ T' x)) (rd : Nat → Nat) (x : Nat) : ∀ c, rkS n T rd x c = rkS n T' rd x c
  | 0 => rfl
  | c + 1 => by
    show rkS n T rd x c + sm (WT n T rd x c) (d8 x (rd c)) = rkS n T' rd x c + sm (WT n T' rd x c) (d8 x (rd c))
    have hw : ∀ p, WT n T rd x c p = WT n T' rd x c p := fun p => cd_iff h1 hn (fun y hy => and_congr (hT y hy) Iff.rfl)
    rw [rkS_iff h1 hn hT rd x c, sm_congr (f := WT n T rd x c) (g := WT n T' rd x c) _ (fun p _ => hw p)]
/-- a rank's answer -/
noncomputable def rkI (G : Prop) (r : Nat) : Int32 := @ite _ G (Classical.propDecidable G) (nI r) (-1)
theorem rkI_of {G : Prop} {r : Nat} {v : Int32} (h : RKV G r v) : v = rkI G r := by
  rcases h with ⟨g, e, _⟩ | ⟨g, e⟩
  · exact e.trans (@if_pos _ (Classical.propDecidable G) g _ _ _).symm
  · exact e.trans (@if_neg _ (Classical.propDecidable G) g _ _ _).symm
theorem rkI_iff {G G' : Prop} {r r' : Nat} (h : G ↔ G') (e : r = r') : rkI G r = rkI G' r' := by
  rw [e, propext h]
end TELLS
theorem RKV_lt {G : Prop} {r : Nat} {v : Int32} (h : RKV G r v) (hl : v < 0) : ¬ G := fun g => by
  rcases h with ⟨_, e, hr⟩ | ⟨q, _⟩
  · rw [e] at hl
    exact absurd hl (nI_pos (n := r) (by omega))
  · exact q g
theorem RKV_ge {G : Prop} {r : Nat} {v : Int32} (h : RKV G r v) (hl : ¬ v < 0) : G := by
  rcases h with ⟨g, _⟩ | ⟨_, e⟩
  · exact g
  · rw [e] at hl
    exact absurd (by decide) hl
theorem hA_s {P B : Nat → Prop} {c : Nat} (h : ∀ i, i < c → B i → P i) (hc : B c → P c) : ∀ i, i < c + 1 → B i → P i := fun i hi hb => by
  by_cases e : i = c
  · rw [e] at hb ⊢; exact hc hb
  · exact h i (by omega) hb
