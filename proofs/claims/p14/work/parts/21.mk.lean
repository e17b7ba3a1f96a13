/-! rings as sums of powers of two; like rings -/
def rgL (x : Nat) : Nat → Nat → Nat → Nat
  | 0, r, _ => r
  | k + 1, r, a => if r.testBit a = true then r else rgL x k (r ||| 2 ^ a) (d8 x a)
def rg (x p : Nat) : Nat := rgL x 7 0 p
/-- v comes of p -/
def Ob (f : Nat → Nat) (p v : Nat) : Prop := ∃ j, it f j p = v
section RINGS
variable {x p : Nat}
theorem rgL_spec {K : Nat} (hP : Pn 7 (d8 x)) (hp : p < 7) (hK : Pd (d8 x) 7 p K) : ∀ k c r a, k + c = 7 → c ≤ K → (r < 2 ^ 7 ∧ ∀ v, r.testBit v = usd (fun j => it (d8 x) j p) v c) → a = it (d8 x) c p → rgL x k r a < 2 ^ 7 ∧ ∀ v, (rgL x k r a).testBit v = usd (fun j => it (d8 x) j p) v K
  | 0, c, r, a, hk, hc, hr, _ => by
    have h7 := hK.2.1
    have e : c = K := by omega
    subst e
    exact hr
  | k + 1, c, r, a, hk, hc, hr, ha => by
    show (if r.testBit a = true then r else rgL x k (r ||| 2 ^ a) (d8 x a)) < 2 ^ 7 ∧ ∀ v, (if r.testBit a = true then r else rgL x k (r ||| 2 ^ a) (d8 x a)).testBit v = _
    by_cases h : r.testBit a = true
    · rw [if_pos h]
      obtain ⟨h1, K', hK', h3⟩ := ring_end hP hp hK hc hr ha (Or.inr h)
      rw [hK.same hK']
      exact ⟨h1, h3⟩
    · rw [if_neg h]
      have hb : r.testBit a = false := by
        cases q : r.testBit a with
        | false => rfl
        | true => exact absurd q h
      have hc1 := ring_lt hP hp hK hc hr ha hb
      have a7 : a < 7 := by rw [ha]; exact it_lt hP hp c
      exact rgL_spec hP hp hK k (c + 1) _ _ (by omega) hc1 (ring_s a7 ha hr) (by rw [ha]; rfl)
theorem rg_spec (hP : Pn 7 (d8 x)) (hp : p < 7) : rg x p < 2 ^ 7 ∧ ∃ K, Pd (d8 x) 7 p K ∧ ∀ v, (rg x p).testBit v = usd (fun j => it (d8 x) j p) v K := by
  obtain ⟨K, hK⟩ := Pd_ex hP hp
  have h := rgL_spec hP hp hK 7 0 0 p rfl (Nat.zero_le _) (ring_0 _) rfl
  exact ⟨h.1, K, hK, h.2⟩
theorem usd_Ob {f : Nat → Nat} {K v : Nat} (hK : Pd f 7 p K) : usd (fun j => it f j p) v K = true ↔ Ob f p v := by
  refine ⟨fun h => ?_, fun ⟨j, e⟩ => ?_⟩
  · obtain ⟨j, _, e⟩ := usd_ex K h
    exact ⟨j, e⟩
  · refine usd_of K (j % K) (Nat.mod_lt _ hK.1) ?_
    show it f (j % K) p = v
    rw [it_mod hK.2.2.1]
    exact e
theorem rg_bit (hP : Pn 7 (d8 x)) (hp : p < 7) {v : Nat} : (rg x p).testBit v = true ↔ Ob (d8 x) p v := by
  obtain ⟨_, K, hK, h⟩ := rg_spec hP hp
  rw [h v]
  exact usd_Ob hK
theorem Ob.rf {f : Nat → Nat} : Ob f p p := ⟨0, rfl⟩
theorem Ob.tr {f : Nat → Nat} {v u : Nat} (h : Ob f p v) (h' : Ob f v u) : Ob f p u := by
  obtain ⟨i, rfl⟩ := h
  obtain ⟨j, rfl⟩ := h'
  exact ⟨j + i, it_add f p i j⟩
theorem Ob.s {f : Nat → Nat} {v : Nat} (h : Ob f p v) : Ob f p (f v) := h.tr ⟨1, rfl⟩
theorem Ob.sy {f : Nat → Nat} {v : Nat} (hP : Pn 7 f) (hp : p < 7) (h : Ob f p v) : Ob f v p := by
  obtain ⟨K, hK⟩ := Pd_ex hP hp
  obtain ⟨j, rfl⟩ := h
  have h1 : j ≤ K * (j + 1) := Nat.le_trans (Nat.le_succ j) (Nat.le_mul_of_pos_left (j + 1) hK.1)
  refine ⟨K * (j + 1) - j, ?_⟩
  rw [← it_add, Nat.sub_add_cancel h1]
  exact it_mul hK.2.2.1 (j + 1)
theorem Ob.lt {f : Nat → Nat} {v : Nat} (hP : Pn 7 f) (hp : p < 7) (h : Ob f p v) : v < 7 := by
  obtain ⟨j, rfl⟩ := h
  exact it_lt hP hp j
theorem rg_eq (hP : Pn 7 (d8 x)) (hp : p < 7) {v : Nat} (h : Ob (d8 x) p v) : rg x v = rg x p := by
  refine Nat.eq_of_testBit_eq (fun i => ?_)
  have e : (rg x v).testBit i = true ↔ (rg x p).testBit i = true := (rg_bit hP (h.lt hP hp)).trans (Iff.trans ⟨fun q => h.tr q, fun q => (h.sy hP hp).tr q⟩ (rg_bit hP hp).symm)
  exact Bool.eq_iff_iff.mpr e
/-- a ring's length; whether a point is the least one of its ring; how many rings of a length -/
def ln (x p : Nat) : Nat := pc32 (nI (rg x p))
def ld (x p : Nat) : Bool := cnt (fun i => (rg x p).testBit i) p == 0
def rl (x L m : Nat) : Nat := cnt (fun p => ld x p && (ln x p == L)) m
theorem ln_Pd (hP : Pn 7 (d8 x)) (hp : p < 7) : Pd (d8 x) 7 p (ln x p) := by
  obtain ⟨h1, K, hK, h2⟩ := rg_spec hP hp
  exact ring_len hP hp hK h1 h2
theorem ln_cnt (hP : Pn 7 (d8 x)) (hp : p < 7) : ln x p = cnt (fun i => (rg x p).testBit i) 7 := by
  have h := (rg_spec hP hp).1
  unfold ln
  rw [pc32_nI (by omega), show (32 : Nat) = 7 + 25 from rfl, cnt_split, cnt_0 (P := fun i => (rg x p).testBit (7 + i)) 25 (fun i _ => Nat.testBit_lt_two_pow (Nat.lt_of_lt_of_le h (Nat.pow_le_pow_right (by decide) (by omega)))), Nat.add_zero]
theorem ln_eq (hP : Pn 7 (d8 x)) (hp : p < 7) {v : Nat} (h : Ob (d8 x) p v) : ln x v = ln x p := by
  unfold ln
  rw [rg_eq hP hp h]
/-- each point has one least one in its ring -/
theorem leader (hP : Pn 7 (d8 x)) (hp : p < 7) : ∃ l, l < 7 ∧ ld x l = true ∧ Ob (d8 x) l p ∧ ∀ i, i < 7 → ld x i = true → Ob (d8 x) i p → i = l := by
  obtain ⟨l, h1, h2, h3⟩ := least (P := fun i => (rg x p).testBit i = true) p ((rg_bit hP hp).mpr Ob.rf)
  have hl : l < 7 := by omega
  have hO := (rg_bit hP hp).mp h2
  have hE := rg_eq hP hp hO
  have h0 : ∀ i, i < l → (rg x l).testBit i = false := fun i hi => by
    rw [hE]
    cases q : (rg x p).testBit i with
    | false => rfl
    | true => exact absurd q (h3 i hi)
  have hld : ld x l = true := by
    unfold ld
    rw [cnt_0 l h0]
    rfl
  refine ⟨l, hl, hld, hO.sy hP hp, fun i hi hi2 hi3 => ?_⟩
  have hEi := rg_eq hP hi hi3
  have h4 : (rg x l).testBit i = true := by
    rw [hE, hEi]
    exact (rg_bit hP hi).mpr Ob.rf
  have h5 : (rg x i).testBit l = true := by
    rw [← hEi, ← hE]
    exact (rg_bit hP hl).mpr Ob.rf
  refine Nat.le_antisymm (Nat.not_lt.mp fun e => ?_) (Nat.not_lt.mp fun e => ?_)
  · have h6 := cnt_pos (P := fun j => (rg x i).testBit j) i l e h5
    have h7 : cnt (fun j => (rg x i).testBit j) i = 0 := eq_of_beq hi2
    omega
  · rw [h0 i e] at h4
    exact absurd h4 (by decide)
/-- the points on rings of a length are that many times its rings -/
theorem pl_rl (hP : Pn 7 (d8 x)) (L : Nat) : ct (fun p => ln x p = L) 7 = L * rl x L 7 := by
  have h1 : ct (fun p => ln x p = L) 7 = sm (fun p => sm (fun l => on ((ld x l = true ∧ ln x l = L) ∧ Ob (d8 x) l p)) 7) 7 := by
    refine sm_congr 7 (fun p hp => ?_)
    obtain ⟨l, hl, l1, l2, l3⟩ := leader hP hp
    have e := ln_eq hP hl l2
    refine (sm_one 7 hl (fun i hi hne => on_f (fun e => hne (l3 i hi e.1.1 e.2))) (on_iff ⟨fun q => ?_, fun q => ⟨⟨l1, ?_⟩, l2⟩⟩)).symm
    · exact e.trans q.1.2
    · exact e.symm.trans q
  rw [h1, sm_swap (fun p l => on ((ld x l = true ∧ ln x l = L) ∧ Ob (d8 x) l p)) 7 7]
  refine Eq.trans (sm_congr 7 (fun l hl => ?_)) (sm_mul L (fun p => ld x p && (ln x p == L)) 7)
  show sm (fun p => on ((ld x l = true ∧ ln x l = L) ∧ Ob (d8 x) l p)) 7 = L * (if (ld x l && (ln x l == L)) = true then 1 else 0)
  by_cases q : ld x l = true ∧ ln x l = L
  · rw [if_pos (by rw [q.1, q.2, Bool.true_and]; exact beq_self_eq_true L), Nat.mul_one]
    have e : ct (fun p => Ob (d8 x) l p) 7 = cnt (fun i => (rg x l).testBit i) 7 := ct_cnt 7 (fun i _ => (rg_bit hP hl).symm)
    rw [← ln_cnt hP hl, q.2] at e
    refine Eq.trans (sm_congr 7 (fun p _ => on_iff ⟨fun z => z.2, fun z => ⟨q, z⟩⟩)) e
  · rw [if_neg (fun z => q (by
      rw [Bool.and_eq_true] at z
      exact ⟨z.1, eq_of_beq z.2⟩)), Nat.mul_zero, sm_congr (g := fun _ => 0) 7 (fun p _ => on_f (fun z => q z.1)), sm_0]
end RINGS
/-- w renames x to y -/
def RN (n x y : Nat) (w : Nat → Nat) : Prop := Pn n w ∧ ∀ p, p < n → w (d8 x p) = d8 y (w p)
section LIKE
variable {n x y : Nat}
theorem it_RN {w : Nat → Nat} {S : Nat → Prop} (hS : ∀ v, S v → S (d8 x v) ∧ w (d8 x v) = d8 y (w v)) {p : Nat} (hp : S p) : ∀ j, S (it (d8 x) j p) ∧ it (d8 y) j (w p) = w (it (d8 x) j p)
  | 0 => ⟨hp, rfl⟩
  | j + 1 => by
    obtain ⟨h1, h2⟩ := it_RN hS hp j
    refine ⟨(hS _ h1).1, ?_⟩
    show d8 y (it (d8 y) j (w p)) = w (d8 x (it (d8 x) j p))
    rw [h2, (hS _ h1).2]
/-- a ring's length is kept by what renames -/
theorem ln_RN {w : Nat → Nat} {S : Nat → Prop} (hx : Pn 7 (d8 x)) (hy : Pn 7 (d8 y)) (hS : ∀ v, S v → S (d8 x v) ∧ w (d8 x v) = d8 y (w v)) (hi : ∀ u v, S u → S v → w u = w v → u = v) {p : Nat} (hp : S p) (hp7 : p < 7) (hw : w p < 7) : ln y (w p) = ln x p := by
  obtain ⟨a1, a2, a3, a4⟩ := ln_Pd hx hp7
  refine (ln_Pd hy hw).same ⟨a1, a2, ?_, fun j h1 h2 e => ?_⟩
  · rw [(it_RN hS hp _).2, a3]
  · rw [(it_RN hS hp _).2] at e
    exact a4 j h1 h2 (hi _ _ (it_RN hS hp j).1 hp e)
theorem Mv.P7 (hn : n ≤ 7) (h : Mv n x) : Pn 7 (d8 x) := h.p7 hn
/-- .. of all seven points -/
theorem RN_7 (hn : n ≤ 7) (hx : Mv n x) (hy : Mv n y) {w : Nat → Nat} (h : RN n x y w) : Mv n (mkM n w) ∧ (∀ p, p < n → d8 (mkM n w) p = w p) ∧ ∀ p, p < 7 → d8 (mkM n w) (d8 x p) = d8 y (d8 (mkM n w) p) := by
  have hM := mkM_Mv hn h.1
  have hd : ∀ p, p < n → d8 (mkM n w) p = w p := fun p hp => mkM_d hn h.1.1 hp
  refine ⟨hM, hd, fun p hp => ?_⟩
  by_cases e : p < n
  · rw [hd p e, hd _ (hx.2.1.1 p e)]
    exact h.2 p e
  · rw [hx.2.2 p (by omega) hp, hM.2.2 p (by omega) hp, hy.2.2 p (by omega) hp]
theorem RN_like (hn : n ≤ 7) (hx : Mv n x) (hy : Mv n y) {w : Nat → Nat} (h : RN n x y w) {L : Nat} (hL : 1 ≤ L) : rl x L 7 = rl y L 7 := by
  obtain ⟨hM, _, hc⟩ := RN_7 hn hx hy h
  have hx7 := hx.P7 hn
  have hy7 := hy.P7 hn
  have hz7 := hM.P7 hn
  have h1 : ct (fun p => ln y (d8 (mkM n w) p) = L) 7 = ct (fun p => ln y p = L) 7 := ct_perm (P := fun p => ln y p = L) hz7
  have h2 : ct (fun p => ln y (d8 (mkM n w) p) = L) 7 = ct (fun p => ln x p = L) 7 := ct_iff (fun p hp => by
    rw [ln_RN (w := d8 (mkM n w)) (S := fun v => v < 7) hx7 hy7 (fun v hv => ⟨hx7.1 v hv, hc v hv⟩) (fun u v hu hv e => hz7.2 u v hu hv e) hp hp (hz7.1 p hp)])
  have h3 := pl_rl hx7 L
  rw [← h2, h1, pl_rl hy7 L] at h3
  exact (Nat.eq_of_mul_eq_mul_left hL h3).symm
end LIKE
