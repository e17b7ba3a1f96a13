section
/-! a group within a group; orders; signs; how many are enough; what points can come -/
section LAG
variable {n : Nat}
/-- one comes of the other by the group -/
def DH (n : Nat) (H : Nat → Prop) (a b : Nat) : Prop := H (cM n a (iM n b))
theorem c_iM_e (hn : n ≤ 7) {a : Nat} (ha : Mv n a) : cM n a (iM n a) = eM n := c_iM hn ha
theorem DH_rf (hn : n ≤ 7) {H : Nat → Prop} (hC : Cl n H) {a : Nat} (ha : Mv n a) : DH n H a a := by
  unfold DH
  rw [c_iM hn ha]
  exact hC.2.2
theorem DH_sy (hn : n ≤ 7) {H : Nat → Prop} (hC : Cl n H) {a b : Nat} (ha : Mv n a) (hb : Mv n b) (h : DH n H a b) : DH n H b a := by
  unfold DH at *
  have h1 := hC.2.1 _ (cM_Mv hn ha (iM_Mv hn hb)) h
  rw [iM_cM hn ha (iM_Mv hn hb), iM_iM hn hb] at h1
  exact h1
theorem DH_tr (hn : n ≤ 7) {H : Nat → Prop} (hC : Cl n H) {a b c : Nat} (ha : Mv n a) (hb : Mv n b) (hc : Mv n c) (h : DH n H a b) (h' : DH n H b c) : DH n H a c := by
  unfold DH at *
  have h1 := hC.1 _ _ (cM_Mv hn ha (iM_Mv hn hb)) (cM_Mv hn hb (iM_Mv hn hc)) h h'
  rw [← cM_assoc hn (cM_Mv hn ha (iM_Mv hn hb)) hb (iM_Mv hn hc), cM_back hn ha hb] at h1
  exact h1
theorem sm_mulr (f : Nat → Nat) (c : Nat) : ∀ k, sm (fun i => f i * c) k = sm f k * c
  | 0 => (Nat.zero_mul c).symm
  | k + 1 => by
    show sm (fun i => f i * c) k + f k * c = (sm f k + f k) * c
    rw [sm_mulr f c k, Nat.add_mul]
/-- the number of a group's moves is a multiple of a lesser group's -/
theorem lagr (h1 : 1 ≤ n) (hn : n ≤ 7) {K H : Nat → Prop} (hK : Cl n K) (hH : Cl n H) (hs : ∀ x, Mv n x → H x → K x) : ∃ m, cd n K = m * cd n H := by
  have hX := fun k => XM_Mv (n := n) h1 hn k
  have hHK : ∀ i r, DH n H (XM n i) (XM n r) → K (XM n r) → K (XM n i) := fun i r h hr => by
    have h3 := hK.1 _ _ (cM_Mv hn (hX i) (iM_Mv hn (hX r))) (hX r) (hs _ (cM_Mv hn (hX i) (iM_Mv hn (hX r))) h) hr
    rw [cM_back hn (hX i) (hX r)] at h3
    exact h3
  let R : Nat → Prop := fun r => K (XM n r) ∧ ∀ j, j < r → ¬ DH n H (XM n j) (XM n r)
  refine ⟨ct R (fc n), ?_⟩
  have e1 : cd n K = sm (fun i => sm (fun r => on (R r ∧ DH n H (XM n i) (XM n r))) (fc n)) (fc n) := by
    refine sm_congr (fc n) (fun i hi => ?_)
    show on (K (XM n i)) = _
    by_cases q : K (XM n i)
    · obtain ⟨r, r1, r2, r3⟩ := least (P := fun r => DH n H (XM n r) (XM n i)) i (DH_rf hn hH (hX i))
      have hRr : R r := ⟨hHK r i r2 q, fun j hj h => r3 j hj (DH_tr hn hH (hX j) (hX r) (hX i) h r2)⟩
      rw [on_t q]
      refine (sm_one (fc n) (v := r) (by omega) (fun r' hr' hne => on_f (fun h => ?_)) (on_t ⟨hRr, DH_sy hn hH (hX r) (hX i) r2⟩)).symm
      have h4 : DH n H (XM n r') (XM n r) := DH_tr hn hH (hX r') (hX i) (hX r) (DH_sy hn hH (hX i) (hX r') h.2) (DH_sy hn hH (hX r) (hX i) r2)
      rcases Nat.lt_or_gt_of_ne hne with w | w
      · exact hRr.2 r' w h4
      · exact h.1.2 r w (DH_sy hn hH (hX r') (hX r) h4)
    · rw [on_f q, sm_congr (g := fun _ => 0) (fc n) (fun r _ => on_f (fun h => q (hHK i r h.2 h.1.1))), sm_0]
  rw [e1, sm_swap, sm_congr (g := fun r => on (R r) * cd n H) (fc n) (fun r hr => ?_), sm_mulr]
  · rfl
  · by_cases q : R r
    · rw [on_t q, Nat.one_mul, ← cd_t h1 hn (P := H) (iM_Mv hn (hX r))]
      exact sm_congr (fc n) (fun i _ => on_iff ⟨fun h => h.2, fun h => ⟨q, h⟩⟩)
    · rw [on_f q, Nat.zero_mul, sm_congr (g := fun _ => 0) (fc n) (fun i _ => on_f (fun h => q h.1)), sm_0]
theorem lagr_d (h1 : 1 ≤ n) (hn : n ≤ 7) {K H : Nat → Prop} (hK : Cl n K) (hH : Cl n H) (hs : ∀ x, Mv n x → H x → K x) : cd n H ∣ cd n K := by
  obtain ⟨m, h⟩ := lagr h1 hn hK hH hs
  exact ⟨m, by rw [h, Nat.mul_comm]⟩
theorem sm_k (c : Nat) : ∀ k, sm (fun _ => c) k = k * c
  | 0 => (Nat.zero_mul c).symm
  | k + 1 => by
    show sm (fun _ => c) k + c = (k + 1) * c
    rw [sm_k c k, Nat.succ_mul]
theorem cd_all : cd n (fun _ => True) = fc n := by
  show sm (fun _ => on True) (fc n) = fc n
  rw [on_t (p := True) trivial, sm_k, Nat.mul_one]
theorem Cl_all : Cl n (fun _ => True) := ⟨fun _ _ _ _ _ _ => trivial, fun _ _ _ => trivial, trivial⟩
theorem cd_fc (h1 : 1 ≤ n) (hn : n ≤ 7) {H : Nat → Prop} (hH : Cl n H) : cd n H ∣ fc n := by
  have := lagr_d h1 hn Cl_all hH (fun _ _ _ => trivial)
  rw [cd_all] at this
  exact this
/-! a move's powers -/
def Pw (x y : Nat) : Prop := ∃ k, y = it7 x k
theorem it7_add (hn : n ≤ 7) {x : Nat} (hx : Mv n x) (a b : Nat) : cM n (it7 x a) (it7 x b) = it7 x (a + b) := by
  have ha := it7_M hn hx a
  have hb := it7_M hn hx b
  have hab := it7_M hn hx (a + b)
  refine (cM_Mv hn ha.1 hb.1).ext hab.1 (fun p hp => ?_)
  rw [cM_d hn ha.1 hb.1 hp, hab.2 p hp, ha.2 p hp, hb.2 _ (it_lt hx.2.1 hp a), Nat.add_comm a b, it_add]
theorem it7_0 (hn : n ≤ 7) {x : Nat} (hx : Mv n x) : it7 x 0 = eM n :=
  (it7_M hn hx 0).1.ext (eM_Mv hn) (fun p hp => by rw [(it7_M hn hx 0).2 p hp, eM_d hn hp]; rfl)
theorem it7_e (hn : n ≤ 7) {x : Nat} (hx : Mv n x) (k : Nat) : it7 x k = eM n ↔ oC x ∣ k := by
  have hP := hx.P7 hn
  have h1 := olc_12 hP
  have h2 : oC x = olc (ln x) 7 := ocL_is hx.1 hP 11 0 h1.1 (by omega)
  have hM := it7_M hn hx k
  have hM7 := it7_M (n := 7) (Nat.le_refl 7) (x := x) ⟨hx.1, hP, fun p h1 h2 => absurd h2 (by omega)⟩ k
  rw [h2, olc_dvd]
  constructor
  · intro e i hi
    rw [← it_dvd hP hi, ← hM7.2 i hi, e]
    by_cases q : i < n
    · exact eM_d hn q
    · exact (eM_Mv hn).2.2 i (by omega) hi
  · intro h
    refine hM.1.ext (eM_Mv hn) (fun p hp => ?_)
    rw [hM.2 p hp, eM_d hn hp]
    exact (it_dvd hP (by omega) k).mpr (h p (by omega))
theorem oC_pos (hn : n ≤ 7) {x : Nat} (hx : Mv n x) : 1 ≤ oC x := by
  have hP := hx.P7 hn
  have h1 := olc_12 hP
  have h2 : oC x = olc (ln x) 7 := ocL_is hx.1 hP 11 0 h1.1 (by omega)
  omega
theorem it7_mod (hn : n ≤ 7) {x : Nat} (hx : Mv n x) (k : Nat) : it7 x k = it7 x (k % oC x) := by
  have h := (it7_e hn hx (oC x * (k / oC x))).mpr ⟨_, rfl⟩
  have h2 := it7_add hn hx (oC x * (k / oC x)) (k % oC x)
  rw [h, eM_c hn (it7_M hn hx _).1, Nat.div_add_mod] at h2
  exact h2.symm
theorem it7_ij (hn : n ≤ 7) {x : Nat} (hx : Mv n x) {a b : Nat} (hab : a ≤ b) (hb : b < oC x) (e : it7 x a = it7 x b) : a = b := by
  have h2 := it7_add hn hx (oC x - b) a
  have h3 := it7_add hn hx (oC x - b) b
  rw [e, h3, show oC x - b + b = oC x by omega, (it7_e hn hx (oC x)).mpr (Nat.dvd_refl _)] at h2
  have h4 := (it7_e hn hx _).mp h2.symm
  have h5 := Nat.le_of_dvd (by omega) h4
  omega
theorem Pw_Cl (hn : n ≤ 7) {x : Nat} (hx : Mv n x) : Cl n (Pw x) := by
  refine ⟨fun a b _ _ ⟨i, hi⟩ ⟨j, hj⟩ => ⟨i + j, by rw [hi, hj]; exact it7_add hn hx i j⟩, fun a ha ⟨i, hi⟩ => ⟨i * 419, ?_⟩, ⟨0, (it7_0 hn hx).symm⟩⟩
  have hM := it7_M hn hx i
  have h1 : cM n (it7 x (i * 419)) a = eM n := by
    rw [hi, it7_add hn hx, show i * 419 + i = 420 * i by omega, it7_e hn hx]
    exact Nat.dvd_trans ((it7_e hn hx 420).mp (it7_420 hn hx)) ⟨i, rfl⟩
  have h2 := cM_forth hn (it7_M hn hx (i * 419)).1 ha
  rw [h1, eM_c hn (iM_Mv hn ha)] at h2
  exact h2
theorem cd_Pw (h1 : 1 ≤ n) (hn : n ≤ 7) {x : Nat} (hx : Mv n x) : cd n (Pw x) = oC x := by
  have ho := oC_pos hn hx
  have e1 : cd n (Pw x) = sm (fun i => sm (fun k => on (XM n i = it7 x k)) (oC x)) (fc n) := by
    refine sm_congr (fc n) (fun i hi => ?_)
    show on (Pw x (XM n i)) = _
    by_cases q : Pw x (XM n i)
    · obtain ⟨k, hk⟩ := q
      rw [it7_mod hn hx] at hk
      have hm := Nat.mod_lt k (show 0 < oC x by omega)
      rw [on_t (p := Pw x (XM n i)) ⟨_, hk⟩]
      refine (sm_one (f := fun k => on (XM n i = it7 x k)) (oC x) hm (fun k' hk' hne => on_f (fun e => hne ?_)) (on_t hk)).symm
      rcases Nat.le_total k' (k % oC x) with w | w
      · exact it7_ij hn hx w hm (e.symm.trans hk)
      · exact (it7_ij hn hx w hk' (hk.symm.trans e)).symm
    · rw [on_f q, sm_congr (g := fun _ => 0) (oC x) (fun k _ => on_f (fun e => q ⟨k, e⟩)), sm_0]
  rw [e1, sm_swap, sm_congr (g := fun _ => 1) (oC x) (fun k _ => ?_), sm_k, Nat.mul_one]
  have hM := (it7_M hn hx k).1
  refine sm_one (fc n) (nu_b n (it7 x k)) (fun i hi hne => on_f (fun e => hne ?_)) (on_t (XM_nu h1 hn hM))
  rw [← e, nu_XM h1 hn hi]
theorem order_d (h1 : 1 ≤ n) (hn : n ≤ 7) {G : Nat → Prop} (hG : Cl n G) {x : Nat} (hx : Mv n x) (h : G x) : oC x ∣ cd n G := by
  rw [← cd_Pw h1 hn hx]
  refine lagr_d h1 hn hG (Pw_Cl hn hx) (fun y _ ⟨k, hk⟩ => ?_)
  rw [hk]
  have hp : ∀ k, G (it7 x k) := by
    intro k
    induction k with
    | zero => rw [it7_0 hn hx]; exact hG.2.2
    | succ k ih =>
      rw [← it7_add hn hx k 1]
      have e1 : it7 x 1 = x := (it7_M hn hx 1).1.ext hx (fun p hp => by rw [(it7_M hn hx 1).2 p hp]; rfl)
      rw [e1]
      exact hG.1 _ _ (it7_M hn hx k).1 hx ih h
  exact hp k
/-! how many are enough -/
theorem cd_twice (h1 : 1 ≤ n) (hn : n ≤ 7) {K H : Nat → Prop} (hK : Cl n K) (hH : Cl n H) (hs : ∀ x, Mv n x → H x → K x) {x : Nat} (hx : Mv n x) (hk : K x) (hh : ¬ H x) : 2 * cd n H ≤ cd n K := by
  obtain ⟨m, e⟩ := lagr h1 hn hK hH hs
  have hl : cd n H < cd n K := ct_lt (c := nu n x) (fun i _ h => hs _ (XM_Mv h1 hn i) h) (nu_b n x) (by rw [XM_nu h1 hn hx]; exact hh) (by rw [XM_nu h1 hn hx]; exact hk)
  have h2 : 2 ≤ m := by
    rcases Nat.lt_or_ge m 2 with q | q
    · have : m = 0 ∨ m = 1 := by omega
      rcases this with w | w <;> rw [w] at e <;> omega
    · exact q
  rw [e]
  exact Nat.mul_le_mul_right _ h2
theorem Gg_sub (hn : n ≤ 7) {gn gn' : Nat → Prop} (hM : ∀ y, gn' y → Mv n y) (h : ∀ y, gn y → Gg n gn' y) {x : Nat} (hx : Gg n gn x) : Gg n gn' x :=
  hx (Gg n gn') Gg_e (fun _ b _ ha hb => Gg_mul hn hM ha (h b hb))
section ENF
variable {cm : Nat → Nat} {s : Nat}
theorem enS_le : ∀ c j, (enF n cm s c).testBit j = true → j < c ∧ s.testBit j = true
  | 0, j, h => absurd h (by rw [show enF n cm s 0 = 0 from rfl, Nat.zero_testBit]; decide)
  | c + 1, j, h => by
    by_cases q : s.testBit c = true ∧ ¬ Gg n (gS cm s c) (cm c)
    · rw [enF_t q.1 q.2, set_bit, Bool.or_eq_true, decide_eq_true_eq] at h
      rcases h with h | h
      · have := enS_le c j h
        exact ⟨by omega, this.2⟩
      · rw [← h]; exact ⟨by omega, q.1⟩
    · rw [enF_f q] at h
      have := enS_le c j h
      exact ⟨by omega, this.2⟩
theorem gS_up {c : Nat} : ∀ y, gS cm s c y → gS cm s (c + 1) y := fun _ ⟨j, h1, h2, h3⟩ => ⟨j, by omega, h2, h3⟩
theorem gS_new {c : Nat} (hn : n ≤ 7) (hM : ∀ c, c < 6 → Mv n (cm c)) (hc : c < 6) (q : ¬ (s.testBit c = true ∧ ¬ Gg n (gS cm s c) (cm c))) {y : Nat} : Gg n (gS cm s (c + 1)) y ↔ Gg n (gS cm s c) y := by
  refine ⟨fun h => Gg_sub hn (gS_M (by omega) hM) (fun y ⟨j, h1, h2, h3⟩ => ?_) h, fun h => Gg_mono gS_up h⟩
  by_cases e : j = c
  · rw [e] at h2 h3
    rw [h3]
    exact Classical.byContradiction fun w => q ⟨h2, w⟩
  · exact Gg_of hn (gS_M (by omega) hM) ⟨j, by omega, h2, h3⟩
theorem gS_oS {e c : Nat} : ∀ y, gS cm e 6 y → gS cm (e ||| 2 ^ c) 6 y := fun _ ⟨j, h1, h2, h3⟩ => ⟨j, h1, by rw [set_bit, h2, Bool.true_or], h3⟩
/-- the taken ones make the same group -/
theorem enF_grp (hn : n ≤ 7) (hM : ∀ c, c < 6 → Mv n (cm c)) : ∀ c, c ≤ 6 → ∀ y, Gg n (gS cm (enF n cm s c) 6) y ↔ Gg n (gS cm s c) y
  | 0, _, y => ⟨Gg_mono (fun _ ⟨j, _, h2, _⟩ => absurd h2 (by rw [show enF n cm s 0 = 0 from rfl, Nat.zero_testBit]; decide)), Gg_mono (fun _ ⟨j, h1, _, _⟩ => absurd h1 (Nat.not_lt_zero j))⟩
  | c + 1, hc, y => by
    have ih := enF_grp hn hM c (by omega)
    by_cases q : s.testBit c = true ∧ ¬ Gg n (gS cm s c) (cm c)
    · rw [enF_t q.1 q.2]
      constructor
      · refine Gg_sub hn (gS_M hc hM) (fun z ⟨j, h1, h2, h3⟩ => ?_)
        rw [set_bit, Bool.or_eq_true, decide_eq_true_eq] at h2
        rcases h2 with h2 | h2
        · exact Gg_mono gS_up ((ih z).mp (Gg_of hn (gS_M (Nat.le_refl 6) hM) ⟨j, h1, h2, h3⟩))
        · exact Gg_of hn (gS_M hc hM) ⟨c, by omega, q.1, by rw [h3, ← h2]⟩
      · refine Gg_sub hn (gS_M (Nat.le_refl 6) hM) (fun z ⟨j, h1, h2, h3⟩ => ?_)
        by_cases e : j = c
        · exact Gg_of hn (gS_M (Nat.le_refl 6) hM) ⟨c, by omega, by rw [set_bit, decide_eq_true rfl, Bool.or_true], by rw [h3, e]⟩
        · exact Gg_mono gS_oS ((ih z).mpr (Gg_of hn (gS_M (by omega) hM) ⟨j, by omega, h2, h3⟩))
    · rw [enF_f q]
      exact (ih y).trans (gS_new hn hM (by omega) q).symm
theorem cnt_1m {B B' : Nat → Bool} {c : Nat} (hb : B c = false) (hb' : B' c = true) (h : ∀ j, j ≠ c → B' j = B j) : ∀ N, cnt B' N = cnt B N + (if c < N then 1 else 0)
  | 0 => rfl
  | N + 1 => by
    show cnt B' N + (if B' N = true then 1 else 0) = (cnt B N + (if B N = true then 1 else 0)) + (if c < N + 1 then 1 else 0)
    rw [cnt_1m hb hb' h N]
    by_cases e : N = c
    · subst e
      rw [hb, hb', if_neg (Nat.lt_irrefl N), if_pos rfl, if_neg (by decide : ¬ false = true), if_pos (Nat.lt_succ_self N)]
    · rw [h N e]
      by_cases q : c < N
      · rw [if_pos q, if_pos (show c < N + 1 by omega)]; omega
      · rw [if_neg q, if_neg (show ¬ c < N + 1 by omega)]; omega
theorem enF_2 (h1 : 1 ≤ n) (hn : n ≤ 7) (hM : ∀ c, c < 6 → Mv n (cm c)) : ∀ c, c ≤ 6 → 2 ^ cnt (fun i => (enF n cm s c).testBit i) 32 ≤ cd n (Gg n (gS cm s c))
  | 0, _ => by
    have e : cnt (fun i => (enF n cm s 0).testBit i) 32 = 0 := cnt_0 32 (fun i _ => Nat.zero_testBit i)
    rw [e]
    exact cd_pos h1 hn (eM_Mv hn) Gg_e
  | c + 1, hc => by
    have ih := enF_2 h1 hn hM c (by omega)
    by_cases q : s.testBit c = true ∧ ¬ Gg n (gS cm s c) (cm c)
    · have e : cnt (fun i => (enF n cm s (c + 1)).testBit i) 32 = cnt (fun i => (enF n cm s c).testBit i) 32 + 1 := by
        rw [enF_t q.1 q.2]
        have h3 := cnt_1m (B := fun i => (enF n cm s c).testBit i) (B' := fun i => (enF n cm s c ||| 2 ^ c).testBit i) (c := c) (Bool.eq_false_iff.mpr (fun h => absurd (enS_le c c h).1 (Nat.lt_irrefl c))) (by show (enF n cm s c ||| 2 ^ c).testBit c = true; rw [set_bit, decide_eq_true rfl, Bool.or_true]) (fun j hj => by show (enF n cm s c ||| 2 ^ c).testBit j = _; rw [set_bit, decide_eq_false (fun e => hj e.symm), Bool.or_false]) 32
        rw [h3, if_pos (by omega)]
      rw [e, Nat.pow_succ, Nat.mul_comm]
      refine Nat.le_trans (Nat.mul_le_mul_left 2 ih) (cd_twice h1 hn (Gg_Cl hn (gS_M hc hM)) (Gg_Cl hn (gS_M (by omega) hM)) (fun x _ h => Gg_mono gS_up h) (hM c (by omega)) (Gg_of hn (gS_M hc hM) ⟨c, by omega, q.1, rfl⟩) q.2)
    · rw [enF_f q, cd_iff h1 hn (fun y _ => gS_new hn hM (by omega) q)]
      exact ih
theorem enF_lt : ∀ c, c ≤ 6 → enF n cm s c < 64 := fun c hc => by
  refine Nat.lt_of_not_le (fun h => ?_)
  obtain ⟨i, hi, h2⟩ := Nat.exists_ge_and_testBit_of_ge_two_pow (n := 6) h
  have := enS_le c i h2
  omega
end ENF
/-! ranks there and back -/
theorem WT_le1 (h1 : 1 ≤ n) (hn : n ≤ 7) {T : Nat → Prop} {rd : Nat → Nat} (hrd : Pn n rd) {y m : Nat} (hy : Mv n y) (hm : n = m + 1) : WT n T rd y m (d8 y (rd m)) ≤ 1 := by
  have e : WT n T rd y m (d8 y (rd m)) ≤ ct (fun k => k = nu n y) (fc n) := sm_mono (fc n) (fun k hk => by
    by_cases q : T (XM n k) ∧ (∀ j, j < m → d8 (XM n k) (rd j) = d8 y (rd j)) ∧ d8 (XM n k) (rd m) = d8 y (rd m)
    · have e2 : XM n k = y := (XM_Mv h1 hn k).ext hy (fun p hp => by
        obtain ⟨j, hj, e⟩ := inj_surj n rd hrd p hp
        rw [← e]
        by_cases w : j < m
        · exact q.2.1 j w
        · rw [show j = m by omega]; exact q.2.2)
      rw [on_t q, on_t (p := k = nu n y) (by rw [← e2, nu_XM h1 hn hk])]
      exact Nat.le_refl _
    · rw [on_f q]; exact Nat.zero_le _)
  refine Nat.le_trans e ?_
  show sm (fun k => on (k = nu n y)) (fc n) ≤ 1
  rw [sm_one (c := 1) (f := fun k => on (k = nu n y)) (fc n) (nu_b n y) (fun i _ hne => on_f hne) (on_t rfl)]
  exact Nat.le_refl _
theorem GK_rk (h1 : 1 ≤ n) (hn : n ≤ 7) {T : Nat → Prop} {rd : Nat → Nat} (hrd : Pn n rd) {rank y : Nat} (hy : Mv n y) (h : GK n T rd rank y) : rkS n T rd y n = rank := by
  obtain ⟨lf, l0, l1⟩ := h
  have hs : ∀ l, l ≤ n → rkS n T rd y l + lf l = rank := by
    intro l
    induction l with
    | zero => intro _; rw [l0]; exact Nat.zero_add _
    | succ l ih =>
      intro hl
      have h3 := ih (by omega)
      have h4 := (l1 l (by omega)).1
      show rkS n T rd y l + sm (WT n T rd y l) (d8 y (rd l)) + lf (l + 1) = rank
      omega
  obtain ⟨m, hm⟩ : ∃ m, n = m + 1 := ⟨n - 1, by omega⟩
  have h3 := hs n (Nat.le_refl n)
  have h4 := (l1 m (by omega)).2
  have h5 := WT_le1 h1 hn (T := T) hrd hy hm
  rw [← hm] at h4
  omega
/-! signs -/
def tri (g : Nat → Nat → Nat) : Nat → Nat
  | 0 => 0
  | m + 1 => tri g m + sm (g m) m
theorem tri_2 {g : Nat → Nat → Nat} (hs : ∀ p q, g p q = g q p) (h0 : ∀ p, g p p = 0) : ∀ m, sm (fun p => sm (g p) m) m = 2 * tri g m
  | 0 => rfl
  | m + 1 => by
    show sm (fun p => sm (g p) m + g p m) m + (sm (g m) m + g m m) = 2 * (tri g m + sm (g m) m)
    rw [sm_add (fun p => sm (g p) m) (fun p => g p m), tri_2 hs h0 m, h0, sm_congr (f := fun p => g p m) (g := g m) m (fun p _ => hs p m)]
    omega
theorem tri_m {g : Nat → Nat → Nat} : ∀ m, tri (fun p q => 2 * g p q) m = 2 * tri g m
  | 0 => rfl
  | m + 1 => by
    show tri (fun p q => 2 * g p q) m + sm (fun q => 2 * g m q) m = 2 * (tri g m + sm (g m) m)
    rw [tri_m m, sm_congr (f := fun q => 2 * g m q) (g := fun q => g m q * 2) m (fun q _ => Nat.mul_comm _ _), sm_mulr]
    omega
def sI (f : Nat → Nat) (p q : Nat) : Nat := if (p < q ∧ f q < f p) ∨ (q < p ∧ f p < f q) then 1 else 0
theorem sI_sy (f : Nat → Nat) (p q : Nat) : sI f p q = sI f q p := by
  unfold sI
  by_cases h : (p < q ∧ f q < f p) ∨ (q < p ∧ f p < f q)
  · rw [if_pos h, if_pos h.symm]
  · rw [if_neg h, if_neg (fun w => h w.symm)]
theorem sI_0 (f : Nat → Nat) (p : Nat) : sI f p p = 0 := if_neg (by omega)
theorem iv_tri (f : Nat → Nat) : ∀ m, iv f 0 m = tri (sI f) m
  | 0 => rfl
  | m + 1 => by
    have e : ∀ q, q ≤ m → ivP f 0 m q = sm (sI f m) q := by
      intro q
      induction q with
      | zero => intro _; rfl
      | succ q ih =>
        intro hq
        show ivP f 0 m q + (if f (0 + m) < f (0 + q) then 1 else 0) = sm (sI f m) q + sI f m q
        rw [ih (by omega), Nat.zero_add, Nat.zero_add]
        unfold sI
        by_cases w : f m < f q
        · rw [if_pos w, if_pos (Or.inr ⟨by omega, w⟩)]
        · rw [if_neg w, if_neg (by omega)]
    show iv f 0 m + ivP f 0 m m = tri (sI f) m + sm (sI f m) m
    rw [iv_tri f m, e m (Nat.le_refl m)]
theorem sI_x {f g : Nat → Nat} {p q : Nat} (h1 : f p = f q → p = q) (h2 : g (f p) = g (f q) → f p = f q) : sI (fun i => g (f i)) p q + 2 * (sI f p q * sI g (f p) (f q)) = sI f p q + sI g (f p) (f q) := by
  by_cases e : p = q
  · subst e
    rw [sI_0, sI_0, sI_0]
  · have e1 : f p ≠ f q := fun w => e (h1 w)
    have e2 : g (f p) ≠ g (f q) := fun w => e1 (h2 w)
    unfold sI
    show (if (p < q ∧ g (f q) < g (f p)) ∨ (q < p ∧ g (f p) < g (f q)) then 1 else 0) + _ = _
    by_cases a : p < q <;> by_cases b : f p < f q <;> by_cases c : g (f p) < g (f q)
    all_goals
      first
        | rw [if_pos (by omega), if_pos (by omega), if_pos (by omega)]
        | rw [if_pos (by omega), if_pos (by omega), if_neg (by omega)]
        | rw [if_pos (by omega), if_neg (by omega), if_pos (by omega)]
        | rw [if_pos (by omega), if_neg (by omega), if_neg (by omega)]
        | rw [if_neg (by omega), if_pos (by omega), if_pos (by omega)]
        | rw [if_neg (by omega), if_pos (by omega), if_neg (by omega)]
        | rw [if_neg (by omega), if_neg (by omega), if_pos (by omega)]
        | rw [if_neg (by omega), if_neg (by omega), if_neg (by omega)]
theorem iv_mul {f g : Nat → Nat} {n : Nat} (hf : Pn n f) (hg : Pn n g) : (iv (fun i => g (f i)) 0 n) % 2 = (iv f 0 n + iv g 0 n) % 2 := by
  have a1 := tri_2 (sI_sy (fun i => g (f i))) (sI_0 _) n
  have a2 := tri_2 (sI_sy f) (sI_0 f) n
  have a3 := tri_2 (sI_sy g) (sI_0 g) n
  have a4 := tri_2 (g := fun p q => 2 * (sI f p q * sI g (f p) (f q))) (fun p q => by rw [sI_sy f p q, sI_sy g (f p) (f q)]) (fun p => by rw [sI_0, Nat.zero_mul]) n
  rw [tri_m] at a4
  have b1 : sm (fun p => sm (fun q => sI g (f p) (f q)) n) n = sm (fun p => sm (sI g p) n) n := by
    rw [sm_congr (g := fun p => sm (sI g (f p)) n) n (fun p _ => sm_perm (G := sI g (f p)) hf)]
    exact sm_perm (G := fun u => sm (sI g u) n) hf
  have b2 : sm (fun p => sm (sI (fun i => g (f i)) p) n) n + sm (fun p => sm (fun q => 2 * (sI f p q * sI g (f p) (f q))) n) n = sm (fun p => sm (sI f p) n) n + sm (fun p => sm (fun q => sI g (f p) (f q)) n) n := by
    rw [← sm_add, ← sm_add]
    refine sm_congr n (fun p hp => ?_)
    rw [← sm_add, ← sm_add]
    exact sm_congr n (fun q hq => sI_x (hf.2 p q hp hq) (hg.2 _ _ (hf.1 p hp) (hf.1 q hq)))
  rw [b1, a1, a2, a3, a4] at b2
  rw [iv_tri, iv_tri f, iv_tri g]
  omega
theorem sgv_01 (k : Nat) : sgv k = nI 1 ↔ k % 2 = 0 := by
  unfold sgv
  by_cases e : k % 2 = 0
  · rw [if_pos e]; exact ⟨fun _ => e, fun _ => rfl⟩
  · rw [if_neg e]; exact ⟨fun w => absurd w (by decide), fun w => absurd w e⟩
theorem sg_mul (hn : n ≤ 7) {x y : Nat} (hx : Mv n x) (hy : Mv n y) (ho : ¬ sg n y = nI 1) : sg n (cM n x y) = nI 1 ↔ ¬ sg n x = nI 1 := by
  have e : iv (d8 (cM n x y)) 0 n = iv (fun i => d8 y (d8 x i)) 0 n := iv_congr (f := d8 (cM n x y)) (g := fun i => d8 y (d8 x i)) (fr := 0) (m := n) (fun i hi => by rw [Nat.zero_add, cM_d hn hx hy hi]) n (Nat.le_refl n)
  have h := iv_mul (n := n) hx.2.1 hy.2.1
  unfold sg at *
  rw [sgv_01] at *
  rw [e, sgv_01]
  omega
theorem even_d (h1 : 1 ≤ n) (hn : n ≤ 7) {G : Nat → Prop} (hG : Cl n G) : cd n (fun x => G x ∧ sg n x = nI 1) = cd n G ∨ 2 * cd n (fun x => G x ∧ sg n x = nI 1) = cd n G := by
  by_cases q : ∃ o, Mv n o ∧ G o ∧ ¬ sg n o = nI 1
  · obtain ⟨o, o1, o2, o3⟩ := q
    have e1 : cd n (fun x => G x ∧ ¬ sg n x = nI 1) = cd n (fun x => G x ∧ sg n x = nI 1) := by
      rw [← cd_t h1 hn (P := fun x => G x ∧ sg n x = nI 1) o1]
      refine cd_iff h1 hn (fun x hx => ⟨fun ⟨a, b⟩ => ⟨hG.1 _ _ hx o1 a o2, (sg_mul hn hx o1 o3).mpr b⟩, fun ⟨a, b⟩ => ⟨?_, (sg_mul hn hx o1 o3).mp b⟩⟩)
      have h3 := hG.1 _ _ (cM_Mv hn hx o1) (iM_Mv hn o1) a (hG.2.1 _ o1 o2)
      rw [cM_forth hn hx o1] at h3
      exact h3
    have e2 : cd n G = cd n (fun x => G x ∧ sg n x = nI 1) + cd n (fun x => G x ∧ ¬ sg n x = nI 1) := by
      rw [← cd_or (fun x a b => b.2 a.2)]
      exact cd_iff h1 hn (fun x _ => ⟨fun a => (Classical.em (sg n x = nI 1)).elim (fun b => Or.inl ⟨a, b⟩) (fun b => Or.inr ⟨a, b⟩), fun a => a.elim And.left And.left⟩)
    omega
  · exact Or.inl (cd_iff h1 hn (fun x hx => ⟨And.left, fun a => ⟨a, Classical.byContradiction fun b => q ⟨x, hx, a, b⟩⟩⟩))
/-! what points can come, level by level -/
def Sl (n : Nat) (G : Nat → Prop) (rd : Nat → Nat) (l x : Nat) : Prop := G x ∧ ∀ j, j < l → d8 x (rd j) = rd j
theorem cd_parts (h1 : 1 ≤ n) (hn : n ≤ 7) {P : Nat → Prop} {g : Nat → Nat} (hg : ∀ x, Mv n x → g x < n) : cd n P = sm (fun v => cd n (fun x => P x ∧ g x = v)) n := by
  show _ = sm (fun v => sm (fun i => on (P (XM n i) ∧ g (XM n i) = v)) (fc n)) n
  rw [sm_swap]
  refine sm_congr (fc n) (fun i _ => ?_)
  by_cases q : P (XM n i)
  · refine (on_t q).trans (sm_one n (hg _ (XM_Mv h1 hn i)) (fun v _ hne => on_f (fun a => hne a.2.symm)) (on_t ⟨q, rfl⟩)).symm
  · rw [on_f q, sm_congr (g := fun _ => 0) n (fun v _ => on_f (fun a => q a.1)), sm_0]
theorem Sl_s (h1 : 1 ≤ n) (hn : n ≤ 7) {G : Nat → Prop} (hG : Cl n G) {rd : Nat → Nat} (hrd : Pn n rd) {l : Nat} (hl : l < n) : cd n (Sl n G rd l) = ct (RP n G rd l) n * cd n (Sl n G rd (l + 1)) := by
  rw [cd_parts h1 hn (P := Sl n G rd l) (g := fun x => d8 x (rd l)) (fun x hx => hx.2.1.1 _ (hrd.1 l hl))]
  show _ = sm (fun v => on (RP n G rd l v)) n * _
  rw [← sm_mulr]
  refine sm_congr n (fun v hv => ?_)
  by_cases q : RP n G rd l v
  · rw [on_t q, Nat.one_mul]
    obtain ⟨h, hh, hGh, hf, he⟩ := q
    rw [← cd_t h1 hn (P := fun x => Sl n G rd l x ∧ d8 x (rd l) = v) hh]
    refine cd_iff h1 hn (fun x hx => ?_)
    have hd : ∀ j, j < n → d8 (cM n x h) (rd j) = d8 h (d8 x (rd j)) := fun j hj => cM_d hn hx hh (hrd.1 j hj)
    constructor
    · rintro ⟨⟨a, b⟩, c⟩
      refine ⟨?_, fun j hj => ?_⟩
      · have h3 := hG.1 _ _ (cM_Mv hn hx hh) (iM_Mv hn hh) a (hG.2.1 _ hh hGh)
        rw [cM_forth hn hx hh] at h3
        exact h3
      · by_cases e : j = l
        · rw [e]
          rw [hd l hl] at c
          exact hh.2.1.2 _ _ (hx.2.1.1 _ (hrd.1 l hl)) (hrd.1 l hl) (c.trans he.symm)
        · have h3 := b j (by omega)
          rw [hd j (by omega)] at h3
          exact hh.2.1.2 _ _ (hx.2.1.1 _ (hrd.1 j (by omega))) (hrd.1 j (by omega)) (h3.trans (hf j (by omega)).symm)
    · rintro ⟨a, b⟩
      refine ⟨⟨hG.1 _ _ hx hh a hGh, fun j hj => ?_⟩, ?_⟩
      · rw [hd j (by omega), b j (by omega)]; exact hf j hj
      · show d8 (cM n x h) (rd l) = v
        rw [hd l hl, b l (by omega)]; exact he
  · rw [on_f q, Nat.zero_mul]
    exact cd_0 h1 hn (fun x hx ⟨⟨a, b⟩, c⟩ => q ⟨x, hx, a, b, c⟩)
noncomputable def pR (n : Nat) (G : Nat → Prop) (rd : Nat → Nat) : Nat → Nat
  | 0 => 1
  | l + 1 => pR n G rd l * ct (RP n G rd l) n
theorem pR_is (h1 : 1 ≤ n) (hn : n ≤ 7) {G : Nat → Prop} (hG : Cl n G) {rd : Nat → Nat} (hrd : Pn n rd) : ∀ l, l ≤ n → pR n G rd l * cd n (Sl n G rd l) = cd n G
  | 0, _ => by
    show 1 * _ = _
    rw [Nat.one_mul]
    exact cd_iff h1 hn (fun x _ => ⟨And.left, fun a => ⟨a, fun j hj => absurd hj (Nat.not_lt_zero j)⟩⟩)
  | l + 1, hl => by
    show pR n G rd l * ct (RP n G rd l) n * cd n (Sl n G rd (l + 1)) = cd n G
    rw [Nat.mul_assoc, ← Sl_s h1 hn hG hrd (by omega)]
    exact pR_is h1 hn hG hrd l (by omega)
theorem pR_n (h1 : 1 ≤ n) (hn : n ≤ 7) {G : Nat → Prop} (hG : Cl n G) {rd : Nat → Nat} (hrd : Pn n rd) : pR n G rd n = cd n G := by
  have h := pR_is h1 hn hG hrd n (Nat.le_refl n)
  have e : cd n (Sl n G rd n) = 1 := by
    rw [← cd_e h1 hn]
    refine cd_iff h1 hn (fun x hx => ⟨fun ⟨_, b⟩ => hx.ext (eM_Mv hn) (fun p hp => ?_), fun e => ⟨by rw [e]; exact hG.2.2, fun j hj => by rw [e]; exact eM_d hn (hrd.1 j hj)⟩⟩)
    obtain ⟨j, hj, e⟩ := inj_surj n rd hrd p hp
    rw [← e, b j hj]
    exact (eM_d hn (hrd.1 j hj)).symm
  rw [e, Nat.mul_one] at h
  exact h
theorem pR_le (h1 : 1 ≤ n) (hn : n ≤ 7) {G : Nat → Prop} (hG : Cl n G) {rd : Nat → Nat} (hrd : Pn n rd) {l : Nat} (hl : l ≤ n) : pR n G rd l ≤ cd n G := by
  have h := pR_is h1 hn hG hrd l hl
  have h3 : 1 ≤ cd n (Sl n G rd l) := cd_pos h1 hn (eM_Mv hn) ⟨hG.2.2, fun j hj => eM_d hn (hrd.1 j (by omega))⟩
  rw [← h]
  exact Nat.le_mul_of_pos_right _ h3
end LAG
end
section
/-! colourings that are one by a group: the mean of those that stay -/
section BURN
variable {n co : Nat}
theorem sm_app (F : Nat → Nat) (a : Nat) : ∀ b, sm F (a + b) = sm F a + sm (fun i => F (a + i)) b
  | 0 => rfl
  | b + 1 => by
    show sm F (a + b) + F (a + b) = sm F a + (sm (fun i => F (a + i)) b + F (a + b))
    rw [sm_app F a b]
    omega
theorem sm_two (F : Nat → Nat) (N : Nat) : ∀ m, sm F (m * N) = sm (fun d => sm (fun r => F (d * N + r)) N) m
  | 0 => by rw [Nat.zero_mul]; rfl
  | m + 1 => by
    show sm F ((m + 1) * N) = sm (fun d => sm (fun r => F (d * N + r)) N) m + sm (fun r => F (m * N + r)) N
    rw [Nat.succ_mul, sm_app, sm_two F N m]
/-- a digit -/
def dgt (co k p : Nat) : Nat := k / co ^ p % co
theorem dgt_lt (h : 1 ≤ co) (k p : Nat) : dgt co k p < co := Nat.mod_lt _ h
theorem dgt_lo (h : 1 ≤ co) {d r m p : Nat} (hp : p < m) : dgt co (d * co ^ m + r) p = dgt co r p := by
  unfold dgt
  obtain ⟨j, hj⟩ : ∃ j, m = p + (j + 1) := ⟨m - p - 1, by omega⟩
  have e : d * co ^ m + r = r + co ^ p * (d * co ^ j * co) := by
    rw [hj, Nat.pow_add, Nat.pow_succ, Nat.add_comm, Nat.mul_left_comm, Nat.mul_assoc d]
  rw [e, Nat.add_mul_div_left _ _ (Nat.pow_pos h), Nat.add_mul_mod_self_right]
theorem dgt_hi (h : 1 ≤ co) {d r m : Nat} (hr : r < co ^ m) (hd : d < co) : dgt co (d * co ^ m + r) m = d := by
  unfold dgt
  rw [Nat.add_comm, Nat.add_mul_div_right _ _ (Nat.pow_pos h), Nat.div_eq_of_lt hr, Nat.zero_add, Nat.mod_eq_of_lt hd]
theorem dgt_sm (h : 1 ≤ co) {nx : Nat → Nat} (hd : ∀ q, nx q < co) : ∀ m q, q < m → dgt co (sm (fun q => nx q * co ^ q) m) q = nx q
  | 0, q, hq => absurd hq (Nat.not_lt_zero q)
  | m + 1, q, hq => by
    show dgt co (sm (fun q => nx q * co ^ q) m + nx m * co ^ m) q = nx q
    rw [Nat.add_comm]
    by_cases e : q = m
    · rw [e]
      exact dgt_hi h (sm_lt hd m) (hd m)
    · rw [dgt_lo h (by omega)]
      exact dgt_sm h hd m q (by omega)
theorem dgt_all (h : 1 ≤ co) (k : Nat) : ∀ m, sm (fun p => dgt co k p * co ^ p) m = k % co ^ m
  | 0 => by rw [Nat.pow_zero, Nat.mod_one]; rfl
  | m + 1 => by
    show sm (fun p => dgt co k p * co ^ p) m + dgt co k m * co ^ m = k % co ^ (m + 1)
    rw [dgt_all h k m, Nat.pow_succ, Nat.mod_mul, Nat.mul_comm (dgt co k m)]
    rfl
theorem dgt_ext (h : 1 ≤ co) {k k' : Nat} (hk : k < co ^ n) (hk' : k' < co ^ n) (e : ∀ p, p < n → dgt co k p = dgt co k' p) : k = k' := by
  have h1 := dgt_all h k n
  have h2 := dgt_all h k' n
  rw [Nat.mod_eq_of_lt hk] at h1
  rw [Nat.mod_eq_of_lt hk'] at h2
  rw [← h1, ← h2]
  exact sm_congr n (fun p hp => by rw [e p hp])
/-- the digits of a moved one -/
theorem cS_dgt (h : 1 ≤ co) {g : Nat → Nat} (hg : Pn n g) (k : Nat) {p : Nat} (hp : p < n) : dgt co (cS co n g k) (g p) = dgt co k p := by
  have hex : ∃ nx : Nat → Nat, (∀ q, nx q < co) ∧ ∀ p, p < n → nx (g p) = k / co ^ p % co := by
    refine ⟨fun q => @dite _ (∃ p, p < n ∧ g p = q) (Classical.propDecidable _) (fun h => k / co ^ (Classical.choose h) % co) (fun _ => 0), fun q => ?_, fun p hp => ?_⟩
    · by_cases c : ∃ p, p < n ∧ g p = q
      · show @dite _ _ (Classical.propDecidable _) _ _ < co
        rw [@dif_pos _ (Classical.propDecidable _) c]
        exact Nat.mod_lt _ h
      · show @dite _ _ (Classical.propDecidable _) _ _ < co
        rw [@dif_neg _ (Classical.propDecidable _) c]
        exact h
    · have c : ∃ p', p' < n ∧ g p' = g p := ⟨p, hp, rfl⟩
      show @dite _ _ (Classical.propDecidable _) _ _ = _
      rw [@dif_pos _ (Classical.propDecidable _) c]
      have hs := Classical.choose_spec c
      rw [hg.2 _ p hs.1 hp hs.2]
  obtain ⟨nx, h2, h3⟩ := hex
  rw [cS_nx hg h3, dgt_sm h h2 n _ (hg.1 p hp), h3 p hp]
  rfl
theorem cS_act (h : 1 ≤ co) (hn : n ≤ 7) {x y : Nat} (hx : Mv n x) (hy : Mv n y) (k : Nat) : cS co n (d8 y) (cS co n (d8 x) k) = cS co n (d8 (cM n x y)) k := by
  show sm (fun q => dgt co (cS co n (d8 x) k) q * co ^ d8 y q) n = sm (fun p => dgt co k p * co ^ d8 (cM n x y) p) n
  rw [← sm_perm (G := fun q => dgt co (cS co n (d8 x) k) q * co ^ d8 y q) hx.2.1]
  exact sm_congr n (fun p hp => by
    show dgt co (cS co n (d8 x) k) (d8 x p) * co ^ d8 y (d8 x p) = dgt co k p * co ^ d8 (cM n x y) p
    rw [cS_dgt h hx.2.1 k hp, cM_d hn hx hy hp])
theorem cS_e (h : 1 ≤ co) (hn : n ≤ 7) {k : Nat} (hk : k < co ^ n) : cS co n (d8 (eM n)) k = k := by
  have h2 := dgt_all h k n
  rw [Nat.mod_eq_of_lt hk] at h2
  refine Eq.trans (sm_congr n (fun p hp => ?_)) h2
  show dgt co k p * co ^ d8 (eM n) p = dgt co k p * co ^ p
  rw [eM_d hn hp]
/-! those that stay -/
def FxC (co : Nat) (f : Nat → Nat) (m k : Nat) : Prop := ∀ p, p < m → dgt co k (f p) = dgt co k p
theorem cS_FxC (h : 1 ≤ co) {g : Nat → Nat} (hg : Pn n g) {k : Nat} (hk : k < co ^ n) : cS co n g k = k ↔ FxC co g n k := by
  constructor
  · intro e p hp
    have := cS_dgt h hg k hp
    rw [e] at this
    exact this
  · intro hf
    refine dgt_ext h (cS_lt hg h) hk (fun q hq => ?_)
    obtain ⟨p, hp, e⟩ := inj_surj n g hg q hq
    rw [← e, cS_dgt h hg k hp, hf p hp]
theorem FxC_t {f : Nat → Nat} {m d r : Nat} (h : 1 ≤ co) (hf : Pn (m + 1) f) (hr : r < co ^ m) (hd : d < co) (e : f m = m) : FxC co f (m + 1) (d * co ^ m + r) ↔ FxC co (byp f m) m r := by
  have hne : ∀ p, p < m → f p ≠ m := fun p hp w => by have := hf.2 p m (by omega) (by omega) (w.trans e.symm); omega
  have hl : ∀ p, p < m → f p < m := fun p hp => by have := hf.1 p (by omega); have := hne p hp; omega
  constructor
  · intro hF p hp
    have h3 := hF p (by omega)
    rw [dgt_lo h (hl p hp), dgt_lo h hp] at h3
    rw [byp_f (hne p hp)]
    exact h3
  · intro hF p hp
    by_cases w : p = m
    · rw [w, e]
    · have h3 := hF p (by omega)
      rw [byp_f (hne p (by omega))] at h3
      rw [dgt_lo h (hl p (by omega)), dgt_lo h (by omega)]
      exact h3
theorem FxC_f {f : Nat → Nat} {m d r : Nat} (h : 1 ≤ co) (hf : Pn (m + 1) f) (hr : r < co ^ m) (hd : d < co) (e : ¬ f m = m) : FxC co f (m + 1) (d * co ^ m + r) ↔ (FxC co (byp f m) m r ∧ d = dgt co r (f m)) := by
  have hfm : f m < m := by have := hf.1 m (by omega); omega
  have hD : dgt co (d * co ^ m + r) m = d := dgt_hi h hr hd
  have hL : ∀ q, q < m → dgt co (d * co ^ m + r) q = dgt co r q := fun q hq => dgt_lo h hq
  constructor
  · intro hF
    have h0 := hF m (by omega)
    rw [hD, hL _ hfm] at h0
    refine ⟨fun p hp => ?_, h0.symm⟩
    have h3 := hF p (by omega)
    rw [hL p hp] at h3
    by_cases w : f p = m
    · rw [byp_n w]
      rw [w, hD] at h3
      rw [h0]; exact h3
    · rw [byp_f w]
      rw [hL _ (by have := hf.1 p (by omega); omega)] at h3
      exact h3
  · rintro ⟨hF, e2⟩ p hp
    by_cases q : p = m
    · rw [q, hD, hL _ hfm]; exact e2.symm
    · have h3 := hF p (by omega)
      rw [hL p (by omega)]
      by_cases w : f p = m
      · rw [byp_n w] at h3
        rw [w, hD, e2]; exact h3
      · rw [byp_f w] at h3
        rw [hL _ (by have := hf.1 p (by omega); omega)]
        exact h3
theorem FxC_ct (h : 1 ≤ co) : ∀ (m : Nat) (f : Nat → Nat), Pn m f → ct (FxC co f m) (co ^ m) = co ^ ct (Ld f) m
  | 0, f, _ => by
    rw [Nat.pow_zero]
    show 0 + on (FxC co f 0 0) = co ^ 0
    rw [on_t (p := FxC co f 0 0) (fun p hp => absurd hp (Nat.not_lt_zero p)), Nat.pow_zero]
  | m + 1, f, hf => by
    have ih := FxC_ct h m (byp f m) (byp_Pn hf)
    rw [Ld_ct hf, Nat.pow_succ, Nat.mul_comm (co ^ m) co]
    show sm (fun k => on (FxC co f (m + 1) k)) (co * co ^ m) = _
    rw [sm_two]
    by_cases e : f m = m
    · rw [if_pos e, sm_congr (g := fun _ => ct (FxC co (byp f m) m) (co ^ m)) co (fun d hd => sm_congr (co ^ m) (fun r hr => on_iff (FxC_t h hf hr hd e))), sm_k, ih, Nat.pow_succ, Nat.mul_comm]
    · rw [if_neg e]
      show _ = co ^ ct (Ld (byp f m)) m
      rw [← ih, sm_swap]
      refine sm_congr (co ^ m) (fun r hr => ?_)
      by_cases q : FxC co (byp f m) m r
      · rw [on_t q]
        refine sm_one co (dgt_lt h r (f m)) (fun d hd hne => on_f (fun w => hne ((FxC_f h hf hr hd e).mp w).2)) (on_t ((FxC_f h hf hr (dgt_lt h r (f m)) e).mpr ⟨q, rfl⟩))
      · rw [on_f q, sm_congr (g := fun _ => 0) co (fun d hd => on_f (fun w => q ((FxC_f h hf hr hd e).mp w).1)), sm_0]
theorem stay_ct (h : 1 ≤ co) (hn : n ≤ 7) {x : Nat} (hx : Mv n x) : ct (fun k => cS co n (d8 x) k = k) (co ^ n) = co ^ hr x n := by
  rw [hr_ct (hx.P7 hn) n hn, ← FxC_ct h n (d8 x) hx.2.1]
  exact ct_iff (fun k hk => cS_FxC h hx.2.1 hk)
/-! what comes of one: an orbit -/
section ORB
variable {cm : Nat → Nat} {s : Nat}
theorem Rc_G (h : 1 ≤ co) (hn : n ≤ 7) (hM : ∀ c, c < 6 → Mv n (cm c)) {j k : Nat} (hj : j < co ^ n) : Rc co n cm s j k ↔ ∃ x, Mv n x ∧ Gg n (gS cm s 6) x ∧ cS co n (d8 x) j = k := by
  constructor
  · intro r
    refine r (fun k => ∃ x, Mv n x ∧ Gg n (gS cm s 6) x ∧ cS co n (d8 x) j = k) ⟨eM n, eM_Mv hn, Gg_e, cS_e h hn hj⟩ (fun z c _ hc hs ⟨x, h1, h2, h3⟩ => ⟨cM n x (cm c), cM_Mv hn h1 (hM c hc), Gg_s h1 h2 ⟨c, hc, hs, rfl⟩, ?_⟩)
    rw [← cS_act h hn h1 (hM c hc), h3]
  · rintro ⟨x, _, h2, h3⟩
    have h4 := h2 (fun a => Mv n a ∧ Rc co n cm s j (cS co n (d8 a) j)) ⟨eM_Mv hn, by rw [cS_e h hn hj]; exact Rc_rf⟩ (fun a b ha hz hb => by
      obtain ⟨c, hc, hs, e⟩ := hb
      rw [e]
      refine ⟨cM_Mv hn ha (hM c hc), ?_⟩
      rw [← cS_act h hn ha (hM c hc)]
      exact Rc_s hz.2 (cS_lt ha.2.1 h) hc hs)
    rw [← h3]
    exact h4.2
theorem Rc_lt (h : 1 ≤ co) (hn : n ≤ 7) (hM : ∀ c, c < 6 → Mv n (cm c)) {j k : Nat} (hj : j < co ^ n) (r : Rc co n cm s j k) : k < co ^ n := by
  obtain ⟨x, h1, _, h3⟩ := (Rc_G h hn hM hj).mp r
  rw [← h3]
  exact cS_lt h1.2.1 h
theorem Rc_sy (h : 1 ≤ co) (hn : n ≤ 7) (hM : ∀ c, c < 6 → Mv n (cm c)) {j k : Nat} (hj : j < co ^ n) (r : Rc co n cm s j k) : Rc co n cm s k j := by
  obtain ⟨x, h1, h2, h3⟩ := (Rc_G h hn hM hj).mp r
  refine (Rc_G h hn hM (Rc_lt h hn hM hj r)).mpr ⟨iM n x, iM_Mv hn h1, (Gg_Cl hn (gS_M (Nat.le_refl 6) hM)).2.1 x h1 h2, ?_⟩
  rw [← h3, cS_act h hn h1 (iM_Mv hn h1), c_iM hn h1, cS_e h hn hj]
theorem cd_partsN (h1 : 1 ≤ n) (hn : n ≤ 7) {P : Nat → Prop} {g : Nat → Nat} {N : Nat} (hg : ∀ x, Mv n x → g x < N) : cd n P = sm (fun v => cd n (fun x => P x ∧ g x = v)) N := by
  show _ = sm (fun v => sm (fun i => on (P (XM n i) ∧ g (XM n i) = v)) (fc n)) N
  rw [sm_swap]
  refine sm_congr (fc n) (fun i _ => ?_)
  by_cases q : P (XM n i)
  · refine (on_t q).trans (sm_one N (hg _ (XM_Mv h1 hn i)) (fun v _ hne => on_f (fun a => hne a.2.symm)) (on_t ⟨q, rfl⟩)).symm
  · rw [on_f q, sm_congr (g := fun _ => 0) N (fun v _ => on_f (fun a => q a.1)), sm_0]
/-- how many of the group leave one as it is -/
noncomputable def sta (co n : Nat) (cm : Nat → Nat) (s k : Nat) : Nat := cd n (fun x => Gg n (gS cm s 6) x ∧ cS co n (d8 x) k = k)
theorem orb_sta (h : 1 ≤ co) (h1 : 1 ≤ n) (hn : n ≤ 7) (hM : ∀ c, c < 6 → Mv n (cm c)) {r : Nat} (hr : r < co ^ n) : ct (Rc co n cm s r) (co ^ n) * sta co n cm s r = cd n (Gg n (gS cm s 6)) := by
  have hG := Gg_Cl hn (gS_M (s := s) (Nat.le_refl 6) hM)
  rw [cd_partsN h1 hn (P := Gg n (gS cm s 6)) (g := fun x => cS co n (d8 x) r) (N := co ^ n) (fun x hx => cS_lt hx.2.1 h)]
  show sm (fun k => on (Rc co n cm s r k)) (co ^ n) * _ = _
  rw [← sm_mulr]
  refine sm_congr (co ^ n) (fun k hk => ?_)
  by_cases q : Rc co n cm s r k
  · rw [on_t q, Nat.one_mul]
    obtain ⟨t, t1, t2, t3⟩ := (Rc_G h hn hM hr).mp q
    rw [← cd_t h1 hn (P := fun x => Gg n (gS cm s 6) x ∧ cS co n (d8 x) r = k) t1]
    refine cd_iff h1 hn (fun x hx => ⟨fun ⟨a, b⟩ => ⟨hG.1 _ _ hx t1 a t2, by rw [← cS_act h hn hx t1, b]; exact t3⟩, fun ⟨a, b⟩ => ⟨?_, ?_⟩⟩)
    · have h3 := hG.1 _ _ (cM_Mv hn hx t1) (iM_Mv hn t1) a (hG.2.1 _ t1 t2)
      rw [cM_forth hn hx t1] at h3
      exact h3
    · have h3 : cS co n (d8 (iM n t)) (cS co n (d8 (cM n x t)) r) = cS co n (d8 (iM n t)) (cS co n (d8 t) r) := by rw [b, t3]
      rw [cS_act h hn (cM_Mv hn hx t1) (iM_Mv hn t1), cS_act h hn t1 (iM_Mv hn t1), cM_forth hn hx t1, c_iM hn t1, cS_e h hn hr] at h3
      exact h3
  · rw [on_f q, Nat.zero_mul]
    exact (cd_0 h1 hn (fun x hx ⟨a, b⟩ => q ((Rc_G h hn hM hr).mpr ⟨x, hx, a, b⟩))).symm
theorem sta_same (h : 1 ≤ co) (h1 : 1 ≤ n) (hn : n ≤ 7) (hM : ∀ c, c < 6 → Mv n (cm c)) {r k : Nat} (hr : r < co ^ n) (q : Rc co n cm s r k) : sta co n cm s k = sta co n cm s r := by
  have hk := Rc_lt h hn hM hr q
  have a := orb_sta h h1 hn hM hr (s := s)
  have b := orb_sta h h1 hn hM hk (s := s)
  have e : ct (Rc co n cm s k) (co ^ n) = ct (Rc co n cm s r) (co ^ n) := ct_iff (fun i _ => ⟨fun w => Rc_tr q w, fun w => Rc_tr (Rc_sy h hn hM hr q) w⟩)
  rw [e, ← a] at b
  have hp : 0 < cd n (Gg n (gS cm s 6)) := cd_pos h1 hn (eM_Mv hn) Gg_e
  rw [← a] at hp
  exact Nat.eq_of_mul_eq_mul_left (Nat.pos_of_mul_pos_right hp) b
theorem burn (h : 1 ≤ co) (h1 : 1 ≤ n) (hn : n ≤ 7) (hM : ∀ c, c < 6 → Mv n (cm c)) : cQ n (Gg n (gS cm s 6)) co = ct (fun k => ∀ j, j < k → ¬ Rc co n cm s j k) (co ^ n) := by
  have hp : 0 < cd n (Gg n (gS cm s 6)) := cd_pos h1 hn (eM_Mv hn) Gg_e
  have e1 : sm (fun i => on (Gg n (gS cm s 6) (XM n i)) * co ^ hr (XM n i) n) (fc n) = sm (fun k => sta co n cm s k) (co ^ n) := by
    show _ = sm (fun k => sm (fun i => on (Gg n (gS cm s 6) (XM n i) ∧ cS co n (d8 (XM n i)) k = k)) (fc n)) (co ^ n)
    rw [sm_swap]
    refine sm_congr (fc n) (fun i _ => ?_)
    rw [← stay_ct h hn (XM_Mv h1 hn i)]
    by_cases q : Gg n (gS cm s 6) (XM n i)
    · rw [on_t q, Nat.one_mul]
      exact sm_congr (co ^ n) (fun k _ => on_iff ⟨fun a => ⟨q, a⟩, fun a => a.2⟩)
    · rw [on_f q, Nat.zero_mul, sm_congr (g := fun _ => 0) (co ^ n) (fun k _ => on_f (fun a => q a.1)), sm_0]
  let R : Nat → Prop := fun k => ∀ j, j < k → ¬ Rc co n cm s j k
  have e2 : sm (fun k => sta co n cm s k) (co ^ n) = sm (fun k => sm (fun r => on (R r ∧ Rc co n cm s r k) * sta co n cm s k) (co ^ n)) (co ^ n) := by
    refine sm_congr (co ^ n) (fun k hk => ?_)
    obtain ⟨r, r1, r2, r3⟩ := least (P := fun r => Rc co n cm s r k) k Rc_rf
    have hRr : R r := fun j hj w => r3 j hj (Rc_tr w r2)
    refine (sm_one (f := fun r => on (R r ∧ Rc co n cm s r k) * sta co n cm s k) (co ^ n) (v := r) (by omega) (fun r' hr' hne => ?_) (by rw [on_t (p := R r ∧ Rc co n cm s r k) ⟨hRr, r2⟩, Nat.one_mul])).symm
    rw [on_f (p := R r' ∧ Rc co n cm s r' k) (fun w => ?_), Nat.zero_mul]
    have w3 : Rc co n cm s r' r := Rc_tr w.2 (Rc_sy h hn hM (by omega) r2)
    rcases Nat.lt_or_gt_of_ne hne with q | q
    · exact hRr r' q w3
    · exact w.1 r q (Rc_sy h hn hM hr' w3)
  have e3 : sm (fun k => sta co n cm s k) (co ^ n) = ct R (co ^ n) * cd n (Gg n (gS cm s 6)) := by
    rw [e2, sm_swap]
    show _ = sm (fun r => on (R r)) (co ^ n) * _
    rw [← sm_mulr]
    refine sm_congr (co ^ n) (fun r hr => ?_)
    by_cases q : R r
    · rw [on_t q, Nat.one_mul, ← orb_sta h h1 hn hM hr]
      show _ = sm (fun k => on (Rc co n cm s r k)) (co ^ n) * _
      rw [← sm_mulr]
      refine sm_congr (co ^ n) (fun k hk => ?_)
      by_cases w : Rc co n cm s r k
      · rw [on_t w, on_t (p := R r ∧ Rc co n cm s r k) ⟨q, w⟩, sta_same h h1 hn hM hr w]
      · rw [on_f w, on_f (p := R r ∧ Rc co n cm s r k) (fun a => w a.2), Nat.zero_mul, Nat.zero_mul]
    · rw [on_f q, Nat.zero_mul, sm_congr (g := fun _ => 0) (co ^ n) (fun k _ => by rw [on_f (p := R r ∧ Rc co n cm s r k) (fun a => q a.1), Nat.zero_mul]), sm_0]
  unfold cQ
  rw [e1, e3]
  exact Nat.mul_div_cancel _ hp
end ORB
end BURN
end
section
/-! rings counted by their lengths; what a digest is made of -/
section RLS
variable {n x : Nat}
theorem ld_Ld (hP : Pn 7 (d8 x)) {p : Nat} (hp : p < 7) : ld x p = true ↔ Ld (d8 x) p := by
  unfold ld
  constructor
  · intro h q hq ho
    have h1 := cnt_pos (P := fun i => (rg x p).testBit i) p q hq ((rg_bit hP hp).mpr ho)
    have h2 : cnt (fun i => (rg x p).testBit i) p = 0 := eq_of_beq h
    omega
  · intro h
    have h2 : cnt (fun i => (rg x p).testBit i) p = 0 := cnt_0 p (fun q hq => by
      cases e : (rg x p).testBit q
      · rfl
      · exact absurd ((rg_bit hP hp).mp e) (h q hq))
    rw [h2]
    rfl
theorem ld_fix (hn : n ≤ 7) (hx : Mv n x) {p : Nat} (h1 : n ≤ p) (h2 : p < 7) : ld x p = true := by
  rw [ld_Ld (hx.P7 hn) h2]
  have hf := hx.2.2 p h1 h2
  have hi : ∀ j, it (d8 x) j p = p := by
    intro j
    induction j with
    | zero => rfl
    | succ j ih =>
      show d8 x (it (d8 x) j p) = p
      rw [ih]; exact hf
  intro q hq ⟨j, hj⟩
  rw [hi j] at hj
  omega
theorem rl_7 (hn : n ≤ 7) (hx : Mv n x) (L : Nat) : ∀ k, n + k ≤ 7 → rl x L (n + k) = rl x L n + (if L = 1 then k else 0)
  | 0, _ => by
    show rl x L n = _
    split <;> omega
  | k + 1, hk => by
    show rl x L (n + k) + (if (ld x (n + k) && (ln x (n + k) == L)) = true then 1 else 0) = _
    rw [rl_7 hn hx L k (by omega), ld_fix hn hx (by omega) (by omega), ln_fix hn hx (by omega) (by omega), Bool.true_and]
    by_cases e : L = 1
    · subst e
      rw [if_pos rfl, if_pos rfl]
      show rl x 1 n + k + 1 = rl x 1 n + (k + 1)
      omega
    · rw [if_neg e, if_neg e, if_neg (fun h => e (eq_of_beq h).symm)]
theorem lo_rln (hn : n ≤ 7) (hx : Mv n x) {f : Nat → Nat} (hf : ∀ p, p < n → f p = d8 x p) {L : Nat} (hL : 1 ≤ L) : lo f n L n / L = rl x L n := by
  have h1 := lo_div hn hx hf hL
  have h2 := rl_7 hn hx L (7 - n) (by omega)
  rw [show n + (7 - n) = 7 by omega] at h2
  omega
theorem ln_n (hn : n ≤ 7) (hx : Mv n x) {p : Nat} (hp : p < n) : 1 ≤ ln x p ∧ ln x p ≤ n := by
  have h := ln_Pd (hx.P7 hn) (show p < 7 by omega)
  refine ⟨h.1, ?_⟩
  obtain ⟨K, k1, k2, k3, _⟩ := it_ret hx.2.1 hp
  rcases Nat.lt_or_ge K (ln x p) with q | q
  · exact absurd k3 (h.2.2.2 K k1 q)
  · omega
theorem cnt_sm (B : Nat → Bool) : ∀ m, cnt B m = sm (fun p => if B p = true then 1 else 0) m
  | 0 => rfl
  | m + 1 => by
    show cnt B m + (if B m = true then 1 else 0) = _
    rw [cnt_sm B m]
    rfl
/-- each ring has one length -/
theorem rl_sum (hn : n ≤ 7) (hx : Mv n x) : sm (fun j => rl x (j + 1) n) n = hr x n := by
  rw [hr_ct (hx.P7 hn) n hn, sm_congr (f := fun j => rl x (j + 1) n) (g := fun j => sm (fun p => if (ld x p && (ln x p == j + 1)) = true then 1 else 0) n) n (fun j _ => cnt_sm _ n), sm_swap (fun j p => if (ld x p && (ln x p == j + 1)) = true then 1 else 0)]
  refine sm_congr n (fun p hp => ?_)
  have hl := ln_n hn hx hp
  by_cases q : ld x p = true
  · rw [on_t ((ld_Ld (hx.P7 hn) (by omega)).mp q)]
    refine sm_one n (v := ln x p - 1) (by omega) (fun j hj hne => if_neg (fun h => ?_)) (if_pos ?_)
    · rw [q, Bool.true_and] at h
      have := eq_of_beq h
      omega
    · rw [q, Bool.true_and, show ln x p - 1 + 1 = ln x p by omega]
      exact beq_self_eq_true _
  · rw [on_f (fun h => q ((ld_Ld (hx.P7 hn) (by omega)).mpr h)), sm_congr (g := fun _ => 0) n (fun j _ => if_neg (fun h => q (by rw [Bool.and_eq_true] at h; exact h.1))), sm_0]
theorem ct_1 {P : Nat → Prop} (h : P 0) {m : Nat} (hm : 1 ≤ m) : 1 ≤ ct P m := by
  have h2 := sm_ge (f := fun i => on (P i)) (v := 0) m hm
  have h3 : on (P 0) = 1 := on_t h
  show 1 ≤ sm (fun i => on (P i)) m
  omega
theorem hr_pos (h1 : 1 ≤ n) (hn : n ≤ 7) (hx : Mv n x) : 1 ≤ hr x n := by
  rw [hr_ct (hx.P7 hn) n hn]
  exact ct_1 (fun q hq => absurd hq (Nat.not_lt_zero q)) h1
end RLS
/-- one more value in a digest -/
def mx (d : Int64) (v : Int32) : Int64 := d * 31 + v.toInt64
/-- .. cell by cell: its number, order, sign, what stays, how long its rings' text is -/
def dgW (n : Nat) (vN vO : Nat → Nat) (vS : Nat → Int32) (vT vR : Nat → Nat) : Nat → Int64
  | 0 => mx 8030 (nI n)
  | c + 1 => mx (mx (mx (mx (mx (dgW n vN vO vS vT vR c) (nI (vN c))) (nI (vO c))) (vS c)) (nI (vT c))) (nI (vR c))
theorem dgW_congr {n : Nat} {vN vO vT vR vN' vO' vT' vR' : Nat → Nat} {vS vS' : Nat → Int32} : ∀ k, (∀ c, c < k → vN c = vN' c ∧ vO c = vO' c ∧ vS c = vS' c ∧ vT c = vT' c ∧ vR c = vR' c) → dgW n vN vO vS vT vR k = dgW n vN' vO' vS' vT' vR' k
  | 0, _ => rfl
  | k + 1, h => by
    obtain ⟨a, b, c, d, e⟩ := h k (Nat.lt_succ_self k)
    show mx (mx (mx (mx (mx (dgW n vN vO vS vT vR k) (nI (vN k))) (nI (vO k))) (vS k)) (nI (vT k))) (nI (vR k)) = mx (mx (mx (mx (mx (dgW n vN' vO' vS' vT' vR' k) (nI (vN' k))) (nI (vO' k))) (vS' k)) (nI (vT' k))) (nI (vR' k))
    rw [dgW_congr k (fun c hc => h c (by omega)), a, b, c, d, e]
def dgF (d : Int64) (size pieces even enough : Nat) : Int64 := mx (mx (mx (mx d (nI size)) (nI pieces)) (nI even)) (nI enough)
def dgV (d : Int64) (f : Nat → Nat) : Nat → Int64
  | 0 => d
  | l + 1 => mx (dgV d f l) (nI (f l))
theorem dgV_congr {d : Int64} {f g : Nat → Nat} : ∀ k, (∀ l, l < k → f l = g l) → dgV d f k = dgV d g k
  | 0, _ => rfl
  | k + 1, h => by
    show mx (dgV d f k) (nI (f k)) = mx (dgV d g k) (nI (g k))
    rw [dgV_congr k (fun l hl => h l (by omega)), h k (Nat.lt_succ_self k)]
def dgH (d : Int64) (e r q : Int32) : Nat → Int64
  | 0 => d
  | w + 1 => mx (dgH d e r q w) (if nI w = nI 0 then e else if nI w = nI 1 then r else q)
/-- a digest of the house -/
noncomputable def DG (n : Nat) (e r q : Int32) (cm : Nat → Nat) : Int64 :=
  mx (dgH (dgV (dgF (dgW n (fun c => nu n (cm c)) (fun c => oC (cm c)) (fun c => sg n (cm c)) (fun c => stF (d8 (cm c)) n) (fun c => 2 * hr (cm c) n - 1) 6) (cd n (Gg n (gS cm 63 6))) (ct (fun p => ∀ q, q < p → ¬ Om n cm 63 p q) n) (cd n (fun x => Gg n (gS cm 63 6) x ∧ sg n x = nI 1)) (enF n cm 63 6)) (fun l => sBv (RP n (Gg n (gS cm 63 6)) (d8 (cm 0)) l) n) n) e r q 3) (nI 1)
end
