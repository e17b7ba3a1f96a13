/-! counting moves by their numbers -/
def sm (f : Nat → Nat) : Nat → Nat
  | 0 => 0
  | k + 1 => sm f k + f k
theorem sm_congr {f g : Nat → Nat} : ∀ k, (∀ i, i < k → f i = g i) → sm f k = sm g k
  | 0, _ => rfl
  | k + 1, h => by
    show sm f k + f k = sm g k + g k
    rw [sm_congr k (fun i hi => h i (by omega)), h k (Nat.lt_succ_self k)]
theorem sm_add (f g : Nat → Nat) : ∀ k, sm (fun i => f i + g i) k = sm f k + sm g k
  | 0 => rfl
  | k + 1 => by
    show sm (fun i => f i + g i) k + (f k + g k) = (sm f k + f k) + (sm g k + g k)
    rw [sm_add f g k]
    omega
theorem sm_0 : ∀ k, sm (fun _ => 0) k = 0
  | 0 => rfl
  | k + 1 => by
    show sm (fun _ => 0) k + 0 = 0
    rw [sm_0 k]
theorem sm_swap (f : Nat → Nat → Nat) (m : Nat) : ∀ k, sm (fun i => sm (fun j => f i j) m) k = sm (fun j => sm (fun i => f i j) k) m
  | 0 => (sm_0 m).symm
  | k + 1 => by
    show sm (fun i => sm (fun j => f i j) m) k + sm (fun j => f k j) m = sm (fun j => sm (fun i => f i j) k + f k j) m
    rw [sm_swap f m k, sm_add]
theorem sm_mul (a : Nat) (B : Nat → Bool) : ∀ k, sm (fun i => a * (if B i = true then 1 else 0)) k = a * cnt B k
  | 0 => rfl
  | k + 1 => by
    show sm (fun i => a * (if B i = true then 1 else 0)) k + a * (if B k = true then 1 else 0) = a * (cnt B k + (if B k = true then 1 else 0))
    rw [sm_mul a B k, Nat.mul_add]
/-- one for what is so -/
noncomputable def on (p : Prop) : Nat := if @decide p (Classical.propDecidable p) = true then 1 else 0
theorem on_t {p : Prop} (h : p) : on p = 1 := by
  unfold on
  rw [if_pos (@decide_eq_true p (Classical.propDecidable p) h)]
theorem on_f {p : Prop} (h : ¬ p) : on p = 0 := by
  unfold on
  rw [if_neg (fun e => h (@of_decide_eq_true p (Classical.propDecidable p) e))]
theorem on_iff {p q : Prop} (h : p ↔ q) : on p = on q := by
  by_cases e : p
  · rw [on_t e, on_t (h.mp e)]
  · rw [on_f e, on_f (fun x => e (h.mpr x))]
/-- how many of the first k are so -/
noncomputable def ct (P : Nat → Prop) (k : Nat) : Nat := sm (fun i => on (P i)) k
theorem ct_iff {P Q : Nat → Prop} {k : Nat} (h : ∀ i, i < k → (P i ↔ Q i)) : ct P k = ct Q k := sm_congr k (fun i hi => on_iff (h i hi))
theorem ct_cnt {P : Nat → Prop} {B : Nat → Bool} : ∀ k, (∀ i, i < k → (P i ↔ B i = true)) → ct P k = cnt B k
  | 0, _ => rfl
  | k + 1, h => by
    show ct P k + on (P k) = cnt B k + (if B k = true then 1 else 0)
    rw [ct_cnt k (fun i hi => h i (by omega))]
    by_cases e : B k = true
    · rw [if_pos e, on_t ((h k (Nat.lt_succ_self k)).mpr e)]
    · rw [if_neg e, on_f (fun x => e ((h k (Nat.lt_succ_self k)).mp x))]
theorem sm_one {v : Nat} {c : Nat} {f : Nat → Nat} : ∀ k, v < k → (∀ i, i < k → i ≠ v → f i = 0) → f v = c → sm f k = c
  | 0, h, _, _ => absurd h (Nat.not_lt_zero _)
  | k + 1, h, h0, e => by
    show sm f k + f k = c
    by_cases q : v = k
    · subst q
      rw [sm_congr (g := fun _ => 0) v (fun i hi => h0 i (by omega) (by omega)), sm_0, Nat.zero_add, e]
    · rw [h0 k (Nat.lt_succ_self k) (fun z => q z.symm), Nat.add_zero]
      exact sm_one k (by omega) (fun i hi => h0 i (by omega)) e
/-- a permutation of the numbers changes no count -/
theorem ct_perm {P : Nat → Prop} {N : Nat} {f : Nat → Nat} (hf : Pn N f) : ct (fun k => P (f k)) N = ct P N := by
  have h1 : ct (fun k => P (f k)) N = sm (fun k => sm (fun v => on (f k = v ∧ P v)) N) N :=
    sm_congr N (fun k hk => (sm_one N (hf.1 k hk) (fun i _ hne => on_f (fun e => hne e.1.symm)) (on_iff ⟨fun e => e.2, fun e => ⟨rfl, e⟩⟩)).symm)
  rw [h1, sm_swap]
  refine sm_congr N (fun v hv => ?_)
  obtain ⟨k, hk, e⟩ := inj_surj N f hf v hv
  refine sm_one N hk (fun i hi hne => on_f (fun q => hne (hf.2 i k hi hk (q.1.trans e.symm)))) (on_iff ⟨fun q => q.2, fun q => ⟨e, q⟩⟩)
/-- the move with a number -/
def XM (n k : Nat) : Nat := mkM n (rwF n k)
section XMS
variable {n : Nat}
theorem XM_Mv (h1 : 1 ≤ n) (hn : n ≤ 7) (k : Nat) : Mv n (XM n k) := mkM_Mv hn (rwF_Pn h1)
theorem XM_d (h1 : 1 ≤ n) (hn : n ≤ 7) {k p : Nat} (hp : p < n) : d8 (XM n k) p = rwF n k p := mkM_d hn (rwF_Pn h1).1 hp
def nu (n x : Nat) : Nat := nuF (d8 x) 0 n n
theorem nu_b (n x : Nat) : nu n x < fc n := nuF_b _ _ _
theorem XM_nu (h1 : 1 ≤ n) (hn : n ≤ 7) {x : Nat} (hx : Mv n x) : XM n (nu n x) = x := by
  refine (XM_Mv h1 hn _).ext hx (fun p hp => ?_)
  rw [XM_d h1 hn hp]
  exact rw_nu h1 hx.2.1 p hp
theorem nu_XM (h1 : 1 ≤ n) (hn : n ≤ 7) {k : Nat} (hk : k < fc n) : nu n (XM n k) = k := by
  have e : nu n (XM n k) = nuF (rwF n k) 0 n n := nu_congr (fun p hp => XM_d h1 hn hp)
  rw [e]
  exact nu_rw h1 hk
theorem nu_same {x y : Nat} (h1 : 1 ≤ n) (hn : n ≤ 7) (hx : Mv n x) (hy : Mv n y) (e : nu n x = nu n y) : x = y := by
  rw [← XM_nu h1 hn hx, e, XM_nu h1 hn hy]
/-- how many moves are so -/
noncomputable def cd (n : Nat) (P : Nat → Prop) : Nat := ct (fun k => P (XM n k)) (fc n)
theorem cd_iff (h1 : 1 ≤ n) (hn : n ≤ 7) {P Q : Nat → Prop} (h : ∀ x, Mv n x → (P x ↔ Q x)) : cd n P = cd n Q := ct_iff (fun k _ => h _ (XM_Mv h1 hn k))
theorem cd_t (h1 : 1 ≤ n) (hn : n ≤ 7) {P : Nat → Prop} {t : Nat} (ht : Mv n t) : cd n (fun x => P (cM n x t)) = cd n P := by
  have hP : Pn (fc n) (fun k => nu n (cM n (XM n k) t)) := by
    refine ⟨fun k _ => nu_b _ _, fun k k' hk hk' e => ?_⟩
    have e1 := nu_same h1 hn (cM_Mv hn (XM_Mv h1 hn k) ht) (cM_Mv hn (XM_Mv h1 hn k') ht) e
    have e2 := cM_forth hn (XM_Mv h1 hn k) ht
    rw [e1, cM_forth hn (XM_Mv h1 hn k') ht] at e2
    rw [← nu_XM h1 hn hk, ← e2, nu_XM h1 hn hk']
  have h := ct_perm (P := fun k => P (XM n k)) hP
  refine Eq.trans ?_ h
  exact ct_iff (fun k _ => by
    show P (cM n (XM n k) t) ↔ P (XM n (nu n (cM n (XM n k) t)))
    rw [XM_nu h1 hn (cM_Mv hn (XM_Mv h1 hn k) ht)])
theorem cd_e (h1 : 1 ≤ n) (hn : n ≤ 7) : cd n (fun x => x = eM n) = 1 := by
  refine sm_one (fc n) (nu_b n (eM n)) (fun i hi hne => on_f (fun e => hne ?_)) (on_t (XM_nu h1 hn (eM_Mv hn)))
  rw [← nu_XM h1 hn hi, e]
theorem cd_0 {P : Nat → Prop} (h1 : 1 ≤ n) (hn : n ≤ 7) (h : ∀ x, Mv n x → ¬ P x) : cd n P = 0 := by
  have e : cd n P = sm (fun _ => 0) (fc n) := sm_congr (fc n) (fun k _ => on_f (h _ (XM_Mv h1 hn k)))
  rw [e, sm_0]
end XMS
/-! how many a chain makes up -/
section CHC
variable {n ro : Nat} {st rc : Nat → Nat}
theorem CP_part (hn : n ≤ 7) (hC : Ch n (d8 ro) (RC rc) (ST st)) {m g x : Nat} (hm : m + 1 ≤ n) (hg : g < n) (hr : RC rc (n - (m + 1)) g = true) (hx : Mv n x) : (CP n (RC rc) (ST st) (m + 1) x ∧ d8 x (d8 ro (n - (m + 1))) = g) ↔ CP n (RC rc) (ST st) m (cM n x (iM n (ST st (n - (m + 1)) g))) := by
  have s1 := ((hC (n - (m + 1)) (by omega)).2.2.2 g hg hr).1
  refine ⟨fun h => ?_, fun h => ?_⟩
  · obtain ⟨⟨g', w, hg', hr', hw, e⟩, hd⟩ := h
    have e2 := CP_goal hn hC hm hg' hr' hw
    rw [← e, hd] at e2
    have w1 := (CP_Mv hn hC m w (by omega) hw).1
    rw [← e2] at e
    rw [e, cM_forth hn w1 s1]
    exact hw
  · have e : x = cM n (cM n x (iM n (ST st (n - (m + 1)) g))) (ST st (n - (m + 1)) g) := (cM_back hn hx s1).symm
    refine ⟨⟨g, _, hg, hr, h, e⟩, ?_⟩
    rw [e]
    exact CP_goal hn hC hm hg hr h
theorem zF_is (h1 : 1 ≤ n) (hn : n ≤ 7) (hC : Ch n (d8 ro) (RC rc) (ST st)) (hB : ∀ l g, l < n → RC rc l g = true → g < n) : ∀ m, m ≤ n → cd n (CP n (RC rc) (ST st) m) = zF rc n m
  | 0, _ => cd_e h1 hn
  | m + 1, hm => by
    have ih := zF_is h1 hn hC hB m (by omega)
    have e1 : cd n (CP n (RC rc) (ST st) (m + 1)) = sm (fun k => sm (fun g => on (RC rc (n - (m + 1)) g = true ∧ CP n (RC rc) (ST st) (m + 1) (XM n k) ∧ d8 (XM n k) (d8 ro (n - (m + 1))) = g)) 32) (fc n) := by
      refine sm_congr (fc n) (fun k _ => ?_)
      have hx := XM_Mv h1 hn k
      have hd := hx.2.1.1 _ (hC (n - (m + 1)) (by omega)).1
      refine (sm_one 32 (v := d8 (XM n k) (d8 ro (n - (m + 1)))) (by omega) (fun g _ hne => on_f (fun e => hne e.2.2.symm)) (on_iff ⟨fun e => e.2.1, fun e => ⟨?_, e, rfl⟩⟩)).symm
      obtain ⟨g, w, hg, hr, hw, e⟩ := e
      have e2 := CP_goal hn hC hm hg hr hw
      rw [← e] at e2
      rw [e2]
      exact hr
    rw [e1, sm_swap]
    show _ = zF rc n m * cnt (fun v => (rc (n - (m + 1))).testBit v) 32
    have e3 : ∀ g, g < 32 → sm (fun k => on (RC rc (n - (m + 1)) g = true ∧ CP n (RC rc) (ST st) (m + 1) (XM n k) ∧ d8 (XM n k) (d8 ro (n - (m + 1))) = g)) (fc n) = zF rc n m * (if (rc (n - (m + 1))).testBit g = true then 1 else 0) := by
      intro g _
      by_cases q : (rc (n - (m + 1))).testBit g = true
      · have q2 : RC rc (n - (m + 1)) g = true := q
        have hg := hB (n - (m + 1)) g (by omega) q
        have s1 := ((hC (n - (m + 1)) (by omega)).2.2.2 g hg q2).1
        rw [if_pos q, Nat.mul_one, ← ih, ← cd_t h1 hn (iM_Mv hn s1)]
        exact sm_congr (fc n) (fun k _ => on_iff ⟨fun e => (CP_part hn hC hm hg q2 (XM_Mv h1 hn k)).mp e.2, fun e => ⟨q2, (CP_part hn hC hm hg q2 (XM_Mv h1 hn k)).mpr e⟩⟩)
      · rw [if_neg q, Nat.mul_zero, sm_congr (g := fun _ => 0) (fc n) (fun k _ => on_f (fun e => q e.1)), sm_0]
    rw [sm_congr 32 e3]
    exact sm_mul _ _ 32
end CHC
