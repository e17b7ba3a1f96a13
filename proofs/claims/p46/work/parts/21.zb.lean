/-! colourings that are one by a group: the mean of those that stay -/
section BURN
variable {n co : Nat}
theorem sm_app (F : Nat → Nat) (a : Nat) : ∀ b, sm F (a + b) = sm F a + sm (fun i => F (a + i)) b
  | 0 => rfl
  | b + 1 => by
    show sm F (a + b) + F (a + b) = sm F a + (sm (fun i => F (a + i)) b + F (a + b))
    rw [sm_app F a b]
    omega
theorem sm_two (F : Nat → Nat) (N : Nat) : ∀ m, sm F (m * N) = sm (fun d => sm (fun r => F (d * N + r)) N) m
  | 0 => by rw [Nat.zero_mul]; rfl
  | m + 1 => by
    show sm F ((m + 1) * N) = sm (fun d => sm (fun r => F (d * N + r)) N) m + sm (fun r => F (m * N + r)) N
    rw [Nat.succ_mul, sm_app, sm_two F N m]
/-- a digit -/
def dgt (co k p : Nat) : Nat := k / co ^ p % co
theorem dgt_lt (h : 1 ≤ co) (k p : Nat) : dgt co k p < co := Nat.mod_lt _ h
theorem dgt_lo (h : 1 ≤ co) {d r m p : Nat} (hp : p < m) : dgt co (d * co ^ m + r) p = dgt co r p := by
  unfold dgt
  obtain ⟨j, hj⟩ : ∃ j, m = p + (j + 1) := ⟨m - p - 1, by omega⟩
  have e : d * co ^ m + r = r + co ^ p * (d * co ^ j * co) := by
    rw [hj, Nat.pow_add, Nat.pow_succ, Nat.add_comm, Nat.mul_left_comm, Nat.mul_assoc d]
  rw [e, Nat.add_mul_div_left _ _ (Nat.pow_pos h), Nat.add_mul_mod_self_right]
theorem dgt_hi (h : 1 ≤ co) {d r m : Nat} (hr : r < co ^ m) (hd : d < co) : dgt co (d * co ^ m + r) m = d := by
  unfold dgt
  rw [Nat.add_comm, Nat.add_mul_div_right _ _ (Nat.pow_pos h), Nat.div_eq_of_lt hr, Nat.zero_add, Nat.mod_eq_of_lt hd]
theorem dgt_sm (h : 1 ≤ co) {nx : Nat → Nat} (hd : ∀ q, nx q < co) : ∀ m q, q < m → dgt co (sm (fun q => nx q * co ^ q) m) q = nx q
  | 0, q, hq => absurd hq (Nat.not_lt_zero q)
  | m + 1, q, hq => by
    show dgt co (sm (fun q => nx q * co ^ q) m + nx m * co ^ m) q = nx q
    rw [Nat.add_comm]
    by_cases e : q = m
    · rw [e]
      exact dgt_hi h (sm_lt hd m) (hd m)
    · rw [dgt_lo h (by omega)]
      exact dgt_sm h hd m q (by omega)
theorem dgt_all (h : 1 ≤ co) (k : Nat) : ∀ m, sm (fun p => dgt co k p * co ^ p) m = k % co ^ m
  | 0 => by rw [Nat.pow_zero, Nat.mod_one]; rfl
  | m + 1 => by
    show sm (fun p => dgt co k p * co ^ p) m + dgt co k m * co ^ m = k % co ^ (m + 1)
    rw [dgt_all h k m, Nat.pow_succ, Nat.mod_mul, Nat.mul_comm (dgt co k m)]
    rfl
theorem dgt_ext (h : 1 ≤ co) {k k' : Nat} (hk : k < co ^ n) (hk' : k' < co ^ n) (e : ∀ p, p < n → dgt co k p = dgt co k' p) : k = k' := by
  have h1 := dgt_all h k n
  have h2 := dgt_all h k' n
  rw [Nat.mod_eq_of_lt hk] at h1
  rw [Nat.mod_eq_of_lt hk'] at h2
  rw [← h1, ← h2]
  exact sm_congr n (fun p hp => by rw [e p hp])
/-- the digits of a moved one -/
theorem cS_dgt (h : 1 ≤ co) {g : Nat → Nat} (hg : Pn n g) (k : Nat) {p : Nat} (hp : p < n) : dgt co (cS co n g k) (g p) = dgt co k p := by
  have hex : ∃ nx : Nat → Nat, (∀ q, nx q < co) ∧ ∀ p, p < n → nx (g p) = k / co ^ p % co := by
    refine ⟨fun q => @dite _ (∃ p, p < n ∧ g p = q) (Classical.propDecidable _) (fun h => k / co ^ (Classical.choose h) % co) (fun _ => 0), fun q => ?_, fun p hp => ?_⟩
    · by_cases c : ∃ p, p < n ∧ g p = q
      · show @dite _ _ (Classical.propDecidable _) _ _ < co
        rw [@dif_pos _ (Classical.propDecidable _) c]
        exact Nat.mod_lt _ h
      · show @dite _ _ (Classical.propDecidable _) _ _ < co
        rw [@dif_neg _ (Classical.propDecidable _) c]
        exact h
    · have c : ∃ p', p' < n ∧ g p' = g p := ⟨p, hp, rfl⟩
      show @dite _ _ (Classical.propDecidable _) _ _ = _
      rw [@dif_pos _ (Classical.propDecidable _) c]
      have hs := Classical.choose_spec c
      rw [hg.2 _ p hs.1 hp hs.2]
  obtain ⟨nx, h2, h3⟩ := hex
  rw [cS_nx hg h3, dgt_sm h h2 n _ (hg.1 p hp), h3 p hp]
  rfl
theorem cS_act (h : 1 ≤ co) (hn : n ≤ 7) {x y : Nat} (hx : Mv n x) (hy : Mv n y) (k : Nat) : cS co n (d8 y) (cS co n (d8 x) k) = cS co n (d8 (cM n x y)) k := by
  show sm (fun q => dgt co (cS co n (d8 x) k) q * co ^ d8 y q) n = sm (fun p => dgt co k p * co ^ d8 (cM n x y) p) n
  rw [← sm_perm (G := fun q => dgt co (cS co n (d8 x) k) q * co ^ d8 y q) hx.2.1]
  exact sm_congr n (fun p hp => by
    show dgt co (cS co n (d8 x) k) (d8 x p) * co ^ d8 y (d8 x p) = dgt co k p * co ^ d8 (cM n x y) p
    rw [cS_dgt h hx.2.1 k hp, cM_d hn hx hy hp])
theorem cS_e (h : 1 ≤ co) (hn : n ≤ 7) {k : Nat} (hk : k < co ^ n) : cS co n (d8 (eM n)) k = k := by
  have h2 := dgt_all h k n
  rw [Nat.mod_eq_of_lt hk] at h2
  refine Eq.trans (sm_congr n (fun p hp => ?_)) h2
  show dgt co k p * co ^ d8 (eM n) p = dgt co k p * co ^ p
  rw [eM_d hn hp]
/-! those that stay -/
def FxC (co : Nat) (f : Nat → Nat) (m k : Nat) : Prop := ∀ p, p < m → dgt co k (f p) = dgt co k p
theorem cS_FxC (h : 1 ≤ co) {g : Nat → Nat} (hg : Pn n g) {k : Nat} (hk : k < co ^ n) : cS co n g k = k ↔ FxC co g n k := by
  constructor
  · intro e p hp
    have := cS_dgt h hg k hp
    rw [e] at this
    exact this
  · intro hf
    refine dgt_ext h (cS_lt hg h) hk (fun q hq => ?_)
    obtain ⟨p, hp, e⟩ := inj_surj n g hg q hq
    rw [← e, cS_dgt h hg k hp, hf p hp]
theorem FxC_t {f : Nat → Nat} {m d r : Nat} (h : 1 ≤ co) (hf : Pn (m + 1) f) (hr : r < co ^ m) (hd : d < co) (e : f m = m) : FxC co f (m + 1) (d * co ^ m + r) ↔ FxC co (byp f m) m r := by
  have hne : ∀ p, p < m → f p ≠ m := fun p hp w => by have := hf.2 p m (by omega) (by omega) (w.trans e.symm); omega
  have hl : ∀ p, p < m → f p < m := fun p hp => by have := hf.1 p (by omega); have := hne p hp; omega
  constructor
  · intro hF p hp
    have h3 := hF p (by omega)
    rw [dgt_lo h (hl p hp), dgt_lo h hp] at h3
    rw [byp_f (hne p hp)]
    exact h3
  · intro hF p hp
    by_cases w : p = m
    · rw [w, e]
    · have h3 := hF p (by omega)
      rw [byp_f (hne p (by omega))] at h3
      rw [dgt_lo h (hl p (by omega)), dgt_lo h (by omega)]
      exact h3
theorem FxC_f {f : Nat → Nat} {m d r : Nat} (h : 1 ≤ co) (hf : Pn (m + 1) f) (hr : r < co ^ m) (hd : d < co) (e : ¬ f m = m) : FxC co f (m + 1) (d * co ^ m + r) ↔ (FxC co (byp f m) m r ∧ d = dgt co r (f m)) := by
  have hfm : f m < m := by have := hf.1 m (by omega); omega
  have hD : dgt co (d * co ^ m + r) m = d := dgt_hi h hr hd
  have hL : ∀ q, q < m → dgt co (d * co ^ m + r) q = dgt co r q := fun q hq => dgt_lo h hq
  constructor
  · intro hF
    have h0 := hF m (by omega)
    rw [hD, hL _ hfm] at h0
    refine ⟨fun p hp => ?_, h0.symm⟩
    have h3 := hF p (by omega)
    rw [hL p hp] at h3
    by_cases w : f p = m
    · rw [byp_n w]
      rw [w, hD] at h3
      rw [h0]; exact h3
    · rw [byp_f w]
      rw [hL _ (by have := hf.1 p (by omega); omega)] at h3
      exact h3
  · rintro ⟨hF, e2⟩ p hp
    by_cases q : p = m
    · rw [q, hD, hL _ hfm]; exact e2.symm
    · have h3 := hF p (by omega)
      rw [hL p (by omega)]
      by_cases w : f p = m
      · rw [byp_n w] at h3
        rw [w, hD, e2]; exact h3
      · rw [byp_f w] at h3
        rw [hL _ (by have := hf.1 p (by omega); omega)]
        exact h3
theorem FxC_ct (h : 1 ≤ co) : ∀ (m : Nat) (f : Nat → Nat), Pn m f → ct (FxC co f m) (co ^ m) = co ^ ct (Ld f) m
  | 0, f, _ => by
    rw [Nat.pow_zero]
    show 0 + on (FxC co f 0 0) = co ^ 0
    rw [on_t (p := FxC co f 0 0) (fun p hp => absurd hp (Nat.not_lt_zero p)), Nat.pow_zero]
  | m + 1, f, hf => by
    have ih := FxC_ct h m (byp f m) (byp_Pn hf)
    rw [Ld_ct hf, Nat.pow_succ, Nat.mul_comm (co ^ m) co]
    show sm (fun k => on (FxC co f (m + 1) k)) (co * co ^ m) = _
    rw [sm_two]
    by_cases e : f m = m
    · rw [if_pos e, sm_congr (g := fun _ => ct (FxC co (byp f m) m) (co ^ m)) co (fun d hd => sm_congr (co ^ m) (fun r hr => on_iff (FxC_t h hf hr hd e))), sm_k, ih, Nat.pow_succ, Nat.mul_comm]
    · rw [if_neg e]
      show _ = co ^ ct (Ld (byp f m)) m
      rw [← ih, sm_swap]
      refine sm_congr (co ^ m) (fun r hr => ?_)
      by_cases q : FxC co (byp f m) m r
      · rw [on_t q]
        refine sm_one co (dgt_lt h r (f m)) (fun d hd hne => on_f (fun w => hne ((FxC_f h hf hr hd e).mp w).2)) (on_t ((FxC_f h hf hr (dgt_lt h r (f m)) e).mpr ⟨q, rfl⟩))
      · rw [on_f q, sm_congr (g := fun _ => 0) co (fun d hd => on_f (fun w => q ((FxC_f h hf hr hd e).mp w).1)), sm_0]
theorem stay_ct (h : 1 ≤ co) (hn : n ≤ 7) {x : Nat} (hx : Mv n x) : ct (fun k => cS co n (d8 x) k = k) (co ^ n) = co ^ hr x n := by
  rw [hr_ct (hx.P7 hn) n hn, ← FxC_ct h n (d8 x) hx.2.1]
  exact ct_iff (fun k hk => cS_FxC h hx.2.1 hk)
/-! what comes of one: an orbit -/
section ORB
variable {cm : Nat → Nat} {s : Nat}
theorem Rc_G (h : 1 ≤ co) (hn : n ≤ 7) (hM : ∀ c, c < 6 → Mv n (cm c)) {j k : Nat} (hj : j < co ^ n) : Rc co n cm s j k ↔ ∃ x, Mv n x ∧ Gg n (gS cm s 6) x ∧ cS co n (d8 x) j = k := by
  constructor
  · intro r
    refine r (fun k => ∃ x, Mv n x ∧ Gg n (gS cm s 6) x ∧ cS co n (d8 x) j = k) ⟨eM n, eM_Mv hn, Gg_e, cS_e h hn hj⟩ (fun z c _ hc hs ⟨x, h1, h2, h3⟩ => ⟨cM n x (cm c), cM_Mv hn h1 (hM c hc), Gg_s h1 h2 ⟨c, hc, hs, rfl⟩, ?_⟩)
    rw [← cS_act h hn h1 (hM c hc), h3]
  · rintro ⟨x, _, h2, h3⟩
    have h4 := h2 (fun a => Mv n a ∧ Rc co n cm s j (cS co n (d8 a) j)) ⟨eM_Mv hn, by rw [cS_e h hn hj]; exact Rc_rf⟩ (fun a b ha hz hb => by
      obtain ⟨c, hc, hs, e⟩ := hb
      rw [e]
      refine ⟨cM_Mv hn ha (hM c hc), ?_⟩
      rw [← cS_act h hn ha (hM c hc)]
      exact Rc_s hz.2 (cS_lt ha.2.1 h) hc hs)
    rw [← h3]
    exact h4.2
theorem Rc_lt (h : 1 ≤ co) (hn : n ≤ 7) (hM : ∀ c, c < 6 → Mv n (cm c)) {j k : Nat} (hj : j < co ^ n) (r : Rc co n cm s j k) : k < co ^ n := by
  obtain ⟨x, h1, _, h3⟩ := (Rc_G h hn hM hj).mp r
  rw [← h3]
  exact cS_lt h1.2.1 h
theorem Rc_sy (h : 1 ≤ co) (hn : n ≤ 7) (hM : ∀ c, c < 6 → Mv n (cm c)) {j k : Nat} (hj : j < co ^ n) (r : Rc co n cm s j k) : Rc co n cm s k j := by
  obtain ⟨x, h1, h2, h3⟩ := (Rc_G h hn hM hj).mp r
  refine (Rc_G h hn hM (Rc_lt h hn hM hj r)).mpr ⟨iM n x, iM_Mv hn h1, (Gg_Cl hn (gS_M (Nat.le_refl 6) hM)).2.1 x h1 h2, ?_⟩
  rw [← h3, cS_act h hn h1 (iM_Mv hn h1), c_iM hn h1, cS_e h hn hj]
theorem cd_partsN (h1 : 1 ≤ n) (hn : n ≤ 7) {P : Nat → Prop} {g : Nat → Nat} {N : Nat} (hg : ∀ x, Mv n x → g x < N) : cd n P = sm (fun v => cd n (fun x => P x ∧ g x = v)) N := by
  show _ = sm (fun v => sm (fun i => on (P (XM n i) ∧ g (XM n i) = v)) (fc n)) N
  rw [sm_swap]
  refine sm_congr (fc n) (fun i _ => ?_)
  by_cases q : P (XM n i)
  · refine (on_t q).trans (sm_one N (hg _ (XM_Mv h1 hn i)) (fun v _ hne => on_f (fun a => hne a.2.symm)) (on_t ⟨q, rfl⟩)).symm
  · rw [on_f q, sm_congr (g := fun _ => 0) N (fun v _ => on_f (fun a => q a.1)), sm_0]
/-- how many of the group leave one as it is -/
noncomputable def sta (co n : Nat) (cm : Nat → Nat) (s k : Nat) : Nat := cd n (fun x => Gg n (gS cm s 6) x ∧ cS co n (d8 x) k = k)
theorem orb_sta (h : 1 ≤ co) (h1 : 1 ≤ n) (hn : n ≤ 7) (hM : ∀ c, c < 6 → Mv n (cm c)) {r : Nat} (hr : r < co ^ n) : ct (Rc co n cm s r) (co ^ n) * sta co n cm s r = cd n (Gg n (gS cm s 6)) := by
  have hG := Gg_Cl hn (gS_M (s := s) (Nat.le_refl 6) hM)
  rw [cd_partsN h1 hn (P := Gg n (gS cm s 6)) (g := fun x => cS co n (d8 x) r) (N := co ^ n) (fun x hx => cS_lt hx.2.1 h)]
  show sm (fun k => on (Rc co n cm s r k)) (co ^ n) * _ = _
  rw [← sm_mulr]
  refine sm_congr (co ^ n) (fun k hk => ?_)
  by_cases q : Rc co n cm s r k
  · rw [on_t q, Nat.one_mul]
    obtain ⟨t, t1, t2, t3⟩ := (Rc_G h hn hM hr).mp q
    rw [← cd_t h1 hn (P := fun x => Gg n (gS cm s 6) x ∧ cS co n (d8 x) r = k) t1]
    refine cd_iff h1 hn (fun x hx => ⟨fun ⟨a, b⟩ => ⟨hG.1 _ _ hx t1 a t2, by rw [← cS_act h hn hx t1, b]; exact t3⟩, fun ⟨a, b⟩ => ⟨?_, ?_⟩⟩)
    · have h3 := hG.1 _ _ (cM_Mv hn hx t1) (iM_Mv hn t1) a (hG.2.1 _ t1 t2)
      rw [cM_forth hn hx t1] at h3
      exact h3
    · have h3 : cS co n (d8 (iM n t)) (cS co n (d8 (cM n x t)) r) = cS co n (d8 (iM n t)) (cS co n (d8 t) r) := by rw [b, t3]
      rw [cS_act h hn (cM_Mv hn hx t1) (iM_Mv hn t1), cS_act h hn t1 (iM_Mv hn t1), cM_forth hn hx t1, c_iM hn t1, cS_e h hn hr] at h3
      exact h3
  · rw [on_f q, Nat.zero_mul]
    exact (cd_0 h1 hn (fun x hx ⟨a, b⟩ => q ((Rc_G h hn hM hr).mpr ⟨x, hx, a, b⟩))).symm
theorem sta_same (h : 1 ≤ co) (h1 : 1 ≤ n) (hn : n ≤ 7) (hM : ∀ c, c < 6 → Mv n (cm c)) {r k : Nat} (hr : r < co ^ n) (q : Rc co n cm s r k) : sta co n cm s k = sta co n cm s r := by
  have hk := Rc_lt h hn hM hr q
  have a := orb_sta h h1 hn hM hr (s := s)
  have b := orb_sta h h1 hn hM hk (s := s)
  have e : ct (Rc co n cm s k) (co ^ n) = ct (Rc co n cm s r) (co ^ n) := ct_iff (fun i _ => ⟨fun w => Rc_tr q w, fun w => Rc_tr (Rc_sy h hn hM hr q) w⟩)
  rw [e, ← a] at b
  have hp : 0 < cd n (Gg n (gS cm s 6)) := cd_pos h1 hn (eM_Mv hn) Gg_e
  rw [← a] at hp
  exact Nat.eq_of_mul_eq_mul_left (Nat.pos_of_mul_pos_right hp) b
theorem burn (h : 1 ≤ co) (h1 : 1 ≤ n) (hn : n ≤ 7) (hM : ∀ c, c < 6 → Mv n (cm c)) : cQ n (Gg n (gS cm s 6)) co = ct (fun k => ∀ j, j < k → ¬ Rc co n cm s j k) (co ^ n) := by
  have hp : 0 < cd n (Gg n (gS cm s 6)) := cd_pos h1 hn (eM_Mv hn) Gg_e
  have e1 : sm (fun i => on (Gg n (gS cm s 6) (XM n i)) * co ^ hr (XM n i) n) (fc n) = sm (fun k => sta co n cm s k) (co ^ n) := by
    show _ = sm (fun k => sm (fun i => on (Gg n (gS cm s 6) (XM n i) ∧ cS co n (d8 (XM n i)) k = k)) (fc n)) (co ^ n)
    rw [sm_swap]
    refine sm_congr (fc n) (fun i _ => ?_)
    rw [← stay_ct h hn (XM_Mv h1 hn i)]
    by_cases q : Gg n (gS cm s 6) (XM n i)
    · rw [on_t q, Nat.one_mul]
      exact sm_congr (co ^ n) (fun k _ => on_iff ⟨fun a => ⟨q, a⟩, fun a => a.2⟩)
    · rw [on_f q, Nat.zero_mul, sm_congr (g := fun _ => 0) (co ^ n) (fun k _ => on_f (fun a => q a.1)), sm_0]
  let R : Nat → Prop := fun k => ∀ j, j < k → ¬ Rc co n cm s j k
  have e2 : sm (fun k => sta co n cm s k) (co ^ n) = sm (fun k => sm (fun r => on (R r ∧ Rc co n cm s r k) * sta co n cm s k) (co ^ n)) (co ^ n) := by
    refine sm_congr (co ^ n) (fun k hk => ?_)
    obtain ⟨r, r1, r2, r3⟩ := least (P := fun r => Rc co n cm s r k) k Rc_rf
    have hRr : R r := fun j hj w => r3 j hj (Rc_tr w r2)
    refine (sm_one (f := fun r => on (R r ∧ Rc co n cm s r k) * sta co n cm s k) (co ^ n) (v := r) (by omega) (fun r' hr' hne => ?_) (by rw [on_t (p := R r ∧ Rc co n cm s r k) ⟨hRr, r2⟩, Nat.one_mul])).symm
    rw [on_f (p := R r' ∧ Rc co n cm s r' k) (fun w => ?_), Nat.zero_mul]
    have w3 : Rc co n cm s r' r := Rc_tr w.2 (Rc_sy h hn hM (by omega) r2)
    rcases Nat.lt_or_gt_of_ne hne with q | q
    · exact hRr r' q w3
    · exact w.1 r q (Rc_sy h hn hM hr' w3)
  have e3 : sm (fun k => sta co n cm s k) (co ^ n) = ct R (co ^ n) * cd n (Gg n (gS cm s 6)) := by
    rw [e2, sm_swap]
    show _ = sm (fun r => on (R r)) (co ^ n) * _
    rw [← sm_mulr]
    refine sm_congr (co ^ n) (fun r hr => ?_)
    by_cases q : R r
    · rw [on_t q, Nat.one_mul, ← orb_sta h h1 hn hM hr]
      show _ = sm (fun k => on (Rc co n cm s r k)) (co ^ n) * _
      rw [← sm_mulr]
      refine sm_congr (co ^ n) (fun k hk => ?_)
      by_cases w : Rc co n cm s r k
      · rw [on_t w, on_t (p := R r ∧ Rc co n cm s r k) ⟨q, w⟩, sta_same h h1 hn hM hr w]
      · rw [on_f w, on_f (p := R r ∧ Rc co n cm s r k) (fun a => w a.2), Nat.zero_mul, Nat.zero_mul]
    · rw [on_f q, Nat.zero_mul, sm_congr (g := fun _ => 0) (co ^ n) (fun k _ => by rw [on_f (p := R r ∧ Rc co n cm s r k) (fun a => q a.1), Nat.zero_mul]), sm_0]
  unfold cQ
  rw [e1, e3]
  exact Nat.mul_div_cancel _ hp
end ORB
end BURN
