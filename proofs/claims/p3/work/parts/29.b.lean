/-! what each act does, on both sides the same -/
def Dpoints (S : StX) (p0 : Int32) (_ : Int32) (S' : StX) : Prop := ∃ k : Nat, p0 = nI k ∧ 2 ≤ k ∧ k ≤ 7 ∧ S' = (k, S.2.1 + nI 1, S.2.2.1, S.2.2.2.1, fun _ => 1754760)
def Dlay (S : StX) (p0 p1 : Int32) (v : Int32) (S' : StX) : Prop := ∃ a b : Nat, p0 = nI a ∧ p1 = nI b ∧ a < 6 ∧ b < fc S.1 ∧ v = nI (nu S.1 (S.2.2.2.2 a)) ∧ S' = ES S a (XM S.1 b)
def Dexchange (S : StX) (p0 p1 p2 : Int32) (_ : Int32) (S' : StX) : Prop := ∃ a b c : Nat, p0 = nI a ∧ p1 = nI b ∧ p2 = nI c ∧ a < 6 ∧ b < S.1 ∧ c < S.1 ∧ S' = ES S a (c7 (S.2.2.2.2 a) (w8 (w8 1754760 b c) c b))
def Dring (S : StX) (p0 p1 p2 p3 : Int32) (_ : Int32) (S' : StX) : Prop := ∃ a b c f : Nat, p0 = nI a ∧ p1 = nI b ∧ p2 = nI c ∧ p3 = nI f ∧ a < 6 ∧ b < S.1 ∧ c < S.1 ∧ f < S.1 ∧ S' = ES S a (c7 (S.2.2.2.2 a) (w8 (w8 (w8 1754760 b c) c f) f b))
def Dturn (S : StX) (p0 p1 : Int32) (_ : Int32) (S' : StX) : Prop := ∃ a : Nat, p0 = nI a ∧ a < 6 ∧ S' = ES S a (c7 (S.2.2.2.2 a) (bW (fun p => (p + tT S.1 p1) % S.1) S.1))
def Dmirror (S : StX) (p0 : Int32) (_ : Int32) (S' : StX) : Prop := ∃ a : Nat, p0 = nI a ∧ a < 6 ∧ S' = ES S a (c7 (S.2.2.2.2 a) (bW (fun p => S.1 - 1 - p) S.1))
def Dcopy (S : StX) (p0 p1 : Int32) (_ : Int32) (S' : StX) : Prop := ∃ a b : Nat, p0 = nI a ∧ p1 = nI b ∧ a < 6 ∧ b < 6 ∧ S' = ES S b (S.2.2.2.2 a)
def Dswap (S : StX) (p0 p1 : Int32) (_ : Int32) (S' : StX) : Prop := ∃ a b : Nat, p0 = nI a ∧ p1 = nI b ∧ a < 6 ∧ b < 6 ∧ S' = (S.1, S.2.1 + nI 1, S.2.2.1, S.2.2.2.1, up (up S.2.2.2.2 a (S.2.2.2.2 b)) b (S.2.2.2.2 a))
def Dthen (S : StX) (p0 p1 p2 : Int32) (_ : Int32) (S' : StX) : Prop := ∃ a b c : Nat, p0 = nI a ∧ p1 = nI b ∧ p2 = nI c ∧ a < 6 ∧ b < 6 ∧ c < 6 ∧ S' = ES S c (c7 (S.2.2.2.2 a) (S.2.2.2.2 b))
def Dundo (S : StX) (p0 p1 : Int32) (_ : Int32) (S' : StX) : Prop := ∃ a b : Nat, p0 = nI a ∧ p1 = nI b ∧ a < 6 ∧ b < 6 ∧ S' = ES S b (i7 (S.2.2.2.2 a))
def Dpower (S : StX) (p0 p1 p2 : Int32) (_ : Int32) (S' : StX) : Prop := ∃ a c : Nat, p0 = nI a ∧ p2 = nI c ∧ a < 6 ∧ c < 6 ∧ S' = ES S c (pwM p1 (S.2.2.2.2 a))
def Drename (S : StX) (p0 p1 p2 : Int32) (_ : Int32) (S' : StX) : Prop := ∃ a b c : Nat, p0 = nI a ∧ p1 = nI b ∧ p2 = nI c ∧ a < 6 ∧ b < 6 ∧ c < 6 ∧ S' = ES S c (c7 (c7 (i7 (S.2.2.2.2 b)) (S.2.2.2.2 a)) (S.2.2.2.2 b))
def Dmatch (S : StX) (p0 p1 p2 : Int32) (_ : Int32) (S' : StX) : Prop := ∃ a b c : Nat, p0 = nI a ∧ p1 = nI b ∧ p2 = nI c ∧ a < 6 ∧ b < 6 ∧ c < 6 ∧ ((∃ y, LN S.1 (S.2.2.2.2 a) (S.2.2.2.2 b) y ∧ S' = ES S c y) ∨ ((∀ w, ¬ RN S.1 (S.2.2.2.2 a) (S.2.2.2.2 b) w) ∧ S' = NS S))
abbrev GX (S : StX) (s : Nat) : Nat → Prop := Gg S.1 (gS S.2.2.2.2 s 6)
def Dnth (S : StX) (p0 p1 p2 p3 : Int32) (_ : Int32) (S' : StX) : Prop := ∃ s a b rk : Nat, p0 = nI s ∧ p1 = nI a ∧ p3 = nI b ∧ p2 = nI rk ∧ s < 64 ∧ a < 6 ∧ b < 6 ∧ rk < 2 ^ 31 ∧
  ((∃ y, rk < cd S.1 (GX S s) ∧ Mv S.1 y ∧ GK S.1 (GX S s) (d8 (S.2.2.2.2 a)) rk y ∧ S' = ES S b y) ∨ (¬ rk < cd S.1 (GX S s) ∧ S' = NS S))
section FD
variable {S : StX}
theorem fD_points (p0 : Int32) (v v' : Int32) (x y : StX) (h : Dpoints S p0 v x) (h' : Dpoints S p0 v' y) : x = y := by
  obtain ⟨k, e1, k1, k2, e⟩ := h
  obtain ⟨k', e1', k1', k2', e'⟩ := h'
  obtain rfl := nI_uq e1 e1' (k := 8) (by omega) (by omega)
  exact e.trans e'.symm
theorem fD_lay (h7 : S.1 ≤ 7) (p0 p1 : Int32) (v v' : Int32) (x y : StX) (h : Dlay S p0 p1 v x) (h' : Dlay S p0 p1 v' y) : x = y ∧ v = v' := by
  have hf := fc_7 h7
  obtain ⟨a, b, e1, e2, h1, h2, ev, e⟩ := h
  obtain ⟨a', b', e1', e2', h1', h2', ev', e'⟩ := h'
  obtain rfl := nI_uq e1 e1' h1 h1'
  obtain rfl := nI_uq e2 e2' h2 h2'
  exact ⟨e.trans e'.symm, ev.trans ev'.symm⟩
theorem fD_exchange (h7 : S.1 ≤ 7) (p0 p1 p2 : Int32) (v v' : Int32) (x y : StX) (h : Dexchange S p0 p1 p2 v x) (h' : Dexchange S p0 p1 p2 v' y) : x = y := by
  obtain ⟨a, b, c, e1, e2, e3, h1, h2, h3, e⟩ := h
  obtain ⟨a', b', c', e1', e2', e3', h1', h2', h3', e'⟩ := h'
  obtain rfl := nI_uq e1 e1' h1 h1'
  obtain rfl := nI_uq e2 e2' h2 h2'
  obtain rfl := nI_uq e3 e3' h3 h3'
  exact e.trans e'.symm
theorem fD_ring (h7 : S.1 ≤ 7) (p0 p1 p2 p3 : Int32) (v v' : Int32) (x y : StX) (h : Dring S p0 p1 p2 p3 v x) (h' : Dring S p0 p1 p2 p3 v' y) : x = y := by
  obtain ⟨a, b, c, f, e1, e2, e3, e4, h1, h2, h3, h4, e⟩ := h
  obtain ⟨a', b', c', f', e1', e2', e3', e4', h1', h2', h3', h4', e'⟩ := h'
  obtain rfl := nI_uq e1 e1' h1 h1'
  obtain rfl := nI_uq e2 e2' h2 h2'
  obtain rfl := nI_uq e3 e3' h3 h3'
  obtain rfl := nI_uq e4 e4' h4 h4'
  exact e.trans e'.symm
theorem fD_turn (p0 p1 : Int32) (v v' : Int32) (x y : StX) (h : Dturn S p0 p1 v x) (h' : Dturn S p0 p1 v' y) : x = y := by
  obtain ⟨a, e1, h1, e⟩ := h
  obtain ⟨a', e1', h1', e'⟩ := h'
  obtain rfl := nI_uq e1 e1' h1 h1'
  exact e.trans e'.symm
theorem fD_mirror (p0 : Int32) (v v' : Int32) (x y : StX) (h : Dmirror S p0 v x) (h' : Dmirror S p0 v' y) : x = y := by
  obtain ⟨a, e1, h1, e⟩ := h
  obtain ⟨a', e1', h1', e'⟩ := h'
  obtain rfl := nI_uq e1 e1' h1 h1'
  exact e.trans e'.symm
theorem fD_copy (p0 p1 : Int32) (v v' : Int32) (x y : StX) (h : Dcopy S p0 p1 v x) (h' : Dcopy S p0 p1 v' y) : x = y := by
  obtain ⟨a, b, e1, e2, h1, h2, e⟩ := h
  obtain ⟨a', b', e1', e2', h1', h2', e'⟩ := h'
  obtain rfl := nI_uq e1 e1' h1 h1'
  obtain rfl := nI_uq e2 e2' h2 h2'
  exact e.trans e'.symm
theorem fD_swap (p0 p1 : Int32) (v v' : Int32) (x y : StX) (h : Dswap S p0 p1 v x) (h' : Dswap S p0 p1 v' y) : x = y := by
  obtain ⟨a, b, e1, e2, h1, h2, e⟩ := h
  obtain ⟨a', b', e1', e2', h1', h2', e'⟩ := h'
  obtain rfl := nI_uq e1 e1' h1 h1'
  obtain rfl := nI_uq e2 e2' h2 h2'
  exact e.trans e'.symm
theorem fD_then (p0 p1 p2 : Int32) (v v' : Int32) (x y : StX) (h : Dthen S p0 p1 p2 v x) (h' : Dthen S p0 p1 p2 v' y) : x = y := by
  obtain ⟨a, b, c, e1, e2, e3, h1, h2, h3, e⟩ := h
  obtain ⟨a', b', c', e1', e2', e3', h1', h2', h3', e'⟩ := h'
  obtain rfl := nI_uq e1 e1' h1 h1'
  obtain rfl := nI_uq e2 e2' h2 h2'
  obtain rfl := nI_uq e3 e3' h3 h3'
  exact e.trans e'.symm
theorem fD_undo (p0 p1 : Int32) (v v' : Int32) (x y : StX) (h : Dundo S p0 p1 v x) (h' : Dundo S p0 p1 v' y) : x = y := by
  obtain ⟨a, b, e1, e2, h1, h2, e⟩ := h
  obtain ⟨a', b', e1', e2', h1', h2', e'⟩ := h'
  obtain rfl := nI_uq e1 e1' h1 h1'
  obtain rfl := nI_uq e2 e2' h2 h2'
  exact e.trans e'.symm
theorem fD_power (p0 p1 p2 : Int32) (v v' : Int32) (x y : StX) (h : Dpower S p0 p1 p2 v x) (h' : Dpower S p0 p1 p2 v' y) : x = y := by
  obtain ⟨a, c, e1, e2, h1, h2, e⟩ := h
  obtain ⟨a', c', e1', e2', h1', h2', e'⟩ := h'
  obtain rfl := nI_uq e1 e1' h1 h1'
  obtain rfl := nI_uq e2 e2' h2 h2'
  exact e.trans e'.symm
theorem fD_rename (p0 p1 p2 : Int32) (v v' : Int32) (x y : StX) (h : Drename S p0 p1 p2 v x) (h' : Drename S p0 p1 p2 v' y) : x = y := by
  obtain ⟨a, b, c, e1, e2, e3, h1, h2, h3, e⟩ := h
  obtain ⟨a', b', c', e1', e2', e3', h1', h2', h3', e'⟩ := h'
  obtain rfl := nI_uq e1 e1' h1 h1'
  obtain rfl := nI_uq e2 e2' h2 h2'
  obtain rfl := nI_uq e3 e3' h3 h3'
  exact e.trans e'.symm
theorem fD_match (h2 : 2 ≤ S.1) (h7 : S.1 ≤ 7) (p0 p1 p2 : Int32) (v v' : Int32) (x y : StX) (h : Dmatch S p0 p1 p2 v x) (h' : Dmatch S p0 p1 p2 v' y) : x = y := by
  obtain ⟨a, b, c, e1, e2, e3, h1, h2, h3, e⟩ := h
  obtain ⟨a', b', c', e1', e2', e3', h1', h2', h3', e'⟩ := h'
  obtain rfl := nI_uq e1 e1' h1 h1'
  obtain rfl := nI_uq e2 e2' h2 h2'
  obtain rfl := nI_uq e3 e3' h3 h3'
  rcases e with ⟨z, hz, e⟩ | ⟨hn, e⟩
  · rcases e' with ⟨z', hz', e'⟩ | ⟨hn', e'⟩
    · obtain rfl := LN_same (by omega) h7 hz hz'
      exact e.trans e'.symm
    · exact absurd hz.2.1 (hn' _)
  · rcases e' with ⟨z', hz', e'⟩ | ⟨hn', e'⟩
    · exact absurd hz'.2.1 (hn _)
    · exact e.trans e'.symm
theorem fD_nth (h2 : 2 ≤ S.1) (h7 : S.1 ≤ 7) (hM : ∀ c, c < 6 → Mv S.1 (S.2.2.2.2 c)) (p0 p1 p2 p3 : Int32) (v v' : Int32) (x y : StX) (h : Dnth S p0 p1 p2 p3 v x) (h' : Dnth S p0 p1 p2 p3 v' y) : x = y := by
  obtain ⟨s, a, b, rk, e1, e2, e3, e4, h1, h2, h3, h4, e⟩ := h
  obtain ⟨s', a', b', rk', e1', e2', e3', e4', h1', h2', h3', h4', e'⟩ := h'
  obtain rfl := nI_uq e1 e1' h1 h1'
  obtain rfl := nI_uq e2 e2' h2 h2'
  obtain rfl := nI_uq e3 e3' h3 h3'
  obtain rfl := nI_uq e4 e4' h4 h4'
  rcases e with ⟨z, hz1, hz2, hz3, e⟩ | ⟨hn, e⟩
  · rcases e' with ⟨z', hz1', hz2', hz3', e'⟩ | ⟨hn', e'⟩
    · obtain rfl := GK_same (by omega) h7 (hM a h2).2.1 hz2 hz2' hz3 hz3'
      exact e.trans e'.symm
    · exact absurd hz1 hn'
  · rcases e' with ⟨z', hz1', hz2', hz3', e'⟩ | ⟨hn', e'⟩
    · exact absurd hz1' hn
    · exact e.trans e'.symm
end FD
/-! the reference's rows are the house's moves, also behind an act -/
section RLS
variable {n : Nat} {cm mv mv' : Nat → Nat}
theorem RLx_mW (h : RLx n cm mv) {c : Nat} (hc : c < 6) : mW n mv c = cm c := (h c hc).symm
theorem w8_2 (hn : n ≤ 7) {b c : Nat} (hb : b < n) (hc : c < n) : w8 (w8 1754760 b c) c b = mkM n (sw2 b c) := by
  refine d8_ext 7 _ _ (w8_lt (w8_lt (by decide) (by omega) (by omega)) (by omega) (by omega)) (mk8_lt (fun q => by split <;> exact Nat.mod_lt _ (by decide)) 7) (fun p hp => ?_)
  rw [w8_d (by omega) (by omega) (by omega), w8_d (by omega) (by omega) (by omega), e7_d p hp]
  unfold mkM
  rw [d8_mk8 (fun q => by split <;> exact Nat.mod_lt _ (by decide)) 7 p hp]
  unfold sw2
  by_cases e : p = c
  · subst e
    rw [if_pos rfl, if_pos hc, Nat.mod_eq_of_lt (by omega)]
  · rw [if_neg e]
    by_cases e2 : p = b
    · subst e2
      rw [if_pos rfl, if_pos hb, Nat.mod_eq_of_lt (by omega)]
    · rw [if_neg e2, Nat.mod_eq_of_lt (by omega)]
      split <;> rfl
theorem w8_3 (hn : n ≤ 7) {b c f : Nat} (hb : b < n) (hc : c < n) (hf : f < n) : w8 (w8 (w8 1754760 b c) c f) f b = mkM n (sw3 b c f) := by
  refine d8_ext 7 _ _ (w8_lt (w8_lt (w8_lt (by decide) (by omega) (by omega)) (by omega) (by omega)) (by omega) (by omega)) (mk8_lt (fun q => by split <;> exact Nat.mod_lt _ (by decide)) 7) (fun p hp => ?_)
  rw [w8_d (by omega) (by omega) (by omega), w8_d (by omega) (by omega) (by omega), w8_d (by omega) (by omega) (by omega), e7_d p hp]
  unfold mkM
  rw [d8_mk8 (fun q => by split <;> exact Nat.mod_lt _ (by decide)) 7 p hp]
  unfold sw3
  by_cases e : p = f
  · subst e
    rw [if_pos rfl, if_pos hf, Nat.mod_eq_of_lt (by omega)]
  · rw [if_neg e]
    by_cases e1 : p = c
    · subst e1
      rw [if_pos rfl, if_pos hc, Nat.mod_eq_of_lt (by omega)]
    · rw [if_neg e1]
      by_cases e2 : p = b
      · subst e2
        rw [if_pos rfl, if_pos hb, Nat.mod_eq_of_lt (by omega)]
      · rw [if_neg e2, Nat.mod_eq_of_lt (by omega)]
        split <;> rfl
theorem sw2_Pn {b c : Nat} (hb : b < n) (hc : c < n) : Pn n (sw2 b c) := (Pn_swap (r := fun p => p) (fun _ _ => rfl) hb hc).congr (fun p hp => (sw2_is (r := fun p => p) (fun _ _ => rfl) hp).symm)
theorem sw3_Pn {b c f : Nat} (hb : b < n) (hc : c < n) (hf : f < n) (h1 : b ≠ c) (h2 : c ≠ f) (h3 : f ≠ b) : Pn n (sw3 b c f) := (Pn_ring (r := fun p => p) (fun _ _ => rfl) hb hc hf h1 (fun e => h3 e.symm) h2).congr (fun p hp => (sw3_is (r := fun p => p) (fun _ _ => rfl) hp).symm)
theorem RL_behind (hn : n ≤ 7) (hP : PM n mv) (h : RLx n cm mv) {a x : Nat} {g : Nat → Nat} (ha : a < 6) (hg : Pn n g) (hx : x = mkM n g) (hA : ACT n mv a (fun p => g (mv (a * 7 + p))) mv') : RLx n (up cm a (c7 (cm a) x)) mv' :=
  RLx_act h hA (by rw [hx, h a ha]; exact c7_mkM hn (hP a ha) hg)
theorem RL_exchange (hn : n ≤ 7) (hP : PM n mv) (h : RLx n cm mv) {a b c : Nat} (ha : a < 6) (hb : b < n) (hc : c < n) (hA : ACT n mv a (fun p => sw2 b c (mv (a * 7 + p))) mv') : RLx n (up cm a (c7 (cm a) (w8 (w8 1754760 b c) c b))) mv' :=
  RL_behind hn hP h ha (sw2_Pn hb hc) (w8_2 hn hb hc) hA
theorem RL_ring (hn : n ≤ 7) (hP : PM n mv) (h : RLx n cm mv) {a b c f : Nat} (ha : a < 6) (hb : b < n) (hc : c < n) (hf : f < n) (h1 : b ≠ c) (h2 : c ≠ f) (h3 : f ≠ b) (hA : ACT n mv a (fun p => sw3 b c f (mv (a * 7 + p))) mv') : RLx n (up cm a (c7 (cm a) (w8 (w8 (w8 1754760 b c) c f) f b))) mv' :=
  RL_behind hn hP h ha (sw3_Pn hb hc hf h1 h2 h3) (w8_3 hn hb hc hf) hA
theorem RL_mirror (hn : n ≤ 7) (hP : PM n mv) (h : RLx n cm mv) {a : Nat} (ha : a < 6) (hA : ACT n mv a (fun p => n - 1 - mv (a * 7 + p)) mv') : RLx n (up cm a (c7 (cm a) (bW (fun p => n - 1 - p) n))) mv' :=
  RL_behind (g := fun p => n - 1 - p) hn hP h ha (Pn_rev (fun _ _ => rfl)) (bW_M hn (Pn_rev (fun _ _ => rfl)) _ (fun _ _ => rfl) (fun p _ => by omega)) hA
theorem RL_turn (hn1 : 2 ≤ n) (hn : n ≤ 7) (hP : PM n mv) (h : RLx n cm mv) {a : Nat} {T : Nat} (ha : a < 6) (hA : ACT n mv a (fun p => (mv (a * 7 + p) + T) % n) mv') : RLx n (up cm a (c7 (cm a) (bW (fun p => (p + T) % n) n))) mv' :=
  RL_behind (g := fun p => (p + T) % n) hn hP h ha (Pn_rot (by omega) (fun _ _ => rfl)) (bW_M hn (Pn_rot (by omega) (fun _ _ => rfl)) _ (fun _ _ => rfl) (fun p _ => by have := Nat.mod_lt (p + T) (show 0 < n by omega); omega)) hA
theorem RL_copy (h : RLx n cm mv) {a b : Nat} (ha : a < 6) (hA : ACT n mv b (fun p => mv (a * 7 + p)) mv') : RLx n (up cm b (cm a)) mv' := RLx_act h hA (h a ha)
theorem RL_then (hn : n ≤ 7) (hP : PM n mv) (h : RLx n cm mv) {a b c : Nat} (ha : a < 6) (hb : b < 6) (hA : ACT n mv c (fun p => mv (b * 7 + mv (a * 7 + p))) mv') : RLx n (up cm c (c7 (cm a) (cm b))) mv' :=
  RLx_act h hA (by rw [h a ha, h b hb]; exact c7_mkM hn (hP a ha) (hP b hb))
theorem RL_undo (hn : n ≤ 7) (hP : PM n mv) (h : RLx n cm mv) {a b : Nat} {f : Nat → Nat} (ha : a < 6) (hf : ∀ p, p < n → f (mv (a * 7 + p)) = p) (hA : ACT n mv b f mv') : RLx n (up cm b (i7 (cm a))) mv' :=
  RLx_act h hA (by rw [h a ha]; exact i7_mkM hn (hP a ha) hf)
theorem RL_power (hn : n ≤ 7) (hP : PM n mv) (h : RLx n cm mv) {a c : Nat} {t : Int32} (ha : a < 6) (h1 : (-1000) ≤ t) (h2 : t ≤ nI 1000) (hA : ACT n mv c (it (fun p => mv (a * 7 + p)) (tP t)) mv') : RLx n (up cm c (pwM t (cm a))) mv' := by
  have hM := RLx_M hn h hP a ha
  have hq := it_Pn (hP a ha) (tP t)
  refine RLx_act h hA ((pwM_Mv hn hM t).ext (mkM_Mv hn hq) (fun p hp => ?_))
  rw [pwM_d hn hM h1 h2 hp, mkM_d hn hq.1 hp]
  have hi : ∀ k, it (d8 (cm a)) k p = it (fun p => mv (a * 7 + p)) k p := by
    intro k
    induction k with
    | zero => rfl
    | succ k ih =>
      show d8 (cm a) (it (d8 (cm a)) k p) = mv (a * 7 + it (fun p => mv (a * 7 + p)) k p)
      rw [ih]
      exact RLx_d hn h hP ha (it_lt (hP a ha) hp k)
  exact hi _
theorem RL_rename (hn : n ≤ 7) (hP : PM n mv) (h : RLx n cm mv) {a b c : Nat} {f : Nat → Nat} (ha : a < 6) (hb : b < 6) (hf : ∀ p, p < n → f (mv (b * 7 + p)) = mv (b * 7 + mv (a * 7 + p))) (hA : ACT n mv c f mv') : RLx n (up cm c (c7 (c7 (i7 (cm b)) (cm a)) (cm b))) mv' := by
  have hMb := RLx_M hn h hP b hb
  have hMa := RLx_M hn h hP a ha
  have hf2 : Pn n f := Pn_inv (hP b hb) (Pn.comp (hP a ha) (hP b hb)) hf
  have i1 := i7_Mv hn hMb
  have i2 := c7_Mv hn i1 hMa
  refine RLx_act h hA ((c7_Mv hn i2 hMb).ext (mkM_Mv hn hf2) (fun v hv => ?_))
  rw [mkM_d hn hf2.1 hv, c7_d (by omega), c7_d (by omega)]
  have hg := i1.2.1.1 v hv
  have e1 : mv (b * 7 + d8 (i7 (cm b)) v) = v := by
    rw [← RLx_d hn h hP hb hg]
    have e := cM_d hn (iM_Mv hn hMb) hMb hv
    rw [iM_c hn hMb, eM_d hn hv, ← i7_M hn hMb] at e
    exact e.symm
  have e2 := hf _ hg
  rw [e1] at e2
  rw [e2, RLx_d hn h hP ha hg, RLx_d hn h hP hb ((hP a ha).1 _ hg)]
theorem RL_lay (h : RLx n cm mv) {a b : Nat} (hA : ACT n mv a (rwF n b) mv') : RLx n (up cm a (XM n b)) mv' := RLx_act h hA rfl
theorem RL_swap (hn : n ≤ 7) (h : RLx n cm mv) {a b : Nat} (ha : a < 6) (hb : b < 6) : RLx n (up (up cm a (cm b)) b (cm a)) (sw mv a b n) := fun c hc => by
  by_cases e : c = b
  · subst e
    rw [up_s, h a ha]
    refine mkM_congr (fun p hp => ?_)
    unfold sw
    by_cases q : a * 7 ≤ c * 7 + p ∧ c * 7 + p < a * 7 + n
    · have : a = c := by omega
      subst this
      rw [if_pos q]
      congr 1
      omega
    · rw [if_neg q, if_pos (by omega)]
      congr 1
      omega
  · rw [up_n e]
    by_cases e2 : c = a
    · subst e2
      rw [up_s, h b hb]
      refine mkM_congr (fun p hp => ?_)
      unfold sw
      rw [if_pos (by omega)]
      congr 1
      omega
    · rw [up_n e2, h c hc]
      refine mkM_congr (fun p hp => ?_)
      unfold sw
      rw [if_neg (by omega), if_neg (by omega)]
theorem RL_points {k : Nat} (hk : k ≤ 7) (h : ∀ c p, c < 6 → p < k → mv' (c * 7 + p) = p) : RLx k (fun _ => 1754760) mv' := fun c hc => by
  show 1754760 = _
  rw [e7_M hk]
  exact mkM_congr (fun p hp => (h c p hc hp).symm)
theorem RL_nth (h : RLx n cm mv) {c y : Nat} (hn : n ≤ 7) (hy : Mv n y) (hA : ACT n mv c (d8 y) mv') : RLx n (up cm c y) mv' :=
  RLx_act h hA (hy.ext (mkM_Mv hn hy.2.1) (fun p hp => by rw [mkM_d hn hy.2.1.1 hp]))
theorem RN_RNr (hn : n ≤ 7) (hP : PM n mv) (h : RLx n cm mv) {a b : Nat} (ha : a < 6) (hb : b < 6) {f : Nat → Nat} (hf : Pn n f) : RN n (cm a) (cm b) f ↔ RNr n mv a b f := by
  refine ⟨fun q p hp => ?_, fun q => ⟨hf, fun p hp => ?_⟩⟩
  · rw [← RLx_d hn h hP ha hp, ← RLx_d hn h hP hb (hf.1 p hp)]
    exact q.2 p hp
  · rw [RLx_d hn h hP ha hp, RLx_d hn h hP hb (hf.1 p hp)]
    exact q p hp
theorem RNr_num (h1 : 1 ≤ n) (hP : PM n mv) {a b : Nat} (ha : a < 6) {w : Nat → Nat} (hw : Pn n w) (h : RNr n mv a b w) : RNr n mv a b (rwF n (nuF w 0 n n)) := fun p hp => by
  rw [rw_nu h1 hw _ ((hP a ha).1 p hp), rw_nu h1 hw p hp]
  exact h p hp
theorem LN_ref (h1 : 1 ≤ n) (hn : n ≤ 7) (hP : PM n mv) (h : RLx n cm mv) {a b k : Nat} (ha : a < 6) (hb : b < 6) (hk : k < fc n) (hq : RNr n mv a b (rwF n k)) (hl : ∀ j, j < k → ¬ RNr n mv a b (rwF n j)) : LN n (cm a) (cm b) (XM n k) := by
  have hX := XM_Mv h1 hn k
  have hd : RNr n mv a b (d8 (XM n k)) := fun p hp => by
    rw [XM_d h1 hn ((hP a ha).1 p hp), XM_d h1 hn hp]
    exact hq p hp
  refine ⟨hX, (RN_RNr hn hP h ha hb hX.2.1).mpr hd, fun w hw => ?_⟩
  rw [nu_XM h1 hn hk]
  have h3 := RNr_num h1 hP ha hw.1 ((RN_RNr hn hP h ha hb hw.1).mp hw)
  exact Nat.not_lt.mp (fun e => hl _ e h3)
theorem LN_none (h1 : 1 ≤ n) (hn : n ≤ 7) (hP : PM n mv) (h : RLx n cm mv) {a b : Nat} (ha : a < 6) (hb : b < 6) (hl : ∀ k, k < fc n → ¬ RNr n mv a b (rwF n k)) (w : Nat → Nat) : ¬ RN n (cm a) (cm b) w := fun hw =>
  hl _ (nuF_b w 0 n) (RNr_num h1 hP ha hw.1 ((RN_RNr hn hP h ha hb hw.1).mp hw))
theorem gS_RL (h : RLx n cm mv) (s x : Nat) : gS (mW n mv) s 6 x ↔ gS cm s 6 x := by
  refine ⟨fun ⟨c, h1, h2, h3⟩ => ⟨c, h1, h2, h3.trans (RLx_mW h h1)⟩, fun ⟨c, h1, h2, h3⟩ => ⟨c, h1, h2, h3.trans (RLx_mW h h1).symm⟩⟩
theorem Gg_RL (h : RLx n cm mv) (s x : Nat) : Gg n (gS (mW n mv) s 6) x ↔ Gg n (gS cm s 6) x :=
  ⟨Gg_mono (fun y => (gS_RL h s y).mp), Gg_mono (fun y => (gS_RL h s y).mpr)⟩
theorem cd_RL (h1 : 1 ≤ n) (hn : n ≤ 7) (h : RLx n cm mv) (s : Nat) : cd n (Gg n (gS (mW n mv) s 6)) = cd n (Gg n (gS cm s 6)) := cd_iff h1 hn (fun x _ => Gg_RL h s x)
theorem GK_RL (h1 : 1 ≤ n) (hn : n ≤ 7) (hP : PM n mv) (h : RLx n cm mv) {s a rk y : Nat} (ha : a < 6) (hG : GK n (Gg n (gS (mW n mv) s 6)) (fun j => mv (a * 7 + j)) rk y) : GK n (Gg n (gS cm s 6)) (d8 (cm a)) rk y :=
  GK_iff h1 hn (fun x _ => Gg_RL h s x) (GK_rd h1 hn (fun j hj => (RLx_d hn h hP ha hj).symm) hG)
theorem KX_keep {kn kn' : Int32} {bt : List Int32} (h : KX n mv kn bt) (e : kn' = kn) : KX n mv kn' bt := by
  rw [e]; exact h
end RLS
