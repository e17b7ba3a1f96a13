section
/-! what is so between two calls, exactly; acts as relations -/
/-- the number of points, done, refused, knocks, the moves -/
abbrev StX : Type := Nat × Int32 × Int32 × Int32 × (Nat → Nat)
def LCx (S : StX) (w : List jC) : Prop := 2 ≤ S.1 ∧ S.1 ≤ 7 ∧ (∀ c, c < 6 → Mv S.1 (S.2.2.2.2 c)) ∧ HX S.1 S.2.1 S.2.2.1 S.2.2.2.1 S.2.2.2.2 w ∧ SH (rX S.1 S.2.1 S.2.2.1 S.2.2.2.1) w
def LRx (o : Nat) (S : StX) (t : Int32) (w : List jC) : Prop := ∃ (mv rw nx : Nat → Nat) (b : Nat) (bt : List Int32) (kn en : Int32), RM S.1 mv rw nx b bt kn en S.2.1 S.2.2.1 S.2.2.2.1 t w ∧ 2 ≤ S.1 ∧ S.1 ≤ 7 ∧ (∀ i, mv i < 7) ∧ (∀ i, rw i < 7) ∧ (∀ i, nx i < 7) ∧ PM S.1 mv ∧ KX S.1 mv kn bt en ∧ RLx S.1 S.2.2.2.2 mv ∧ b ≠ o
def LO (o : Nat) (w : List jC) : Prop := 24 ≤ o ∧ ∃ fs : List Value, w[o]? = some (.inr (8, fs)) ∧ fs.length = 2
def LIx (o : Nat) (S S' : StX) (t : Int32) (w : List jC) : Prop := LCx S w ∧ LRx o S' t w ∧ LO o w
def LI (o : Nat) (S S' : StX) (w : List jC) : Prop := ∃ t, LIx o S S' t w
/-- what lies behind the house is kept -/
def F19 (w w' : List jC) : Prop := w.length ≤ w'.length ∧ ∀ i, 19 ≤ i → i < w.length → w'[i]? = w[i]?
theorem F19.of {w w' : List jC} (h : Fr kX w w') : F19 w w' := ⟨h.1, fun i hi hl => h.2 i (Or.inr hi) hl⟩
theorem F19.H {w w' : List jC} (h : FH w w') : F19 w w' := ⟨h.1, fun i hi hl => h.2 i (by omega) hl⟩
theorem F19.N {w w' : List jC} (h : FN w w') : F19 w w' := ⟨h.1, fun i hi hl => h.2 i (by omega) hl⟩
theorem F19.psh {w : List jC} {cs : List jC} : F19 w (w ++ cs) := ⟨by rw [List.length_append]; omega, fun _ _ hl => List.getElem?_append_left hl⟩
theorem LRx.fr {o : Nat} {S : StX} {t : Int32} {w w' : List jC} (h : LRx o S t w) (hF : F19 w w') : LRx o S t w' := by
  obtain ⟨mv, rw, nx, b, bt, kn, en, ⟨h1, h2, h3, h4, h5, h6, h7⟩, r⟩ := h
  exact ⟨mv, rw, nx, b, bt, kn, en, ⟨(hF.2 19 (by decide) (gl h1)).trans h1, (hF.2 20 (by decide) (gl h2)).trans h2, (hF.2 21 (by decide) (gl h3)).trans h3, (hF.2 22 (by decide) (gl h4)).trans h4, (hF.2 b (by omega) (gl h5)).trans h5, h6, h7⟩, r⟩
theorem LO.fr {o : Nat} {w w' : List jC} (h : LO o w) (hF : F19 w w') : LO o w' := by
  obtain ⟨h0, fs, h1, h2⟩ := h
  exact ⟨h0, fs, (hF.2 o (by omega) (gl h1)).trans h1, h2⟩
theorem LIx.c0 {o : Nat} {S S' : StX} {t : Int32} {w : List jC} (h : LIx o S S' t w) : ∃ fs : List Value, w[0]? = some (.inr (7, fs)) := ⟨_, h.1.2.2.2.1.1⟩
theorem LIx.c19 {o : Nat} {S S' : StX} {t : Int32} {w : List jC} (h : LIx o S S' t w) : ∃ fs : List Value, w[19]? = some (.inr (9, fs)) := by
  obtain ⟨_, ⟨mv, rw, nx, b, bt, kn, en, hR, _⟩, _⟩ := h
  exact ⟨_, hR.1⟩
theorem LI.c0 {o : Nat} {S S' : StX} {w : List jC} (h : LI o S S' w) : ∃ fs : List Value, w[0]? = some (.inr (7, fs)) := by
  obtain ⟨t, h⟩ := h
  exact h.c0
theorem LI.c19 {o : Nat} {S S' : StX} {w : List jC} (h : LI o S S' w) : ∃ fs : List Value, w[19]? = some (.inr (9, fs)) := by
  obtain ⟨t, h⟩ := h
  exact h.c19
/-! the class's side -/
theorem LCx.q {S : StX} {w w' : List jC} (h : LCx S w) (hS : SH (rX S.1 S.2.1 S.2.2.1 S.2.2.2.1) w') (hF : Fr kX w w') : LCx S w' := by
  obtain ⟨a1, a2, a3, ⟨a4, a5⟩, a6⟩ := h
  obtain ⟨_, hc, rfl⟩ := hS 0 _ rfl
  exact ⟨a1, a2, a3, ⟨hc, (hF.2 1 (Or.inl rfl) (gl a5)).trans a5⟩, hS⟩
theorem LI.q {o : Nat} {S S' : StX} {w w' : List jC} (h : LI o S S' w) (hS : SH (rX S.1 S.2.1 S.2.2.1 S.2.2.2.1) w') (hF : Fr kX w w') : LI o S S' w' := by
  obtain ⟨t, h1, h2, h3⟩ := h
  exact ⟨t, h1.q hS hF, h2.fr (F19.of hF), h3.fr (F19.of hF)⟩
theorem LCx.psh {S : StX} {w : List jC} {cs : List jC} (h : LCx S w) : LCx S (w ++ cs) := by
  obtain ⟨a1, a2, a3, ⟨a4, a5⟩, a6⟩ := h
  exact ⟨a1, a2, a3, ⟨(List.getElem?_append_left (gl a4)).trans a4, (List.getElem?_append_left (gl a5)).trans a5⟩, a6.push⟩
theorem LI.psh {o : Nat} {S S' : StX} {w w' : List jC} (h : LI o S S' w) (hw : w' = w ++ [.inr (99, [])]) : LI o S S' w' := by
  subst hw
  obtain ⟨t, h1, h2, h3⟩ := h
  exact ⟨t, h1.psh, h2.fr F19.psh, h3.fr F19.psh⟩
theorem LI.eq {o : Nat} {S S' : StX} {w w' : List jC} (h : LI o S S' w) (hw : w' = w) : LI o S S' w' := by
  obtain rfl := hw.symm
  exact h
/-- the moves' cell -/
theorem tA_aF {k : Nat} {f : Nat → Nat} : tA k (aF k f) := ⟨_, rfl, by rw [List.length_map, List.length_range]⟩
theorem LCx.act {S S2 : StX} {w w' : List jC} (h : LCx S w) (hH : HX S2.1 S2.2.1 S2.2.2.1 S2.2.2.2.1 S2.2.2.2.2 w') (hF : FH w w') (h1 : 2 ≤ S2.1) (h2 : S2.1 ≤ 7) (hM : ∀ c, c < 6 → Mv S2.1 (S2.2.2.2.2 c)) : LCx S2 w' := by
  obtain ⟨_, _, _, _, a6⟩ := h
  refine ⟨h1, h2, hM, hH, fun i p hp => ?_⟩
  match i, hp with
  | 0, hp =>
    cases hp
    exact ⟨_, hH.1, rfl⟩
  | 1, hp =>
    cases hp
    exact ⟨_, hH.2, tA_aF⟩
  | i + 2, hp =>
    obtain ⟨c, hc, h2⟩ := a6 (i + 2) p hp
    exact ⟨c, (hF.2 (i + 2) (by omega) (gl hc)).trans hc, h2⟩
theorem LI.act {o : Nat} {S S2 S' : StX} {w w' : List jC} (h : LI o S S' w) (hH : HX S2.1 S2.2.1 S2.2.2.1 S2.2.2.2.1 S2.2.2.2.2 w') (hF : FH w w') (h1 : 2 ≤ S2.1) (h2 : S2.1 ≤ 7) (hM : ∀ c, c < 6 → Mv S2.1 (S2.2.2.2.2 c)) : LI o S2 S' w' := by
  obtain ⟨t, a1, a2, a3⟩ := h
  exact ⟨t, a1.act hH hF h1 h2 hM, a2.fr (F19.H hF), a3.fr (F19.H hF)⟩
theorem LI.nth {o : Nat} {S S2 S' : StX} {w w' : List jC} {st sv rc sz kw : Nat → Nat} {ns tk ro nn : Nat} (h : LI o S S' w) (hH : HX S2.1 S2.2.1 S2.2.2.1 S2.2.2.2.1 S2.2.2.2.2 w') (hF : FN w w') (hC : CM st sv rc sz kw ns tk ro nn w') (hns : ns ≤ 21) (hnn : nn ≤ 7) (h1 : 2 ≤ S2.1) (h2 : S2.1 ≤ 7) (hM : ∀ c, c < 6 → Mv S2.1 (S2.2.2.2.2 c)) : LI o S2 S' w' := by
  obtain ⟨t, ⟨_, _, _, _, a6⟩, a2, a3⟩ := h
  refine ⟨t, ⟨h1, h2, hM, hH, fun i p hp => ?_⟩, a2.fr (F19.N hF), a3.fr (F19.N hF)⟩
  obtain ⟨c2, c3, c4, c5, c6, c7⟩ := hC
  match i, hp with
  | 0, hp =>
    cases hp
    exact ⟨_, hH.1, rfl⟩
  | 1, hp =>
    cases hp
    exact ⟨_, hH.2, tA_aF⟩
  | 2, hp =>
    cases hp
    exact ⟨_, c2, ns, nn, nI tk, nI ro, rfl, hns, hnn⟩
  | 3, hp =>
    cases hp
    exact ⟨_, c3, tA_aF⟩
  | 4, hp =>
    cases hp
    exact ⟨_, c4, tA_aF⟩
  | 5, hp =>
    cases hp
    exact ⟨_, c5, tA_aF⟩
  | 6, hp =>
    cases hp
    exact ⟨_, c6, tA_aF⟩
  | 7, hp =>
    cases hp
    exact ⟨_, c7, tA_aF⟩
  | i + 8, hp =>
    obtain ⟨c, hc, h2⟩ := a6 (i + 8) p hp
    exact ⟨c, (hF.2 (i + 8) (by omega) (gl hc)).trans hc, h2⟩
/-- a plain list of ints as a function -/
theorem aF_of {k : Nat} {xs : List Int32} (h : xs.length = k) : (.inl (0, xs) : jC) = aF k (fun i => (xs.getD i 0).toBitVec.toNat) := by
  unfold aF
  congr 2
  refine List.ext_getElem (by rw [List.length_map, List.length_range]; exact h) (fun i h1 h2 => ?_)
  rw [List.getElem_map, List.getElem_range, ← nI_self, List.getD_eq_getElem?_getD, List.getElem?_eq_getElem h1]
  rfl
/-- the chain's cells as functions -/
theorem CM_of {S : StX} {w : List jC} (h : LCx S w) : ∃ (st sv rc sz kw : Nat → Nat) (ns tk ro nn : Nat), CM st sv rc sz kw ns tk ro nn w := by
  obtain ⟨_, _, _, _, a6⟩ := h
  obtain ⟨_, c2, a, f, b, g, rfl, _, _⟩ := a6 2 _ rfl
  obtain ⟨_, c3, x3, rfl, l3⟩ := a6 3 _ rfl
  obtain ⟨_, c4, x4, rfl, l4⟩ := a6 4 _ rfl
  obtain ⟨_, c5, x5, rfl, l5⟩ := a6 5 _ rfl
  obtain ⟨_, c6, x6, rfl, l6⟩ := a6 6 _ rfl
  obtain ⟨_, c7, x7, rfl, l7⟩ := a6 7 _ rfl
  rw [aF_of l3] at c3
  rw [aF_of l4] at c4
  rw [aF_of l5] at c5
  rw [aF_of l6] at c6
  rw [aF_of l7] at c7
  rw [nI_self b, nI_self g] at c2
  exact ⟨_, _, _, _, _, _, _, _, _, c2, c3, c4, c5, c6, c7⟩
/-! the reference's side -/
theorem LIx.ref {o : Nat} {S S2 : StX} {t : Int32} {w w' : List jC} {b b' : Nat} {mv rw nx : Nat → Nat} {bt : List Int32} {kn en : Int32} (hC : LCx S w) (hO : LO o w) (h24 : b ≠ o) (hb : 23 ≤ b) (hF : FR b b' w w') (hR : RM S2.1 mv rw nx b' bt kn en S2.2.1 S2.2.2.1 S2.2.2.2.1 t w') (h1 : 2 ≤ S2.1) (h2 : S2.1 ≤ 7)
    (gm : ∀ i, mv i < 7) (gr : ∀ i, rw i < 7) (gx : ∀ i, nx i < 7) (hP : PM S2.1 mv) (hK : KX S2.1 mv kn bt en) (hL : RLx S2.1 S2.2.2.2.2 mv) : LIx o S S2 t w' ∧ w'[o]? = w[o]? := by
  obtain ⟨a1, a2, a3, ⟨a4, a5⟩, a6⟩ := hC
  obtain ⟨o0, fs, o1, o2⟩ := hO
  have hl := gl o1
  have hk : ∀ i, i < 19 → w'[i]? = w[i]? := fun i hi => hF.2.2 i (Or.inl hi) (by omega) (by omega)
  have ho := hF.at o1 (by omega) (fun e => h24 e.symm)
  refine ⟨⟨⟨a1, a2, a3, ⟨(hk 0 (by decide)).trans a4, (hk 1 (by decide)).trans a5⟩, a6.keep (fun i hi => hk i hi)⟩, ⟨mv, rw, nx, b', bt, kn, en, hR, h1, h2, gm, gr, gx, hP, hK, hL, ?_⟩, ⟨o0, fs, ho, o2⟩⟩, ho.trans o1.symm⟩
  rcases hF.2.1 with e | e
  · rw [e]; exact h24
  · omega
theorem LI.out {o : Nat} {S S' : StX} {w w' : List jC} {k : Nat} {v : Value} {fs : List Value} (h : LI o S S' w) (hfs : fs.length = 2) (hw : w'[o]? = some (.inr (8, fs.set k v))) (hne : ∀ c, c ≠ o → w'[c]? = w[c]?) : LI o S S' w' := by
  obtain ⟨t, ⟨a1, a2, a3, ⟨a4, a5⟩, a6⟩, ⟨mv, rw, nx, b, bt, kn, en, ⟨b1, b2, b3, b4, b5, b6, b7⟩, c1, c2, c3, c4, c5, c6, c7, c8, c9⟩, ⟨o0, _⟩⟩ := h
  refine ⟨t, ⟨a1, a2, a3, ⟨(hne 0 (by omega)).trans a4, (hne 1 (by omega)).trans a5⟩, a6.keep (fun i hi => ?_)⟩, ⟨mv, rw, nx, b, bt, kn, en, ⟨(hne 19 (by omega)).trans b1, (hne 20 (by omega)).trans b2, (hne 21 (by omega)).trans b3, (hne 22 (by omega)).trans b4, (hne b c9).trans b5, b6, b7⟩, c1, c2, c3, c4, c5, c6, c7, c8, c9⟩, ⟨o0, _, hw, by rw [List.length_set]; exact hfs⟩⟩
  have h19 : i < 19 := hi
  exact hne i (by omega)
/-! acts -/
def AG (G1 G2 : Prop) (D : Int32 → StX → Prop) (S : StX) (k : Nat) (v : Int32) (S' : StX) : Prop := (k = 1 ∧ ¬ G1 ∧ S' = S) ∨ (k = 2 ∧ G1 ∧ ¬ G2 ∧ S' = S) ∨ (k = 0 ∧ G1 ∧ G2 ∧ D v S')
section ACTS
variable {G1 G2 : Prop} {D : Int32 → StX → Prop} {S : StX} {k k' : Nat} {v v' : Int32} {a b : StX}
theorem AG.same (hD : ∀ v v' a b, D v a → D v' b → a = b) (h : AG G1 G2 D S k v a) (h' : AG G1 G2 D S k' v' b) : a = b ∧ k = k' := by
  rcases h with ⟨e, g, s⟩ | ⟨e, g, g2, s⟩ | ⟨e, g, g2, s⟩ <;> rcases h' with ⟨e', g', s'⟩ | ⟨e', g', g2', s'⟩ | ⟨e', g', g2', s'⟩
  · exact ⟨s.trans s'.symm, e.trans e'.symm⟩
  · exact absurd g' g
  · exact absurd g' g
  · exact absurd g g'
  · exact ⟨s.trans s'.symm, e.trans e'.symm⟩
  · exact absurd g2' g2
  · exact absurd g g'
  · exact absurd g2 g2'
  · exact ⟨hD _ _ _ _ s s', e.trans e'.symm⟩
theorem AG.val (hV : ∀ v v' a b, D v a → D v' b → v = v') (h : AG G1 G2 D S k v a) (h' : AG G1 G2 D S k v' b) (h0 : k = 0) : v = v' := by
  rcases h with ⟨e, _⟩ | ⟨e, _⟩ | ⟨_, _, _, s⟩
  · omega
  · omega
  · rcases h' with ⟨e, _⟩ | ⟨e, _⟩ | ⟨_, _, _, s'⟩
    · omega
    · omega
    · exact hV _ _ _ _ s s'
theorem AG.k3 (h : AG G1 G2 D S k v a) : k < 3 := by
  rcases h with ⟨e, _⟩ | ⟨e, _⟩ | ⟨e, _⟩ <;> omega
end ACTS
def ES (S : StX) (a x : Nat) : StX := (S.1, S.2.1 + nI 1, S.2.2.1, S.2.2.2.1, up S.2.2.2.2 a x)
def NS (S : StX) : StX := (S.1, S.2.1, S.2.2.1 + nI 1, S.2.2.2.1, S.2.2.2.2)
def KS (S : StX) : StX := (S.1, S.2.1, S.2.2.1, S.2.2.2.1 + nI 1, S.2.2.2.2)
theorem nI_uq {x : Int32} {a b k : Nat} (ha : x = nI a) (hb : x = nI b) (h1 : a < k) (h2 : b < k) (hk : k ≤ 2 ^ 31 := by omega) : a = b := (nI_eq (by omega) (by omega)).mp (ha.symm.trans hb)
theorem ES_M {S : StX} {a x : Nat} (hM : ∀ c, c < 6 → Mv S.1 (S.2.2.2.2 c)) (hx : Mv S.1 x) : ∀ c, c < 6 → Mv (ES S a x).1 ((ES S a x).2.2.2.2 c) := fun c hc => by
  show Mv S.1 (up S.2.2.2.2 a x c)
  by_cases e : c = a
  · rw [e, up_s]; exact hx
  · rw [up_n e]; exact hM c hc
end
section
/-! the house's questions over all its cells -/
/-- all cells behind the house's two -/
def UB (ns nn mn wn tn pc qn qm : Nat) : Prop := ns ≤ 21 ∧ nn ≤ 7 ∧ mn ≤ 5040 ∧ wn ≤ 7 ∧ tn ≤ 7 ∧ (1 ≤ pc ∧ pc ≤ 3) ∧ qn ≤ 7 ∧ qm ≤ 2187
def AU (w : List jC) : Prop := ∃ (st : Nat → Nat), ∃ (sv : Nat → Nat), ∃ (rc : Nat → Nat), ∃ (sz : Nat → Nat), ∃ (kw : Nat → Nat), ∃ (ns : Nat), ∃ (tk : Nat), ∃ (ro : Nat), ∃ (nn : Nat), ∃ (ml : List Int32), ∃ (tg : Nat → Nat), ∃ (mn : Nat), ∃ (wn : Nat), ∃ (po : Nat → Nat), ∃ (tn : Nat), ∃ (ql : List Int32), ∃ (qt : Nat → Nat), ∃ (pw : Nat → Nat), ∃ (qm : Nat), ∃ (pc : Nat), ∃ (qn : Nat), CM st sv rc sz kw ns tk ro nn w ∧ WM ml tg mn wn w ∧ TM po tn w ∧ QM ql qt pw qm pc qn w ∧ UB ns nn mn wn tn pc qn qm
theorem F19.rf {w : List jC} : F19 w w := ⟨Nat.le_refl _, fun _ _ _ => rfl⟩
theorem F19.tr {w w' w'' : List jC} (h : F19 w w') (h' : F19 w' w'') : F19 w w'' := ⟨Nat.le_trans h.1 h'.1, fun i hi hl => (h'.2 i hi (Nat.lt_of_lt_of_le hl h.1)).trans (h.2 i hi hl)⟩
theorem F19.trC {w w' w'' : List jC} (h : F19 w w') (h' : FC w' w'') : F19 w w'' := ⟨by rw [h'.1]; exact h.1, fun i hi hl => (h'.2 i (by omega)).trans (h.2 i hi hl)⟩
theorem F19.trB {a b : Nat} {w w' w'' : List jC} (h : F19 w w') (h' : FB a b w' w'') (hb : b ≤ 18) : F19 w w'' := ⟨by rw [h'.1]; exact h.1, fun i hi hl => (h'.2 i (by omega)).trans (h.2 i hi hl)⟩
theorem F19.trH {w w' w'' : List jC} (h : F19 w w') (h' : FH w' w'') : F19 w w'' := ⟨Nat.le_trans h.1 h'.1, fun i hi hl => (h'.2 i (by omega) (Nat.lt_of_lt_of_le hl h.1)).trans (h.2 i hi hl)⟩
theorem ocL_le (x : Nat) : ∀ f r c, ocL x f r c ≤ c + f
  | 0, _, _ => Nat.le_refl _
  | f + 1, r, c => by
    show (if r = 1754760 then c else ocL x f (c7 r x) (c + 1)) ≤ c + (f + 1)
    have := ocL_le x f (c7 r x) (c + 1)
    split <;> omega
theorem oC_le (x : Nat) : oC x ≤ 12 := ocL_le x 11 x 1
theorem FI_od {n s o : Nat} {cm : Nat → Nat} {ml : List Int32} (h1 : 1 ≤ n) (hn : n ≤ 7) (hB : WX n cm s ml) {tg : Nat → Nat} {mn : Nat} (hF : FI n ml tg mn) (ho : o ≤ 12) : sm (fun i => if oC (tg i) = o then 1 else 0) mn = cd n (fun x => Gg n (gS cm s 6) x ∧ nI (oC x) = nI o) := by
  rw [FI_sm hB hF (P := fun x => oC x = o)]
  refine cd_iff h1 hn (fun x hx => and_congr_right (fun _ => ⟨fun e => congrArg nI e, fun e => ?_⟩))
  have h2 := oC_le x
  exact (nI_eq (by omega) (by omega)).mp e
theorem FI_ev {n s : Nat} {cm : Nat → Nat} {ml : List Int32} (h1 : 1 ≤ n) (hn : n ≤ 7) (hB : WX n cm s ml) {tg : Nat → Nat} {mn : Nat} (hF : FI n ml tg mn) : sm (fun i => if sgC (tg i) n = nI 1 then 1 else 0) mn = cd n (fun x => Gg n (gS cm s 6) x ∧ sg n x = nI 1) := by
  rw [FI_sm hB hF (P := fun x => sgC x n = nI 1)]
  refine cd_iff h1 hn (fun x hx => and_congr_right (fun _ => ?_))
  rw [sign_is hn hx]
end
section
/-! the house's questions over all its cells -/
theorem pw31c {k N : Nat} (h : 2 ^ k ≤ N) (hN : N ≤ 5040) : k < 31 ∧ 2 ^ k < 2 ^ 31 := by
  refine ⟨Nat.lt_of_not_le (fun q => ?_), by omega⟩
  have := Nat.pow_le_pow_right (show 1 ≤ 2 by decide) q
  omega
theorem RKV_g {G : Prop} {r : Nat} {v : Int32} (h : RKV G r v) (hG : G) : v = nI r := by
  rcases h with h | h
  · exact h.2.1
  · exact absurd hG h.1
set_option maxRecDepth 100000 in
set_option maxHeartbeats 4000000 in
theorem c_X6_raiseAll_atu {X : jX} (hs : X.1.stackTraces = false) {d : Nat} (hd : 5 ≤ d) {st : Nat → Nat} {sv : Nat → Nat} {rc : Nat → Nat} {sz : Nat → Nat} {kw : Nat → Nat} {ns : Nat} {tk : Nat} {ro : Nat} {nn : Nat} {ml : List Int32} {tg : Nat → Nat} {mn : Nat} {wn : Nat} {po : Nat → Nat} {tn : Nat} {ql : List Int32} {qt : Nat → Nat} {pw : Nat → Nat} {qm : Nat} {pc : Nat} {qn : Nat} {n : Nat} {e r q : Int32} {cm : Nat → Nat} {w : List jC} (hH : HX n e r q cm w) (hn1 : 2 ≤ n) (hn2 : n ≤ 7) (hcm : ∀ c, c < 6 → Mv n (cm c)) (hR : CM st sv rc sz kw ns tk ro nn w) (hRw : WM ml tg mn wn w) (hRt : TM po tn w) (hRq : QM ql qt pw qm pc qn w) (hUB : UB ns nn mn wn tn pc qn qm) {kc ks : Nat} : jMet X mX6_raiseAll d kc ks [.ref 0] w (pV (fun w' => ∃ (st' : Nat → Nat), ∃ (sv' : Nat → Nat), ∃ (rc' : Nat → Nat), ∃ (sz' : Nat → Nat), ∃ (kw' : Nat → Nat), ∃ (ns' : Nat), ∃ (tk' : Nat), ∃ (ml' : List Int32), ∃ (tg' : Nat → Nat), ∃ (mn' : Nat), HX n e r q cm w' ∧ F19 w w' ∧ CM st' sv' rc' sz' kw' ns' tk' (cm 0) n w' ∧ WM ml' tg' mn' n w' ∧ TM po tn w' ∧ QM ql qt pw qm pc qn w' ∧ UB ns' n mn' n tn pc qn qm ∧ (CI n (cm 0) st' sv' rc' kw' ns') ∧ (PQ n rc' st' kw' ns') ∧ (∀ x, CP n (RC rc') (ST st') n x ↔ (Gg n (gS cm 63 6)) x) ∧ (∀ l, l ≤ n → sz' l = zF rc' n (n - l)) ∧ (tk' = enF n cm 63 6) ∧ (FI n ml' tg' mn') ∧ (WX n cm 63 ml'))) := by
  refine jMet_of hs (by decide +kernel) (Nat.le_of_ble_eq_true rfl) (L := [some (.ref 0)]) rfl ?_
  obtain ⟨h0, h1⟩ := hH
  obtain ⟨h2, h3, h4, h5, h6, h7⟩ := hR
  obtain ⟨h8, h9, h10, h11, hz11⟩ := hRw
  obtain ⟨h12, h13⟩ := hRt
  obtain ⟨h14, h15, h16, h17, h18, hz17⟩ := hRq
  obtain ⟨hu1, hu2, hu3, hu4, hu5, ⟨hu6, hu7⟩, hu8, hu9⟩ := hUB
  have hG : F19 w w := F19.rf
  refine J_aload_n (pc := 0) dX6_raiseAll_0 rfl rfl rfl ?_
  refine J_get (pc := 1) (k := 1) dX6_raiseAll_1 kC7 (by decide) ff_X6_16 h0 rfl ?_
  refine J_aload_n (pc := 4) dX6_raiseAll_4 rfl rfl rfl ?_
  refine J_get (pc := 5) (k := 0) dX6_raiseAll_5 kC7 (by decide) ff_X6_9 h0 rfl ?_
  refine J_bipush (pc := 8) (v := nI 63) dX6_raiseAll_8 (by decide) ?_
  refine J_aload_n (pc := 10) dX6_raiseAll_10 rfl rfl rfl ?_
  refine J_get (pc := 11) (k := 0) dX6_raiseAll_11 kC7 (by decide) ff_X6_9 h0 rfl ?_
  refine J_iconst (pc := 14) (v := nI 0) dX6_raiseAll_14 (by decide) ?_
  refine J_ialdF (pc := 15) dX6_raiseAll_15 h1 (by decide) (by decide) ?_
  refine J_aload_n (pc := 16) dX6_raiseAll_16 rfl rfl rfl ?_
  refine J_get (pc := 17) (k := 5) dX6_raiseAll_17 kC7 (by decide) ff_X6_41 h0 rfl ?_
  refine J_callV0 (pc := 20) (M := mX6_raiseAll) (as := [.ref 1, .int (nI 63), .int (nI (cm 0)), .int (nI n)]) dX6_raiseAll_20 fw_X0_raise fl_X6_134 fm_X0_raise fe_X0_raise h2 (by decide) rfl rfl rfl (c_X0_raise_atx hs (d := d - 1) (by omega) (st := st) (sv := sv) (rc := rc) (sz := sz) (kw := kw) (ns := ns) (tk := tk) (ro := ro) (nn := nn) ⟨h2, h3, h4, h5, h6, h7⟩ h1 (w := w) 63 (cm 0) n (by exact hn2) (by exact hcm 0 (by decide)) (by decide) (by exact hcm) (kc := 0) (ks := 0)) (by omega) (st := []) (Nat.le_of_ble_eq_true rfl) rfl (kr_V fun w1 hw1 => ?_) kx_V
  obtain ⟨st1, sv1, rc1, sz1, kw1, ns1, tk1, hR1, hFc1, hp1_0, hp1_1, hp1_2, hp1_3, hp1_4⟩ := hw1
  have h0_1 := (hFc1.2 0 (by decide)).trans h0
  have h1_1 := (hFc1.2 1 (by decide)).trans h1
  have h8_1 := (hFc1.2 8 (by decide)).trans h8
  have h9_1 := (hFc1.2 9 (by decide)).trans h9
  have h10_1 := (hFc1.2 10 (by decide)).trans h10
  have h11_1 := (hFc1.2 11 (by decide)).trans h11
  have h12_1 := (hFc1.2 12 (by decide)).trans h12
  have h13_1 := (hFc1.2 13 (by decide)).trans h13
  have h14_1 := (hFc1.2 14 (by decide)).trans h14
  have h15_1 := (hFc1.2 15 (by decide)).trans h15
  have h16_1 := (hFc1.2 16 (by decide)).trans h16
  have h17_1 := (hFc1.2 17 (by decide)).trans h17
  have h18_1 := (hFc1.2 18 (by decide)).trans h18
  obtain ⟨h2_1, h3_1, h4_1, h5_1, h6_1, h7_1⟩ := hR1
  have hG1 := hG.trC hFc1
  have hci := hp1_0
  have hpq := hp1_1
  have hge := hp1_2
  have hsz := hp1_3
  have htk := hp1_4
  refine J_aload_n (pc := 23) dX6_raiseAll_23 rfl rfl rfl ?_
  refine J_get (pc := 24) (k := 2) dX6_raiseAll_24 kC7 (by decide) ff_X6_23 h0_1 rfl ?_
  refine J_aload_n (pc := 27) dX6_raiseAll_27 rfl rfl rfl ?_
  refine J_get (pc := 28) (k := 0) dX6_raiseAll_28 kC7 (by decide) ff_X6_9 h0_1 rfl ?_
  refine J_bipush (pc := 31) (v := nI 63) dX6_raiseAll_31 (by decide) ?_
  refine J_aload_n (pc := 33) dX6_raiseAll_33 rfl rfl rfl ?_
  refine J_get (pc := 34) (k := 5) dX6_raiseAll_34 kC7 (by decide) ff_X6_41 h0_1 rfl ?_
  refine J_callV0 (pc := 37) (M := mX6_raiseAll) (as := [.ref 1, .int (nI 63), .int (nI n)]) dX6_raiseAll_37 fw_X5_goThrough fl_X6_177 fm_X5_goThrough fe_X5_goThrough h8_1 (by decide) rfl rfl rfl (c_X5_goThrough_atx hs (d := d - 1) (by omega) (ml := ml) (tg := tg) (mn := mn) (wn := wn) ⟨h8_1, h9_1, h10_1, h11_1, hz11⟩ h1_1 (w := w1) 63 n (by exact hn1) (by exact hn2) (by exact hcm) (by decide) (kc := 0) (ks := 0)) (by omega) (st := []) (Nat.le_of_ble_eq_true rfl) rfl (kr_V fun w2 hw2 => ?_) kx_V
  obtain ⟨ml2, tg2, mn2, hR2, hFc2, hp2_0, hp2_1⟩ := hw2
  have h0_2 := (hFc2.2 0 (by decide)).trans h0_1
  have h1_2 := (hFc2.2 1 (by decide)).trans h1_1
  have h2_2 := (hFc2.2 2 (by decide)).trans h2_1
  have h3_2 := (hFc2.2 3 (by decide)).trans h3_1
  have h4_2 := (hFc2.2 4 (by decide)).trans h4_1
  have h5_2 := (hFc2.2 5 (by decide)).trans h5_1
  have h6_2 := (hFc2.2 6 (by decide)).trans h6_1
  have h7_2 := (hFc2.2 7 (by decide)).trans h7_1
  have h12_2 := (hFc2.2 12 (by decide)).trans h12_1
  have h13_2 := (hFc2.2 13 (by decide)).trans h13_1
  have h14_2 := (hFc2.2 14 (by decide)).trans h14_1
  have h15_2 := (hFc2.2 15 (by decide)).trans h15_1
  have h16_2 := (hFc2.2 16 (by decide)).trans h16_1
  have h17_2 := (hFc2.2 17 (by decide)).trans h17_1
  have h18_2 := (hFc2.2 18 (by decide)).trans h18_1
  obtain ⟨h8_2, h9_2, h10_2, h11_2, hz11_2⟩ := hR2
  have hG2 := hG1.trB hFc2 (by decide)
  have hfi := hp2_0
  have hwx := hp2_1
  have hbd := Nat.le_trans (FI_le hfi) (fc_7 hn2)
  exact J_vret (pc := 40) dX6_raiseAll_40 rfl (⟨st1, sv1, rc1, sz1, kw1, ns1, tk1, ml2, tg2, mn2, ⟨h0_2, h1_2⟩, hG2, ⟨h2_2, h3_2, h4_2, h5_2, h6_2, h7_2⟩, ⟨h8_2, h9_2, h10_2, h11_2, hz11_2⟩, ⟨h12_2, h13_2⟩, ⟨h14_2, h15_2, h16_2, h17_2, h18_2, hz17⟩, ⟨(by first | omega | exact CI_ns21 hn2 hci), (by first | omega | exact hbd), (by first | omega | exact hbd), (by first | omega | exact hbd), (by first | omega | exact hbd), ⟨by omega, by omega⟩, (by first | omega | exact hbd), (by first | omega | exact hbd)⟩, (by assumption), (by assumption), (by assumption), (by assumption), (by exact htk), (by assumption), (by assumption)⟩)
set_option maxRecDepth 100000 in
set_option maxHeartbeats 4000000 in
theorem c_X6_sizesAgree_atu {X : jX} (hs : X.1.stackTraces = false) {d : Nat} (hd : 2 ≤ d) {st : Nat → Nat} {sv : Nat → Nat} {rc : Nat → Nat} {sz : Nat → Nat} {kw : Nat → Nat} {ns : Nat} {tk : Nat} {ml : List Int32} {tg : Nat → Nat} {mn : Nat} {po : Nat → Nat} {tn : Nat} {ql : List Int32} {qt : Nat → Nat} {pw : Nat → Nat} {qm : Nat} {pc : Nat} {qn : Nat} {n : Nat} {e r q : Int32} {cm : Nat → Nat} {w : List jC} (hH : HX n e r q cm w) (hn1 : 2 ≤ n) (hn2 : n ≤ 7) (hcm : ∀ c, c < 6 → Mv n (cm c)) (hR : CM st sv rc sz kw ns tk (cm 0) n w) (hRw : WM ml tg mn n w) (hRt : TM po tn w) (hRq : QM ql qt pw qm pc qn w) (hUB : UB ns n mn n tn pc qn qm) (hy0 : CI n (cm 0) st sv rc kw ns) (hy1 : PQ n rc st kw ns) (hy2 : ∀ x, CP n (RC rc) (ST st) n x ↔ (Gg n (gS cm 63 6)) x) (hy3 : ∀ l, l ≤ n → sz l = zF rc n (n - l)) (hy4 : tk = enF n cm 63 6) (hy5 : FI n ml tg mn) (hy6 : WX n cm 63 ml) {kc ks : Nat} : jMet X mX6_sizesAgree d kc ks [.ref 0] w (pI (fun v => v = nI 1) (fun w' => w' = w)) := by
  refine jMet_of hs (by decide +kernel) (Nat.le_of_ble_eq_true rfl) (L := [some (.ref 0)]) rfl ?_
  obtain ⟨h0, h1⟩ := hH
  obtain ⟨h2, h3, h4, h5, h6, h7⟩ := hR
  obtain ⟨h8, h9, h10, h11, hz11⟩ := hRw
  obtain ⟨h12, h13⟩ := hRt
  obtain ⟨h14, h15, h16, h17, h18, hz17⟩ := hRq
  obtain ⟨hu1, hu2, hu3, hu4, hu5, ⟨hu6, hu7⟩, hu8, hu9⟩ := hUB
  have hG : F19 w w := F19.rf
  have hci := hy0
  have hpq := hy1
  have hge := hy2
  have hsz := hy3
  have hfi := hy5
  have hwx := hy6
  have hbd := Nat.le_trans (FI_le hfi) (fc_7 hn2)
  have hs0 := hsz 0 (by omega)
  rw [Nat.sub_zero] at hs0
  have hcd := nth_cd (by omega) hn2 hci hge hs0
  have hmn := FI_cd hwx hfi
  have hCl := Gg_Cl hn2 (gS_M (s := 63) (Nat.le_refl 6) hcm)
  have hN1 : 1 ≤ cd n (Gg n (gS cm 63 6)) := cd_pos (by omega) hn2 (eM_Mv hn2) Gg_e
  have hN5 := cd_5040 hn2 (Gg n (gS cm 63 6))
  have hfd := Nat.mod_eq_zero_of_dvd (cd_fc (by omega) hn2 hCl)
  have hf7 := fc_7 hn2
  have hf1 := fc_pos n
  refine J_aload_n (pc := 0) dX6_sizesAgree_0 rfl rfl rfl ?_
  refine J_get (pc := 1) (k := 1) dX6_sizesAgree_1 kC7 (by decide) ff_X6_16 h0 rfl ?_
  refine J_callV0 (pc := 4) (M := mX6_sizesAgree) (as := []) dX6_sizesAgree_4 fw_X0_total fl_X6_138 fm_X0_total fe_X0_total h2 (by decide) rfl rfl rfl (c_X0_total_atx hs (d := d - 1) (by omega) (st := st) (sv := sv) (rc := rc) (sz := sz) (kw := kw) (ns := ns) (tk := tk) (ro := cm 0) (nn := n) ⟨h2, h3, h4, h5, h6, h7⟩ (w := w)  (kc := 0) (ks := 0)) (by omega) (st := []) (Nat.le_of_ble_eq_true rfl) rfl (kr_P fun v1 hv1 => ?_) kx_I
  subst hv1
  refine J_aload_n (pc := 7) dX6_sizesAgree_7 rfl rfl rfl ?_
  refine J_get (pc := 8) (k := 2) dX6_sizesAgree_8 kC7 (by decide) ff_X6_23 h0 rfl ?_
  refine J_callV0 (pc := 11) (M := mX6_sizesAgree) (as := []) dX6_sizesAgree_11 fw_X5_length fl_X6_283 fm_X5_length fe_X5_length h8 (by decide) rfl rfl rfl (c_X5_length_atx hs (d := d - 1) (by omega) (ml := ml) (tg := tg) (mn := mn) (wn := n) ⟨h8, h9, h10, h11, hz11⟩ (w := w)  (kc := 0) (ks := 0)) (by omega) (st := [.int (nI (sz 0))]) (Nat.le_of_ble_eq_true rfl) rfl (kr_P fun v2 hv2 => ?_) kx_I
  subst hv2
  refine J_icmp_neN (pc := 14) (tgt := 41) dX6_sizesAgree_14 (by decide) (by omega) (by omega) (fun ht3 => ?_) (fun hf4 => ?_)
  · exact absurd (hcd.trans hmn.symm) ht3
  · refine J_aload_n (pc := 17) dX6_sizesAgree_17 rfl rfl rfl ?_
    refine J_get (pc := 18) (k := 1) dX6_sizesAgree_18 kC7 (by decide) ff_X6_16 h0 rfl ?_
    refine J_callV0 (pc := 21) (M := mX6_sizesAgree) (as := []) dX6_sizesAgree_21 fw_X0_total fl_X6_138 fm_X0_total fe_X0_total h2 (by decide) rfl rfl rfl (c_X0_total_atx hs (d := d - 1) (by omega) (st := st) (sv := sv) (rc := rc) (sz := sz) (kw := kw) (ns := ns) (tk := tk) (ro := cm 0) (nn := n) ⟨h2, h3, h4, h5, h6, h7⟩ (w := w)  (kc := 0) (ks := 0)) (by omega) (st := []) (Nat.le_of_ble_eq_true rfl) rfl (kr_P fun v5 hv5 => ?_) kx_I
    subst hv5
    refine J_aload_n (pc := 24) dX6_sizesAgree_24 rfl rfl rfl ?_
    refine J_get (pc := 25) (k := 5) dX6_sizesAgree_25 kC7 (by decide) ff_X6_41 h0 rfl ?_
    refine J_callS0 (pc := 28) (M := mX6_sizesAgree) (as := [.int (nI n)]) dX6_sizesAgree_28 fw_X2_factorial fl_X6_71 fs_X2_factorial rfl (c_X2_factorial_atx hs (d := d - 1) (by omega) (w := w) n (by omega) (kc := 0) (ks := 0)) (by omega) (st := [.int (nI (sz 0))]) (Nat.le_of_ble_eq_true rfl) rfl (kr_P fun v6 hv6 => ?_) kx_I
    subst hv6
    refine J_callS0 (pc := 31) (M := mX6_sizesAgree) (as := [.int (nI (sz 0)), .int (nI (fc n))]) dX6_sizesAgree_31 fw_X6_divides fl_X6_284 fs_X6_divides rfl (c_X6_divides_atx hs (d := d - 1) (by omega) (w := w) (sz 0) (fc n) (by omega) (by omega) (by omega) (by rw [hcd]; exact hfd) (kc := 0) (ks := 0)) (by omega) (st := []) (Nat.le_of_ble_eq_true rfl) rfl (kr_P fun v7 hv7 => ?_) kx_I
    subst hv7
    refine J_if_eqN (pc := 34) (tgt := 41) dX6_sizesAgree_34 (by decide) (by decide) (fun h => absurd h (by decide)) (fun _ => ?_)
    refine J_iconst (pc := 37) (v := nI 1) dX6_sizesAgree_37 (by decide) ?_
    refine J_goto (pc := 38) (tgt := 42) dX6_sizesAgree_38 (by decide) ?_
    exact J_zret (pc := 42) dX6_sizesAgree_42 rfl (nar_b (by first | decide | omega)) ⟨rfl, rfl⟩
set_option maxRecDepth 100000 in
set_option maxHeartbeats 4000000 in
theorem c_X6_ranksAgree_atu {X : jX} (hs : X.1.stackTraces = false) {d : Nat} (hd : 4 ≤ d) {st : Nat → Nat} {sv : Nat → Nat} {rc : Nat → Nat} {sz : Nat → Nat} {kw : Nat → Nat} {ns : Nat} {tk : Nat} {ml : List Int32} {tg : Nat → Nat} {mn : Nat} {po : Nat → Nat} {tn : Nat} {ql : List Int32} {qt : Nat → Nat} {pw : Nat → Nat} {qm : Nat} {pc : Nat} {qn : Nat} {n : Nat} {e r q : Int32} {cm : Nat → Nat} {w : List jC} (hH : HX n e r q cm w) (hn1 : 2 ≤ n) (hn2 : n ≤ 7) (hcm : ∀ c, c < 6 → Mv n (cm c)) (hR : CM st sv rc sz kw ns tk (cm 0) n w) (hRw : WM ml tg mn n w) (hRt : TM po tn w) (hRq : QM ql qt pw qm pc qn w) (hUB : UB ns n mn n tn pc qn qm) (hy0 : CI n (cm 0) st sv rc kw ns) (hy1 : PQ n rc st kw ns) (hy2 : ∀ x, CP n (RC rc) (ST st) n x ↔ (Gg n (gS cm 63 6)) x) (hy3 : ∀ l, l ≤ n → sz l = zF rc n (n - l)) (hy4 : tk = enF n cm 63 6) (hy5 : FI n ml tg mn) (hy6 : WX n cm 63 ml) {kc ks : Nat} : jMet X mX6_ranksAgree d kc ks [.ref 0] w (pI (fun v => v = nI 1) (fun w' => w' = w)) := by
  refine jMet_of hs (by decide +kernel) (Nat.le_of_ble_eq_true rfl) (L := [some (.ref 0), none, none, none]) rfl ?_
  obtain ⟨h0, h1⟩ := hH
  obtain ⟨h2, h3, h4, h5, h6, h7⟩ := hR
  obtain ⟨h8, h9, h10, h11, hz11⟩ := hRw
  obtain ⟨h12, h13⟩ := hRt
  obtain ⟨h14, h15, h16, h17, h18, hz17⟩ := hRq
  obtain ⟨hu1, hu2, hu3, hu4, hu5, ⟨hu6, hu7⟩, hu8, hu9⟩ := hUB
  have hG : F19 w w := F19.rf
  have hci := hy0
  have hpq := hy1
  have hge := hy2
  have hsz := hy3
  have hfi := hy5
  have hwx := hy6
  have hbd := Nat.le_trans (FI_le hfi) (fc_7 hn2)
  have hs0 := hsz 0 (by omega)
  rw [Nat.sub_zero] at hs0
  have hcd := nth_cd (by omega) hn2 hci hge hs0
  have hmn := FI_cd hwx hfi
  have hCl := Gg_Cl hn2 (gS_M (s := 63) (Nat.le_refl 6) hcm)
  have hN1 : 1 ≤ cd n (Gg n (gS cm 63 6)) := cd_pos (by omega) hn2 (eM_Mv hn2) Gg_e
  have hN5 := cd_5040 hn2 (Gg n (gS cm 63 6))
  refine J_aload_n (pc := 0) dX6_ranksAgree_0 rfl rfl rfl ?_
  refine J_get (pc := 1) (k := 1) dX6_ranksAgree_1 kC7 (by decide) ff_X6_16 h0 rfl ?_
  refine J_callV0 (pc := 4) (M := mX6_ranksAgree) (as := []) dX6_ranksAgree_4 fw_X0_total fl_X6_138 fm_X0_total fe_X0_total h2 (by decide) rfl rfl rfl (c_X0_total_atx hs (d := d - 1) (by omega) (st := st) (sv := sv) (rc := rc) (sz := sz) (kw := kw) (ns := ns) (tk := tk) (ro := cm 0) (nn := n) ⟨h2, h3, h4, h5, h6, h7⟩ (w := w)  (kc := 0) (ks := 0)) (by omega) (st := []) (Nat.le_of_ble_eq_true rfl) rfl (kr_P fun v1 hv1 => ?_) kx_I
  subst hv1
  refine J_istore_n (pc := 7) dX6_ranksAgree_7 rfl (by decide) rfl ?_
  show J X mX6_ranksAgree d kc ks 8 [some (.ref 0), some (.int (nI (sz 0))), none, none] [] w _
  refine J_iconst (pc := 8) (v := nI 0) dX6_ranksAgree_8 (by decide) ?_
  refine J_istore_n (pc := 9) dX6_ranksAgree_9 rfl (by decide) rfl ?_
  show J X mX6_ranksAgree d kc ks 10 [some (.ref 0), some (.int (nI (sz 0))), some (.int (nI 0)), none] [] w _
  have lp10_2 : ∀ (fuel : Nat) (c2 : Nat), (c2 ≤ sz 0) → (sz 0 - c2 < fuel) → J X mX6_ranksAgree d kc ks 10 [some (.ref 0), some (.int (nI (sz 0))), some (.int (nI c2)), none] [] w (pI (fun v => v = nI 1) (fun w' => w' = w)) := by
    intro fuellp10_2
    induction fuellp10_2 with
    | zero => intros; omega
    | succ fuellp10_2 ihlp10_2 =>
      intro c2 hv10_0 hf3
      refine J_iload_n (pc := 10) dX6_ranksAgree_10 rfl rfl ?_
      refine J_iload_n (pc := 11) dX6_ranksAgree_11 rfl rfl ?_
      refine J_icmp_geN (pc := 12) (tgt := 57) dX6_ranksAgree_12 (by decide) (by omega) (by omega) (fun ht4 => ?_) (fun hf5 => ?_)
      · refine J_iconst (pc := 57) (v := nI 1) dX6_ranksAgree_57 (by decide) ?_
        exact J_zret (pc := 58) dX6_ranksAgree_58 rfl (nar_b (by first | decide | omega)) ⟨rfl, rfl⟩
      · refine J_aload_n (pc := 15) dX6_ranksAgree_15 rfl rfl rfl ?_
        refine J_get (pc := 16) (k := 1) dX6_ranksAgree_16 kC7 (by decide) ff_X6_16 h0 rfl ?_
        refine J_iload_n (pc := 19) dX6_ranksAgree_19 rfl rfl ?_
        refine J_ldc (pc := 20) (v := nI 1754760) dX6_ranksAgree_20 (by have := fk_X6_56; exact this) ?_
        refine J_callV0 (pc := 22) (M := mX6_ranksAgree) (as := [.int (nI c2), .int (nI 1754760)]) dX6_ranksAgree_22 fw_X0_moveAt fl_X6_141 fm_X0_moveAt fe_X0_moveAt h2 (by decide) rfl rfl rfl (c_X0_moveAt_atx hs (d := d - 1) (by omega) (st := st) (sv := sv) (rc := rc) (sz := sz) (kw := kw) (ns := ns) (tk := tk) (ro := cm 0) (nn := n) ⟨h2, h3, h4, h5, h6, h7⟩ (w := w) c2 1754760 (by omega) (by exact hn2) (by exact hci) (by exact hpq) (by exact hsz) (by exact e_Mv hn2) (by rw [← hs0]; omega) (kc := 0) (ks := 0)) (by omega) (st := []) (Nat.le_of_ble_eq_true rfl) rfl (kr_P fun v6 hv6 => ?_) kx_I
        obtain ⟨k6, rfl, hk6⟩ := hv6
        have hmv := hk6
        have hyg : (Gg n (gS cm 63 6)) k6 := (hge _).mp ((TL_e hn2 hmv.1).mp (GK_in (by omega) hn2 (hcm 0 (by decide)).2.1 hmv.1 hmv.2))
        have hrk := GK_rk (by omega) hn2 (hcm 0 (by decide)).2.1 hmv.1 hmv.2
        have hod := order_d (by omega) hn2 hCl hmv.1 hyg
        refine J_istore_n (pc := 25) dX6_ranksAgree_25 rfl (by decide) rfl ?_
        show J X mX6_ranksAgree d kc ks 26 [some (.ref 0), some (.int (nI (sz 0))), some (.int (nI c2)), some (.int (nI k6))] [] w _
        refine J_aload_n (pc := 26) dX6_ranksAgree_26 rfl rfl rfl ?_
        refine J_get (pc := 27) (k := 1) dX6_ranksAgree_27 kC7 (by decide) ff_X6_16 h0 rfl ?_
        refine J_iload_n (pc := 30) dX6_ranksAgree_30 rfl rfl ?_
        refine J_callV0 (pc := 31) (M := mX6_ranksAgree) (as := [.int (nI k6)]) dX6_ranksAgree_31 fw_X0_rankOf fl_X6_184 fm_X0_rankOf fe_X0_rankOf h2 (by decide) rfl rfl rfl (c_X0_rankOf_atx hs (d := d - 1) (by omega) (st := st) (sv := sv) (rc := rc) (sz := sz) (kw := kw) (ns := ns) (tk := tk) (ro := cm 0) (nn := n) ⟨h2, h3, h4, h5, h6, h7⟩ (w := w) k6 (by omega) (by exact hn2) (by exact hci) (by exact hpq) (by exact hsz) (by exact hmv.1) (kc := 0) (ks := 0)) (by omega) (st := []) (Nat.le_of_ble_eq_true rfl) rfl (kr_P fun v7 hv7 => ?_) kx_I
        have hve := RKV_g hv7 ((hge _).mpr hyg)
        rw [hrk] at hve
        refine J_iload_n (pc := 34) dX6_ranksAgree_34 rfl rfl ?_
        refine J_icmp_ne (pc := 35) (tgt := 49) dX6_ranksAgree_35 (by decide) (fun ht8 => ?_) (fun hf9 => ?_)
        · exact absurd hve ht8
        · refine J_iload_n (pc := 38) dX6_ranksAgree_38 rfl rfl ?_
          refine J_callS0 (pc := 39) (M := mX6_ranksAgree) (as := [.int (nI k6)]) dX6_ranksAgree_39 fw_X2_orderOf fl_X6_164 fs_X2_orderOf rfl (c_X2_orderOf_atx hs (d := d - 1) (by omega) (w := w) k6 (by exact hmv.1.1) (kc := 0) (ks := 0)) (by omega) (st := []) (Nat.le_of_ble_eq_true rfl) rfl (kr_P fun v10 hv10 => ?_) kx_I
          obtain ⟨k10, rfl, hk10⟩ := hv10
          obtain ⟨hk1, hk2, hk3⟩ := hk10
          refine J_iload_n (pc := 42) dX6_ranksAgree_42 rfl rfl ?_
          refine J_callS0 (pc := 43) (M := mX6_ranksAgree) (as := [.int (nI k10), .int (nI (sz 0))]) dX6_ranksAgree_43 fw_X6_divides fl_X6_284 fs_X6_divides rfl (c_X6_divides_atx hs (d := d - 1) (by omega) (w := w) k10 (sz 0) (by omega) (by omega) (by omega) (by rw [hcd, hk1]; exact Nat.mod_eq_zero_of_dvd hod) (kc := 0) (ks := 0)) (by omega) (st := []) (Nat.le_of_ble_eq_true rfl) rfl (kr_P fun v11 hv11 => ?_) kx_I
          subst hv11
          refine J_if_neN (pc := 46) (tgt := 51) dX6_ranksAgree_46 (by decide) (by decide) (fun _ => ?_) (fun h => absurd h (by decide))
          refine J_iincN (pc := 51) (b := 1) dX6_ranksAgree_51 rfl (by decide) (by decide) rfl ?_
          show J X mX6_ranksAgree d kc ks 54 [some (.ref 0), some (.int (nI (sz 0))), some (.int (nI (c2 + 1))), some (.int (nI k6))] [] w _
          refine J_goto (pc := 54) (tgt := 10) dX6_ranksAgree_54 (by decide) ?_
          exact J_sub (L' := [some (.ref 0), some (.int (nI (sz 0))), some (.int (nI (c2 + 1))), none]) ⟨rfl, ⟨rfl, ⟨rfl, trivial⟩⟩⟩ (ihlp10_2 (c2 + 1) (by first | assumption | omega) (by omega))
  exact J_sub (L' := [some (.ref 0), some (.int (nI (sz 0))), some (.int (nI 0)), none]) ⟨rfl, ⟨rfl, ⟨rfl, trivial⟩⟩⟩ (lp10_2 _ 0 (by first | assumption | omega) (Nat.lt_succ_self _))
set_option maxRecDepth 100000 in
set_option maxHeartbeats 4000000 in
theorem c_X6_signsAgree_atu {X : jX} (hs : X.1.stackTraces = false) {d : Nat} (hd : 5 ≤ d) {st : Nat → Nat} {sv : Nat → Nat} {rc : Nat → Nat} {sz : Nat → Nat} {kw : Nat → Nat} {ns : Nat} {tk : Nat} {ml : List Int32} {tg : Nat → Nat} {mn : Nat} {po : Nat → Nat} {tn : Nat} {ql : List Int32} {qt : Nat → Nat} {pw : Nat → Nat} {qm : Nat} {pc : Nat} {qn : Nat} {n : Nat} {e r q : Int32} {cm : Nat → Nat} {w : List jC} (hH : HX n e r q cm w) (hn1 : 2 ≤ n) (hn2 : n ≤ 7) (hcm : ∀ c, c < 6 → Mv n (cm c)) (hR : CM st sv rc sz kw ns tk (cm 0) n w) (hRw : WM ml tg mn n w) (hRt : TM po tn w) (hRq : QM ql qt pw qm pc qn w) (hUB : UB ns n mn n tn pc qn qm) (hy0 : CI n (cm 0) st sv rc kw ns) (hy1 : PQ n rc st kw ns) (hy2 : ∀ x, CP n (RC rc) (ST st) n x ↔ (Gg n (gS cm 63 6)) x) (hy3 : ∀ l, l ≤ n → sz l = zF rc n (n - l)) (hy4 : tk = enF n cm 63 6) (hy5 : FI n ml tg mn) (hy6 : WX n cm 63 ml) {kc ks : Nat} : jMet X mX6_signsAgree d kc ks [.ref 0] w (pI (fun v => v = nI 1) (fun w' => w' = w)) := by
  refine jMet_of hs (by decide +kernel) (Nat.le_of_ble_eq_true rfl) (L := [some (.ref 0), none]) rfl ?_
  obtain ⟨h0, h1⟩ := hH
  obtain ⟨h2, h3, h4, h5, h6, h7⟩ := hR
  obtain ⟨h8, h9, h10, h11, hz11⟩ := hRw
  obtain ⟨h12, h13⟩ := hRt
  obtain ⟨h14, h15, h16, h17, h18, hz17⟩ := hRq
  obtain ⟨hu1, hu2, hu3, hu4, hu5, ⟨hu6, hu7⟩, hu8, hu9⟩ := hUB
  have hG : F19 w w := F19.rf
  have hci := hy0
  have hpq := hy1
  have hge := hy2
  have hsz := hy3
  have hfi := hy5
  have hwx := hy6
  have hbd := Nat.le_trans (FI_le hfi) (fc_7 hn2)
  have hs0 := hsz 0 (by omega)
  rw [Nat.sub_zero] at hs0
  have hcd := nth_cd (by omega) hn2 hci hge hs0
  have hmn := FI_cd hwx hfi
  have hCl := Gg_Cl hn2 (gS_M (s := 63) (Nat.le_refl 6) hcm)
  have hN1 : 1 ≤ cd n (Gg n (gS cm 63 6)) := cd_pos (by omega) hn2 (eM_Mv hn2) Gg_e
  have hN5 := cd_5040 hn2 (Gg n (gS cm 63 6))
  have hev := even_d (by omega) hn2 hCl
  have hev2 := cd_5040 hn2 (fun x => (Gg n (gS cm 63 6)) x ∧ sg n x = nI 1)
  have hee := FI_ev (by omega) hn2 hwx hfi
  rw [← hee, ← hmn] at hev
  rw [← hee] at hev2
  refine J_aload_n (pc := 0) dX6_signsAgree_0 rfl rfl rfl ?_
  refine J_get (pc := 1) (k := 2) dX6_signsAgree_1 kC7 (by decide) ff_X6_23 h0 rfl ?_
  refine J_callV0 (pc := 4) (M := mX6_signsAgree) (as := []) dX6_signsAgree_4 fw_X5_howManyEven fl_X6_199 fm_X5_howManyEven fe_X5_howManyEven h8 (by decide) rfl rfl rfl (c_X5_howManyEven_atx hs (d := d - 1) (by omega) (ml := ml) (tg := tg) (mn := mn) (wn := n) ⟨h8, h9, h10, h11, hz11⟩ (w := w) (by exact hbd) (by exact fun i hi => (hfi.1 i hi).1) (by exact hn2) (kc := 0) (ks := 0)) (by omega) (st := []) (Nat.le_of_ble_eq_true rfl) rfl (kr_P fun v1 hv1 => ?_) kx_I
  subst hv1
  refine J_istore_n (pc := 7) dX6_signsAgree_7 rfl (by decide) rfl ?_
  show J X mX6_signsAgree d kc ks 8 [some (.ref 0), some (.int (nI (sm (fun i => if sgC (tg i) n = nI 1 then 1 else 0) mn)))] [] w _
  refine J_iload_n (pc := 8) dX6_signsAgree_8 rfl rfl ?_
  refine J_aload_n (pc := 9) dX6_signsAgree_9 rfl rfl rfl ?_
  refine J_get (pc := 10) (k := 2) dX6_signsAgree_10 kC7 (by decide) ff_X6_23 h0 rfl ?_
  refine J_callV0 (pc := 13) (M := mX6_signsAgree) (as := []) dX6_signsAgree_13 fw_X5_length fl_X6_283 fm_X5_length fe_X5_length h8 (by decide) rfl rfl rfl (c_X5_length_atx hs (d := d - 1) (by omega) (ml := ml) (tg := tg) (mn := mn) (wn := n) ⟨h8, h9, h10, h11, hz11⟩ (w := w)  (kc := 0) (ks := 0)) (by omega) (st := [.int (nI (sm (fun i => if sgC (tg i) n = nI 1 then 1 else 0) mn))]) (Nat.le_of_ble_eq_true rfl) rfl (kr_P fun v2 hv2 => ?_) kx_I
  subst hv2
  refine J_icmp_eqN (pc := 16) (tgt := 32) dX6_signsAgree_16 (by decide) (by omega) (by omega) (fun ht3 => ?_) (fun hf4 => ?_)
  · refine J_iconst (pc := 32) (v := nI 1) dX6_signsAgree_32 (by decide) ?_
    refine J_goto (pc := 33) (tgt := 37) dX6_signsAgree_33 (by decide) ?_
    exact J_zret (pc := 37) dX6_signsAgree_37 rfl (nar_b (by first | decide | omega)) ⟨rfl, rfl⟩
  · refine J_iconst (pc := 19) (v := nI 2) dX6_signsAgree_19 (by decide) ?_
    refine J_iload_n (pc := 20) dX6_signsAgree_20 rfl rfl ?_
    refine J_imulN (pc := 21) dX6_signsAgree_21 ?_
    refine J_aload_n (pc := 22) dX6_signsAgree_22 rfl rfl rfl ?_
    refine J_get (pc := 23) (k := 2) dX6_signsAgree_23 kC7 (by decide) ff_X6_23 h0 rfl ?_
    refine J_callV0 (pc := 26) (M := mX6_signsAgree) (as := []) dX6_signsAgree_26 fw_X5_length fl_X6_283 fm_X5_length fe_X5_length h8 (by decide) rfl rfl rfl (c_X5_length_atx hs (d := d - 1) (by omega) (ml := ml) (tg := tg) (mn := mn) (wn := n) ⟨h8, h9, h10, h11, hz11⟩ (w := w)  (kc := 0) (ks := 0)) (by omega) (st := [.int (nI (2 * (sm (fun i => if sgC (tg i) n = nI 1 then 1 else 0) mn)))]) (Nat.le_of_ble_eq_true rfl) rfl (kr_P fun v5 hv5 => ?_) kx_I
    subst hv5
    refine J_icmp_neN (pc := 29) (tgt := 36) dX6_signsAgree_29 (by decide) (by omega) (by omega) (fun ht6 => ?_) (fun hf7 => ?_)
    · exact absurd (hev.resolve_left (by assumption)) ht6
    · refine J_iconst (pc := 32) (v := nI 1) dX6_signsAgree_32 (by decide) ?_
      refine J_goto (pc := 33) (tgt := 37) dX6_signsAgree_33 (by decide) ?_
      exact J_zret (pc := 37) dX6_signsAgree_37 rfl (nar_b (by first | decide | omega)) ⟨rfl, rfl⟩
set_option maxRecDepth 100000 in
set_option maxHeartbeats 4000000 in
theorem c_X6_colouringsAgree_atu {X : jX} (hs : X.1.stackTraces = false) {d : Nat} (hd : 4 ≤ d) {st : Nat → Nat} {sv : Nat → Nat} {rc : Nat → Nat} {sz : Nat → Nat} {kw : Nat → Nat} {ns : Nat} {tk : Nat} {ml : List Int32} {tg : Nat → Nat} {mn : Nat} {po : Nat → Nat} {tn : Nat} {ql : List Int32} {qt : Nat → Nat} {pw : Nat → Nat} {qm : Nat} {pc : Nat} {qn : Nat} {n : Nat} {e r q : Int32} {cm : Nat → Nat} {w : List jC} (hH : HX n e r q cm w) (hn1 : 2 ≤ n) (hn2 : n ≤ 7) (hcm : ∀ c, c < 6 → Mv n (cm c)) (hR : CM st sv rc sz kw ns tk (cm 0) n w) (hRw : WM ml tg mn n w) (hRt : TM po tn w) (hRq : QM ql qt pw qm pc qn w) (hUB : UB ns n mn n tn pc qn qm) (hy0 : CI n (cm 0) st sv rc kw ns) (hy1 : PQ n rc st kw ns) (hy2 : ∀ x, CP n (RC rc) (ST st) n x ↔ (Gg n (gS cm 63 6)) x) (hy3 : ∀ l, l ≤ n → sz l = zF rc n (n - l)) (hy4 : tk = enF n cm 63 6) (hy5 : FI n ml tg mn) (hy6 : WX n cm 63 ml) {kc ks : Nat} : jMet X mX6_colouringsAgree d kc ks [.ref 0] w (pI (fun v => v = nI 1) (fun w' => ∃ (ql' : List Int32), ∃ (qt' : Nat → Nat), ∃ (pw' : Nat → Nat), ∃ (qm' : Nat), HX n e r q cm w' ∧ F19 w w' ∧ CM st sv rc sz kw ns tk (cm 0) n w' ∧ WM ml tg mn n w' ∧ TM po tn w' ∧ QM ql' qt' pw' qm' 2 n w' ∧ UB ns n mn n tn 2 n qm')) := by
  refine jMet_of hs (by decide +kernel) (Nat.le_of_ble_eq_true rfl) (L := [some (.ref 0)]) rfl ?_
  obtain ⟨h0, h1⟩ := hH
  obtain ⟨h2, h3, h4, h5, h6, h7⟩ := hR
  obtain ⟨h8, h9, h10, h11, hz11⟩ := hRw
  obtain ⟨h12, h13⟩ := hRt
  obtain ⟨h14, h15, h16, h17, h18, hz17⟩ := hRq
  obtain ⟨hu1, hu2, hu3, hu4, hu5, ⟨hu6, hu7⟩, hu8, hu9⟩ := hUB
  have hG : F19 w w := F19.rf
  have hci := hy0
  have hpq := hy1
  have hge := hy2
  have hsz := hy3
  have hfi := hy5
  have hwx := hy6
  have hbd := Nat.le_trans (FI_le hfi) (fc_7 hn2)
  have hs0 := hsz 0 (by omega)
  rw [Nat.sub_zero] at hs0
  have hcd := nth_cd (by omega) hn2 hci hge hs0
  have hmn := FI_cd hwx hfi
  have hCl := Gg_Cl hn2 (gS_M (s := 63) (Nat.le_refl 6) hcm)
  have hN1 : 1 ≤ cd n (Gg n (gS cm 63 6)) := cd_pos (by omega) hn2 (eM_Mv hn2) Gg_e
  have hN5 := cd_5040 hn2 (Gg n (gS cm 63 6))
  have hpos := FI_pos (by omega) hn2 hwx hfi
  have hbu := burn (co := 2) (s := 63) (cm := cm) (by decide) (by omega) hn2 hcm
  have hcQ := FI_cQ (co := 2) hwx hfi
  have hcl : ct (fun k => ∀ j, j < k → ¬ Rc 2 n cm 63 j k) (2 ^ n) ≤ 2 ^ n := ct_le _ _
  have h2n : 2 ^ n ≤ 2 ^ 7 := Nat.pow_le_pow_right (by decide) hn2
  refine J_aload_n (pc := 0) dX6_colouringsAgree_0 rfl rfl rfl ?_
  refine J_get (pc := 1) (k := 2) dX6_colouringsAgree_1 kC7 (by decide) ff_X6_23 h0 rfl ?_
  refine J_iconst (pc := 4) (v := nI 2) dX6_colouringsAgree_4 (by decide) ?_
  refine J_callV0 (pc := 5) (M := mX6_colouringsAgree) (as := [.int (nI 2)]) dX6_colouringsAgree_5 fw_X5_colouringsByMean fl_X6_202 fm_X5_colouringsByMean fe_X5_colouringsByMean h8 (by decide) rfl rfl rfl (c_X5_colouringsByMean_atx hs (d := d - 1) (by omega) (ml := ml) (tg := tg) (mn := mn) (wn := n) ⟨h8, h9, h10, h11, hz11⟩ (w := w) 2 (by exact hbd) (by exact fun i hi => (hfi.1 i hi).1) (by exact hn2) (by exact hpos) (by decide) (kc := 0) (ks := 0)) (by omega) (st := []) (Nat.le_of_ble_eq_true rfl) rfl (kr_P fun v1 hv1 => ?_) kx_I
  subst hv1
  refine J_aload_n (pc := 8) dX6_colouringsAgree_8 rfl rfl rfl ?_
  refine J_get (pc := 9) (k := 4) dX6_colouringsAgree_9 kC7 (by decide) ff_X6_37 h0 rfl ?_
  refine J_aload_n (pc := 12) dX6_colouringsAgree_12 rfl rfl rfl ?_
  refine J_get (pc := 13) (k := 0) dX6_colouringsAgree_13 kC7 (by decide) ff_X6_9 h0 rfl ?_
  refine J_bipush (pc := 16) (v := nI 63) dX6_colouringsAgree_16 (by decide) ?_
  refine J_iconst (pc := 18) (v := nI 2) dX6_colouringsAgree_18 (by decide) ?_
  refine J_aload_n (pc := 19) dX6_colouringsAgree_19 rfl rfl rfl ?_
  refine J_get (pc := 20) (k := 5) dX6_colouringsAgree_20 kC7 (by decide) ff_X6_41 h0 rfl ?_
  refine J_callV0 (pc := 23) (M := mX6_colouringsAgree) (as := [.ref 1, .int (nI 63), .int (nI 2), .int (nI n)]) dX6_colouringsAgree_23 fw_X3_colouringsOneByOne fl_X6_205 fm_X3_colouringsOneByOne fe_X3_colouringsOneByOne h14 (by decide) rfl rfl rfl (c_X3_colouringsOneByOne_atx hs (d := d - 1) (by omega) (ql := ql) (qt := qt) (pw := pw) (qm := qm) (pc := pc) (qn := qn) ⟨h14, h15, h16, h17, h18, hz17⟩ h1 (w := w) 63 2 n (by exact hn1) (by exact hn2) (by decide) (by decide) (by exact hcm) (by decide) (kc := 0) (ks := 0)) (by omega) (st := [.int (nI (sm (fun i => 2 ^ hr (tg i) n) mn / mn))]) (Nat.le_of_ble_eq_true rfl) rfl (kr_I fun v2 w2 hv2 hw2 => ?_) kx_I
  obtain ⟨ql2, qt2, pw2, qm2, hR2, hFc2, hp2_0⟩ := hw2
  have h0_2 := (hFc2.2 0 (by decide)).trans h0
  have h1_2 := (hFc2.2 1 (by decide)).trans h1
  have h2_2 := (hFc2.2 2 (by decide)).trans h2
  have h3_2 := (hFc2.2 3 (by decide)).trans h3
  have h4_2 := (hFc2.2 4 (by decide)).trans h4
  have h5_2 := (hFc2.2 5 (by decide)).trans h5
  have h6_2 := (hFc2.2 6 (by decide)).trans h6
  have h7_2 := (hFc2.2 7 (by decide)).trans h7
  have h8_2 := (hFc2.2 8 (by decide)).trans h8
  have h9_2 := (hFc2.2 9 (by decide)).trans h9
  have h10_2 := (hFc2.2 10 (by decide)).trans h10
  have h11_2 := (hFc2.2 11 (by decide)).trans h11
  have h12_2 := (hFc2.2 12 (by decide)).trans h12
  have h13_2 := (hFc2.2 13 (by decide)).trans h13
  obtain ⟨h14_2, h15_2, h16_2, h17_2, h18_2, hz17_2⟩ := hR2
  have hG2 := hG.trB hFc2 (by decide)
  have hbq := hp2_0
  subst hv2
  refine J_icmp_neN (pc := 26) (tgt := 33) dX6_colouringsAgree_26 (by decide) (by omega) (by omega) (fun ht3 => ?_) (fun hf4 => ?_)
  · exact absurd (hcQ.trans hbu) ht3
  · refine J_iconst (pc := 29) (v := nI 1) dX6_colouringsAgree_29 (by decide) ?_
    refine J_goto (pc := 30) (tgt := 34) dX6_colouringsAgree_30 (by decide) ?_
    exact J_zret (pc := 34) dX6_colouringsAgree_34 rfl (nar_b (by first | decide | omega)) ⟨rfl, ⟨ql2, qt2, pw2, qm2, ⟨h0_2, h1_2⟩, hG2, ⟨h2_2, h3_2, h4_2, h5_2, h6_2, h7_2⟩, ⟨h8_2, h9_2, h10_2, h11_2, hz11⟩, ⟨h12_2, h13_2⟩, ⟨h14_2, h15_2, h16_2, h17_2, h18_2, hz17_2⟩, ⟨(by first | omega | exact CI_ns21 hn2 hci), (by first | omega | exact hbd), (by first | omega | exact hbd), (by first | omega | exact hbd), (by first | omega | exact hbd), ⟨by omega, by omega⟩, (by first | omega | exact hbd), (by first | omega | exact hbd)⟩⟩⟩
set_option maxRecDepth 100000 in
set_option maxHeartbeats 4000000 in
theorem c_X6_enoughSuffices_atu {X : jX} (hs : X.1.stackTraces = false) {d : Nat} (hd : 4 ≤ d) {st : Nat → Nat} {sv : Nat → Nat} {rc : Nat → Nat} {sz : Nat → Nat} {kw : Nat → Nat} {ns : Nat} {tk : Nat} {ml : List Int32} {tg : Nat → Nat} {mn : Nat} {po : Nat → Nat} {tn : Nat} {ql : List Int32} {qt : Nat → Nat} {pw : Nat → Nat} {qm : Nat} {pc : Nat} {qn : Nat} {n : Nat} {e r q : Int32} {cm : Nat → Nat} {w : List jC} (hH : HX n e r q cm w) (hn1 : 2 ≤ n) (hn2 : n ≤ 7) (hcm : ∀ c, c < 6 → Mv n (cm c)) (hR : CM st sv rc sz kw ns tk (cm 0) n w) (hRw : WM ml tg mn n w) (hRt : TM po tn w) (hRq : QM ql qt pw qm pc qn w) (hUB : UB ns n mn n tn pc qn qm) (hy0 : CI n (cm 0) st sv rc kw ns) (hy1 : PQ n rc st kw ns) (hy2 : ∀ x, CP n (RC rc) (ST st) n x ↔ (Gg n (gS cm 63 6)) x) (hy3 : ∀ l, l ≤ n → sz l = zF rc n (n - l)) (hy4 : tk = enF n cm 63 6) (hy5 : FI n ml tg mn) (hy6 : WX n cm 63 ml) {kc ks : Nat} : jMet X mX6_enoughSuffices d kc ks [.ref 0] w (pI (fun v => v = nI 1) (fun w' => ∃ (st' : Nat → Nat), ∃ (sv' : Nat → Nat), ∃ (rc' : Nat → Nat), ∃ (sz' : Nat → Nat), ∃ (kw' : Nat → Nat), ∃ (ns' : Nat), ∃ (tk' : Nat), HX n e r q cm w' ∧ F19 w w' ∧ CM st' sv' rc' sz' kw' ns' tk' (cm 0) n w' ∧ WM ml tg mn n w' ∧ TM po tn w' ∧ QM ql qt pw qm pc qn w' ∧ UB ns' n mn n tn pc qn qm)) := by
  refine jMet_of hs (by decide +kernel) (Nat.le_of_ble_eq_true rfl) (L := [some (.ref 0), none, none]) rfl ?_
  obtain ⟨h0, h1⟩ := hH
  obtain ⟨h2, h3, h4, h5, h6, h7⟩ := hR
  obtain ⟨h8, h9, h10, h11, hz11⟩ := hRw
  obtain ⟨h12, h13⟩ := hRt
  obtain ⟨h14, h15, h16, h17, h18, hz17⟩ := hRq
  obtain ⟨hu1, hu2, hu3, hu4, hu5, ⟨hu6, hu7⟩, hu8, hu9⟩ := hUB
  have hG : F19 w w := F19.rf
  have hci := hy0
  have hpq := hy1
  have hge := hy2
  have hsz := hy3
  have hfi := hy5
  have hwx := hy6
  have hbd := Nat.le_trans (FI_le hfi) (fc_7 hn2)
  have hs0 := hsz 0 (by omega)
  rw [Nat.sub_zero] at hs0
  have hcd := nth_cd (by omega) hn2 hci hge hs0
  have hmn := FI_cd hwx hfi
  have hCl := Gg_Cl hn2 (gS_M (s := 63) (Nat.le_refl 6) hcm)
  have hN1 : 1 ≤ cd n (Gg n (gS cm 63 6)) := cd_pos (by omega) hn2 (eM_Mv hn2) Gg_e
  have hN5 := cd_5040 hn2 (Gg n (gS cm 63 6))
  have htk6 := enF_lt (n := n) (cm := cm) (s := 63) 6 (Nat.le_refl 6)
  have hp2 := enF_2 (cm := cm) (s := 63) (by omega) hn2 hcm 6 (Nat.le_refl 6)
  rw [← hy4] at hp2 htk6
  have hpe : pc32 (nI tk) = cnt (fun i => tk.testBit i) 32 := pc32_nI (by omega)
  have hp2b : 2 ^ pc32 (nI tk) ≤ cd n (Gg n (gS cm 63 6)) := by rw [hpe]; exact hp2
  have hp3 := pw31c hp2b hN5
  refine J_aload_n (pc := 0) dX6_enoughSuffices_0 rfl rfl rfl ?_
  refine J_get (pc := 1) (k := 1) dX6_enoughSuffices_1 kC7 (by decide) ff_X6_16 h0 rfl ?_
  refine J_callV0 (pc := 4) (M := mX6_enoughSuffices) (as := []) dX6_enoughSuffices_4 fw_X0_total fl_X6_138 fm_X0_total fe_X0_total h2 (by decide) rfl rfl rfl (c_X0_total_atx hs (d := d - 1) (by omega) (st := st) (sv := sv) (rc := rc) (sz := sz) (kw := kw) (ns := ns) (tk := tk) (ro := cm 0) (nn := n) ⟨h2, h3, h4, h5, h6, h7⟩ (w := w)  (kc := 0) (ks := 0)) (by omega) (st := []) (Nat.le_of_ble_eq_true rfl) rfl (kr_P fun v1 hv1 => ?_) kx_I
  subst hv1
  refine J_istore_n (pc := 7) dX6_enoughSuffices_7 rfl (by decide) rfl ?_
  show J X mX6_enoughSuffices d kc ks 8 [some (.ref 0), some (.int (nI (sz 0))), none] [] w _
  refine J_aload_n (pc := 8) dX6_enoughSuffices_8 rfl rfl rfl ?_
  refine J_get (pc := 9) (k := 1) dX6_enoughSuffices_9 kC7 (by decide) ff_X6_16 h0 rfl ?_
  refine J_callV0 (pc := 12) (M := mX6_enoughSuffices) (as := []) dX6_enoughSuffices_12 fw_X0_takenCells fl_X6_225 fm_X0_takenCells fe_X0_takenCells h2 (by decide) rfl rfl rfl (c_X0_takenCells_atx hs (d := d - 1) (by omega) (st := st) (sv := sv) (rc := rc) (sz := sz) (kw := kw) (ns := ns) (tk := tk) (ro := cm 0) (nn := n) ⟨h2, h3, h4, h5, h6, h7⟩ (w := w)  (kc := 0) (ks := 0)) (by omega) (st := []) (Nat.le_of_ble_eq_true rfl) rfl (kr_P fun v2 hv2 => ?_) kx_I
  subst hv2
  refine J_istore_n (pc := 15) dX6_enoughSuffices_15 rfl (by decide) rfl ?_
  show J X mX6_enoughSuffices d kc ks 16 [some (.ref 0), some (.int (nI (sz 0))), some (.int (nI tk))] [] w _
  refine J_aload_n (pc := 16) dX6_enoughSuffices_16 rfl rfl rfl ?_
  refine J_get (pc := 17) (k := 1) dX6_enoughSuffices_17 kC7 (by decide) ff_X6_16 h0 rfl ?_
  refine J_aload_n (pc := 20) dX6_enoughSuffices_20 rfl rfl rfl ?_
  refine J_get (pc := 21) (k := 0) dX6_enoughSuffices_21 kC7 (by decide) ff_X6_9 h0 rfl ?_
  refine J_iload_n (pc := 24) dX6_enoughSuffices_24 rfl rfl ?_
  refine J_aload_n (pc := 25) dX6_enoughSuffices_25 rfl rfl rfl ?_
  refine J_get (pc := 26) (k := 0) dX6_enoughSuffices_26 kC7 (by decide) ff_X6_9 h0 rfl ?_
  refine J_iconst (pc := 29) (v := nI 0) dX6_enoughSuffices_29 (by decide) ?_
  refine J_ialdF (pc := 30) dX6_enoughSuffices_30 h1 (by decide) (by decide) ?_
  refine J_aload_n (pc := 31) dX6_enoughSuffices_31 rfl rfl rfl ?_
  refine J_get (pc := 32) (k := 5) dX6_enoughSuffices_32 kC7 (by decide) ff_X6_41 h0 rfl ?_
  refine J_callV0 (pc := 35) (M := mX6_enoughSuffices) (as := [.ref 1, .int (nI tk), .int (nI (cm 0)), .int (nI n)]) dX6_enoughSuffices_35 fw_X0_raise fl_X6_134 fm_X0_raise fe_X0_raise h2 (by decide) rfl rfl rfl (c_X0_raise_atx hs (d := d - 1) (by omega) (st := st) (sv := sv) (rc := rc) (sz := sz) (kw := kw) (ns := ns) (tk := tk) (ro := cm 0) (nn := n) ⟨h2, h3, h4, h5, h6, h7⟩ h1 (w := w) tk (cm 0) n (by exact hn2) (by exact hcm 0 (by decide)) (by exact htk6) (by exact hcm) (kc := 0) (ks := 0)) (by omega) (st := []) (Nat.le_of_ble_eq_true rfl) rfl (kr_V fun w3 hw3 => ?_) kx_V
  obtain ⟨st3, sv3, rc3, sz3, kw3, ns3, tk3, hR3, hFc3, hp3_0, hp3_1, hp3_2, hp3_3, hp3_4⟩ := hw3
  have h0_3 := (hFc3.2 0 (by decide)).trans h0
  have h1_3 := (hFc3.2 1 (by decide)).trans h1
  have h8_3 := (hFc3.2 8 (by decide)).trans h8
  have h9_3 := (hFc3.2 9 (by decide)).trans h9
  have h10_3 := (hFc3.2 10 (by decide)).trans h10
  have h11_3 := (hFc3.2 11 (by decide)).trans h11
  have h12_3 := (hFc3.2 12 (by decide)).trans h12
  have h13_3 := (hFc3.2 13 (by decide)).trans h13
  have h14_3 := (hFc3.2 14 (by decide)).trans h14
  have h15_3 := (hFc3.2 15 (by decide)).trans h15
  have h16_3 := (hFc3.2 16 (by decide)).trans h16
  have h17_3 := (hFc3.2 17 (by decide)).trans h17
  have h18_3 := (hFc3.2 18 (by decide)).trans h18
  obtain ⟨h2_3, h3_3, h4_3, h5_3, h6_3, h7_3⟩ := hR3
  have hG3 := hG.trC hFc3
  have hci2 := hp3_0
  have hpq2 := hp3_1
  have hge2 := hp3_2
  have hsz2 := hp3_3
  have hs2 := hsz2 0 (by omega)
  rw [Nat.sub_zero] at hs2
  have hcd2 := nth_cd (by omega) hn2 hci2 hge2 hs2
  have hci := hci2
  have hsame : cd n (Gg n (gS cm tk 6)) = cd n (Gg n (gS cm 63 6)) := cd_iff (by omega) hn2 (fun x _ => by rw [hy4]; exact enF_grp hn2 hcm 6 (Nat.le_refl 6) x)
  refine J_aload_n (pc := 38) dX6_enoughSuffices_38 rfl rfl rfl ?_
  refine J_get (pc := 39) (k := 1) dX6_enoughSuffices_39 kC7 (by decide) ff_X6_16 h0_3 rfl ?_
  refine J_callV0 (pc := 42) (M := mX6_enoughSuffices) (as := []) dX6_enoughSuffices_42 fw_X0_total fl_X6_138 fm_X0_total fe_X0_total h2_3 (by decide) rfl rfl rfl (c_X0_total_atx hs (d := d - 1) (by omega) (st := st3) (sv := sv3) (rc := rc3) (sz := sz3) (kw := kw3) (ns := ns3) (tk := tk3) (ro := (cm 0)) (nn := n) ⟨h2_3, h3_3, h4_3, h5_3, h6_3, h7_3⟩ (w := w3)  (kc := 0) (ks := 0)) (by omega) (st := []) (Nat.le_of_ble_eq_true rfl) rfl (kr_P fun v4 hv4 => ?_) kx_I
  subst hv4
  refine J_iload_n (pc := 45) dX6_enoughSuffices_45 rfl rfl ?_
  refine J_icmp_neN (pc := 46) (tgt := 63) dX6_enoughSuffices_46 (by decide) (by omega) (by omega) (fun ht5 => ?_) (fun hf6 => ?_)
  · exact absurd (hcd2.trans (hsame.trans hcd.symm)) ht5
  · refine J_iload_n (pc := 49) dX6_enoughSuffices_49 rfl rfl ?_
    refine J_iconst (pc := 50) (v := nI 1) dX6_enoughSuffices_50 (by decide) ?_
    refine J_iload_n (pc := 51) dX6_enoughSuffices_51 rfl rfl ?_
    refine J_callS0 (pc := 52) (M := mX6_enoughSuffices) (as := [.int (nI tk)]) dX6_enoughSuffices_52 fw_J6_bitCount_0f7a4 fl_X6_220 fs_J6_bitCount_0f7a4 rfl (c_J6_bitCount_0f7a4_atx hs (d := d - 1) (by omega) (w := w3) (nI tk) (kc := 0) (ks := 0)) (by omega) (st := [.int (nI 1), .int (nI (sz 0))]) (Nat.le_of_ble_eq_true rfl) rfl (kr_P fun v7 hv7 => ?_) kx_I
    subst hv7
    refine J_shlOne (pc := 55) dX6_enoughSuffices_55 (by omega) ?_
    refine J_icmp_ltN (pc := 56) (tgt := 63) dX6_enoughSuffices_56 (by decide) (by omega) (by omega) (fun ht8 => ?_) (fun hf9 => ?_)
    · exact absurd ht8 (by omega)
    · refine J_iconst (pc := 59) (v := nI 1) dX6_enoughSuffices_59 (by decide) ?_
      refine J_goto (pc := 60) (tgt := 64) dX6_enoughSuffices_60 (by decide) ?_
      exact J_zret (pc := 64) dX6_enoughSuffices_64 rfl (nar_b (by first | decide | omega)) ⟨rfl, ⟨st3, sv3, rc3, sz3, kw3, ns3, tk3, ⟨h0_3, h1_3⟩, hG3, ⟨h2_3, h3_3, h4_3, h5_3, h6_3, h7_3⟩, ⟨h8_3, h9_3, h10_3, h11_3, hz11⟩, ⟨h12_3, h13_3⟩, ⟨h14_3, h15_3, h16_3, h17_3, h18_3, hz17⟩, ⟨(by first | omega | exact CI_ns21 hn2 hci), (by first | omega | exact hbd), (by first | omega | exact hbd), (by first | omega | exact hbd), (by first | omega | exact hbd), ⟨by omega, by omega⟩, (by first | omega | exact hbd), (by first | omega | exact hbd)⟩⟩⟩
set_option maxRecDepth 100000 in
set_option maxHeartbeats 4000000 in
theorem c_X6_allAgrees_atu {X : jX} (hs : X.1.stackTraces = false) {d : Nat} (hd : 6 ≤ d) {st : Nat → Nat} {sv : Nat → Nat} {rc : Nat → Nat} {sz : Nat → Nat} {kw : Nat → Nat} {ns : Nat} {tk : Nat} {ml : List Int32} {tg : Nat → Nat} {mn : Nat} {po : Nat → Nat} {tn : Nat} {ql : List Int32} {qt : Nat → Nat} {pw : Nat → Nat} {qm : Nat} {pc : Nat} {qn : Nat} {n : Nat} {e r q : Int32} {cm : Nat → Nat} {w : List jC} (hH : HX n e r q cm w) (hn1 : 2 ≤ n) (hn2 : n ≤ 7) (hcm : ∀ c, c < 6 → Mv n (cm c)) (hR : CM st sv rc sz kw ns tk (cm 0) n w) (hRw : WM ml tg mn n w) (hRt : TM po tn w) (hRq : QM ql qt pw qm pc qn w) (hUB : UB ns n mn n tn pc qn qm) (hy0 : CI n (cm 0) st sv rc kw ns) (hy1 : PQ n rc st kw ns) (hy2 : ∀ x, CP n (RC rc) (ST st) n x ↔ (Gg n (gS cm 63 6)) x) (hy3 : ∀ l, l ≤ n → sz l = zF rc n (n - l)) (hy4 : tk = enF n cm 63 6) (hy5 : FI n ml tg mn) (hy6 : WX n cm 63 ml) {kc ks : Nat} : jMet X mX6_allAgrees d kc ks [.ref 0] w (pI (fun v => v = nI 1) (fun w' => ∃ (st' : Nat → Nat), ∃ (sv' : Nat → Nat), ∃ (rc' : Nat → Nat), ∃ (sz' : Nat → Nat), ∃ (kw' : Nat → Nat), ∃ (ns' : Nat), ∃ (tk' : Nat), ∃ (ql' : List Int32), ∃ (qt' : Nat → Nat), ∃ (pw' : Nat → Nat), ∃ (qm' : Nat), HX n e r q cm w' ∧ F19 w w' ∧ CM st' sv' rc' sz' kw' ns' tk' (cm 0) n w' ∧ WM ml tg mn n w' ∧ TM po tn w' ∧ QM ql' qt' pw' qm' 2 n w' ∧ UB ns' n mn n tn 2 n qm')) := by
  refine jMet_of hs (by decide +kernel) (Nat.le_of_ble_eq_true rfl) (L := [some (.ref 0)]) rfl ?_
  obtain ⟨h0, h1⟩ := hH
  obtain ⟨h2, h3, h4, h5, h6, h7⟩ := hR
  obtain ⟨h8, h9, h10, h11, hz11⟩ := hRw
  obtain ⟨h12, h13⟩ := hRt
  obtain ⟨h14, h15, h16, h17, h18, hz17⟩ := hRq
  obtain ⟨hu1, hu2, hu3, hu4, hu5, ⟨hu6, hu7⟩, hu8, hu9⟩ := hUB
  have hG : F19 w w := F19.rf
  have hci := hy0
  have hpq := hy1
  have hge := hy2
  have hsz := hy3
  have hfi := hy5
  have hwx := hy6
  have hbd := Nat.le_trans (FI_le hfi) (fc_7 hn2)
  have hs0 := hsz 0 (by omega)
  rw [Nat.sub_zero] at hs0
  have hcd := nth_cd (by omega) hn2 hci hge hs0
  have hmn := FI_cd hwx hfi
  have hCl := Gg_Cl hn2 (gS_M (s := 63) (Nat.le_refl 6) hcm)
  have hN1 : 1 ≤ cd n (Gg n (gS cm 63 6)) := cd_pos (by omega) hn2 (eM_Mv hn2) Gg_e
  have hN5 := cd_5040 hn2 (Gg n (gS cm 63 6))
  refine J_aload_n (pc := 0) dX6_allAgrees_0 rfl rfl rfl ?_
  refine J_callV0 (pc := 1) (M := mX6_allAgrees) (as := []) dX6_allAgrees_1 fw_X6_sizesAgree fl_X6_268 fm_X6_sizesAgree fe_X6_sizesAgree h0 (by decide) rfl rfl rfl (c_X6_sizesAgree_atu hs (d := d - 1) (by omega) (st := st) (sv := sv) (rc := rc) (sz := sz) (kw := kw) (ns := ns) (tk := tk) (ml := ml) (tg := tg) (mn := mn) (po := po) (tn := tn) (ql := ql) (qt := qt) (pw := pw) (qm := qm) (pc := pc) (qn := qn) (n := n) (e := e) (r := r) (q := q) (cm := cm) (w := w) ⟨h0, h1⟩ hn1 hn2 hcm ⟨h2, h3, h4, h5, h6, h7⟩ ⟨h8, h9, h10, h11, hz11⟩ ⟨h12, h13⟩ ⟨h14, h15, h16, h17, h18, hz17⟩ ⟨(by first | omega | exact CI_ns21 hn2 hci), (by first | omega | exact hbd), (by first | omega | exact hbd), (by first | omega | exact hbd), (by first | omega | exact hbd), ⟨by omega, by omega⟩, (by first | omega | exact hbd), (by first | omega | exact hbd)⟩ (by first | assumption | omega) (by first | assumption | omega) (by first | assumption | omega) (by first | assumption | omega) (by first | assumption | omega) (by first | assumption | omega) (by first | assumption | omega) (kc := 0) (ks := 0)) (by omega) (st := []) (Nat.le_of_ble_eq_true rfl) rfl (kr_P fun v1 hv1 => ?_) kx_I
  subst hv1
  refine J_if_eqN (pc := 4) (tgt := 55) dX6_allAgrees_4 (by decide) (by decide) (fun h => absurd h (by decide)) (fun _ => ?_)
  refine J_aload_n (pc := 7) dX6_allAgrees_7 rfl rfl rfl ?_
  refine J_callV0 (pc := 8) (M := mX6_allAgrees) (as := []) dX6_allAgrees_8 fw_X6_ranksAgree fl_X6_271 fm_X6_ranksAgree fe_X6_ranksAgree h0 (by decide) rfl rfl rfl (c_X6_ranksAgree_atu hs (d := d - 1) (by omega) (st := st) (sv := sv) (rc := rc) (sz := sz) (kw := kw) (ns := ns) (tk := tk) (ml := ml) (tg := tg) (mn := mn) (po := po) (tn := tn) (ql := ql) (qt := qt) (pw := pw) (qm := qm) (pc := pc) (qn := qn) (n := n) (e := e) (r := r) (q := q) (cm := cm) (w := w) ⟨h0, h1⟩ hn1 hn2 hcm ⟨h2, h3, h4, h5, h6, h7⟩ ⟨h8, h9, h10, h11, hz11⟩ ⟨h12, h13⟩ ⟨h14, h15, h16, h17, h18, hz17⟩ ⟨(by first | omega | exact CI_ns21 hn2 hci), (by first | omega | exact hbd), (by first | omega | exact hbd), (by first | omega | exact hbd), (by first | omega | exact hbd), ⟨by omega, by omega⟩, (by first | omega | exact hbd), (by first | omega | exact hbd)⟩ (by first | assumption | omega) (by first | assumption | omega) (by first | assumption | omega) (by first | assumption | omega) (by first | assumption | omega) (by first | assumption | omega) (by first | assumption | omega) (kc := 0) (ks := 0)) (by omega) (st := []) (Nat.le_of_ble_eq_true rfl) rfl (kr_P fun v2 hv2 => ?_) kx_I
  subst hv2
  refine J_if_eqN (pc := 11) (tgt := 55) dX6_allAgrees_11 (by decide) (by decide) (fun h => absurd h (by decide)) (fun _ => ?_)
  refine J_aload_n (pc := 14) dX6_allAgrees_14 rfl rfl rfl ?_
  refine J_callV0 (pc := 15) (M := mX6_allAgrees) (as := []) dX6_allAgrees_15 fw_X6_signsAgree fl_X6_274 fm_X6_signsAgree fe_X6_signsAgree h0 (by decide) rfl rfl rfl (c_X6_signsAgree_atu hs (d := d - 1) (by omega) (st := st) (sv := sv) (rc := rc) (sz := sz) (kw := kw) (ns := ns) (tk := tk) (ml := ml) (tg := tg) (mn := mn) (po := po) (tn := tn) (ql := ql) (qt := qt) (pw := pw) (qm := qm) (pc := pc) (qn := qn) (n := n) (e := e) (r := r) (q := q) (cm := cm) (w := w) ⟨h0, h1⟩ hn1 hn2 hcm ⟨h2, h3, h4, h5, h6, h7⟩ ⟨h8, h9, h10, h11, hz11⟩ ⟨h12, h13⟩ ⟨h14, h15, h16, h17, h18, hz17⟩ ⟨(by first | omega | exact CI_ns21 hn2 hci), (by first | omega | exact hbd), (by first | omega | exact hbd), (by first | omega | exact hbd), (by first | omega | exact hbd), ⟨by omega, by omega⟩, (by first | omega | exact hbd), (by first | omega | exact hbd)⟩ (by first | assumption | omega) (by first | assumption | omega) (by first | assumption | omega) (by first | assumption | omega) (by first | assumption | omega) (by first | assumption | omega) (by first | assumption | omega) (kc := 0) (ks := 0)) (by omega) (st := []) (Nat.le_of_ble_eq_true rfl) rfl (kr_P fun v3 hv3 => ?_) kx_I
  subst hv3
  refine J_if_eqN (pc := 18) (tgt := 55) dX6_allAgrees_18 (by decide) (by decide) (fun h => absurd h (by decide)) (fun _ => ?_)
  refine J_aload_n (pc := 21) dX6_allAgrees_21 rfl rfl rfl ?_
  refine J_get (pc := 22) (k := 1) dX6_allAgrees_22 kC7 (by decide) ff_X6_16 h0 rfl ?_
  refine J_aload_n (pc := 25) dX6_allAgrees_25 rfl rfl rfl ?_
  refine J_get (pc := 26) (k := 0) dX6_allAgrees_26 kC7 (by decide) ff_X6_9 h0 rfl ?_
  refine J_bipush (pc := 29) (v := nI 63) dX6_allAgrees_29 (by decide) ?_
  refine J_callV0 (pc := 31) (M := mX6_allAgrees) (as := [.ref 1, .int (nI 63)]) dX6_allAgrees_31 fw_X0_holdsAll fl_X6_209 fm_X0_holdsAll fe_X0_holdsAll h2 (by decide) rfl rfl rfl (c_X0_holdsAll_atx hs (d := d - 1) (by omega) (st := st) (sv := sv) (rc := rc) (sz := sz) (kw := kw) (ns := ns) (tk := tk) (ro := cm 0) (nn := n) ⟨h2, h3, h4, h5, h6, h7⟩ h1 (w := w) 63 (by omega) (by exact hn2) (by exact hci) (by exact hpq) (by exact hsz) (by exact hcm) (by decide) (kc := 0) (ks := 0)) (by omega) (st := []) (Nat.le_of_ble_eq_true rfl) rfl (kr_P fun v4 hv4 => ?_) kx_I
  rcases hv4 with ⟨rfl, hk4_0⟩ | ⟨rfl, hk4_0⟩
  · exact absurd (fun c hc hs => (hge _).mpr (Gg_of hn2 (gS_M (Nat.le_refl 6) hcm) ⟨c, hc, hs, rfl⟩)) hk4_0
  · refine J_if_eqN (pc := 34) (tgt := 55) dX6_allAgrees_34 (by decide) (by decide) (fun h => absurd h (by decide)) (fun _ => ?_)
    refine J_aload_n (pc := 37) dX6_allAgrees_37 rfl rfl rfl ?_
    refine J_callV0 (pc := 38) (M := mX6_allAgrees) (as := []) dX6_allAgrees_38 fw_X6_colouringsAgree fl_X6_277 fm_X6_colouringsAgree fe_X6_colouringsAgree h0 (by decide) rfl rfl rfl (c_X6_colouringsAgree_atu hs (d := d - 1) (by omega) (st := st) (sv := sv) (rc := rc) (sz := sz) (kw := kw) (ns := ns) (tk := tk) (ml := ml) (tg := tg) (mn := mn) (po := po) (tn := tn) (ql := ql) (qt := qt) (pw := pw) (qm := qm) (pc := pc) (qn := qn) (n := n) (e := e) (r := r) (q := q) (cm := cm) (w := w) ⟨h0, h1⟩ hn1 hn2 hcm ⟨h2, h3, h4, h5, h6, h7⟩ ⟨h8, h9, h10, h11, hz11⟩ ⟨h12, h13⟩ ⟨h14, h15, h16, h17, h18, hz17⟩ ⟨(by first | omega | exact CI_ns21 hn2 hci), (by first | omega | exact hbd), (by first | omega | exact hbd), (by first | omega | exact hbd), (by first | omega | exact hbd), ⟨by omega, by omega⟩, (by first | omega | exact hbd), (by first | omega | exact hbd)⟩ (by exact hy0) (by exact hy1) (by exact hy2) (by exact hy3) (by exact hy4) (by exact hy5) (by exact hy6) (kc := 0) (ks := 0)) (by omega) (st := []) (Nat.le_of_ble_eq_true rfl) rfl (kr_I fun v5 w5 hv5 hw5 => ?_) kx_I
    obtain ⟨ql5, qt5, pw5, qm5, ⟨h0_5, h1_5⟩, hGc5, ⟨h2_5, h3_5, h4_5, h5_5, h6_5, h7_5⟩, ⟨h8_5, h9_5, h10_5, h11_5, hz11_5⟩, ⟨h12_5, h13_5⟩, ⟨h14_5, h15_5, h16_5, h17_5, h18_5, hz17_5⟩, ⟨hu1_5, hu2_5, hu3_5, hu4_5, hu5_5, ⟨hu6_5, hu7_5⟩, hu8_5, hu9_5⟩⟩ := hw5
    have hG5 := hG.tr hGc5
    subst hv5
    refine J_if_eqN (pc := 41) (tgt := 55) dX6_allAgrees_41 (by decide) (by decide) (fun h => absurd h (by decide)) (fun _ => ?_)
    refine J_aload_n (pc := 44) dX6_allAgrees_44 rfl rfl rfl ?_
    refine J_callV0 (pc := 45) (M := mX6_allAgrees) (as := []) dX6_allAgrees_45 fw_X6_enoughSuffices fl_X6_280 fm_X6_enoughSuffices fe_X6_enoughSuffices h0_5 (by decide) rfl rfl rfl (c_X6_enoughSuffices_atu hs (d := d - 1) (by omega) (st := st) (sv := sv) (rc := rc) (sz := sz) (kw := kw) (ns := ns) (tk := tk) (ml := ml) (tg := tg) (mn := mn) (po := po) (tn := tn) (ql := ql5) (qt := qt5) (pw := pw5) (qm := qm5) (pc := 2) (qn := n) (n := n) (e := e) (r := r) (q := q) (cm := cm) (w := w5) ⟨h0_5, h1_5⟩ hn1 hn2 hcm ⟨h2_5, h3_5, h4_5, h5_5, h6_5, h7_5⟩ ⟨h8_5, h9_5, h10_5, h11_5, hz11_5⟩ ⟨h12_5, h13_5⟩ ⟨h14_5, h15_5, h16_5, h17_5, h18_5, hz17_5⟩ ⟨(by first | omega | exact CI_ns21 hn2 hci), (by first | omega | exact hbd), (by first | omega | exact hbd), (by first | omega | exact hbd), (by first | omega | exact hbd), ⟨by omega, by omega⟩, (by first | omega | exact hbd), (by first | omega | exact hbd)⟩ (by exact hy0) (by exact hy1) (by exact hy2) (by exact hy3) (by exact hy4) (by exact hy5) (by exact hy6) (kc := 0) (ks := 0)) (by omega) (st := []) (Nat.le_of_ble_eq_true rfl) rfl (kr_I fun v6 w6 hv6 hw6 => ?_) kx_I
    obtain ⟨st6, sv6, rc6, sz6, kw6, ns6, tk6, ⟨h0_6, h1_6⟩, hGc6, ⟨h2_6, h3_6, h4_6, h5_6, h6_6, h7_6⟩, ⟨h8_6, h9_6, h10_6, h11_6, hz11_6⟩, ⟨h12_6, h13_6⟩, ⟨h14_6, h15_6, h16_6, h17_6, h18_6, hz17_6⟩, ⟨hu1_6, hu2_6, hu3_6, hu4_6, hu5_6, ⟨hu6_6, hu7_6⟩, hu8_6, hu9_6⟩⟩ := hw6
    have hG6 := hG5.tr hGc6
    subst hv6
    refine J_if_eqN (pc := 48) (tgt := 55) dX6_allAgrees_48 (by decide) (by decide) (fun h => absurd h (by decide)) (fun _ => ?_)
    refine J_iconst (pc := 51) (v := nI 1) dX6_allAgrees_51 (by decide) ?_
    refine J_goto (pc := 52) (tgt := 56) dX6_allAgrees_52 (by decide) ?_
    exact J_zret (pc := 56) dX6_allAgrees_56 rfl (nar_b (by first | decide | omega)) ⟨rfl, ⟨st6, sv6, rc6, sz6, kw6, ns6, tk6, ql5, qt5, pw5, qm5, ⟨h0_6, h1_6⟩, hG6, ⟨h2_6, h3_6, h4_6, h5_6, h6_6, h7_6⟩, ⟨h8_6, h9_6, h10_6, h11_6, hz11_6⟩, ⟨h12_6, h13_6⟩, ⟨h14_6, h15_6, h16_6, h17_6, h18_6, hz17_6⟩, ⟨(by first | omega | exact CI_ns21 hn2 hci), (by first | omega | exact hbd), (by first | omega | exact hbd), (by first | omega | exact hbd), (by first | omega | exact hbd), ⟨by omega, by omega⟩, (by first | omega | exact hbd), (by first | omega | exact hbd)⟩⟩⟩
set_option maxRecDepth 100000 in
set_option maxHeartbeats 4000000 in
theorem c_X6_isSound_atx {X : jX} (hs : X.1.stackTraces = false) {d : Nat} (hd : 7 ≤ d) {st : Nat → Nat} {sv : Nat → Nat} {rc : Nat → Nat} {sz : Nat → Nat} {kw : Nat → Nat} {ns : Nat} {tk : Nat} {ro : Nat} {nn : Nat} {ml : List Int32} {tg : Nat → Nat} {mn : Nat} {wn : Nat} {po : Nat → Nat} {tn : Nat} {ql : List Int32} {qt : Nat → Nat} {pw : Nat → Nat} {qm : Nat} {pc : Nat} {qn : Nat} {n : Nat} {e r q : Int32} {cm : Nat → Nat} {w : List jC} (hH : HX n e r q cm w) (hn1 : 2 ≤ n) (hn2 : n ≤ 7) (hcm : ∀ c, c < 6 → Mv n (cm c)) (hR : CM st sv rc sz kw ns tk ro nn w) (hRw : WM ml tg mn wn w) (hRt : TM po tn w) (hRq : QM ql qt pw qm pc qn w) (hUB : UB ns nn mn wn tn pc qn qm) {kc ks : Nat} : jMet X mX6_isSound d kc ks [.ref 0] w (pJ (fun v w' => v = nI 1 ∧ HX n e r q cm w' ∧ F19 w w' ∧ AU w')) := by
  refine jMet_of hs (by decide +kernel) (Nat.le_of_ble_eq_true rfl) (L := [some (.ref 0)]) rfl ?_
  obtain ⟨h0, h1⟩ := hH
  obtain ⟨h2, h3, h4, h5, h6, h7⟩ := hR
  obtain ⟨h8, h9, h10, h11, hz11⟩ := hRw
  obtain ⟨h12, h13⟩ := hRt
  obtain ⟨h14, h15, h16, h17, h18, hz17⟩ := hRq
  obtain ⟨hu1, hu2, hu3, hu4, hu5, ⟨hu6, hu7⟩, hu8, hu9⟩ := hUB
  have hG : F19 w w := F19.rf
  refine J_aload_n (pc := 0) dX6_isSound_0 rfl rfl rfl ?_
  refine J_callV0 (pc := 1) (M := mX6_isSound) (as := []) dX6_isSound_1 fw_X6_raiseAll fl_X6_228 fm_X6_raiseAll fe_X6_raiseAll h0 (by decide) rfl rfl rfl (c_X6_raiseAll_atu hs (d := d - 1) (by omega) (st := st) (sv := sv) (rc := rc) (sz := sz) (kw := kw) (ns := ns) (tk := tk) (ro := ro) (nn := nn) (ml := ml) (tg := tg) (mn := mn) (wn := wn) (po := po) (tn := tn) (ql := ql) (qt := qt) (pw := pw) (qm := qm) (pc := pc) (qn := qn) (n := n) (e := e) (r := r) (q := q) (cm := cm) (w := w) ⟨h0, h1⟩ hn1 hn2 hcm ⟨h2, h3, h4, h5, h6, h7⟩ ⟨h8, h9, h10, h11, hz11⟩ ⟨h12, h13⟩ ⟨h14, h15, h16, h17, h18, hz17⟩ ⟨(by first | omega | exact CI_ns21 hn2 hci), (by first | omega | exact hbd), (by first | omega | exact hbd), (by first | omega | exact hbd), (by first | omega | exact hbd), ⟨by omega, by omega⟩, (by first | omega | exact hbd), (by first | omega | exact hbd)⟩ (kc := 0) (ks := 0)) (by omega) (st := []) (Nat.le_of_ble_eq_true rfl) rfl (kr_V fun w1 hw1 => ?_) kx_V
  obtain ⟨st1, sv1, rc1, sz1, kw1, ns1, tk1, ml1, tg1, mn1, ⟨h0_1, h1_1⟩, hGc1, ⟨h2_1, h3_1, h4_1, h5_1, h6_1, h7_1⟩, ⟨h8_1, h9_1, h10_1, h11_1, hz11_1⟩, ⟨h12_1, h13_1⟩, ⟨h14_1, h15_1, h16_1, h17_1, h18_1, hz17_1⟩, ⟨hu1_1, hu2_1, hu3_1, hu4_1, hu5_1, ⟨hu6_1, hu7_1⟩, hu8_1, hu9_1⟩, hp1_0, hp1_1, hp1_2, hp1_3, hp1_4, hp1_5, hp1_6⟩ := hw1
  have hG1 := hG.tr hGc1
  refine J_aload_n (pc := 4) dX6_isSound_4 rfl rfl rfl ?_
  refine J_callV0 (pc := 5) (M := mX6_isSound) (as := []) dX6_isSound_5 fw_X6_allAgrees fl_X6_231 fm_X6_allAgrees fe_X6_allAgrees h0_1 (by decide) rfl rfl rfl (c_X6_allAgrees_atu hs (d := d - 1) (by omega) (st := st1) (sv := sv1) (rc := rc1) (sz := sz1) (kw := kw1) (ns := ns1) (tk := tk1) (ml := ml1) (tg := tg1) (mn := mn1) (po := po) (tn := tn) (ql := ql) (qt := qt) (pw := pw) (qm := qm) (pc := pc) (qn := qn) (n := n) (e := e) (r := r) (q := q) (cm := cm) (w := w1) ⟨h0_1, h1_1⟩ hn1 hn2 hcm ⟨h2_1, h3_1, h4_1, h5_1, h6_1, h7_1⟩ ⟨h8_1, h9_1, h10_1, h11_1, hz11_1⟩ ⟨h12_1, h13_1⟩ ⟨h14_1, h15_1, h16_1, h17_1, h18_1, hz17_1⟩ ⟨(by first | omega | exact CI_ns21 hn2 hci), (by first | omega | exact hbd), (by first | omega | exact hbd), (by first | omega | exact hbd), (by first | omega | exact hbd), ⟨by omega, by omega⟩, (by first | omega | exact hbd), (by first | omega | exact hbd)⟩ (by first | assumption | omega) (by first | assumption | omega) (by first | assumption | omega) (by first | assumption | omega) (by first | assumption | omega) (by first | assumption | omega) (by first | assumption | omega) (kc := 0) (ks := 0)) (by omega) (st := []) (Nat.le_of_ble_eq_true rfl) rfl (kr_I fun v2 w2 hv2 hw2 => ?_) kx_I
  obtain ⟨st2, sv2, rc2, sz2, kw2, ns2, tk2, ql2, qt2, pw2, qm2, ⟨h0_2, h1_2⟩, hGc2, ⟨h2_2, h3_2, h4_2, h5_2, h6_2, h7_2⟩, ⟨h8_2, h9_2, h10_2, h11_2, hz11_2⟩, ⟨h12_2, h13_2⟩, ⟨h14_2, h15_2, h16_2, h17_2, h18_2, hz17_2⟩, ⟨hu1_2, hu2_2, hu3_2, hu4_2, hu5_2, ⟨hu6_2, hu7_2⟩, hu8_2, hu9_2⟩⟩ := hw2
  have hG2 := hG1.tr hGc2
  subst hv2
  exact J_zret (pc := 8) dX6_isSound_8 rfl (nar_b (by first | decide | omega)) (⟨rfl, ⟨h0_2, h1_2⟩, hG2, ⟨_, _, _, _, _, _, _, _, _, _, _, _, _, _, _, _, _, _, _, _, _, ⟨h2_2, h3_2, h4_2, h5_2, h6_2, h7_2⟩, ⟨h8_2, h9_2, h10_2, h11_2, hz11_2⟩, ⟨h12_2, h13_2⟩, ⟨h14_2, h15_2, h16_2, h17_2, h18_2, hz17_2⟩, ⟨(by first | omega | exact CI_ns21 hn2 hci), (by first | omega | exact hbd), (by first | omega | exact hbd), (by first | omega | exact hbd), (by first | omega | exact hbd), ⟨by omega, by omega⟩, (by first | omega | exact hbd), (by first | omega | exact hbd)⟩⟩⟩)
end
section
/-! what each call does and answers, on both sides the same -/
abbrev GX (S : StX) (s : Nat) : Nat → Prop := Gg S.1 (gS S.2.2.2.2 s 6)
def Dpoints (S : StX) (p0 : Int32) (v : Int32) (S' : StX) : Prop := ∃ k : Nat, p0 = nI k ∧ 2 ≤ k ∧ k ≤ 7 ∧ v = nI S.1 ∧ S' = (k, S.2.1 + nI 1, S.2.2.1, S.2.2.2.1, fun _ => 1754760)
def Dlay (S : StX) (p0 p1 : Int32) (v : Int32) (S' : StX) : Prop := ∃ na nb : Nat, p0 = nI na ∧ p1 = nI nb ∧ na < 6 ∧ nb < fc S.1 ∧ v = nI (nu S.1 (S.2.2.2.2 na)) ∧ S' = ES S na (XM S.1 nb)
def Dexchange (S : StX) (p0 p1 p2 : Int32) (v : Int32) (S' : StX) : Prop := ∃ na nb nc : Nat, p0 = nI na ∧ p1 = nI nb ∧ p2 = nI nc ∧ na < 6 ∧ nb < S.1 ∧ nc < S.1 ∧ v = sg S.1 (c7 (S.2.2.2.2 na) (w8 (w8 1754760 nb nc) nc nb)) ∧ S' = ES S na (c7 (S.2.2.2.2 na) (w8 (w8 1754760 nb nc) nc nb))
def Dring (S : StX) (p0 p1 p2 p3 : Int32) (v : Int32) (S' : StX) : Prop := ∃ na nb nc nf : Nat, p0 = nI na ∧ p1 = nI nb ∧ p2 = nI nc ∧ p3 = nI nf ∧ na < 6 ∧ nb < S.1 ∧ nc < S.1 ∧ nf < S.1 ∧ v = sg S.1 (c7 (S.2.2.2.2 na) (w8 (w8 (w8 1754760 nb nc) nc nf) nf nb)) ∧ S' = ES S na (c7 (S.2.2.2.2 na) (w8 (w8 (w8 1754760 nb nc) nc nf) nf nb))
def Dturn (S : StX) (p0 p1 : Int32) (v : Int32) (S' : StX) : Prop := ∃ na : Nat, p0 = nI na ∧ na < 6 ∧ v = sg S.1 (c7 (S.2.2.2.2 na) (bW (fun p => (p + tT S.1 p1) % S.1) S.1)) ∧ S' = ES S na (c7 (S.2.2.2.2 na) (bW (fun p => (p + tT S.1 p1) % S.1) S.1))
def Dmirror (S : StX) (p0 : Int32) (v : Int32) (S' : StX) : Prop := ∃ na : Nat, p0 = nI na ∧ na < 6 ∧ v = sg S.1 (c7 (S.2.2.2.2 na) (bW (fun p => S.1 - 1 - p) S.1)) ∧ S' = ES S na (c7 (S.2.2.2.2 na) (bW (fun p => S.1 - 1 - p) S.1))
def Dcopy (S : StX) (p0 p1 : Int32) (v : Int32) (S' : StX) : Prop := ∃ na nb : Nat, p0 = nI na ∧ p1 = nI nb ∧ na < 6 ∧ nb < 6 ∧ v = (if (S.2.2.2.2 nb) = (S.2.2.2.2 na) then nI 0 else nI 1) ∧ S' = ES S nb (S.2.2.2.2 na)
def Dswap (S : StX) (p0 p1 : Int32) (v : Int32) (S' : StX) : Prop := ∃ na nb : Nat, p0 = nI na ∧ p1 = nI nb ∧ na < 6 ∧ nb < 6 ∧ v = (if (S.2.2.2.2 na) = (S.2.2.2.2 nb) then nI 0 else nI 1) ∧ S' = (S.1, S.2.1 + nI 1, S.2.2.1, S.2.2.2.1, up (up S.2.2.2.2 na (S.2.2.2.2 nb)) nb (S.2.2.2.2 na))
def Dthen (S : StX) (p0 p1 p2 : Int32) (v : Int32) (S' : StX) : Prop := ∃ na nb nc : Nat, p0 = nI na ∧ p1 = nI nb ∧ p2 = nI nc ∧ na < 6 ∧ nb < 6 ∧ nc < 6 ∧ v = nI (nu S.1 (c7 (S.2.2.2.2 na) (S.2.2.2.2 nb))) ∧ S' = ES S nc (c7 (S.2.2.2.2 na) (S.2.2.2.2 nb))
def Dundo (S : StX) (p0 p1 : Int32) (v : Int32) (S' : StX) : Prop := ∃ na nb : Nat, p0 = nI na ∧ p1 = nI nb ∧ na < 6 ∧ nb < 6 ∧ v = nI (nu S.1 (i7 (S.2.2.2.2 na))) ∧ S' = ES S nb (i7 (S.2.2.2.2 na))
def Dpower (S : StX) (p0 p1 p2 : Int32) (v : Int32) (S' : StX) : Prop := ∃ na nc : Nat, p0 = nI na ∧ p2 = nI nc ∧ na < 6 ∧ nc < 6 ∧ v = nI (nu S.1 (pwM p1 (S.2.2.2.2 na))) ∧ S' = ES S nc (pwM p1 (S.2.2.2.2 na))
def Drename (S : StX) (p0 p1 p2 : Int32) (v : Int32) (S' : StX) : Prop := ∃ na nb nc : Nat, p0 = nI na ∧ p1 = nI nb ∧ p2 = nI nc ∧ na < 6 ∧ nb < 6 ∧ nc < 6 ∧ v = nI (nu S.1 (c7 (c7 (i7 (S.2.2.2.2 nb)) (S.2.2.2.2 na)) (S.2.2.2.2 nb))) ∧ S' = ES S nc (c7 (c7 (i7 (S.2.2.2.2 nb)) (S.2.2.2.2 na)) (S.2.2.2.2 nb))
def Dmatch (S : StX) (p0 p1 p2 : Int32) (v : Int32) (S' : StX) : Prop := ∃ a b c : Nat, p0 = nI a ∧ p1 = nI b ∧ p2 = nI c ∧ a < 6 ∧ b < 6 ∧ c < 6 ∧ ((∃ y, LN S.1 (S.2.2.2.2 a) (S.2.2.2.2 b) y ∧ v = nI (nu S.1 y) ∧ S' = ES S c y) ∨ ((∀ w, ¬ RN S.1 (S.2.2.2.2 a) (S.2.2.2.2 b) w) ∧ v = (-9) ∧ S' = NS S))
def Dnth (S : StX) (p0 p1 p2 p3 : Int32) (v : Int32) (S' : StX) : Prop := ∃ s a b rk : Nat, p0 = nI s ∧ p1 = nI a ∧ p3 = nI b ∧ p2 = nI rk ∧ s < 64 ∧ a < 6 ∧ b < 6 ∧ rk < 2 ^ 31 ∧ ((∃ y, rk < cd S.1 (GX S s) ∧ Mv S.1 y ∧ GK S.1 (GX S s) (d8 (S.2.2.2.2 a)) rk y ∧ v = nI (nu S.1 y) ∧ S' = ES S b y) ∨ (¬ rk < cd S.1 (GX S s) ∧ v = (-9) ∧ S' = NS S))
def Dnumber (S : StX) (p0 : Int32) (v : Int32) (S' : StX) : Prop := ∃ na : Nat, p0 = nI na ∧ na < 6 ∧ v = nI (nu S.1 (S.2.2.2.2 na)) ∧ S' = S
def Dgoes (S : StX) (p0 p1 : Int32) (v : Int32) (S' : StX) : Prop := ∃ na nb : Nat, p0 = nI na ∧ p1 = nI nb ∧ na < 6 ∧ nb < S.1 ∧ v = nI (d8 (S.2.2.2.2 na) nb) ∧ S' = S
def Dorder (S : StX) (p0 : Int32) (v : Int32) (S' : StX) : Prop := ∃ na : Nat, p0 = nI na ∧ na < 6 ∧ v = nI (oC (S.2.2.2.2 na)) ∧ S' = S
def Dsign (S : StX) (p0 : Int32) (v : Int32) (S' : StX) : Prop := ∃ na : Nat, p0 = nI na ∧ na < 6 ∧ v = sg S.1 (S.2.2.2.2 na) ∧ S' = S
def Dstays (S : StX) (p0 : Int32) (v : Int32) (S' : StX) : Prop := ∃ na : Nat, p0 = nI na ∧ na < 6 ∧ v = nI (stF (d8 (S.2.2.2.2 na)) S.1) ∧ S' = S
def DareAlike (S : StX) (p0 p1 : Int32) (v : Int32) (S' : StX) : Prop := ∃ na nb : Nat, p0 = nI na ∧ p1 = nI nb ∧ na < 6 ∧ nb < 6 ∧ v = nI (on (LK (S.2.2.2.2 na) (S.2.2.2.2 nb))) ∧ S' = S
def Dcommute (S : StX) (p0 p1 : Int32) (v : Int32) (S' : StX) : Prop := ∃ na nb : Nat, p0 = nI na ∧ p1 = nI nb ∧ na < 6 ∧ nb < 6 ∧ v = (if c7 (S.2.2.2.2 na) (S.2.2.2.2 nb) = c7 (S.2.2.2.2 nb) (S.2.2.2.2 na) then nI 1 else nI 0) ∧ S' = S
def Dhouse (S : StX) (p0 : Int32) (v : Int32) (S' : StX) : Prop := ∃ na : Nat, p0 = nI na ∧ na < 3 ∧ v = (if na = 0 then S.2.1 else if na = 1 then S.2.2.1 else S.2.2.2.1) ∧ S' = S
theorem on_01 (p : Prop) : nI (on p) = nI 0 ∨ nI (on p) = nI 1 := by
  by_cases h : p
  · rw [on_t h]; exact Or.inr rfl
  · rw [on_f h]; exact Or.inl rfl
theorem fD_points {S : StX} (h2 : 2 ≤ S.1) (h7 : S.1 ≤ 7) (hM : ∀ c, c < 6 → Mv S.1 (S.2.2.2.2 c)) (p0 : Int32) (v v' : Int32) (x y : StX) (h : Dpoints S p0 v x) (h' : Dpoints S p0 v' y) : x = y ∧ v = v' := by
  obtain ⟨k, e1, k1, k2, ev, e⟩ := h
  obtain ⟨k', e1', k1', k2', ev', e'⟩ := h'
  obtain rfl := nI_uq e1 e1' (k := 8) (by omega) (by omega)
  exact ⟨e.trans e'.symm, ev.trans ev'.symm⟩
theorem fD_lay {S : StX} (h2 : 2 ≤ S.1) (h7 : S.1 ≤ 7) (hM : ∀ c, c < 6 → Mv S.1 (S.2.2.2.2 c)) (p0 p1 : Int32) (v v' : Int32) (x y : StX) (h : Dlay S p0 p1 v x) (h' : Dlay S p0 p1 v' y) : x = y ∧ v = v' := by
  have hf7 := fc_7 h7
  obtain ⟨na, nb, ea, eb, ha, hb, ev, e⟩ := h
  obtain ⟨na', nb', ea', eb', ha', hb', ev', e'⟩ := h'
  obtain rfl := nI_uq ea ea' ha ha'
  obtain rfl := nI_uq eb eb' hb hb'
  exact ⟨e.trans e'.symm, ev.trans ev'.symm⟩
theorem fD_exchange {S : StX} (h2 : 2 ≤ S.1) (h7 : S.1 ≤ 7) (hM : ∀ c, c < 6 → Mv S.1 (S.2.2.2.2 c)) (p0 p1 p2 : Int32) (v v' : Int32) (x y : StX) (h : Dexchange S p0 p1 p2 v x) (h' : Dexchange S p0 p1 p2 v' y) : x = y ∧ v = v' := by
  obtain ⟨na, nb, nc, ea, eb, ec, ha, hb, hc, ev, e⟩ := h
  obtain ⟨na', nb', nc', ea', eb', ec', ha', hb', hc', ev', e'⟩ := h'
  obtain rfl := nI_uq ea ea' ha ha'
  obtain rfl := nI_uq eb eb' hb hb'
  obtain rfl := nI_uq ec ec' hc hc'
  exact ⟨e.trans e'.symm, ev.trans ev'.symm⟩
theorem fD_ring {S : StX} (h2 : 2 ≤ S.1) (h7 : S.1 ≤ 7) (hM : ∀ c, c < 6 → Mv S.1 (S.2.2.2.2 c)) (p0 p1 p2 p3 : Int32) (v v' : Int32) (x y : StX) (h : Dring S p0 p1 p2 p3 v x) (h' : Dring S p0 p1 p2 p3 v' y) : x = y ∧ v = v' := by
  obtain ⟨na, nb, nc, nf, ea, eb, ec, ef, ha, hb, hc, hf, ev, e⟩ := h
  obtain ⟨na', nb', nc', nf', ea', eb', ec', ef', ha', hb', hc', hf', ev', e'⟩ := h'
  obtain rfl := nI_uq ea ea' ha ha'
  obtain rfl := nI_uq eb eb' hb hb'
  obtain rfl := nI_uq ec ec' hc hc'
  obtain rfl := nI_uq ef ef' hf hf'
  exact ⟨e.trans e'.symm, ev.trans ev'.symm⟩
theorem fD_turn {S : StX} (h2 : 2 ≤ S.1) (h7 : S.1 ≤ 7) (hM : ∀ c, c < 6 → Mv S.1 (S.2.2.2.2 c)) (p0 p1 : Int32) (v v' : Int32) (x y : StX) (h : Dturn S p0 p1 v x) (h' : Dturn S p0 p1 v' y) : x = y ∧ v = v' := by
  obtain ⟨na, ea, ha, ev, e⟩ := h
  obtain ⟨na', ea', ha', ev', e'⟩ := h'
  obtain rfl := nI_uq ea ea' ha ha'
  exact ⟨e.trans e'.symm, ev.trans ev'.symm⟩
theorem fD_mirror {S : StX} (h2 : 2 ≤ S.1) (h7 : S.1 ≤ 7) (hM : ∀ c, c < 6 → Mv S.1 (S.2.2.2.2 c)) (p0 : Int32) (v v' : Int32) (x y : StX) (h : Dmirror S p0 v x) (h' : Dmirror S p0 v' y) : x = y ∧ v = v' := by
  obtain ⟨na, ea, ha, ev, e⟩ := h
  obtain ⟨na', ea', ha', ev', e'⟩ := h'
  obtain rfl := nI_uq ea ea' ha ha'
  exact ⟨e.trans e'.symm, ev.trans ev'.symm⟩
theorem fD_copy {S : StX} (h2 : 2 ≤ S.1) (h7 : S.1 ≤ 7) (hM : ∀ c, c < 6 → Mv S.1 (S.2.2.2.2 c)) (p0 p1 : Int32) (v v' : Int32) (x y : StX) (h : Dcopy S p0 p1 v x) (h' : Dcopy S p0 p1 v' y) : x = y ∧ v = v' := by
  obtain ⟨na, nb, ea, eb, ha, hb, ev, e⟩ := h
  obtain ⟨na', nb', ea', eb', ha', hb', ev', e'⟩ := h'
  obtain rfl := nI_uq ea ea' ha ha'
  obtain rfl := nI_uq eb eb' hb hb'
  exact ⟨e.trans e'.symm, ev.trans ev'.symm⟩
theorem fD_swap {S : StX} (h2 : 2 ≤ S.1) (h7 : S.1 ≤ 7) (hM : ∀ c, c < 6 → Mv S.1 (S.2.2.2.2 c)) (p0 p1 : Int32) (v v' : Int32) (x y : StX) (h : Dswap S p0 p1 v x) (h' : Dswap S p0 p1 v' y) : x = y ∧ v = v' := by
  obtain ⟨na, nb, ea, eb, ha, hb, ev, e⟩ := h
  obtain ⟨na', nb', ea', eb', ha', hb', ev', e'⟩ := h'
  obtain rfl := nI_uq ea ea' ha ha'
  obtain rfl := nI_uq eb eb' hb hb'
  exact ⟨e.trans e'.symm, ev.trans ev'.symm⟩
theorem fD_then {S : StX} (h2 : 2 ≤ S.1) (h7 : S.1 ≤ 7) (hM : ∀ c, c < 6 → Mv S.1 (S.2.2.2.2 c)) (p0 p1 p2 : Int32) (v v' : Int32) (x y : StX) (h : Dthen S p0 p1 p2 v x) (h' : Dthen S p0 p1 p2 v' y) : x = y ∧ v = v' := by
  obtain ⟨na, nb, nc, ea, eb, ec, ha, hb, hc, ev, e⟩ := h
  obtain ⟨na', nb', nc', ea', eb', ec', ha', hb', hc', ev', e'⟩ := h'
  obtain rfl := nI_uq ea ea' ha ha'
  obtain rfl := nI_uq eb eb' hb hb'
  obtain rfl := nI_uq ec ec' hc hc'
  exact ⟨e.trans e'.symm, ev.trans ev'.symm⟩
theorem fD_undo {S : StX} (h2 : 2 ≤ S.1) (h7 : S.1 ≤ 7) (hM : ∀ c, c < 6 → Mv S.1 (S.2.2.2.2 c)) (p0 p1 : Int32) (v v' : Int32) (x y : StX) (h : Dundo S p0 p1 v x) (h' : Dundo S p0 p1 v' y) : x = y ∧ v = v' := by
  obtain ⟨na, nb, ea, eb, ha, hb, ev, e⟩ := h
  obtain ⟨na', nb', ea', eb', ha', hb', ev', e'⟩ := h'
  obtain rfl := nI_uq ea ea' ha ha'
  obtain rfl := nI_uq eb eb' hb hb'
  exact ⟨e.trans e'.symm, ev.trans ev'.symm⟩
theorem fD_power {S : StX} (h2 : 2 ≤ S.1) (h7 : S.1 ≤ 7) (hM : ∀ c, c < 6 → Mv S.1 (S.2.2.2.2 c)) (p0 p1 p2 : Int32) (v v' : Int32) (x y : StX) (h : Dpower S p0 p1 p2 v x) (h' : Dpower S p0 p1 p2 v' y) : x = y ∧ v = v' := by
  obtain ⟨na, nc, ea, ec, ha, hc, ev, e⟩ := h
  obtain ⟨na', nc', ea', ec', ha', hc', ev', e'⟩ := h'
  obtain rfl := nI_uq ea ea' ha ha'
  obtain rfl := nI_uq ec ec' hc hc'
  exact ⟨e.trans e'.symm, ev.trans ev'.symm⟩
theorem fD_rename {S : StX} (h2 : 2 ≤ S.1) (h7 : S.1 ≤ 7) (hM : ∀ c, c < 6 → Mv S.1 (S.2.2.2.2 c)) (p0 p1 p2 : Int32) (v v' : Int32) (x y : StX) (h : Drename S p0 p1 p2 v x) (h' : Drename S p0 p1 p2 v' y) : x = y ∧ v = v' := by
  obtain ⟨na, nb, nc, ea, eb, ec, ha, hb, hc, ev, e⟩ := h
  obtain ⟨na', nb', nc', ea', eb', ec', ha', hb', hc', ev', e'⟩ := h'
  obtain rfl := nI_uq ea ea' ha ha'
  obtain rfl := nI_uq eb eb' hb hb'
  obtain rfl := nI_uq ec ec' hc hc'
  exact ⟨e.trans e'.symm, ev.trans ev'.symm⟩
theorem fD_match {S : StX} (h2 : 2 ≤ S.1) (h7 : S.1 ≤ 7) (hM : ∀ c, c < 6 → Mv S.1 (S.2.2.2.2 c)) (p0 p1 p2 : Int32) (v v' : Int32) (x y : StX) (h : Dmatch S p0 p1 p2 v x) (h' : Dmatch S p0 p1 p2 v' y) : x = y ∧ v = v' := by
  obtain ⟨a, b, c, e1, e2, e3, h1, h2, h3, e⟩ := h
  obtain ⟨a', b', c', e1', e2', e3', h1', h2', h3', e'⟩ := h'
  obtain rfl := nI_uq e1 e1' h1 h1'
  obtain rfl := nI_uq e2 e2' h2 h2'
  obtain rfl := nI_uq e3 e3' h3 h3'
  rcases e with ⟨z, hz, ev, e⟩ | ⟨hn, ev, e⟩
  · rcases e' with ⟨z', hz', ev', e'⟩ | ⟨hn', ev', e'⟩
    · obtain rfl := LN_same (by omega) h7 hz hz'
      exact ⟨e.trans e'.symm, ev.trans ev'.symm⟩
    · exact absurd hz.2.1 (hn' _)
  · rcases e' with ⟨z', hz', ev', e'⟩ | ⟨hn', ev', e'⟩
    · exact absurd hz'.2.1 (hn _)
    · exact ⟨e.trans e'.symm, ev.trans ev'.symm⟩
theorem fD_nth {S : StX} (h2 : 2 ≤ S.1) (h7 : S.1 ≤ 7) (hM : ∀ c, c < 6 → Mv S.1 (S.2.2.2.2 c)) (p0 p1 p2 p3 : Int32) (v v' : Int32) (x y : StX) (h : Dnth S p0 p1 p2 p3 v x) (h' : Dnth S p0 p1 p2 p3 v' y) : x = y ∧ v = v' := by
  obtain ⟨s, a, b, rk, e1, e2, e3, e4, h1, h2, h3, h4, e⟩ := h
  obtain ⟨s', a', b', rk', e1', e2', e3', e4', h1', h2', h3', h4', e'⟩ := h'
  obtain rfl := nI_uq e1 e1' h1 h1'
  obtain rfl := nI_uq e2 e2' h2 h2'
  obtain rfl := nI_uq e3 e3' h3 h3'
  obtain rfl := nI_uq e4 e4' h4 h4'
  rcases e with ⟨z, hz1, hz2, hz3, ev, e⟩ | ⟨hn, ev, e⟩
  · rcases e' with ⟨z', hz1', hz2', hz3', ev', e'⟩ | ⟨hn', ev', e'⟩
    · obtain rfl := GK_same (by omega) h7 (hM a h2).2.1 hz2 hz2' hz3 hz3'
      exact ⟨e.trans e'.symm, ev.trans ev'.symm⟩
    · exact absurd hz1 hn'
  · rcases e' with ⟨z', hz1', hz2', hz3', ev', e'⟩ | ⟨hn', ev', e'⟩
    · exact absurd hz1' hn
    · exact ⟨e.trans e'.symm, ev.trans ev'.symm⟩
theorem fD_number {S : StX} (h2 : 2 ≤ S.1) (h7 : S.1 ≤ 7) (hM : ∀ c, c < 6 → Mv S.1 (S.2.2.2.2 c)) (p0 : Int32) (v v' : Int32) (x y : StX) (h : Dnumber S p0 v x) (h' : Dnumber S p0 v' y) : x = y ∧ v = v' := by
  obtain ⟨na, ea, ha, ev, e⟩ := h
  obtain ⟨na', ea', ha', ev', e'⟩ := h'
  obtain rfl := nI_uq ea ea' ha ha'
  exact ⟨e.trans e'.symm, ev.trans ev'.symm⟩
theorem fD_goes {S : StX} (h2 : 2 ≤ S.1) (h7 : S.1 ≤ 7) (hM : ∀ c, c < 6 → Mv S.1 (S.2.2.2.2 c)) (p0 p1 : Int32) (v v' : Int32) (x y : StX) (h : Dgoes S p0 p1 v x) (h' : Dgoes S p0 p1 v' y) : x = y ∧ v = v' := by
  obtain ⟨na, nb, ea, eb, ha, hb, ev, e⟩ := h
  obtain ⟨na', nb', ea', eb', ha', hb', ev', e'⟩ := h'
  obtain rfl := nI_uq ea ea' ha ha'
  obtain rfl := nI_uq eb eb' hb hb'
  exact ⟨e.trans e'.symm, ev.trans ev'.symm⟩
theorem fD_order {S : StX} (h2 : 2 ≤ S.1) (h7 : S.1 ≤ 7) (hM : ∀ c, c < 6 → Mv S.1 (S.2.2.2.2 c)) (p0 : Int32) (v v' : Int32) (x y : StX) (h : Dorder S p0 v x) (h' : Dorder S p0 v' y) : x = y ∧ v = v' := by
  obtain ⟨na, ea, ha, ev, e⟩ := h
  obtain ⟨na', ea', ha', ev', e'⟩ := h'
  obtain rfl := nI_uq ea ea' ha ha'
  exact ⟨e.trans e'.symm, ev.trans ev'.symm⟩
theorem fD_sign {S : StX} (h2 : 2 ≤ S.1) (h7 : S.1 ≤ 7) (hM : ∀ c, c < 6 → Mv S.1 (S.2.2.2.2 c)) (p0 : Int32) (v v' : Int32) (x y : StX) (h : Dsign S p0 v x) (h' : Dsign S p0 v' y) : x = y ∧ v = v' := by
  obtain ⟨na, ea, ha, ev, e⟩ := h
  obtain ⟨na', ea', ha', ev', e'⟩ := h'
  obtain rfl := nI_uq ea ea' ha ha'
  exact ⟨e.trans e'.symm, ev.trans ev'.symm⟩
theorem fD_stays {S : StX} (h2 : 2 ≤ S.1) (h7 : S.1 ≤ 7) (hM : ∀ c, c < 6 → Mv S.1 (S.2.2.2.2 c)) (p0 : Int32) (v v' : Int32) (x y : StX) (h : Dstays S p0 v x) (h' : Dstays S p0 v' y) : x = y ∧ v = v' := by
  obtain ⟨na, ea, ha, ev, e⟩ := h
  obtain ⟨na', ea', ha', ev', e'⟩ := h'
  obtain rfl := nI_uq ea ea' ha ha'
  exact ⟨e.trans e'.symm, ev.trans ev'.symm⟩
theorem fD_areAlike {S : StX} (h2 : 2 ≤ S.1) (h7 : S.1 ≤ 7) (hM : ∀ c, c < 6 → Mv S.1 (S.2.2.2.2 c)) (p0 p1 : Int32) (v v' : Int32) (x y : StX) (h : DareAlike S p0 p1 v x) (h' : DareAlike S p0 p1 v' y) : x = y ∧ v = v' := by
  obtain ⟨na, nb, ea, eb, ha, hb, ev, e⟩ := h
  obtain ⟨na', nb', ea', eb', ha', hb', ev', e'⟩ := h'
  obtain rfl := nI_uq ea ea' ha ha'
  obtain rfl := nI_uq eb eb' hb hb'
  exact ⟨e.trans e'.symm, ev.trans ev'.symm⟩
theorem fD_commute {S : StX} (h2 : 2 ≤ S.1) (h7 : S.1 ≤ 7) (hM : ∀ c, c < 6 → Mv S.1 (S.2.2.2.2 c)) (p0 p1 : Int32) (v v' : Int32) (x y : StX) (h : Dcommute S p0 p1 v x) (h' : Dcommute S p0 p1 v' y) : x = y ∧ v = v' := by
  obtain ⟨na, nb, ea, eb, ha, hb, ev, e⟩ := h
  obtain ⟨na', nb', ea', eb', ha', hb', ev', e'⟩ := h'
  obtain rfl := nI_uq ea ea' ha ha'
  obtain rfl := nI_uq eb eb' hb hb'
  exact ⟨e.trans e'.symm, ev.trans ev'.symm⟩
theorem fD_house {S : StX} (h2 : 2 ≤ S.1) (h7 : S.1 ≤ 7) (hM : ∀ c, c < 6 → Mv S.1 (S.2.2.2.2 c)) (p0 : Int32) (v v' : Int32) (x y : StX) (h : Dhouse S p0 v x) (h' : Dhouse S p0 v' y) : x = y ∧ v = v' := by
  obtain ⟨na, ea, ha, ev, e⟩ := h
  obtain ⟨na', ea', ha', ev', e'⟩ := h'
  obtain rfl := nI_uq ea ea' ha ha'
  exact ⟨e.trans e'.symm, ev.trans ev'.symm⟩
theorem bD_areAlike {S : StX} (p0 p1 : Int32) (v : Int32) (x : StX) (h : DareAlike S p0 p1 v x) : v = nI 0 ∨ v = nI 1 := by
  obtain ⟨_, _, _, _, _, _, ev, _⟩ := h
  rw [ev]
  exact on_01 _
theorem bD_commute {S : StX} (p0 p1 : Int32) (v : Int32) (x : StX) (h : Dcommute S p0 p1 v x) : v = nI 0 ∨ v = nI 1 := by
  obtain ⟨_, _, _, _, _, _, ev, _⟩ := h
  rw [ev]
  split; exact Or.inr rfl; exact Or.inl rfl
/-! the reference's rows are the house's moves, also behind an act -/
section RLS
variable {n : Nat} {cm mv mv' : Nat → Nat}
theorem RLx_mW (h : RLx n cm mv) {c : Nat} (hc : c < 6) : mW n mv c = cm c := (h c hc).symm
theorem RL_behind (hn : n ≤ 7) (hP : PM n mv) (h : RLx n cm mv) {a x : Nat} {g : Nat → Nat} (ha : a < 6) (hg : Pn n g) (hx : x = mkM n g) (hA : ACT n mv a (fun p => g (mv (a * 7 + p))) mv') : RLx n (up cm a (c7 (cm a) x)) mv' :=
  RLx_act h hA (by rw [hx, h a ha]; exact c7_mkM hn (hP a ha) hg)
theorem RL_exchange (hn : n ≤ 7) (hP : PM n mv) (h : RLx n cm mv) {a b c : Nat} (ha : a < 6) (hb : b < n) (hc : c < n) (hA : ACT n mv a (fun p => sw2 b c (mv (a * 7 + p))) mv') : RLx n (up cm a (c7 (cm a) (w8 (w8 1754760 b c) c b))) mv' :=
  RL_behind hn hP h ha (sw2_Pn hb hc) (w8_2 hn hb hc) hA
theorem RL_ring (hn : n ≤ 7) (hP : PM n mv) (h : RLx n cm mv) {a b c f : Nat} (ha : a < 6) (hb : b < n) (hc : c < n) (hf : f < n) (h1 : b ≠ c) (h2 : c ≠ f) (h3 : f ≠ b) (hA : ACT n mv a (fun p => sw3 b c f (mv (a * 7 + p))) mv') : RLx n (up cm a (c7 (cm a) (w8 (w8 (w8 1754760 b c) c f) f b))) mv' :=
  RL_behind hn hP h ha (sw3_Pn hb hc hf h1 h2 h3) (w8_3 hn hb hc hf) hA
theorem RL_mirror (hn : n ≤ 7) (hP : PM n mv) (h : RLx n cm mv) {a : Nat} (ha : a < 6) (hA : ACT n mv a (fun p => n - 1 - mv (a * 7 + p)) mv') : RLx n (up cm a (c7 (cm a) (bW (fun p => n - 1 - p) n))) mv' :=
  RL_behind (g := fun p => n - 1 - p) hn hP h ha (Pn_rev (fun _ _ => rfl)) (bW_M hn (Pn_rev (fun _ _ => rfl)) _ (fun _ _ => rfl) (fun p _ => by omega)) hA
theorem RL_turn (hn1 : 2 ≤ n) (hn : n ≤ 7) (hP : PM n mv) (h : RLx n cm mv) {a : Nat} {T : Nat} (ha : a < 6) (hA : ACT n mv a (fun p => (mv (a * 7 + p) + T) % n) mv') : RLx n (up cm a (c7 (cm a) (bW (fun p => (p + T) % n) n))) mv' :=
  RL_behind (g := fun p => (p + T) % n) hn hP h ha (Pn_rot (by omega) (fun _ _ => rfl)) (bW_M hn (Pn_rot (by omega) (fun _ _ => rfl)) _ (fun _ _ => rfl) (fun p _ => by have := Nat.mod_lt (p + T) (show 0 < n by omega); omega)) hA
theorem RL_copy (h : RLx n cm mv) {a b : Nat} (ha : a < 6) (hA : ACT n mv b (fun p => mv (a * 7 + p)) mv') : RLx n (up cm b (cm a)) mv' := RLx_act h hA (h a ha)
theorem RL_then (hn : n ≤ 7) (hP : PM n mv) (h : RLx n cm mv) {a b c : Nat} (ha : a < 6) (hb : b < 6) (hA : ACT n mv c (fun p => mv (b * 7 + mv (a * 7 + p))) mv') : RLx n (up cm c (c7 (cm a) (cm b))) mv' :=
  RLx_act h hA (by rw [h a ha, h b hb]; exact c7_mkM hn (hP a ha) (hP b hb))
theorem RL_undo (hn : n ≤ 7) (hP : PM n mv) (h : RLx n cm mv) {a b : Nat} {f : Nat → Nat} (ha : a < 6) (hf : ∀ p, p < n → f (mv (a * 7 + p)) = p) (hA : ACT n mv b f mv') : RLx n (up cm b (i7 (cm a))) mv' :=
  RLx_act h hA (by rw [h a ha]; exact i7_mkM hn (hP a ha) hf)
theorem RL_power (hn : n ≤ 7) (hP : PM n mv) (h : RLx n cm mv) {a c : Nat} {t : Int32} (ha : a < 6) (h1 : (-1000) ≤ t) (h2 : t ≤ nI 1000) (hA : ACT n mv c (it (fun p => mv (a * 7 + p)) (tP t)) mv') : RLx n (up cm c (pwM t (cm a))) mv' := by
  have hM := RLx_M hn h hP a ha
  have hq := it_Pn (hP a ha) (tP t)
  refine RLx_act h hA ((pwM_Mv hn hM t).ext (mkM_Mv hn hq) (fun p hp => ?_))
  rw [pwM_d hn hM h1 h2 hp, mkM_d hn hq.1 hp]
  have hi : ∀ k, it (d8 (cm a)) k p = it (fun p => mv (a * 7 + p)) k p := by
    intro k
    induction k with
    | zero => rfl
    | succ k ih =>
      show d8 (cm a) (it (d8 (cm a)) k p) = mv (a * 7 + it (fun p => mv (a * 7 + p)) k p)
      rw [ih]
      exact RLx_d hn h hP ha (it_lt (hP a ha) hp k)
  exact hi _
theorem RL_rename (hn : n ≤ 7) (hP : PM n mv) (h : RLx n cm mv) {a b c : Nat} {f : Nat → Nat} (ha : a < 6) (hb : b < 6) (hf : ∀ p, p < n → f (mv (b * 7 + p)) = mv (b * 7 + mv (a * 7 + p))) (hA : ACT n mv c f mv') : RLx n (up cm c (c7 (c7 (i7 (cm b)) (cm a)) (cm b))) mv' := by
  have hMb := RLx_M hn h hP b hb
  have hMa := RLx_M hn h hP a ha
  have hf2 : Pn n f := Pn_inv (hP b hb) (Pn.comp (hP a ha) (hP b hb)) hf
  have i1 := i7_Mv hn hMb
  have i2 := c7_Mv hn i1 hMa
  refine RLx_act h hA ((c7_Mv hn i2 hMb).ext (mkM_Mv hn hf2) (fun v hv => ?_))
  rw [mkM_d hn hf2.1 hv, c7_d (by omega), c7_d (by omega)]
  have hg := i1.2.1.1 v hv
  have e1 : mv (b * 7 + d8 (i7 (cm b)) v) = v := by
    rw [← RLx_d hn h hP hb hg]
    have e := cM_d hn (iM_Mv hn hMb) hMb hv
    rw [iM_c hn hMb, eM_d hn hv, ← i7_M hn hMb] at e
    exact e.symm
  have e2 := hf _ hg
  rw [e1] at e2
  rw [e2, RLx_d hn h hP ha hg, RLx_d hn h hP hb ((hP a ha).1 _ hg)]
theorem RL_lay (h : RLx n cm mv) {a b : Nat} (hA : ACT n mv a (rwF n b) mv') : RLx n (up cm a (XM n b)) mv' := RLx_act h hA rfl
theorem RL_swap (hn : n ≤ 7) (h : RLx n cm mv) {a b : Nat} (ha : a < 6) (hb : b < 6) : RLx n (up (up cm a (cm b)) b (cm a)) (sw mv a b n) := fun c hc => by
  by_cases e : c = b
  · subst e
    rw [up_s, h a ha]
    refine mkM_congr (fun p hp => ?_)
    unfold sw
    by_cases q : a * 7 ≤ c * 7 + p ∧ c * 7 + p < a * 7 + n
    · have : a = c := by omega
      subst this
      rw [if_pos q]
      congr 1
      omega
    · rw [if_neg q, if_pos (by omega)]
      congr 1
      omega
  · rw [up_n e]
    by_cases e2 : c = a
    · subst e2
      rw [up_s, h b hb]
      refine mkM_congr (fun p hp => ?_)
      unfold sw
      rw [if_pos (by omega)]
      congr 1
      omega
    · rw [up_n e2, h c hc]
      refine mkM_congr (fun p hp => ?_)
      unfold sw
      rw [if_neg (by omega), if_neg (by omega)]
theorem RL_points {k : Nat} (hk : k ≤ 7) (h : ∀ c p, c < 6 → p < k → mv' (c * 7 + p) = p) : RLx k (fun _ => 1754760) mv' := fun c hc => by
  show 1754760 = _
  rw [e7_M hk]
  exact mkM_congr (fun p hp => (h c p hc hp).symm)
theorem RL_nth (h : RLx n cm mv) {c y : Nat} (hn : n ≤ 7) (hy : Mv n y) (hA : ACT n mv c (d8 y) mv') : RLx n (up cm c y) mv' :=
  RLx_act h hA (hy.ext (mkM_Mv hn hy.2.1) (fun p hp => by rw [mkM_d hn hy.2.1.1 hp]))
theorem RN_RNr (hn : n ≤ 7) (hP : PM n mv) (h : RLx n cm mv) {a b : Nat} (ha : a < 6) (hb : b < 6) {f : Nat → Nat} (hf : Pn n f) : RN n (cm a) (cm b) f ↔ RNr n mv a b f := by
  refine ⟨fun q p hp => ?_, fun q => ⟨hf, fun p hp => ?_⟩⟩
  · rw [← RLx_d hn h hP ha hp, ← RLx_d hn h hP hb (hf.1 p hp)]
    exact q.2 p hp
  · rw [RLx_d hn h hP ha hp, RLx_d hn h hP hb (hf.1 p hp)]
    exact q p hp
theorem RNr_num (h1 : 1 ≤ n) (hP : PM n mv) {a b : Nat} (ha : a < 6) {w : Nat → Nat} (hw : Pn n w) (h : RNr n mv a b w) : RNr n mv a b (rwF n (nuF w 0 n n)) := fun p hp => by
  rw [rw_nu h1 hw _ ((hP a ha).1 p hp), rw_nu h1 hw p hp]
  exact h p hp
theorem LN_ref (h1 : 1 ≤ n) (hn : n ≤ 7) (hP : PM n mv) (h : RLx n cm mv) {a b k : Nat} (ha : a < 6) (hb : b < 6) (hk : k < fc n) (hq : RNr n mv a b (rwF n k)) (hl : ∀ j, j < k → ¬ RNr n mv a b (rwF n j)) : LN n (cm a) (cm b) (XM n k) := by
  have hX := XM_Mv h1 hn k
  have hd : RNr n mv a b (d8 (XM n k)) := fun p hp => by
    rw [XM_d h1 hn ((hP a ha).1 p hp), XM_d h1 hn hp]
    exact hq p hp
  refine ⟨hX, (RN_RNr hn hP h ha hb hX.2.1).mpr hd, fun w hw => ?_⟩
  rw [nu_XM h1 hn hk]
  have h3 := RNr_num h1 hP ha hw.1 ((RN_RNr hn hP h ha hb hw.1).mp hw)
  exact Nat.not_lt.mp (fun e => hl _ e h3)
theorem LN_none (h1 : 1 ≤ n) (hn : n ≤ 7) (hP : PM n mv) (h : RLx n cm mv) {a b : Nat} (ha : a < 6) (hb : b < 6) (hl : ∀ k, k < fc n → ¬ RNr n mv a b (rwF n k)) (w : Nat → Nat) : ¬ RN n (cm a) (cm b) w := fun hw =>
  hl _ (nuF_b w 0 n) (RNr_num h1 hP ha hw.1 ((RN_RNr hn hP h ha hb hw.1).mp hw))
theorem gS_RL (h : RLx n cm mv) (s x : Nat) : gS (mW n mv) s 6 x ↔ gS cm s 6 x := by
  refine ⟨fun ⟨c, h1, h2, h3⟩ => ⟨c, h1, h2, h3.trans (RLx_mW h h1)⟩, fun ⟨c, h1, h2, h3⟩ => ⟨c, h1, h2, h3.trans (RLx_mW h h1).symm⟩⟩
theorem Gg_RL (h : RLx n cm mv) (s x : Nat) : Gg n (gS (mW n mv) s 6) x ↔ Gg n (gS cm s 6) x :=
  ⟨Gg_mono (fun y => (gS_RL h s y).mp), Gg_mono (fun y => (gS_RL h s y).mpr)⟩
theorem cd_RL (h1 : 1 ≤ n) (hn : n ≤ 7) (h : RLx n cm mv) (s : Nat) : cd n (Gg n (gS (mW n mv) s 6)) = cd n (Gg n (gS cm s 6)) := cd_iff h1 hn (fun x _ => Gg_RL h s x)
theorem GK_RL (h1 : 1 ≤ n) (hn : n ≤ 7) (hP : PM n mv) (h : RLx n cm mv) {s a rk y : Nat} (ha : a < 6) (hG : GK n (Gg n (gS (mW n mv) s 6)) (fun j => mv (a * 7 + j)) rk y) : GK n (Gg n (gS cm s 6)) (d8 (cm a)) rk y :=
  GK_iff h1 hn (fun x _ => Gg_RL h s x) (GK_rd h1 hn (fun j hj => (RLx_d hn h hP ha hj).symm) hG)
theorem KX_keep {kn kn' en : Int32} {bt : List Int32} (h : KX n mv kn bt en) (e : kn' = kn) : KX n mv kn' bt en := by
  rw [e]; exact h
end RLS
/-! answers of acts, on both sides the same -/
section VALS
variable {n : Nat} {cm mv mv' : Nat → Nat}
theorem RL_row {c X : Nat} (hL : RLx n (up cm c X) mv') (hc : c < 6) : X = mkM n (fun p => mv' (c * 7 + p)) := by
  have h := hL c hc
  rw [up_s] at h
  exact h
theorem AV {c X : Nat} {F : Nat → Nat} (hn : n ≤ 7) (hP : PM n mv') (hL : RLx n (up cm c X) mv') (hA : ACT n mv c F mv') (hc : c < 6) : nu n X = nuF F 0 n n := by
  rw [RL_row hL hc]
  exact nu_congr (fun p hp => (mkM_d hn (hP c hc).1 hp).trans (hA.1 p hp))
theorem SV {c X : Nat} (hn : n ≤ 7) (hP : PM n mv') (hL : RLx n (up cm c X) mv') (hc : c < 6) : sg n X = sgv (iv mv' (c * 7) n) := by
  rw [RL_row hL hc]
  exact congrArg sgv (iv_congr (f := mv') (fr := c * 7) (m := n) (fun p hp => (mkM_d hn (hP c hc).1 hp).symm) n (Nat.le_refl n)).symm
theorem CV0 (hn : n ≤ 7) (hP : PM n mv) (hL : RLx n cm mv) {a b : Nat} (ha : a < 6) (hb : b < 6) : (∀ p, p < n → mv (a * 7 + p) = mv (b * 7 + p)) ↔ cm a = cm b := by
  refine ⟨fun h => ?_, fun e p hp => ?_⟩
  · rw [hL a ha, hL b hb]
    exact mkM_congr h
  · rw [← RLx_d hn hL hP ha hp, ← RLx_d hn hL hP hb hp, e]
theorem CVa (hn : n ≤ 7) (hP : PM n mv) (hL : RLx n cm mv) {a b : Nat} {v : Int32} (ha : a < 6) (hb : b < 6) (h : (v = nI 0 ∧ ∀ p, p < n → mv (a * 7 + p) = mv (b * 7 + p)) ∨ (v = nI 1 ∧ ¬ ∀ p, p < n → mv (a * 7 + p) = mv (b * 7 + p))) : v = (if cm a = cm b then nI 0 else nI 1) := by
  rcases h with ⟨rfl, h⟩ | ⟨rfl, h⟩
  · rw [if_pos ((CV0 hn hP hL ha hb).mp h)]
  · rw [if_neg (fun e => h ((CV0 hn hP hL ha hb).mpr e))]
theorem CVb (hn : n ≤ 7) (hP : PM n mv) (hL : RLx n cm mv) {a b : Nat} {v : Int32} (ha : a < 6) (hb : b < 6) (h : (v = nI 0 ∧ ∀ p, p < n → mv (a * 7 + p) = mv (b * 7 + p)) ∨ (v = nI 1 ∧ ¬ ∀ p, p < n → mv (a * 7 + p) = mv (b * 7 + p))) : v = (if cm b = cm a then nI 0 else nI 1) := by
  rcases h with ⟨rfl, h⟩ | ⟨rfl, h⟩
  · rw [if_pos ((CV0 hn hP hL ha hb).mp h).symm]
  · rw [if_neg (fun e => h ((CV0 hn hP hL ha hb).mpr e.symm))]
/-! what is asked of moves -/
theorem Mv.seven {x : Nat} (hn : n ≤ 7) (h : Mv n x) : Mv 7 x := ⟨h.1, h.P7 hn, fun p h1 h2 => by omega⟩
theorem QO (hn : n ≤ 7) (hP : PM n mv) (hL : RLx n cm mv) {a : Nat} (ha : a < 6) : oC (cm a) = olc (lF (fun p => mv (a * 7 + p)) n) n := by
  have hM := RLx_M hn hL hP a ha
  refine order_is hn hM (fun p hp => ?_)
  rw [lF_ln hn hM (fun q hq => (RLx_d hn hL hP ha hq).symm) hp]
  exact (lF_ln (Nat.le_refl 7) (hM.seven hn) (fun q _ => rfl) (show p < 7 by omega)).symm
theorem QS (hn : n ≤ 7) (hP : PM n mv) (hL : RLx n cm mv) {a : Nat} (ha : a < 6) : sg n (cm a) = sgv (iv mv (a * 7) n) :=
  congrArg sgv (iv_congr (f := mv) (fr := a * 7) (m := n) (fun p hp => (RLx_d hn hL hP ha hp).symm) n (Nat.le_refl n)).symm
theorem QA (hn : n ≤ 7) (hP : PM n mv) (hL : RLx n cm mv) {a b : Nat} {v : Int32} (ha : a < 6) (hb : b < 6)
    (h : (v = nI 1 ∧ ∀ L, 1 ≤ L → L ≤ n → lo (fun p => mv (a * 7 + p)) n L n / L = lo (fun p => mv (b * 7 + p)) n L n / L) ∨ (v = nI 0 ∧ ¬ ∀ L, 1 ≤ L → L ≤ n → lo (fun p => mv (a * 7 + p)) n L n / L = lo (fun p => mv (b * 7 + p)) n L n / L)) : v = nI (on (LK (cm a) (cm b))) := by
  have hM := RLx_M hn hL hP
  have hk := LK_lo hn (hM a ha) (hM b hb) (fun q hq => (RLx_d hn hL hP ha hq).symm) (fun q hq => (RLx_d hn hL hP hb hq).symm)
  rcases h with ⟨rfl, h⟩ | ⟨rfl, h⟩
  · rw [on_t (hk.mpr h)]
  · rw [on_f (fun e => h (hk.mp e))]
theorem QC (hn : n ≤ 7) (hP : PM n mv) (hL : RLx n cm mv) {a b : Nat} {v : Int32} (ha : a < 6) (hb : b < 6)
    (h : (v = nI 1 ∧ ∀ p, p < n → mv (b * 7 + mv (a * 7 + p)) = mv (a * 7 + mv (b * 7 + p))) ∨ (v = nI 0 ∧ ¬ ∀ p, p < n → mv (b * 7 + mv (a * 7 + p)) = mv (a * 7 + mv (b * 7 + p)))) : v = (if c7 (cm a) (cm b) = c7 (cm b) (cm a) then nI 1 else nI 0) := by
  have hM := RLx_M hn hL hP
  have hd : ∀ {x y p : Nat}, x < 6 → y < 6 → p < n → d8 (c7 (cm x) (cm y)) p = mv (y * 7 + mv (x * 7 + p)) := fun {x y p} hx hy hp => by
    rw [c7_d (by omega), RLx_d hn hL hP hx hp, RLx_d hn hL hP hy ((hP x hx).1 p hp)]
  have hk : (∀ p, p < n → mv (b * 7 + mv (a * 7 + p)) = mv (a * 7 + mv (b * 7 + p))) ↔ c7 (cm a) (cm b) = c7 (cm b) (cm a) := by
    refine ⟨fun h => (c7_Mv hn (hM a ha) (hM b hb)).ext (c7_Mv hn (hM b hb) (hM a ha)) (fun p hp => ?_), fun e p hp => ?_⟩
    · rw [hd ha hb hp, hd hb ha hp]; exact h p hp
    · rw [← hd ha hb hp, ← hd hb ha hp, e]
  rcases h with ⟨rfl, h⟩ | ⟨rfl, h⟩
  · rw [if_pos (hk.mp h)]
  · rw [if_neg (fun e => h (hk.mpr e))]
theorem hs_v {a : Nat} {x y z : Int32} (h : a < 3) : (if nI a = nI 0 then x else if nI a = nI 1 then y else z) = (if a = 0 then x else if a = 1 then y else z) := by
  match a, h with
  | 0, _ => rfl
  | 1, _ => rfl
  | 2, _ => rfl
end VALS
/-! what is asked of groups: the reference's group is the house's -/
section GRPS
variable {n : Nat} {cm mv : Nat → Nat}
theorem QG_size (hn1 : 2 ≤ n) (hn : n ≤ 7) (hL : RLx n cm mv) {s : Nat} {v : Int32} (hv : v = nI (cd n (Gg n (gS (mW n mv) s 6)))) : v = nI (cd n (Gg n (gS cm s 6))) :=
  hv.trans (congrArg nI (cd_RL (by omega) hn hL s))
theorem QG_reach (hn1 : 2 ≤ n) (hn : n ≤ 7) (hP : PM n mv) (hL : RLx n cm mv) {s b c : Nat} {v : Int32} (hb : b < 6) (hc : c < n) (hv : v = nI (sBv (RP n (Gg n (gS (mW n mv) s 6)) (fun j => mv (b * 7 + j)) c) n)) : v = nI (sBv (RP n (Gg n (gS cm s 6)) (d8 (cm b)) c) n) := by
  have e : ∀ j, j < n → mv (b * 7 + j) = d8 (cm b) j := fun j hj => (RLx_d hn hL hP hb hj).symm
  refine hv.trans (congrArg nI (sBv_congr (fun w _ => ⟨fun ⟨x, h1, h2, h3, h4⟩ => ⟨x, h1, (Gg_RL hL s x).mp h2, fun j hj => ?_, ?_⟩, fun ⟨x, h1, h2, h3, h4⟩ => ⟨x, h1, (Gg_RL hL s x).mpr h2, fun j hj => ?_, ?_⟩⟩)))
  · have this : d8 x (mv (b * 7 + j)) = mv (b * 7 + j) := h3 j hj
    rw [e j (by omega)] at this
    exact this
  · rw [← e c hc]; exact h4
  · show d8 x (mv (b * 7 + j)) = mv (b * 7 + j)
    rw [e j (by omega)]; exact h3 j hj
  · show d8 x (mv (b * 7 + c)) = w
    rw [e c hc]; exact h4
theorem QG_all (hL : RLx n cm mv) {s e : Nat} : (∀ c, c < 6 → s.testBit c = true → Gg n (gS (mW n mv) e 6) (mW n mv c)) ↔ (∀ c, c < 6 → s.testBit c = true → Gg n (gS cm e 6) (cm c)) :=
  ⟨fun h c hc hs => by rw [← RLx_mW hL hc]; exact (Gg_RL hL e _).mp (h c hc hs), fun h c hc hs => by rw [RLx_mW hL hc]; exact (Gg_RL hL e _).mpr (h c hc hs)⟩
theorem QG_part (hL : RLx n cm mv) {s e : Nat} {v : Int32} (hv : (v = nI 0 ∧ ¬ ∀ c, c < 6 → s.testBit c = true → Gg n (gS (mW n mv) e 6) (mW n mv c)) ∨ (v = nI 1 ∧ ∀ c, c < 6 → s.testBit c = true → Gg n (gS (mW n mv) e 6) (mW n mv c))) : v = nI (on (∀ c, c < 6 → s.testBit c = true → Gg n (gS cm e 6) (cm c))) := by
  rcases hv with ⟨rfl, h⟩ | ⟨rfl, h⟩
  · rw [on_f (fun q => h ((QG_all hL).mpr q))]
  · rw [on_t ((QG_all hL).mp h)]
theorem QG_shares (hn1 : 2 ≤ n) (hn : n ≤ 7) (hL : RLx n cm mv) {s e : Nat} {v : Int32} (hv : (v = (-9) ∧ ¬ ∀ c, c < 6 → s.testBit c = true → Gg n (gS (mW n mv) e 6) (mW n mv c)) ∨ ((∀ c, c < 6 → s.testBit c = true → Gg n (gS (mW n mv) e 6) (mW n mv c)) ∧ v = nI (cd n (Gg n (gS (mW n mv) e 6)) / cd n (Gg n (gS (mW n mv) s 6))))) :
    v = ppI (∀ c, c < 6 → s.testBit c = true → Gg n (gS cm e 6) (cm c)) (nI (cd n (Gg n (gS cm e 6)) / cd n (Gg n (gS cm s 6)))) (-9) := by
  rcases hv with ⟨hv, h⟩ | ⟨h, hv⟩
  · rw [ppI_f (fun q => h ((QG_all hL).mpr q))]; exact hv
  · rw [ppI_t ((QG_all hL).mp h), ← cd_RL (by omega) hn hL e, ← cd_RL (by omega) hn hL s]; exact hv
theorem QG_cd (hn1 : 2 ≤ n) (hn : n ≤ 7) (hL : RLx n cm mv) {s : Nat} {P : Nat → Prop} : cd n (fun x => Gg n (gS (mW n mv) s 6) x ∧ P x) = cd n (fun x => Gg n (gS cm s 6) x ∧ P x) :=
  cd_iff (by omega) hn (fun x _ => and_congr (Gg_RL hL s x) Iff.rfl)
theorem QG_rank (hn1 : 2 ≤ n) (hn : n ≤ 7) (hP : PM n mv) (hL : RLx n cm mv) {s b c : Nat} {v : Int32} (hb : b < 6) (hc : c < 6)
    (hv : (v = (-1) ∧ ¬ Gg n (gS (mW n mv) s 6) (mW n mv c)) ∨ (Gg n (gS (mW n mv) s 6) (mW n mv c) ∧ v = nI (cd n (fun x => Gg n (gS (mW n mv) s 6) x ∧ LSr n (fun j => mv (b * 7 + j)) (d8 x) (d8 (mW n mv c)))))) :
    v = rkI (Gg n (gS cm s 6) (cm c)) (rkS n (Gg n (gS cm s 6)) (d8 (cm b)) (cm c) n) := by
  have e : ∀ j, j < n → mv (b * 7 + j) = d8 (cm b) j := fun j hj => (RLx_d hn hL hP hb hj).symm
  have hcd : cd n (fun x => Gg n (gS (mW n mv) s 6) x ∧ LSr n (fun j => mv (b * 7 + j)) (d8 x) (d8 (mW n mv c))) = rkS n (Gg n (gS cm s 6)) (d8 (cm b)) (cm c) n := by
    rw [rkS_is (by omega) hn, RLx_mW hL hc]
    refine cd_iff (by omega) hn (fun x _ => and_congr (Gg_RL hL s x) ⟨fun ⟨l, hl, a, q⟩ => ⟨l, hl, fun j hj => ?_, ?_⟩, fun ⟨l, hl, a, q⟩ => ⟨l, hl, fun j hj => ?_, ?_⟩⟩)
    · have this : d8 x (mv (b * 7 + j)) = d8 (cm c) (mv (b * 7 + j)) := a j hj
      rw [e j (by omega)] at this
      exact this
    · have q : d8 x (mv (b * 7 + l)) < d8 (cm c) (mv (b * 7 + l)) := q
      rw [e l hl] at q
      exact q
    · show d8 x (mv (b * 7 + j)) = d8 (cm c) (mv (b * 7 + j))
      rw [e j (by omega)]; exact a j hj
    · show d8 x (mv (b * 7 + l)) < d8 (cm c) (mv (b * 7 + l))
      rw [e l hl]; exact q
  have hg : Gg n (gS (mW n mv) s 6) (mW n mv c) ↔ Gg n (gS cm s 6) (cm c) := by
    rw [RLx_mW hL hc]
    exact Gg_RL hL s _
  unfold rkI
  rcases hv with ⟨hv, h⟩ | ⟨h, hv⟩
  · exact hv.trans (@if_neg _ (Classical.propDecidable _) (fun q => h (hg.mpr q)) _ _ _).symm
  · rw [hcd] at hv
    exact hv.trans (@if_pos _ (Classical.propDecidable _) (hg.mp h) _ _ _).symm
theorem QG_isIn (hL : RLx n cm mv) {s b : Nat} {v : Int32} (hb : b < 6) (hv : (v = nI 0 ∧ ¬ Gg n (gS (mW n mv) s 6) (mW n mv b)) ∨ (v = nI 1 ∧ Gg n (gS (mW n mv) s 6) (mW n mv b))) : v = nI (on (Gg n (gS cm s 6) (cm b))) := by
  rw [RLx_mW hL hb] at hv
  rcases hv with ⟨rfl, h⟩ | ⟨rfl, h⟩
  · rw [on_f (fun q => h ((Gg_RL hL s _).mpr q))]
  · rw [on_t ((Gg_RL hL s _).mp h)]
theorem lsK_iff {P Q : Nat → Prop} : ∀ k i, (∀ j, P j ↔ Q j) → lsK P k i = lsK Q k i := fun k i h => by
  rw [show P = Q from funext (fun j => propext (h j))]
theorem QG_share (hn1 : 2 ≤ n) (hn : n ≤ 7) (hP : PM n mv) (hL : RLx n cm mv) {s b : Nat} {v : Int32} (hb : b < 6) (hv : v = nI (lsN n (Gg n (gS (mW n mv) s 6)) (mW n mv b))) : v = nI (lsN n (Gg n (gS cm s 6)) (cm b)) := by
  refine hv.trans (congrArg nI ?_)
  rw [RLx_mW hL hb]
  unfold lsN
  exact lsK_iff _ _ (fun k => ⟨fun ⟨x, a, q, e⟩ => ⟨x, a, (Gg_RL hL s x).mp q, e⟩, fun ⟨x, a, q, e⟩ => ⟨x, a, (Gg_RL hL s x).mpr q, e⟩⟩)
end GRPS
/-! all cells of the house, out of their shapes and back -/
theorem AU_of {S : StX} {w : List jC} (h : LCx S w) : AU w := by
  obtain ⟨_, _, _, _, a6⟩ := h
  obtain ⟨_, c2, a, f, b, g, rfl, b1, b2⟩ := a6 2 _ rfl
  obtain ⟨_, c3, x3, rfl, l3⟩ := a6 3 _ rfl
  obtain ⟨_, c4, x4, rfl, l4⟩ := a6 4 _ rfl
  obtain ⟨_, c5, x5, rfl, l5⟩ := a6 5 _ rfl
  obtain ⟨_, c6, x6, rfl, l6⟩ := a6 6 _ rfl
  obtain ⟨_, c7, x7, rfl, l7⟩ := a6 7 _ rfl
  obtain ⟨_, c8, wn, rfl, b3⟩ := a6 8 _ rfl
  obtain ⟨_, c9, mn, rfl, b4⟩ := a6 9 _ rfl
  obtain ⟨_, c10, x10, rfl, l10⟩ := a6 10 _ rfl
  obtain ⟨_, c11, x11, rfl, l11⟩ := a6 11 _ rfl
  obtain ⟨_, c12, tn, rfl, b5⟩ := a6 12 _ rfl
  obtain ⟨_, c13, x13, rfl, l13⟩ := a6 13 _ rfl
  obtain ⟨_, c14, pc, qn, rfl, b6, b7, b8⟩ := a6 14 _ rfl
  obtain ⟨_, c15, qm, rfl, b9⟩ := a6 15 _ rfl
  obtain ⟨_, c16, x16, rfl, l16⟩ := a6 16 _ rfl
  obtain ⟨_, c17, x17, rfl, l17⟩ := a6 17 _ rfl
  obtain ⟨_, c18, x18, rfl, l18⟩ := a6 18 _ rfl
  rw [aF_of l3] at c3
  rw [aF_of l4] at c4
  rw [aF_of l5] at c5
  rw [aF_of l6] at c6
  rw [aF_of l7] at c7
  rw [aF_of l10] at c10
  rw [aF_of l13] at c13
  rw [aF_of l16] at c16
  rw [aF_of l18] at c18
  rw [nI_self b, nI_self g] at c2
  exact ⟨_, _, _, _, _, _, _, _, _, _, _, _, _, _, _, _, _, _, _, _, _, ⟨c2, c3, c4, c5, c6, c7⟩, ⟨c8, c9, c10, c11, l11⟩, ⟨c12, c13⟩, ⟨c14, c15, c16, c17, c18, l17⟩, b1, b2, b4, b3, b5, ⟨b6, b7⟩, b8, b9⟩
theorem LI.all {o : Nat} {S S2 S' : StX} {w w' : List jC} (h : LI o S S' w) (hH : HX S2.1 S2.2.1 S2.2.2.1 S2.2.2.2.1 S2.2.2.2.2 w') (hF : F19 w w') (hA : AU w') (h1 : 2 ≤ S2.1) (h2 : S2.1 ≤ 7) (hM : ∀ c, c < 6 → Mv S2.1 (S2.2.2.2.2 c)) : LI o S2 S' w' := by
  obtain ⟨t, ⟨_, _, _, _, a6⟩, a2, a3⟩ := h
  obtain ⟨st, sv, rc, sz, kw, ns, tk, ro, nn, ml, tg, mn, wn, po, tn, ql, qt, pw, qm, pc, qn, ⟨c2, c3, c4, c5, c6, c7⟩, ⟨c8, c9, c10, c11, l11⟩, ⟨c12, c13⟩, ⟨c14, c15, c16, c17, c18, l17⟩, b1, b2, b4, b3, b5, ⟨b6, b7⟩, b8, b9⟩ := hA
  refine ⟨t, ⟨h1, h2, hM, hH, fun i p hp => ?_⟩, a2.fr hF, a3.fr hF⟩
  match i, hp with
  | 0, hp => cases hp; exact ⟨_, hH.1, rfl⟩
  | 1, hp => cases hp; exact ⟨_, hH.2, tA_aF⟩
  | 2, hp => cases hp; exact ⟨_, c2, ns, nn, nI tk, nI ro, rfl, b1, b2⟩
  | 3, hp => cases hp; exact ⟨_, c3, tA_aF⟩
  | 4, hp => cases hp; exact ⟨_, c4, tA_aF⟩
  | 5, hp => cases hp; exact ⟨_, c5, tA_aF⟩
  | 6, hp => cases hp; exact ⟨_, c6, tA_aF⟩
  | 7, hp => cases hp; exact ⟨_, c7, tA_aF⟩
  | 8, hp => cases hp; exact ⟨_, c8, wn, rfl, b3⟩
  | 9, hp => cases hp; exact ⟨_, c9, mn, rfl, b4⟩
  | 10, hp => cases hp; exact ⟨_, c10, tA_aF⟩
  | 11, hp => cases hp; exact ⟨_, c11, ml, rfl, l11⟩
  | 12, hp => cases hp; exact ⟨_, c12, tn, rfl, b5⟩
  | 13, hp => cases hp; exact ⟨_, c13, tA_aF⟩
  | 14, hp => cases hp; exact ⟨_, c14, pc, qn, rfl, b6, b7, b8⟩
  | 15, hp => cases hp; exact ⟨_, c15, qm, rfl, b9⟩
  | 16, hp => cases hp; exact ⟨_, c16, tA_aF⟩
  | 17, hp => cases hp; exact ⟨_, c17, ql, rfl, l17⟩
  | 18, hp => cases hp; exact ⟨_, c18, tA_aF⟩
  | i + 19, hp =>
    obtain ⟨c, hc, h2⟩ := a6 (i + 19) p hp
    exact ⟨c, (hF.2 (i + 19) (by omega) (gl hc)).trans hc, h2⟩
end
