/-! what is so between two calls, exactly; acts as relations -/
/-- the number of points, done, refused, knocks, the moves -/
abbrev StX : Type := Nat × Int32 × Int32 × Int32 × (Nat → Nat)
def LCx (S : StX) (w : List jC) : Prop := 2 ≤ S.1 ∧ S.1 ≤ 7 ∧ (∀ c, c < 6 → Mv S.1 (S.2.2.2.2 c)) ∧ HX S.1 S.2.1 S.2.2.1 S.2.2.2.1 S.2.2.2.2 w ∧ SH (rX S.1 S.2.1 S.2.2.1 S.2.2.2.1) w
def LRx (o : Nat) (S : StX) (t : Int32) (w : List jC) : Prop := ∃ (mv rw nx : Nat → Nat) (b : Nat) (bt : List Int32) (kn en : Int32), RM S.1 mv rw nx b bt kn en S.2.1 S.2.2.1 S.2.2.2.1 t w ∧ 2 ≤ S.1 ∧ S.1 ≤ 7 ∧ (∀ i, mv i < 7) ∧ (∀ i, rw i < 7) ∧ (∀ i, nx i < 7) ∧ PM S.1 mv ∧ KX S.1 mv kn bt ∧ RLx S.1 S.2.2.2.2 mv ∧ b ≠ o
def LO (o : Nat) (w : List jC) : Prop := 24 ≤ o ∧ ∃ fs : List Value, w[o]? = some (.inr (8, fs)) ∧ fs.length = 2
def LIx (o : Nat) (S S' : StX) (t : Int32) (w : List jC) : Prop := LCx S w ∧ LRx o S' t w ∧ LO o w
def LI (o : Nat) (S S' : StX) (w : List jC) : Prop := ∃ t, LIx o S S' t w
/-- what lies behind the house is kept -/
def F19 (w w' : List jC) : Prop := w.length ≤ w'.length ∧ ∀ i, 19 ≤ i → i < w.length → w'[i]? = w[i]?
theorem F19.of {w w' : List jC} (h : Fr kX w w') : F19 w w' := ⟨h.1, fun i hi hl => h.2 i (Or.inr hi) hl⟩
theorem F19.H {w w' : List jC} (h : FH w w') : F19 w w' := ⟨h.1, fun i hi hl => h.2 i (by omega) hl⟩
theorem F19.N {w w' : List jC} (h : FN w w') : F19 w w' := ⟨h.1, fun i hi hl => h.2 i (by omega) hl⟩
theorem F19.psh {w : List jC} {cs : List jC} : F19 w (w ++ cs) := ⟨by rw [List.length_append]; omega, fun _ _ hl => List.getElem?_append_left hl⟩
theorem LRx.fr {o : Nat} {S : StX} {t : Int32} {w w' : List jC} (h : LRx o S t w) (hF : F19 w w') : LRx o S t w' := by
  obtain ⟨mv, rw, nx, b, bt, kn, en, ⟨h1, h2, h3, h4, h5, h6, h7⟩, r⟩ := h
  exact ⟨mv, rw, nx, b, bt, kn, en, ⟨(hF.2 19 (by decide) (gl h1)).trans h1, (hF.2 20 (by decide) (gl h2)).trans h2, (hF.2 21 (by decide) (gl h3)).trans h3, (hF.2 22 (by decide) (gl h4)).trans h4, (hF.2 b (by omega) (gl h5)).trans h5, h6, h7⟩, r⟩
theorem LO.fr {o : Nat} {w w' : List jC} (h : LO o w) (hF : F19 w w') : LO o w' := by
  obtain ⟨h0, fs, h1, h2⟩ := h
  exact ⟨h0, fs, (hF.2 o (by omega) (gl h1)).trans h1, h2⟩
theorem LIx.c0 {o : Nat} {S S' : StX} {t : Int32} {w : List jC} (h : LIx o S S' t w) : ∃ fs : List Value, w[0]? = some (.inr (7, fs)) := ⟨_, h.1.2.2.2.1.1⟩
theorem LIx.c19 {o : Nat} {S S' : StX} {t : Int32} {w : List jC} (h : LIx o S S' t w) : ∃ fs : List Value, w[19]? = some (.inr (9, fs)) := by
  obtain ⟨_, ⟨mv, rw, nx, b, bt, kn, en, hR, _⟩, _⟩ := h
  exact ⟨_, hR.1⟩
theorem LI.c0 {o : Nat} {S S' : StX} {w : List jC} (h : LI o S S' w) : ∃ fs : List Value, w[0]? = some (.inr (7, fs)) := by
  obtain ⟨t, h⟩ := h
  exact h.c0
theorem LI.c19 {o : Nat} {S S' : StX} {w : List jC} (h : LI o S S' w) : ∃ fs : List Value, w[19]? = some (.inr (9, fs)) := by
  obtain ⟨t, h⟩ := h
  exact h.c19
/-! the class's side -/
theorem LCx.q {S : StX} {w w' : List jC} (h : LCx S w) (hS : SH (rX S.1 S.2.1 S.2.2.1 S.2.2.2.1) w') (hF : Fr kX w w') : LCx S w' := by
  obtain ⟨a1, a2, a3, ⟨a4, a5⟩, a6⟩ := h
  obtain ⟨_, hc, rfl⟩ := hS 0 _ rfl
  exact ⟨a1, a2, a3, ⟨hc, (hF.2 1 (Or.inl rfl) (gl a5)).trans a5⟩, hS⟩
theorem LI.q {o : Nat} {S S' : StX} {w w' : List jC} (h : LI o S S' w) (hS : SH (rX S.1 S.2.1 S.2.2.1 S.2.2.2.1) w') (hF : Fr kX w w') : LI o S S' w' := by
  obtain ⟨t, h1, h2, h3⟩ := h
  exact ⟨t, h1.q hS hF, h2.fr (F19.of hF), h3.fr (F19.of hF)⟩
theorem LCx.psh {S : StX} {w : List jC} {cs : List jC} (h : LCx S w) : LCx S (w ++ cs) := by
  obtain ⟨a1, a2, a3, ⟨a4, a5⟩, a6⟩ := h
  exact ⟨a1, a2, a3, ⟨(List.getElem?_append_left (gl a4)).trans a4, (List.getElem?_append_left (gl a5)).trans a5⟩, a6.push⟩
theorem LI.psh {o : Nat} {S S' : StX} {w w' : List jC} (h : LI o S S' w) (hw : w' = w ++ [.inr (99, [])]) : LI o S S' w' := by
  subst hw
  obtain ⟨t, h1, h2, h3⟩ := h
  exact ⟨t, h1.psh, h2.fr F19.psh, h3.fr F19.psh⟩
theorem LI.eq {o : Nat} {S S' : StX} {w w' : List jC} (h : LI o S S' w) (hw : w' = w) : LI o S S' w' := by
  obtain rfl := hw.symm
  exact h
/-- the moves' cell -/
theorem tA_aF {k : Nat} {f : Nat → Nat} : tA k (aF k f) := ⟨_, rfl, by rw [List.length_map, List.length_range]⟩
theorem LCx.act {S S2 : StX} {w w' : List jC} (h : LCx S w) (hH : HX S2.1 S2.2.1 S2.2.2.1 S2.2.2.2.1 S2.2.2.2.2 w') (hF : FH w w') (h1 : 2 ≤ S2.1) (h2 : S2.1 ≤ 7) (hM : ∀ c, c < 6 → Mv S2.1 (S2.2.2.2.2 c)) : LCx S2 w' := by
  obtain ⟨_, _, _, _, a6⟩ := h
  refine ⟨h1, h2, hM, hH, fun i p hp => ?_⟩
  match i, hp with
  | 0, hp =>
    cases hp
    exact ⟨_, hH.1, rfl⟩
  | 1, hp =>
    cases hp
    exact ⟨_, hH.2, tA_aF⟩
  | i + 2, hp =>
    obtain ⟨c, hc, h2⟩ := a6 (i + 2) p hp
    exact ⟨c, (hF.2 (i + 2) (by omega) (gl hc)).trans hc, h2⟩
theorem LI.act {o : Nat} {S S2 S' : StX} {w w' : List jC} (h : LI o S S' w) (hH : HX S2.1 S2.2.1 S2.2.2.1 S2.2.2.2.1 S2.2.2.2.2 w') (hF : FH w w') (h1 : 2 ≤ S2.1) (h2 : S2.1 ≤ 7) (hM : ∀ c, c < 6 → Mv S2.1 (S2.2.2.2.2 c)) : LI o S2 S' w' := by
  obtain ⟨t, a1, a2, a3⟩ := h
  exact ⟨t, a1.act hH hF h1 h2 hM, a2.fr (F19.H hF), a3.fr (F19.H hF)⟩
theorem LI.nth {o : Nat} {S S2 S' : StX} {w w' : List jC} {st sv rc sz kw : Nat → Nat} {ns tk ro nn : Nat} (h : LI o S S' w) (hH : HX S2.1 S2.2.1 S2.2.2.1 S2.2.2.2.1 S2.2.2.2.2 w') (hF : FN w w') (hC : CM st sv rc sz kw ns tk ro nn w') (hns : ns ≤ 21) (hnn : nn ≤ 7) (h1 : 2 ≤ S2.1) (h2 : S2.1 ≤ 7) (hM : ∀ c, c < 6 → Mv S2.1 (S2.2.2.2.2 c)) : LI o S2 S' w' := by
  obtain ⟨t, ⟨_, _, _, _, a6⟩, a2, a3⟩ := h
  refine ⟨t, ⟨h1, h2, hM, hH, fun i p hp => ?_⟩, a2.fr (F19.N hF), a3.fr (F19.N hF)⟩
  obtain ⟨c2, c3, c4, c5, c6, c7⟩ := hC
  match i, hp with
  | 0, hp =>
    cases hp
    exact ⟨_, hH.1, rfl⟩
  | 1, hp =>
    cases hp
    exact ⟨_, hH.2, tA_aF⟩
  | 2, hp =>
    cases hp
    exact ⟨_, c2, ns, nn, nI tk, nI ro, rfl, hns, hnn⟩
  | 3, hp =>
    cases hp
    exact ⟨_, c3, tA_aF⟩
  | 4, hp =>
    cases hp
    exact ⟨_, c4, tA_aF⟩
  | 5, hp =>
    cases hp
    exact ⟨_, c5, tA_aF⟩
  | 6, hp =>
    cases hp
    exact ⟨_, c6, tA_aF⟩
  | 7, hp =>
    cases hp
    exact ⟨_, c7, tA_aF⟩
  | i + 8, hp =>
    obtain ⟨c, hc, h2⟩ := a6 (i + 8) p hp
    exact ⟨c, (hF.2 (i + 8) (by omega) (gl hc)).trans hc, h2⟩
/-- a plain list of ints as a function -/
theorem aF_of {k : Nat} {xs : List Int32} (h : xs.length = k) : (.inl (0, xs) : jC) = aF k (fun i => (xs.getD i 0).toBitVec.toNat) := by
  unfold aF
  congr 2
  refine List.ext_getElem (by rw [List.length_map, List.length_range]; exact h) (fun i h1 h2 => ?_)
  rw [List.getElem_map, List.getElem_range, ← nI_self, List.getD_eq_getElem?_getD, List.getElem?_eq_getElem h1]
  rfl
/-- the chain's cells as functions -/
theorem CM_of {S : StX} {w : List jC} (h : LCx S w) : ∃ (st sv rc sz kw : Nat → Nat) (ns tk ro nn : Nat), CM st sv rc sz kw ns tk ro nn w := by
  obtain ⟨_, _, _, _, a6⟩ := h
  obtain ⟨_, c2, a, f, b, g, rfl, _, _⟩ := a6 2 _ rfl
  obtain ⟨_, c3, x3, rfl, l3⟩ := a6 3 _ rfl
  obtain ⟨_, c4, x4, rfl, l4⟩ := a6 4 _ rfl
  obtain ⟨_, c5, x5, rfl, l5⟩ := a6 5 _ rfl
  obtain ⟨_, c6, x6, rfl, l6⟩ := a6 6 _ rfl
  obtain ⟨_, c7, x7, rfl, l7⟩ := a6 7 _ rfl
  rw [aF_of l3] at c3
  rw [aF_of l4] at c4
  rw [aF_of l5] at c5
  rw [aF_of l6] at c6
  rw [aF_of l7] at c7
  rw [nI_self b, nI_self g] at c2
  exact ⟨_, _, _, _, _, _, _, _, _, c2, c3, c4, c5, c6, c7⟩
/-! the reference's side -/
theorem LIx.ref {o : Nat} {S S2 : StX} {t : Int32} {w w' : List jC} {b b' : Nat} {mv rw nx : Nat → Nat} {bt : List Int32} {kn en : Int32} (hC : LCx S w) (hO : LO o w) (h24 : b ≠ o) (hb : 23 ≤ b) (hF : FR b b' w w') (hR : RM S2.1 mv rw nx b' bt kn en S2.2.1 S2.2.2.1 S2.2.2.2.1 t w') (h1 : 2 ≤ S2.1) (h2 : S2.1 ≤ 7)
    (gm : ∀ i, mv i < 7) (gr : ∀ i, rw i < 7) (gx : ∀ i, nx i < 7) (hP : PM S2.1 mv) (hK : KX S2.1 mv kn bt) (hL : RLx S2.1 S2.2.2.2.2 mv) : LIx o S S2 t w' ∧ w'[o]? = w[o]? := by
  obtain ⟨a1, a2, a3, ⟨a4, a5⟩, a6⟩ := hC
  obtain ⟨o0, fs, o1, o2⟩ := hO
  have hl := gl o1
  have hk : ∀ i, i < 19 → w'[i]? = w[i]? := fun i hi => hF.2.2 i (Or.inl hi) (by omega) (by omega)
  have ho := hF.at o1 (by omega) (fun e => h24 e.symm)
  refine ⟨⟨⟨a1, a2, a3, ⟨(hk 0 (by decide)).trans a4, (hk 1 (by decide)).trans a5⟩, a6.keep (fun i hi => hk i hi)⟩, ⟨mv, rw, nx, b', bt, kn, en, hR, h1, h2, gm, gr, gx, hP, hK, hL, ?_⟩, ⟨o0, fs, ho, o2⟩⟩, ho.trans o1.symm⟩
  rcases hF.2.1 with e | e
  · rw [e]; exact h24
  · omega
theorem LI.out {o : Nat} {S S' : StX} {w w' : List jC} {k : Nat} {v : Value} {fs : List Value} (h : LI o S S' w) (hfs : fs.length = 2) (hw : w'[o]? = some (.inr (8, fs.set k v))) (hne : ∀ c, c ≠ o → w'[c]? = w[c]?) : LI o S S' w' := by
  obtain ⟨t, ⟨a1, a2, a3, ⟨a4, a5⟩, a6⟩, ⟨mv, rw, nx, b, bt, kn, en, ⟨b1, b2, b3, b4, b5, b6, b7⟩, c1, c2, c3, c4, c5, c6, c7, c8, c9⟩, ⟨o0, _⟩⟩ := h
  refine ⟨t, ⟨a1, a2, a3, ⟨(hne 0 (by omega)).trans a4, (hne 1 (by omega)).trans a5⟩, a6.keep (fun i hi => ?_)⟩, ⟨mv, rw, nx, b, bt, kn, en, ⟨(hne 19 (by omega)).trans b1, (hne 20 (by omega)).trans b2, (hne 21 (by omega)).trans b3, (hne 22 (by omega)).trans b4, (hne b c9).trans b5, b6, b7⟩, c1, c2, c3, c4, c5, c6, c7, c8, c9⟩, ⟨o0, _, hw, by rw [List.length_set]; exact hfs⟩⟩
  have h19 : i < 19 := hi
  exact hne i (by omega)
/-! acts -/
def AG (G1 G2 : Prop) (D : Int32 → StX → Prop) (S : StX) (k : Nat) (v : Int32) (S' : StX) : Prop := (k = 1 ∧ ¬ G1 ∧ S' = S) ∨ (k = 2 ∧ G1 ∧ ¬ G2 ∧ S' = S) ∨ (k = 0 ∧ G1 ∧ G2 ∧ D v S')
section ACTS
variable {G1 G2 : Prop} {D : Int32 → StX → Prop} {S : StX} {k k' : Nat} {v v' : Int32} {a b : StX}
theorem AG.same (hD : ∀ v v' a b, D v a → D v' b → a = b) (h : AG G1 G2 D S k v a) (h' : AG G1 G2 D S k' v' b) : a = b ∧ k = k' := by
  rcases h with ⟨e, g, s⟩ | ⟨e, g, g2, s⟩ | ⟨e, g, g2, s⟩ <;> rcases h' with ⟨e', g', s'⟩ | ⟨e', g', g2', s'⟩ | ⟨e', g', g2', s'⟩
  · exact ⟨s.trans s'.symm, e.trans e'.symm⟩
  · exact absurd g' g
  · exact absurd g' g
  · exact absurd g g'
  · exact ⟨s.trans s'.symm, e.trans e'.symm⟩
  · exact absurd g2' g2
  · exact absurd g g'
  · exact absurd g2 g2'
  · exact ⟨hD _ _ _ _ s s', e.trans e'.symm⟩
theorem AG.val (hV : ∀ v v' a b, D v a → D v' b → v = v') (h : AG G1 G2 D S k v a) (h' : AG G1 G2 D S k v' b) (h0 : k = 0) : v = v' := by
  rcases h with ⟨e, _⟩ | ⟨e, _⟩ | ⟨_, _, _, s⟩
  · omega
  · omega
  · rcases h' with ⟨e, _⟩ | ⟨e, _⟩ | ⟨_, _, _, s'⟩
    · omega
    · omega
    · exact hV _ _ _ _ s s'
theorem AG.k3 (h : AG G1 G2 D S k v a) : k < 3 := by
  rcases h with ⟨e, _⟩ | ⟨e, _⟩ | ⟨e, _⟩ <;> omega
end ACTS
def ES (S : StX) (a x : Nat) : StX := (S.1, S.2.1 + nI 1, S.2.2.1, S.2.2.2.1, up S.2.2.2.2 a x)
def NS (S : StX) : StX := (S.1, S.2.1, S.2.2.1 + nI 1, S.2.2.2.1, S.2.2.2.2)
def KS (S : StX) : StX := (S.1, S.2.1, S.2.2.1, S.2.2.2.1 + nI 1, S.2.2.2.2)
theorem nI_uq {x : Int32} {a b k : Nat} (ha : x = nI a) (hb : x = nI b) (h1 : a < k) (h2 : b < k) (hk : k ≤ 2 ^ 31 := by omega) : a = b := (nI_eq (by omega) (by omega)).mp (ha.symm.trans hb)
theorem ES_M {S : StX} {a x : Nat} (hM : ∀ c, c < 6 → Mv S.1 (S.2.2.2.2 c)) (hx : Mv S.1 x) : ∀ c, c < 6 → Mv (ES S a x).1 ((ES S a x).2.2.2.2 c) := fun c hc => by
  show Mv S.1 (up S.2.2.2.2 a x c)
  by_cases e : c = a
  · rw [e, up_s]; exact hx
  · rw [up_n e]; exact hM c hc
