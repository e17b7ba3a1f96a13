section
/-! what each call does and answers, on both sides the same -/
abbrev GX (S : StX) (s : Nat) : Nat → Prop := Gg S.1 (gS S.2.2.2.2 s 6)
def Dpoints (S : StX) (p0 : Int32) (v : Int32) (S' : StX) : Prop := ∃ k : Nat, p0 = nI k ∧ 2 ≤ k ∧ k ≤ 7 ∧ v = nI S.1 ∧ S' = (k, S.2.1 + nI 1, S.2.2.1, S.2.2.2.1, fun _ => 1754760)
def Dlay (S : StX) (p0 p1 : Int32) (v : Int32) (S' : StX) : Prop := ∃ na nb : Nat, p0 = nI na ∧ p1 = nI nb ∧ na < 6 ∧ nb < fc S.1 ∧ v = nI (nu S.1 (S.2.2.2.2 na)) ∧ S' = ES S na (XM S.1 nb)
def Dexchange (S : StX) (p0 p1 p2 : Int32) (v : Int32) (S' : StX) : Prop := ∃ na nb nc : Nat, p0 = nI na ∧ p1 = nI nb ∧ p2 = nI nc ∧ na < 6 ∧ nb < S.1 ∧ nc < S.1 ∧ v = sg S.1 (c7 (S.2.2.2.2 na) (w8 (w8 1754760 nb nc) nc nb)) ∧ S' = ES S na (c7 (S.2.2.2.2 na) (w8 (w8 1754760 nb nc) nc nb))
def Dring (S : StX) (p0 p1 p2 p3 : Int32) (v : Int32) (S' : StX) : Prop := ∃ na nb nc nf : Nat, p0 = nI na ∧ p1 = nI nb ∧ p2 = nI nc ∧ p3 = nI nf ∧ na < 6 ∧ nb < S.1 ∧ nc < S.1 ∧ nf < S.1 ∧ v = sg S.1 (c7 (S.2.2.2.2 na) (w8 (w8 (w8 1754760 nb nc) nc nf) nf nb)) ∧ S' = ES S na (c7 (S.2.2.2.2 na) (w8 (w8 (w8 1754760 nb nc) nc nf) nf nb))
def Dturn (S : StX) (p0 p1 : Int32) (v : Int32) (S' : StX) : Prop := ∃ na : Nat, p0 = nI na ∧ na < 6 ∧ v = sg S.1 (c7 (S.2.2.2.2 na) (bW (fun p => (p + tT S.1 p1) % S.1) S.1)) ∧ S' = ES S na (c7 (S.2.2.2.2 na) (bW (fun p => (p + tT S.1 p1) % S.1) S.1))
def Dmirror (S : StX) (p0 : Int32) (v : Int32) (S' : StX) : Prop := ∃ na : Nat, p0 = nI na ∧ na < 6 ∧ v = sg S.1 (c7 (S.2.2.2.2 na) (bW (fun p => S.1 - 1 - p) S.1)) ∧ S' = ES S na (c7 (S.2.2.2.2 na) (bW (fun p => S.1 - 1 - p) S.1))
def Dcopy (S : StX) (p0 p1 : Int32) (v : Int32) (S' : StX) : Prop := ∃ na nb : Nat, p0 = nI na ∧ p1 = nI nb ∧ na < 6 ∧ nb < 6 ∧ v = (if (S.2.2.2.2 nb) = (S.2.2.2.2 na) then nI 0 else nI 1) ∧ S' = ES S nb (S.2.2.2.2 na)
def Dswap (S : StX) (p0 p1 : Int32) (v : Int32) (S' : StX) : Prop := ∃ na nb : Nat, p0 = nI na ∧ p1 = nI nb ∧ na < 6 ∧ nb < 6 ∧ v = (if (S.2.2.2.2 na) = (S.2.2.2.2 nb) then nI 0 else nI 1) ∧ S' = (S.1, S.2.1 + nI 1, S.2.2.1, S.2.2.2.1, up (up S.2.2.2.2 na (S.2.2.2.2 nb)) nb (S.2.2.2.2 na))
def Dthen (S : StX) (p0 p1 p2 : Int32) (v : Int32) (S' : StX) : Prop := ∃ na nb nc : Nat, p0 = nI na ∧ p1 = nI nb ∧ p2 = nI nc ∧ na < 6 ∧ nb < 6 ∧ nc < 6 ∧ v = nI (nu S.1 (c7 (S.2.2.2.2 na) (S.2.2.2.2 nb))) ∧ S' = ES S nc (c7 (S.2.2.2.2 na) (S.2.2.2.2 nb))
def Dundo (S : StX) (p0 p1 : Int32) (v : Int32) (S' : StX) : Prop := ∃ na nb : Nat, p0 = nI na ∧ p1 = nI nb ∧ na < 6 ∧ nb < 6 ∧ v = nI (nu S.1 (i7 (S.2.2.2.2 na))) ∧ S' = ES S nb (i7 (S.2.2.2.2 na))
def Dpower (S : StX) (p0 p1 p2 : Int32) (v : Int32) (S' : StX) : Prop := ∃ na nc : Nat, p0 = nI na ∧ p2 = nI nc ∧ na < 6 ∧ nc < 6 ∧ v = nI (nu S.1 (pwM p1 (S.2.2.2.2 na))) ∧ S' = ES S nc (pwM p1 (S.2.2.2.2 na))
def Drename (S : StX) (p0 p1 p2 : Int32) (v : Int32) (S' : StX) : Prop := ∃ na nb nc : Nat, p0 = nI na ∧ p1 = nI nb ∧ p2 = nI nc ∧ na < 6 ∧ nb < 6 ∧ nc < 6 ∧ v = nI (nu S.1 (c7 (c7 (i7 (S.2.2.2.2 nb)) (S.2.2.2.2 na)) (S.2.2.2.2 nb))) ∧ S' = ES S nc (c7 (c7 (i7 (S.2.2.2.2 nb)) (S.2.2.2.2 na)) (S.2.2.2.2 nb))
def Dmatch (S : StX) (p0 p1 p2 : Int32) (v : Int32) (S' : StX) : Prop := ∃ a b c : Nat, p0 = nI a ∧ p1 = nI b ∧ p2 = nI c ∧ a < 6 ∧ b < 6 ∧ c < 6 ∧ ((∃ y, LN S.1 (S.2.2.2.2 a) (S.2.2.2.2 b) y ∧ v = nI (nu S.1 y) ∧ S' = ES S c y) ∨ ((∀ w, ¬ RN S.1 (S.2.2.2.2 a) (S.2.2.2.2 b) w) ∧ v = (-9) ∧ S' = NS S))
def Dnth (S : StX) (p0 p1 p2 p3 : Int32) (v : Int32) (S' : StX) : Prop := ∃ s a b rk : Nat, p0 = nI s ∧ p1 = nI a ∧ p3 = nI b ∧ p2 = nI rk ∧ s < 64 ∧ a < 6 ∧ b < 6 ∧ rk < 2 ^ 31 ∧ ((∃ y, rk < cd S.1 (GX S s) ∧ Mv S.1 y ∧ GK S.1 (GX S s) (d8 (S.2.2.2.2 a)) rk y ∧ v = nI (nu S.1 y) ∧ S' = ES S b y) ∨ (¬ rk < cd S.1 (GX S s) ∧ v = (-9) ∧ S' = NS S))
def Dnumber (S : StX) (p0 : Int32) (v : Int32) (S' : StX) : Prop := ∃ na : Nat, p0 = nI na ∧ na < 6 ∧ v = nI (nu S.1 (S.2.2.2.2 na)) ∧ S' = S
def Dgoes (S : StX) (p0 p1 : Int32) (v : Int32) (S' : StX) : Prop := ∃ na nb : Nat, p0 = nI na ∧ p1 = nI nb ∧ na < 6 ∧ nb < S.1 ∧ v = nI (d8 (S.2.2.2.2 na) nb) ∧ S' = S
def Dorder (S : StX) (p0 : Int32) (v : Int32) (S' : StX) : Prop := ∃ na : Nat, p0 = nI na ∧ na < 6 ∧ v = nI (oC (S.2.2.2.2 na)) ∧ S' = S
def Dsign (S : StX) (p0 : Int32) (v : Int32) (S' : StX) : Prop := ∃ na : Nat, p0 = nI na ∧ na < 6 ∧ v = sg S.1 (S.2.2.2.2 na) ∧ S' = S
def Dstays (S : StX) (p0 : Int32) (v : Int32) (S' : StX) : Prop := ∃ na : Nat, p0 = nI na ∧ na < 6 ∧ v = nI (stF (d8 (S.2.2.2.2 na)) S.1) ∧ S' = S
def DareAlike (S : StX) (p0 p1 : Int32) (v : Int32) (S' : StX) : Prop := ∃ na nb : Nat, p0 = nI na ∧ p1 = nI nb ∧ na < 6 ∧ nb < 6 ∧ v = nI (on (LK (S.2.2.2.2 na) (S.2.2.2.2 nb))) ∧ S' = S
def Dcommute (S : StX) (p0 p1 : Int32) (v : Int32) (S' : StX) : Prop := ∃ na nb : Nat, p0 = nI na ∧ p1 = nI nb ∧ na < 6 ∧ nb < 6 ∧ v = (if c7 (S.2.2.2.2 na) (S.2.2.2.2 nb) = c7 (S.2.2.2.2 nb) (S.2.2.2.2 na) then nI 1 else nI 0) ∧ S' = S
def Dblocks (S : StX) (p0 p1 p2 : Int32) (v : Int32) (S' : StX) : Prop := ∃ na nb nc : Nat, p0 = nI na ∧ p1 = nI nb ∧ p2 = nI nc ∧ na < 64 ∧ nb < S.1 ∧ nc < S.1 ∧ v = nI (ct (fun p => ∀ q, q < p → ¬ Bc S.1 S.2.2.2.2 na nb nc p q) S.1) ∧ S' = S
def Dhouse (S : StX) (p0 : Int32) (v : Int32) (S' : StX) : Prop := ∃ na : Nat, p0 = nI na ∧ na < 3 ∧ v = (if na = 0 then S.2.1 else if na = 1 then S.2.2.1 else S.2.2.2.1) ∧ S' = S
theorem on_01 (p : Prop) : nI (on p) = nI 0 ∨ nI (on p) = nI 1 := by
  by_cases h : p
  · rw [on_t h]; exact Or.inr rfl
  · rw [on_f h]; exact Or.inl rfl
theorem fD_points {S : StX} (h2 : 2 ≤ S.1) (h7 : S.1 ≤ 7) (hM : ∀ c, c < 6 → Mv S.1 (S.2.2.2.2 c)) (p0 : Int32) (v v' : Int32) (x y : StX) (h : Dpoints S p0 v x) (h' : Dpoints S p0 v' y) : x = y ∧ v = v' := by
  obtain ⟨k, e1, k1, k2, ev, e⟩ := h
  obtain ⟨k', e1', k1', k2', ev', e'⟩ := h'
  obtain rfl := nI_uq e1 e1' (k := 8) (by omega) (by omega)
  exact ⟨e.trans e'.symm, ev.trans ev'.symm⟩
theorem fD_lay {S : StX} (h2 : 2 ≤ S.1) (h7 : S.1 ≤ 7) (hM : ∀ c, c < 6 → Mv S.1 (S.2.2.2.2 c)) (p0 p1 : Int32) (v v' : Int32) (x y : StX) (h : Dlay S p0 p1 v x) (h' : Dlay S p0 p1 v' y) : x = y ∧ v = v' := by
  have hf7 := fc_7 h7
  obtain ⟨na, nb, ea, eb, ha, hb, ev, e⟩ := h
  obtain ⟨na', nb', ea', eb', ha', hb', ev', e'⟩ := h'
  obtain rfl := nI_uq ea ea' ha ha'
  obtain rfl := nI_uq eb eb' hb hb'
  exact ⟨e.trans e'.symm, ev.trans ev'.symm⟩
theorem fD_exchange {S : StX} (h2 : 2 ≤ S.1) (h7 : S.1 ≤ 7) (hM : ∀ c, c < 6 → Mv S.1 (S.2.2.2.2 c)) (p0 p1 p2 : Int32) (v v' : Int32) (x y : StX) (h : Dexchange S p0 p1 p2 v x) (h' : Dexchange S p0 p1 p2 v' y) : x = y ∧ v = v' := by
  obtain ⟨na, nb, nc, ea, eb, ec, ha, hb, hc, ev, e⟩ := h
  obtain ⟨na', nb', nc', ea', eb', ec', ha', hb', hc', ev', e'⟩ := h'
  obtain rfl := nI_uq ea ea' ha ha'
  obtain rfl := nI_uq eb eb' hb hb'
  obtain rfl := nI_uq ec ec' hc hc'
  exact ⟨e.trans e'.symm, ev.trans ev'.symm⟩
theorem fD_ring {S : StX} (h2 : 2 ≤ S.1) (h7 : S.1 ≤ 7) (hM : ∀ c, c < 6 → Mv S.1 (S.2.2.2.2 c)) (p0 p1 p2 p3 : Int32) (v v' : Int32) (x y : StX) (h : Dring S p0 p1 p2 p3 v x) (h' : Dring S p0 p1 p2 p3 v' y) : x = y ∧ v = v' := by
  obtain ⟨na, nb, nc, nf, ea, eb, ec, ef, ha, hb, hc, hf, ev, e⟩ := h
  obtain ⟨na', nb', nc', nf', ea', eb', ec', ef', ha', hb', hc', hf', ev', e'⟩ := h'
  obtain rfl := nI_uq ea ea' ha ha'
  obtain rfl := nI_uq eb eb' hb hb'
  obtain rfl := nI_uq ec ec' hc hc'
  obtain rfl := nI_uq ef ef' hf hf'
  exact ⟨e.trans e'.symm, ev.trans ev'.symm⟩
theorem fD_turn {S : StX} (h2 : 2 ≤ S.1) (h7 : S.1 ≤ 7) (hM : ∀ c, c < 6 → Mv S.1 (S.2.2.2.2 c)) (p0 p1 : Int32) (v v' : Int32) (x y : StX) (h : Dturn S p0 p1 v x) (h' : Dturn S p0 p1 v' y) : x = y ∧ v = v' := by
  obtain ⟨na, ea, ha, ev, e⟩ := h
  obtain ⟨na', ea', ha', ev', e'⟩ := h'
  obtain rfl := nI_uq ea ea' ha ha'
  exact ⟨e.trans e'.symm, ev.trans ev'.symm⟩
theorem fD_mirror {S : StX} (h2 : 2 ≤ S.1) (h7 : S.1 ≤ 7) (hM : ∀ c, c < 6 → Mv S.1 (S.2.2.2.2 c)) (p0 : Int32) (v v' : Int32) (x y : StX) (h : Dmirror S p0 v x) (h' : Dmirror S p0 v' y) : x = y ∧ v = v' := by
  obtain ⟨na, ea, ha, ev, e⟩ := h
  obtain ⟨na', ea', ha', ev', e'⟩ := h'
  obtain rfl := nI_uq ea ea' ha ha'
  exact ⟨e.trans e'.symm, ev.trans ev'.symm⟩
theorem fD_copy {S : StX} (h2 : 2 ≤ S.1) (h7 : S.1 ≤ 7) (hM : ∀ c, c < 6 → Mv S.1 (S.2.2.2.2 c)) (p0 p1 : Int32) (v v' : Int32) (x y : StX) (h : Dcopy S p0 p1 v x) (h' : Dcopy S p0 p1 v' y) : x = y ∧ v = v' := by
  obtain ⟨na, nb, ea, eb, ha, hb, ev, e⟩ := h
  obtain ⟨na', nb', ea', eb', ha', hb', ev', e'⟩ := h'
  obtain rfl := nI_uq ea ea' ha ha'
  obtain rfl := nI_uq eb eb' hb hb'
  exact ⟨e.trans e'.symm, ev.trans ev'.symm⟩
theorem fD_swap {S : StX} (h2 : 2 ≤ S.1) (h7 : S.1 ≤ 7) (hM : ∀ c, c < 6 → Mv S.1 (S.2.2.2.2 c)) (p0 p1 : Int32) (v v' : Int32) (x y : StX) (h : Dswap S p0 p1 v x) (h' : Dswap S p0 p1 v' y) : x = y ∧ v = v' := by
  obtain ⟨na, nb, ea, eb, ha, hb, ev, e⟩ := h
  obtain ⟨na', nb', ea', eb', ha', hb', ev', e'⟩ := h'
  obtain rfl := nI_uq ea ea' ha ha'
  obtain rfl := nI_uq eb eb' hb hb'
  exact ⟨e.trans e'.symm, ev.trans ev'.symm⟩
theorem fD_then {S : StX} (h2 : 2 ≤ S.1) (h7 : S.1 ≤ 7) (hM : ∀ c, c < 6 → Mv S.1 (S.2.2.2.2 c)) (p0 p1 p2 : Int32) (v v' : Int32) (x y : StX) (h : Dthen S p0 p1 p2 v x) (h' : Dthen S p0 p1 p2 v' y) : x = y ∧ v = v' := by
  obtain ⟨na, nb, nc, ea, eb, ec, ha, hb, hc, ev, e⟩ := h
  obtain ⟨na', nb', nc', ea', eb', ec', ha', hb', hc', ev', e'⟩ := h'
  obtain rfl := nI_uq ea ea' ha ha'
  obtain rfl := nI_uq eb eb' hb hb'
  obtain rfl := nI_uq ec ec' hc hc'
  exact ⟨e.trans e'.symm, ev.trans ev'.symm⟩
theorem fD_undo {S : StX} (h2 : 2 ≤ S.1) (h7 : S.1 ≤ 7) (hM : ∀ c, c < 6 → Mv S.1 (S.2.2.2.2 c)) (p0 p1 : Int32) (v v' : Int32) (x y : StX) (h : Dundo S p0 p1 v x) (h' : Dundo S p0 p1 v' y) : x = y ∧ v = v' := by
  obtain ⟨na, nb, ea, eb, ha, hb, ev, e⟩ := h
  obtain ⟨na', nb', ea', eb', ha', hb', ev', e'⟩ := h'
  obtain rfl := nI_uq ea ea' ha ha'
  obtain rfl := nI_uq eb eb' hb hb'
  exact ⟨e.trans e'.symm, ev.trans ev'.symm⟩
theorem fD_power {S : StX} (h2 : 2 ≤ S.1) (h7 : S.1 ≤ 7) (hM : ∀ c, c < 6 → Mv S.1 (S.2.2.2.2 c)) (p0 p1 p2 : Int32) (v v' : Int32) (x y : StX) (h : Dpower S p0 p1 p2 v x) (h' : Dpower S p0 p1 p2 v' y) : x = y ∧ v = v' := by
  obtain ⟨na, nc, ea, ec, ha, hc, ev, e⟩ := h
  obtain ⟨na', nc', ea', ec', ha', hc', ev', e'⟩ := h'
  obtain rfl := nI_uq ea ea' ha ha'
  obtain rfl := nI_uq ec ec' hc hc'
  exact ⟨e.trans e'.symm, ev.trans ev'.symm⟩
theorem fD_rename {S : StX} (h2 : 2 ≤ S.1) (h7 : S.1 ≤ 7) (hM : ∀ c, c < 6 → Mv S.1 (S.2.2.2.2 c)) (p0 p1 p2 : Int32) (v v' : Int32) (x y : StX) (h : Drename S p0 p1 p2 v x) (h' : Drename S p0 p1 p2 v' y) : x = y ∧ v = v' := by
  obtain ⟨na, nb, nc, ea, eb, ec, ha, hb, hc, ev, e⟩ := h
  obtain ⟨na', nb', nc', ea', eb', ec', ha', hb', hc', ev', e'⟩ := h'
  obtain rfl := nI_uq ea ea' ha ha'
  obtain rfl := nI_uq eb eb' hb hb'
  obtain rfl := nI_uq ec ec' hc hc'
  exact ⟨e.trans e'.symm, ev.trans ev'.symm⟩
theorem fD_match {S : StX} (h2 : 2 ≤ S.1) (h7 : S.1 ≤ 7) (hM : ∀ c, c < 6 → Mv S.1 (S.2.2.2.2 c)) (p0 p1 p2 : Int32) (v v' : Int32) (x y : StX) (h : Dmatch S p0 p1 p2 v x) (h' : Dmatch S p0 p1 p2 v' y) : x = y ∧ v = v' := by
  obtain ⟨a, b, c, e1, e2, e3, h1, h2, h3, e⟩ := h
  obtain ⟨a', b', c', e1', e2', e3', h1', h2', h3', e'⟩ := h'
  obtain rfl := nI_uq e1 e1' h1 h1'
  obtain rfl := nI_uq e2 e2' h2 h2'
  obtain rfl := nI_uq e3 e3' h3 h3'
  rcases e with ⟨z, hz, ev, e⟩ | ⟨hn, ev, e⟩
  · rcases e' with ⟨z', hz', ev', e'⟩ | ⟨hn', ev', e'⟩
    · obtain rfl := LN_same (by omega) h7 hz hz'
      exact ⟨e.trans e'.symm, ev.trans ev'.symm⟩
    · exact absurd hz.2.1 (hn' _)
  · rcases e' with ⟨z', hz', ev', e'⟩ | ⟨hn', ev', e'⟩
    · exact absurd hz'.2.1 (hn _)
    · exact ⟨e.trans e'.symm, ev.trans ev'.symm⟩
theorem fD_nth {S : StX} (h2 : 2 ≤ S.1) (h7 : S.1 ≤ 7) (hM : ∀ c, c < 6 → Mv S.1 (S.2.2.2.2 c)) (p0 p1 p2 p3 : Int32) (v v' : Int32) (x y : StX) (h : Dnth S p0 p1 p2 p3 v x) (h' : Dnth S p0 p1 p2 p3 v' y) : x = y ∧ v = v' := by
  obtain ⟨s, a, b, rk, e1, e2, e3, e4, h1, h2, h3, h4, e⟩ := h
  obtain ⟨s', a', b', rk', e1', e2', e3', e4', h1', h2', h3', h4', e'⟩ := h'
  obtain rfl := nI_uq e1 e1' h1 h1'
  obtain rfl := nI_uq e2 e2' h2 h2'
  obtain rfl := nI_uq e3 e3' h3 h3'
  obtain rfl := nI_uq e4 e4' h4 h4'
  rcases e with ⟨z, hz1, hz2, hz3, ev, e⟩ | ⟨hn, ev, e⟩
  · rcases e' with ⟨z', hz1', hz2', hz3', ev', e'⟩ | ⟨hn', ev', e'⟩
    · obtain rfl := GK_same (by omega) h7 (hM a h2).2.1 hz2 hz2' hz3 hz3'
      exact ⟨e.trans e'.symm, ev.trans ev'.symm⟩
    · exact absurd hz1 hn'
  · rcases e' with ⟨z', hz1', hz2', hz3', ev', e'⟩ | ⟨hn', ev', e'⟩
    · exact absurd hz1' hn
    · exact ⟨e.trans e'.symm, ev.trans ev'.symm⟩
theorem fD_number {S : StX} (h2 : 2 ≤ S.1) (h7 : S.1 ≤ 7) (hM : ∀ c, c < 6 → Mv S.1 (S.2.2.2.2 c)) (p0 : Int32) (v v' : Int32) (x y : StX) (h : Dnumber S p0 v x) (h' : Dnumber S p0 v' y) : x = y ∧ v = v' := by
  obtain ⟨na, ea, ha, ev, e⟩ := h
  obtain ⟨na', ea', ha', ev', e'⟩ := h'
  obtain rfl := nI_uq ea ea' ha ha'
  exact ⟨e.trans e'.symm, ev.trans ev'.symm⟩
theorem fD_goes {S : StX} (h2 : 2 ≤ S.1) (h7 : S.1 ≤ 7) (hM : ∀ c, c < 6 → Mv S.1 (S.2.2.2.2 c)) (p0 p1 : Int32) (v v' : Int32) (x y : StX) (h : Dgoes S p0 p1 v x) (h' : Dgoes S p0 p1 v' y) : x = y ∧ v = v' := by
  obtain ⟨na, nb, ea, eb, ha, hb, ev, e⟩ := h
  obtain ⟨na', nb', ea', eb', ha', hb', ev', e'⟩ := h'
  obtain rfl := nI_uq ea ea' ha ha'
  obtain rfl := nI_uq eb eb' hb hb'
  exact ⟨e.trans e'.symm, ev.trans ev'.symm⟩
theorem fD_order {S : StX} (h2 : 2 ≤ S.1) (h7 : S.1 ≤ 7) (hM : ∀ c, c < 6 → Mv S.1 (S.2.2.2.2 c)) (p0 : Int32) (v v' : Int32) (x y : StX) (h : Dorder S p0 v x) (h' : Dorder S p0 v' y) : x = y ∧ v = v' := by
  obtain ⟨na, ea, ha, ev, e⟩ := h
  obtain ⟨na', ea', ha', ev', e'⟩ := h'
  obtain rfl := nI_uq ea ea' ha ha'
  exact ⟨e.trans e'.symm, ev.trans ev'.symm⟩
theorem fD_sign {S : StX} (h2 : 2 ≤ S.1) (h7 : S.1 ≤ 7) (hM : ∀ c, c < 6 → Mv S.1 (S.2.2.2.2 c)) (p0 : Int32) (v v' : Int32) (x y : StX) (h : Dsign S p0 v x) (h' : Dsign S p0 v' y) : x = y ∧ v = v' := by
  obtain ⟨na, ea, ha, ev, e⟩ := h
  obtain ⟨na', ea', ha', ev', e'⟩ := h'
  obtain rfl := nI_uq ea ea' ha ha'
  exact ⟨e.trans e'.symm, ev.trans ev'.symm⟩
theorem fD_stays {S : StX} (h2 : 2 ≤ S.1) (h7 : S.1 ≤ 7) (hM : ∀ c, c < 6 → Mv S.1 (S.2.2.2.2 c)) (p0 : Int32) (v v' : Int32) (x y : StX) (h : Dstays S p0 v x) (h' : Dstays S p0 v' y) : x = y ∧ v = v' := by
  obtain ⟨na, ea, ha, ev, e⟩ := h
  obtain ⟨na', ea', ha', ev', e'⟩ := h'
  obtain rfl := nI_uq ea ea' ha ha'
  exact ⟨e.trans e'.symm, ev.trans ev'.symm⟩
theorem fD_areAlike {S : StX} (h2 : 2 ≤ S.1) (h7 : S.1 ≤ 7) (hM : ∀ c, c < 6 → Mv S.1 (S.2.2.2.2 c)) (p0 p1 : Int32) (v v' : Int32) (x y : StX) (h : DareAlike S p0 p1 v x) (h' : DareAlike S p0 p1 v' y) : x = y ∧ v = v' := by
  obtain ⟨na, nb, ea, eb, ha, hb, ev, e⟩ := h
  obtain ⟨na', nb', ea', eb', ha', hb', ev', e'⟩ := h'
  obtain rfl := nI_uq ea ea' ha ha'
  obtain rfl := nI_uq eb eb' hb hb'
  exact ⟨e.trans e'.symm, ev.trans ev'.symm⟩
theorem fD_commute {S : StX} (h2 : 2 ≤ S.1) (h7 : S.1 ≤ 7) (hM : ∀ c, c < 6 → Mv S.1 (S.2.2.2.2 c)) (p0 p1 : Int32) (v v' : Int32) (x y : StX) (h : Dcommute S p0 p1 v x) (h' : Dcommute S p0 p1 v' y) : x = y ∧ v = v' := by
  obtain ⟨na, nb, ea, eb, ha, hb, ev, e⟩ := h
  obtain ⟨na', nb', ea', eb', ha', hb', ev', e'⟩ := h'
  obtain rfl := nI_uq ea ea' ha ha'
  obtain rfl := nI_uq eb eb' hb hb'
  exact ⟨e.trans e'.symm, ev.trans ev'.symm⟩
theorem fD_blocks {S : StX} (h2 : 2 ≤ S.1) (h7 : S.1 ≤ 7) (hM : ∀ c, c < 6 → Mv S.1 (S.2.2.2.2 c)) (p0 p1 p2 : Int32) (v v' : Int32) (x y : StX) (h : Dblocks S p0 p1 p2 v x) (h' : Dblocks S p0 p1 p2 v' y) : x = y ∧ v = v' := by
  obtain ⟨na, nb, nc, ea, eb, ec, ha, hb, hc, ev, e⟩ := h
  obtain ⟨na', nb', nc', ea', eb', ec', ha', hb', hc', ev', e'⟩ := h'
  obtain rfl := nI_uq ea ea' ha ha'
  obtain rfl := nI_uq eb eb' hb hb'
  obtain rfl := nI_uq ec ec' hc hc'
  exact ⟨e.trans e'.symm, ev.trans ev'.symm⟩
theorem fD_house {S : StX} (h2 : 2 ≤ S.1) (h7 : S.1 ≤ 7) (hM : ∀ c, c < 6 → Mv S.1 (S.2.2.2.2 c)) (p0 : Int32) (v v' : Int32) (x y : StX) (h : Dhouse S p0 v x) (h' : Dhouse S p0 v' y) : x = y ∧ v = v' := by
  obtain ⟨na, ea, ha, ev, e⟩ := h
  obtain ⟨na', ea', ha', ev', e'⟩ := h'
  obtain rfl := nI_uq ea ea' ha ha'
  exact ⟨e.trans e'.symm, ev.trans ev'.symm⟩
theorem bD_areAlike {S : StX} (p0 p1 : Int32) (v : Int32) (x : StX) (h : DareAlike S p0 p1 v x) : v = nI 0 ∨ v = nI 1 := by
  obtain ⟨_, _, _, _, _, _, ev, _⟩ := h
  rw [ev]
  exact on_01 _
theorem bD_commute {S : StX} (p0 p1 : Int32) (v : Int32) (x : StX) (h : Dcommute S p0 p1 v x) : v = nI 0 ∨ v = nI 1 := by
  obtain ⟨_, _, _, _, _, _, ev, _⟩ := h
  rw [ev]
  split; exact Or.inr rfl; exact Or.inl rfl
/-! the reference's rows are the house's moves, also behind an act -/
section RLS
variable {n : Nat} {cm mv mv' : Nat → Nat}
theorem RLx_mW (h : RLx n cm mv) {c : Nat} (hc : c < 6) : mW n mv c = cm c := (h c hc).symm
theorem RL_behind (hn : n ≤ 7) (hP : PM n mv) (h : RLx n cm mv) {a x : Nat} {g : Nat → Nat} (ha : a < 6) (hg : Pn n g) (hx : x = mkM n g) (hA : ACT n mv a (fun p => g (mv (a * 7 + p))) mv') : RLx n (up cm a (c7 (cm a) x)) mv' :=
  RLx_act h hA (by rw [hx, h a ha]; exact c7_mkM hn (hP a ha) hg)
theorem RL_exchange (hn : n ≤ 7) (hP : PM n mv) (h : RLx n cm mv) {a b c : Nat} (ha : a < 6) (hb : b < n) (hc : c < n) (hA : ACT n mv a (fun p => sw2 b c (mv (a * 7 + p))) mv') : RLx n (up cm a (c7 (cm a) (w8 (w8 1754760 b c) c b))) mv' :=
  RL_behind hn hP h ha (sw2_Pn hb hc) (w8_2 hn hb hc) hA
theorem RL_ring (hn : n ≤ 7) (hP : PM n mv) (h : RLx n cm mv) {a b c f : Nat} (ha : a < 6) (hb : b < n) (hc : c < n) (hf : f < n) (h1 : b ≠ c) (h2 : c ≠ f) (h3 : f ≠ b) (hA : ACT n mv a (fun p => sw3 b c f (mv (a * 7 + p))) mv') : RLx n (up cm a (c7 (cm a) (w8 (w8 (w8 1754760 b c) c f) f b))) mv' :=
  RL_behind hn hP h ha (sw3_Pn hb hc hf h1 h2 h3) (w8_3 hn hb hc hf) hA
theorem RL_mirror (hn : n ≤ 7) (hP : PM n mv) (h : RLx n cm mv) {a : Nat} (ha : a < 6) (hA : ACT n mv a (fun p => n - 1 - mv (a * 7 + p)) mv') : RLx n (up cm a (c7 (cm a) (bW (fun p => n - 1 - p) n))) mv' :=
  RL_behind (g := fun p => n - 1 - p) hn hP h ha (Pn_rev (fun _ _ => rfl)) (bW_M hn (Pn_rev (fun _ _ => rfl)) _ (fun _ _ => rfl) (fun p _ => by omega)) hA
theorem RL_turn (hn1 : 2 ≤ n) (hn : n ≤ 7) (hP : PM n mv) (h : RLx n cm mv) {a : Nat} {T : Nat} (ha : a < 6) (hA : ACT n mv a (fun p => (mv (a * 7 + p) + T) % n) mv') : RLx n (up cm a (c7 (cm a) (bW (fun p => (p + T) % n) n))) mv' :=
  RL_behind (g := fun p => (p + T) % n) hn hP h ha (Pn_rot (by omega) (fun _ _ => rfl)) (bW_M hn (Pn_rot (by omega) (fun _ _ => rfl)) _ (fun _ _ => rfl) (fun p _ => by have := Nat.mod_lt (p + T) (show 0 < n by omega); omega)) hA
theorem RL_copy (h : RLx n cm mv) {a b : Nat} (ha : a < 6) (hA : ACT n mv b (fun p => mv (a * 7 + p)) mv') : RLx n (up cm b (cm a)) mv' := RLx_act h hA (h a ha)
theorem RL_then (hn : n ≤ 7) (hP : PM n mv) (h : RLx n cm mv) {a b c : Nat} (ha : a < 6) (hb : b < 6) (hA : ACT n mv c (fun p => mv (b * 7 + mv (a * 7 + p))) mv') : RLx n (up cm c (c7 (cm a) (cm b))) mv' :=
  RLx_act h hA (by rw [h a ha, h b hb]; exact c7_mkM hn (hP a ha) (hP b hb))
theorem RL_undo (hn : n ≤ 7) (hP : PM n mv) (h : RLx n cm mv) {a b : Nat} {f : Nat → Nat} (ha : a < 6) (hf : ∀ p, p < n → f (mv (a * 7 + p)) = p) (hA : ACT n mv b f mv') : RLx n (up cm b (i7 (cm a))) mv' :=
  RLx_act h hA (by rw [h a ha]; exact i7_mkM hn (hP a ha) hf)
theorem RL_power (hn : n ≤ 7) (hP : PM n mv) (h : RLx n cm mv) {a c : Nat} {t : Int32} (ha : a < 6) (h1 : (-1000) ≤ t) (h2 : t ≤ nI 1000) (hA : ACT n mv c (it (fun p => mv (a * 7 + p)) (tP t)) mv') : RLx n (up cm c (pwM t (cm a))) mv' := by
  have hM := RLx_M hn h hP a ha
  have hq := it_Pn (hP a ha) (tP t)
  refine RLx_act h hA ((pwM_Mv hn hM t).ext (mkM_Mv hn hq) (fun p hp => ?_))
  rw [pwM_d hn hM h1 h2 hp, mkM_d hn hq.1 hp]
  have hi : ∀ k, it (d8 (cm a)) k p = it (fun p => mv (a * 7 + p)) k p := by
    intro k
    induction k with
    | zero => rfl
    | succ k ih =>
      show d8 (cm a) (it (d8 (cm a)) k p) = mv (a * 7 + it (fun p => mv (a * 7 + p)) k p)
      rw [ih]
      exact RLx_d hn h hP ha (it_lt (hP a ha) hp k)
  exact hi _
theorem RL_rename (hn : n ≤ 7) (hP : PM n mv) (h : RLx n cm mv) {a b c : Nat} {f : Nat → Nat} (ha : a < 6) (hb : b < 6) (hf : ∀ p, p < n → f (mv (b * 7 + p)) = mv (b * 7 + mv (a * 7 + p))) (hA : ACT n mv c f mv') : RLx n (up cm c (c7 (c7 (i7 (cm b)) (cm a)) (cm b))) mv' := by
  have hMb := RLx_M hn h hP b hb
  have hMa := RLx_M hn h hP a ha
  have hf2 : Pn n f := Pn_inv (hP b hb) (Pn.comp (hP a ha) (hP b hb)) hf
  have i1 := i7_Mv hn hMb
  have i2 := c7_Mv hn i1 hMa
  refine RLx_act h hA ((c7_Mv hn i2 hMb).ext (mkM_Mv hn hf2) (fun v hv => ?_))
  rw [mkM_d hn hf2.1 hv, c7_d (by omega), c7_d (by omega)]
  have hg := i1.2.1.1 v hv
  have e1 : mv (b * 7 + d8 (i7 (cm b)) v) = v := by
    rw [← RLx_d hn h hP hb hg]
    have e := cM_d hn (iM_Mv hn hMb) hMb hv
    rw [iM_c hn hMb, eM_d hn hv, ← i7_M hn hMb] at e
    exact e.symm
  have e2 := hf _ hg
  rw [e1] at e2
  rw [e2, RLx_d hn h hP ha hg, RLx_d hn h hP hb ((hP a ha).1 _ hg)]
theorem RL_lay (h : RLx n cm mv) {a b : Nat} (hA : ACT n mv a (rwF n b) mv') : RLx n (up cm a (XM n b)) mv' := RLx_act h hA rfl
theorem RL_swap (hn : n ≤ 7) (h : RLx n cm mv) {a b : Nat} (ha : a < 6) (hb : b < 6) : RLx n (up (up cm a (cm b)) b (cm a)) (sw mv a b n) := fun c hc => by
  by_cases e : c = b
  · subst e
    rw [up_s, h a ha]
    refine mkM_congr (fun p hp => ?_)
    unfold sw
    by_cases q : a * 7 ≤ c * 7 + p ∧ c * 7 + p < a * 7 + n
    · have : a = c := by omega
      subst this
      rw [if_pos q]
      congr 1
      omega
    · rw [if_neg q, if_pos (by omega)]
      congr 1
      omega
  · rw [up_n e]
    by_cases e2 : c = a
    · subst e2
      rw [up_s, h b hb]
      refine mkM_congr (fun p hp => ?_)
      unfold sw
      rw [if_pos (by omega)]
      congr 1
      omega
    · rw [up_n e2, h c hc]
      refine mkM_congr (fun p hp => ?_)
      unfold sw
      rw [if_neg (by omega), if_neg (by omega)]
theorem RL_points {k : Nat} (hk : k ≤ 7) (h : ∀ c p, c < 6 → p < k → mv' (c * 7 + p) = p) : RLx k (fun _ => 1754760) mv' := fun c hc => by
  show 1754760 = _
  rw [e7_M hk]
  exact mkM_congr (fun p hp => (h c p hc hp).symm)
theorem RL_nth (h : RLx n cm mv) {c y : Nat} (hn : n ≤ 7) (hy : Mv n y) (hA : ACT n mv c (d8 y) mv') : RLx n (up cm c y) mv' :=
  RLx_act h hA (hy.ext (mkM_Mv hn hy.2.1) (fun p hp => by rw [mkM_d hn hy.2.1.1 hp]))
theorem RN_RNr (hn : n ≤ 7) (hP : PM n mv) (h : RLx n cm mv) {a b : Nat} (ha : a < 6) (hb : b < 6) {f : Nat → Nat} (hf : Pn n f) : RN n (cm a) (cm b) f ↔ RNr n mv a b f := by
  refine ⟨fun q p hp => ?_, fun q => ⟨hf, fun p hp => ?_⟩⟩
  · rw [← RLx_d hn h hP ha hp, ← RLx_d hn h hP hb (hf.1 p hp)]
    exact q.2 p hp
  · rw [RLx_d hn h hP ha hp, RLx_d hn h hP hb (hf.1 p hp)]
    exact q p hp
theorem RNr_num (h1 : 1 ≤ n) (hP : PM n mv) {a b : Nat} (ha : a < 6) {w : Nat → Nat} (hw : Pn n w) (h : RNr n mv a b w) : RNr n mv a b (rwF n (nuF w 0 n n)) := fun p hp => by
  rw [rw_nu h1 hw _ ((hP a ha).1 p hp), rw_nu h1 hw p hp]
  exact h p hp
theorem LN_ref (h1 : 1 ≤ n) (hn : n ≤ 7) (hP : PM n mv) (h : RLx n cm mv) {a b k : Nat} (ha : a < 6) (hb : b < 6) (hk : k < fc n) (hq : RNr n mv a b (rwF n k)) (hl : ∀ j, j < k → ¬ RNr n mv a b (rwF n j)) : LN n (cm a) (cm b) (XM n k) := by
  have hX := XM_Mv h1 hn k
  have hd : RNr n mv a b (d8 (XM n k)) := fun p hp => by
    rw [XM_d h1 hn ((hP a ha).1 p hp), XM_d h1 hn hp]
    exact hq p hp
  refine ⟨hX, (RN_RNr hn hP h ha hb hX.2.1).mpr hd, fun w hw => ?_⟩
  rw [nu_XM h1 hn hk]
  have h3 := RNr_num h1 hP ha hw.1 ((RN_RNr hn hP h ha hb hw.1).mp hw)
  exact Nat.not_lt.mp (fun e => hl _ e h3)
theorem LN_none (h1 : 1 ≤ n) (hn : n ≤ 7) (hP : PM n mv) (h : RLx n cm mv) {a b : Nat} (ha : a < 6) (hb : b < 6) (hl : ∀ k, k < fc n → ¬ RNr n mv a b (rwF n k)) (w : Nat → Nat) : ¬ RN n (cm a) (cm b) w := fun hw =>
  hl _ (nuF_b w 0 n) (RNr_num h1 hP ha hw.1 ((RN_RNr hn hP h ha hb hw.1).mp hw))
theorem gS_RL (h : RLx n cm mv) (s x : Nat) : gS (mW n mv) s 6 x ↔ gS cm s 6 x := by
  refine ⟨fun ⟨c, h1, h2, h3⟩ => ⟨c, h1, h2, h3.trans (RLx_mW h h1)⟩, fun ⟨c, h1, h2, h3⟩ => ⟨c, h1, h2, h3.trans (RLx_mW h h1).symm⟩⟩
theorem Gg_RL (h : RLx n cm mv) (s x : Nat) : Gg n (gS (mW n mv) s 6) x ↔ Gg n (gS cm s 6) x :=
  ⟨Gg_mono (fun y => (gS_RL h s y).mp), Gg_mono (fun y => (gS_RL h s y).mpr)⟩
theorem cd_RL (h1 : 1 ≤ n) (hn : n ≤ 7) (h : RLx n cm mv) (s : Nat) : cd n (Gg n (gS (mW n mv) s 6)) = cd n (Gg n (gS cm s 6)) := cd_iff h1 hn (fun x _ => Gg_RL h s x)
theorem GK_RL (h1 : 1 ≤ n) (hn : n ≤ 7) (hP : PM n mv) (h : RLx n cm mv) {s a rk y : Nat} (ha : a < 6) (hG : GK n (Gg n (gS (mW n mv) s 6)) (fun j => mv (a * 7 + j)) rk y) : GK n (Gg n (gS cm s 6)) (d8 (cm a)) rk y :=
  GK_iff h1 hn (fun x _ => Gg_RL h s x) (GK_rd h1 hn (fun j hj => (RLx_d hn h hP ha hj).symm) hG)
theorem KX_keep {kn kn' : Int32} {bt : List Int32} (h : KX n mv kn bt) (e : kn' = kn) : KX n mv kn' bt := by
  rw [e]; exact h
end RLS
/-! answers of acts, on both sides the same -/
section VALS
variable {n : Nat} {cm mv mv' : Nat → Nat}
theorem RL_row {c X : Nat} (hL : RLx n (up cm c X) mv') (hc : c < 6) : X = mkM n (fun p => mv' (c * 7 + p)) := by
  have h := hL c hc
  rw [up_s] at h
  exact h
theorem AV {c X : Nat} {F : Nat → Nat} (hn : n ≤ 7) (hP : PM n mv') (hL : RLx n (up cm c X) mv') (hA : ACT n mv c F mv') (hc : c < 6) : nu n X = nuF F 0 n n := by
  rw [RL_row hL hc]
  exact nu_congr (fun p hp => (mkM_d hn (hP c hc).1 hp).trans (hA.1 p hp))
theorem SV {c X : Nat} (hn : n ≤ 7) (hP : PM n mv') (hL : RLx n (up cm c X) mv') (hc : c < 6) : sg n X = sgv (iv mv' (c * 7) n) := by
  rw [RL_row hL hc]
  exact congrArg sgv (iv_congr (f := mv') (fr := c * 7) (m := n) (fun p hp => (mkM_d hn (hP c hc).1 hp).symm) n (Nat.le_refl n)).symm
theorem CV0 (hn : n ≤ 7) (hP : PM n mv) (hL : RLx n cm mv) {a b : Nat} (ha : a < 6) (hb : b < 6) : (∀ p, p < n → mv (a * 7 + p) = mv (b * 7 + p)) ↔ cm a = cm b := by
  refine ⟨fun h => ?_, fun e p hp => ?_⟩
  · rw [hL a ha, hL b hb]
    exact mkM_congr h
  · rw [← RLx_d hn hL hP ha hp, ← RLx_d hn hL hP hb hp, e]
theorem CVa (hn : n ≤ 7) (hP : PM n mv) (hL : RLx n cm mv) {a b : Nat} {v : Int32} (ha : a < 6) (hb : b < 6) (h : (v = nI 0 ∧ ∀ p, p < n → mv (a * 7 + p) = mv (b * 7 + p)) ∨ (v = nI 1 ∧ ¬ ∀ p, p < n → mv (a * 7 + p) = mv (b * 7 + p))) : v = (if cm a = cm b then nI 0 else nI 1) := by
  rcases h with ⟨rfl, h⟩ | ⟨rfl, h⟩
  · rw [if_pos ((CV0 hn hP hL ha hb).mp h)]
  · rw [if_neg (fun e => h ((CV0 hn hP hL ha hb).mpr e))]
theorem CVb (hn : n ≤ 7) (hP : PM n mv) (hL : RLx n cm mv) {a b : Nat} {v : Int32} (ha : a < 6) (hb : b < 6) (h : (v = nI 0 ∧ ∀ p, p < n → mv (a * 7 + p) = mv (b * 7 + p)) ∨ (v = nI 1 ∧ ¬ ∀ p, p < n → mv (a * 7 + p) = mv (b * 7 + p))) : v = (if cm b = cm a then nI 0 else nI 1) := by
  rcases h with ⟨rfl, h⟩ | ⟨rfl, h⟩
  · rw [if_pos ((CV0 hn hP hL ha hb).mp h).symm]
  · rw [if_neg (fun e => h ((CV0 hn hP hL ha hb).mpr e.symm))]
/-! what is asked of moves -/
theorem Mv.seven {x : Nat} (hn : n ≤ 7) (h : Mv n x) : Mv 7 x := ⟨h.1, h.P7 hn, fun p h1 h2 => by omega⟩
theorem QO (hn : n ≤ 7) (hP : PM n mv) (hL : RLx n cm mv) {a : Nat} (ha : a < 6) : oC (cm a) = olc (lF (fun p => mv (a * 7 + p)) n) n := by
  have hM := RLx_M hn hL hP a ha
  refine order_is hn hM (fun p hp => ?_)
  rw [lF_ln hn hM (fun q hq => (RLx_d hn hL hP ha hq).symm) hp]
  exact (lF_ln (Nat.le_refl 7) (hM.seven hn) (fun q _ => rfl) (show p < 7 by omega)).symm
theorem QS (hn : n ≤ 7) (hP : PM n mv) (hL : RLx n cm mv) {a : Nat} (ha : a < 6) : sg n (cm a) = sgv (iv mv (a * 7) n) :=
  congrArg sgv (iv_congr (f := mv) (fr := a * 7) (m := n) (fun p hp => (RLx_d hn hL hP ha hp).symm) n (Nat.le_refl n)).symm
theorem QA (hn : n ≤ 7) (hP : PM n mv) (hL : RLx n cm mv) {a b : Nat} {v : Int32} (ha : a < 6) (hb : b < 6)
    (h : (v = nI 1 ∧ ∀ L, 1 ≤ L → L ≤ n → lo (fun p => mv (a * 7 + p)) n L n / L = lo (fun p => mv (b * 7 + p)) n L n / L) ∨ (v = nI 0 ∧ ¬ ∀ L, 1 ≤ L → L ≤ n → lo (fun p => mv (a * 7 + p)) n L n / L = lo (fun p => mv (b * 7 + p)) n L n / L)) : v = nI (on (LK (cm a) (cm b))) := by
  have hM := RLx_M hn hL hP
  have hk := LK_lo hn (hM a ha) (hM b hb) (fun q hq => (RLx_d hn hL hP ha hq).symm) (fun q hq => (RLx_d hn hL hP hb hq).symm)
  rcases h with ⟨rfl, h⟩ | ⟨rfl, h⟩
  · rw [on_t (hk.mpr h)]
  · rw [on_f (fun e => h (hk.mp e))]
theorem QC (hn : n ≤ 7) (hP : PM n mv) (hL : RLx n cm mv) {a b : Nat} {v : Int32} (ha : a < 6) (hb : b < 6)
    (h : (v = nI 1 ∧ ∀ p, p < n → mv (b * 7 + mv (a * 7 + p)) = mv (a * 7 + mv (b * 7 + p))) ∨ (v = nI 0 ∧ ¬ ∀ p, p < n → mv (b * 7 + mv (a * 7 + p)) = mv (a * 7 + mv (b * 7 + p)))) : v = (if c7 (cm a) (cm b) = c7 (cm b) (cm a) then nI 1 else nI 0) := by
  have hM := RLx_M hn hL hP
  have hd : ∀ {x y p : Nat}, x < 6 → y < 6 → p < n → d8 (c7 (cm x) (cm y)) p = mv (y * 7 + mv (x * 7 + p)) := fun {x y p} hx hy hp => by
    rw [c7_d (by omega), RLx_d hn hL hP hx hp, RLx_d hn hL hP hy ((hP x hx).1 p hp)]
  have hk : (∀ p, p < n → mv (b * 7 + mv (a * 7 + p)) = mv (a * 7 + mv (b * 7 + p))) ↔ c7 (cm a) (cm b) = c7 (cm b) (cm a) := by
    refine ⟨fun h => (c7_Mv hn (hM a ha) (hM b hb)).ext (c7_Mv hn (hM b hb) (hM a ha)) (fun p hp => ?_), fun e p hp => ?_⟩
    · rw [hd ha hb hp, hd hb ha hp]; exact h p hp
    · rw [← hd ha hb hp, ← hd hb ha hp, e]
  rcases h with ⟨rfl, h⟩ | ⟨rfl, h⟩
  · rw [if_pos (hk.mp h)]
  · rw [if_neg (fun e => h (hk.mpr e))]
theorem hs_v {a : Nat} {x y z : Int32} (h : a < 3) : (if nI a = nI 0 then x else if nI a = nI 1 then y else z) = (if a = 0 then x else if a = 1 then y else z) := by
  match a, h with
  | 0, _ => rfl
  | 1, _ => rfl
  | 2, _ => rfl
end VALS
/-! what is asked of groups: the reference's group is the house's -/
section GRPS
variable {n : Nat} {cm mv : Nat → Nat}
theorem QG_size (hn1 : 2 ≤ n) (hn : n ≤ 7) (hL : RLx n cm mv) {s : Nat} {v : Int32} (hv : v = nI (cd n (Gg n (gS (mW n mv) s 6)))) : v = nI (cd n (Gg n (gS cm s 6))) :=
  hv.trans (congrArg nI (cd_RL (by omega) hn hL s))
theorem QG_reach (hn1 : 2 ≤ n) (hn : n ≤ 7) (hP : PM n mv) (hL : RLx n cm mv) {s b c : Nat} {v : Int32} (hb : b < 6) (hc : c < n) (hv : v = nI (sBv (RP n (Gg n (gS (mW n mv) s 6)) (fun j => mv (b * 7 + j)) c) n)) : v = nI (sBv (RP n (Gg n (gS cm s 6)) (d8 (cm b)) c) n) := by
  have e : ∀ j, j < n → mv (b * 7 + j) = d8 (cm b) j := fun j hj => (RLx_d hn hL hP hb hj).symm
  refine hv.trans (congrArg nI (sBv_congr (fun w _ => ⟨fun ⟨x, h1, h2, h3, h4⟩ => ⟨x, h1, (Gg_RL hL s x).mp h2, fun j hj => ?_, ?_⟩, fun ⟨x, h1, h2, h3, h4⟩ => ⟨x, h1, (Gg_RL hL s x).mpr h2, fun j hj => ?_, ?_⟩⟩)))
  · have this : d8 x (mv (b * 7 + j)) = mv (b * 7 + j) := h3 j hj
    rw [e j (by omega)] at this
    exact this
  · rw [← e c hc]; exact h4
  · show d8 x (mv (b * 7 + j)) = mv (b * 7 + j)
    rw [e j (by omega)]; exact h3 j hj
  · show d8 x (mv (b * 7 + c)) = w
    rw [e c hc]; exact h4
theorem QG_all (hL : RLx n cm mv) {s e : Nat} : (∀ c, c < 6 → s.testBit c = true → Gg n (gS (mW n mv) e 6) (mW n mv c)) ↔ (∀ c, c < 6 → s.testBit c = true → Gg n (gS cm e 6) (cm c)) :=
  ⟨fun h c hc hs => by rw [← RLx_mW hL hc]; exact (Gg_RL hL e _).mp (h c hc hs), fun h c hc hs => by rw [RLx_mW hL hc]; exact (Gg_RL hL e _).mpr (h c hc hs)⟩
theorem QG_part (hL : RLx n cm mv) {s e : Nat} {v : Int32} (hv : (v = nI 0 ∧ ¬ ∀ c, c < 6 → s.testBit c = true → Gg n (gS (mW n mv) e 6) (mW n mv c)) ∨ (v = nI 1 ∧ ∀ c, c < 6 → s.testBit c = true → Gg n (gS (mW n mv) e 6) (mW n mv c))) : v = nI (on (∀ c, c < 6 → s.testBit c = true → Gg n (gS cm e 6) (cm c))) := by
  rcases hv with ⟨rfl, h⟩ | ⟨rfl, h⟩
  · rw [on_f (fun q => h ((QG_all hL).mpr q))]
  · rw [on_t ((QG_all hL).mp h)]
theorem QG_shares (hn1 : 2 ≤ n) (hn : n ≤ 7) (hL : RLx n cm mv) {s e : Nat} {v : Int32} (hv : (v = (-9) ∧ ¬ ∀ c, c < 6 → s.testBit c = true → Gg n (gS (mW n mv) e 6) (mW n mv c)) ∨ ((∀ c, c < 6 → s.testBit c = true → Gg n (gS (mW n mv) e 6) (mW n mv c)) ∧ v = nI (cd n (Gg n (gS (mW n mv) e 6)) / cd n (Gg n (gS (mW n mv) s 6))))) :
    v = ppI (∀ c, c < 6 → s.testBit c = true → Gg n (gS cm e 6) (cm c)) (nI (cd n (Gg n (gS cm e 6)) / cd n (Gg n (gS cm s 6)))) (-9) := by
  rcases hv with ⟨hv, h⟩ | ⟨h, hv⟩
  · rw [ppI_f (fun q => h ((QG_all hL).mpr q))]; exact hv
  · rw [ppI_t ((QG_all hL).mp h), ← cd_RL (by omega) hn hL e, ← cd_RL (by omega) hn hL s]; exact hv
theorem QG_cd (hn1 : 2 ≤ n) (hn : n ≤ 7) (hL : RLx n cm mv) {s : Nat} {P : Nat → Prop} : cd n (fun x => Gg n (gS (mW n mv) s 6) x ∧ P x) = cd n (fun x => Gg n (gS cm s 6) x ∧ P x) :=
  cd_iff (by omega) hn (fun x _ => and_congr (Gg_RL hL s x) Iff.rfl)
theorem QG_rank (hn1 : 2 ≤ n) (hn : n ≤ 7) (hP : PM n mv) (hL : RLx n cm mv) {s b c : Nat} {v : Int32} (hb : b < 6) (hc : c < 6)
    (hv : (v = (-1) ∧ ¬ Gg n (gS (mW n mv) s 6) (mW n mv c)) ∨ (Gg n (gS (mW n mv) s 6) (mW n mv c) ∧ v = nI (cd n (fun x => Gg n (gS (mW n mv) s 6) x ∧ LSr n (fun j => mv (b * 7 + j)) (d8 x) (d8 (mW n mv c)))))) :
    v = rkI (Gg n (gS cm s 6) (cm c)) (rkS n (Gg n (gS cm s 6)) (d8 (cm b)) (cm c) n) := by
  have e : ∀ j, j < n → mv (b * 7 + j) = d8 (cm b) j := fun j hj => (RLx_d hn hL hP hb hj).symm
  have hcd : cd n (fun x => Gg n (gS (mW n mv) s 6) x ∧ LSr n (fun j => mv (b * 7 + j)) (d8 x) (d8 (mW n mv c))) = rkS n (Gg n (gS cm s 6)) (d8 (cm b)) (cm c) n := by
    rw [rkS_is (by omega) hn, RLx_mW hL hc]
    refine cd_iff (by omega) hn (fun x _ => and_congr (Gg_RL hL s x) ⟨fun ⟨l, hl, a, q⟩ => ⟨l, hl, fun j hj => ?_, ?_⟩, fun ⟨l, hl, a, q⟩ => ⟨l, hl, fun j hj => ?_, ?_⟩⟩)
    · have this : d8 x (mv (b * 7 + j)) = d8 (cm c) (mv (b * 7 + j)) := a j hj
      rw [e j (by omega)] at this
      exact this
    · have q : d8 x (mv (b * 7 + l)) < d8 (cm c) (mv (b * 7 + l)) := q
      rw [e l hl] at q
      exact q
    · show d8 x (mv (b * 7 + j)) = d8 (cm c) (mv (b * 7 + j))
      rw [e j (by omega)]; exact a j hj
    · show d8 x (mv (b * 7 + l)) < d8 (cm c) (mv (b * 7 + l))
      rw [e l hl]; exact q
  have hg : Gg n (gS (mW n mv) s 6) (mW n mv c) ↔ Gg n (gS cm s 6) (cm c) := by
    rw [RLx_mW hL hc]
    exact Gg_RL hL s _
  unfold rkI
  rcases hv with ⟨hv, h⟩ | ⟨h, hv⟩
  · exact hv.trans (@if_neg _ (Classical.propDecidable _) (fun q => h (hg.mpr q)) _ _ _).symm
  · rw [hcd] at hv
    exact hv.trans (@if_pos _ (Classical.propDecidable _) (hg.mp h) _ _ _).symm
theorem QG_isIn (hL : RLx n cm mv) {s b : Nat} {v : Int32} (hb : b < 6) (hv : (v = nI 0 ∧ ¬ Gg n (gS (mW n mv) s 6) (mW n mv b)) ∨ (v = nI 1 ∧ Gg n (gS (mW n mv) s 6) (mW n mv b))) : v = nI (on (Gg n (gS cm s 6) (cm b))) := by
  rw [RLx_mW hL hb] at hv
  rcases hv with ⟨rfl, h⟩ | ⟨rfl, h⟩
  · rw [on_f (fun q => h ((Gg_RL hL s _).mpr q))]
  · rw [on_t ((Gg_RL hL s _).mp h)]
theorem lsK_iff {P Q : Nat → Prop} : ∀ k i, (∀ j, P j ↔ Q j) → lsK P k i = lsK Q k i := fun k i h => by
  rw [show P = Q from funext (fun j => propext (h j))]
theorem QG_share (hn1 : 2 ≤ n) (hn : n ≤ 7) (hP : PM n mv) (hL : RLx n cm mv) {s b : Nat} {v : Int32} (hb : b < 6) (hv : v = nI (lsN n (Gg n (gS (mW n mv) s 6)) (mW n mv b))) : v = nI (lsN n (Gg n (gS cm s 6)) (cm b)) := by
  refine hv.trans (congrArg nI ?_)
  rw [RLx_mW hL hb]
  unfold lsN
  exact lsK_iff _ _ (fun k => ⟨fun ⟨x, a, q, e⟩ => ⟨x, a, (Gg_RL hL s x).mp q, e⟩, fun ⟨x, a, q, e⟩ => ⟨x, a, (Gg_RL hL s x).mpr q, e⟩⟩)
end GRPS
/-! what is asked of points: the reference's is the house's -/
section PNTS
variable {n s : Nat} {cm mv : Nat → Nat}
theorem Om_RL (hn : n ≤ 7) (hP : PM n mv) (hL : RLx n cm mv) {p q : Nat} : Omr n mv s p q ↔ Om n cm s p q :=
  ⟨fun h H h1 h2 => h H h1 (fun x k hx hk hs hH => by rw [← RLx_d hn hL hP hk hx]; exact h2 x k hx hk hs hH), fun h H h1 h2 => h H h1 (fun x k hx hk hs hH => by rw [RLx_d hn hL hP hk hx]; exact h2 x k hx hk hs hH)⟩
theorem Bc_RL (hn : n ≤ 7) (hP : PM n mv) (hL : RLx n cm mv) {a b p q : Nat} : Bcr n mv s a b p q ↔ Bc n cm s a b p q :=
  ⟨fun h R h0 h1 h2 => h R h0 h1 (fun x y k hx hy hk hs hH => by rw [← RLx_d hn hL hP hk hx, ← RLx_d hn hL hP hk hy]; exact h2 x y k hx hy hk hs hH), fun h R h0 h1 h2 => h R h0 h1 (fun x y k hx hy hk hs hH => by rw [RLx_d hn hL hP hk hx, RLx_d hn hL hP hk hy]; exact h2 x y k hx hy hk hs hH)⟩
theorem QG_comes (hn1 : 2 ≤ n) (hn : n ≤ 7) (hP : PM n mv) (hL : RLx n cm mv) {b : Nat} {v : Int32} (_ : b < n) (hv : v = nI (sBv (Omr n mv s b) n)) : v = nI (sBv (Om n cm s b) n) :=
  hv.trans (congrArg nI (sBv_congr (fun _ _ => Om_RL hn hP hL)))
theorem QG_pieces (hn1 : 2 ≤ n) (hn : n ≤ 7) (hP : PM n mv) (hL : RLx n cm mv) {v : Int32} (hv : v = nI (ct (fun p => ∀ q, q < p → ¬ Omr n mv s p q) n)) : v = nI (ct (fun p => ∀ q, q < p → ¬ Om n cm s p q) n) :=
  hv.trans (congrArg nI (ct_iff (fun p _ => ⟨fun h q hq e => h q hq ((Om_RL hn hP hL).mpr e), fun h q hq e => h q hq ((Om_RL hn hP hL).mp e)⟩)))
theorem QG_together (hn1 : 2 ≤ n) (hn : n ≤ 7) (hP : PM n mv) (hL : RLx n cm mv) {b c : Nat} {v : Int32} (_ : b < n) (_ : c < n) (hv : v = nI (sBv (Bcr n mv s b c b) n)) : v = nI (sBv (Bc n cm s b c b) n) :=
  hv.trans (congrArg nI (sBv_congr (fun _ _ => Bc_RL hn hP hL)))
theorem QG_blocks (hn1 : 2 ≤ n) (hn : n ≤ 7) (hP : PM n mv) (hL : RLx n cm mv) {b c : Nat} {v : Int32} (_ : b < n) (_ : c < n) (hv : v = nI (ct (fun p => ∀ q, q < p → ¬ Bcr n mv s b c p q) n)) : v = nI (ct (fun p => ∀ q, q < p → ¬ Bc n cm s b c p q) n) :=
  hv.trans (congrArg nI (ct_iff (fun p _ => ⟨fun h q hq e => h q hq ((Bc_RL hn hP hL).mpr e), fun h q hq e => h q hq ((Bc_RL hn hP hL).mp e)⟩)))
end PNTS
/-! all cells of the house, out of their shapes and back -/
theorem AU_of {S : StX} {w : List jC} (h : LCx S w) : AU w := by
  obtain ⟨_, _, _, _, a6⟩ := h
  obtain ⟨_, c2, a, f, b, g, rfl, b1, b2⟩ := a6 2 _ rfl
  obtain ⟨_, c3, x3, rfl, l3⟩ := a6 3 _ rfl
  obtain ⟨_, c4, x4, rfl, l4⟩ := a6 4 _ rfl
  obtain ⟨_, c5, x5, rfl, l5⟩ := a6 5 _ rfl
  obtain ⟨_, c6, x6, rfl, l6⟩ := a6 6 _ rfl
  obtain ⟨_, c7, x7, rfl, l7⟩ := a6 7 _ rfl
  obtain ⟨_, c8, wn, rfl, b3⟩ := a6 8 _ rfl
  obtain ⟨_, c9, mn, rfl, b4⟩ := a6 9 _ rfl
  obtain ⟨_, c10, x10, rfl, l10⟩ := a6 10 _ rfl
  obtain ⟨_, c11, x11, rfl, l11⟩ := a6 11 _ rfl
  obtain ⟨_, c12, tn, rfl, b5⟩ := a6 12 _ rfl
  obtain ⟨_, c13, x13, rfl, l13⟩ := a6 13 _ rfl
  obtain ⟨_, c14, pc, qn, rfl, b6, b7, b8⟩ := a6 14 _ rfl
  obtain ⟨_, c15, qm, rfl, b9⟩ := a6 15 _ rfl
  obtain ⟨_, c16, x16, rfl, l16⟩ := a6 16 _ rfl
  obtain ⟨_, c17, x17, rfl, l17⟩ := a6 17 _ rfl
  obtain ⟨_, c18, x18, rfl, l18⟩ := a6 18 _ rfl
  rw [aF_of l3] at c3
  rw [aF_of l4] at c4
  rw [aF_of l5] at c5
  rw [aF_of l6] at c6
  rw [aF_of l7] at c7
  rw [aF_of l10] at c10
  rw [aF_of l13] at c13
  rw [aF_of l16] at c16
  rw [aF_of l18] at c18
  rw [nI_self b, nI_self g] at c2
  exact ⟨_, _, _, _, _, _, _, _, _, _, _, _, _, _, _, _, _, _, _, _, _, ⟨c2, c3, c4, c5, c6, c7⟩, ⟨c8, c9, c10, c11, l11⟩, ⟨c12, c13⟩, ⟨c14, c15, c16, c17, c18, l17⟩, b1, b2, b4, b3, b5, ⟨b6, b7⟩, b8, b9⟩
theorem LI.all {o : Nat} {S S2 S' : StX} {w w' : List jC} (h : LI o S S' w) (hH : HX S2.1 S2.2.1 S2.2.2.1 S2.2.2.2.1 S2.2.2.2.2 w') (hF : F19 w w') (hA : AU w') (h1 : 2 ≤ S2.1) (h2 : S2.1 ≤ 7) (hM : ∀ c, c < 6 → Mv S2.1 (S2.2.2.2.2 c)) : LI o S2 S' w' := by
  obtain ⟨t, ⟨_, _, _, _, a6⟩, a2, a3⟩ := h
  obtain ⟨st, sv, rc, sz, kw, ns, tk, ro, nn, ml, tg, mn, wn, po, tn, ql, qt, pw, qm, pc, qn, ⟨c2, c3, c4, c5, c6, c7⟩, ⟨c8, c9, c10, c11, l11⟩, ⟨c12, c13⟩, ⟨c14, c15, c16, c17, c18, l17⟩, b1, b2, b4, b3, b5, ⟨b6, b7⟩, b8, b9⟩ := hA
  refine ⟨t, ⟨h1, h2, hM, hH, fun i p hp => ?_⟩, a2.fr hF, a3.fr hF⟩
  match i, hp with
  | 0, hp => cases hp; exact ⟨_, hH.1, rfl⟩
  | 1, hp => cases hp; exact ⟨_, hH.2, tA_aF⟩
  | 2, hp => cases hp; exact ⟨_, c2, ns, nn, nI tk, nI ro, rfl, b1, b2⟩
  | 3, hp => cases hp; exact ⟨_, c3, tA_aF⟩
  | 4, hp => cases hp; exact ⟨_, c4, tA_aF⟩
  | 5, hp => cases hp; exact ⟨_, c5, tA_aF⟩
  | 6, hp => cases hp; exact ⟨_, c6, tA_aF⟩
  | 7, hp => cases hp; exact ⟨_, c7, tA_aF⟩
  | 8, hp => cases hp; exact ⟨_, c8, wn, rfl, b3⟩
  | 9, hp => cases hp; exact ⟨_, c9, mn, rfl, b4⟩
  | 10, hp => cases hp; exact ⟨_, c10, tA_aF⟩
  | 11, hp => cases hp; exact ⟨_, c11, ml, rfl, l11⟩
  | 12, hp => cases hp; exact ⟨_, c12, tn, rfl, b5⟩
  | 13, hp => cases hp; exact ⟨_, c13, tA_aF⟩
  | 14, hp => cases hp; exact ⟨_, c14, pc, qn, rfl, b6, b7, b8⟩
  | 15, hp => cases hp; exact ⟨_, c15, qm, rfl, b9⟩
  | 16, hp => cases hp; exact ⟨_, c16, tA_aF⟩
  | 17, hp => cases hp; exact ⟨_, c17, ql, rfl, l17⟩
  | 18, hp => cases hp; exact ⟨_, c18, tA_aF⟩
  | i + 19, hp =>
    obtain ⟨c, hc, h2⟩ := a6 (i + 19) p hp
    exact ⟨c, (hF.2 (i + 19) (by omega) (gl hc)).trans hc, h2⟩
end
section
/-! the law's tools -/
abbrev mL_law : jM := (yL_law, cL_law, 7, some .boolean, [])
theorem LI.lo {o : Nat} {S S' : StX} {w : List jC} (h : LI o S S' w) : LO o w := by
  obtain ⟨t, h⟩ := h
  exact h.2.2
theorem LI.bd {o : Nat} {S S' : StX} {w : List jC} (h : LI o S S' w) : 2 ≤ S.1 ∧ S.1 ≤ 7 ∧ ∀ c, c < 6 → Mv S.1 (S.2.2.2.2 c) := by
  obtain ⟨t, h⟩ := h
  exact ⟨h.1.1, h.1.2.1, h.1.2.2.1⟩
theorem LCx.kn {S : StX} {w w' : List jC} (h : LCx S w) (hS : SH (rX S.1 S.2.1 S.2.2.1 (S.2.2.2.1 + nI 1)) w') (hF : Fr kX w w') : LCx (KS S) w' := by
  obtain ⟨a1, a2, a3, ⟨a4, a5⟩, a6⟩ := h
  obtain ⟨_, hc, rfl⟩ := hS 0 _ rfl
  exact ⟨a1, a2, a3, ⟨hc, (hF.2 1 (Or.inl rfl) (gl a5)).trans a5⟩, hS⟩
theorem two {fs : List Value} (h : fs.length = 2) : ∃ a s, fs = [a, s] := by
  match fs, h with
  | [a, s], _ => exact ⟨a, s, rfl⟩
theorem lg_same {x y : Int64} (e : x = y) : lg_cmp x y = 0 := by
  subst e
  unfold lg_cmp
  rw [if_neg Int64.lt_irrefl, if_pos rfl]
theorem AG.D0 {G1 G2 : Prop} {D : Int32 → StX → Prop} {S a : StX} {v : Int32} (h : AG G1 G2 D S 0 v a) : D v a := by
  rcases h with ⟨e, _⟩ | ⟨e, _⟩ | ⟨_, _, _, s⟩
  · omega
  · omega
  · exact s
theorem AG.D1 {G1 G2 : Prop} {D : Int32 → StX → Prop} {S a : StX} {k : Nat} {v : Int32} (h : AG G1 G2 D S k v a) (e : k = 0) : D v a := by
  subst e
  exact h.D0
section JLAW
variable {X : jX} {M : jM} {d kc ks pc : Nat} {L : List (Option Value)} {st as : List Value} {w : List jC} {Q : jQ}
theorem uI {P : Int32 → Prop} {R R' : List jC → Prop} {RX RX' : String → List jC → Prop} (h : jMet X M d kc ks as w (pX (pI P R) RX)) (hR : ∀ w', R w' → R' w') (hX : ∀ E w', RX E w' → RX' E w') : jMet X M d kc ks as w (pX (pI (fun _ => True) R') RX') := h.mono (fun o w' hq => by
  match o, hq with
  | .inl (some (.int v)), hq => exact ⟨trivial, hR w' hq.2⟩
  | .inr E, hq => exact hX E w' hq)
theorem uI0 {P : Int32 → Prop} {R R' : List jC → Prop} (h : jMet X M d kc ks as w (pI P R)) (hR : ∀ w', R w' → R' w') : jMet X M d kc ks as w (pI (fun _ => True) R') := h.mono (fun o w' hq => by
  match o, hq with
  | .inl (some (.int v)), hq => exact ⟨trivial, hR w' hq.2⟩)
theorem uI1 {P P' : Int32 → Prop} {R R' : List jC → Prop} (h : jMet X M d kc ks as w (pI P R)) (hP : ∀ v, P v → P' v) (hR : ∀ w', R w' → R' w') : jMet X M d kc ks as w (pI P' R') := h.mono (fun o w' hq => by
  match o, hq with
  | .inl (some (.int v)), hq => exact ⟨hP v hq.1, hR w' hq.2⟩)
theorem uJX {P : Int32 → Prop} {R : List jC → Prop} {R' : Int32 → List jC → Prop} {RX RX' : String → List jC → Prop} (h : jMet X M d kc ks as w (pX (pI P R) RX)) (hR : ∀ v w', P v → R w' → R' v w') (hX : ∀ E w', RX E w' → RX' E w') : jMet X M d kc ks as w (pX (pJ R') RX') := h.mono (fun o w' hq => by
  match o, hq with
  | .inl (some (.int v)), hq => exact hR v w' hq.1 hq.2
  | .inr E, hq => exact hX E w' hq)
theorem uJ {P : Int32 → Prop} {R : List jC → Prop} {R' : Int32 → List jC → Prop} (h : jMet X M d kc ks as w (pI P R)) (hR : ∀ v w', P v → R w' → R' v w') : jMet X M d kc ks as w (pJ R') := h.mono (fun o w' hq => by
  match o, hq with
  | .inl (some (.int v)), hq => exact hR v w' hq.1 hq.2)
theorem uA {R R' : Nat → List jC → Prop} {RX RX' : String → List jC → Prop} (h : jMet X M d kc ks as w (pX (pA R) RX)) (hR : ∀ a w', R a w' → R' a w') (hX : ∀ E w', RX E w' → RX' E w') : jMet X M d kc ks as w (pX (pA R') RX') := h.mono (fun o w' hq => by
  match o, hq with
  | .inl (some (.ref a)), hq => exact hR a w' hq
  | .inr E, hq => exact hX E w' hq)
theorem uA0 {R R' : Nat → List jC → Prop} (h : jMet X M d kc ks as w (pA R)) (hR : ∀ a w', R a w' → R' a w') : jMet X M d kc ks as w (pA R') := h.mono (fun o w' hq => by
  match o, hq with
  | .inl (some (.ref a)), hq => exact hR a w' hq)
theorem uL0 {P : Int64 → Prop} {R R' : List jC → Prop} (h : jMet X M d kc ks as w (pL P R)) (hR : ∀ w', R w' → R' w') : jMet X M d kc ks as w (pL (fun _ => True) R') := h.mono (fun o w' hq => by
  match o, hq with
  | .inl (some (.long v)), hq => exact ⟨trivial, hR w' hq.2⟩)
theorem J_putN {ci : Nat} {C host : String} {T : u_T} {N : Nat} {ty : Nat → FieldType} {index k a : Nat} {fs : List Value} {v : Value} (hdg : decode M.2.1 pc = .ok (.putfield index, 3)) (hC : jCl ci C T N ty) (hk : k < N) (hl : Cond.fieldLinkNest M.1.cls index (T k).1 (T k).2.1 (T k).2.2.1 host ∈ jK)
    (hfin : (T k).2.2.2 = false) (hfit : jFit (ty k) v) (hw : w[a]? = some (.inr (ci, fs))) (hlen : k < fs.length)
    (kk : ∀ w' : List jC, w'.length = w.length → w'[a]? = some (.inr (ci, fs.set k v)) → (∀ c, c ≠ a → w'[c]? = w[c]?) → J X M d kc ks (pc + 3) L st w' Q) : J X M d kc ks pc L (v :: .ref a :: st) w Q := by
  have kk := kk (w.set a (.inr (ci, fs.set k v))) List.length_set (List.getElem?_set_self (gl hw)) (fun c hc => List.getElem?_set_ne (fun e => hc e.symm))
  intro p e R s m args below meth c C9 H locs cells slots ls hH hS hL h1 h2
  have hA := C9.2.2.2.2.2.2.2.2.1
  have hP := jH_at hH hw (fun fs' e => by have := hC.2.2.2.2; cases e; exact absurd this (Nat.lt_irrefl 99))
  have hts : ∀ w9 ∈ jK, w9.before args s = true := fun w9 hw9 => hA.word hw9 args
  have hap := va_apart (own := M.1.cls) hts hC.2.1 ty hC.2.2.1 hC.2.2.2.1 hA.2.1 hC.1
  obtain ⟨r, e1, cell, q1, q2, q3, q4⟩ := hP 0 _ rfl
  have hr : r = (C, T, N) := Option.some.inj (e1.symm.trans hC.1)
  subst hr
  obtain ⟨hSl, hfc, kC, hkC, hkind⟩ := hA.2.1.1 ci _ hC.1
  obtain ⟨cf, kf, fi, f, hi, hsl⟩ := hSl k hk
  have hlay := hts _ (hC.2.1 _ (u_in_lay hk))
  have hst := (u_facts hfc hkC (u_lays hts hC.2.1 hk) hi).1
  obtain ⟨f1, f2⟩ := jFit_spec (X := X) hfit
  have key : ∀ H' : Heap, H'[X.2.1 + a]? = some (cell.setSlot f.slot (jT X v)) → H'.size = H.size → (∀ q, q ≠ X.2.1 + a → H'[q]? = H[q]?) →
      W p X.1 e R s m args below meth c H' (locs ++ [⟨X.2.1 + a, f.slot⟩]) cells slots (jEnd X Q below args s R) (F0 m (pc + 3) ls (st.map (jT X))) := by
    intro H' g1 g2 g3
    rw [hsl] at g1 ⊢
    refine kk p e R s m args below meth c C9 H' _ cells slots ls (jH_set hH hw g2 g3 ?_) (hS.put g2 g3 (show jA X (X.2.1 + a) from Nat.le_add_right _ _)) hL h1 h2
    exact ⟨_, hC.1, t_OB.to (V := updV (vp_V (fs.map (jT X))) k (jT X v)) ⟨_, g1, q2, q3, t_set q4 hap hk (jT X v)⟩ (fun j _ => jV_set hlen j)⟩
  unfold u_lay at hlay
  rw [if_neg (by rw [hfin]; decide)] at hlay
  have h6 := u_store hfc hkC hkind hlay hi (hC.2.2.1 k hk) f1 f2
  exact va_WputK C9.1 C9.2.1 (f := f) C9.2.2.2.1 (hA.word hl args) hi hst (by rw [q2]; exact h6) q1 q3 (by rw [hsl]; exact k2_hasslot (q4 k hk)) rfl rfl hdg key
theorem J_pop2 {v : Value} (hdg : decode M.2.1 pc = .ok (.pop2, 1)) (hv : v.category = 2) (k : J X M d kc ks (pc + 1) L st w Q) : J X M d kc ks pc L (v :: st) w Q :=
  fun p e R s m args below meth c C H locs cells slots ls hH hS hL h1 h2 => lv_pop2_2 C.1 C.2.1 hdg (by rw [jT_cat]; exact hv) (k p e R s m args below meth c C H locs cells slots ls hH hS hL h1 h2)
end JLAW
theorem law_i {i Ls : Nat} (hL : Ls ≤ 320) (hi : i ≤ 400) (h : ¬ nI Ls - nI 5 < nI i) : i + 5 ≤ Ls := by
  have e1 : (nI Ls - nI 5).toInt = (Ls : Int) - 5 := by have := pk_sub_toInt (a := Ls) (b := 5) (by omega) (by omega); exact this
  have e2 : (nI i).toInt = (i : Int) := nI_toInt (by omega)
  rw [Int32.lt_iff_toInt_lt, e1, e2] at h
  omega
end
section
/-! the class's calls, in one form -/
set_option maxRecDepth 100000 in
set_option maxHeartbeats 4000000 in
theorem uu_points {X : jX} (hs : X.1.stackTraces = false) {d : Nat} (hd : 40 ≤ d) {o : Nat} {S S' : StX} {w : List jC} (hI : LI o S S' w) (p0 : Int32) {kc ks : Nat} (hkc : 1 ≤ kc) (hks : 6 ≤ ks) : jMet X mX6_points d kc ks [.ref 0, .int p0] w (pX (pJ (fun v w' => ∃ S2 : StX, AG (∃ k : Nat, 2 ≤ k ∧ k ≤ 7 ∧ p0 = nI k) (True) (Dpoints S p0) S 0 v S2 ∧ LI o S2 S' w')) (fun E w' => ((E = "java/lang/IllegalArgumentException" ∧ AG (∃ k : Nat, 2 ≤ k ∧ k ≤ 7 ∧ p0 = nI k) (True) (Dpoints S p0) S 1 0 S)) ∧ LI o S S' w')) := by
  have hJ := hI
  obtain ⟨t, hC, hR, hO⟩ := hJ
  obtain ⟨h1, h2, hM, hH, hS⟩ := id hC
  refine jJX (c_X6_points_atx hs (d := d) (by omega) hH h1 h2 hM p0 (by omega) (by omega)) (fun v w' h => ?_) (fun E w' h => ?_)
  · obtain ⟨k, ev, e1, k1, k2, hH2, hF⟩ := h
    exact ⟨_, Or.inr (Or.inr ⟨rfl, ⟨k, k1, k2, e1⟩, trivial, ⟨k, e1, k1, k2, ev, rfl⟩⟩), hI.act (S2 := (k, S.2.1 + nI 1, S.2.2.1, S.2.2.2.1, fun _ => 1754760)) hH2 hF k1 k2 (fun c _ => by show Mv k 1754760; rw [e7_M k2]; exact eM_Mv k2)⟩
  · obtain ⟨hE, hw⟩ := h
    obtain ⟨e, g⟩ := hE
    exact ⟨⟨e, Or.inl ⟨rfl, (fun ⟨k, k1, k2, e⟩ => g (by rw [e]; exact ⟨nI_le k1 (by omega), nI_le k2 (by decide)⟩)), rfl⟩⟩, hI.psh hw⟩
set_option maxRecDepth 100000 in
set_option maxHeartbeats 4000000 in
theorem uu_lay {X : jX} (hs : X.1.stackTraces = false) {d : Nat} (hd : 40 ≤ d) {o : Nat} {S S' : StX} {w : List jC} (hI : LI o S S' w) (p0 : Int32) (p1 : Int32) {kc ks : Nat} (hkc : 2 ≤ kc) (hks : 12 ≤ ks) : jMet X mX6_lay d kc ks [.ref 0, .int p0, .int p1] w (pX (pJ (fun v w' => ∃ S2 : StX, AG (isN p0 6) (isN p1 (fc S.1)) (Dlay S p0 p1) S 0 v S2 ∧ LI o S2 S' w')) (fun E w' => ((E = "java/lang/IndexOutOfBoundsException" ∧ AG (isN p0 6) (isN p1 (fc S.1)) (Dlay S p0 p1) S 1 0 S) ∨ (E = "java/lang/IllegalArgumentException" ∧ AG (isN p0 6) (isN p1 (fc S.1)) (Dlay S p0 p1) S 2 0 S)) ∧ LI o S S' w')) := by
  have hJ := hI
  obtain ⟨t, hC, hR, hO⟩ := hJ
  obtain ⟨h1, h2, hM, hH, hS⟩ := id hC
  refine jJX (c_X6_lay_atx hs (d := d) (by omega) hH h1 h2 hM p0 p1 (by omega) (by omega)) (fun v w' h => ?_) (fun E w' h => ?_)
  · obtain ⟨na, nb, ea, eb, ha, hb, ev, hH2, hF⟩ := h
    exact ⟨_, Or.inr (Or.inr ⟨rfl, ⟨na, ha, ea⟩, ⟨nb, hb, eb⟩, ⟨na, nb, ea, eb, ha, hb, ev, rfl⟩⟩), hI.act (S2 := ES S na (XM S.1 nb)) hH2 hF h1 h2 (ES_M hM (XM_Mv (by omega) h2 nb))⟩
  · obtain ⟨hE, hw⟩ := h
    rcases hE with ⟨e, g⟩ | ⟨e, g1, g2⟩
    · exact ⟨Or.inl ⟨e, Or.inl ⟨rfl, g, rfl⟩⟩, hI.psh hw⟩
    · exact ⟨Or.inr ⟨e, Or.inr (Or.inl ⟨rfl, g1, g2, rfl⟩)⟩, hI.psh hw⟩
set_option maxRecDepth 100000 in
set_option maxHeartbeats 4000000 in
theorem uu_exchange {X : jX} (hs : X.1.stackTraces = false) {d : Nat} (hd : 40 ≤ d) {o : Nat} {S S' : StX} {w : List jC} (hI : LI o S S' w) (p0 : Int32) (p1 : Int32) (p2 : Int32) {kc ks : Nat} (hkc : 3 ≤ kc) (hks : 18 ≤ ks) : jMet X mX6_exchange d kc ks [.ref 0, .int p0, .int p1, .int p2] w (pX (pJ (fun v w' => ∃ S2 : StX, AG (isN p0 6 ∧ isN p1 S.1 ∧ isN p2 S.1) (True) (Dexchange S p0 p1 p2) S 0 v S2 ∧ LI o S2 S' w')) (fun E w' => ((E = "java/lang/IndexOutOfBoundsException" ∧ AG (isN p0 6 ∧ isN p1 S.1 ∧ isN p2 S.1) (True) (Dexchange S p0 p1 p2) S 1 0 S)) ∧ LI o S S' w')) := by
  have hJ := hI
  obtain ⟨t, hC, hR, hO⟩ := hJ
  obtain ⟨h1, h2, hM, hH, hS⟩ := id hC
  refine jJX (c_X6_exchange_atx hs (d := d) (by omega) hH h1 h2 hM p0 p1 p2 (by omega) (by omega)) (fun v w' h => ?_) (fun E w' h => ?_)
  · obtain ⟨na, nb, nc, ea, eb, ec, ha, hb, hc, ev, hH2, hF⟩ := h
    exact ⟨_, Or.inr (Or.inr ⟨rfl, ⟨⟨na, ha, ea⟩, ⟨nb, hb, eb⟩, ⟨nc, hc, ec⟩⟩, trivial, ⟨na, nb, nc, ea, eb, ec, ha, hb, hc, ev, rfl⟩⟩), hI.act (S2 := ES S na (c7 (S.2.2.2.2 na) (w8 (w8 1754760 nb nc) nc nb))) hH2 hF h1 h2 (ES_M hM (c7_Mv h2 (hM na ha) (by rw [w8_2 h2 hb hc]; exact mkM_Mv h2 (sw2_Pn hb hc))))⟩
  · obtain ⟨hE, hw⟩ := h
    obtain ⟨e, g⟩ := hE
    exact ⟨⟨e, Or.inl ⟨rfl, g, rfl⟩⟩, hI.psh hw⟩
set_option maxRecDepth 100000 in
set_option maxHeartbeats 4000000 in
theorem uu_ring {X : jX} (hs : X.1.stackTraces = false) {d : Nat} (hd : 40 ≤ d) {o : Nat} {S S' : StX} {w : List jC} (hI : LI o S S' w) (p0 : Int32) (p1 : Int32) (p2 : Int32) (p3 : Int32) {kc ks : Nat} (hkc : 5 ≤ kc) (hks : 30 ≤ ks) : jMet X mX6_ring d kc ks [.ref 0, .int p0, .int p1, .int p2, .int p3] w (pX (pJ (fun v w' => ∃ S2 : StX, AG (isN p0 6 ∧ isN p1 S.1 ∧ isN p2 S.1 ∧ isN p3 S.1) (p1 ≠ p2 ∧ p2 ≠ p3 ∧ p3 ≠ p1) (Dring S p0 p1 p2 p3) S 0 v S2 ∧ LI o S2 S' w')) (fun E w' => ((E = "java/lang/IndexOutOfBoundsException" ∧ AG (isN p0 6 ∧ isN p1 S.1 ∧ isN p2 S.1 ∧ isN p3 S.1) (p1 ≠ p2 ∧ p2 ≠ p3 ∧ p3 ≠ p1) (Dring S p0 p1 p2 p3) S 1 0 S) ∨ (E = "java/lang/IllegalArgumentException" ∧ AG (isN p0 6 ∧ isN p1 S.1 ∧ isN p2 S.1 ∧ isN p3 S.1) (p1 ≠ p2 ∧ p2 ≠ p3 ∧ p3 ≠ p1) (Dring S p0 p1 p2 p3) S 2 0 S)) ∧ LI o S S' w')) := by
  have hJ := hI
  obtain ⟨t, hC, hR, hO⟩ := hJ
  obtain ⟨h1, h2, hM, hH, hS⟩ := id hC
  refine jJX (c_X6_ring_atx hs (d := d) (by omega) hH h1 h2 hM p0 p1 p2 p3 (by omega) (by omega)) (fun v w' h => ?_) (fun E w' h => ?_)
  · obtain ⟨na, nb, nc, nf, ea, eb, ec, ef, ha, hb, hc, hf, f1, f2, f3, ev, hH2, hF⟩ := h
    exact ⟨_, Or.inr (Or.inr ⟨rfl, ⟨⟨na, ha, ea⟩, ⟨nb, hb, eb⟩, ⟨nc, hc, ec⟩, ⟨nf, hf, ef⟩⟩, ⟨fun e => f1 (nI_uq eb (e.trans ec) hb hc), fun e => f2 (nI_uq ec (e.trans ef) hc hf), fun e => f3 (nI_uq ef (e.trans eb) hf hb)⟩, ⟨na, nb, nc, nf, ea, eb, ec, ef, ha, hb, hc, hf, ev, rfl⟩⟩), hI.act (S2 := ES S na (c7 (S.2.2.2.2 na) (w8 (w8 (w8 1754760 nb nc) nc nf) nf nb))) hH2 hF h1 h2 (ES_M hM (c7_Mv h2 (hM na ha) (by rw [w8_3 h2 hb hc hf]; exact mkM_Mv h2 (sw3_Pn hb hc hf f1 f2 f3))))⟩
  · obtain ⟨hE, hw⟩ := h
    rcases hE with ⟨e, g⟩ | ⟨e, g1, g2⟩
    · exact ⟨Or.inl ⟨e, Or.inl ⟨rfl, g, rfl⟩⟩, hI.psh hw⟩
    · exact ⟨Or.inr ⟨e, Or.inr (Or.inl ⟨rfl, g1, g2, rfl⟩)⟩, hI.psh hw⟩
set_option maxRecDepth 100000 in
set_option maxHeartbeats 4000000 in
theorem uu_turn {X : jX} (hs : X.1.stackTraces = false) {d : Nat} (hd : 40 ≤ d) {o : Nat} {S S' : StX} {w : List jC} (hI : LI o S S' w) (p0 : Int32) (p1 : Int32) {kc ks : Nat} (hkc : 2 ≤ kc) (hks : 12 ≤ ks) : jMet X mX6_turn d kc ks [.ref 0, .int p0, .int p1] w (pX (pJ (fun v w' => ∃ S2 : StX, AG (isN p0 6) ((-100) ≤ p1 ∧ p1 ≤ nI 100) (Dturn S p0 p1) S 0 v S2 ∧ LI o S2 S' w')) (fun E w' => ((E = "java/lang/IndexOutOfBoundsException" ∧ AG (isN p0 6) ((-100) ≤ p1 ∧ p1 ≤ nI 100) (Dturn S p0 p1) S 1 0 S) ∨ (E = "java/lang/IllegalArgumentException" ∧ AG (isN p0 6) ((-100) ≤ p1 ∧ p1 ≤ nI 100) (Dturn S p0 p1) S 2 0 S)) ∧ LI o S S' w')) := by
  have hJ := hI
  obtain ⟨t, hC, hR, hO⟩ := hJ
  obtain ⟨h1, h2, hM, hH, hS⟩ := id hC
  refine jJX (c_X6_turn_atx hs (d := d) (by omega) hH h1 h2 hM p0 p1 (by omega) (by omega)) (fun v w' h => ?_) (fun E w' h => ?_)
  · obtain ⟨na, ea, ha, f1, f2, ev, hH2, hF⟩ := h
    exact ⟨_, Or.inr (Or.inr ⟨rfl, ⟨na, ha, ea⟩, ⟨f1, f2⟩, ⟨na, ea, ha, ev, rfl⟩⟩), hI.act (S2 := ES S na (c7 (S.2.2.2.2 na) (bW (fun p => (p + tT S.1 p1) % S.1) S.1))) hH2 hF h1 h2 (ES_M hM (c7_Mv h2 (hM na ha) (by rw [bW_M h2 (Pn_rot (by omega) (fun _ _ => rfl)) _ (fun _ _ => rfl) (fun p _ => by have := Nat.mod_lt (p + tT S.1 p1) (show 0 < S.1 by omega); omega)]; exact mkM_Mv h2 (Pn_rot (by omega) (fun _ _ => rfl)))))⟩
  · obtain ⟨hE, hw⟩ := h
    rcases hE with ⟨e, g⟩ | ⟨e, g1, g2⟩
    · exact ⟨Or.inl ⟨e, Or.inl ⟨rfl, g, rfl⟩⟩, hI.psh hw⟩
    · exact ⟨Or.inr ⟨e, Or.inr (Or.inl ⟨rfl, g1, g2, rfl⟩)⟩, hI.psh hw⟩
set_option maxRecDepth 100000 in
set_option maxHeartbeats 4000000 in
theorem uu_mirror {X : jX} (hs : X.1.stackTraces = false) {d : Nat} (hd : 40 ≤ d) {o : Nat} {S S' : StX} {w : List jC} (hI : LI o S S' w) (p0 : Int32) {kc ks : Nat} (hkc : 1 ≤ kc) (hks : 6 ≤ ks) : jMet X mX6_mirror d kc ks [.ref 0, .int p0] w (pX (pJ (fun v w' => ∃ S2 : StX, AG (isN p0 6) (True) (Dmirror S p0) S 0 v S2 ∧ LI o S2 S' w')) (fun E w' => ((E = "java/lang/IndexOutOfBoundsException" ∧ AG (isN p0 6) (True) (Dmirror S p0) S 1 0 S)) ∧ LI o S S' w')) := by
  have hJ := hI
  obtain ⟨t, hC, hR, hO⟩ := hJ
  obtain ⟨h1, h2, hM, hH, hS⟩ := id hC
  refine jJX (c_X6_mirror_atx hs (d := d) (by omega) hH h1 h2 hM p0 (by omega) (by omega)) (fun v w' h => ?_) (fun E w' h => ?_)
  · obtain ⟨na, ea, ha, ev, hH2, hF⟩ := h
    exact ⟨_, Or.inr (Or.inr ⟨rfl, ⟨na, ha, ea⟩, trivial, ⟨na, ea, ha, ev, rfl⟩⟩), hI.act (S2 := ES S na (c7 (S.2.2.2.2 na) (bW (fun p => S.1 - 1 - p) S.1))) hH2 hF h1 h2 (ES_M hM (c7_Mv h2 (hM na ha) (by rw [bW_M h2 (Pn_rev (fun _ _ => rfl)) _ (fun _ _ => rfl) (fun p _ => by omega)]; exact mkM_Mv h2 (Pn_rev (fun _ _ => rfl)))))⟩
  · obtain ⟨hE, hw⟩ := h
    obtain ⟨e, g⟩ := hE
    exact ⟨⟨e, Or.inl ⟨rfl, g, rfl⟩⟩, hI.psh hw⟩
set_option maxRecDepth 100000 in
set_option maxHeartbeats 4000000 in
theorem uu_copy {X : jX} (hs : X.1.stackTraces = false) {d : Nat} (hd : 40 ≤ d) {o : Nat} {S S' : StX} {w : List jC} (hI : LI o S S' w) (p0 : Int32) (p1 : Int32) {kc ks : Nat} (hkc : 2 ≤ kc) (hks : 12 ≤ ks) : jMet X mX6_copy d kc ks [.ref 0, .int p0, .int p1] w (pX (pJ (fun v w' => ∃ S2 : StX, AG (isN p0 6 ∧ isN p1 6) (True) (Dcopy S p0 p1) S 0 v S2 ∧ LI o S2 S' w')) (fun E w' => ((E = "java/lang/IndexOutOfBoundsException" ∧ AG (isN p0 6 ∧ isN p1 6) (True) (Dcopy S p0 p1) S 1 0 S)) ∧ LI o S S' w')) := by
  have hJ := hI
  obtain ⟨t, hC, hR, hO⟩ := hJ
  obtain ⟨h1, h2, hM, hH, hS⟩ := id hC
  refine jJX (c_X6_copy_atx hs (d := d) (by omega) hH h1 h2 hM p0 p1 (by omega) (by omega)) (fun v w' h => ?_) (fun E w' h => ?_)
  · obtain ⟨na, nb, ea, eb, ha, hb, ev, hH2, hF⟩ := h
    exact ⟨_, Or.inr (Or.inr ⟨rfl, ⟨⟨na, ha, ea⟩, ⟨nb, hb, eb⟩⟩, trivial, ⟨na, nb, ea, eb, ha, hb, ev, rfl⟩⟩), hI.act (S2 := ES S nb (S.2.2.2.2 na)) hH2 hF h1 h2 (ES_M hM (hM na ha))⟩
  · obtain ⟨hE, hw⟩ := h
    obtain ⟨e, g⟩ := hE
    exact ⟨⟨e, Or.inl ⟨rfl, g, rfl⟩⟩, hI.psh hw⟩
set_option maxRecDepth 100000 in
set_option maxHeartbeats 4000000 in
theorem uu_swap {X : jX} (hs : X.1.stackTraces = false) {d : Nat} (hd : 40 ≤ d) {o : Nat} {S S' : StX} {w : List jC} (hI : LI o S S' w) (p0 : Int32) (p1 : Int32) {kc ks : Nat} (hkc : 2 ≤ kc) (hks : 12 ≤ ks) : jMet X mX6_swap d kc ks [.ref 0, .int p0, .int p1] w (pX (pJ (fun v w' => ∃ S2 : StX, AG (isN p0 6 ∧ isN p1 6) (True) (Dswap S p0 p1) S 0 v S2 ∧ LI o S2 S' w')) (fun E w' => ((E = "java/lang/IndexOutOfBoundsException" ∧ AG (isN p0 6 ∧ isN p1 6) (True) (Dswap S p0 p1) S 1 0 S)) ∧ LI o S S' w')) := by
  have hJ := hI
  obtain ⟨t, hC, hR, hO⟩ := hJ
  obtain ⟨h1, h2, hM, hH, hS⟩ := id hC
  refine jJX (c_X6_swap_atx hs (d := d) (by omega) hH h1 h2 hM p0 p1 (by omega) (by omega)) (fun v w' h => ?_) (fun E w' h => ?_)
  · obtain ⟨na, nb, ea, eb, ha, hb, ev, hH2, hF⟩ := h
    exact ⟨_, Or.inr (Or.inr ⟨rfl, ⟨⟨na, ha, ea⟩, ⟨nb, hb, eb⟩⟩, trivial, ⟨na, nb, ea, eb, ha, hb, ev, rfl⟩⟩), hI.act (S2 := (S.1, S.2.1 + nI 1, S.2.2.1, S.2.2.2.1, up (up S.2.2.2.2 na (S.2.2.2.2 nb)) nb (S.2.2.2.2 na))) hH2 hF h1 h2 (fun c hc => by show Mv S.1 (up (up S.2.2.2.2 na (S.2.2.2.2 nb)) nb (S.2.2.2.2 na) c); unfold up; split; exact hM _ ha; split; exact hM _ hb; exact hM _ hc)⟩
  · obtain ⟨hE, hw⟩ := h
    obtain ⟨e, g⟩ := hE
    exact ⟨⟨e, Or.inl ⟨rfl, g, rfl⟩⟩, hI.psh hw⟩
set_option maxRecDepth 100000 in
set_option maxHeartbeats 4000000 in
theorem uu_then {X : jX} (hs : X.1.stackTraces = false) {d : Nat} (hd : 40 ≤ d) {o : Nat} {S S' : StX} {w : List jC} (hI : LI o S S' w) (p0 : Int32) (p1 : Int32) (p2 : Int32) {kc ks : Nat} (hkc : 3 ≤ kc) (hks : 18 ≤ ks) : jMet X mX6_then d kc ks [.ref 0, .int p0, .int p1, .int p2] w (pX (pJ (fun v w' => ∃ S2 : StX, AG (isN p0 6 ∧ isN p1 6 ∧ isN p2 6) (True) (Dthen S p0 p1 p2) S 0 v S2 ∧ LI o S2 S' w')) (fun E w' => ((E = "java/lang/IndexOutOfBoundsException" ∧ AG (isN p0 6 ∧ isN p1 6 ∧ isN p2 6) (True) (Dthen S p0 p1 p2) S 1 0 S)) ∧ LI o S S' w')) := by
  have hJ := hI
  obtain ⟨t, hC, hR, hO⟩ := hJ
  obtain ⟨h1, h2, hM, hH, hS⟩ := id hC
  refine jJX (c_X6_then_atx hs (d := d) (by omega) hH h1 h2 hM p0 p1 p2 (by omega) (by omega)) (fun v w' h => ?_) (fun E w' h => ?_)
  · obtain ⟨na, nb, nc, ea, eb, ec, ha, hb, hc, ev, hH2, hF⟩ := h
    exact ⟨_, Or.inr (Or.inr ⟨rfl, ⟨⟨na, ha, ea⟩, ⟨nb, hb, eb⟩, ⟨nc, hc, ec⟩⟩, trivial, ⟨na, nb, nc, ea, eb, ec, ha, hb, hc, ev, rfl⟩⟩), hI.act (S2 := ES S nc (c7 (S.2.2.2.2 na) (S.2.2.2.2 nb))) hH2 hF h1 h2 (ES_M hM (c7_Mv h2 (hM na ha) (hM nb hb)))⟩
  · obtain ⟨hE, hw⟩ := h
    obtain ⟨e, g⟩ := hE
    exact ⟨⟨e, Or.inl ⟨rfl, g, rfl⟩⟩, hI.psh hw⟩
set_option maxRecDepth 100000 in
set_option maxHeartbeats 4000000 in
theorem uu_undo {X : jX} (hs : X.1.stackTraces = false) {d : Nat} (hd : 40 ≤ d) {o : Nat} {S S' : StX} {w : List jC} (hI : LI o S S' w) (p0 : Int32) (p1 : Int32) {kc ks : Nat} (hkc : 2 ≤ kc) (hks : 12 ≤ ks) : jMet X mX6_undo d kc ks [.ref 0, .int p0, .int p1] w (pX (pJ (fun v w' => ∃ S2 : StX, AG (isN p0 6 ∧ isN p1 6) (True) (Dundo S p0 p1) S 0 v S2 ∧ LI o S2 S' w')) (fun E w' => ((E = "java/lang/IndexOutOfBoundsException" ∧ AG (isN p0 6 ∧ isN p1 6) (True) (Dundo S p0 p1) S 1 0 S)) ∧ LI o S S' w')) := by
  have hJ := hI
  obtain ⟨t, hC, hR, hO⟩ := hJ
  obtain ⟨h1, h2, hM, hH, hS⟩ := id hC
  refine jJX (c_X6_undo_atx hs (d := d) (by omega) hH h1 h2 hM p0 p1 (by omega) (by omega)) (fun v w' h => ?_) (fun E w' h => ?_)
  · obtain ⟨na, nb, ea, eb, ha, hb, ev, hH2, hF⟩ := h
    exact ⟨_, Or.inr (Or.inr ⟨rfl, ⟨⟨na, ha, ea⟩, ⟨nb, hb, eb⟩⟩, trivial, ⟨na, nb, ea, eb, ha, hb, ev, rfl⟩⟩), hI.act (S2 := ES S nb (i7 (S.2.2.2.2 na))) hH2 hF h1 h2 (ES_M hM (i7_Mv h2 (hM na ha)))⟩
  · obtain ⟨hE, hw⟩ := h
    obtain ⟨e, g⟩ := hE
    exact ⟨⟨e, Or.inl ⟨rfl, g, rfl⟩⟩, hI.psh hw⟩
set_option maxRecDepth 100000 in
set_option maxHeartbeats 4000000 in
theorem uu_power {X : jX} (hs : X.1.stackTraces = false) {d : Nat} (hd : 40 ≤ d) {o : Nat} {S S' : StX} {w : List jC} (hI : LI o S S' w) (p0 : Int32) (p1 : Int32) (p2 : Int32) {kc ks : Nat} (hkc : 3 ≤ kc) (hks : 18 ≤ ks) : jMet X mX6_power d kc ks [.ref 0, .int p0, .int p1, .int p2] w (pX (pJ (fun v w' => ∃ S2 : StX, AG (isN p0 6 ∧ isN p2 6) ((-1000) ≤ p1 ∧ p1 ≤ nI 1000) (Dpower S p0 p1 p2) S 0 v S2 ∧ LI o S2 S' w')) (fun E w' => ((E = "java/lang/IndexOutOfBoundsException" ∧ AG (isN p0 6 ∧ isN p2 6) ((-1000) ≤ p1 ∧ p1 ≤ nI 1000) (Dpower S p0 p1 p2) S 1 0 S) ∨ (E = "java/lang/IllegalArgumentException" ∧ AG (isN p0 6 ∧ isN p2 6) ((-1000) ≤ p1 ∧ p1 ≤ nI 1000) (Dpower S p0 p1 p2) S 2 0 S)) ∧ LI o S S' w')) := by
  have hJ := hI
  obtain ⟨t, hC, hR, hO⟩ := hJ
  obtain ⟨h1, h2, hM, hH, hS⟩ := id hC
  refine jJX (c_X6_power_atx hs (d := d) (by omega) hH h1 h2 hM p0 p1 p2 (by omega) (by omega)) (fun v w' h => ?_) (fun E w' h => ?_)
  · obtain ⟨na, nc, ea, ec, ha, hc, f1, f2, ev, hH2, hF⟩ := h
    exact ⟨_, Or.inr (Or.inr ⟨rfl, ⟨⟨na, ha, ea⟩, ⟨nc, hc, ec⟩⟩, ⟨f1, f2⟩, ⟨na, nc, ea, ec, ha, hc, ev, rfl⟩⟩), hI.act (S2 := ES S nc (pwM p1 (S.2.2.2.2 na))) hH2 hF h1 h2 (ES_M hM (pwM_Mv h2 (hM na ha) p1))⟩
  · obtain ⟨hE, hw⟩ := h
    rcases hE with ⟨e, g⟩ | ⟨e, g1, g2⟩
    · exact ⟨Or.inl ⟨e, Or.inl ⟨rfl, g, rfl⟩⟩, hI.psh hw⟩
    · exact ⟨Or.inr ⟨e, Or.inr (Or.inl ⟨rfl, g1, g2, rfl⟩)⟩, hI.psh hw⟩
set_option maxRecDepth 100000 in
set_option maxHeartbeats 4000000 in
theorem uu_rename {X : jX} (hs : X.1.stackTraces = false) {d : Nat} (hd : 40 ≤ d) {o : Nat} {S S' : StX} {w : List jC} (hI : LI o S S' w) (p0 : Int32) (p1 : Int32) (p2 : Int32) {kc ks : Nat} (hkc : 3 ≤ kc) (hks : 18 ≤ ks) : jMet X mX6_rename d kc ks [.ref 0, .int p0, .int p1, .int p2] w (pX (pJ (fun v w' => ∃ S2 : StX, AG (isN p0 6 ∧ isN p1 6 ∧ isN p2 6) (True) (Drename S p0 p1 p2) S 0 v S2 ∧ LI o S2 S' w')) (fun E w' => ((E = "java/lang/IndexOutOfBoundsException" ∧ AG (isN p0 6 ∧ isN p1 6 ∧ isN p2 6) (True) (Drename S p0 p1 p2) S 1 0 S)) ∧ LI o S S' w')) := by
  have hJ := hI
  obtain ⟨t, hC, hR, hO⟩ := hJ
  obtain ⟨h1, h2, hM, hH, hS⟩ := id hC
  refine jJX (c_X6_rename_atx hs (d := d) (by omega) hH h1 h2 hM p0 p1 p2 (by omega) (by omega)) (fun v w' h => ?_) (fun E w' h => ?_)
  · obtain ⟨na, nb, nc, ea, eb, ec, ha, hb, hc, ev, hH2, hF⟩ := h
    exact ⟨_, Or.inr (Or.inr ⟨rfl, ⟨⟨na, ha, ea⟩, ⟨nb, hb, eb⟩, ⟨nc, hc, ec⟩⟩, trivial, ⟨na, nb, nc, ea, eb, ec, ha, hb, hc, ev, rfl⟩⟩), hI.act (S2 := ES S nc (c7 (c7 (i7 (S.2.2.2.2 nb)) (S.2.2.2.2 na)) (S.2.2.2.2 nb))) hH2 hF h1 h2 (ES_M hM (c7_Mv h2 (c7_Mv h2 (i7_Mv h2 (hM nb hb)) (hM na ha)) (hM nb hb)))⟩
  · obtain ⟨hE, hw⟩ := h
    obtain ⟨e, g⟩ := hE
    exact ⟨⟨e, Or.inl ⟨rfl, g, rfl⟩⟩, hI.psh hw⟩
set_option maxRecDepth 100000 in
set_option maxHeartbeats 4000000 in
theorem uu_match {X : jX} (hs : X.1.stackTraces = false) {d : Nat} (hd : 40 ≤ d) {o : Nat} {S S' : StX} {w : List jC} (hI : LI o S S' w) (p0 : Int32) (p1 : Int32) (p2 : Int32) {kc ks : Nat} (hkc : 3 ≤ kc) (hks : 18 ≤ ks) : jMet X mX6_match d kc ks [.ref 0, .int p0, .int p1, .int p2] w (pX (pJ (fun v w' => ∃ S2 : StX, AG (isN p0 6 ∧ isN p1 6 ∧ isN p2 6) (True) (Dmatch S p0 p1 p2) S 0 v S2 ∧ LI o S2 S' w')) (fun E w' => ((E = "java/lang/IndexOutOfBoundsException" ∧ AG (isN p0 6 ∧ isN p1 6 ∧ isN p2 6) (True) (Dmatch S p0 p1 p2) S 1 0 S)) ∧ LI o S S' w')) := by
  have hJ := hI
  obtain ⟨t, hC, hR, hO⟩ := hJ
  obtain ⟨h1, h2, hM, hH, hS⟩ := id hC
  refine jJX (c_X6_match_atx hs (d := d) (by omega) hH h1 h2 hM p0 p1 p2 (by omega) (by omega)) (fun v w' h => ?_) (fun E w' h => ?_)
  · rcases h with ⟨na, nb, nc, y, ev, ea, eb, ec, ha, hb, hc, hy, hH2, hF⟩ | ⟨na, nb, nc, ev, ea, eb, ec, ha, hb, hc, hy, hH2, hF⟩
    · exact ⟨_, Or.inr (Or.inr ⟨rfl, ⟨⟨na, ha, ea⟩, ⟨nb, hb, eb⟩, ⟨nc, hc, ec⟩⟩, trivial, ⟨na, nb, nc, ea, eb, ec, ha, hb, hc, Or.inl ⟨y, hy, ev, rfl⟩⟩⟩), hI.act (S2 := ES S nc y) hH2 hF h1 h2 (ES_M hM hy.1)⟩
    · exact ⟨_, Or.inr (Or.inr ⟨rfl, ⟨⟨na, ha, ea⟩, ⟨nb, hb, eb⟩, ⟨nc, hc, ec⟩⟩, trivial, ⟨na, nb, nc, ea, eb, ec, ha, hb, hc, Or.inr ⟨hy, ev, rfl⟩⟩⟩), hI.act (S2 := NS S) hH2 hF h1 h2 hM⟩
  · obtain ⟨hE, hw⟩ := h
    obtain ⟨e, g⟩ := hE
    exact ⟨⟨e, Or.inl ⟨rfl, g, rfl⟩⟩, hI.psh hw⟩
set_option maxRecDepth 100000 in
set_option maxHeartbeats 4000000 in
theorem uu_nth {X : jX} (hs : X.1.stackTraces = false) {d : Nat} (hd : 40 ≤ d) {o : Nat} {S S' : StX} {w : List jC} (hI : LI o S S' w) (p0 : Int32) (p1 : Int32) (p2 : Int32) (p3 : Int32) {kc ks : Nat} (hkc : 4 ≤ kc) (hks : 24 ≤ ks) : jMet X mX6_nth d kc ks [.ref 0, .int p0, .int p1, .int p2, .int p3] w (pX (pJ (fun v w' => ∃ S2 : StX, AG (isN p1 6 ∧ isN p3 6) (isN p0 64 ∧ 0 ≤ p2) (Dnth S p0 p1 p2 p3) S 0 v S2 ∧ LI o S2 S' w')) (fun E w' => ((E = "java/lang/IndexOutOfBoundsException" ∧ AG (isN p1 6 ∧ isN p3 6) (isN p0 64 ∧ 0 ≤ p2) (Dnth S p0 p1 p2 p3) S 1 0 S) ∨ (E = "java/lang/IllegalArgumentException" ∧ AG (isN p1 6 ∧ isN p3 6) (isN p0 64 ∧ 0 ≤ p2) (Dnth S p0 p1 p2 p3) S 2 0 S)) ∧ LI o S S' w')) := by
  have hJ := hI
  obtain ⟨t, hC, hR, hO⟩ := hJ
  obtain ⟨h1, h2, hM, hH, hS⟩ := id hC
  obtain ⟨st, sv, rc, sz, kw, ns, tk, ro, nn, hCM⟩ := CM_of hC
  refine jJX (c_X6_nth_atx hs (d := d) (by omega) hH h1 h2 hM hCM p0 p1 p2 p3 (by omega) (by omega)) (fun v w' h => ?_) (fun E w' h => ?_)
  · rcases h with ⟨s, na, nb, rk, y, ev, es, ea, eb, er, hs', ha, hb, hr, hlt, hy1, hy2, hH2, hF, st', sv', rc', sz', kw', ns', tk', ro', nn', hC2, hns, hnn⟩ | ⟨s, na, nb, rk, ev, es, ea, eb, er, hs', ha, hb, hr, hlt, hH2, hF, st', sv', rc', sz', kw', ns', tk', ro', nn', hC2, hns, hnn⟩
    · exact ⟨_, Or.inr (Or.inr ⟨rfl, ⟨⟨na, ha, ea⟩, ⟨nb, hb, eb⟩⟩, ⟨⟨s, hs', es⟩, by rw [er]; exact nI_pos' hr⟩, ⟨s, na, nb, rk, es, ea, eb, er, hs', ha, hb, hr, Or.inl ⟨y, hlt, hy1, hy2, ev, rfl⟩⟩⟩), hI.nth (S2 := ES S nb y) hH2 hF hC2 hns hnn h1 h2 (ES_M hM hy1)⟩
    · exact ⟨_, Or.inr (Or.inr ⟨rfl, ⟨⟨na, ha, ea⟩, ⟨nb, hb, eb⟩⟩, ⟨⟨s, hs', es⟩, by rw [er]; exact nI_pos' hr⟩, ⟨s, na, nb, rk, es, ea, eb, er, hs', ha, hb, hr, Or.inr ⟨hlt, ev, rfl⟩⟩⟩), hI.nth (S2 := NS S) hH2 hF hC2 hns hnn h1 h2 hM⟩
  · obtain ⟨hE, hw⟩ := h
    rcases hE with ⟨e, g⟩ | ⟨e, g1, g2⟩
    · exact ⟨Or.inl ⟨e, Or.inl ⟨rfl, g, rfl⟩⟩, hI.psh hw⟩
    · exact ⟨Or.inr ⟨e, Or.inr (Or.inl ⟨rfl, g1, g2, rfl⟩)⟩, hI.psh hw⟩
set_option maxRecDepth 100000 in
set_option maxHeartbeats 4000000 in
theorem uu_number {X : jX} (hs : X.1.stackTraces = false) {d : Nat} (hd : 40 ≤ d) {o : Nat} {S S' : StX} {w : List jC} (hI : LI o S S' w) (p0 : Int32) {kc ks : Nat} (hkc : 1 ≤ kc) (hks : 6 ≤ ks) : jMet X mX6_number d kc ks [.ref 0, .int p0] w (pX (pJ (fun v w' => ∃ S2 : StX, AG (isN p0 6) (True) (Dnumber S p0) S 0 v S2 ∧ LI o S2 S' w')) (fun E w' => ((E = "java/lang/IndexOutOfBoundsException" ∧ AG (isN p0 6) (True) (Dnumber S p0) S 1 0 S)) ∧ LI o S S' w')) := by
  have hJ := hI
  obtain ⟨t, hC, hR, hO⟩ := hJ
  obtain ⟨h1, h2, hM, hH, hS⟩ := id hC
  refine jJX (c_X6_number_atx hs (d := d) (by omega) hH h1 h2 hM p0 (by omega) (by omega)) (fun v w' h => ?_) (fun E w' h => ?_)
  · obtain ⟨na, ea, ha, ev, hH2, hF⟩ := h
    exact ⟨_, Or.inr (Or.inr ⟨rfl, ⟨na, ha, ea⟩, trivial, ⟨na, ea, ha, ev, rfl⟩⟩), hI.act (S2 := S) hH2 hF h1 h2 hM⟩
  · obtain ⟨hE, hw⟩ := h
    obtain ⟨e, g⟩ := hE
    exact ⟨⟨e, Or.inl ⟨rfl, g, rfl⟩⟩, hI.psh hw⟩
set_option maxRecDepth 100000 in
set_option maxHeartbeats 4000000 in
theorem uu_goes {X : jX} (hs : X.1.stackTraces = false) {d : Nat} (hd : 40 ≤ d) {o : Nat} {S S' : StX} {w : List jC} (hI : LI o S S' w) (p0 : Int32) (p1 : Int32) {kc ks : Nat} (hkc : 2 ≤ kc) (hks : 12 ≤ ks) : jMet X mX6_goes d kc ks [.ref 0, .int p0, .int p1] w (pX (pJ (fun v w' => ∃ S2 : StX, AG (isN p0 6 ∧ isN p1 S.1) (True) (Dgoes S p0 p1) S 0 v S2 ∧ LI o S2 S' w')) (fun E w' => ((E = "java/lang/IndexOutOfBoundsException" ∧ AG (isN p0 6 ∧ isN p1 S.1) (True) (Dgoes S p0 p1) S 1 0 S)) ∧ LI o S S' w')) := by
  have hJ := hI
  obtain ⟨t, hC, hR, hO⟩ := hJ
  obtain ⟨h1, h2, hM, hH, hS⟩ := id hC
  refine jJX (c_X6_goes_atx hs (d := d) (by omega) hH h1 h2 hM p0 p1 (by omega) (by omega)) (fun v w' h => ?_) (fun E w' h => ?_)
  · obtain ⟨na, nb, ea, eb, ha, hb, ev, hH2, hF⟩ := h
    exact ⟨_, Or.inr (Or.inr ⟨rfl, ⟨⟨na, ha, ea⟩, ⟨nb, hb, eb⟩⟩, trivial, ⟨na, nb, ea, eb, ha, hb, ev, rfl⟩⟩), hI.act (S2 := S) hH2 hF h1 h2 hM⟩
  · obtain ⟨hE, hw⟩ := h
    obtain ⟨e, g⟩ := hE
    exact ⟨⟨e, Or.inl ⟨rfl, g, rfl⟩⟩, hI.psh hw⟩
set_option maxRecDepth 100000 in
set_option maxHeartbeats 4000000 in
theorem uu_text {X : jX} (hs : X.1.stackTraces = false) {d : Nat} (hd : 40 ≤ d) (hXO : XO X) {o : Nat} {S S' : StX} {w : List jC} (hI : LI o S S' w) (p0 : Int32) {kc ks : Nat} (hkc : 40 ≤ kc) (hks : 1500 ≤ ks) : jMet X mX6_text d kc ks [.ref 0, .int p0] w (pX (pA (fun _ w' => LI o S S' w')) (fun E w' => (E = "java/lang/IndexOutOfBoundsException") ∧ LI o S S' w')) := by
  have hJ := hI
  obtain ⟨t, hC, hR, hO⟩ := hJ
  obtain ⟨h1, h2, hM, hH, hS⟩ := id hC
  exact uA (c_X6_text hs (d := d) (by omega) hXO h1 h2 hS p0 hkc hks) (fun a w' h => hI.q h.1 h.2) (fun E w' h => ⟨h.1, hI.q h.2.1 h.2.2⟩)
set_option maxRecDepth 100000 in
set_option maxHeartbeats 4000000 in
theorem uu_rings {X : jX} (hs : X.1.stackTraces = false) {d : Nat} (hd : 40 ≤ d) (hXO : XO X) {o : Nat} {S S' : StX} {w : List jC} (hI : LI o S S' w) (p0 : Int32) {kc ks : Nat} (hkc : 40 ≤ kc) (hks : 1500 ≤ ks) : jMet X mX6_rings d kc ks [.ref 0, .int p0] w (pX (pA (fun _ w' => LI o S S' w')) (fun E w' => (E = "java/lang/IndexOutOfBoundsException") ∧ LI o S S' w')) := by
  have hJ := hI
  obtain ⟨t, hC, hR, hO⟩ := hJ
  obtain ⟨h1, h2, hM, hH, hS⟩ := id hC
  exact uA (c_X6_rings hs (d := d) (by omega) hXO h1 h2 hS p0 hkc hks) (fun a w' h => hI.q h.1 h.2) (fun E w' h => ⟨h.1, hI.q h.2.1 h.2.2⟩)
set_option maxRecDepth 100000 in
set_option maxHeartbeats 4000000 in
theorem uu_ringText {X : jX} (hs : X.1.stackTraces = false) {d : Nat} (hd : 40 ≤ d) (hXO : XO X) {o : Nat} {S S' : StX} {w : List jC} (hI : LI o S S' w) (p0 : Int32) (p1 : Int32) {kc ks : Nat} (hkc : 40 ≤ kc) (hks : 1500 ≤ ks) : jMet X mX6_ringText d kc ks [.ref 0, .int p0, .int p1] w (pX (pA (fun _ w' => LI o S S' w')) (fun E w' => (E = "java/lang/IndexOutOfBoundsException") ∧ LI o S S' w')) := by
  have hJ := hI
  obtain ⟨t, hC, hR, hO⟩ := hJ
  obtain ⟨h1, h2, hM, hH, hS⟩ := id hC
  exact uA (c_X6_ringText hs (d := d) (by omega) hXO h1 h2 hS p0 p1 hkc hks) (fun a w' h => hI.q h.1 h.2) (fun E w' h => ⟨h.1, hI.q h.2.1 h.2.2⟩)
set_option maxRecDepth 100000 in
set_option maxHeartbeats 4000000 in
theorem uu_order {X : jX} (hs : X.1.stackTraces = false) {d : Nat} (hd : 40 ≤ d) {o : Nat} {S S' : StX} {w : List jC} (hI : LI o S S' w) (p0 : Int32) {kc ks : Nat} (hkc : 1 ≤ kc) (hks : 6 ≤ ks) : jMet X mX6_order d kc ks [.ref 0, .int p0] w (pX (pJ (fun v w' => ∃ S2 : StX, AG (isN p0 6) (True) (Dorder S p0) S 0 v S2 ∧ LI o S2 S' w')) (fun E w' => ((E = "java/lang/IndexOutOfBoundsException" ∧ AG (isN p0 6) (True) (Dorder S p0) S 1 0 S)) ∧ LI o S S' w')) := by
  have hJ := hI
  obtain ⟨t, hC, hR, hO⟩ := hJ
  obtain ⟨h1, h2, hM, hH, hS⟩ := id hC
  refine jJX (c_X6_order_atx hs (d := d) (by omega) hH h1 h2 hM p0 (by omega) (by omega)) (fun v w' h => ?_) (fun E w' h => ?_)
  · obtain ⟨na, ea, ha, ev, hH2, hF⟩ := h
    exact ⟨_, Or.inr (Or.inr ⟨rfl, ⟨na, ha, ea⟩, trivial, ⟨na, ea, ha, ev, rfl⟩⟩), hI.act (S2 := S) hH2 hF h1 h2 hM⟩
  · obtain ⟨hE, hw⟩ := h
    obtain ⟨e, g⟩ := hE
    exact ⟨⟨e, Or.inl ⟨rfl, g, rfl⟩⟩, hI.psh hw⟩
set_option maxRecDepth 100000 in
set_option maxHeartbeats 4000000 in
theorem uu_sign {X : jX} (hs : X.1.stackTraces = false) {d : Nat} (hd : 40 ≤ d) {o : Nat} {S S' : StX} {w : List jC} (hI : LI o S S' w) (p0 : Int32) {kc ks : Nat} (hkc : 1 ≤ kc) (hks : 6 ≤ ks) : jMet X mX6_sign d kc ks [.ref 0, .int p0] w (pX (pJ (fun v w' => ∃ S2 : StX, AG (isN p0 6) (True) (Dsign S p0) S 0 v S2 ∧ LI o S2 S' w')) (fun E w' => ((E = "java/lang/IndexOutOfBoundsException" ∧ AG (isN p0 6) (True) (Dsign S p0) S 1 0 S)) ∧ LI o S S' w')) := by
  have hJ := hI
  obtain ⟨t, hC, hR, hO⟩ := hJ
  obtain ⟨h1, h2, hM, hH, hS⟩ := id hC
  refine jJX (c_X6_sign_atx hs (d := d) (by omega) hH h1 h2 hM p0 (by omega) (by omega)) (fun v w' h => ?_) (fun E w' h => ?_)
  · obtain ⟨na, ea, ha, ev, hH2, hF⟩ := h
    exact ⟨_, Or.inr (Or.inr ⟨rfl, ⟨na, ha, ea⟩, trivial, ⟨na, ea, ha, ev, rfl⟩⟩), hI.act (S2 := S) hH2 hF h1 h2 hM⟩
  · obtain ⟨hE, hw⟩ := h
    obtain ⟨e, g⟩ := hE
    exact ⟨⟨e, Or.inl ⟨rfl, g, rfl⟩⟩, hI.psh hw⟩
set_option maxRecDepth 100000 in
set_option maxHeartbeats 4000000 in
theorem uu_stays {X : jX} (hs : X.1.stackTraces = false) {d : Nat} (hd : 40 ≤ d) {o : Nat} {S S' : StX} {w : List jC} (hI : LI o S S' w) (p0 : Int32) {kc ks : Nat} (hkc : 1 ≤ kc) (hks : 6 ≤ ks) : jMet X mX6_stays d kc ks [.ref 0, .int p0] w (pX (pJ (fun v w' => ∃ S2 : StX, AG (isN p0 6) (True) (Dstays S p0) S 0 v S2 ∧ LI o S2 S' w')) (fun E w' => ((E = "java/lang/IndexOutOfBoundsException" ∧ AG (isN p0 6) (True) (Dstays S p0) S 1 0 S)) ∧ LI o S S' w')) := by
  have hJ := hI
  obtain ⟨t, hC, hR, hO⟩ := hJ
  obtain ⟨h1, h2, hM, hH, hS⟩ := id hC
  refine jJX (c_X6_stays_atx hs (d := d) (by omega) hH h1 h2 hM p0 (by omega) (by omega)) (fun v w' h => ?_) (fun E w' h => ?_)
  · obtain ⟨na, ea, ha, ev, hH2, hF⟩ := h
    exact ⟨_, Or.inr (Or.inr ⟨rfl, ⟨na, ha, ea⟩, trivial, ⟨na, ea, ha, ev, rfl⟩⟩), hI.act (S2 := S) hH2 hF h1 h2 hM⟩
  · obtain ⟨hE, hw⟩ := h
    obtain ⟨e, g⟩ := hE
    exact ⟨⟨e, Or.inl ⟨rfl, g, rfl⟩⟩, hI.psh hw⟩
set_option maxRecDepth 100000 in
set_option maxHeartbeats 4000000 in
theorem uu_areAlike {X : jX} (hs : X.1.stackTraces = false) {d : Nat} (hd : 40 ≤ d) {o : Nat} {S S' : StX} {w : List jC} (hI : LI o S S' w) (p0 : Int32) (p1 : Int32) {kc ks : Nat} (hkc : 2 ≤ kc) (hks : 12 ≤ ks) : jMet X mX6_areAlike d kc ks [.ref 0, .int p0, .int p1] w (pX (pJ (fun v w' => ∃ S2 : StX, AG (isN p0 6 ∧ isN p1 6) (True) (DareAlike S p0 p1) S 0 v S2 ∧ LI o S2 S' w')) (fun E w' => ((E = "java/lang/IndexOutOfBoundsException" ∧ AG (isN p0 6 ∧ isN p1 6) (True) (DareAlike S p0 p1) S 1 0 S)) ∧ LI o S S' w')) := by
  have hJ := hI
  obtain ⟨t, hC, hR, hO⟩ := hJ
  obtain ⟨h1, h2, hM, hH, hS⟩ := id hC
  refine jJX (c_X6_areAlike_atx hs (d := d) (by omega) hH h1 h2 hM p0 p1 (by omega) (by omega)) (fun v w' h => ?_) (fun E w' h => ?_)
  · obtain ⟨na, nb, ea, eb, ha, hb, ev, hH2, hF⟩ := h
    exact ⟨_, Or.inr (Or.inr ⟨rfl, ⟨⟨na, ha, ea⟩, ⟨nb, hb, eb⟩⟩, trivial, ⟨na, nb, ea, eb, ha, hb, ev, rfl⟩⟩), hI.act (S2 := S) hH2 hF h1 h2 hM⟩
  · obtain ⟨hE, hw⟩ := h
    obtain ⟨e, g⟩ := hE
    exact ⟨⟨e, Or.inl ⟨rfl, g, rfl⟩⟩, hI.psh hw⟩
set_option maxRecDepth 100000 in
set_option maxHeartbeats 4000000 in
theorem uu_commute {X : jX} (hs : X.1.stackTraces = false) {d : Nat} (hd : 40 ≤ d) {o : Nat} {S S' : StX} {w : List jC} (hI : LI o S S' w) (p0 : Int32) (p1 : Int32) {kc ks : Nat} (hkc : 2 ≤ kc) (hks : 12 ≤ ks) : jMet X mX6_commute d kc ks [.ref 0, .int p0, .int p1] w (pX (pJ (fun v w' => ∃ S2 : StX, AG (isN p0 6 ∧ isN p1 6) (True) (Dcommute S p0 p1) S 0 v S2 ∧ LI o S2 S' w')) (fun E w' => ((E = "java/lang/IndexOutOfBoundsException" ∧ AG (isN p0 6 ∧ isN p1 6) (True) (Dcommute S p0 p1) S 1 0 S)) ∧ LI o S S' w')) := by
  have hJ := hI
  obtain ⟨t, hC, hR, hO⟩ := hJ
  obtain ⟨h1, h2, hM, hH, hS⟩ := id hC
  refine jJX (c_X6_commute_atx hs (d := d) (by omega) hH h1 h2 hM p0 p1 (by omega) (by omega)) (fun v w' h => ?_) (fun E w' h => ?_)
  · obtain ⟨na, nb, ea, eb, ha, hb, ev, hH2, hF⟩ := h
    exact ⟨_, Or.inr (Or.inr ⟨rfl, ⟨⟨na, ha, ea⟩, ⟨nb, hb, eb⟩⟩, trivial, ⟨na, nb, ea, eb, ha, hb, ev, rfl⟩⟩), hI.act (S2 := S) hH2 hF h1 h2 hM⟩
  · obtain ⟨hE, hw⟩ := h
    obtain ⟨e, g⟩ := hE
    exact ⟨⟨e, Or.inl ⟨rfl, g, rfl⟩⟩, hI.psh hw⟩
set_option maxRecDepth 100000 in
set_option maxHeartbeats 4000000 in
theorem uu_size {X : jX} (hs : X.1.stackTraces = false) {d : Nat} (hd : 40 ≤ d) {o : Nat} {S S' : StX} {w : List jC} (hI : LI o S S' w) (p0 : Int32) (p1 : Int32) {kc ks : Nat} (hkc : 2 ≤ kc) (hks : 12 ≤ ks) : jMet X mX6_size d kc ks [.ref 0, .int p0, .int p1] w (pX (pI (fun _ => True) (LI o S S')) (fun E w' => (E = "java/lang/IndexOutOfBoundsException" ∨ E = "java/lang/IllegalArgumentException") ∧ LI o S S' w')) := by
  have hJ := hI
  obtain ⟨t, hC, hR, hO⟩ := hJ
  obtain ⟨h1, h2, hM, hH, hS⟩ := id hC
  exact uI (c_X6_size hs (d := d) (by omega) h1 h2 hS p0 p1 hkc hks) (fun w' h => hI.q h.1 h.2) (fun E w' h => ⟨h.1, hI.q h.2.1 h.2.2⟩)
set_option maxRecDepth 100000 in
set_option maxHeartbeats 4000000 in
theorem uu_reach {X : jX} (hs : X.1.stackTraces = false) {d : Nat} (hd : 40 ≤ d) {o : Nat} {S S' : StX} {w : List jC} (hI : LI o S S' w) (p0 : Int32) (p1 : Int32) (p2 : Int32) {kc ks : Nat} (hkc : 3 ≤ kc) (hks : 18 ≤ ks) : jMet X mX6_reach d kc ks [.ref 0, .int p0, .int p1, .int p2] w (pX (pI (fun _ => True) (LI o S S')) (fun E w' => (E = "java/lang/IndexOutOfBoundsException" ∨ E = "java/lang/IllegalArgumentException") ∧ LI o S S' w')) := by
  have hJ := hI
  obtain ⟨t, hC, hR, hO⟩ := hJ
  obtain ⟨h1, h2, hM, hH, hS⟩ := id hC
  exact uI (c_X6_reach hs (d := d) (by omega) h1 h2 hS p0 p1 p2 hkc hks) (fun w' h => hI.q h.1 h.2) (fun E w' h => ⟨h.1, hI.q h.2.1 h.2.2⟩)
set_option maxRecDepth 100000 in
set_option maxHeartbeats 4000000 in
theorem uu_isIn {X : jX} (hs : X.1.stackTraces = false) {d : Nat} (hd : 40 ≤ d) {o : Nat} {S S' : StX} {w : List jC} (hI : LI o S S' w) (p0 : Int32) (p1 : Int32) (p2 : Int32) {kc ks : Nat} (hkc : 3 ≤ kc) (hks : 18 ≤ ks) : jMet X mX6_isIn d kc ks [.ref 0, .int p0, .int p1, .int p2] w (pX (pI (fun _ => True) (LI o S S')) (fun E w' => (E = "java/lang/IndexOutOfBoundsException" ∨ E = "java/lang/IllegalArgumentException") ∧ LI o S S' w')) := by
  have hJ := hI
  obtain ⟨t, hC, hR, hO⟩ := hJ
  obtain ⟨h1, h2, hM, hH, hS⟩ := id hC
  exact uI (c_X6_isIn hs (d := d) (by omega) h1 h2 hS p0 p1 p2 hkc hks) (fun w' h => hI.q h.1 h.2) (fun E w' h => ⟨h.1, hI.q h.2.1 h.2.2⟩)
set_option maxRecDepth 100000 in
set_option maxHeartbeats 4000000 in
theorem uu_rank {X : jX} (hs : X.1.stackTraces = false) {d : Nat} (hd : 40 ≤ d) {o : Nat} {S S' : StX} {w : List jC} (hI : LI o S S' w) (p0 : Int32) (p1 : Int32) (p2 : Int32) {kc ks : Nat} (hkc : 3 ≤ kc) (hks : 18 ≤ ks) : jMet X mX6_rank d kc ks [.ref 0, .int p0, .int p1, .int p2] w (pX (pI (fun _ => True) (LI o S S')) (fun E w' => (E = "java/lang/IndexOutOfBoundsException" ∨ E = "java/lang/IllegalArgumentException") ∧ LI o S S' w')) := by
  have hJ := hI
  obtain ⟨t, hC, hR, hO⟩ := hJ
  obtain ⟨h1, h2, hM, hH, hS⟩ := id hC
  exact uI (c_X6_rank hs (d := d) (by omega) h1 h2 hS p0 p1 p2 hkc hks) (fun w' h => hI.q h.1 h.2) (fun E w' h => ⟨h.1, hI.q h.2.1 h.2.2⟩)
set_option maxRecDepth 100000 in
set_option maxHeartbeats 4000000 in
theorem uu_list {X : jX} (hs : X.1.stackTraces = false) {d : Nat} (hd : 40 ≤ d) (hXO : XO X) {o : Nat} {S S' : StX} {w : List jC} (hI : LI o S S' w) (p0 : Int32) (p1 : Int32) {kc ks : Nat} (hkc : 40 ≤ kc) (hks : 1500 ≤ ks) : jMet X mX6_list d kc ks [.ref 0, .int p0, .int p1] w (pX (pA (fun _ w' => LI o S S' w')) (fun E w' => (E = "java/lang/IllegalArgumentException") ∧ LI o S S' w')) := by
  have hJ := hI
  obtain ⟨t, hC, hR, hO⟩ := hJ
  obtain ⟨h1, h2, hM, hH, hS⟩ := id hC
  exact uA (c_X6_list hs (d := d) (by omega) hXO h1 h2 hS p0 p1 hkc hks) (fun a w' h => hI.q h.1 h.2) (fun E w' h => ⟨h.1, hI.q h.2.1 h.2.2⟩)
set_option maxRecDepth 100000 in
set_option maxHeartbeats 4000000 in
theorem uu_comes {X : jX} (hs : X.1.stackTraces = false) {d : Nat} (hd : 40 ≤ d) {o : Nat} {S S' : StX} {w : List jC} (hI : LI o S S' w) (p0 : Int32) (p1 : Int32) {kc ks : Nat} (hkc : 2 ≤ kc) (hks : 12 ≤ ks) : jMet X mX6_comes d kc ks [.ref 0, .int p0, .int p1] w (pX (pI (fun _ => True) (LI o S S')) (fun E w' => (E = "java/lang/IndexOutOfBoundsException" ∨ E = "java/lang/IllegalArgumentException") ∧ LI o S S' w')) := by
  have hJ := hI
  obtain ⟨t, hC, hR, hO⟩ := hJ
  obtain ⟨h1, h2, hM, hH, hS⟩ := id hC
  exact uI (c_X6_comes hs (d := d) (by omega) h1 h2 hS p0 p1 hkc hks) (fun w' h => hI.q h.1 h.2) (fun E w' h => ⟨h.1, hI.q h.2.1 h.2.2⟩)
set_option maxRecDepth 100000 in
set_option maxHeartbeats 4000000 in
theorem uu_pieces {X : jX} (hs : X.1.stackTraces = false) {d : Nat} (hd : 40 ≤ d) {o : Nat} {S S' : StX} {w : List jC} (hI : LI o S S' w) (p0 : Int32) {kc ks : Nat} (hkc : 1 ≤ kc) (hks : 6 ≤ ks) : jMet X mX6_pieces d kc ks [.ref 0, .int p0] w (pX (pI (fun _ => True) (LI o S S')) (fun E w' => (E = "java/lang/IllegalArgumentException") ∧ LI o S S' w')) := by
  have hJ := hI
  obtain ⟨t, hC, hR, hO⟩ := hJ
  obtain ⟨h1, h2, hM, hH, hS⟩ := id hC
  exact uI (c_X6_pieces hs (d := d) (by omega) h1 h2 hS p0 hkc hks) (fun w' h => hI.q h.1 h.2) (fun E w' h => ⟨h.1, hI.q h.2.1 h.2.2⟩)
set_option maxRecDepth 100000 in
set_option maxHeartbeats 4000000 in
theorem uu_withOrder {X : jX} (hs : X.1.stackTraces = false) {d : Nat} (hd : 40 ≤ d) {o : Nat} {S S' : StX} {w : List jC} (hI : LI o S S' w) (p0 : Int32) (p1 : Int32) {kc ks : Nat} (hkc : 2 ≤ kc) (hks : 12 ≤ ks) : jMet X mX6_withOrder d kc ks [.ref 0, .int p0, .int p1] w (pX (pI (fun _ => True) (LI o S S')) (fun E w' => (E = "java/lang/IllegalArgumentException") ∧ LI o S S' w')) := by
  have hJ := hI
  obtain ⟨t, hC, hR, hO⟩ := hJ
  obtain ⟨h1, h2, hM, hH, hS⟩ := id hC
  exact uI (c_X6_withOrder hs (d := d) (by omega) h1 h2 hS p0 p1 hkc hks) (fun w' h => hI.q h.1 h.2) (fun E w' h => ⟨h.1, hI.q h.2.1 h.2.2⟩)
set_option maxRecDepth 100000 in
set_option maxHeartbeats 4000000 in
theorem uu_even {X : jX} (hs : X.1.stackTraces = false) {d : Nat} (hd : 40 ≤ d) {o : Nat} {S S' : StX} {w : List jC} (hI : LI o S S' w) (p0 : Int32) {kc ks : Nat} (hkc : 1 ≤ kc) (hks : 6 ≤ ks) : jMet X mX6_even d kc ks [.ref 0, .int p0] w (pX (pI (fun _ => True) (LI o S S')) (fun E w' => (E = "java/lang/IllegalArgumentException") ∧ LI o S S' w')) := by
  have hJ := hI
  obtain ⟨t, hC, hR, hO⟩ := hJ
  obtain ⟨h1, h2, hM, hH, hS⟩ := id hC
  exact uI (c_X6_even hs (d := d) (by omega) h1 h2 hS p0 hkc hks) (fun w' h => hI.q h.1 h.2) (fun E w' h => ⟨h.1, hI.q h.2.1 h.2.2⟩)
set_option maxRecDepth 100000 in
set_option maxHeartbeats 4000000 in
theorem uu_colourings {X : jX} (hs : X.1.stackTraces = false) {d : Nat} (hd : 40 ≤ d) {o : Nat} {S S' : StX} {w : List jC} (hI : LI o S S' w) (p0 : Int32) (p1 : Int32) (p2 : Int32) {kc ks : Nat} (hkc : 3 ≤ kc) (hks : 18 ≤ ks) : jMet X mX6_colourings d kc ks [.ref 0, .int p0, .int p1, .int p2] w (pX (pI (fun _ => True) (LI o S S')) (fun E w' => (E = "java/lang/IllegalArgumentException") ∧ LI o S S' w')) := by
  have hJ := hI
  obtain ⟨t, hC, hR, hO⟩ := hJ
  obtain ⟨h1, h2, hM, hH, hS⟩ := id hC
  exact uI (c_X6_colourings hs (d := d) (by omega) h1 h2 hS p0 p1 p2 hkc hks) (fun w' h => hI.q h.1 h.2) (fun E w' h => ⟨h.1, hI.q h.2.1 h.2.2⟩)
set_option maxRecDepth 100000 in
set_option maxHeartbeats 4000000 in
theorem uu_isPart {X : jX} (hs : X.1.stackTraces = false) {d : Nat} (hd : 40 ≤ d) {o : Nat} {S S' : StX} {w : List jC} (hI : LI o S S' w) (p0 : Int32) (p1 : Int32) {kc ks : Nat} (hkc : 2 ≤ kc) (hks : 12 ≤ ks) : jMet X mX6_isPart d kc ks [.ref 0, .int p0, .int p1] w (pX (pI (fun _ => True) (LI o S S')) (fun E w' => (E = "java/lang/IllegalArgumentException") ∧ LI o S S' w')) := by
  have hJ := hI
  obtain ⟨t, hC, hR, hO⟩ := hJ
  obtain ⟨h1, h2, hM, hH, hS⟩ := id hC
  exact uI (c_X6_isPart hs (d := d) (by omega) h1 h2 hS p0 p1 hkc hks) (fun w' h => hI.q h.1 h.2) (fun E w' h => ⟨h.1, hI.q h.2.1 h.2.2⟩)
set_option maxRecDepth 100000 in
set_option maxHeartbeats 4000000 in
theorem uu_shares {X : jX} (hs : X.1.stackTraces = false) {d : Nat} (hd : 40 ≤ d) {o : Nat} {S S' : StX} {w : List jC} (hI : LI o S S' w) (p0 : Int32) (p1 : Int32) {kc ks : Nat} (hkc : 2 ≤ kc) (hks : 12 ≤ ks) : jMet X mX6_shares d kc ks [.ref 0, .int p0, .int p1] w (pX (pI (fun _ => True) (LI o S S')) (fun E w' => (E = "java/lang/IllegalArgumentException") ∧ LI o S S' w')) := by
  have hJ := hI
  obtain ⟨t, hC, hR, hO⟩ := hJ
  obtain ⟨h1, h2, hM, hH, hS⟩ := id hC
  exact uI (c_X6_shares hs (d := d) (by omega) h1 h2 hS p0 p1 hkc hks) (fun w' h => hI.q h.1 h.2) (fun E w' h => ⟨h.1, hI.q h.2.1 h.2.2⟩)
set_option maxRecDepth 100000 in
set_option maxHeartbeats 4000000 in
theorem uu_share {X : jX} (hs : X.1.stackTraces = false) {d : Nat} (hd : 40 ≤ d) {o : Nat} {S S' : StX} {w : List jC} (hI : LI o S S' w) (p0 : Int32) (p1 : Int32) {kc ks : Nat} (hkc : 2 ≤ kc) (hks : 12 ≤ ks) : jMet X mX6_share d kc ks [.ref 0, .int p0, .int p1] w (pX (pI (fun _ => True) (LI o S S')) (fun E w' => (E = "java/lang/IndexOutOfBoundsException" ∨ E = "java/lang/IllegalArgumentException") ∧ LI o S S' w')) := by
  have hJ := hI
  obtain ⟨t, hC, hR, hO⟩ := hJ
  obtain ⟨h1, h2, hM, hH, hS⟩ := id hC
  exact uI (c_X6_share hs (d := d) (by omega) h1 h2 hS p0 p1 hkc hks) (fun w' h => hI.q h.1 h.2) (fun E w' h => ⟨h.1, hI.q h.2.1 h.2.2⟩)
set_option maxRecDepth 100000 in
set_option maxHeartbeats 4000000 in
theorem uu_together {X : jX} (hs : X.1.stackTraces = false) {d : Nat} (hd : 40 ≤ d) {o : Nat} {S S' : StX} {w : List jC} (hI : LI o S S' w) (p0 : Int32) (p1 : Int32) (p2 : Int32) {kc ks : Nat} (hkc : 3 ≤ kc) (hks : 18 ≤ ks) : jMet X mX6_together d kc ks [.ref 0, .int p0, .int p1, .int p2] w (pX (pI (fun _ => True) (LI o S S')) (fun E w' => (E = "java/lang/IndexOutOfBoundsException" ∨ E = "java/lang/IllegalArgumentException") ∧ LI o S S' w')) := by
  have hJ := hI
  obtain ⟨t, hC, hR, hO⟩ := hJ
  obtain ⟨h1, h2, hM, hH, hS⟩ := id hC
  exact uI (c_X6_together hs (d := d) (by omega) h1 h2 hS p0 p1 p2 hkc hks) (fun w' h => hI.q h.1 h.2) (fun E w' h => ⟨h.1, hI.q h.2.1 h.2.2⟩)
set_option maxRecDepth 100000 in
set_option maxHeartbeats 4000000 in
theorem uu_blocks {X : jX} (hs : X.1.stackTraces = false) {d : Nat} (hd : 40 ≤ d) {o : Nat} {S S' : StX} {w : List jC} (hI : LI o S S' w) (p0 : Int32) (p1 : Int32) (p2 : Int32) {kc ks : Nat} (hkc : 3 ≤ kc) (hks : 18 ≤ ks) : jMet X mX6_blocks d kc ks [.ref 0, .int p0, .int p1, .int p2] w (pX (pJ (fun v w' => ∃ S2 : StX, AG (isN p1 S.1 ∧ isN p2 S.1) (isN p0 64) (Dblocks S p0 p1 p2) S 0 v S2 ∧ LI o S2 S' w')) (fun E w' => ((E = "java/lang/IndexOutOfBoundsException" ∧ AG (isN p1 S.1 ∧ isN p2 S.1) (isN p0 64) (Dblocks S p0 p1 p2) S 1 0 S) ∨ (E = "java/lang/IllegalArgumentException" ∧ AG (isN p1 S.1 ∧ isN p2 S.1) (isN p0 64) (Dblocks S p0 p1 p2) S 2 0 S)) ∧ LI o S S' w')) := by
  have hJ := hI
  obtain ⟨t, hC, hR, hO⟩ := hJ
  obtain ⟨h1, h2, hM, hH, hS⟩ := id hC
  obtain ⟨_, _, _, _, _, _, _, _, _, _, _, _, _, _, _, _, _, _, _, _, _, hCM, hWM, hTM, hQM, hUB⟩ := AU_of hC
  refine jJX (c_X6_blocks_atx hs (d := d) (by omega) hH h1 h2 hM hCM hWM hTM hQM hUB p0 p1 p2 (by omega) (by omega)) (fun v w' h => ?_) (fun E w' h => ?_)
  · obtain ⟨na, nb, nc, ea, eb, ec, ha, hb, hc, ev, hH2, hF, hA⟩ := h
    exact ⟨_, Or.inr (Or.inr ⟨rfl, ⟨⟨nb, hb, eb⟩, ⟨nc, hc, ec⟩⟩, ⟨na, ha, ea⟩, ⟨na, nb, nc, ea, eb, ec, ha, hb, hc, ev, rfl⟩⟩), hI.all (S2 := S) hH2 hF hA h1 h2 hM⟩
  · obtain ⟨hE, hw⟩ := h
    rcases hE with ⟨e, g⟩ | ⟨e, g1, g2⟩
    · exact ⟨Or.inl ⟨e, Or.inl ⟨rfl, g, rfl⟩⟩, hI.psh hw⟩
    · exact ⟨Or.inr ⟨e, Or.inr (Or.inl ⟨rfl, g1, g2, rfl⟩)⟩, hI.psh hw⟩
set_option maxRecDepth 100000 in
set_option maxHeartbeats 4000000 in
theorem uu_isTwofold {X : jX} (hs : X.1.stackTraces = false) {d : Nat} (hd : 40 ≤ d) {o : Nat} {S S' : StX} {w : List jC} (hI : LI o S S' w) (p0 : Int32) {kc ks : Nat} (hkc : 1 ≤ kc) (hks : 6 ≤ ks) : jMet X mX6_isTwofold d kc ks [.ref 0, .int p0] w (pX (pI (fun _ => True) (LI o S S')) (fun E w' => (E = "java/lang/IllegalArgumentException") ∧ LI o S S' w')) := by
  have hJ := hI
  obtain ⟨t, hC, hR, hO⟩ := hJ
  obtain ⟨h1, h2, hM, hH, hS⟩ := id hC
  exact uI (c_X6_isTwofold hs (d := d) (by omega) h1 h2 hS p0 hkc hks) (fun w' h => hI.q h.1 h.2) (fun E w' h => ⟨h.1, hI.q h.2.1 h.2.2⟩)
set_option maxRecDepth 100000 in
set_option maxHeartbeats 4000000 in
theorem uu_enough {X : jX} (hs : X.1.stackTraces = false) {d : Nat} (hd : 40 ≤ d) {o : Nat} {S S' : StX} {w : List jC} (hI : LI o S S' w) (p0 : Int32) {kc ks : Nat} (hkc : 1 ≤ kc) (hks : 6 ≤ ks) : jMet X mX6_enough d kc ks [.ref 0, .int p0] w (pX (pI (fun _ => True) (LI o S S')) (fun E w' => (E = "java/lang/IllegalArgumentException") ∧ LI o S S' w')) := by
  have hJ := hI
  obtain ⟨t, hC, hR, hO⟩ := hJ
  obtain ⟨h1, h2, hM, hH, hS⟩ := id hC
  exact uI (c_X6_enough hs (d := d) (by omega) h1 h2 hS p0 hkc hks) (fun w' h => hI.q h.1 h.2) (fun E w' h => ⟨h.1, hI.q h.2.1 h.2.2⟩)
set_option maxRecDepth 100000 in
set_option maxHeartbeats 4000000 in
theorem uu_house {X : jX} (hs : X.1.stackTraces = false) {d : Nat} (hd : 40 ≤ d) {o : Nat} {S S' : StX} {w : List jC} (hI : LI o S S' w) (p0 : Int32) {kc ks : Nat} (hkc : 1 ≤ kc) (hks : 6 ≤ ks) : jMet X mX6_house d kc ks [.ref 0, .int p0] w (pX (pJ (fun v w' => ∃ S2 : StX, AG (isN p0 3) (True) (Dhouse S p0) S 0 v S2 ∧ LI o S2 S' w')) (fun E w' => ((E = "java/lang/IllegalArgumentException" ∧ AG (isN p0 3) (True) (Dhouse S p0) S 1 0 S)) ∧ LI o S S' w')) := by
  have hJ := hI
  obtain ⟨t, hC, hR, hO⟩ := hJ
  obtain ⟨h1, h2, hM, hH, hS⟩ := id hC
  refine jJX (c_X6_house_atx hs (d := d) (by omega) hH h1 h2 hM p0 (by omega) (by omega)) (fun v w' h => ?_) (fun E w' h => ?_)
  · obtain ⟨na, ea, ha, ev, hH2, hF⟩ := h
    exact ⟨_, Or.inr (Or.inr ⟨rfl, ⟨na, ha, ea⟩, trivial, ⟨na, ea, ha, ev, rfl⟩⟩), hI.act (S2 := S) hH2 hF h1 h2 hM⟩
  · obtain ⟨hE, hw⟩ := h
    obtain ⟨e, g⟩ := hE
    exact ⟨⟨e, Or.inl ⟨rfl, g, rfl⟩⟩, hI.psh hw⟩
set_option maxRecDepth 100000 in
set_option maxHeartbeats 4000000 in
theorem uu_count {X : jX} (hs : X.1.stackTraces = false) {d : Nat} (hd : 40 ≤ d) {o : Nat} {S S' : StX} {w : List jC} (hI : LI o S S' w) {kc ks : Nat} : jMet X mX6_count d kc ks [.ref 0] w (pI (fun _ => True) (LI o S S')) := by
  have hJ := hI
  obtain ⟨t, hC, hR, hO⟩ := hJ
  obtain ⟨h1, h2, hM, hH, hS⟩ := id hC
  exact uI0 (c_X6_count hs (d := d) (by omega) h1 h2 hS) (fun w' h => hI.eq h)
set_option maxRecDepth 100000 in
set_option maxHeartbeats 4000000 in
theorem uu_knock {X : jX} (hs : X.1.stackTraces = false) {d : Nat} (hd : 40 ≤ d) {o : Nat} {S S' : StX} {w : List jC} (hI : LI o S S' w) {kc ks : Nat} : jMet X mX6_knock d kc ks [.ref 0] w (pI (fun _ => True) (LI o (KS S) S')) := by
  have hJ := hI
  obtain ⟨t, hC, hR, hO⟩ := hJ
  obtain ⟨h1, h2, hM, hH, hS⟩ := id hC
  exact uI0 (c_X6_knock hs (d := d) (by omega) h1 h2 hS) (fun w' h => ⟨t, hC.kn h.1 h.2, hR.fr (F19.of h.2), hO.fr (F19.of h.2)⟩)
set_option maxRecDepth 100000 in
set_option maxHeartbeats 4000000 in
theorem uu_isSound {X : jX} (hs : X.1.stackTraces = false) {d : Nat} (hd : 40 ≤ d) {o : Nat} {S S' : StX} {w : List jC} (hI : LI o S S' w) {kc ks : Nat} : jMet X mX6_isSound d kc ks [.ref 0] w (pI (fun _ => True) (LI o S S')) := by
  have hJ := hI
  obtain ⟨t, hC, hR, hO⟩ := hJ
  obtain ⟨h1, h2, hM, hH, hS⟩ := id hC
  exact uI0 (c_X6_isSound hs (d := d) (by omega) h1 h2 hS) (fun w' h => hI.q h.1 h.2)
set_option maxRecDepth 100000 in
set_option maxHeartbeats 4000000 in
theorem uu_digest {X : jX} (hs : X.1.stackTraces = false) {d : Nat} (hd : 40 ≤ d) (hXO : XO X) {o : Nat} {S S' : StX} {w : List jC} (hI : LI o S S' w) {kc ks : Nat} (hkc : 250 ≤ kc) (hks : 9100 ≤ ks) : jMet X mX6_digest d kc ks [.ref 0] w (pL (fun _ => True) (LI o S S')) := by
  have hJ := hI
  obtain ⟨t, hC, hR, hO⟩ := hJ
  obtain ⟨h1, h2, hM, hH, hS⟩ := id hC
  exact uL0 (c_X6_digest hs (d := d) (by omega) hXO h1 h2 hS hkc hks) (fun w' h => hI.q h.1 h.2)
end
