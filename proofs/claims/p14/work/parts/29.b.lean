/-! what each call does and answers, on both sides the same -/
abbrev GX (S : StX) (s : Nat) : Nat → Prop := Gg S.1 (gS S.2.2.2.2 s 6)
def Dpoints (S : StX) (p0 : Int32) (v : Int32) (S' : StX) : Prop := ∃ k : Nat, p0 = nI k ∧ 2 ≤ k ∧ k ≤ 7 ∧ v = nI S.1 ∧ S' = (k, S.2.1 + nI 1, S.2.2.1, S.2.2.2.1, fun _ => 1754760)
def Dlay (S : StX) (p0 p1 : Int32) (v : Int32) (S' : StX) : Prop := ∃ na nb : Nat, p0 = nI na ∧ p1 = nI nb ∧ na < 6 ∧ nb < fc S.1 ∧ v = nI (nu S.1 (S.2.2.2.2 na)) ∧ S' = ES S na (XM S.1 nb)
def Dexchange (S : StX) (p0 p1 p2 : Int32) (v : Int32) (S' : StX) : Prop := ∃ na nb nc : Nat, p0 = nI na ∧ p1 = nI nb ∧ p2 = nI nc ∧ na < 6 ∧ nb < S.1 ∧ nc < S.1 ∧ v = sg S.1 (c7 (S.2.2.2.2 na) (w8 (w8 1754760 nb nc) nc nb)) ∧ S' = ES S na (c7 (S.2.2.2.2 na) (w8 (w8 1754760 nb nc) nc nb))
def Dring (S : StX) (p0 p1 p2 p3 : Int32) (v : Int32) (S' : StX) : Prop := ∃ na nb nc nf : Nat, p0 = nI na ∧ p1 = nI nb ∧ p2 = nI nc ∧ p3 = nI nf ∧ na < 6 ∧ nb < S.1 ∧ nc < S.1 ∧ nf < S.1 ∧ v = sg S.1 (c7 (S.2.2.2.2 na) (w8 (w8 (w8 1754760 nb nc) nc nf) nf nb)) ∧ S' = ES S na (c7 (S.2.2.2.2 na) (w8 (w8 (w8 1754760 nb nc) nc nf) nf nb))
def Dturn (S : StX) (p0 p1 : Int32) (v : Int32) (S' : StX) : Prop := ∃ na : Nat, p0 = nI na ∧ na < 6 ∧ v = sg S.1 (c7 (S.2.2.2.2 na) (bW (fun p => (p + tT S.1 p1) % S.1) S.1)) ∧ S' = ES S na (c7 (S.2.2.2.2 na) (bW (fun p => (p + tT S.1 p1) % S.1) S.1))
def Dmirror (S : StX) (p0 : Int32) (v : Int32) (S' : StX) : Prop := ∃ na : Nat, p0 = nI na ∧ na < 6 ∧ v = sg S.1 (c7 (S.2.2.2.2 na) (bW (fun p => S.1 - 1 - p) S.1)) ∧ S' = ES S na (c7 (S.2.2.2.2 na) (bW (fun p => S.1 - 1 - p) S.1))
def Dcopy (S : StX) (p0 p1 : Int32) (v : Int32) (S' : StX) : Prop := ∃ na nb : Nat, p0 = nI na ∧ p1 = nI nb ∧ na < 6 ∧ nb < 6 ∧ v = (if (S.2.2.2.2 nb) = (S.2.2.2.2 na) then nI 0 else nI 1) ∧ S' = ES S nb (S.2.2.2.2 na)
def Dswap (S : StX) (p0 p1 : Int32) (v : Int32) (S' : StX) : Prop := ∃ na nb : Nat, p0 = nI na ∧ p1 = nI nb ∧ na < 6 ∧ nb < 6 ∧ v = (if (S.2.2.2.2 na) = (S.2.2.2.2 nb) then nI 0 else nI 1) ∧ S' = (S.1, S.2.1 + nI 1, S.2.2.1, S.2.2.2.1, up (up S.2.2.2.2 na (S.2.2.2.2 nb)) nb (S.2.2.2.2 na))
def Dthen (S : StX) (p0 p1 p2 : Int32) (v : Int32) (S' : StX) : Prop := ∃ na nb nc : Nat, p0 = nI na ∧ p1 = nI nb ∧ p2 = nI nc ∧ na < 6 ∧ nb < 6 ∧ nc < 6 ∧ v = nI (nu S.1 (c7 (S.2.2.2.2 na) (S.2.2.2.2 nb))) ∧ S' = ES S nc (c7 (S.2.2.2.2 na) (S.2.2.2.2 nb))
def Dundo (S : StX) (p0 p1 : Int32) (v : Int32) (S' : StX) : Prop := ∃ na nb : Nat, p0 = nI na ∧ p1 = nI nb ∧ na < 6 ∧ nb < 6 ∧ v = nI (nu S.1 (i7 (S.2.2.2.2 na))) ∧ S' = ES S nb (i7 (S.2.2.2.2 na))
def Dpower (S : StX) (p0 p1 p2 : Int32) (v : Int32) (S' : StX) : Prop := ∃ na nc : Nat, p0 = nI na ∧ p2 = nI nc ∧ na < 6 ∧ nc < 6 ∧ v = nI (nu S.1 (pwM p1 (S.2.2.2.2 na))) ∧ S' = ES S nc (pwM p1 (S.2.2.2.2 na))
def Drename (S : StX) (p0 p1 p2 : Int32) (v : Int32) (S' : StX) : Prop := ∃ na nb nc : Nat, p0 = nI na ∧ p1 = nI nb ∧ p2 = nI nc ∧ na < 6 ∧ nb < 6 ∧ nc < 6 ∧ v = nI (nu S.1 (c7 (c7 (i7 (S.2.2.2.2 nb)) (S.2.2.2.2 na)) (S.2.2.2.2 nb))) ∧ S' = ES S nc (c7 (c7 (i7 (S.2.2.2.2 nb)) (S.2.2.2.2 na)) (S.2.2.2.2 nb))
def Dmatch (S : StX) (p0 p1 p2 : Int32) (v : Int32) (S' : StX) : Prop := ∃ a b c : Nat, p0 = nI a ∧ p1 = nI b ∧ p2 = nI c ∧ a < 6 ∧ b < 6 ∧ c < 6 ∧ ((∃ y, LN S.1 (S.2.2.2.2 a) (S.2.2.2.2 b) y ∧ v = nI (nu S.1 y) ∧ S' = ES S c y) ∨ ((∀ w, ¬ RN S.1 (S.2.2.2.2 a) (S.2.2.2.2 b) w) ∧ v = (-9) ∧ S' = NS S))
def Dnth (S : StX) (p0 p1 p2 p3 : Int32) (v : Int32) (S' : StX) : Prop := ∃ s a b rk : Nat, p0 = nI s ∧ p1 = nI a ∧ p3 = nI b ∧ p2 = nI rk ∧ s < 64 ∧ a < 6 ∧ b < 6 ∧ rk < 2 ^ 31 ∧ ((∃ y, rk < cd S.1 (GX S s) ∧ Mv S.1 y ∧ GK S.1 (GX S s) (d8 (S.2.2.2.2 a)) rk y ∧ v = nI (nu S.1 y) ∧ S' = ES S b y) ∨ (¬ rk < cd S.1 (GX S s) ∧ v = (-9) ∧ S' = NS S))
def Dnumber (S : StX) (p0 : Int32) (v : Int32) (S' : StX) : Prop := ∃ na : Nat, p0 = nI na ∧ na < 6 ∧ v = nI (nu S.1 (S.2.2.2.2 na)) ∧ S' = S
def Dgoes (S : StX) (p0 p1 : Int32) (v : Int32) (S' : StX) : Prop := ∃ na nb : Nat, p0 = nI na ∧ p1 = nI nb ∧ na < 6 ∧ nb < S.1 ∧ v = nI (d8 (S.2.2.2.2 na) nb) ∧ S' = S
def Dorder (S : StX) (p0 : Int32) (v : Int32) (S' : StX) : Prop := ∃ na : Nat, p0 = nI na ∧ na < 6 ∧ v = nI (oC (S.2.2.2.2 na)) ∧ S' = S
def Dsign (S : StX) (p0 : Int32) (v : Int32) (S' : StX) : Prop := ∃ na : Nat, p0 = nI na ∧ na < 6 ∧ v = sg S.1 (S.2.2.2.2 na) ∧ S' = S
def Dstays (S : StX) (p0 : Int32) (v : Int32) (S' : StX) : Prop := ∃ na : Nat, p0 = nI na ∧ na < 6 ∧ v = nI (stF (d8 (S.2.2.2.2 na)) S.1) ∧ S' = S
def DareAlike (S : StX) (p0 p1 : Int32) (v : Int32) (S' : StX) : Prop := ∃ na nb : Nat, p0 = nI na ∧ p1 = nI nb ∧ na < 6 ∧ nb < 6 ∧ v = nI (on (LK (S.2.2.2.2 na) (S.2.2.2.2 nb))) ∧ S' = S
def Dcommute (S : StX) (p0 p1 : Int32) (v : Int32) (S' : StX) : Prop := ∃ na nb : Nat, p0 = nI na ∧ p1 = nI nb ∧ na < 6 ∧ nb < 6 ∧ v = (if c7 (S.2.2.2.2 na) (S.2.2.2.2 nb) = c7 (S.2.2.2.2 nb) (S.2.2.2.2 na) then nI 1 else nI 0) ∧ S' = S
def Dhouse (S : StX) (p0 : Int32) (v : Int32) (S' : StX) : Prop := ∃ na : Nat, p0 = nI na ∧ na < 3 ∧ v = (if na = 0 then S.2.1 else if na = 1 then S.2.2.1 else S.2.2.2.1) ∧ S' = S
theorem on_01 (p : Prop) : nI (on p) = nI 0 ∨ nI (on p) = nI 1 := by
  by_cases h : p
  · rw [on_t h]; exact Or.inr rfl
  · rw [on_f h]; exact Or.inl rfl
theorem fD_points {S : StX} (h2 : 2 ≤ S.1) (h7 : S.1 ≤ 7) (hM : ∀ c, c < 6 → Mv S.1 (S.2.2.2.2 c)) (p0 : Int32) (v v' : Int32) (x y : StX) (h : Dpoints S p0 v x) (h' : Dpoints S p0 v' y) : x = y ∧ v = v' := by
  obtain ⟨k, e1, k1, k2, ev, e⟩ := h
  obtain ⟨k', e1', k1', k2', ev', e'⟩ := h'
  obtain rfl := nI_uq e1 e1' (k := 8) (by omega) (by omega)
  exact ⟨e.trans e'.symm, ev.trans ev'.symm⟩
theorem fD_lay {S : StX} (h2 : 2 ≤ S.1) (h7 : S.1 ≤ 7) (hM : ∀ c, c < 6 → Mv S.1 (S.2.2.2.2 c)) (p0 p1 : Int32) (v v' : Int32) (x y : StX) (h : Dlay S p0 p1 v x) (h' : Dlay S p0 p1 v' y) : x = y ∧ v = v' := by
  have hf7 := fc_7 h7
  obtain ⟨na, nb, ea, eb, ha, hb, ev, e⟩ := h
  obtain ⟨na', nb', ea', eb', ha', hb', ev', e'⟩ := h'
  obtain rfl := nI_uq ea ea' ha ha'
  obtain rfl := nI_uq eb eb' hb hb'
  exact ⟨e.trans e'.symm, ev.trans ev'.symm⟩
theorem fD_exchange {S : StX} (h2 : 2 ≤ S.1) (h7 : S.1 ≤ 7) (hM : ∀ c, c < 6 → Mv S.1 (S.2.2.2.2 c)) (p0 p1 p2 : Int32) (v v' : Int32) (x y : StX) (h : Dexchange S p0 p1 p2 v x) (h' : Dexchange S p0 p1 p2 v' y) : x = y ∧ v = v' := by
  obtain ⟨na, nb, nc, ea, eb, ec, ha, hb, hc, ev, e⟩ := h
  obtain ⟨na', nb', nc', ea', eb', ec', ha', hb', hc', ev', e'⟩ := h'
  obtain rfl := nI_uq ea ea' ha ha'
  obtain rfl := nI_uq eb eb' hb hb'
  obtain rfl := nI_uq ec ec' hc hc'
  exact ⟨e.trans e'.symm, ev.trans ev'.symm⟩
theorem fD_ring {S : StX} (h2 : 2 ≤ S.1) (h7 : S.1 ≤ 7) (hM : ∀ c, c < 6 → Mv S.1 (S.2.2.2.2 c)) (p0 p1 p2 p3 : Int32) (v v' : Int32) (x y : StX) (h : Dring S p0 p1 p2 p3 v x) (h' : Dring S p0 p1 p2 p3 v' y) : x = y ∧ v = v' := by
  obtain ⟨na, nb, nc, nf, ea, eb, ec, ef, ha, hb, hc, hf, ev, e⟩ := h
  obtain ⟨na', nb', nc', nf', ea', eb', ec', ef', ha', hb', hc', hf', ev', e'⟩ := h'
  obtain rfl := nI_uq ea ea' ha ha'
  obtain rfl := nI_uq eb eb' hb hb'
  obtain rfl := nI_uq ec ec' hc hc'
  obtain rfl := nI_uq ef ef' hf hf'
  exact ⟨e.trans e'.symm, ev.trans ev'.symm⟩
theorem fD_turn {S : StX} (h2 : 2 ≤ S.1) (h7 : S.1 ≤ 7) (hM : ∀ c, c < 6 → Mv S.1 (S.2.2.2.2 c)) (p0 p1 : Int32) (v v' : Int32) (x y : StX) (h : Dturn S p0 p1 v x) (h' : Dturn S p0 p1 v' y) : x = y ∧ v = v' := by
  obtain ⟨na, ea, ha, ev, e⟩ := h
  obtain ⟨na', ea', ha', ev', e'⟩ := h'
  obtain rfl := nI_uq ea ea' ha ha'
  exact ⟨e.trans e'.symm, ev.trans ev'.symm⟩
theorem fD_mirror {S : StX} (h2 : 2 ≤ S.1) (h7 : S.1 ≤ 7) (hM : ∀ c, c < 6 → Mv S.1 (S.2.2.2.2 c)) (p0 : Int32) (v v' : Int32) (x y : StX) (h : Dmirror S p0 v x) (h' : Dmirror S p0 v' y) : x = y ∧ v = v' := by
  obtain ⟨na, ea, ha, ev, e⟩ := h
  obtain ⟨na', ea', ha', ev', e'⟩ := h'
  obtain rfl := nI_uq ea ea' ha ha'
  exact ⟨e.trans e'.symm, ev.trans ev'.symm⟩
theorem fD_copy {S : StX} (h2 : 2 ≤ S.1) (h7 : S.1 ≤ 7) (hM : ∀ c, c < 6 → Mv S.1 (S.2.2.2.2 c)) (p0 p1 : Int32) (v v' : Int32) (x y : StX) (h : Dcopy S p0 p1 v x) (h' : Dcopy S p0 p1 v' y) : x = y ∧ v = v' := by
  obtain ⟨na, nb, ea, eb, ha, hb, ev, e⟩ := h
  obtain ⟨na', nb', ea', eb', ha', hb', ev', e'⟩ := h'
  obtain rfl := nI_uq ea ea' ha ha'
  obtain rfl := nI_uq eb eb' hb hb'
  exact ⟨e.trans e'.symm, ev.trans ev'.symm⟩
theorem fD_swap {S : StX} (h2 : 2 ≤ S.1) (h7 : S.1 ≤ 7) (hM : ∀ c, c < 6 → Mv S.1 (S.2.2.2.2 c)) (p0 p1 : Int32) (v v' : Int32) (x y : StX) (h : Dswap S p0 p1 v x) (h' : Dswap S p0 p1 v' y) : x = y ∧ v = v' := by
  obtain ⟨na, nb, ea, eb, ha, hb, ev, e⟩ := h
  obtain ⟨na', nb', ea', eb', ha', hb', ev', e'⟩ := h'
  obtain rfl := nI_uq ea ea' ha ha'
  obtain rfl := nI_uq eb eb' hb hb'
  exact ⟨e.trans e'.symm, ev.trans ev'.symm⟩
theorem fD_then {S : StX} (h2 : 2 ≤ S.1) (h7 : S.1 ≤ 7) (hM : ∀ c, c < 6 → Mv S.1 (S.2.2.2.2 c)) (p0 p1 p2 : Int32) (v v' : Int32) (x y : StX) (h : Dthen S p0 p1 p2 v x) (h' : Dthen S p0 p1 p2 v' y) : x = y ∧ v = v' := by
  obtain ⟨na, nb, nc, ea, eb, ec, ha, hb, hc, ev, e⟩ := h
  obtain ⟨na', nb', nc', ea', eb', ec', ha', hb', hc', ev', e'⟩ := h'
  obtain rfl := nI_uq ea ea' ha ha'
  obtain rfl := nI_uq eb eb' hb hb'
  obtain rfl := nI_uq ec ec' hc hc'
  exact ⟨e.trans e'.symm, ev.trans ev'.symm⟩
theorem fD_undo {S : StX} (h2 : 2 ≤ S.1) (h7 : S.1 ≤ 7) (hM : ∀ c, c < 6 → Mv S.1 (S.2.2.2.2 c)) (p0 p1 : Int32) (v v' : Int32) (x y : StX) (h : Dundo S p0 p1 v x) (h' : Dundo S p0 p1 v' y) : x = y ∧ v = v' := by
  obtain ⟨na, nb, ea, eb, ha, hb, ev, e⟩ := h
  obtain ⟨na', nb', ea', eb', ha', hb', ev', e'⟩ := h'
  obtain rfl := nI_uq ea ea' ha ha'
  obtain rfl := nI_uq eb eb' hb hb'
  exact ⟨e.trans e'.symm, ev.trans ev'.symm⟩
theorem fD_power {S : StX} (h2 : 2 ≤ S.1) (h7 : S.1 ≤ 7) (hM : ∀ c, c < 6 → Mv S.1 (S.2.2.2.2 c)) (p0 p1 p2 : Int32) (v v' : Int32) (x y : StX) (h : Dpower S p0 p1 p2 v x) (h' : Dpower S p0 p1 p2 v' y) : x = y ∧ v = v' := by
  obtain ⟨na, nc, ea, ec, ha, hc, ev, e⟩ := h
  obtain ⟨na', nc', ea', ec', ha', hc', ev', e'⟩ := h'
  obtain rfl := nI_uq ea ea' ha ha'
  obtain rfl := nI_uq ec ec' hc hc'
  exact ⟨e.trans e'.symm, ev.trans ev'.symm⟩
theorem fD_rename {S : StX} (h2 : 2 ≤ S.1) (h7 : S.1 ≤ 7) (hM : ∀ c, c < 6 → Mv S.1 (S.2.2.2.2 c)) (p0 p1 p2 : Int32) (v v' : Int32) (x y : StX) (h : Drename S p0 p1 p2 v x) (h' : Drename S p0 p1 p2 v' y) : x = y ∧ v = v' := by
  obtain ⟨na, nb, nc, ea, eb, ec, ha, hb, hc, ev, e⟩ := h
  obtain ⟨na', nb', nc', ea', eb', ec', ha', hb', hc', ev', e'⟩ := h'
  obtain rfl := nI_uq ea ea' ha ha'
  obtain rfl := nI_uq eb eb' hb hb'
  obtain rfl := nI_uq ec ec' hc hc'
  exact ⟨e.trans e'.symm, ev.trans ev'.symm⟩
theorem fD_match {S : StX} (h2 : 2 ≤ S.1) (h7 : S.1 ≤ 7) (hM : ∀ c, c < 6 → Mv S.1 (S.2.2.2.2 c)) (p0 p1 p2 : Int32) (v v' : Int32) (x y : StX) (h : Dmatch S p0 p1 p2 v x) (h' : Dmatch S p0 p1 p2 v' y) : x = y ∧ v = v' := by
  obtain ⟨a, b, c, e1, e2, e3, h1, h2, h3, e⟩ := h
  obtain ⟨a', b', c', e1', e2', e3', h1', h2', h3', e'⟩ := h'
  obtain rfl := nI_uq e1 e1' h1 h1'
  obtain rfl := nI_uq e2 e2' h2 h2'
  obtain rfl := nI_uq e3 e3' h3 h3'
  rcases e with ⟨z, hz, ev, e⟩ | ⟨hn, ev, e⟩
  · rcases e' with ⟨z', hz', ev', e'⟩ | ⟨hn', ev', e'⟩
    · obtain rfl := LN_same (by omega) h7 hz hz'
      exact ⟨e.trans e'.symm, ev.trans ev'.symm⟩
    · exact absurd hz.2.1 (hn' _)
  · rcases e' with ⟨z', hz', ev', e'⟩ | ⟨hn', ev', e'⟩
    · exact absurd hz'.2.1 (hn _)
    · exact ⟨e.trans e'.symm, ev.trans ev'.symm⟩
theorem fD_nth {S : StX} (h2 : 2 ≤ S.1) (h7 : S.1 ≤ 7) (hM : ∀ c, c < 6 → Mv S.1 (S.2.2.2.2 c)) (p0 p1 p2 p3 : Int32) (v v' : Int32) (x y : StX) (h : Dnth S p0 p1 p2 p3 v x) (h' : Dnth S p0 p1 p2 p3 v' y) : x = y ∧ v = v' := by
  obtain ⟨s, a, b, rk, e1, e2, e3, e4, h1, h2, h3, h4, e⟩ := h
  obtain ⟨s', a', b', rk', e1', e2', e3', e4', h1', h2', h3', h4', e'⟩ := h'
  obtain rfl := nI_uq e1 e1' h1 h1'
  obtain rfl := nI_uq e2 e2' h2 h2'
  obtain rfl := nI_uq e3 e3' h3 h3'
  obtain rfl := nI_uq e4 e4' h4 h4'
  rcases e with ⟨z, hz1, hz2, hz3, ev, e⟩ | ⟨hn, ev, e⟩
  · rcases e' with ⟨z', hz1', hz2', hz3', ev', e'⟩ | ⟨hn', ev', e'⟩
    · obtain rfl := GK_same (by omega) h7 (hM a h2).2.1 hz2 hz2' hz3 hz3'
      exact ⟨e.trans e'.symm, ev.trans ev'.symm⟩
    · exact absurd hz1 hn'
  · rcases e' with ⟨z', hz1', hz2', hz3', ev', e'⟩ | ⟨hn', ev', e'⟩
    · exact absurd hz1' hn
    · exact ⟨e.trans e'.symm, ev.trans ev'.symm⟩
theorem fD_number {S : StX} (h2 : 2 ≤ S.1) (h7 : S.1 ≤ 7) (hM : ∀ c, c < 6 → Mv S.1 (S.2.2.2.2 c)) (p0 : Int32) (v v' : Int32) (x y : StX) (h : Dnumber S p0 v x) (h' : Dnumber S p0 v' y) : x = y ∧ v = v' := by
  obtain ⟨na, ea, ha, ev, e⟩ := h
  obtain ⟨na', ea', ha', ev', e'⟩ := h'
  obtain rfl := nI_uq ea ea' ha ha'
  exact ⟨e.trans e'.symm, ev.trans ev'.symm⟩
theorem fD_goes {S : StX} (h2 : 2 ≤ S.1) (h7 : S.1 ≤ 7) (hM : ∀ c, c < 6 → Mv S.1 (S.2.2.2.2 c)) (p0 p1 : Int32) (v v' : Int32) (x y : StX) (h : Dgoes S p0 p1 v x) (h' : Dgoes S p0 p1 v' y) : x = y ∧ v = v' := by
  obtain ⟨na, nb, ea, eb, ha, hb, ev, e⟩ := h
  obtain ⟨na', nb', ea', eb', ha', hb', ev', e'⟩ := h'
  obtain rfl := nI_uq ea ea' ha ha'
  obtain rfl := nI_uq eb eb' hb hb'
  exact ⟨e.trans e'.symm, ev.trans ev'.symm⟩
theorem fD_order {S : StX} (h2 : 2 ≤ S.1) (h7 : S.1 ≤ 7) (hM : ∀ c, c < 6 → Mv S.1 (S.2.2.2.2 c)) (p0 : Int32) (v v' : Int32) (x y : StX) (h : Dorder S p0 v x) (h' : Dorder S p0 v' y) : x = y ∧ v = v' := by
  obtain ⟨na, ea, ha, ev, e⟩ := h
  obtain ⟨na', ea', ha', ev', e'⟩ := h'
  obtain rfl := nI_uq ea ea' ha ha'
  exact ⟨e.trans e'.symm, ev.trans ev'.symm⟩
theorem fD_sign {S : StX} (h2 : 2 ≤ S.1) (h7 : S.1 ≤ 7) (hM : ∀ c, c < 6 → Mv S.1 (S.2.2.2.2 c)) (p0 : Int32) (v v' : Int32) (x y : StX) (h : Dsign S p0 v x) (h' : Dsign S p0 v' y) : x = y ∧ v = v' := by
  obtain ⟨na, ea, ha, ev, e⟩ := h
  obtain ⟨na', ea', ha', ev', e'⟩ := h'
  obtain rfl := nI_uq ea ea' ha ha'
  exact ⟨e.trans e'.symm, ev.trans ev'.symm⟩
theorem fD_stays {S : StX} (h2 : 2 ≤ S.1) (h7 : S.1 ≤ 7) (hM : ∀ c, c < 6 → Mv S.1 (S.2.2.2.2 c)) (p0 : Int32) (v v' : Int32) (x y : StX) (h : Dstays S p0 v x) (h' : Dstays S p0 v' y) : x = y ∧ v = v' := by
  obtain ⟨na, ea, ha, ev, e⟩ := h
  obtain ⟨na', ea', ha', ev', e'⟩ := h'
  obtain rfl := nI_uq ea ea' ha ha'
  exact ⟨e.trans e'.symm, ev.trans ev'.symm⟩
theorem fD_areAlike {S : StX} (h2 : 2 ≤ S.1) (h7 : S.1 ≤ 7) (hM : ∀ c, c < 6 → Mv S.1 (S.2.2.2.2 c)) (p0 p1 : Int32) (v v' : Int32) (x y : StX) (h : DareAlike S p0 p1 v x) (h' : DareAlike S p0 p1 v' y) : x = y ∧ v = v' := by
  obtain ⟨na, nb, ea, eb, ha, hb, ev, e⟩ := h
  obtain ⟨na', nb', ea', eb', ha', hb', ev', e'⟩ := h'
  obtain rfl := nI_uq ea ea' ha ha'
  obtain rfl := nI_uq eb eb' hb hb'
  exact ⟨e.trans e'.symm, ev.trans ev'.symm⟩
theorem fD_commute {S : StX} (h2 : 2 ≤ S.1) (h7 : S.1 ≤ 7) (hM : ∀ c, c < 6 → Mv S.1 (S.2.2.2.2 c)) (p0 p1 : Int32) (v v' : Int32) (x y : StX) (h : Dcommute S p0 p1 v x) (h' : Dcommute S p0 p1 v' y) : x = y ∧ v = v' := by
  obtain ⟨na, nb, ea, eb, ha, hb, ev, e⟩ := h
  obtain ⟨na', nb', ea', eb', ha', hb', ev', e'⟩ := h'
  obtain rfl := nI_uq ea ea' ha ha'
  obtain rfl := nI_uq eb eb' hb hb'
  exact ⟨e.trans e'.symm, ev.trans ev'.symm⟩
theorem fD_house {S : StX} (h2 : 2 ≤ S.1) (h7 : S.1 ≤ 7) (hM : ∀ c, c < 6 → Mv S.1 (S.2.2.2.2 c)) (p0 : Int32) (v v' : Int32) (x y : StX) (h : Dhouse S p0 v x) (h' : Dhouse S p0 v' y) : x = y ∧ v = v' := by
  obtain ⟨na, ea, ha, ev, e⟩ := h
  obtain ⟨na', ea', ha', ev', e'⟩ := h'
  obtain rfl := nI_uq ea ea' ha ha'
  exact ⟨e.trans e'.symm, ev.trans ev'.symm⟩
theorem bD_areAlike {S : StX} (p0 p1 : Int32) (v : Int32) (x : StX) (h : DareAlike S p0 p1 v x) : v = nI 0 ∨ v = nI 1 := by
  obtain ⟨_, _, _, _, _, _, ev, _⟩ := h
  rw [ev]
  exact on_01 _
theorem bD_commute {S : StX} (p0 p1 : Int32) (v : Int32) (x : StX) (h : Dcommute S p0 p1 v x) : v = nI 0 ∨ v = nI 1 := by
  obtain ⟨_, _, _, _, _, _, ev, _⟩ := h
  rw [ev]
  split; exact Or.inr rfl; exact Or.inl rfl
/-! the reference's rows are the house's moves, also behind an act -/
section RLS
variable {n : Nat} {cm mv mv' : Nat → Nat}
theorem RLx_mW (h : RLx n cm mv) {c : Nat} (hc : c < 6) : mW n mv c = cm c := (h c hc).symm
theorem RL_behind (hn : n ≤ 7) (hP : PM n mv) (h : RLx n cm mv) {a x : Nat} {g : Nat → Nat} (ha : a < 6) (hg : Pn n g) (hx : x = mkM n g) (hA : ACT n mv a (fun p => g (mv (a * 7 + p))) mv') : RLx n (up cm a (c7 (cm a) x)) mv' :=
  RLx_act h hA (by rw [hx, h a ha]; exact c7_mkM hn (hP a ha) hg)
theorem RL_exchange (hn : n ≤ 7) (hP : PM n mv) (h : RLx n cm mv) {a b c : Nat} (ha : a < 6) (hb : b < n) (hc : c < n) (hA : ACT n mv a (fun p => sw2 b c (mv (a * 7 + p))) mv') : RLx n (up cm a (c7 (cm a) (w8 (w8 1754760 b c) c b))) mv' :=
  RL_behind hn hP h ha (sw2_Pn hb hc) (w8_2 hn hb hc) hA
theorem RL_ring (hn : n ≤ 7) (hP : PM n mv) (h : RLx n cm mv) {a b c f : Nat} (ha : a < 6) (hb : b < n) (hc : c < n) (hf : f < n) (h1 : b ≠ c) (h2 : c ≠ f) (h3 : f ≠ b) (hA : ACT n mv a (fun p => sw3 b c f (mv (a * 7 + p))) mv') : RLx n (up cm a (c7 (cm a) (w8 (w8 (w8 1754760 b c) c f) f b))) mv' :=
  RL_behind hn hP h ha (sw3_Pn hb hc hf h1 h2 h3) (w8_3 hn hb hc hf) hA
theorem RL_mirror (hn : n ≤ 7) (hP : PM n mv) (h : RLx n cm mv) {a : Nat} (ha : a < 6) (hA : ACT n mv a (fun p => n - 1 - mv (a * 7 + p)) mv') : RLx n (up cm a (c7 (cm a) (bW (fun p => n - 1 - p) n))) mv' :=
  RL_behind (g := fun p => n - 1 - p) hn hP h ha (Pn_rev (fun _ _ => rfl)) (bW_M hn (Pn_rev (fun _ _ => rfl)) _ (fun _ _ => rfl) (fun p _ => by omega)) hA
theorem RL_turn (hn1 : 2 ≤ n) (hn : n ≤ 7) (hP : PM n mv) (h : RLx n cm mv) {a : Nat} {T : Nat} (ha : a < 6) (hA : ACT n mv a (fun p => (mv (a * 7 + p) + T) % n) mv') : RLx n (up cm a (c7 (cm a) (bW (fun p => (p + T) % n) n))) mv' :=
  RL_behind (g := fun p => (p + T) % n) hn hP h ha (Pn_rot (by omega) (fun _ _ => rfl)) (bW_M hn (Pn_rot (by omega) (fun _ _ => rfl)) _ (fun _ _ => rfl) (fun p _ => by have := Nat.mod_lt (p + T) (show 0 < n by omega); omega)) hA
theorem RL_copy (h : RLx n cm mv) {a b : Nat} (ha : a < 6) (hA : ACT n mv b (fun p => mv (a * 7 + p)) mv') : RLx n (up cm b (cm a)) mv' := RLx_act h hA (h a ha)
theorem RL_then (hn : n ≤ 7) (hP : PM n mv) (h : RLx n cm mv) {a b c : Nat} (ha : a < 6) (hb : b < 6) (hA : ACT n mv c (fun p => mv (b * 7 + mv (a * 7 + p))) mv') : RLx n (up cm c (c7 (cm a) (cm b))) mv' :=
  RLx_act h hA (by rw [h a ha, h b hb]; exact c7_mkM hn (hP a ha) (hP b hb))
theorem RL_undo (hn : n ≤ 7) (hP : PM n mv) (h : RLx n cm mv) {a b : Nat} {f : Nat → Nat} (ha : a < 6) (hf : ∀ p, p < n → f (mv (a * 7 + p)) = p) (hA : ACT n mv b f mv') : RLx n (up cm b (i7 (cm a))) mv' :=
  RLx_act h hA (by rw [h a ha]; exact i7_mkM hn (hP a ha) hf)
theorem RL_power (hn : n ≤ 7) (hP : PM n mv) (h : RLx n cm mv) {a c : Nat} {t : Int32} (ha : a < 6) (h1 : (-1000) ≤ t) (h2 : t ≤ nI 1000) (hA : ACT n mv c (it (fun p => mv (a * 7 + p)) (tP t)) mv') : RLx n (up cm c (pwM t (cm a))) mv' := by
  have hM := RLx_M hn h hP a ha
  have hq := it_Pn (hP a ha) (tP t)
  refine RLx_act h hA ((pwM_Mv hn hM t).ext (mkM_Mv hn hq) (fun p hp => ?_))
  rw [pwM_d hn hM h1 h2 hp, mkM_d hn hq.1 hp]
  have hi : ∀ k, it (d8 (cm a)) k p = it (fun p => mv (a * 7 + p)) k p := by
    intro k
    induction k with
    | zero => rfl
    | succ k ih =>
      show d8 (cm a) (it (d8 (cm a)) k p) = mv (a * 7 + it (fun p => mv (a * 7 + p)) k p)
      rw [ih]
      exact RLx_d hn h hP ha (it_lt (hP a ha) hp k)
  exact hi _
theorem RL_rename (hn : n ≤ 7) (hP : PM n mv) (h : RLx n cm mv) {a b c : Nat} {f : Nat → Nat} (ha : a < 6) (hb : b < 6) (hf : ∀ p, p < n → f (mv (b * 7 + p)) = mv (b * 7 + mv (a * 7 + p))) (hA : ACT n mv c f mv') : RLx n (up cm c (c7 (c7 (i7 (cm b)) (cm a)) (cm b))) mv' := by
  have hMb := RLx_M hn h hP b hb
  have hMa := RLx_M hn h hP a ha
  have hf2 : Pn n f := Pn_inv (hP b hb) (Pn.comp (hP a ha) (hP b hb)) hf
  have i1 := i7_Mv hn hMb
  have i2 := c7_Mv hn i1 hMa
  refine RLx_act h hA ((c7_Mv hn i2 hMb).ext (mkM_Mv hn hf2) (fun v hv => ?_))
  rw [mkM_d hn hf2.1 hv, c7_d (by omega), c7_d (by omega)]
  have hg := i1.2.1.1 v hv
  have e1 : mv (b * 7 + d8 (i7 (cm b)) v) = v := by
    rw [← RLx_d hn h hP hb hg]
    have e := cM_d hn (iM_Mv hn hMb) hMb hv
    rw [iM_c hn hMb, eM_d hn hv, ← i7_M hn hMb] at e
    exact e.symm
  have e2 := hf _ hg
  rw [e1] at e2
  rw [e2, RLx_d hn h hP ha hg, RLx_d hn h hP hb ((hP a ha).1 _ hg)]
theorem RL_lay (h : RLx n cm mv) {a b : Nat} (hA : ACT n mv a (rwF n b) mv') : RLx n (up cm a (XM n b)) mv' := RLx_act h hA rfl
theorem RL_swap (hn : n ≤ 7) (h : RLx n cm mv) {a b : Nat} (ha : a < 6) (hb : b < 6) : RLx n (up (up cm a (cm b)) b (cm a)) (sw mv a b n) := fun c hc => by
  by_cases e : c = b
  · subst e
    rw [up_s, h a ha]
    refine mkM_congr (fun p hp => ?_)
    unfold sw
    by_cases q : a * 7 ≤ c * 7 + p ∧ c * 7 + p < a * 7 + n
    · have : a = c := by omega
      subst this
      rw [if_pos q]
      congr 1
      omega
    · rw [if_neg q, if_pos (by omega)]
      congr 1
      omega
  · rw [up_n e]
    by_cases e2 : c = a
    · subst e2
      rw [up_s, h b hb]
      refine mkM_congr (fun p hp => ?_)
      unfold sw
      rw [if_pos (by omega)]
      congr 1
      omega
    · rw [up_n e2, h c hc]
      refine mkM_congr (fun p hp => ?_)
      unfold sw
      rw [if_neg (by omega), if_neg (by omega)]
theorem RL_points {k : Nat} (hk : k ≤ 7) (h : ∀ c p, c < 6 → p < k → mv' (c * 7 + p) = p) : RLx k (fun _ => 1754760) mv' := fun c hc => by
  show 1754760 = _
  rw [e7_M hk]
  exact mkM_congr (fun p hp => (h c p hc hp).symm)
theorem RL_nth (h : RLx n cm mv) {c y : Nat} (hn : n ≤ 7) (hy : Mv n y) (hA : ACT n mv c (d8 y) mv') : RLx n (up cm c y) mv' :=
  RLx_act h hA (hy.ext (mkM_Mv hn hy.2.1) (fun p hp => by rw [mkM_d hn hy.2.1.1 hp]))
theorem RN_RNr (hn : n ≤ 7) (hP : PM n mv) (h : RLx n cm mv) {a b : Nat} (ha : a < 6) (hb : b < 6) {f : Nat → Nat} (hf : Pn n f) : RN n (cm a) (cm b) f ↔ RNr n mv a b f := by
  refine ⟨fun q p hp => ?_, fun q => ⟨hf, fun p hp => ?_⟩⟩
  · rw [← RLx_d hn h hP ha hp, ← RLx_d hn h hP hb (hf.1 p hp)]
    exact q.2 p hp
  · rw [RLx_d hn h hP ha hp, RLx_d hn h hP hb (hf.1 p hp)]
    exact q p hp
theorem RNr_num (h1 : 1 ≤ n) (hP : PM n mv) {a b : Nat} (ha : a < 6) {w : Nat → Nat} (hw : Pn n w) (h : RNr n mv a b w) : RNr n mv a b (rwF n (nuF w 0 n n)) := fun p hp => by
  rw [rw_nu h1 hw _ ((hP a ha).1 p hp), rw_nu h1 hw p hp]
  exact h p hp
theorem LN_ref (h1 : 1 ≤ n) (hn : n ≤ 7) (hP : PM n mv) (h : RLx n cm mv) {a b k : Nat} (ha : a < 6) (hb : b < 6) (hk : k < fc n) (hq : RNr n mv a b (rwF n k)) (hl : ∀ j, j < k → ¬ RNr n mv a b (rwF n j)) : LN n (cm a) (cm b) (XM n k) := by
  have hX := XM_Mv h1 hn k
  have hd : RNr n mv a b (d8 (XM n k)) := fun p hp => by
    rw [XM_d h1 hn ((hP a ha).1 p hp), XM_d h1 hn hp]
    exact hq p hp
  refine ⟨hX, (RN_RNr hn hP h ha hb hX.2.1).mpr hd, fun w hw => ?_⟩
  rw [nu_XM h1 hn hk]
  have h3 := RNr_num h1 hP ha hw.1 ((RN_RNr hn hP h ha hb hw.1).mp hw)
  exact Nat.not_lt.mp (fun e => hl _ e h3)
theorem LN_none (h1 : 1 ≤ n) (hn : n ≤ 7) (hP : PM n mv) (h : RLx n cm mv) {a b : Nat} (ha : a < 6) (hb : b < 6) (hl : ∀ k, k < fc n → ¬ RNr n mv a b (rwF n k)) (w : Nat → Nat) : ¬ RN n (cm a) (cm b) w := fun hw =>
  hl _ (nuF_b w 0 n) (RNr_num h1 hP ha hw.1 ((RN_RNr hn hP h ha hb hw.1).mp hw))
theorem gS_RL (h : RLx n cm mv) (s x : Nat) : gS (mW n mv) s 6 x ↔ gS cm s 6 x := by
  refine ⟨fun ⟨c, h1, h2, h3⟩ => ⟨c, h1, h2, h3.trans (RLx_mW h h1)⟩, fun ⟨c, h1, h2, h3⟩ => ⟨c, h1, h2, h3.trans (RLx_mW h h1).symm⟩⟩
theorem Gg_RL (h : RLx n cm mv) (s x : Nat) : Gg n (gS (mW n mv) s 6) x ↔ Gg n (gS cm s 6) x :=
  ⟨Gg_mono (fun y => (gS_RL h s y).mp), Gg_mono (fun y => (gS_RL h s y).mpr)⟩
theorem cd_RL (h1 : 1 ≤ n) (hn : n ≤ 7) (h : RLx n cm mv) (s : Nat) : cd n (Gg n (gS (mW n mv) s 6)) = cd n (Gg n (gS cm s 6)) := cd_iff h1 hn (fun x _ => Gg_RL h s x)
theorem GK_RL (h1 : 1 ≤ n) (hn : n ≤ 7) (hP : PM n mv) (h : RLx n cm mv) {s a rk y : Nat} (ha : a < 6) (hG : GK n (Gg n (gS (mW n mv) s 6)) (fun j => mv (a * 7 + j)) rk y) : GK n (Gg n (gS cm s 6)) (d8 (cm a)) rk y :=
  GK_iff h1 hn (fun x _ => Gg_RL h s x) (GK_rd h1 hn (fun j hj => (RLx_d hn h hP ha hj).symm) hG)
theorem KX_keep {kn kn' : Int32} {bt : List Int32} (h : KX n mv kn bt) (e : kn' = kn) : KX n mv kn' bt := by
  rw [e]; exact h
end RLS
/-! answers of acts, on both sides the same -/
section VALS
variable {n : Nat} {cm mv mv' : Nat → Nat}
theorem RL_row {c X : Nat} (hL : RLx n (up cm c X) mv') (hc : c < 6) : X = mkM n (fun p => mv' (c * 7 + p)) := by
  have h := hL c hc
  rw [up_s] at h
  exact h
theorem AV {c X : Nat} {F : Nat → Nat} (hn : n ≤ 7) (hP : PM n mv') (hL : RLx n (up cm c X) mv') (hA : ACT n mv c F mv') (hc : c < 6) : nu n X = nuF F 0 n n := by
  rw [RL_row hL hc]
  exact nu_congr (fun p hp => (mkM_d hn (hP c hc).1 hp).trans (hA.1 p hp))
theorem SV {c X : Nat} (hn : n ≤ 7) (hP : PM n mv') (hL : RLx n (up cm c X) mv') (hc : c < 6) : sg n X = sgv (iv mv' (c * 7) n) := by
  rw [RL_row hL hc]
  exact congrArg sgv (iv_congr (f := mv') (fr := c * 7) (m := n) (fun p hp => (mkM_d hn (hP c hc).1 hp).symm) n (Nat.le_refl n)).symm
theorem CV0 (hn : n ≤ 7) (hP : PM n mv) (hL : RLx n cm mv) {a b : Nat} (ha : a < 6) (hb : b < 6) : (∀ p, p < n → mv (a * 7 + p) = mv (b * 7 + p)) ↔ cm a = cm b := by
  refine ⟨fun h => ?_, fun e p hp => ?_⟩
  · rw [hL a ha, hL b hb]
    exact mkM_congr h
  · rw [← RLx_d hn hL hP ha hp, ← RLx_d hn hL hP hb hp, e]
theorem CVa (hn : n ≤ 7) (hP : PM n mv) (hL : RLx n cm mv) {a b : Nat} {v : Int32} (ha : a < 6) (hb : b < 6) (h : (v = nI 0 ∧ ∀ p, p < n → mv (a * 7 + p) = mv (b * 7 + p)) ∨ (v = nI 1 ∧ ¬ ∀ p, p < n → mv (a * 7 + p) = mv (b * 7 + p))) : v = (if cm a = cm b then nI 0 else nI 1) := by
  rcases h with ⟨rfl, h⟩ | ⟨rfl, h⟩
  · rw [if_pos ((CV0 hn hP hL ha hb).mp h)]
  · rw [if_neg (fun e => h ((CV0 hn hP hL ha hb).mpr e))]
theorem CVb (hn : n ≤ 7) (hP : PM n mv) (hL : RLx n cm mv) {a b : Nat} {v : Int32} (ha : a < 6) (hb : b < 6) (h : (v = nI 0 ∧ ∀ p, p < n → mv (a * 7 + p) = mv (b * 7 + p)) ∨ (v = nI 1 ∧ ¬ ∀ p, p < n → mv (a * 7 + p) = mv (b * 7 + p))) : v = (if cm b = cm a then nI 0 else nI 1) := by
  rcases h with ⟨rfl, h⟩ | ⟨rfl, h⟩
  · rw [if_pos ((CV0 hn hP hL ha hb).mp h).symm]
  · rw [if_neg (fun e => h ((CV0 hn hP hL ha hb).mpr e.symm))]
/-! what is asked of moves -/
theorem Mv.seven {x : Nat} (hn : n ≤ 7) (h : Mv n x) : Mv 7 x := ⟨h.1, h.P7 hn, fun p h1 h2 => by omega⟩
theorem QO (hn : n ≤ 7) (hP : PM n mv) (hL : RLx n cm mv) {a : Nat} (ha : a < 6) : oC (cm a) = olc (lF (fun p => mv (a * 7 + p)) n) n := by
  have hM := RLx_M hn hL hP a ha
  refine order_is hn hM (fun p hp => ?_)
  rw [lF_ln hn hM (fun q hq => (RLx_d hn hL hP ha hq).symm) hp]
  exact (lF_ln (Nat.le_refl 7) (hM.seven hn) (fun q _ => rfl) (show p < 7 by omega)).symm
theorem QS (hn : n ≤ 7) (hP : PM n mv) (hL : RLx n cm mv) {a : Nat} (ha : a < 6) : sg n (cm a) = sgv (iv mv (a * 7) n) :=
  congrArg sgv (iv_congr (f := mv) (fr := a * 7) (m := n) (fun p hp => (RLx_d hn hL hP ha hp).symm) n (Nat.le_refl n)).symm
theorem QA (hn : n ≤ 7) (hP : PM n mv) (hL : RLx n cm mv) {a b : Nat} {v : Int32} (ha : a < 6) (hb : b < 6)
    (h : (v = nI 1 ∧ ∀ L, 1 ≤ L → L ≤ n → lo (fun p => mv (a * 7 + p)) n L n / L = lo (fun p => mv (b * 7 + p)) n L n / L) ∨ (v = nI 0 ∧ ¬ ∀ L, 1 ≤ L → L ≤ n → lo (fun p => mv (a * 7 + p)) n L n / L = lo (fun p => mv (b * 7 + p)) n L n / L)) : v = nI (on (LK (cm a) (cm b))) := by
  have hM := RLx_M hn hL hP
  have hk := LK_lo hn (hM a ha) (hM b hb) (fun q hq => (RLx_d hn hL hP ha hq).symm) (fun q hq => (RLx_d hn hL hP hb hq).symm)
  rcases h with ⟨rfl, h⟩ | ⟨rfl, h⟩
  · rw [on_t (hk.mpr h)]
  · rw [on_f (fun e => h (hk.mp e))]
theorem QC (hn : n ≤ 7) (hP : PM n mv) (hL : RLx n cm mv) {a b : Nat} {v : Int32} (ha : a < 6) (hb : b < 6)
    (h : (v = nI 1 ∧ ∀ p, p < n → mv (b * 7 + mv (a * 7 + p)) = mv (a * 7 + mv (b * 7 + p))) ∨ (v = nI 0 ∧ ¬ ∀ p, p < n → mv (b * 7 + mv (a * 7 + p)) = mv (a * 7 + mv (b * 7 + p)))) : v = (if c7 (cm a) (cm b) = c7 (cm b) (cm a) then nI 1 else nI 0) := by
  have hM := RLx_M hn hL hP
  have hd : ∀ {x y p : Nat}, x < 6 → y < 6 → p < n → d8 (c7 (cm x) (cm y)) p = mv (y * 7 + mv (x * 7 + p)) := fun {x y p} hx hy hp => by
    rw [c7_d (by omega), RLx_d hn hL hP hx hp, RLx_d hn hL hP hy ((hP x hx).1 p hp)]
  have hk : (∀ p, p < n → mv (b * 7 + mv (a * 7 + p)) = mv (a * 7 + mv (b * 7 + p))) ↔ c7 (cm a) (cm b) = c7 (cm b) (cm a) := by
    refine ⟨fun h => (c7_Mv hn (hM a ha) (hM b hb)).ext (c7_Mv hn (hM b hb) (hM a ha)) (fun p hp => ?_), fun e p hp => ?_⟩
    · rw [hd ha hb hp, hd hb ha hp]; exact h p hp
    · rw [← hd ha hb hp, ← hd hb ha hp, e]
  rcases h with ⟨rfl, h⟩ | ⟨rfl, h⟩
  · rw [if_pos (hk.mp h)]
  · rw [if_neg (fun e => h (hk.mpr e))]
theorem hs_v {a : Nat} {x y z : Int32} (h : a < 3) : (if nI a = nI 0 then x else if nI a = nI 1 then y else z) = (if a = 0 then x else if a = 1 then y else z) := by
  match a, h with
  | 0, _ => rfl
  | 1, _ => rfl
  | 2, _ => rfl
end VALS
