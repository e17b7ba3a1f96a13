/-! the law: what holds between two calls -/
abbrev mL_law : jM := (yL_law, cL_law, 7, some .boolean, [])
def LC (n : Nat) (q : Int32) (w : List jC) : Prop := ∃ (e r : Int32), 2 ≤ n ∧ n ≤ 7 ∧ SH (rX n e r q) w
def LR (o n : Nat) (m : Int32) (w : List jC) : Prop := ∃ (mv rw nx : Nat → Nat) (b : Nat) (bt : List Int32) (kn en dn rf th : Int32), RM n mv rw nx b bt kn en dn rf m th w ∧ 2 ≤ n ∧ n ≤ 7 ∧ (∀ i, mv i < 7) ∧ (∀ i, rw i < 7) ∧ (∀ i, nx i < 7) ∧ PM n mv ∧ KB n kn bt ∧ b ≠ o
def LO (o : Nat) (w : List jC) : Prop := 24 ≤ o ∧ ∃ fs : List Value, w[o]? = some (.inr (8, fs)) ∧ fs.length = 2
def LI (o nc nr : Nat) (q m : Int32) (w : List jC) : Prop := LC nc q w ∧ LR o nr m w ∧ LO o w
theorem LI.c0 {o nc nr : Nat} {q m : Int32} {w : List jC} (h : LI o nc nr q m w) : ∃ fs : List Value, w[0]? = some (.inr (7, fs)) := by
  obtain ⟨⟨e, r, _, _, hS⟩, _⟩ := h
  obtain ⟨_, hc, rfl⟩ := hS 0 _ rfl
  exact ⟨_, hc⟩
theorem LI.c19 {o nc nr : Nat} {q m : Int32} {w : List jC} (h : LI o nc nr q m w) : ∃ fs : List Value, w[19]? = some (.inr (9, fs)) := by
  obtain ⟨_, ⟨mv, rw, nx, b, bt, kn, en, dn, rf, th, hR, _⟩, _⟩ := h
  exact ⟨_, hR.1⟩
theorem LR.fr {o n : Nat} {m : Int32} {w w' : List jC} (h : LR o n m w) (hF : Fr kX w w') : LR o n m w' := by
  obtain ⟨mv, rw, nx, b, bt, kn, en, dn, rf, th, ⟨h1, h2, h3, h4, h5, h6, h7⟩, r⟩ := h
  exact ⟨mv, rw, nx, b, bt, kn, en, dn, rf, th, ⟨(hF.2 19 (by decide) (gl h1)).trans h1, (hF.2 20 (by decide) (gl h2)).trans h2, (hF.2 21 (by decide) (gl h3)).trans h3, (hF.2 22 (by decide) (gl h4)).trans h4, (hF.2 b (Nat.le_trans (by decide : 19 ≤ 23) h7) (gl h5)).trans h5, h6, h7⟩, r⟩
theorem LO.fr {o : Nat} {w w' : List jC} (h : LO o w) (hF : Fr kX w w') : LO o w' := by
  obtain ⟨h0, fs, h1, h2⟩ := h
  exact ⟨h0, fs, (hF.2 o (Nat.le_trans (by decide : 19 ≤ 24) h0) (gl h1)).trans h1, h2⟩
theorem LI.cls {o nc nr : Nat} {q q' m : Int32} {n : Nat} {e r : Int32} {w w' : List jC} (h : LI o nc nr q m w) (h1 : 2 ≤ n) (h2 : n ≤ 7) (hS : SH (rX n e r q') w') (hF : Fr kX w w') : LI o n nr q' m w' := ⟨⟨e, r, h1, h2, hS⟩, h.2.1.fr hF, h.2.2.fr hF⟩
theorem LI.S {o nc nr : Nat} {q q' m : Int32} {n : Nat} {e r : Int32} {w w' : List jC} (h : LI o nc nr q m w) (h1 : 2 ≤ n) (h2 : n ≤ 7) (hw : rS n e r q' w w') : LI o n nr q' m w' := h.cls h1 h2 hw.1 hw.2
theorem LI.T {o nc nr : Nat} {q q' m : Int32} {n : Nat} {w w' : List jC} (h : LI o nc nr q m w) (h1 : 2 ≤ n) (h2 : n ≤ 7) (hw : rT n q' w w') : LI o n nr q' m w' := by
  obtain ⟨e, r, hw⟩ := hw
  exact h.S h1 h2 hw
theorem LI.psh {o nc nr : Nat} {q m : Int32} {w w' : List jC} (h : LI o nc nr q m w) (hw : w' = w ++ [.inr (99, [])]) : LI o nc nr q m w' := by
  subst hw
  obtain ⟨e, r, h1, h2, hS⟩ := h.1
  exact h.cls h1 h2 hS.push Fr.push
theorem LI.eq {o nc nr : Nat} {q m : Int32} {w w' : List jC} (h : LI o nc nr q m w) (hw : w' = w) : LI o nc nr q m w' := by
  obtain rfl := hw.symm
  exact h
theorem LI.ref {o nc : Nat} {q m' : Int32} {w w' : List jC} {b b' n : Nat} {mv rw nx : Nat → Nat} {bt : List Int32} {kn en dn rf th : Int32} (hC : LC nc q w) (hO : LO o w) (h24 : b ≠ o) (hb : 23 ≤ b) (hR : RM n mv rw nx b' bt kn en dn rf m' th w') (hF : FR b b' w w') (h1 : 2 ≤ n) (h2 : n ≤ 7) (gm : ∀ i, mv i < 7) (gr : ∀ i, rw i < 7) (gx : ∀ i, nx i < 7) (hP : PM n mv) (hK : KB n kn bt) : LI o nc n q m' w' := by
  obtain ⟨e, r, h3, h4, hS⟩ := hC
  obtain ⟨o0, fs, o1, o2⟩ := hO
  have hl := gl o1
  refine ⟨⟨e, r, h3, h4, hS.keep (fun i hi => ?_)⟩, ⟨mv, rw, nx, b', bt, kn, en, dn, rf, th, hR, h1, h2, gm, gr, gx, hP, hK, ?_⟩, ⟨o0, fs, hF.at o1 (by omega) (fun e => h24 e.symm), o2⟩⟩
  · have h19 : i < 19 := hi
    exact hF.2.2 i (Or.inl h19) (by omega) (by omega)
  · rcases hF.2.1 with e | e
    · rw [e]; exact h24
    · omega
theorem LI.out {o nc nr : Nat} {q m : Int32} {w w' : List jC} {k : Nat} {v : Value} {fs : List Value} (h : LI o nc nr q m w) (hfs : fs.length = 2) (hw : w'[o]? = some (.inr (8, fs.set k v))) (hne : ∀ c, c ≠ o → w'[c]? = w[c]?) : LI o nc nr q m w' := by
  obtain ⟨⟨e, r, h3, h4, hS⟩, ⟨mv, rw, nx, b, bt, kn, en, dn, rf, th, ⟨a1, a2, a3, a4, a5, a6, a7⟩, b1, b2, b3, b4, b5, b6, b7, b8⟩, ⟨o0, _⟩⟩ := h
  refine ⟨⟨e, r, h3, h4, hS.keep (fun i hi => ?_)⟩, ⟨mv, rw, nx, b, bt, kn, en, dn, rf, th, ⟨(hne 19 (by omega)).trans a1, (hne 20 (by omega)).trans a2, (hne 21 (by omega)).trans a3, (hne 22 (by omega)).trans a4, (hne b b8).trans a5, a6, a7⟩, b1, b2, b3, b4, b5, b6, b7, b8⟩, ⟨o0, _, hw, by rw [List.length_set]; exact hfs⟩⟩
  have h19 : i < 19 := hi
  exact hne i (by omega)
/-- points: what becomes of the number of points -/
def PT (p : Int32) (n n' : Nat) : Prop := (∃ k : Nat, 2 ≤ k ∧ k ≤ 7 ∧ p = nI k ∧ n' = k) ∨ ((∀ k : Nat, 2 ≤ k → k ≤ 7 → p ≠ nI k) ∧ n' = n)
theorem PT.same {p : Int32} {n a b : Nat} (h : PT p n a) (h' : PT p n b) : a = b := by
  rcases h with ⟨k, k1, k2, rfl, rfl⟩ | ⟨h, rfl⟩
  · rcases h' with ⟨j, j1, j2, e, rfl⟩ | ⟨h', rfl⟩
    · have e1 := congrArg Int32.toInt e
      rw [nI_toInt (by omega), nI_toInt (by omega)] at e1
      omega
    · exact absurd rfl (h' _ k1 k2)
  · rcases h' with ⟨j, j1, j2, e, rfl⟩ | ⟨h', rfl⟩
    · exact absurd e (h _ j1 j2)
    · rfl
/-- points: how it ends, what it answers, what becomes of the number of points -/
def AP (p : Int32) (n k : Nat) (v : Int32) (n' : Nat) : Prop := (∃ j : Nat, 2 ≤ j ∧ j ≤ 7 ∧ p = nI j ∧ n' = j ∧ k = 0 ∧ v = nI n) ∨ ((∀ j : Nat, 2 ≤ j → j ≤ 7 → p ≠ nI j) ∧ n' = n ∧ k = 1)
theorem AP.same {p : Int32} {n k k' a b : Nat} {x x' : Int32} (h : AP p n k x a) (h' : AP p n k' x' b) : a = b ∧ k = k' ∧ (k = 0 → x = x') := by
  rcases h with ⟨i, i1, i2, i3, i4, i5, i6⟩ | ⟨i1, i2, i3⟩
  · rcases h' with ⟨j, j1, j2, j3, j4, j5, j6⟩ | ⟨j1, j2, j3⟩
    · have e1 := congrArg Int32.toInt (i3.symm.trans j3)
      rw [nI_toInt (by omega), nI_toInt (by omega)] at e1
      exact ⟨by omega, by omega, fun _ => i6.trans j6.symm⟩
    · exact absurd i3 (j1 _ i1 i2)
  · rcases h' with ⟨j, j1, j2, j3, j4, j5, j6⟩ | ⟨j1, j2, j3⟩
    · exact absurd j3 (i1 _ j1 j2)
    · exact ⟨by omega, by omega, fun e => by omega⟩
theorem AP.k3 {p : Int32} {n k a : Nat} {x : Int32} (h : AP p n k x a) : k < 3 := by
  rcases h with ⟨_, _, _, _, _, e, _⟩ | ⟨_, _, e⟩ <;> omega
theorem two {fs : List Value} (h : fs.length = 2) : ∃ a s, fs = [a, s] := by
  match fs, h with
  | [a, s], _ => exact ⟨a, s, rfl⟩
theorem lg_same {x y : Int64} (e : x = y) : lg_cmp x y = 0 := by
  subst e
  unfold lg_cmp
  rw [if_neg Int64.lt_irrefl, if_pos rfl]
/-- .. with how the reference's last call ended -/
def LIt (o nc nr : Nat) (q m t : Int32) (w : List jC) : Prop := LI o nc nr q m w ∧ ∃ (n : Nat) (mv rw nx : Nat → Nat) (b : Nat) (bt : List Int32) (kn en dn rf kk : Int32), RM n mv rw nx b bt kn en dn rf kk t w
def pJ (R : Int32 → List jC → Prop) : jQ := fun o w => match o with
  | .inl (some (.int v)) => R v w
  | _ => False
section JLAW
variable {X : jX} {M : jM} {d kc ks pc : Nat} {L : List (Option Value)} {st as : List Value} {w : List jC} {Q : jQ}
theorem uI {P : Int32 → Prop} {R R' : List jC → Prop} {RX RX' : String → List jC → Prop} (h : jMet X M d kc ks as w (pX (pI P R) RX)) (hR : ∀ w', R w' → R' w') (hX : ∀ E w', RX E w' → RX' E w') : jMet X M d kc ks as w (pX (pI (fun _ => True) R') RX') := h.mono (fun o w' hq => by
  match o, hq with
  | .inl (some (.int v)), hq => exact ⟨trivial, hR w' hq.2⟩
  | .inr E, hq => exact hX E w' hq)
theorem uI0 {P : Int32 → Prop} {R R' : List jC → Prop} (h : jMet X M d kc ks as w (pI P R)) (hR : ∀ w', R w' → R' w') : jMet X M d kc ks as w (pI (fun _ => True) R') := h.mono (fun o w' hq => by
  match o, hq with
  | .inl (some (.int v)), hq => exact ⟨trivial, hR w' hq.2⟩)
theorem uI1 {P P' : Int32 → Prop} {R R' : List jC → Prop} (h : jMet X M d kc ks as w (pI P R)) (hP : ∀ v, P v → P' v) (hR : ∀ w', R w' → R' w') : jMet X M d kc ks as w (pI P' R') := h.mono (fun o w' hq => by
  match o, hq with
  | .inl (some (.int v)), hq => exact ⟨hP v hq.1, hR w' hq.2⟩)
theorem uJX {P : Int32 → Prop} {R : List jC → Prop} {R' : Int32 → List jC → Prop} {RX RX' : String → List jC → Prop} (h : jMet X M d kc ks as w (pX (pI P R) RX)) (hR : ∀ v w', P v → R w' → R' v w') (hX : ∀ E w', RX E w' → RX' E w') : jMet X M d kc ks as w (pX (pJ R') RX') := h.mono (fun o w' hq => by
  match o, hq with
  | .inl (some (.int v)), hq => exact hR v w' hq.1 hq.2
  | .inr E, hq => exact hX E w' hq)
theorem uJ {P : Int32 → Prop} {R : List jC → Prop} {R' : Int32 → List jC → Prop} (h : jMet X M d kc ks as w (pI P R)) (hR : ∀ v w', P v → R w' → R' v w') : jMet X M d kc ks as w (pJ R') := h.mono (fun o w' hq => by
  match o, hq with
  | .inl (some (.int v)), hq => exact hR v w' hq.1 hq.2)
theorem kr_J {R : Int32 → List jC → Prop} (k : ∀ (v : Int32) (w' : List jC), R v w' → J X M d kc ks pc L (.int v :: st) w' Q) : ∀ (r : Option Value) (w' : List jC), pJ R (.inl r) w' → J X M d kc ks pc L (r.toList ++ st) w' Q := by
  intro r w' h
  match r, h with
  | some (.int v), h => exact k v w' h
theorem kx_J {R : Int32 → List jC → Prop} : ∀ (E : String) (w' : List jC), pJ R (.inr E) w' → JX X M d kc ks pc L st w' E Q := fun _ _ h => h.elim
theorem uA {R R' : Nat → List jC → Prop} {RX RX' : String → List jC → Prop} (h : jMet X M d kc ks as w (pX (pA R) RX)) (hR : ∀ a w', R a w' → R' a w') (hX : ∀ E w', RX E w' → RX' E w') : jMet X M d kc ks as w (pX (pA R') RX') := h.mono (fun o w' hq => by
  match o, hq with
  | .inl (some (.ref a)), hq => exact hR a w' hq
  | .inr E, hq => exact hX E w' hq)
theorem uA0 {R R' : Nat → List jC → Prop} (h : jMet X M d kc ks as w (pA R)) (hR : ∀ a w', R a w' → R' a w') : jMet X M d kc ks as w (pA R') := h.mono (fun o w' hq => by
  match o, hq with
  | .inl (some (.ref a)), hq => exact hR a w' hq)
theorem uL0 {P : Int64 → Prop} {R R' : List jC → Prop} (h : jMet X M d kc ks as w (pL P R)) (hR : ∀ w', R w' → R' w') : jMet X M d kc ks as w (pL (fun _ => True) R') := h.mono (fun o w' hq => by
  match o, hq with
  | .inl (some (.long v)), hq => exact ⟨trivial, hR w' hq.2⟩)
theorem J_putN {ci : Nat} {C host : String} {T : u_T} {N : Nat} {ty : Nat → FieldType} {index k a : Nat} {fs : List Value} {v : Value} (hdg : decode M.2.1 pc = .ok (.putfield index, 3)) (hC : jCl ci C T N ty) (hk : k < N) (hl : Cond.fieldLinkNest M.1.cls index (T k).1 (T k).2.1 (T k).2.2.1 host ∈ jK)
    (hfin : (T k).2.2.2 = false) (hfit : jFit (ty k) v) (hw : w[a]? = some (.inr (ci, fs))) (hlen : k < fs.length)
    (kk : ∀ w' : List jC, w'.length = w.length → w'[a]? = some (.inr (ci, fs.set k v)) → (∀ c, c ≠ a → w'[c]? = w[c]?) → J X M d kc ks (pc + 3) L st w' Q) : J X M d kc ks pc L (v :: .ref a :: st) w Q := by
  have kk := kk (w.set a (.inr (ci, fs.set k v))) List.length_set (List.getElem?_set_self (gl hw)) (fun c hc => List.getElem?_set_ne (fun e => hc e.symm))
  intro p e R s m args below meth c C9 H locs cells slots ls hH hS hL h1 h2
  have hA := C9.2.2.2.2.2.2.2.2.1
  have hP := jH_at hH hw (fun fs' e => by have := hC.2.2.2.2; cases e; exact absurd this (Nat.lt_irrefl 99))
  have hts : ∀ w9 ∈ jK, w9.before args s = true := fun w9 hw9 => hA.word hw9 args
  have hap := va_apart (own := M.1.cls) hts hC.2.1 ty hC.2.2.1 hC.2.2.2.1 hA.2.1 hC.1
  obtain ⟨r, e1, cell, q1, q2, q3, q4⟩ := hP 0 _ rfl
  have hr : r = (C, T, N) := Option.some.inj (e1.symm.trans hC.1)
  subst hr
  obtain ⟨hSl, hfc, kC, hkC, hkind⟩ := hA.2.1.1 ci _ hC.1
  obtain ⟨cf, kf, fi, f, hi, hsl⟩ := hSl k hk
  have hlay := hts _ (hC.2.1 _ (u_in_lay hk))
  have hst := (u_facts hfc hkC (u_lays hts hC.2.1 hk) hi).1
  obtain ⟨f1, f2⟩ := jFit_spec (X := X) hfit
  have key : ∀ H' : Heap, H'[X.2.1 + a]? = some (cell.setSlot f.slot (jT X v)) → H'.size = H.size → (∀ q, q ≠ X.2.1 + a → H'[q]? = H[q]?) →
      W p X.1 e R s m args below meth c H' (locs ++ [⟨X.2.1 + a, f.slot⟩]) cells slots (jEnd X Q below args s R) (F0 m (pc + 3) ls (st.map (jT X))) := by
    intro H' g1 g2 g3
    rw [hsl] at g1 ⊢
    refine kk p e R s m args below meth c C9 H' _ cells slots ls (jH_set hH hw g2 g3 ?_) (hS.put g2 g3 (show jA X (X.2.1 + a) from Nat.le_add_right _ _)) hL h1 h2
    exact ⟨_, hC.1, t_OB.to (V := updV (vp_V (fs.map (jT X))) k (jT X v)) ⟨_, g1, q2, q3, t_set q4 hap hk (jT X v)⟩ (fun j _ => jV_set hlen j)⟩
  unfold u_lay at hlay
  rw [if_neg (by rw [hfin]; decide)] at hlay
  have h6 := u_store hfc hkC hkind hlay hi (hC.2.2.1 k hk) f1 f2
  exact va_WputK C9.1 C9.2.1 (f := f) C9.2.2.2.1 (hA.word hl args) hi hst (by rw [q2]; exact h6) q1 q3 (by rw [hsl]; exact k2_hasslot (q4 k hk)) rfl rfl hdg key
theorem J_pop2 {v : Value} (hdg : decode M.2.1 pc = .ok (.pop2, 1)) (hv : v.category = 2) (k : J X M d kc ks (pc + 1) L st w Q) : J X M d kc ks pc L (v :: st) w Q :=
  fun p e R s m args below meth c C H locs cells slots ls hH hS hL h1 h2 => lv_pop2_2 C.1 C.2.1 hdg (by rw [jT_cat]; exact hv) (k p e R s m args below meth c C H locs cells slots ls hH hS hL h1 h2)
end JLAW
theorem law_i {i Ls : Nat} (hL : Ls ≤ 320) (hi : i ≤ 400) (h : ¬ nI Ls - nI 5 < nI i) : i + 5 ≤ Ls := by
  have e1 : (nI Ls - nI 5).toInt = (Ls : Int) - 5 := by have := pk_sub_toInt (a := Ls) (b := 5) (by omega) (by omega); exact this
  have e2 : (nI i).toInt = (i : Int) := nI_toInt (by omega)
  rw [Int32.lt_iff_toInt_lt, e1, e2] at h
  omega
