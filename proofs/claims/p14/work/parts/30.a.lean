/-! the law's tools -/
abbrev mL_law : jM := (yL_law, cL_law, 7, some .boolean, [])
theorem LI.lo {o : Nat} {S S' : StX} {w : List jC} (h : LI o S S' w) : LO o w := by
  obtain ⟨t, h⟩ := h
  exact h.2.2
theorem LI.bd {o : Nat} {S S' : StX} {w : List jC} (h : LI o S S' w) : 2 ≤ S.1 ∧ S.1 ≤ 7 ∧ ∀ c, c < 6 → Mv S.1 (S.2.2.2.2 c) := by
  obtain ⟨t, h⟩ := h
  exact ⟨h.1.1, h.1.2.1, h.1.2.2.1⟩
theorem LCx.kn {S : StX} {w w' : List jC} (h : LCx S w) (hS : SH (rX S.1 S.2.1 S.2.2.1 (S.2.2.2.1 + nI 1)) w') (hF : Fr kX w w') : LCx (KS S) w' := by
  obtain ⟨a1, a2, a3, ⟨a4, a5⟩, a6⟩ := h
  obtain ⟨_, hc, rfl⟩ := hS 0 _ rfl
  exact ⟨a1, a2, a3, ⟨hc, (hF.2 1 (Or.inl rfl) (gl a5)).trans a5⟩, hS⟩
theorem two {fs : List Value} (h : fs.length = 2) : ∃ a s, fs = [a, s] := by
  match fs, h with
  | [a, s], _ => exact ⟨a, s, rfl⟩
theorem lg_same {x y : Int64} (e : x = y) : lg_cmp x y = 0 := by
  subst e
  unfold lg_cmp
  rw [if_neg Int64.lt_irrefl, if_pos rfl]
theorem AG.D0 {G1 G2 : Prop} {D : Int32 → StX → Prop} {S a : StX} {v : Int32} (h : AG G1 G2 D S 0 v a) : D v a := by
  rcases h with ⟨e, _⟩ | ⟨e, _⟩ | ⟨_, _, _, s⟩
  · omega
  · omega
  · exact s
theorem AG.D1 {G1 G2 : Prop} {D : Int32 → StX → Prop} {S a : StX} {k : Nat} {v : Int32} (h : AG G1 G2 D S k v a) (e : k = 0) : D v a := by
  subst e
  exact h.D0
section JLAW
variable {X : jX} {M : jM} {d kc ks pc : Nat} {L : List (Option Value)} {st as : List Value} {w : List jC} {Q : jQ}
theorem uI {P : Int32 → Prop} {R R' : List jC → Prop} {RX RX' : String → List jC → Prop} (h : jMet X M d kc ks as w (pX (pI P R) RX)) (hR : ∀ w', R w' → R' w') (hX : ∀ E w', RX E w' → RX' E w') : jMet X M d kc ks as w (pX (pI (fun _ => True) R') RX') := h.mono (fun o w' hq => by
  match o, hq with
  | .inl (some (.int v)), hq => exact ⟨trivial, hR w' hq.2⟩
  | .inr E, hq => exact hX E w' hq)
theorem uI0 {P : Int32 → Prop} {R R' : List jC → Prop} (h : jMet X M d kc ks as w (pI P R)) (hR : ∀ w', R w' → R' w') : jMet X M d kc ks as w (pI (fun _ => True) R') := h.mono (fun o w' hq => by
  match o, hq with
  | .inl (some (.int v)), hq => exact ⟨trivial, hR w' hq.2⟩)
theorem uI1 {P P' : Int32 → Prop} {R R' : List jC → Prop} (h : jMet X M d kc ks as w (pI P R)) (hP : ∀ v, P v → P' v) (hR : ∀ w', R w' → R' w') : jMet X M d kc ks as w (pI P' R') := h.mono (fun o w' hq => by
  match o, hq with
  | .inl (some (.int v)), hq => exact ⟨hP v hq.1, hR w' hq.2⟩)
theorem uJX {P : Int32 → Prop} {R : List jC → Prop} {R' : Int32 → List jC → Prop} {RX RX' : String → List jC → Prop} (h : jMet X M d kc ks as w (pX (pI P R) RX)) (hR : ∀ v w', P v → R w' → R' v w') (hX : ∀ E w', RX E w' → RX' E w') : jMet X M d kc ks as w (pX (pJ R') RX') := h.mono (fun o w' hq => by
  match o, hq with
  | .inl (some (.int v)), hq => exact hR v w' hq.1 hq.2
  | .inr E, hq => exact hX E w' hq)
theorem uJ {P : Int32 → Prop} {R : List jC → Prop} {R' : Int32 → List jC → Prop} (h : jMet X M d kc ks as w (pI P R)) (hR : ∀ v w', P v → R w' → R' v w') : jMet X M d kc ks as w (pJ R') := h.mono (fun o w' hq => by
  match o, hq with
  | .inl (some (.int v)), hq => exact hR v w' hq.1 hq.2)
theorem uA {R R' : Nat → List jC → Prop} {RX RX' : String → List jC → Prop} (h : jMet X M d kc ks as w (pX (pA R) RX)) (hR : ∀ a w', R a w' → R' a w') (hX : ∀ E w', RX E w' → RX' E w') : jMet X M d kc ks as w (pX (pA R') RX') := h.mono (fun o w' hq => by
  match o, hq with
  | .inl (some (.ref a)), hq => exact hR a w' hq
  | .inr E, hq => exact hX E w' hq)
theorem uA0 {R R' : Nat → List jC → Prop} (h : jMet X M d kc ks as w (pA R)) (hR : ∀ a w', R a w' → R' a w') : jMet X M d kc ks as w (pA R') := h.mono (fun o w' hq => by
  match o, hq with
  | .inl (some (.ref a)), hq => exact hR a w' hq)
theorem uL0 {P : Int64 → Prop} {R R' : List jC → Prop} (h : jMet X M d kc ks as w (pL P R)) (hR : ∀ w', R w' → R' w') : jMet X M d kc ks as w (pL (fun _ => True) R') := h.mono (fun o w' hq => by
  match o, hq with
  | .inl (some (.long v)), hq => exact ⟨trivial, hR w' hq.2⟩)
theorem J_putN {ci : Nat} {C host : String} {T : u_T} {N : Nat} {ty : Nat → FieldType} {index k a : Nat} {fs : List Value} {v : Value} (hdg : decode M.2.1 pc = .ok (.putfield index, 3)) (hC : jCl ci C T N ty) (hk : k < N) (hl : Cond.fieldLinkNest M.1.cls index (T k).1 (T k).2.1 (T k).2.2.1 host ∈ jK)
    (hfin : (T k).2.2.2 = false) (hfit : jFit (ty k) v) (hw : w[a]? = some (.inr (ci, fs))) (hlen : k < fs.length)
    (kk : ∀ w' : List jC, w'.length = w.length → w'[a]? = some (.inr (ci, fs.set k v)) → (∀ c, c ≠ a → w'[c]? = w[c]?) → J X M d kc ks (pc + 3) L st w' Q) : J X M d kc ks pc L (v :: .ref a :: st) w Q := by
  have kk := kk (w.set a (.inr (ci, fs.set k v))) List.length_set (List.getElem?_set_self (gl hw)) (fun c hc => List.getElem?_set_ne (fun e => hc e.symm))
  intro p e R s m args below meth c C9 H locs cells slots ls hH hS hL h1 h2
  have hA := C9.2.2.2.2.2.2.2.2.1
  have hP := jH_at hH hw (fun fs' e => by have := hC.2.2.2.2; cases e; exact absurd this (Nat.lt_irrefl 99))
  have hts : ∀ w9 ∈ jK, w9.before args s = true := fun w9 hw9 => hA.word hw9 args
  have hap := va_apart (own := M.1.cls) hts hC.2.1 ty hC.2.2.1 hC.2.2.2.1 hA.2.1 hC.1
  obtain ⟨r, e1, cell, q1, q2, q3, q4⟩ := hP 0 _ rfl
  have hr : r = (C, T, N) := Option.some.inj (e1.symm.trans hC.1)
  subst hr
  obtain ⟨hSl, hfc, kC, hkC, hkind⟩ := hA.2.1.1 ci _ hC.1
  obtain ⟨cf, kf, fi, f, hi, hsl⟩ := hSl k hk
  have hlay := hts _ (hC.2.1 _ (u_in_lay hk))
  have hst := (u_facts hfc hkC (u_lays hts hC.2.1 hk) hi).1
  obtain ⟨f1, f2⟩ := jFit_spec (X := X) hfit
  have key : ∀ H' : Heap, H'[X.2.1 + a]? = some (cell.setSlot f.slot (jT X v)) → H'.size = H.size → (∀ q, q ≠ X.2.1 + a → H'[q]? = H[q]?) →
      W p X.1 e R s m args below meth c H' (locs ++ [⟨X.2.1 + a, f.slot⟩]) cells slots (jEnd X Q below args s R) (F0 m (pc + 3) ls (st.map (jT X))) := by
    intro H' g1 g2 g3
    rw [hsl] at g1 ⊢
    refine kk p e R s m args below meth c C9 H' _ cells slots ls (jH_set hH hw g2 g3 ?_) (hS.put g2 g3 (show jA X (X.2.1 + a) from Nat.le_add_right _ _)) hL h1 h2
    exact ⟨_, hC.1, t_OB.to (V := updV (vp_V (fs.map (jT X))) k (jT X v)) ⟨_, g1, q2, q3, t_set q4 hap hk (jT X v)⟩ (fun j _ => jV_set hlen j)⟩
  unfold u_lay at hlay
  rw [if_neg (by rw [hfin]; decide)] at hlay
  have h6 := u_store hfc hkC hkind hlay hi (hC.2.2.1 k hk) f1 f2
  exact va_WputK C9.1 C9.2.1 (f := f) C9.2.2.2.1 (hA.word hl args) hi hst (by rw [q2]; exact h6) q1 q3 (by rw [hsl]; exact k2_hasslot (q4 k hk)) rfl rfl hdg key
theorem J_pop2 {v : Value} (hdg : decode M.2.1 pc = .ok (.pop2, 1)) (hv : v.category = 2) (k : J X M d kc ks (pc + 1) L st w Q) : J X M d kc ks pc L (v :: st) w Q :=
  fun p e R s m args below meth c C H locs cells slots ls hH hS hL h1 h2 => lv_pop2_2 C.1 C.2.1 hdg (by rw [jT_cat]; exact hv) (k p e R s m args below meth c C H locs cells slots ls hH hS hL h1 h2)
end JLAW
theorem law_i {i Ls : Nat} (hL : Ls ≤ 320) (hi : i ≤ 400) (h : ¬ nI Ls - nI 5 < nI i) : i + 5 ≤ Ls := by
  have e1 : (nI Ls - nI 5).toInt = (Ls : Int) - 5 := by have := pk_sub_toInt (a := Ls) (b := 5) (by omega) (by omega); exact this
  have e2 : (nI i).toInt = (i : Int) := nI_toInt (by omega)
  rw [Int32.lt_iff_toInt_lt, e1, e2] at h
  omega
