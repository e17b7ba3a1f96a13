section
/-! the law's tools -/
abbrev mL_law : jM := (yL_law, cL_law, 7, some .boolean, [])
theorem LI.lo {o : Nat} {S S' : StX} {w : List jC} (h : LI o S S' w) : LO o w := by
  obtain ⟨t, h⟩ := h
  exact h.2.2
theorem LI.bd {o : Nat} {S S' : StX} {w : List jC} (h : LI o S S' w) : 2 ≤ S.1 ∧ S.1 ≤ 7 ∧ ∀ c, c < 6 → Mv S.1 (S.2.2.2.2 c) := by
  obtain ⟨t, h⟩ := h
  exact ⟨h.1.1, h.1.2.1, h.1.2.2.1⟩
theorem LCx.kn {S : StX} {w w' : List jC} (h : LCx S w) (hS : SH (rX S.1 S.2.1 S.2.2.1 (S.2.2.2.1 + nI 1)) w') (hF : Fr kX w w') : LCx (KS S) w' := by
  obtain ⟨a1, a2, a3, ⟨a4, a5⟩, a6⟩ := h
  obtain ⟨_, hc, rfl⟩ := hS 0 _ rfl
  exact ⟨a1, a2, a3, ⟨hc, (hF.2 1 (Or.inl rfl) (gl a5)).trans a5⟩, hS⟩
theorem two {fs : List Value} (h : fs.length = 2) : ∃ a s, fs = [a, s] := by
  match fs, h with
  | [a, s], _ => exact ⟨a, s, rfl⟩
theorem lg_same {x y : Int64} (e : x = y) : lg_cmp x y = 0 := by
  subst e
  unfold lg_cmp
  rw [if_neg Int64.lt_irrefl, if_pos rfl]
theorem AG.D0 {G1 G2 : Prop} {D : Int32 → StX → Prop} {S a : StX} {v : Int32} (h : AG G1 G2 D S 0 v a) : D v a := by
  rcases h with ⟨e, _⟩ | ⟨e, _⟩ | ⟨_, _, _, s⟩
  · omega
  · omega
  · exact s
theorem AG.D1 {G1 G2 : Prop} {D : Int32 → StX → Prop} {S a : StX} {k : Nat} {v : Int32} (h : AG G1 G2 D S k v a) (e : k = 0) : D v a := by
  subst e
  exact h.D0
section JLAW
variable {X : jX} {M : jM} {d kc ks pc : Nat} {L : List (Option Value)} {st as : List Value} {w : List jC} {Q : jQ}
theorem uI {P : Int32 → Prop} {R R' : List jC → Prop} {RX RX' : String → List jC → Prop} (h : jMet X M d kc ks as w (pX (pI P R) RX)) (hR : ∀ w', R w' → R' w') (hX : ∀ E w', RX E w' → RX' E w') : jMet X M d kc ks as w (pX (pI (fun _ => True) R') RX') := h.mono (fun o w' hq => by
  match o, hq with
  | .inl (some (.int v)), hq => exact ⟨trivial, hR w' hq.2⟩
  | .inr E, hq => exact hX E w' hq)
theorem uI0 {P : Int32 → Prop} {R R' : List jC → Prop} (h : jMet X M d kc ks as w (pI P R)) (hR : ∀ w', R w' → R' w') : jMet X M d kc ks as w (pI (fun _ => True) R') := h.mono (fun o w' hq => by
  match o, hq with
  | .inl (some (.int v)), hq => exact ⟨trivial, hR w' hq.2⟩)
theorem uI1 {P P' : Int32 → Prop} {R R' : List jC → Prop} (h : jMet X M d kc ks as w (pI P R)) (hP : ∀ v, P v → P' v) (hR : ∀ w', R w' → R' w') : jMet X M d kc ks as w (pI P' R') := h.mono (fun o w' hq => by
  match o, hq with
  | .inl (some (.int v)), hq => exact ⟨hP v hq.1, hR w' hq.2⟩)
theorem uJX {P : Int32 → Prop} {R : List jC → Prop} {R' : Int32 → List jC → Prop} {RX RX' : String → List jC → Prop} (h : jMet X M d kc ks as w (pX (pI P R) RX)) (hR : ∀ v w', P v → R w' → R' v w') (hX : ∀ E w', RX E w' → RX' E w') : jMet X M d kc ks as w (pX (pJ R') RX') := h.mono (fun o w' hq => by
  match o, hq with
  | .inl (some (.int v)), hq => exact hR v w' hq.1 hq.2
  | .inr E, hq => exact hX E w' hq)
theorem uJ {P : Int32 → Prop} {R : List jC → Prop} {R' : Int32 → List jC → Prop} (h : jMet X M d kc ks as w (pI P R)) (hR : ∀ v w', P v → R w' → R' v w') : jMet X M d kc ks as w (pJ R') := h.mono (fun o w' hq => by
  match o, hq with
  | .inl (some (.int v)), hq => exact hR v w' hq.1 hq.2)
theorem uA {R R' : Nat → List jC → Prop} {RX RX' : String → List jC → Prop} (h : jMet X M d kc ks as w (pX (pA R) RX)) (hR : ∀ a w', R a w' → R' a w') (hX : ∀ E w', RX E w' → RX' E w') : jMet X M d kc ks as w (pX (pA R') RX') := h.mono (fun o w' hq => by
  match o, hq with
  | .inl (some (.ref a)), hq => exact hR a w' hq
  | .inr E, hq => exact hX E w' hq)
theorem uA0 {R R' : Nat → List jC → Prop} (h : jMet X M d kc ks as w (pA R)) (hR : ∀ a w', R a w' → R' a w') : jMet X M d kc ks as w (pA R') := h.mono (fun o w' hq => by
  match o, hq with
  | .inl (some (.ref a)), hq => exact hR a w' hq)
theorem uL0 {P : Int64 → Prop} {R R' : List jC → Prop} (h : jMet X M d kc ks as w (pL P R)) (hR : ∀ w', R w' → R' w') : jMet X M d kc ks as w (pL (fun _ => True) R') := h.mono (fun o w' hq => by
  match o, hq with
  | .inl (some (.long v)), hq => exact ⟨trivial, hR w' hq.2⟩)
theorem J_putN {ci : Nat} {C host : String} {T : u_T} {N : Nat} {ty : Nat → FieldType} {index k a : Nat} {fs : List Value} {v : Value} (hdg : decode M.2.1 pc = .ok (.putfield index, 3)) (hC : jCl ci C T N ty) (hk : k < N) (hl : Cond.fieldLinkNest M.1.cls index (T k).1 (T k).2.1 (T k).2.2.1 host ∈ jK)
    (hfin : (T k).2.2.2 = false) (hfit : jFit (ty k) v) (hw : w[a]? = some (.inr (ci, fs))) (hlen : k < fs.length)
    (kk : ∀ w' : List jC, w'.length = w.length → w'[a]? = some (.inr (ci, fs.set k v)) → (∀ c, c ≠ a → w'[c]? = w[c]?) → J X M d kc ks (pc + 3) L st w' Q) : J X M d kc ks pc L (v :: .ref a :: st) w Q := by
  have kk := kk (w.set a (.inr (ci, fs.set k v))) List.length_set (List.getElem?_set_self (gl hw)) (fun c hc => List.getElem?_set_ne (fun e => hc e.symm))
  intro p e R s m args below meth c C9 H locs cells slots ls hH hS hL h1 h2
  have hA := C9.2.2.2.2.2.2.2.2.1
  have hP := jH_at hH hw (fun fs' e => by have := hC.2.2.2.2; cases e; exact absurd this (Nat.lt_irrefl 99))
  have hts : ∀ w9 ∈ jK, w9.before args s = true := fun w9 hw9 => hA.word hw9 args
  have hap := va_apart (own := M.1.cls) hts hC.2.1 ty hC.2.2.1 hC.2.2.2.1 hA.2.1 hC.1
  obtain ⟨r, e1, cell, q1, q2, q3, q4⟩ := hP 0 _ rfl
  have hr : r = (C, T, N) := Option.some.inj (e1.symm.trans hC.1)
  subst hr
  obtain ⟨hSl, hfc, kC, hkC, hkind⟩ := hA.2.1.1 ci _ hC.1
  obtain ⟨cf, kf, fi, f, hi, hsl⟩ := hSl k hk
  have hlay := hts _ (hC.2.1 _ (u_in_lay hk))
  have hst := (u_facts hfc hkC (u_lays hts hC.2.1 hk) hi).1
  obtain ⟨f1, f2⟩ := jFit_spec (X := X) hfit
  have key : ∀ H' : Heap, H'[X.2.1 + a]? = some (cell.setSlot f.slot (jT X v)) → H'.size = H.size → (∀ q, q ≠ X.2.1 + a → H'[q]? = H[q]?) →
      W p X.1 e R s m args below meth c H' (locs ++ [⟨X.2.1 + a, f.slot⟩]) cells slots (jEnd X Q below args s R) (F0 m (pc + 3) ls (st.map (jT X))) := by
    intro H' g1 g2 g3
    rw [hsl] at g1 ⊢
    refine kk p e R s m args below meth c C9 H' _ cells slots ls (jH_set hH hw g2 g3 ?_) (hS.put g2 g3 (show jA X (X.2.1 + a) from Nat.le_add_right _ _)) hL h1 h2
    exact ⟨_, hC.1, t_OB.to (V := updV (vp_V (fs.map (jT X))) k (jT X v)) ⟨_, g1, q2, q3, t_set q4 hap hk (jT X v)⟩ (fun j _ => jV_set hlen j)⟩
  unfold u_lay at hlay
  rw [if_neg (by rw [hfin]; decide)] at hlay
  have h6 := u_store hfc hkC hkind hlay hi (hC.2.2.1 k hk) f1 f2
  exact va_WputK C9.1 C9.2.1 (f := f) C9.2.2.2.1 (hA.word hl args) hi hst (by rw [q2]; exact h6) q1 q3 (by rw [hsl]; exact k2_hasslot (q4 k hk)) rfl rfl hdg key
theorem J_pop2 {v : Value} (hdg : decode M.2.1 pc = .ok (.pop2, 1)) (hv : v.category = 2) (k : J X M d kc ks (pc + 1) L st w Q) : J X M d kc ks pc L (v :: st) w Q :=
  fun p e R s m args below meth c C H locs cells slots ls hH hS hL h1 h2 => lv_pop2_2 C.1 C.2.1 hdg (by rw [jT_cat]; exact hv) (k p e R s m args below meth c C H locs cells slots ls hH hS hL h1 h2)
end JLAW
theorem law_i {i Ls : Nat} (hL : Ls ≤ 320) (hi : i ≤ 400) (h : ¬ nI Ls - nI 5 < nI i) : i + 5 ≤ Ls := by
  have e1 : (nI Ls - nI 5).toInt = (Ls : Int) - 5 := by have := pk_sub_toInt (a := Ls) (b := 5) (by omega) (by omega); exact this
  have e2 : (nI i).toInt = (i : Int) := nI_toInt (by omega)
  rw [Int32.lt_iff_toInt_lt, e1, e2] at h
  omega
end
section
/-! the class's calls, in one form -/
set_option maxRecDepth 100000 in
set_option maxHeartbeats 4000000 in
theorem uu_points {X : jX} (hs : X.1.stackTraces = false) {d : Nat} (hd : 40 ≤ d) {o : Nat} {S S' : StX} {w : List jC} (hI : LI o S S' w) (p0 : Int32) {kc ks : Nat} (hkc : 1 ≤ kc) (hks : 6 ≤ ks) : jMet X mX6_points d kc ks [.ref 0, .int p0] w (pX (pJ (fun v w' => ∃ S2 : StX, AG (∃ k : Nat, 2 ≤ k ∧ k ≤ 7 ∧ p0 = nI k) (True) (Dpoints S p0) S 0 v S2 ∧ LI o S2 S' w')) (fun E w' => ((E = "java/lang/IllegalArgumentException" ∧ AG (∃ k : Nat, 2 ≤ k ∧ k ≤ 7 ∧ p0 = nI k) (True) (Dpoints S p0) S 1 0 S)) ∧ LI o S S' w')) := by
  have hJ := hI
  obtain ⟨t, hC, hR, hO⟩ := hJ
  obtain ⟨h1, h2, hM, hH, hS⟩ := id hC
  refine jJX (c_X6_points_atx hs (d := d) (by omega) hH h1 h2 hM p0 (by omega) (by omega)) (fun v w' h => ?_) (fun E w' h => ?_)
  · obtain ⟨k, ev, e1, k1, k2, hH2, hF⟩ := h
    exact ⟨_, Or.inr (Or.inr ⟨rfl, ⟨k, k1, k2, e1⟩, trivial, ⟨k, e1, k1, k2, ev, rfl⟩⟩), hI.act (S2 := (k, S.2.1 + nI 1, S.2.2.1, S.2.2.2.1, fun _ => 1754760)) hH2 hF k1 k2 (fun c _ => by show Mv k 1754760; rw [e7_M k2]; exact eM_Mv k2)⟩
  · obtain ⟨hE, hw⟩ := h
    obtain ⟨e, g⟩ := hE
    exact ⟨⟨e, Or.inl ⟨rfl, (fun ⟨k, k1, k2, e⟩ => g (by rw [e]; exact ⟨nI_le k1 (by omega), nI_le k2 (by decide)⟩)), rfl⟩⟩, hI.psh hw⟩
set_option maxRecDepth 100000 in
set_option maxHeartbeats 4000000 in
theorem uu_lay {X : jX} (hs : X.1.stackTraces = false) {d : Nat} (hd : 40 ≤ d) {o : Nat} {S S' : StX} {w : List jC} (hI : LI o S S' w) (p0 : Int32) (p1 : Int32) {kc ks : Nat} (hkc : 2 ≤ kc) (hks : 12 ≤ ks) : jMet X mX6_lay d kc ks [.ref 0, .int p0, .int p1] w (pX (pJ (fun v w' => ∃ S2 : StX, AG (isN p0 6) (isN p1 (fc S.1)) (Dlay S p0 p1) S 0 v S2 ∧ LI o S2 S' w')) (fun E w' => ((E = "java/lang/IndexOutOfBoundsException" ∧ AG (isN p0 6) (isN p1 (fc S.1)) (Dlay S p0 p1) S 1 0 S) ∨ (E = "java/lang/IllegalArgumentException" ∧ AG (isN p0 6) (isN p1 (fc S.1)) (Dlay S p0 p1) S 2 0 S)) ∧ LI o S S' w')) := by
  have hJ := hI
  obtain ⟨t, hC, hR, hO⟩ := hJ
  obtain ⟨h1, h2, hM, hH, hS⟩ := id hC
  refine jJX (c_X6_lay_atx hs (d := d) (by omega) hH h1 h2 hM p0 p1 (by omega) (by omega)) (fun v w' h => ?_) (fun E w' h => ?_)
  · obtain ⟨na, nb, ea, eb, ha, hb, ev, hH2, hF⟩ := h
    exact ⟨_, Or.inr (Or.inr ⟨rfl, ⟨na, ha, ea⟩, ⟨nb, hb, eb⟩, ⟨na, nb, ea, eb, ha, hb, ev, rfl⟩⟩), hI.act (S2 := ES S na (XM S.1 nb)) hH2 hF h1 h2 (ES_M hM (XM_Mv (by omega) h2 nb))⟩
  · obtain ⟨hE, hw⟩ := h
    rcases hE with ⟨e, g⟩ | ⟨e, g1, g2⟩
    · exact ⟨Or.inl ⟨e, Or.inl ⟨rfl, g, rfl⟩⟩, hI.psh hw⟩
    · exact ⟨Or.inr ⟨e, Or.inr (Or.inl ⟨rfl, g1, g2, rfl⟩)⟩, hI.psh hw⟩
set_option maxRecDepth 100000 in
set_option maxHeartbeats 4000000 in
theorem uu_exchange {X : jX} (hs : X.1.stackTraces = false) {d : Nat} (hd : 40 ≤ d) {o : Nat} {S S' : StX} {w : List jC} (hI : LI o S S' w) (p0 : Int32) (p1 : Int32) (p2 : Int32) {kc ks : Nat} (hkc : 3 ≤ kc) (hks : 18 ≤ ks) : jMet X mX6_exchange d kc ks [.ref 0, .int p0, .int p1, .int p2] w (pX (pJ (fun v w' => ∃ S2 : StX, AG (isN p0 6 ∧ isN p1 S.1 ∧ isN p2 S.1) (True) (Dexchange S p0 p1 p2) S 0 v S2 ∧ LI o S2 S' w')) (fun E w' => ((E = "java/lang/IndexOutOfBoundsException" ∧ AG (isN p0 6 ∧ isN p1 S.1 ∧ isN p2 S.1) (True) (Dexchange S p0 p1 p2) S 1 0 S)) ∧ LI o S S' w')) := by
  have hJ := hI
  obtain ⟨t, hC, hR, hO⟩ := hJ
  obtain ⟨h1, h2, hM, hH, hS⟩ := id hC
  refine jJX (c_X6_exchange_atx hs (d := d) (by omega) hH h1 h2 hM p0 p1 p2 (by omega) (by omega)) (fun v w' h => ?_) (fun E w' h => ?_)
  · obtain ⟨na, nb, nc, ea, eb, ec, ha, hb, hc, ev, hH2, hF⟩ := h
    exact ⟨_, Or.inr (Or.inr ⟨rfl, ⟨⟨na, ha, ea⟩, ⟨nb, hb, eb⟩, ⟨nc, hc, ec⟩⟩, trivial, ⟨na, nb, nc, ea, eb, ec, ha, hb, hc, ev, rfl⟩⟩), hI.act (S2 := ES S na (c7 (S.2.2.2.2 na) (w8 (w8 1754760 nb nc) nc nb))) hH2 hF h1 h2 (ES_M hM (c7_Mv h2 (hM na ha) (by rw [w8_2 h2 hb hc]; exact mkM_Mv h2 (sw2_Pn hb hc))))⟩
  · obtain ⟨hE, hw⟩ := h
    obtain ⟨e, g⟩ := hE
    exact ⟨⟨e, Or.inl ⟨rfl, g, rfl⟩⟩, hI.psh hw⟩
set_option maxRecDepth 100000 in
set_option maxHeartbeats 4000000 in
theorem uu_ring {X : jX} (hs : X.1.stackTraces = false) {d : Nat} (hd : 40 ≤ d) {o : Nat} {S S' : StX} {w : List jC} (hI : LI o S S' w) (p0 : Int32) (p1 : Int32) (p2 : Int32) (p3 : Int32) {kc ks : Nat} (hkc : 5 ≤ kc) (hks : 30 ≤ ks) : jMet X mX6_ring d kc ks [.ref 0, .int p0, .int p1, .int p2, .int p3] w (pX (pJ (fun v w' => ∃ S2 : StX, AG (isN p0 6 ∧ isN p1 S.1 ∧ isN p2 S.1 ∧ isN p3 S.1) (p1 ≠ p2 ∧ p2 ≠ p3 ∧ p3 ≠ p1) (Dring S p0 p1 p2 p3) S 0 v S2 ∧ LI o S2 S' w')) (fun E w' => ((E = "java/lang/IndexOutOfBoundsException" ∧ AG (isN p0 6 ∧ isN p1 S.1 ∧ isN p2 S.1 ∧ isN p3 S.1) (p1 ≠ p2 ∧ p2 ≠ p3 ∧ p3 ≠ p1) (Dring S p0 p1 p2 p3) S 1 0 S) ∨ (E = "java/lang/IllegalArgumentException" ∧ AG (isN p0 6 ∧ isN p1 S.1 ∧ isN p2 S.1 ∧ isN p3 S.1) (p1 ≠ p2 ∧ p2 ≠ p3 ∧ p3 ≠ p1) (Dring S p0 p1 p2 p3) S 2 0 S)) ∧ LI o S S' w')) := by
  have hJ := hI
  obtain ⟨t, hC, hR, hO⟩ := hJ
  obtain ⟨h1, h2, hM, hH, hS⟩ := id hC
  refine jJX (c_X6_ring_atx hs (d := d) (by omega) hH h1 h2 hM p0 p1 p2 p3 (by omega) (by omega)) (fun v w' h => ?_) (fun E w' h => ?_)
  · obtain ⟨na, nb, nc, nf, ea, eb, ec, ef, ha, hb, hc, hf, f1, f2, f3, ev, hH2, hF⟩ := h
    exact ⟨_, Or.inr (Or.inr ⟨rfl, ⟨⟨na, ha, ea⟩, ⟨nb, hb, eb⟩, ⟨nc, hc, ec⟩, ⟨nf, hf, ef⟩⟩, ⟨fun e => f1 (nI_uq eb (e.trans ec) hb hc), fun e => f2 (nI_uq ec (e.trans ef) hc hf), fun e => f3 (nI_uq ef (e.trans eb) hf hb)⟩, ⟨na, nb, nc, nf, ea, eb, ec, ef, ha, hb, hc, hf, ev, rfl⟩⟩), hI.act (S2 := ES S na (c7 (S.2.2.2.2 na) (w8 (w8 (w8 1754760 nb nc) nc nf) nf nb))) hH2 hF h1 h2 (ES_M hM (c7_Mv h2 (hM na ha) (by rw [w8_3 h2 hb hc hf]; exact mkM_Mv h2 (sw3_Pn hb hc hf f1 f2 f3))))⟩
  · obtain ⟨hE, hw⟩ := h
    rcases hE with ⟨e, g⟩ | ⟨e, g1, g2⟩
    · exact ⟨Or.inl ⟨e, Or.inl ⟨rfl, g, rfl⟩⟩, hI.psh hw⟩
    · exact ⟨Or.inr ⟨e, Or.inr (Or.inl ⟨rfl, g1, g2, rfl⟩)⟩, hI.psh hw⟩
set_option maxRecDepth 100000 in
set_option maxHeartbeats 4000000 in
theorem uu_turn {X : jX} (hs : X.1.stackTraces = false) {d : Nat} (hd : 40 ≤ d) {o : Nat} {S S' : StX} {w : List jC} (hI : LI o S S' w) (p0 : Int32) (p1 : Int32) {kc ks : Nat} (hkc : 2 ≤ kc) (hks : 12 ≤ ks) : jMet X mX6_turn d kc ks [.ref 0, .int p0, .int p1] w (pX (pJ (fun v w' => ∃ S2 : StX, AG (isN p0 6) ((-100) ≤ p1 ∧ p1 ≤ nI 100) (Dturn S p0 p1) S 0 v S2 ∧ LI o S2 S' w')) (fun E w' => ((E = "java/lang/IndexOutOfBoundsException" ∧ AG (isN p0 6) ((-100) ≤ p1 ∧ p1 ≤ nI 100) (Dturn S p0 p1) S 1 0 S) ∨ (E = "java/lang/IllegalArgumentException" ∧ AG (isN p0 6) ((-100) ≤ p1 ∧ p1 ≤ nI 100) (Dturn S p0 p1) S 2 0 S)) ∧ LI o S S' w')) := by
  have hJ := hI
  obtain ⟨t, hC, hR, hO⟩ := hJ
  obtain ⟨h1, h2, hM, hH, hS⟩ := id hC
  refine jJX (c_X6_turn_atx hs (d := d) (by omega) hH h1 h2 hM p0 p1 (by omega) (by omega)) (fun v w' h => ?_) (fun E w' h => ?_)
  · obtain ⟨na, ea, ha, f1, f2, ev, hH2, hF⟩ := h
    exact ⟨_, Or.inr (Or.inr ⟨rfl, ⟨na, ha, ea⟩, ⟨f1, f2⟩, ⟨na, ea, ha, ev, rfl⟩⟩), hI.act (S2 := ES S na (c7 (S.2.2.2.2 na) (bW (fun p => (p + tT S.1 p1) % S.1) S.1))) hH2 hF h1 h2 (ES_M hM (c7_Mv h2 (hM na ha) (by rw [bW_M h2 (Pn_rot (by omega) (fun _ _ => rfl)) _ (fun _ _ => rfl) (fun p _ => by have := Nat.mod_lt (p + tT S.1 p1) (show 0 < S.1 by omega); omega)]; exact mkM_Mv h2 (Pn_rot (by omega) (fun _ _ => rfl)))))⟩
  · obtain ⟨hE, hw⟩ := h
    rcases hE with ⟨e, g⟩ | ⟨e, g1, g2⟩
    · exact ⟨Or.inl ⟨e, Or.inl ⟨rfl, g, rfl⟩⟩, hI.psh hw⟩
    · exact ⟨Or.inr ⟨e, Or.inr (Or.inl ⟨rfl, g1, g2, rfl⟩)⟩, hI.psh hw⟩
set_option maxRecDepth 100000 in
set_option maxHeartbeats 4000000 in
theorem uu_mirror {X : jX} (hs : X.1.stackTraces = false) {d : Nat} (hd : 40 ≤ d) {o : Nat} {S S' : StX} {w : List jC} (hI : LI o S S' w) (p0 : Int32) {kc ks : Nat} (hkc : 1 ≤ kc) (hks : 6 ≤ ks) : jMet X mX6_mirror d kc ks [.ref 0, .int p0] w (pX (pJ (fun v w' => ∃ S2 : StX, AG (isN p0 6) (True) (Dmirror S p0) S 0 v S2 ∧ LI o S2 S' w')) (fun E w' => ((E = "java/lang/IndexOutOfBoundsException" ∧ AG (isN p0 6) (True) (Dmirror S p0) S 1 0 S)) ∧ LI o S S' w')) := by
  have hJ := hI
  obtain ⟨t, hC, hR, hO⟩ := hJ
  obtain ⟨h1, h2, hM, hH, hS⟩ := id hC
  refine jJX (c_X6_mirror_atx hs (d := d) (by omega) hH h1 h2 hM p0 (by omega) (by omega)) (fun v w' h => ?_) (fun E w' h => ?_)
  · obtain ⟨na, ea, ha, ev, hH2, hF⟩ := h
    exact ⟨_, Or.inr (Or.inr ⟨rfl, ⟨na, ha, ea⟩, trivial, ⟨na, ea, ha, ev, rfl⟩⟩), hI.act (S2 := ES S na (c7 (S.2.2.2.2 na) (bW (fun p => S.1 - 1 - p) S.1))) hH2 hF h1 h2 (ES_M hM (c7_Mv h2 (hM na ha) (by rw [bW_M h2 (Pn_rev (fun _ _ => rfl)) _ (fun _ _ => rfl) (fun p _ => by omega)]; exact mkM_Mv h2 (Pn_rev (fun _ _ => rfl)))))⟩
  · obtain ⟨hE, hw⟩ := h
    obtain ⟨e, g⟩ := hE
    exact ⟨⟨e, Or.inl ⟨rfl, g, rfl⟩⟩, hI.psh hw⟩
set_option maxRecDepth 100000 in
set_option maxHeartbeats 4000000 in
theorem uu_copy {X : jX} (hs : X.1.stackTraces = false) {d : Nat} (hd : 40 ≤ d) {o : Nat} {S S' : StX} {w : List jC} (hI : LI o S S' w) (p0 : Int32) (p1 : Int32) {kc ks : Nat} (hkc : 2 ≤ kc) (hks : 12 ≤ ks) : jMet X mX6_copy d kc ks [.ref 0, .int p0, .int p1] w (pX (pJ (fun v w' => ∃ S2 : StX, AG (isN p0 6 ∧ isN p1 6) (True) (Dcopy S p0 p1) S 0 v S2 ∧ LI o S2 S' w')) (fun E w' => ((E = "java/lang/IndexOutOfBoundsException" ∧ AG (isN p0 6 ∧ isN p1 6) (True) (Dcopy S p0 p1) S 1 0 S)) ∧ LI o S S' w')) := by
  have hJ := hI
  obtain ⟨t, hC, hR, hO⟩ := hJ
  obtain ⟨h1, h2, hM, hH, hS⟩ := id hC
  refine jJX (c_X6_copy_atx hs (d := d) (by omega) hH h1 h2 hM p0 p1 (by omega) (by omega)) (fun v w' h => ?_) (fun E w' h => ?_)
  · obtain ⟨na, nb, ea, eb, ha, hb, ev, hH2, hF⟩ := h
    exact ⟨_, Or.inr (Or.inr ⟨rfl, ⟨⟨na, ha, ea⟩, ⟨nb, hb, eb⟩⟩, trivial, ⟨na, nb, ea, eb, ha, hb, ev, rfl⟩⟩), hI.act (S2 := ES S nb (S.2.2.2.2 na)) hH2 hF h1 h2 (ES_M hM (hM na ha))⟩
  · obtain ⟨hE, hw⟩ := h
    obtain ⟨e, g⟩ := hE
    exact ⟨⟨e, Or.inl ⟨rfl, g, rfl⟩⟩, hI.psh hw⟩
set_option maxRecDepth 100000 in
set_option maxHeartbeats 4000000 in
theorem uu_swap {X : jX} (hs : X.1.stackTraces = false) {d : Nat} (hd : 40 ≤ d) {o : Nat} {S S' : StX} {w : List jC} (hI : LI o S S' w) (p0 : Int32) (p1 : Int32) {kc ks : Nat} (hkc : 2 ≤ kc) (hks : 12 ≤ ks) : jMet X mX6_swap d kc ks [.ref 0, .int p0, .int p1] w (pX (pJ (fun v w' => ∃ S2 : StX, AG (isN p0 6 ∧ isN p1 6) (True) (Dswap S p0 p1) S 0 v S2 ∧ LI o S2 S' w')) (fun E w' => ((E = "java/lang/IndexOutOfBoundsException" ∧ AG (isN p0 6 ∧ isN p1 6) (True) (Dswap S p0 p1) S 1 0 S)) ∧ LI o S S' w')) := by
  have hJ := hI
  obtain ⟨t, hC, hR, hO⟩ := hJ
  obtain ⟨h1, h2, hM, hH, hS⟩ := id hC
  refine jJX (c_X6_swap_atx hs (d := d) (by omega) hH h1 h2 hM p0 p1 (by omega) (by omega)) (fun v w' h => ?_) (fun E w' h => ?_)
  · obtain ⟨na, nb, ea, eb, ha, hb, ev, hH2, hF⟩ := h
    exact ⟨_, Or.inr (Or.inr ⟨rfl, ⟨⟨na, ha, ea⟩, ⟨nb, hb, eb⟩⟩, trivial, ⟨na, nb, ea, eb, ha, hb, ev, rfl⟩⟩), hI.act (S2 := (S.1, S.2.1 + nI 1, S.2.2.1, S.2.2.2.1, up (up S.2.2.2.2 na (S.2.2.2.2 nb)) nb (S.2.2.2.2 na))) hH2 hF h1 h2 (fun c hc => by show Mv S.1 (up (up S.2.2.2.2 na (S.2.2.2.2 nb)) nb (S.2.2.2.2 na) c); unfold up; split; exact hM _ ha; split; exact hM _ hb; exact hM _ hc)⟩
  · obtain ⟨hE, hw⟩ := h
    obtain ⟨e, g⟩ := hE
    exact ⟨⟨e, Or.inl ⟨rfl, g, rfl⟩⟩, hI.psh hw⟩
set_option maxRecDepth 100000 in
set_option maxHeartbeats 4000000 in
theorem uu_then {X : jX} (hs : X.1.stackTraces = false) {d : Nat} (hd : 40 ≤ d) {o : Nat} {S S' : StX} {w : List jC} (hI : LI o S S' w) (p0 : Int32) (p1 : Int32) (p2 : Int32) {kc ks : Nat} (hkc : 3 ≤ kc) (hks : 18 ≤ ks) : jMet X mX6_then d kc ks [.ref 0, .int p0, .int p1, .int p2] w (pX (pJ (fun v w' => ∃ S2 : StX, AG (isN p0 6 ∧ isN p1 6 ∧ isN p2 6) (True) (Dthen S p0 p1 p2) S 0 v S2 ∧ LI o S2 S' w')) (fun E w' => ((E = "java/lang/IndexOutOfBoundsException" ∧ AG (isN p0 6 ∧ isN p1 6 ∧ isN p2 6) (True) (Dthen S p0 p1 p2) S 1 0 S)) ∧ LI o S S' w')) := by
  have hJ := hI
  obtain ⟨t, hC, hR, hO⟩ := hJ
  obtain ⟨h1, h2, hM, hH, hS⟩ := id hC
  refine jJX (c_X6_then_atx hs (d := d) (by omega) hH h1 h2 hM p0 p1 p2 (by omega) (by omega)) (fun v w' h => ?_) (fun E w' h => ?_)
  · obtain ⟨na, nb, nc, ea, eb, ec, ha, hb, hc, ev, hH2, hF⟩ := h
    exact ⟨_, Or.inr (Or.inr ⟨rfl, ⟨⟨na, ha, ea⟩, ⟨nb, hb, eb⟩, ⟨nc, hc, ec⟩⟩, trivial, ⟨na, nb, nc, ea, eb, ec, ha, hb, hc, ev, rfl⟩⟩), hI.act (S2 := ES S nc (c7 (S.2.2.2.2 na) (S.2.2.2.2 nb))) hH2 hF h1 h2 (ES_M hM (c7_Mv h2 (hM na ha) (hM nb hb)))⟩
  · obtain ⟨hE, hw⟩ := h
    obtain ⟨e, g⟩ := hE
    exact ⟨⟨e, Or.inl ⟨rfl, g, rfl⟩⟩, hI.psh hw⟩
set_option maxRecDepth 100000 in
set_option maxHeartbeats 4000000 in
theorem uu_undo {X : jX} (hs : X.1.stackTraces = false) {d : Nat} (hd : 40 ≤ d) {o : Nat} {S S' : StX} {w : List jC} (hI : LI o S S' w) (p0 : Int32) (p1 : Int32) {kc ks : Nat} (hkc : 2 ≤ kc) (hks : 12 ≤ ks) : jMet X mX6_undo d kc ks [.ref 0, .int p0, .int p1] w (pX (pJ (fun v w' => ∃ S2 : StX, AG (isN p0 6 ∧ isN p1 6) (True) (Dundo S p0 p1) S 0 v S2 ∧ LI o S2 S' w')) (fun E w' => ((E = "java/lang/IndexOutOfBoundsException" ∧ AG (isN p0 6 ∧ isN p1 6) (True) (Dundo S p0 p1) S 1 0 S)) ∧ LI o S S' w')) := by
  have hJ := hI
  obtain ⟨t, hC, hR, hO⟩ := hJ
  obtain ⟨h1, h2, hM, hH, hS⟩ := id hC
  refine jJX (c_X6_undo_atx hs (d := d) (by omega) hH h1 h2 hM p0 p1 (by omega) (by omega)) (fun v w' h => ?_) (fun E w' h => ?_)
  · obtain ⟨na, nb, ea, eb, ha, hb, ev, hH2, hF⟩ := h
    exact ⟨_, Or.inr (Or.inr ⟨rfl, ⟨⟨na, ha, ea⟩, ⟨nb, hb, eb⟩⟩, trivial, ⟨na, nb, ea, eb, ha, hb, ev, rfl⟩⟩), hI.act (S2 := ES S nb (i7 (S.2.2.2.2 na))) hH2 hF h1 h2 (ES_M hM (i7_Mv h2 (hM na ha)))⟩
  · obtain ⟨hE, hw⟩ := h
    obtain ⟨e, g⟩ := hE
    exact ⟨⟨e, Or.inl ⟨rfl, g, rfl⟩⟩, hI.psh hw⟩
set_option maxRecDepth 100000 in
set_option maxHeartbeats 4000000 in
theorem uu_power {X : jX} (hs : X.1.stackTraces = false) {d : Nat} (hd : 40 ≤ d) {o : Nat} {S S' : StX} {w : List jC} (hI : LI o S S' w) (p0 : Int32) (p1 : Int32) (p2 : Int32) {kc ks : Nat} (hkc : 3 ≤ kc) (hks : 18 ≤ ks) : jMet X mX6_power d kc ks [.ref 0, .int p0, .int p1, .int p2] w (pX (pJ (fun v w' => ∃ S2 : StX, AG (isN p0 6 ∧ isN p2 6) ((-1000) ≤ p1 ∧ p1 ≤ nI 1000) (Dpower S p0 p1 p2) S 0 v S2 ∧ LI o S2 S' w')) (fun E w' => ((E = "java/lang/IndexOutOfBoundsException" ∧ AG (isN p0 6 ∧ isN p2 6) ((-1000) ≤ p1 ∧ p1 ≤ nI 1000) (Dpower S p0 p1 p2) S 1 0 S) ∨ (E = "java/lang/IllegalArgumentException" ∧ AG (isN p0 6 ∧ isN p2 6) ((-1000) ≤ p1 ∧ p1 ≤ nI 1000) (Dpower S p0 p1 p2) S 2 0 S)) ∧ LI o S S' w')) := by
  have hJ := hI
  obtain ⟨t, hC, hR, hO⟩ := hJ
  obtain ⟨h1, h2, hM, hH, hS⟩ := id hC
  refine jJX (c_X6_power_atx hs (d := d) (by omega) hH h1 h2 hM p0 p1 p2 (by omega) (by omega)) (fun v w' h => ?_) (fun E w' h => ?_)
  · obtain ⟨na, nc, ea, ec, ha, hc, f1, f2, ev, hH2, hF⟩ := h
    exact ⟨_, Or.inr (Or.inr ⟨rfl, ⟨⟨na, ha, ea⟩, ⟨nc, hc, ec⟩⟩, ⟨f1, f2⟩, ⟨na, nc, ea, ec, ha, hc, ev, rfl⟩⟩), hI.act (S2 := ES S nc (pwM p1 (S.2.2.2.2 na))) hH2 hF h1 h2 (ES_M hM (pwM_Mv h2 (hM na ha) p1))⟩
  · obtain ⟨hE, hw⟩ := h
    rcases hE with ⟨e, g⟩ | ⟨e, g1, g2⟩
    · exact ⟨Or.inl ⟨e, Or.inl ⟨rfl, g, rfl⟩⟩, hI.psh hw⟩
    · exact ⟨Or.inr ⟨e, Or.inr (Or.inl ⟨rfl, g1, g2, rfl⟩)⟩, hI.psh hw⟩
set_option maxRecDepth 100000 in
set_option maxHeartbeats 4000000 in
theorem uu_rename {X : jX} (hs : X.1.stackTraces = false) {d : Nat} (hd : 40 ≤ d) {o : Nat} {S S' : StX} {w : List jC} (hI : LI o S S' w) (p0 : Int32) (p1 : Int32) (p2 : Int32) {kc ks : Nat} (hkc : 3 ≤ kc) (hks : 18 ≤ ks) : jMet X mX6_rename d kc ks [.ref 0, .int p0, .int p1, .int p2] w (pX (pJ (fun v w' => ∃ S2 : StX, AG (isN p0 6 ∧ isN p1 6 ∧ isN p2 6) (True) (Drename S p0 p1 p2) S 0 v S2 ∧ LI o S2 S' w')) (fun E w' => ((E = "java/lang/IndexOutOfBoundsException" ∧ AG (isN p0 6 ∧ isN p1 6 ∧ isN p2 6) (True) (Drename S p0 p1 p2) S 1 0 S)) ∧ LI o S S' w')) := by
  have hJ := hI
  obtain ⟨t, hC, hR, hO⟩ := hJ
  obtain ⟨h1, h2, hM, hH, hS⟩ := id hC
  refine jJX (c_X6_rename_atx hs (d := d) (by omega) hH h1 h2 hM p0 p1 p2 (by omega) (by omega)) (fun v w' h => ?_) (fun E w' h => ?_)
  · obtain ⟨na, nb, nc, ea, eb, ec, ha, hb, hc, ev, hH2, hF⟩ := h
    exact ⟨_, Or.inr (Or.inr ⟨rfl, ⟨⟨na, ha, ea⟩, ⟨nb, hb, eb⟩, ⟨nc, hc, ec⟩⟩, trivial, ⟨na, nb, nc, ea, eb, ec, ha, hb, hc, ev, rfl⟩⟩), hI.act (S2 := ES S nc (c7 (c7 (i7 (S.2.2.2.2 nb)) (S.2.2.2.2 na)) (S.2.2.2.2 nb))) hH2 hF h1 h2 (ES_M hM (c7_Mv h2 (c7_Mv h2 (i7_Mv h2 (hM nb hb)) (hM na ha)) (hM nb hb)))⟩
  · obtain ⟨hE, hw⟩ := h
    obtain ⟨e, g⟩ := hE
    exact ⟨⟨e, Or.inl ⟨rfl, g, rfl⟩⟩, hI.psh hw⟩
set_option maxRecDepth 100000 in
set_option maxHeartbeats 4000000 in
theorem uu_match {X : jX} (hs : X.1.stackTraces = false) {d : Nat} (hd : 40 ≤ d) {o : Nat} {S S' : StX} {w : List jC} (hI : LI o S S' w) (p0 : Int32) (p1 : Int32) (p2 : Int32) {kc ks : Nat} (hkc : 3 ≤ kc) (hks : 18 ≤ ks) : jMet X mX6_match d kc ks [.ref 0, .int p0, .int p1, .int p2] w (pX (pJ (fun v w' => ∃ S2 : StX, AG (isN p0 6 ∧ isN p1 6 ∧ isN p2 6) (True) (Dmatch S p0 p1 p2) S 0 v S2 ∧ LI o S2 S' w')) (fun E w' => ((E = "java/lang/IndexOutOfBoundsException" ∧ AG (isN p0 6 ∧ isN p1 6 ∧ isN p2 6) (True) (Dmatch S p0 p1 p2) S 1 0 S)) ∧ LI o S S' w')) := by
  have hJ := hI
  obtain ⟨t, hC, hR, hO⟩ := hJ
  obtain ⟨h1, h2, hM, hH, hS⟩ := id hC
  refine jJX (c_X6_match_atx hs (d := d) (by omega) hH h1 h2 hM p0 p1 p2 (by omega) (by omega)) (fun v w' h => ?_) (fun E w' h => ?_)
  · rcases h with ⟨na, nb, nc, y, ev, ea, eb, ec, ha, hb, hc, hy, hH2, hF⟩ | ⟨na, nb, nc, ev, ea, eb, ec, ha, hb, hc, hy, hH2, hF⟩
    · exact ⟨_, Or.inr (Or.inr ⟨rfl, ⟨⟨na, ha, ea⟩, ⟨nb, hb, eb⟩, ⟨nc, hc, ec⟩⟩, trivial, ⟨na, nb, nc, ea, eb, ec, ha, hb, hc, Or.inl ⟨y, hy, ev, rfl⟩⟩⟩), hI.act (S2 := ES S nc y) hH2 hF h1 h2 (ES_M hM hy.1)⟩
    · exact ⟨_, Or.inr (Or.inr ⟨rfl, ⟨⟨na, ha, ea⟩, ⟨nb, hb, eb⟩, ⟨nc, hc, ec⟩⟩, trivial, ⟨na, nb, nc, ea, eb, ec, ha, hb, hc, Or.inr ⟨hy, ev, rfl⟩⟩⟩), hI.act (S2 := NS S) hH2 hF h1 h2 hM⟩
  · obtain ⟨hE, hw⟩ := h
    obtain ⟨e, g⟩ := hE
    exact ⟨⟨e, Or.inl ⟨rfl, g, rfl⟩⟩, hI.psh hw⟩
set_option maxRecDepth 100000 in
set_option maxHeartbeats 4000000 in
theorem uu_nth {X : jX} (hs : X.1.stackTraces = false) {d : Nat} (hd : 40 ≤ d) {o : Nat} {S S' : StX} {w : List jC} (hI : LI o S S' w) (p0 : Int32) (p1 : Int32) (p2 : Int32) (p3 : Int32) {kc ks : Nat} (hkc : 4 ≤ kc) (hks : 24 ≤ ks) : jMet X mX6_nth d kc ks [.ref 0, .int p0, .int p1, .int p2, .int p3] w (pX (pJ (fun v w' => ∃ S2 : StX, AG (isN p1 6 ∧ isN p3 6) (isN p0 64 ∧ 0 ≤ p2) (Dnth S p0 p1 p2 p3) S 0 v S2 ∧ LI o S2 S' w')) (fun E w' => ((E = "java/lang/IndexOutOfBoundsException" ∧ AG (isN p1 6 ∧ isN p3 6) (isN p0 64 ∧ 0 ≤ p2) (Dnth S p0 p1 p2 p3) S 1 0 S) ∨ (E = "java/lang/IllegalArgumentException" ∧ AG (isN p1 6 ∧ isN p3 6) (isN p0 64 ∧ 0 ≤ p2) (Dnth S p0 p1 p2 p3) S 2 0 S)) ∧ LI o S S' w')) := by
  have hJ := hI
  obtain ⟨t, hC, hR, hO⟩ := hJ
  obtain ⟨h1, h2, hM, hH, hS⟩ := id hC
  obtain ⟨st, sv, rc, sz, kw, ns, tk, ro, nn, hCM⟩ := CM_of hC
  refine jJX (c_X6_nth_atx hs (d := d) (by omega) hH h1 h2 hM hCM p0 p1 p2 p3 (by omega) (by omega)) (fun v w' h => ?_) (fun E w' h => ?_)
  · rcases h with ⟨s, na, nb, rk, y, ev, es, ea, eb, er, hs', ha, hb, hr, hlt, hy1, hy2, hH2, hF, st', sv', rc', sz', kw', ns', tk', ro', nn', hC2, hns, hnn⟩ | ⟨s, na, nb, rk, ev, es, ea, eb, er, hs', ha, hb, hr, hlt, hH2, hF, st', sv', rc', sz', kw', ns', tk', ro', nn', hC2, hns, hnn⟩
    · exact ⟨_, Or.inr (Or.inr ⟨rfl, ⟨⟨na, ha, ea⟩, ⟨nb, hb, eb⟩⟩, ⟨⟨s, hs', es⟩, by rw [er]; exact nI_pos' hr⟩, ⟨s, na, nb, rk, es, ea, eb, er, hs', ha, hb, hr, Or.inl ⟨y, hlt, hy1, hy2, ev, rfl⟩⟩⟩), hI.nth (S2 := ES S nb y) hH2 hF hC2 hns hnn h1 h2 (ES_M hM hy1)⟩
    · exact ⟨_, Or.inr (Or.inr ⟨rfl, ⟨⟨na, ha, ea⟩, ⟨nb, hb, eb⟩⟩, ⟨⟨s, hs', es⟩, by rw [er]; exact nI_pos' hr⟩, ⟨s, na, nb, rk, es, ea, eb, er, hs', ha, hb, hr, Or.inr ⟨hlt, ev, rfl⟩⟩⟩), hI.nth (S2 := NS S) hH2 hF hC2 hns hnn h1 h2 hM⟩
  · obtain ⟨hE, hw⟩ := h
    rcases hE with ⟨e, g⟩ | ⟨e, g1, g2⟩
    · exact ⟨Or.inl ⟨e, Or.inl ⟨rfl, g, rfl⟩⟩, hI.psh hw⟩
    · exact ⟨Or.inr ⟨e, Or.inr (Or.inl ⟨rfl, g1, g2, rfl⟩)⟩, hI.psh hw⟩
set_option maxRecDepth 100000 in
set_option maxHeartbeats 4000000 in
theorem uu_number {X : jX} (hs : X.1.stackTraces = false) {d : Nat} (hd : 40 ≤ d) {o : Nat} {S S' : StX} {w : List jC} (hI : LI o S S' w) (p0 : Int32) {kc ks : Nat} (hkc : 1 ≤ kc) (hks : 6 ≤ ks) : jMet X mX6_number d kc ks [.ref 0, .int p0] w (pX (pJ (fun v w' => ∃ S2 : StX, AG (isN p0 6) (True) (Dnumber S p0) S 0 v S2 ∧ LI o S2 S' w')) (fun E w' => ((E = "java/lang/IndexOutOfBoundsException" ∧ AG (isN p0 6) (True) (Dnumber S p0) S 1 0 S)) ∧ LI o S S' w')) := by
  have hJ := hI
  obtain ⟨t, hC, hR, hO⟩ := hJ
  obtain ⟨h1, h2, hM, hH, hS⟩ := id hC
  refine jJX (c_X6_number_atx hs (d := d) (by omega) hH h1 h2 hM p0 (by omega) (by omega)) (fun v w' h => ?_) (fun E w' h => ?_)
  · obtain ⟨na, ea, ha, ev, hH2, hF⟩ := h
    exact ⟨_, Or.inr (Or.inr ⟨rfl, ⟨na, ha, ea⟩, trivial, ⟨na, ea, ha, ev, rfl⟩⟩), hI.act (S2 := S) hH2 hF h1 h2 hM⟩
  · obtain ⟨hE, hw⟩ := h
    obtain ⟨e, g⟩ := hE
    exact ⟨⟨e, Or.inl ⟨rfl, g, rfl⟩⟩, hI.psh hw⟩
set_option maxRecDepth 100000 in
set_option maxHeartbeats 4000000 in
theorem uu_goes {X : jX} (hs : X.1.stackTraces = false) {d : Nat} (hd : 40 ≤ d) {o : Nat} {S S' : StX} {w : List jC} (hI : LI o S S' w) (p0 : Int32) (p1 : Int32) {kc ks : Nat} (hkc : 2 ≤ kc) (hks : 12 ≤ ks) : jMet X mX6_goes d kc ks [.ref 0, .int p0, .int p1] w (pX (pJ (fun v w' => ∃ S2 : StX, AG (isN p0 6 ∧ isN p1 S.1) (True) (Dgoes S p0 p1) S 0 v S2 ∧ LI o S2 S' w')) (fun E w' => ((E = "java/lang/IndexOutOfBoundsException" ∧ AG (isN p0 6 ∧ isN p1 S.1) (True) (Dgoes S p0 p1) S 1 0 S)) ∧ LI o S S' w')) := by
  have hJ := hI
  obtain ⟨t, hC, hR, hO⟩ := hJ
  obtain ⟨h1, h2, hM, hH, hS⟩ := id hC
  refine jJX (c_X6_goes_atx hs (d := d) (by omega) hH h1 h2 hM p0 p1 (by omega) (by omega)) (fun v w' h => ?_) (fun E w' h => ?_)
  · obtain ⟨na, nb, ea, eb, ha, hb, ev, hH2, hF⟩ := h
    exact ⟨_, Or.inr (Or.inr ⟨rfl, ⟨⟨na, ha, ea⟩, ⟨nb, hb, eb⟩⟩, trivial, ⟨na, nb, ea, eb, ha, hb, ev, rfl⟩⟩), hI.act (S2 := S) hH2 hF h1 h2 hM⟩
  · obtain ⟨hE, hw⟩ := h
    obtain ⟨e, g⟩ := hE
    exact ⟨⟨e, Or.inl ⟨rfl, g, rfl⟩⟩, hI.psh hw⟩
set_option maxRecDepth 100000 in
set_option maxHeartbeats 4000000 in
theorem uu_text {X : jX} (hs : X.1.stackTraces = false) {d : Nat} (hd : 40 ≤ d) (hXO : XO X) {o : Nat} {S S' : StX} {w : List jC} (hI : LI o S S' w) (p0 : Int32) {kc ks : Nat} (hkc : 40 ≤ kc) (hks : 1500 ≤ ks) : jMet X mX6_text d kc ks [.ref 0, .int p0] w (pX (pA (fun _ w' => LI o S S' w')) (fun E w' => (E = "java/lang/IndexOutOfBoundsException") ∧ LI o S S' w')) := by
  have hJ := hI
  obtain ⟨t, hC, hR, hO⟩ := hJ
  obtain ⟨h1, h2, hM, hH, hS⟩ := id hC
  exact uA (c_X6_text hs (d := d) (by omega) hXO h1 h2 hS p0 hkc hks) (fun a w' h => hI.q h.1 h.2) (fun E w' h => ⟨h.1, hI.q h.2.1 h.2.2⟩)
set_option maxRecDepth 100000 in
set_option maxHeartbeats 4000000 in
theorem uu_rings {X : jX} (hs : X.1.stackTraces = false) {d : Nat} (hd : 40 ≤ d) (hXO : XO X) {o : Nat} {S S' : StX} {w : List jC} (hI : LI o S S' w) (p0 : Int32) {kc ks : Nat} (hkc : 40 ≤ kc) (hks : 1500 ≤ ks) : jMet X mX6_rings d kc ks [.ref 0, .int p0] w (pX (pA (fun _ w' => LI o S S' w')) (fun E w' => (E = "java/lang/IndexOutOfBoundsException") ∧ LI o S S' w')) := by
  have hJ := hI
  obtain ⟨t, hC, hR, hO⟩ := hJ
  obtain ⟨h1, h2, hM, hH, hS⟩ := id hC
  exact uA (c_X6_rings hs (d := d) (by omega) hXO h1 h2 hS p0 hkc hks) (fun a w' h => hI.q h.1 h.2) (fun E w' h => ⟨h.1, hI.q h.2.1 h.2.2⟩)
set_option maxRecDepth 100000 in
set_option maxHeartbeats 4000000 in
theorem uu_ringText {X : jX} (hs : X.1.stackTraces = false) {d : Nat} (hd : 40 ≤ d) (hXO : XO X) {o : Nat} {S S' : StX} {w : List jC} (hI : LI o S S' w) (p0 : Int32) (p1 : Int32) {kc ks : Nat} (hkc : 40 ≤ kc) (hks : 1500 ≤ ks) : jMet X mX6_ringText d kc ks [.ref 0, .int p0, .int p1] w (pX (pA (fun _ w' => LI o S S' w')) (fun E w' => (E = "java/lang/IndexOutOfBoundsException") ∧ LI o S S' w')) := by
  have hJ := hI
  obtain ⟨t, hC, hR, hO⟩ := hJ
  obtain ⟨h1, h2, hM, hH, hS⟩ := id hC
  exact uA (c_X6_ringText hs (d := d) (by omega) hXO h1 h2 hS p0 p1 hkc hks) (fun a w' h => hI.q h.1 h.2) (fun E w' h => ⟨h.1, hI.q h.2.1 h.2.2⟩)
set_option maxRecDepth 100000 in
set_option maxHeartbeats 4000000 in
theorem uu_order {X : jX} (hs : X.1.stackTraces = false) {d : Nat} (hd : 40 ≤ d) {o : Nat} {S S' : StX} {w : List jC} (hI : LI o S S' w) (p0 : Int32) {kc ks : Nat} (hkc : 1 ≤ kc) (hks : 6 ≤ ks) : jMet X mX6_order d kc ks [.ref 0, .int p0] w (pX (pJ (fun v w' => ∃ S2 : StX, AG (isN p0 6) (True) (Dorder S p0) S 0 v S2 ∧ LI o S2 S' w')) (fun E w' => ((E = "java/lang/IndexOutOfBoundsException" ∧ AG (isN p0 6) (True) (Dorder S p0) S 1 0 S)) ∧ LI o S S' w')) := by
  have hJ := hI
  obtain ⟨t, hC, hR, hO⟩ := hJ
  obtain ⟨h1, h2, hM, hH, hS⟩ := id hC
  refine jJX (c_X6_order_atx hs (d := d) (by omega) hH h1 h2 hM p0 (by omega) (by omega)) (fun v w' h => ?_) (fun E w' h => ?_)
  · obtain ⟨na, ea, ha, ev, hH2, hF⟩ := h
    exact ⟨_, Or.inr (Or.inr ⟨rfl, ⟨na, ha, ea⟩, trivial, ⟨na, ea, ha, ev, rfl⟩⟩), hI.act (S2 := S) hH2 hF h1 h2 hM⟩
  · obtain ⟨hE, hw⟩ := h
    obtain ⟨e, g⟩ := hE
    exact ⟨⟨e, Or.inl ⟨rfl, g, rfl⟩⟩, hI.psh hw⟩
set_option maxRecDepth 100000 in
set_option maxHeartbeats 4000000 in
theorem uu_sign {X : jX} (hs : X.1.stackTraces = false) {d : Nat} (hd : 40 ≤ d) {o : Nat} {S S' : StX} {w : List jC} (hI : LI o S S' w) (p0 : Int32) {kc ks : Nat} (hkc : 1 ≤ kc) (hks : 6 ≤ ks) : jMet X mX6_sign d kc ks [.ref 0, .int p0] w (pX (pJ (fun v w' => ∃ S2 : StX, AG (isN p0 6) (True) (Dsign S p0) S 0 v S2 ∧ LI o S2 S' w')) (fun E w' => ((E = "java/lang/IndexOutOfBoundsException" ∧ AG (isN p0 6) (True) (Dsign S p0) S 1 0 S)) ∧ LI o S S' w')) := by
  have hJ := hI
  obtain ⟨t, hC, hR, hO⟩ := hJ
  obtain ⟨h1, h2, hM, hH, hS⟩ := id hC
  refine jJX (c_X6_sign_atx hs (d := d) (by omega) hH h1 h2 hM p0 (by omega) (by omega)) (fun v w' h => ?_) (fun E w' h => ?_)
  · obtain ⟨na, ea, ha, ev, hH2, hF⟩ := h
    exact ⟨_, Or.inr (Or.inr ⟨rfl, ⟨na, ha, ea⟩, trivial, ⟨na, ea, ha, ev, rfl⟩⟩), hI.act (S2 := S) hH2 hF h1 h2 hM⟩
  · obtain ⟨hE, hw⟩ := h
    obtain ⟨e, g⟩ := hE
    exact ⟨⟨e, Or.inl ⟨rfl, g, rfl⟩⟩, hI.psh hw⟩
set_option maxRecDepth 100000 in
set_option maxHeartbeats 4000000 in
theorem uu_stays {X : jX} (hs : X.1.stackTraces = false) {d : Nat} (hd : 40 ≤ d) {o : Nat} {S S' : StX} {w : List jC} (hI : LI o S S' w) (p0 : Int32) {kc ks : Nat} (hkc : 1 ≤ kc) (hks : 6 ≤ ks) : jMet X mX6_stays d kc ks [.ref 0, .int p0] w (pX (pJ (fun v w' => ∃ S2 : StX, AG (isN p0 6) (True) (Dstays S p0) S 0 v S2 ∧ LI o S2 S' w')) (fun E w' => ((E = "java/lang/IndexOutOfBoundsException" ∧ AG (isN p0 6) (True) (Dstays S p0) S 1 0 S)) ∧ LI o S S' w')) := by
  have hJ := hI
  obtain ⟨t, hC, hR, hO⟩ := hJ
  obtain ⟨h1, h2, hM, hH, hS⟩ := id hC
  refine jJX (c_X6_stays_atx hs (d := d) (by omega) hH h1 h2 hM p0 (by omega) (by omega)) (fun v w' h => ?_) (fun E w' h => ?_)
  · obtain ⟨na, ea, ha, ev, hH2, hF⟩ := h
    exact ⟨_, Or.inr (Or.inr ⟨rfl, ⟨na, ha, ea⟩, trivial, ⟨na, ea, ha, ev, rfl⟩⟩), hI.act (S2 := S) hH2 hF h1 h2 hM⟩
  · obtain ⟨hE, hw⟩ := h
    obtain ⟨e, g⟩ := hE
    exact ⟨⟨e, Or.inl ⟨rfl, g, rfl⟩⟩, hI.psh hw⟩
set_option maxRecDepth 100000 in
set_option maxHeartbeats 4000000 in
theorem uu_areAlike {X : jX} (hs : X.1.stackTraces = false) {d : Nat} (hd : 40 ≤ d) {o : Nat} {S S' : StX} {w : List jC} (hI : LI o S S' w) (p0 : Int32) (p1 : Int32) {kc ks : Nat} (hkc : 2 ≤ kc) (hks : 12 ≤ ks) : jMet X mX6_areAlike d kc ks [.ref 0, .int p0, .int p1] w (pX (pJ (fun v w' => ∃ S2 : StX, AG (isN p0 6 ∧ isN p1 6) (True) (DareAlike S p0 p1) S 0 v S2 ∧ LI o S2 S' w')) (fun E w' => ((E = "java/lang/IndexOutOfBoundsException" ∧ AG (isN p0 6 ∧ isN p1 6) (True) (DareAlike S p0 p1) S 1 0 S)) ∧ LI o S S' w')) := by
  have hJ := hI
  obtain ⟨t, hC, hR, hO⟩ := hJ
  obtain ⟨h1, h2, hM, hH, hS⟩ := id hC
  refine jJX (c_X6_areAlike_atx hs (d := d) (by omega) hH h1 h2 hM p0 p1 (by omega) (by omega)) (fun v w' h => ?_) (fun E w' h => ?_)
  · obtain ⟨na, nb, ea, eb, ha, hb, ev, hH2, hF⟩ := h
    exact ⟨_, Or.inr (Or.inr ⟨rfl, ⟨⟨na, ha, ea⟩, ⟨nb, hb, eb⟩⟩, trivial, ⟨na, nb, ea, eb, ha, hb, ev, rfl⟩⟩), hI.act (S2 := S) hH2 hF h1 h2 hM⟩
  · obtain ⟨hE, hw⟩ := h
    obtain ⟨e, g⟩ := hE
    exact ⟨⟨e, Or.inl ⟨rfl, g, rfl⟩⟩, hI.psh hw⟩
set_option maxRecDepth 100000 in
set_option maxHeartbeats 4000000 in
theorem uu_commute {X : jX} (hs : X.1.stackTraces = false) {d : Nat} (hd : 40 ≤ d) {o : Nat} {S S' : StX} {w : List jC} (hI : LI o S S' w) (p0 : Int32) (p1 : Int32) {kc ks : Nat} (hkc : 2 ≤ kc) (hks : 12 ≤ ks) : jMet X mX6_commute d kc ks [.ref 0, .int p0, .int p1] w (pX (pJ (fun v w' => ∃ S2 : StX, AG (isN p0 6 ∧ isN p1 6) (True) (Dcommute S p0 p1) S 0 v S2 ∧ LI o S2 S' w')) (fun E w' => ((E = "java/lang/IndexOutOfBoundsException" ∧ AG (isN p0 6 ∧ isN p1 6) (True) (Dcommute S p0 p1) S 1 0 S)) ∧ LI o S S' w')) := by
  have hJ := hI
  obtain ⟨t, hC, hR, hO⟩ := hJ
  obtain ⟨h1, h2, hM, hH, hS⟩ := id hC
  refine jJX (c_X6_commute_atx hs (d := d) (by omega) hH h1 h2 hM p0 p1 (by omega) (by omega)) (fun v w' h => ?_) (fun E w' h => ?_)
  · obtain ⟨na, nb, ea, eb, ha, hb, ev, hH2, hF⟩ := h
    exact ⟨_, Or.inr (Or.inr ⟨rfl, ⟨⟨na, ha, ea⟩, ⟨nb, hb, eb⟩⟩, trivial, ⟨na, nb, ea, eb, ha, hb, ev, rfl⟩⟩), hI.act (S2 := S) hH2 hF h1 h2 hM⟩
  · obtain ⟨hE, hw⟩ := h
    obtain ⟨e, g⟩ := hE
    exact ⟨⟨e, Or.inl ⟨rfl, g, rfl⟩⟩, hI.psh hw⟩
set_option maxRecDepth 100000 in
set_option maxHeartbeats 4000000 in
theorem uu_size {X : jX} (hs : X.1.stackTraces = false) {d : Nat} (hd : 40 ≤ d) {o : Nat} {S S' : StX} {w : List jC} (hI : LI o S S' w) (p0 : Int32) (p1 : Int32) {kc ks : Nat} (hkc : 2 ≤ kc) (hks : 12 ≤ ks) : jMet X mX6_size d kc ks [.ref 0, .int p0, .int p1] w (pX (pI (fun _ => True) (LI o S S')) (fun E w' => (E = "java/lang/IndexOutOfBoundsException" ∨ E = "java/lang/IllegalArgumentException") ∧ LI o S S' w')) := by
  have hJ := hI
  obtain ⟨t, hC, hR, hO⟩ := hJ
  obtain ⟨h1, h2, hM, hH, hS⟩ := id hC
  exact uI (c_X6_size hs (d := d) (by omega) h1 h2 hS p0 p1 hkc hks) (fun w' h => hI.q h.1 h.2) (fun E w' h => ⟨h.1, hI.q h.2.1 h.2.2⟩)
set_option maxRecDepth 100000 in
set_option maxHeartbeats 4000000 in
theorem uu_reach {X : jX} (hs : X.1.stackTraces = false) {d : Nat} (hd : 40 ≤ d) {o : Nat} {S S' : StX} {w : List jC} (hI : LI o S S' w) (p0 : Int32) (p1 : Int32) (p2 : Int32) {kc ks : Nat} (hkc : 3 ≤ kc) (hks : 18 ≤ ks) : jMet X mX6_reach d kc ks [.ref 0, .int p0, .int p1, .int p2] w (pX (pI (fun _ => True) (LI o S S')) (fun E w' => (E = "java/lang/IndexOutOfBoundsException" ∨ E = "java/lang/IllegalArgumentException") ∧ LI o S S' w')) := by
  have hJ := hI
  obtain ⟨t, hC, hR, hO⟩ := hJ
  obtain ⟨h1, h2, hM, hH, hS⟩ := id hC
  exact uI (c_X6_reach hs (d := d) (by omega) h1 h2 hS p0 p1 p2 hkc hks) (fun w' h => hI.q h.1 h.2) (fun E w' h => ⟨h.1, hI.q h.2.1 h.2.2⟩)
set_option maxRecDepth 100000 in
set_option maxHeartbeats 4000000 in
theorem uu_isIn {X : jX} (hs : X.1.stackTraces = false) {d : Nat} (hd : 40 ≤ d) {o : Nat} {S S' : StX} {w : List jC} (hI : LI o S S' w) (p0 : Int32) (p1 : Int32) (p2 : Int32) {kc ks : Nat} (hkc : 3 ≤ kc) (hks : 18 ≤ ks) : jMet X mX6_isIn d kc ks [.ref 0, .int p0, .int p1, .int p2] w (pX (pI (fun _ => True) (LI o S S')) (fun E w' => (E = "java/lang/IndexOutOfBoundsException" ∨ E = "java/lang/IllegalArgumentException") ∧ LI o S S' w')) := by
  have hJ := hI
  obtain ⟨t, hC, hR, hO⟩ := hJ
  obtain ⟨h1, h2, hM, hH, hS⟩ := id hC
  exact uI (c_X6_isIn hs (d := d) (by omega) h1 h2 hS p0 p1 p2 hkc hks) (fun w' h => hI.q h.1 h.2) (fun E w' h => ⟨h.1, hI.q h.2.1 h.2.2⟩)
set_option maxRecDepth 100000 in
set_option maxHeartbeats 4000000 in
theorem uu_rank {X : jX} (hs : X.1.stackTraces = false) {d : Nat} (hd : 40 ≤ d) {o : Nat} {S S' : StX} {w : List jC} (hI : LI o S S' w) (p0 : Int32) (p1 : Int32) (p2 : Int32) {kc ks : Nat} (hkc : 3 ≤ kc) (hks : 18 ≤ ks) : jMet X mX6_rank d kc ks [.ref 0, .int p0, .int p1, .int p2] w (pX (pI (fun _ => True) (LI o S S')) (fun E w' => (E = "java/lang/IndexOutOfBoundsException" ∨ E = "java/lang/IllegalArgumentException") ∧ LI o S S' w')) := by
  have hJ := hI
  obtain ⟨t, hC, hR, hO⟩ := hJ
  obtain ⟨h1, h2, hM, hH, hS⟩ := id hC
  exact uI (c_X6_rank hs (d := d) (by omega) h1 h2 hS p0 p1 p2 hkc hks) (fun w' h => hI.q h.1 h.2) (fun E w' h => ⟨h.1, hI.q h.2.1 h.2.2⟩)
set_option maxRecDepth 100000 in
set_option maxHeartbeats 4000000 in
theorem uu_list {X : jX} (hs : X.1.stackTraces = false) {d : Nat} (hd : 40 ≤ d) (hXO : XO X) {o : Nat} {S S' : StX} {w : List jC} (hI : LI o S S' w) (p0 : Int32) (p1 : Int32) {kc ks : Nat} (hkc : 40 ≤ kc) (hks : 1500 ≤ ks) : jMet X mX6_list d kc ks [.ref 0, .int p0, .int p1] w (pX (pA (fun _ w' => LI o S S' w')) (fun E w' => (E = "java/lang/IllegalArgumentException") ∧ LI o S S' w')) := by
  have hJ := hI
  obtain ⟨t, hC, hR, hO⟩ := hJ
  obtain ⟨h1, h2, hM, hH, hS⟩ := id hC
  exact uA (c_X6_list hs (d := d) (by omega) hXO h1 h2 hS p0 p1 hkc hks) (fun a w' h => hI.q h.1 h.2) (fun E w' h => ⟨h.1, hI.q h.2.1 h.2.2⟩)
set_option maxRecDepth 100000 in
set_option maxHeartbeats 4000000 in
theorem uu_comes {X : jX} (hs : X.1.stackTraces = false) {d : Nat} (hd : 40 ≤ d) {o : Nat} {S S' : StX} {w : List jC} (hI : LI o S S' w) (p0 : Int32) (p1 : Int32) {kc ks : Nat} (hkc : 2 ≤ kc) (hks : 12 ≤ ks) : jMet X mX6_comes d kc ks [.ref 0, .int p0, .int p1] w (pX (pI (fun _ => True) (LI o S S')) (fun E w' => (E = "java/lang/IndexOutOfBoundsException" ∨ E = "java/lang/IllegalArgumentException") ∧ LI o S S' w')) := by
  have hJ := hI
  obtain ⟨t, hC, hR, hO⟩ := hJ
  obtain ⟨h1, h2, hM, hH, hS⟩ := id hC
  exact uI (c_X6_comes hs (d := d) (by omega) h1 h2 hS p0 p1 hkc hks) (fun w' h => hI.q h.1 h.2) (fun E w' h => ⟨h.1, hI.q h.2.1 h.2.2⟩)
set_option maxRecDepth 100000 in
set_option maxHeartbeats 4000000 in
theorem uu_pieces {X : jX} (hs : X.1.stackTraces = false) {d : Nat} (hd : 40 ≤ d) {o : Nat} {S S' : StX} {w : List jC} (hI : LI o S S' w) (p0 : Int32) {kc ks : Nat} (hkc : 1 ≤ kc) (hks : 6 ≤ ks) : jMet X mX6_pieces d kc ks [.ref 0, .int p0] w (pX (pI (fun _ => True) (LI o S S')) (fun E w' => (E = "java/lang/IllegalArgumentException") ∧ LI o S S' w')) := by
  have hJ := hI
  obtain ⟨t, hC, hR, hO⟩ := hJ
  obtain ⟨h1, h2, hM, hH, hS⟩ := id hC
  exact uI (c_X6_pieces hs (d := d) (by omega) h1 h2 hS p0 hkc hks) (fun w' h => hI.q h.1 h.2) (fun E w' h => ⟨h.1, hI.q h.2.1 h.2.2⟩)
set_option maxRecDepth 100000 in
set_option maxHeartbeats 4000000 in
theorem uu_withOrder {X : jX} (hs : X.1.stackTraces = false) {d : Nat} (hd : 40 ≤ d) {o : Nat} {S S' : StX} {w : List jC} (hI : LI o S S' w) (p0 : Int32) (p1 : Int32) {kc ks : Nat} (hkc : 2 ≤ kc) (hks : 12 ≤ ks) : jMet X mX6_withOrder d kc ks [.ref 0, .int p0, .int p1] w (pX (pI (fun _ => True) (LI o S S')) (fun E w' => (E = "java/lang/IllegalArgumentException") ∧ LI o S S' w')) := by
  have hJ := hI
  obtain ⟨t, hC, hR, hO⟩ := hJ
  obtain ⟨h1, h2, hM, hH, hS⟩ := id hC
  exact uI (c_X6_withOrder hs (d := d) (by omega) h1 h2 hS p0 p1 hkc hks) (fun w' h => hI.q h.1 h.2) (fun E w' h => ⟨h.1, hI.q h.2.1 h.2.2⟩)
set_option maxRecDepth 100000 in
set_option maxHeartbeats 4000000 in
theorem uu_even {X : jX} (hs : X.1.stackTraces = false) {d : Nat} (hd : 40 ≤ d) {o : Nat} {S S' : StX} {w : List jC} (hI : LI o S S' w) (p0 : Int32) {kc ks : Nat} (hkc : 1 ≤ kc) (hks : 6 ≤ ks) : jMet X mX6_even d kc ks [.ref 0, .int p0] w (pX (pI (fun _ => True) (LI o S S')) (fun E w' => (E = "java/lang/IllegalArgumentException") ∧ LI o S S' w')) := by
  have hJ := hI
  obtain ⟨t, hC, hR, hO⟩ := hJ
  obtain ⟨h1, h2, hM, hH, hS⟩ := id hC
  exact uI (c_X6_even hs (d := d) (by omega) h1 h2 hS p0 hkc hks) (fun w' h => hI.q h.1 h.2) (fun E w' h => ⟨h.1, hI.q h.2.1 h.2.2⟩)
set_option maxRecDepth 100000 in
set_option maxHeartbeats 4000000 in
theorem uu_colourings {X : jX} (hs : X.1.stackTraces = false) {d : Nat} (hd : 40 ≤ d) {o : Nat} {S S' : StX} {w : List jC} (hI : LI o S S' w) (p0 : Int32) (p1 : Int32) (p2 : Int32) {kc ks : Nat} (hkc : 3 ≤ kc) (hks : 18 ≤ ks) : jMet X mX6_colourings d kc ks [.ref 0, .int p0, .int p1, .int p2] w (pX (pI (fun _ => True) (LI o S S')) (fun E w' => (E = "java/lang/IllegalArgumentException") ∧ LI o S S' w')) := by
  have hJ := hI
  obtain ⟨t, hC, hR, hO⟩ := hJ
  obtain ⟨h1, h2, hM, hH, hS⟩ := id hC
  exact uI (c_X6_colourings hs (d := d) (by omega) h1 h2 hS p0 p1 p2 hkc hks) (fun w' h => hI.q h.1 h.2) (fun E w' h => ⟨h.1, hI.q h.2.1 h.2.2⟩)
set_option maxRecDepth 100000 in
set_option maxHeartbeats 4000000 in
theorem uu_isPart {X : jX} (hs : X.1.stackTraces = false) {d : Nat} (hd : 40 ≤ d) {o : Nat} {S S' : StX} {w : List jC} (hI : LI o S S' w) (p0 : Int32) (p1 : Int32) {kc ks : Nat} (hkc : 2 ≤ kc) (hks : 12 ≤ ks) : jMet X mX6_isPart d kc ks [.ref 0, .int p0, .int p1] w (pX (pI (fun _ => True) (LI o S S')) (fun E w' => (E = "java/lang/IllegalArgumentException") ∧ LI o S S' w')) := by
  have hJ := hI
  obtain ⟨t, hC, hR, hO⟩ := hJ
  obtain ⟨h1, h2, hM, hH, hS⟩ := id hC
  exact uI (c_X6_isPart hs (d := d) (by omega) h1 h2 hS p0 p1 hkc hks) (fun w' h => hI.q h.1 h.2) (fun E w' h => ⟨h.1, hI.q h.2.1 h.2.2⟩)
set_option maxRecDepth 100000 in
set_option maxHeartbeats 4000000 in
theorem uu_shares {X : jX} (hs : X.1.stackTraces = false) {d : Nat} (hd : 40 ≤ d) {o : Nat} {S S' : StX} {w : List jC} (hI : LI o S S' w) (p0 : Int32) (p1 : Int32) {kc ks : Nat} (hkc : 2 ≤ kc) (hks : 12 ≤ ks) : jMet X mX6_shares d kc ks [.ref 0, .int p0, .int p1] w (pX (pI (fun _ => True) (LI o S S')) (fun E w' => (E = "java/lang/IllegalArgumentException") ∧ LI o S S' w')) := by
  have hJ := hI
  obtain ⟨t, hC, hR, hO⟩ := hJ
  obtain ⟨h1, h2, hM, hH, hS⟩ := id hC
  exact uI (c_X6_shares hs (d := d) (by omega) h1 h2 hS p0 p1 hkc hks) (fun w' h => hI.q h.1 h.2) (fun E w' h => ⟨h.1, hI.q h.2.1 h.2.2⟩)
set_option maxRecDepth 100000 in
set_option maxHeartbeats 4000000 in
theorem uu_share {X : jX} (hs : X.1.stackTraces = false) {d : Nat} (hd : 40 ≤ d) {o : Nat} {S S' : StX} {w : List jC} (hI : LI o S S' w) (p0 : Int32) (p1 : Int32) {kc ks : Nat} (hkc : 2 ≤ kc) (hks : 12 ≤ ks) : jMet X mX6_share d kc ks [.ref 0, .int p0, .int p1] w (pX (pI (fun _ => True) (LI o S S')) (fun E w' => (E = "java/lang/IndexOutOfBoundsException" ∨ E = "java/lang/IllegalArgumentException") ∧ LI o S S' w')) := by
  have hJ := hI
  obtain ⟨t, hC, hR, hO⟩ := hJ
  obtain ⟨h1, h2, hM, hH, hS⟩ := id hC
  exact uI (c_X6_share hs (d := d) (by omega) h1 h2 hS p0 p1 hkc hks) (fun w' h => hI.q h.1 h.2) (fun E w' h => ⟨h.1, hI.q h.2.1 h.2.2⟩)
set_option maxRecDepth 100000 in
set_option maxHeartbeats 4000000 in
theorem uu_together {X : jX} (hs : X.1.stackTraces = false) {d : Nat} (hd : 40 ≤ d) {o : Nat} {S S' : StX} {w : List jC} (hI : LI o S S' w) (p0 : Int32) (p1 : Int32) (p2 : Int32) {kc ks : Nat} (hkc : 3 ≤ kc) (hks : 18 ≤ ks) : jMet X mX6_together d kc ks [.ref 0, .int p0, .int p1, .int p2] w (pX (pI (fun _ => True) (LI o S S')) (fun E w' => (E = "java/lang/IndexOutOfBoundsException" ∨ E = "java/lang/IllegalArgumentException") ∧ LI o S S' w')) := by
  have hJ := hI
  obtain ⟨t, hC, hR, hO⟩ := hJ
  obtain ⟨h1, h2, hM, hH, hS⟩ := id hC
  exact uI (c_X6_together hs (d := d) (by omega) h1 h2 hS p0 p1 p2 hkc hks) (fun w' h => hI.q h.1 h.2) (fun E w' h => ⟨h.1, hI.q h.2.1 h.2.2⟩)
set_option maxRecDepth 100000 in
set_option maxHeartbeats 4000000 in
theorem uu_blocks {X : jX} (hs : X.1.stackTraces = false) {d : Nat} (hd : 40 ≤ d) {o : Nat} {S S' : StX} {w : List jC} (hI : LI o S S' w) (p0 : Int32) (p1 : Int32) (p2 : Int32) {kc ks : Nat} (hkc : 3 ≤ kc) (hks : 18 ≤ ks) : jMet X mX6_blocks d kc ks [.ref 0, .int p0, .int p1, .int p2] w (pX (pI (fun _ => True) (LI o S S')) (fun E w' => (E = "java/lang/IndexOutOfBoundsException" ∨ E = "java/lang/IllegalArgumentException") ∧ LI o S S' w')) := by
  have hJ := hI
  obtain ⟨t, hC, hR, hO⟩ := hJ
  obtain ⟨h1, h2, hM, hH, hS⟩ := id hC
  exact uI (c_X6_blocks hs (d := d) (by omega) h1 h2 hS p0 p1 p2 hkc hks) (fun w' h => hI.q h.1 h.2) (fun E w' h => ⟨h.1, hI.q h.2.1 h.2.2⟩)
set_option maxRecDepth 100000 in
set_option maxHeartbeats 4000000 in
theorem uu_isTwofold {X : jX} (hs : X.1.stackTraces = false) {d : Nat} (hd : 40 ≤ d) {o : Nat} {S S' : StX} {w : List jC} (hI : LI o S S' w) (p0 : Int32) {kc ks : Nat} (hkc : 1 ≤ kc) (hks : 6 ≤ ks) : jMet X mX6_isTwofold d kc ks [.ref 0, .int p0] w (pX (pI (fun _ => True) (LI o S S')) (fun E w' => (E = "java/lang/IllegalArgumentException") ∧ LI o S S' w')) := by
  have hJ := hI
  obtain ⟨t, hC, hR, hO⟩ := hJ
  obtain ⟨h1, h2, hM, hH, hS⟩ := id hC
  exact uI (c_X6_isTwofold hs (d := d) (by omega) h1 h2 hS p0 hkc hks) (fun w' h => hI.q h.1 h.2) (fun E w' h => ⟨h.1, hI.q h.2.1 h.2.2⟩)
set_option maxRecDepth 100000 in
set_option maxHeartbeats 4000000 in
theorem uu_enough {X : jX} (hs : X.1.stackTraces = false) {d : Nat} (hd : 40 ≤ d) {o : Nat} {S S' : StX} {w : List jC} (hI : LI o S S' w) (p0 : Int32) {kc ks : Nat} (hkc : 1 ≤ kc) (hks : 6 ≤ ks) : jMet X mX6_enough d kc ks [.ref 0, .int p0] w (pX (pI (fun _ => True) (LI o S S')) (fun E w' => (E = "java/lang/IllegalArgumentException") ∧ LI o S S' w')) := by
  have hJ := hI
  obtain ⟨t, hC, hR, hO⟩ := hJ
  obtain ⟨h1, h2, hM, hH, hS⟩ := id hC
  exact uI (c_X6_enough hs (d := d) (by omega) h1 h2 hS p0 hkc hks) (fun w' h => hI.q h.1 h.2) (fun E w' h => ⟨h.1, hI.q h.2.1 h.2.2⟩)
set_option maxRecDepth 100000 in
set_option maxHeartbeats 4000000 in
theorem uu_house {X : jX} (hs : X.1.stackTraces = false) {d : Nat} (hd : 40 ≤ d) {o : Nat} {S S' : StX} {w : List jC} (hI : LI o S S' w) (p0 : Int32) {kc ks : Nat} (hkc : 1 ≤ kc) (hks : 6 ≤ ks) : jMet X mX6_house d kc ks [.ref 0, .int p0] w (pX (pJ (fun v w' => ∃ S2 : StX, AG (isN p0 3) (True) (Dhouse S p0) S 0 v S2 ∧ LI o S2 S' w')) (fun E w' => ((E = "java/lang/IllegalArgumentException" ∧ AG (isN p0 3) (True) (Dhouse S p0) S 1 0 S)) ∧ LI o S S' w')) := by
  have hJ := hI
  obtain ⟨t, hC, hR, hO⟩ := hJ
  obtain ⟨h1, h2, hM, hH, hS⟩ := id hC
  refine jJX (c_X6_house_atx hs (d := d) (by omega) hH h1 h2 hM p0 (by omega) (by omega)) (fun v w' h => ?_) (fun E w' h => ?_)
  · obtain ⟨na, ea, ha, ev, hH2, hF⟩ := h
    exact ⟨_, Or.inr (Or.inr ⟨rfl, ⟨na, ha, ea⟩, trivial, ⟨na, ea, ha, ev, rfl⟩⟩), hI.act (S2 := S) hH2 hF h1 h2 hM⟩
  · obtain ⟨hE, hw⟩ := h
    obtain ⟨e, g⟩ := hE
    exact ⟨⟨e, Or.inl ⟨rfl, g, rfl⟩⟩, hI.psh hw⟩
set_option maxRecDepth 100000 in
set_option maxHeartbeats 4000000 in
theorem uu_count {X : jX} (hs : X.1.stackTraces = false) {d : Nat} (hd : 40 ≤ d) {o : Nat} {S S' : StX} {w : List jC} (hI : LI o S S' w) {kc ks : Nat} : jMet X mX6_count d kc ks [.ref 0] w (pI (fun _ => True) (LI o S S')) := by
  have hJ := hI
  obtain ⟨t, hC, hR, hO⟩ := hJ
  obtain ⟨h1, h2, hM, hH, hS⟩ := id hC
  exact uI0 (c_X6_count hs (d := d) (by omega) h1 h2 hS) (fun w' h => hI.eq h)
set_option maxRecDepth 100000 in
set_option maxHeartbeats 4000000 in
theorem uu_knock {X : jX} (hs : X.1.stackTraces = false) {d : Nat} (hd : 40 ≤ d) {o : Nat} {S S' : StX} {w : List jC} (hI : LI o S S' w) {kc ks : Nat} : jMet X mX6_knock d kc ks [.ref 0] w (pI (fun _ => True) (LI o (KS S) S')) := by
  have hJ := hI
  obtain ⟨t, hC, hR, hO⟩ := hJ
  obtain ⟨h1, h2, hM, hH, hS⟩ := id hC
  exact uI0 (c_X6_knock hs (d := d) (by omega) h1 h2 hS) (fun w' h => ⟨t, hC.kn h.1 h.2, hR.fr (F19.of h.2), hO.fr (F19.of h.2)⟩)
set_option maxRecDepth 100000 in
set_option maxHeartbeats 4000000 in
theorem uu_isSound {X : jX} (hs : X.1.stackTraces = false) {d : Nat} (hd : 40 ≤ d) {o : Nat} {S S' : StX} {w : List jC} (hI : LI o S S' w) {kc ks : Nat} : jMet X mX6_isSound d kc ks [.ref 0] w (pI (fun _ => True) (LI o S S')) := by
  have hJ := hI
  obtain ⟨t, hC, hR, hO⟩ := hJ
  obtain ⟨h1, h2, hM, hH, hS⟩ := id hC
  exact uI0 (c_X6_isSound hs (d := d) (by omega) h1 h2 hS) (fun w' h => hI.q h.1 h.2)
set_option maxRecDepth 100000 in
set_option maxHeartbeats 4000000 in
theorem uu_digest {X : jX} (hs : X.1.stackTraces = false) {d : Nat} (hd : 40 ≤ d) (hXO : XO X) {o : Nat} {S S' : StX} {w : List jC} (hI : LI o S S' w) {kc ks : Nat} (hkc : 250 ≤ kc) (hks : 9100 ≤ ks) : jMet X mX6_digest d kc ks [.ref 0] w (pL (fun _ => True) (LI o S S')) := by
  have hJ := hI
  obtain ⟨t, hC, hR, hO⟩ := hJ
  obtain ⟨h1, h2, hM, hH, hS⟩ := id hC
  exact uL0 (c_X6_digest hs (d := d) (by omega) hXO h1 h2 hS hkc hks) (fun w' h => hI.q h.1 h.2)
end
section
/-! the reference's calls, in one form -/
set_option maxRecDepth 100000 in
set_option maxHeartbeats 4000000 in
theorem vv_points {X : jX} (hs : X.1.stackTraces = false) {d : Nat} (hd : 40 ≤ d) {o : Nat} {S0 S : StX} {w : List jC} (hI : LI o S0 S w) (p0 : Int32) {kc ks : Nat} : jMet X mX8_points d kc ks [.ref 19, .int p0] w (pJ (fun v w' => ∃ (k : Nat) (S2 : StX), AG (∃ k : Nat, 2 ≤ k ∧ k ≤ 7 ∧ p0 = nI k) (True) (Dpoints S p0) S k v S2 ∧ LIx o S0 S2 (nI k) w' ∧ w'[o]? = w[o]?)) := by
  obtain ⟨t, hC, ⟨mv, rw, nx, b, bt, kn, en, hR, h1, h2, gm, gr, gx, hP, hK, hL, h24⟩, hO⟩ := hI
  have hb3 := hR.2.2.2.2.2.2
  refine jJ (c_X8_points_ate hs (d := d) (by omega) hR h1 h2 gm gr gx p0 hP (KX_KB h1 h2 hK)) (fun v w' h => ?_)
  obtain ⟨n', mv', kn', dn', th', hR', hF, gm', n1', n2', hp0, hk0, hp2⟩ := h
  rcases hp2 with ⟨e, g, q0, q1, q2, q3⟩ | ⟨e, ⟨k, k1, k2, e1, q0, ev⟩, hid, q2, q3⟩
  · subst e
    subst q0
    subst q1
    subst q2
    subst q3
    exact ⟨1, S, Or.inl ⟨rfl, fun ⟨k, k1, k2, e⟩ => g k k1 k2 e, rfl⟩, LIx.ref (S2 := S) hC hO h24 hb3 hF hR' h1 h2 gm' gr gx hP hK hL⟩
  · subst e
    subst q0
    subst q2
    subst q3
    exact ⟨0, _, Or.inr (Or.inr ⟨rfl, ⟨n', n1', n2', e1⟩, trivial, ⟨n', e1, n1', n2', ev, rfl⟩⟩), LIx.ref (S2 := (n', S.2.1 + nI 1, S.2.2.1, S.2.2.2.1, fun _ => 1754760)) hC hO h24 hb3 hF hR' n1' n2' gm' gr gx hp0 (Or.inl rfl) (RL_points n2' hid)⟩
set_option maxRecDepth 100000 in
set_option maxHeartbeats 4000000 in
theorem vv_lay {X : jX} (hs : X.1.stackTraces = false) {d : Nat} (hd : 40 ≤ d) {o : Nat} {S0 S : StX} {w : List jC} (hI : LI o S0 S w) (p0 : Int32) (p1 : Int32) {kc ks : Nat} : jMet X mX8_lay d kc ks [.ref 19, .int p0, .int p1] w (pJ (fun v w' => ∃ (k : Nat) (S2 : StX), AG (isN p0 6) (isN p1 (fc S.1)) (Dlay S p0 p1) S k v S2 ∧ LIx o S0 S2 (nI k) w' ∧ w'[o]? = w[o]?)) := by
  obtain ⟨t, hC, ⟨mv, rw, nx, b, bt, kn, en, hR, h1, h2, gm, gr, gx, hP, hK, hL, h24⟩, hO⟩ := hI
  have hb3 := hR.2.2.2.2.2.2
  refine jJ (c_X8_lay_ate hs (d := d) (by omega) hR h1 h2 gm gr gx p0 p1 hP (KX_KB h1 h2 hK)) (fun v w' h => ?_)
  obtain ⟨mv', rw', kn', dn', th', hR', hF, gm', gr', hp0, hk0, hp2⟩ := h
  rcases hp2 with ⟨e, g, q1, q2, q3⟩ | ⟨e, g1, g2, q1, q2, q3⟩ | ⟨e, ⟨na, nb, ea, eb, ha, hb, hA, hv⟩, q2, q3⟩
  · subst e
    subst q1
    subst q2
    subst q3
    exact ⟨1, S, Or.inl ⟨rfl, g, rfl⟩, LIx.ref (S2 := S) hC hO h24 hb3 hF hR' h1 h2 gm' gr' gx hP hK hL⟩
  · subst e
    subst q1
    subst q2
    subst q3
    exact ⟨2, S, Or.inr (Or.inl ⟨rfl, g1, g2, rfl⟩), LIx.ref (S2 := S) hC hO h24 hb3 hF hR' h1 h2 gm' gr' gx hP hK hL⟩
  · subst e
    subst q2
    subst q3
    have ev : v = nI (nu S.1 (S.2.2.2.2 na)) := by rw [hv, nu_mW h2 hP ha, RLx_mW hL ha]
    exact ⟨0, _, Or.inr (Or.inr ⟨rfl, ⟨na, ha, ea⟩, ⟨nb, hb, eb⟩, ⟨na, nb, ea, eb, ha, hb, ev, rfl⟩⟩), LIx.ref (S2 := ES S na (XM S.1 nb)) hC hO h24 hb3 hF hR' h1 h2 gm' gr' gx hp0 (Or.inl rfl) (RL_lay hL hA)⟩
set_option maxRecDepth 100000 in
set_option maxHeartbeats 4000000 in
theorem vv_exchange {X : jX} (hs : X.1.stackTraces = false) {d : Nat} (hd : 40 ≤ d) {o : Nat} {S0 S : StX} {w : List jC} (hI : LI o S0 S w) (p0 : Int32) (p1 : Int32) (p2 : Int32) {kc ks : Nat} : jMet X mX8_exchange d kc ks [.ref 19, .int p0, .int p1, .int p2] w (pJ (fun v w' => ∃ (k : Nat) (S2 : StX), AG (isN p0 6 ∧ isN p1 S.1 ∧ isN p2 S.1) (True) (Dexchange S p0 p1 p2) S k v S2 ∧ LIx o S0 S2 (nI k) w' ∧ w'[o]? = w[o]?)) := by
  obtain ⟨t, hC, ⟨mv, rw, nx, b, bt, kn, en, hR, h1, h2, gm, gr, gx, hP, hK, hL, h24⟩, hO⟩ := hI
  have hb3 := hR.2.2.2.2.2.2
  refine jJ (c_X8_exchange_ate hs (d := d) (by omega) hR h1 h2 gm gr gx p0 p1 p2 hP (KX_KB h1 h2 hK)) (fun v w' h => ?_)
  obtain ⟨mv', rw', nx', kn', dn', th', hR', hF, gm', gr', gx', hp0, hk0, hp2⟩ := h
  rcases hp2 with ⟨e, g, q1, q2, q3⟩ | ⟨e, ⟨na, nb, nc, ea, eb, ec, ha, hb, hc, hA, hv⟩, q2, q3⟩
  · subst e
    subst q1
    subst q2
    subst q3
    exact ⟨1, S, Or.inl ⟨rfl, g, rfl⟩, LIx.ref (S2 := S) hC hO h24 hb3 hF hR' h1 h2 gm' gr' gx' hP hK hL⟩
  · subst e
    subst q2
    subst q3
    have ev : v = sg S.1 (c7 (S.2.2.2.2 na) (w8 (w8 1754760 nb nc) nc nb)) := hv.trans (SV h2 hp0 (RL_exchange h2 hP hL ha hb hc hA) ha).symm
    exact ⟨0, _, Or.inr (Or.inr ⟨rfl, ⟨⟨na, ha, ea⟩, ⟨nb, hb, eb⟩, ⟨nc, hc, ec⟩⟩, trivial, ⟨na, nb, nc, ea, eb, ec, ha, hb, hc, ev, rfl⟩⟩), LIx.ref (S2 := ES S na (c7 (S.2.2.2.2 na) (w8 (w8 1754760 nb nc) nc nb))) hC hO h24 hb3 hF hR' h1 h2 gm' gr' gx' hp0 (Or.inl rfl) (RL_exchange h2 hP hL ha hb hc hA)⟩
set_option maxRecDepth 100000 in
set_option maxHeartbeats 4000000 in
theorem vv_ring {X : jX} (hs : X.1.stackTraces = false) {d : Nat} (hd : 40 ≤ d) {o : Nat} {S0 S : StX} {w : List jC} (hI : LI o S0 S w) (p0 : Int32) (p1 : Int32) (p2 : Int32) (p3 : Int32) {kc ks : Nat} : jMet X mX8_ring d kc ks [.ref 19, .int p0, .int p1, .int p2, .int p3] w (pJ (fun v w' => ∃ (k : Nat) (S2 : StX), AG (isN p0 6 ∧ isN p1 S.1 ∧ isN p2 S.1 ∧ isN p3 S.1) (p1 ≠ p2 ∧ p2 ≠ p3 ∧ p3 ≠ p1) (Dring S p0 p1 p2 p3) S k v S2 ∧ LIx o S0 S2 (nI k) w' ∧ w'[o]? = w[o]?)) := by
  obtain ⟨t, hC, ⟨mv, rw, nx, b, bt, kn, en, hR, h1, h2, gm, gr, gx, hP, hK, hL, h24⟩, hO⟩ := hI
  have hb3 := hR.2.2.2.2.2.2
  refine jJ (c_X8_ring_ate hs (d := d) (by omega) hR h1 h2 gm gr gx p0 p1 p2 p3 hP (KX_KB h1 h2 hK)) (fun v w' h => ?_)
  obtain ⟨mv', rw', nx', kn', dn', th', hR', hF, gm', gr', gx', hp0, hk0, hp2⟩ := h
  rcases hp2 with ⟨e, g, q1, q2, q3⟩ | ⟨e, g1, g2, q1, q2, q3⟩ | ⟨e, ⟨na, nb, nc, nf, ea, eb, ec, ef, ha, hb, hc, hf, f1, f2, f3, hA, hv⟩, q2, q3⟩
  · subst e
    subst q1
    subst q2
    subst q3
    exact ⟨1, S, Or.inl ⟨rfl, g, rfl⟩, LIx.ref (S2 := S) hC hO h24 hb3 hF hR' h1 h2 gm' gr' gx' hP hK hL⟩
  · subst e
    subst q1
    subst q2
    subst q3
    exact ⟨2, S, Or.inr (Or.inl ⟨rfl, g1, g2, rfl⟩), LIx.ref (S2 := S) hC hO h24 hb3 hF hR' h1 h2 gm' gr' gx' hP hK hL⟩
  · subst e
    subst q2
    subst q3
    have ev : v = sg S.1 (c7 (S.2.2.2.2 na) (w8 (w8 (w8 1754760 nb nc) nc nf) nf nb)) := hv.trans (SV h2 hp0 (RL_ring h2 hP hL ha hb hc hf f1 f2 f3 hA) ha).symm
    exact ⟨0, _, Or.inr (Or.inr ⟨rfl, ⟨⟨na, ha, ea⟩, ⟨nb, hb, eb⟩, ⟨nc, hc, ec⟩, ⟨nf, hf, ef⟩⟩, ⟨fun e => f1 (nI_uq eb (e.trans ec) hb hc), fun e => f2 (nI_uq ec (e.trans ef) hc hf), fun e => f3 (nI_uq ef (e.trans eb) hf hb)⟩, ⟨na, nb, nc, nf, ea, eb, ec, ef, ha, hb, hc, hf, ev, rfl⟩⟩), LIx.ref (S2 := ES S na (c7 (S.2.2.2.2 na) (w8 (w8 (w8 1754760 nb nc) nc nf) nf nb))) hC hO h24 hb3 hF hR' h1 h2 gm' gr' gx' hp0 (Or.inl rfl) (RL_ring h2 hP hL ha hb hc hf f1 f2 f3 hA)⟩
set_option maxRecDepth 100000 in
set_option maxHeartbeats 4000000 in
theorem vv_turn {X : jX} (hs : X.1.stackTraces = false) {d : Nat} (hd : 40 ≤ d) {o : Nat} {S0 S : StX} {w : List jC} (hI : LI o S0 S w) (p0 : Int32) (p1 : Int32) {kc ks : Nat} : jMet X mX8_turn d kc ks [.ref 19, .int p0, .int p1] w (pJ (fun v w' => ∃ (k : Nat) (S2 : StX), AG (isN p0 6) ((-100) ≤ p1 ∧ p1 ≤ nI 100) (Dturn S p0 p1) S k v S2 ∧ LIx o S0 S2 (nI k) w' ∧ w'[o]? = w[o]?)) := by
  obtain ⟨t, hC, ⟨mv, rw, nx, b, bt, kn, en, hR, h1, h2, gm, gr, gx, hP, hK, hL, h24⟩, hO⟩ := hI
  have hb3 := hR.2.2.2.2.2.2
  refine jJ (c_X8_turn_ate hs (d := d) (by omega) hR h1 h2 gm gr gx p0 p1 hP (KX_KB h1 h2 hK)) (fun v w' h => ?_)
  obtain ⟨mv', rw', nx', kn', dn', th', hR', hF, gm', gr', gx', hp0, hk0, hp2⟩ := h
  rcases hp2 with ⟨e, g, q1, q2, q3⟩ | ⟨e, g1, g2, q1, q2, q3⟩ | ⟨e, ⟨na, ea, ha, f1, f2, hA, hv⟩, q2, q3⟩
  · subst e
    subst q1
    subst q2
    subst q3
    exact ⟨1, S, Or.inl ⟨rfl, g, rfl⟩, LIx.ref (S2 := S) hC hO h24 hb3 hF hR' h1 h2 gm' gr' gx' hP hK hL⟩
  · subst e
    subst q1
    subst q2
    subst q3
    exact ⟨2, S, Or.inr (Or.inl ⟨rfl, g1, g2, rfl⟩), LIx.ref (S2 := S) hC hO h24 hb3 hF hR' h1 h2 gm' gr' gx' hP hK hL⟩
  · subst e
    subst q2
    subst q3
    have ev : v = sg S.1 (c7 (S.2.2.2.2 na) (bW (fun p => (p + tT S.1 p1) % S.1) S.1)) := hv.trans (SV h2 hp0 (RL_turn h1 h2 hP hL ha hA) ha).symm
    exact ⟨0, _, Or.inr (Or.inr ⟨rfl, ⟨na, ha, ea⟩, ⟨f1, f2⟩, ⟨na, ea, ha, ev, rfl⟩⟩), LIx.ref (S2 := ES S na (c7 (S.2.2.2.2 na) (bW (fun p => (p + tT S.1 p1) % S.1) S.1))) hC hO h24 hb3 hF hR' h1 h2 gm' gr' gx' hp0 (Or.inl rfl) (RL_turn h1 h2 hP hL ha hA)⟩
set_option maxRecDepth 100000 in
set_option maxHeartbeats 4000000 in
theorem vv_mirror {X : jX} (hs : X.1.stackTraces = false) {d : Nat} (hd : 40 ≤ d) {o : Nat} {S0 S : StX} {w : List jC} (hI : LI o S0 S w) (p0 : Int32) {kc ks : Nat} : jMet X mX8_mirror d kc ks [.ref 19, .int p0] w (pJ (fun v w' => ∃ (k : Nat) (S2 : StX), AG (isN p0 6) (True) (Dmirror S p0) S k v S2 ∧ LIx o S0 S2 (nI k) w' ∧ w'[o]? = w[o]?)) := by
  obtain ⟨t, hC, ⟨mv, rw, nx, b, bt, kn, en, hR, h1, h2, gm, gr, gx, hP, hK, hL, h24⟩, hO⟩ := hI
  have hb3 := hR.2.2.2.2.2.2
  refine jJ (c_X8_mirror_ate hs (d := d) (by omega) hR h1 h2 gm gr gx p0 hP (KX_KB h1 h2 hK)) (fun v w' h => ?_)
  obtain ⟨mv', rw', nx', kn', dn', th', hR', hF, gm', gr', gx', hp0, hk0, hp2⟩ := h
  rcases hp2 with ⟨e, g, q1, q2, q3⟩ | ⟨e, ⟨na, ea, ha, hA, hv⟩, q2, q3⟩
  · subst e
    subst q1
    subst q2
    subst q3
    exact ⟨1, S, Or.inl ⟨rfl, g, rfl⟩, LIx.ref (S2 := S) hC hO h24 hb3 hF hR' h1 h2 gm' gr' gx' hP hK hL⟩
  · subst e
    subst q2
    subst q3
    have ev : v = sg S.1 (c7 (S.2.2.2.2 na) (bW (fun p => S.1 - 1 - p) S.1)) := hv.trans (SV h2 hp0 (RL_mirror h2 hP hL ha hA) ha).symm
    exact ⟨0, _, Or.inr (Or.inr ⟨rfl, ⟨na, ha, ea⟩, trivial, ⟨na, ea, ha, ev, rfl⟩⟩), LIx.ref (S2 := ES S na (c7 (S.2.2.2.2 na) (bW (fun p => S.1 - 1 - p) S.1))) hC hO h24 hb3 hF hR' h1 h2 gm' gr' gx' hp0 (Or.inl rfl) (RL_mirror h2 hP hL ha hA)⟩
set_option maxRecDepth 100000 in
set_option maxHeartbeats 4000000 in
theorem vv_copy {X : jX} (hs : X.1.stackTraces = false) {d : Nat} (hd : 40 ≤ d) {o : Nat} {S0 S : StX} {w : List jC} (hI : LI o S0 S w) (p0 : Int32) (p1 : Int32) {kc ks : Nat} : jMet X mX8_copy d kc ks [.ref 19, .int p0, .int p1] w (pJ (fun v w' => ∃ (k : Nat) (S2 : StX), AG (isN p0 6 ∧ isN p1 6) (True) (Dcopy S p0 p1) S k v S2 ∧ LIx o S0 S2 (nI k) w' ∧ w'[o]? = w[o]?)) := by
  obtain ⟨t, hC, ⟨mv, rw, nx, b, bt, kn, en, hR, h1, h2, gm, gr, gx, hP, hK, hL, h24⟩, hO⟩ := hI
  have hb3 := hR.2.2.2.2.2.2
  refine jJ (c_X8_copy_ate hs (d := d) (by omega) hR h1 h2 gm gr gx p0 p1 hP (KX_KB h1 h2 hK)) (fun v w' h => ?_)
  obtain ⟨mv', nx', kn', dn', th', hR', hF, gm', gx', hp0, hk0, hp2⟩ := h
  rcases hp2 with ⟨e, g, q1, q2, q3⟩ | ⟨e, ⟨na, nb, ea, eb, ha, hb, hA, hv⟩, q2, q3⟩
  · subst e
    subst q1
    subst q2
    subst q3
    exact ⟨1, S, Or.inl ⟨rfl, g, rfl⟩, LIx.ref (S2 := S) hC hO h24 hb3 hF hR' h1 h2 gm' gr gx' hP hK hL⟩
  · subst e
    subst q2
    subst q3
    have ev : v = (if (S.2.2.2.2 nb) = (S.2.2.2.2 na) then nI 0 else nI 1) := CVb h2 hP hL ha hb hv
    exact ⟨0, _, Or.inr (Or.inr ⟨rfl, ⟨⟨na, ha, ea⟩, ⟨nb, hb, eb⟩⟩, trivial, ⟨na, nb, ea, eb, ha, hb, ev, rfl⟩⟩), LIx.ref (S2 := ES S nb (S.2.2.2.2 na)) hC hO h24 hb3 hF hR' h1 h2 gm' gr gx' hp0 (Or.inl rfl) (RL_copy hL ha hA)⟩
set_option maxRecDepth 100000 in
set_option maxHeartbeats 4000000 in
theorem vv_swap {X : jX} (hs : X.1.stackTraces = false) {d : Nat} (hd : 40 ≤ d) {o : Nat} {S0 S : StX} {w : List jC} (hI : LI o S0 S w) (p0 : Int32) (p1 : Int32) {kc ks : Nat} : jMet X mX8_swap d kc ks [.ref 19, .int p0, .int p1] w (pJ (fun v w' => ∃ (k : Nat) (S2 : StX), AG (isN p0 6 ∧ isN p1 6) (True) (Dswap S p0 p1) S k v S2 ∧ LIx o S0 S2 (nI k) w' ∧ w'[o]? = w[o]?)) := by
  obtain ⟨t, hC, ⟨mv, rw, nx, b, bt, kn, en, hR, h1, h2, gm, gr, gx, hP, hK, hL, h24⟩, hO⟩ := hI
  have hb3 := hR.2.2.2.2.2.2
  refine jJ (c_X8_swap_ate hs (d := d) (by omega) hR h1 h2 gm gr gx p0 p1 hP (KX_KB h1 h2 hK)) (fun v w' h => ?_)
  obtain ⟨mv', kn', dn', th', hR', hF, gm', hp0, hk0, hp2⟩ := h
  rcases hp2 with ⟨e, g, q1, q2, q3⟩ | ⟨e, ⟨na, nb, ea, eb, ha, hb, hA, hv⟩, q2, q3⟩
  · subst e
    subst q1
    subst q2
    subst q3
    exact ⟨1, S, Or.inl ⟨rfl, g, rfl⟩, LIx.ref (S2 := S) hC hO h24 hb3 hF hR' h1 h2 gm' gr gx hP hK hL⟩
  · subst e
    subst q2
    subst q3
    have ev : v = (if (S.2.2.2.2 na) = (S.2.2.2.2 nb) then nI 0 else nI 1) := CVa h2 hP hL ha hb hv
    exact ⟨0, _, Or.inr (Or.inr ⟨rfl, ⟨⟨na, ha, ea⟩, ⟨nb, hb, eb⟩⟩, trivial, ⟨na, nb, ea, eb, ha, hb, ev, rfl⟩⟩), LIx.ref (S2 := (S.1, S.2.1 + nI 1, S.2.2.1, S.2.2.2.1, up (up S.2.2.2.2 na (S.2.2.2.2 nb)) nb (S.2.2.2.2 na))) hC hO h24 hb3 hF hR' h1 h2 gm' gr gx hp0 (Or.inl rfl) (by rw [hA]; exact RL_swap h2 hL ha hb)⟩
set_option maxRecDepth 100000 in
set_option maxHeartbeats 4000000 in
theorem vv_then {X : jX} (hs : X.1.stackTraces = false) {d : Nat} (hd : 40 ≤ d) {o : Nat} {S0 S : StX} {w : List jC} (hI : LI o S0 S w) (p0 : Int32) (p1 : Int32) (p2 : Int32) {kc ks : Nat} : jMet X mX8_then d kc ks [.ref 19, .int p0, .int p1, .int p2] w (pJ (fun v w' => ∃ (k : Nat) (S2 : StX), AG (isN p0 6 ∧ isN p1 6 ∧ isN p2 6) (True) (Dthen S p0 p1 p2) S k v S2 ∧ LIx o S0 S2 (nI k) w' ∧ w'[o]? = w[o]?)) := by
  obtain ⟨t, hC, ⟨mv, rw, nx, b, bt, kn, en, hR, h1, h2, gm, gr, gx, hP, hK, hL, h24⟩, hO⟩ := hI
  have hb3 := hR.2.2.2.2.2.2
  refine jJ (c_X8_then_ate hs (d := d) (by omega) hR h1 h2 gm gr gx p0 p1 p2 hP (KX_KB h1 h2 hK)) (fun v w' h => ?_)
  obtain ⟨mv', nx', kn', dn', th', hR', hF, gm', gx', hp0, hk0, hp2⟩ := h
  rcases hp2 with ⟨e, g, q1, q2, q3⟩ | ⟨e, ⟨na, nb, nc, ea, eb, ec, ha, hb, hc, hA, hv⟩, q2, q3⟩
  · subst e
    subst q1
    subst q2
    subst q3
    exact ⟨1, S, Or.inl ⟨rfl, g, rfl⟩, LIx.ref (S2 := S) hC hO h24 hb3 hF hR' h1 h2 gm' gr gx' hP hK hL⟩
  · subst e
    subst q2
    subst q3
    have ev : v = nI (nu S.1 (c7 (S.2.2.2.2 na) (S.2.2.2.2 nb))) := hv.trans (congrArg nI (AV h2 hp0 (RL_then h2 hP hL ha hb hA) hA hc).symm)
    exact ⟨0, _, Or.inr (Or.inr ⟨rfl, ⟨⟨na, ha, ea⟩, ⟨nb, hb, eb⟩, ⟨nc, hc, ec⟩⟩, trivial, ⟨na, nb, nc, ea, eb, ec, ha, hb, hc, ev, rfl⟩⟩), LIx.ref (S2 := ES S nc (c7 (S.2.2.2.2 na) (S.2.2.2.2 nb))) hC hO h24 hb3 hF hR' h1 h2 gm' gr gx' hp0 (Or.inl rfl) (RL_then h2 hP hL ha hb hA)⟩
set_option maxRecDepth 100000 in
set_option maxHeartbeats 4000000 in
theorem vv_undo {X : jX} (hs : X.1.stackTraces = false) {d : Nat} (hd : 40 ≤ d) {o : Nat} {S0 S : StX} {w : List jC} (hI : LI o S0 S w) (p0 : Int32) (p1 : Int32) {kc ks : Nat} : jMet X mX8_undo d kc ks [.ref 19, .int p0, .int p1] w (pJ (fun v w' => ∃ (k : Nat) (S2 : StX), AG (isN p0 6 ∧ isN p1 6) (True) (Dundo S p0 p1) S k v S2 ∧ LIx o S0 S2 (nI k) w' ∧ w'[o]? = w[o]?)) := by
  obtain ⟨t, hC, ⟨mv, rw, nx, b, bt, kn, en, hR, h1, h2, gm, gr, gx, hP, hK, hL, h24⟩, hO⟩ := hI
  have hb3 := hR.2.2.2.2.2.2
  refine jJ (c_X8_undo_ate hs (d := d) (by omega) hR h1 h2 gm gr gx p0 p1 hP (KX_KB h1 h2 hK)) (fun v w' h => ?_)
  obtain ⟨mv', nx', kn', dn', th', hR', hF, gm', gx', hp0, hk0, hp2⟩ := h
  rcases hp2 with ⟨e, g, q1, q2, q3⟩ | ⟨e, ⟨na, nb, g, ea, eb, ha, hb, hf, hA, hv⟩, q2, q3⟩
  · subst e
    subst q1
    subst q2
    subst q3
    exact ⟨1, S, Or.inl ⟨rfl, g, rfl⟩, LIx.ref (S2 := S) hC hO h24 hb3 hF hR' h1 h2 gm' gr gx' hP hK hL⟩
  · subst e
    subst q2
    subst q3
    have ev : v = nI (nu S.1 (i7 (S.2.2.2.2 na))) := hv.trans (congrArg nI (AV h2 hp0 (RL_undo h2 hP hL ha hf hA) hA hb).symm)
    exact ⟨0, _, Or.inr (Or.inr ⟨rfl, ⟨⟨na, ha, ea⟩, ⟨nb, hb, eb⟩⟩, trivial, ⟨na, nb, ea, eb, ha, hb, ev, rfl⟩⟩), LIx.ref (S2 := ES S nb (i7 (S.2.2.2.2 na))) hC hO h24 hb3 hF hR' h1 h2 gm' gr gx' hp0 (Or.inl rfl) (RL_undo h2 hP hL ha hf hA)⟩
set_option maxRecDepth 100000 in
set_option maxHeartbeats 4000000 in
theorem vv_power {X : jX} (hs : X.1.stackTraces = false) {d : Nat} (hd : 40 ≤ d) {o : Nat} {S0 S : StX} {w : List jC} (hI : LI o S0 S w) (p0 : Int32) (p1 : Int32) (p2 : Int32) {kc ks : Nat} : jMet X mX8_power d kc ks [.ref 19, .int p0, .int p1, .int p2] w (pJ (fun v w' => ∃ (k : Nat) (S2 : StX), AG (isN p0 6 ∧ isN p2 6) ((-1000) ≤ p1 ∧ p1 ≤ nI 1000) (Dpower S p0 p1 p2) S k v S2 ∧ LIx o S0 S2 (nI k) w' ∧ w'[o]? = w[o]?)) := by
  obtain ⟨t, hC, ⟨mv, rw, nx, b, bt, kn, en, hR, h1, h2, gm, gr, gx, hP, hK, hL, h24⟩, hO⟩ := hI
  have hb3 := hR.2.2.2.2.2.2
  refine jJ (c_X8_power_ate hs (d := d) (by omega) hR h1 h2 gm gr gx p0 p1 p2 hP (KX_KB h1 h2 hK)) (fun v w' h => ?_)
  obtain ⟨mv', nx', kn', dn', th', hR', hF, gm', gx', hp0, hk0, hp2⟩ := h
  rcases hp2 with ⟨e, g, q1, q2, q3⟩ | ⟨e, g1, g2, q1, q2, q3⟩ | ⟨e, ⟨na, nc, ea, ec, ha, hc, f1, f2, hA, hv⟩, q2, q3⟩
  · subst e
    subst q1
    subst q2
    subst q3
    exact ⟨1, S, Or.inl ⟨rfl, g, rfl⟩, LIx.ref (S2 := S) hC hO h24 hb3 hF hR' h1 h2 gm' gr gx' hP hK hL⟩
  · subst e
    subst q1
    subst q2
    subst q3
    exact ⟨2, S, Or.inr (Or.inl ⟨rfl, g1, g2, rfl⟩), LIx.ref (S2 := S) hC hO h24 hb3 hF hR' h1 h2 gm' gr gx' hP hK hL⟩
  · subst e
    subst q2
    subst q3
    have ev : v = nI (nu S.1 (pwM p1 (S.2.2.2.2 na))) := hv.trans (congrArg nI (AV h2 hp0 (RL_power h2 hP hL ha f1 f2 hA) hA hc).symm)
    exact ⟨0, _, Or.inr (Or.inr ⟨rfl, ⟨⟨na, ha, ea⟩, ⟨nc, hc, ec⟩⟩, ⟨f1, f2⟩, ⟨na, nc, ea, ec, ha, hc, ev, rfl⟩⟩), LIx.ref (S2 := ES S nc (pwM p1 (S.2.2.2.2 na))) hC hO h24 hb3 hF hR' h1 h2 gm' gr gx' hp0 (Or.inl rfl) (RL_power h2 hP hL ha f1 f2 hA)⟩
set_option maxRecDepth 100000 in
set_option maxHeartbeats 4000000 in
theorem vv_rename {X : jX} (hs : X.1.stackTraces = false) {d : Nat} (hd : 40 ≤ d) {o : Nat} {S0 S : StX} {w : List jC} (hI : LI o S0 S w) (p0 : Int32) (p1 : Int32) (p2 : Int32) {kc ks : Nat} : jMet X mX8_rename d kc ks [.ref 19, .int p0, .int p1, .int p2] w (pJ (fun v w' => ∃ (k : Nat) (S2 : StX), AG (isN p0 6 ∧ isN p1 6 ∧ isN p2 6) (True) (Drename S p0 p1 p2) S k v S2 ∧ LIx o S0 S2 (nI k) w' ∧ w'[o]? = w[o]?)) := by
  obtain ⟨t, hC, ⟨mv, rw, nx, b, bt, kn, en, hR, h1, h2, gm, gr, gx, hP, hK, hL, h24⟩, hO⟩ := hI
  have hb3 := hR.2.2.2.2.2.2
  refine jJ (c_X8_rename_ate hs (d := d) (by omega) hR h1 h2 gm gr gx p0 p1 p2 hP (KX_KB h1 h2 hK)) (fun v w' h => ?_)
  obtain ⟨mv', nx', kn', dn', th', hR', hF, gm', gx', hp0, hk0, hp2⟩ := h
  rcases hp2 with ⟨e, g, q1, q2, q3⟩ | ⟨e, ⟨na, nb, nc, g, ea, eb, ec, ha, hb, hc, hf, hA, hv⟩, q2, q3⟩
  · subst e
    subst q1
    subst q2
    subst q3
    exact ⟨1, S, Or.inl ⟨rfl, g, rfl⟩, LIx.ref (S2 := S) hC hO h24 hb3 hF hR' h1 h2 gm' gr gx' hP hK hL⟩
  · subst e
    subst q2
    subst q3
    have ev : v = nI (nu S.1 (c7 (c7 (i7 (S.2.2.2.2 nb)) (S.2.2.2.2 na)) (S.2.2.2.2 nb))) := hv.trans (congrArg nI (AV h2 hp0 (RL_rename h2 hP hL ha hb hf hA) hA hc).symm)
    exact ⟨0, _, Or.inr (Or.inr ⟨rfl, ⟨⟨na, ha, ea⟩, ⟨nb, hb, eb⟩, ⟨nc, hc, ec⟩⟩, trivial, ⟨na, nb, nc, ea, eb, ec, ha, hb, hc, ev, rfl⟩⟩), LIx.ref (S2 := ES S nc (c7 (c7 (i7 (S.2.2.2.2 nb)) (S.2.2.2.2 na)) (S.2.2.2.2 nb))) hC hO h24 hb3 hF hR' h1 h2 gm' gr gx' hp0 (Or.inl rfl) (RL_rename h2 hP hL ha hb hf hA)⟩
set_option maxRecDepth 100000 in
set_option maxHeartbeats 4000000 in
theorem vv_match {X : jX} (hs : X.1.stackTraces = false) {d : Nat} (hd : 40 ≤ d) {o : Nat} {S0 S : StX} {w : List jC} (hI : LI o S0 S w) (p0 : Int32) (p1 : Int32) (p2 : Int32) {kc ks : Nat} : jMet X mX8_match d kc ks [.ref 19, .int p0, .int p1, .int p2] w (pJ (fun v w' => ∃ (k : Nat) (S2 : StX), AG (isN p0 6 ∧ isN p1 6 ∧ isN p2 6) (True) (Dmatch S p0 p1 p2) S k v S2 ∧ LIx o S0 S2 (nI k) w' ∧ w'[o]? = w[o]?)) := by
  obtain ⟨t, hC, ⟨mv, rw, nx, b, bt, kn, en, hR, h1, h2, gm, gr, gx, hP, hK, hL, h24⟩, hO⟩ := hI
  have hb3 := hR.2.2.2.2.2.2
  refine jJ (c_X8_match_ate hs (d := d) (by omega) hR h1 h2 gm gr gx p0 p1 p2 hP (KX_KB h1 h2 hK)) (fun v w' h => ?_)
  obtain ⟨mv', rw', kn', dn', rf', th', hR', hF, gm', gr', hp0, hk0, hp2⟩ := h
  rcases hp2 with ⟨e, g, q1, q2, q3, q4⟩ | ⟨e, ⟨na, nb, nc, k, ea, eb, ec, ha, hb, hc, hk, hq, hl, hA, hv⟩, q2, q3, q4⟩ | ⟨e, ⟨na, nb, nc, ea, eb, ec, ha, hb, hc, hl, hv⟩, q1, q2, q3, q4⟩
  · subst e
    subst q1
    subst q2
    subst q3
    subst q4
    exact ⟨1, S, Or.inl ⟨rfl, g, rfl⟩, LIx.ref (S2 := S) hC hO h24 hb3 hF hR' h1 h2 gm' gr' gx hP hK hL⟩
  · subst e
    subst q2
    subst q3
    subst q4
    exact ⟨0, _, Or.inr (Or.inr ⟨rfl, ⟨⟨na, ha, ea⟩, ⟨nb, hb, eb⟩, ⟨nc, hc, ec⟩⟩, trivial, ⟨na, nb, nc, ea, eb, ec, ha, hb, hc, Or.inl ⟨XM S.1 k, LN_ref (by omega) h2 hP hL ha hb hk hq hl, hv.trans (congrArg nI (nu_congr (fun p hp => XM_d (by omega) h2 hp)).symm), rfl⟩⟩⟩), LIx.ref (S2 := ES S nc (XM S.1 k)) hC hO h24 hb3 hF hR' h1 h2 gm' gr' gx hp0 (Or.inl rfl) (RL_lay hL hA)⟩
  · subst e
    subst q1
    subst q2
    subst q3
    subst q4
    exact ⟨0, _, Or.inr (Or.inr ⟨rfl, ⟨⟨na, ha, ea⟩, ⟨nb, hb, eb⟩, ⟨nc, hc, ec⟩⟩, trivial, ⟨na, nb, nc, ea, eb, ec, ha, hb, hc, Or.inr ⟨LN_none (by omega) h2 hP hL ha hb hl, hv, rfl⟩⟩⟩), LIx.ref (S2 := NS S) hC hO h24 hb3 hF hR' h1 h2 gm' gr' gx hP hK hL⟩
set_option maxRecDepth 100000 in
set_option maxHeartbeats 4000000 in
theorem vv_thrown {X : jX} (hs : X.1.stackTraces = false) {d : Nat} {o : Nat} {S S' : StX} {t : Int32} {w : List jC} (hI : LIx o S S' t w) {kc ks : Nat} : jMet X mX8_thrown d kc ks [.ref 19] w (pI (fun v => v = t) (fun w' => w' = w)) := by
  refine jMet_of hs (by decide +kernel) (Nat.le_of_ble_eq_true rfl) (L := [some (.ref 19)]) rfl ?_
  obtain ⟨_, ⟨mv, rw, nx, b, bt, kn, en, hR, _⟩, _⟩ := hI
  refine J_aload_n (pc := 0) dX8_thrown_0 rfl rfl rfl ?_
  refine J_get (pc := 1) (k := 10) dX8_thrown_1 kC9 (by decide) ff_X8_32 hR.1 rfl ?_
  exact J_iret (pc := 4) dX8_thrown_4 rfl ⟨rfl, rfl⟩
set_option maxRecDepth 100000 in
set_option maxHeartbeats 4000000 in
theorem vv_nth {X : jX} (hs : X.1.stackTraces = false) {d : Nat} (hd : 40 ≤ d) {o : Nat} {S0 S : StX} {w : List jC} (hI : LI o S0 S w) (p0 : Int32) (p1 : Int32) (p2 : Int32) (p3 : Int32) {kc ks : Nat} (hkc : 15 ≤ kc) (hks : 2068 ≤ ks) : jMet X mX8_nth d kc ks [.ref 19, .int p0, .int p1, .int p2, .int p3] w (pJ (fun v w' => ∃ (k : Nat) (S2 : StX), AG (isN p1 6 ∧ isN p3 6) (isN p0 64 ∧ 0 ≤ p2) (Dnth S p0 p1 p2 p3) S k v S2 ∧ LIx o S0 S2 (nI k) w' ∧ w'[o]? = w[o]?)) := by
  obtain ⟨t, hC, ⟨mv, rw, nx, b, bt, kn, en, hR, h1, h2, gm, gr, gx, hP, hK, hL, h24⟩, hO⟩ := hI
  have hb3 := hR.2.2.2.2.2.2
  refine jJ (c_X8_nth_ate hs (d := d) (by omega) hR h1 h2 gm gr gx p0 p1 p2 p3 hP hK hkc hks) (fun v w' h => ?_)
  obtain ⟨mv', rw', nx', b', bt', kn', en', dn', rf', th', hR', hF, gm', gr', gx', hp0, hp2⟩ := h
  rcases hp2 with ⟨e, g, q1, hk, q3, q4⟩ | ⟨e, g1, g2, q1, hk, q3, q4⟩ | ⟨e, ⟨s, na, nb, rk, y, es, ea, eb, er, hs', ha, hb, hr, hlt, hy1, hy2, hA, hv⟩, q2, q3, q4⟩ | ⟨e, ⟨s, na, nb, rk, es, ea, eb, er, hs', ha, hb, hr, hlt, hv⟩, q1, hk, q3, q4⟩
  · subst e
    subst q1
    subst q3
    subst q4
    exact ⟨1, S, Or.inl ⟨rfl, g, rfl⟩, LIx.ref (S2 := S) hC hO h24 hb3 hF hR' h1 h2 gm' gr' gx' hP hk hL⟩
  · subst e
    subst q1
    subst q3
    subst q4
    exact ⟨2, S, Or.inr (Or.inl ⟨rfl, g1, g2, rfl⟩), LIx.ref (S2 := S) hC hO h24 hb3 hF hR' h1 h2 gm' gr' gx' hP hk hL⟩
  · subst e
    subst q2
    subst q3
    subst q4
    exact ⟨0, _, Or.inr (Or.inr ⟨rfl, ⟨⟨na, ha, ea⟩, ⟨nb, hb, eb⟩⟩, ⟨⟨s, hs', es⟩, by rw [er]; exact nI_pos' hr⟩, ⟨s, na, nb, rk, es, ea, eb, er, hs', ha, hb, hr, Or.inl ⟨y, by rw [← cd_RL (by omega) h2 hL s]; exact hlt, hy1, GK_RL (by omega) h2 hP hL ha hy2, hv, rfl⟩⟩⟩), LIx.ref (S2 := ES S nb y) hC hO h24 hb3 hF hR' h1 h2 gm' gr' gx' hp0 (Or.inl rfl) (RL_nth hL h2 hy1 hA)⟩
  · subst e
    subst q1
    subst q3
    subst q4
    exact ⟨0, _, Or.inr (Or.inr ⟨rfl, ⟨⟨na, ha, ea⟩, ⟨nb, hb, eb⟩⟩, ⟨⟨s, hs', es⟩, by rw [er]; exact nI_pos' hr⟩, ⟨s, na, nb, rk, es, ea, eb, er, hs', ha, hb, hr, Or.inr ⟨by rw [← cd_RL (by omega) h2 hL s]; exact hlt, hv, rfl⟩⟩⟩), LIx.ref (S2 := NS S) hC hO h24 hb3 hF hR' h1 h2 gm' gr' gx' hP hk hL⟩
set_option maxRecDepth 100000 in
set_option maxHeartbeats 4000000 in
theorem vv_count {X : jX} (hs : X.1.stackTraces = false) {d : Nat} (hd : 40 ≤ d) {o : Nat} {S0 S : StX} {w : List jC} (hI : LI o S0 S w) {kc ks : Nat} : jMet X mX8_count d kc ks [.ref 19] w (pI (fun _ => True) (LI o S0 S)) := by
  obtain ⟨t, hC, ⟨mv, rw, nx, b, bt, kn, en, hR, h1, h2, gm, gr, gx, hP, hK, hL, h24⟩, hO⟩ := hI
  have hb3 := hR.2.2.2.2.2.2
  refine uI0 (c_X8_count hs (d := d) (by omega) hR h1 h2 gm gr gx) (fun w' h => ?_)
  obtain ⟨hR', hF⟩ := h
  exact ⟨_, (LIx.ref (S2 := S) hC hO h24 hb3 hF hR' h1 h2 gm gr gx hP hK hL).1⟩
set_option maxRecDepth 100000 in
set_option maxHeartbeats 4000000 in
theorem vv_number {X : jX} (hs : X.1.stackTraces = false) {d : Nat} (hd : 40 ≤ d) {o : Nat} {S0 S : StX} {w : List jC} (hI : LI o S0 S w) (p0 : Int32) {kc ks : Nat} : jMet X mX8_number d kc ks [.ref 19, .int p0] w (pJ (fun v w' => ∃ (k : Nat) (S2 : StX), AG (isN p0 6) (True) (Dnumber S p0) S k v S2 ∧ LIx o S0 S2 (nI k) w' ∧ w'[o]? = w[o]?)) := by
  obtain ⟨t, hC, ⟨mv, rw, nx, b, bt, kn, en, hR, h1, h2, gm, gr, gx, hP, hK, hL, h24⟩, hO⟩ := hI
  have hb3 := hR.2.2.2.2.2.2
  refine jJ (c_X8_number_ate hs (d := d) (by omega) hR h1 h2 gm gr gx p0) (fun v w' h => ?_)
  obtain ⟨th', hR', hF, hp2⟩ := h
  rcases hp2 with ⟨e, g⟩ | ⟨e, na, ea, ha, hv⟩
  · subst e
    exact ⟨1, S, Or.inl ⟨rfl, g, rfl⟩, LIx.ref (S2 := S) hC hO h24 hb3 hF hR' h1 h2 gm gr gx hP hK hL⟩
  · subst e
    have ev : v = nI (nu S.1 (S.2.2.2.2 na)) := by rw [hv, nu_mW h2 hP ha, RLx_mW hL ha]
    exact ⟨0, S, Or.inr (Or.inr ⟨rfl, ⟨na, ha, ea⟩, trivial, ⟨na, ea, ha, ev, rfl⟩⟩), LIx.ref (S2 := S) hC hO h24 hb3 hF hR' h1 h2 gm gr gx hP hK hL⟩
set_option maxRecDepth 100000 in
set_option maxHeartbeats 4000000 in
theorem vv_goes {X : jX} (hs : X.1.stackTraces = false) {d : Nat} (hd : 40 ≤ d) {o : Nat} {S0 S : StX} {w : List jC} (hI : LI o S0 S w) (p0 : Int32) (p1 : Int32) {kc ks : Nat} : jMet X mX8_goes d kc ks [.ref 19, .int p0, .int p1] w (pJ (fun v w' => ∃ (k : Nat) (S2 : StX), AG (isN p0 6 ∧ isN p1 S.1) (True) (Dgoes S p0 p1) S k v S2 ∧ LIx o S0 S2 (nI k) w' ∧ w'[o]? = w[o]?)) := by
  obtain ⟨t, hC, ⟨mv, rw, nx, b, bt, kn, en, hR, h1, h2, gm, gr, gx, hP, hK, hL, h24⟩, hO⟩ := hI
  have hb3 := hR.2.2.2.2.2.2
  refine jJ (c_X8_goes_ate hs (d := d) (by omega) hR h1 h2 gm gr gx p0 p1) (fun v w' h => ?_)
  obtain ⟨th', hR', hF, hp2⟩ := h
  rcases hp2 with ⟨e, g⟩ | ⟨e, na, nb, ea, eb, ha, hb, hv⟩
  · subst e
    exact ⟨1, S, Or.inl ⟨rfl, g, rfl⟩, LIx.ref (S2 := S) hC hO h24 hb3 hF hR' h1 h2 gm gr gx hP hK hL⟩
  · subst e
    have ev : v = nI (d8 (S.2.2.2.2 na) nb) := by rw [hv, RLx_d h2 hL hP ha hb]
    exact ⟨0, S, Or.inr (Or.inr ⟨rfl, ⟨⟨na, ha, ea⟩, ⟨nb, hb, eb⟩⟩, trivial, ⟨na, nb, ea, eb, ha, hb, ev, rfl⟩⟩), LIx.ref (S2 := S) hC hO h24 hb3 hF hR' h1 h2 gm gr gx hP hK hL⟩
set_option maxRecDepth 100000 in
set_option maxHeartbeats 4000000 in
theorem vv_text {X : jX} (hs : X.1.stackTraces = false) {d : Nat} (hd : 40 ≤ d) (hXO : XO X) {o : Nat} {S0 S : StX} {w : List jC} (hI : LI o S0 S w) (p0 : Int32) {kc ks : Nat} (hkc : 40 ≤ kc) (hks : 1500 ≤ ks) : jMet X mX8_text d kc ks [.ref 19, .int p0] w (pS (fun w' => LI o S0 S w')) := by
  obtain ⟨t, hC, ⟨mv, rw, nx, b, bt, kn, en, hR, h1, h2, gm, gr, gx, hP, hK, hL, h24⟩, hO⟩ := hI
  have hb3 := hR.2.2.2.2.2.2
  refine uS0 (c_X8_text hs (d := d) (by omega) hXO hR h1 h2 gm gr gx p0 hkc hks) (fun w' h => ?_)
  obtain ⟨th', hR', hF⟩ := h
  exact ⟨_, (LIx.ref (S2 := S) hC hO h24 hb3 hF hR' h1 h2 gm gr gx hP hK hL).1⟩
set_option maxRecDepth 100000 in
set_option maxHeartbeats 4000000 in
theorem vv_rings {X : jX} (hs : X.1.stackTraces = false) {d : Nat} (hd : 40 ≤ d) (hXO : XO X) {o : Nat} {S0 S : StX} {w : List jC} (hI : LI o S0 S w) (p0 : Int32) {kc ks : Nat} (hkc : 40 ≤ kc) (hks : 1500 ≤ ks) : jMet X mX8_rings d kc ks [.ref 19, .int p0] w (pS (fun w' => LI o S0 S w')) := by
  obtain ⟨t, hC, ⟨mv, rw, nx, b, bt, kn, en, hR, h1, h2, gm, gr, gx, hP, hK, hL, h24⟩, hO⟩ := hI
  have hb3 := hR.2.2.2.2.2.2
  refine uS0 (c_X8_rings hs (d := d) (by omega) hXO hR h1 h2 gm gr gx p0 hP hkc hks) (fun w' h => ?_)
  obtain ⟨th', hR', hF⟩ := h
  exact ⟨_, (LIx.ref (S2 := S) hC hO h24 hb3 hF hR' h1 h2 gm gr gx hP hK hL).1⟩
set_option maxRecDepth 100000 in
set_option maxHeartbeats 4000000 in
theorem vv_ringText {X : jX} (hs : X.1.stackTraces = false) {d : Nat} (hd : 40 ≤ d) (hXO : XO X) {o : Nat} {S0 S : StX} {w : List jC} (hI : LI o S0 S w) (p0 : Int32) (p1 : Int32) {kc ks : Nat} (hkc : 40 ≤ kc) (hks : 1500 ≤ ks) : jMet X mX8_ringText d kc ks [.ref 19, .int p0, .int p1] w (pS (fun w' => LI o S0 S w')) := by
  obtain ⟨t, hC, ⟨mv, rw, nx, b, bt, kn, en, hR, h1, h2, gm, gr, gx, hP, hK, hL, h24⟩, hO⟩ := hI
  have hb3 := hR.2.2.2.2.2.2
  refine uS0 (c_X8_ringText hs (d := d) (by omega) hXO hR h1 h2 gm gr gx p0 p1 hP hkc hks) (fun w' h => ?_)
  obtain ⟨th', hR', hF⟩ := h
  exact ⟨_, (LIx.ref (S2 := S) hC hO h24 hb3 hF hR' h1 h2 gm gr gx hP hK hL).1⟩
set_option maxRecDepth 100000 in
set_option maxHeartbeats 4000000 in
theorem vv_order {X : jX} (hs : X.1.stackTraces = false) {d : Nat} (hd : 40 ≤ d) {o : Nat} {S0 S : StX} {w : List jC} (hI : LI o S0 S w) (p0 : Int32) {kc ks : Nat} : jMet X mX8_order d kc ks [.ref 19, .int p0] w (pJ (fun v w' => ∃ (k : Nat) (S2 : StX), AG (isN p0 6) (True) (Dorder S p0) S k v S2 ∧ LIx o S0 S2 (nI k) w' ∧ w'[o]? = w[o]?)) := by
  obtain ⟨t, hC, ⟨mv, rw, nx, b, bt, kn, en, hR, h1, h2, gm, gr, gx, hP, hK, hL, h24⟩, hO⟩ := hI
  have hb3 := hR.2.2.2.2.2.2
  refine jJ (c_X8_order_ate hs (d := d) (by omega) hR h1 h2 gm gr gx p0 hP) (fun v w' h => ?_)
  obtain ⟨th', hR', hF, hp2⟩ := h
  rcases hp2 with ⟨e, g⟩ | ⟨e, na, ea, ha, hv⟩
  · subst e
    exact ⟨1, S, Or.inl ⟨rfl, g, rfl⟩, LIx.ref (S2 := S) hC hO h24 hb3 hF hR' h1 h2 gm gr gx hP hK hL⟩
  · subst e
    have ev : v = nI (oC (S.2.2.2.2 na)) := hv.trans (congrArg nI (QO h2 hP hL ha).symm)
    exact ⟨0, S, Or.inr (Or.inr ⟨rfl, ⟨na, ha, ea⟩, trivial, ⟨na, ea, ha, ev, rfl⟩⟩), LIx.ref (S2 := S) hC hO h24 hb3 hF hR' h1 h2 gm gr gx hP hK hL⟩
set_option maxRecDepth 100000 in
set_option maxHeartbeats 4000000 in
theorem vv_sign {X : jX} (hs : X.1.stackTraces = false) {d : Nat} (hd : 40 ≤ d) {o : Nat} {S0 S : StX} {w : List jC} (hI : LI o S0 S w) (p0 : Int32) {kc ks : Nat} : jMet X mX8_sign d kc ks [.ref 19, .int p0] w (pJ (fun v w' => ∃ (k : Nat) (S2 : StX), AG (isN p0 6) (True) (Dsign S p0) S k v S2 ∧ LIx o S0 S2 (nI k) w' ∧ w'[o]? = w[o]?)) := by
  obtain ⟨t, hC, ⟨mv, rw, nx, b, bt, kn, en, hR, h1, h2, gm, gr, gx, hP, hK, hL, h24⟩, hO⟩ := hI
  have hb3 := hR.2.2.2.2.2.2
  refine jJ (c_X8_sign_ate hs (d := d) (by omega) hR h1 h2 gm gr gx p0) (fun v w' h => ?_)
  obtain ⟨th', hR', hF, hp2⟩ := h
  rcases hp2 with ⟨e, g⟩ | ⟨e, na, ea, ha, hv⟩
  · subst e
    exact ⟨1, S, Or.inl ⟨rfl, g, rfl⟩, LIx.ref (S2 := S) hC hO h24 hb3 hF hR' h1 h2 gm gr gx hP hK hL⟩
  · subst e
    have ev : v = sg S.1 (S.2.2.2.2 na) := hv.trans (QS h2 hP hL ha).symm
    exact ⟨0, S, Or.inr (Or.inr ⟨rfl, ⟨na, ha, ea⟩, trivial, ⟨na, ea, ha, ev, rfl⟩⟩), LIx.ref (S2 := S) hC hO h24 hb3 hF hR' h1 h2 gm gr gx hP hK hL⟩
set_option maxRecDepth 100000 in
set_option maxHeartbeats 4000000 in
theorem vv_stays {X : jX} (hs : X.1.stackTraces = false) {d : Nat} (hd : 40 ≤ d) {o : Nat} {S0 S : StX} {w : List jC} (hI : LI o S0 S w) (p0 : Int32) {kc ks : Nat} : jMet X mX8_stays d kc ks [.ref 19, .int p0] w (pJ (fun v w' => ∃ (k : Nat) (S2 : StX), AG (isN p0 6) (True) (Dstays S p0) S k v S2 ∧ LIx o S0 S2 (nI k) w' ∧ w'[o]? = w[o]?)) := by
  obtain ⟨t, hC, ⟨mv, rw, nx, b, bt, kn, en, hR, h1, h2, gm, gr, gx, hP, hK, hL, h24⟩, hO⟩ := hI
  have hb3 := hR.2.2.2.2.2.2
  refine jJ (c_X8_stays_ate hs (d := d) (by omega) hR h1 h2 gm gr gx p0) (fun v w' h => ?_)
  obtain ⟨th', hR', hF, hp2⟩ := h
  rcases hp2 with ⟨e, g⟩ | ⟨e, na, ea, ha, hv⟩
  · subst e
    exact ⟨1, S, Or.inl ⟨rfl, g, rfl⟩, LIx.ref (S2 := S) hC hO h24 hb3 hF hR' h1 h2 gm gr gx hP hK hL⟩
  · subst e
    have ev : v = nI (stF (d8 (S.2.2.2.2 na)) S.1) := hv.trans (congrArg nI (stF_congr S.1 (fun p hp => (RLx_d h2 hL hP ha hp).symm)))
    exact ⟨0, S, Or.inr (Or.inr ⟨rfl, ⟨na, ha, ea⟩, trivial, ⟨na, ea, ha, ev, rfl⟩⟩), LIx.ref (S2 := S) hC hO h24 hb3 hF hR' h1 h2 gm gr gx hP hK hL⟩
set_option maxRecDepth 100000 in
set_option maxHeartbeats 4000000 in
theorem vv_areAlike {X : jX} (hs : X.1.stackTraces = false) {d : Nat} (hd : 40 ≤ d) {o : Nat} {S0 S : StX} {w : List jC} (hI : LI o S0 S w) (p0 : Int32) (p1 : Int32) {kc ks : Nat} : jMet X mX8_areAlike d kc ks [.ref 19, .int p0, .int p1] w (pJ (fun v w' => ∃ (k : Nat) (S2 : StX), AG (isN p0 6 ∧ isN p1 6) (True) (DareAlike S p0 p1) S k v S2 ∧ LIx o S0 S2 (nI k) w' ∧ w'[o]? = w[o]?)) := by
  obtain ⟨t, hC, ⟨mv, rw, nx, b, bt, kn, en, hR, h1, h2, gm, gr, gx, hP, hK, hL, h24⟩, hO⟩ := hI
  have hb3 := hR.2.2.2.2.2.2
  refine jJ (c_X8_areAlike_ate hs (d := d) (by omega) hR h1 h2 gm gr gx p0 p1 hP) (fun v w' h => ?_)
  obtain ⟨th', hR', hF, hp2⟩ := h
  rcases hp2 with ⟨e, g⟩ | ⟨e, na, nb, ea, eb, ha, hb, hv⟩
  · subst e
    exact ⟨1, S, Or.inl ⟨rfl, g, rfl⟩, LIx.ref (S2 := S) hC hO h24 hb3 hF hR' h1 h2 gm gr gx hP hK hL⟩
  · subst e
    have ev : v = nI (on (LK (S.2.2.2.2 na) (S.2.2.2.2 nb))) := QA h2 hP hL ha hb hv
    exact ⟨0, S, Or.inr (Or.inr ⟨rfl, ⟨⟨na, ha, ea⟩, ⟨nb, hb, eb⟩⟩, trivial, ⟨na, nb, ea, eb, ha, hb, ev, rfl⟩⟩), LIx.ref (S2 := S) hC hO h24 hb3 hF hR' h1 h2 gm gr gx hP hK hL⟩
set_option maxRecDepth 100000 in
set_option maxHeartbeats 4000000 in
theorem vv_commute {X : jX} (hs : X.1.stackTraces = false) {d : Nat} (hd : 40 ≤ d) {o : Nat} {S0 S : StX} {w : List jC} (hI : LI o S0 S w) (p0 : Int32) (p1 : Int32) {kc ks : Nat} : jMet X mX8_commute d kc ks [.ref 19, .int p0, .int p1] w (pJ (fun v w' => ∃ (k : Nat) (S2 : StX), AG (isN p0 6 ∧ isN p1 6) (True) (Dcommute S p0 p1) S k v S2 ∧ LIx o S0 S2 (nI k) w' ∧ w'[o]? = w[o]?)) := by
  obtain ⟨t, hC, ⟨mv, rw, nx, b, bt, kn, en, hR, h1, h2, gm, gr, gx, hP, hK, hL, h24⟩, hO⟩ := hI
  have hb3 := hR.2.2.2.2.2.2
  refine jJ (c_X8_commute_ate hs (d := d) (by omega) hR h1 h2 gm gr gx p0 p1) (fun v w' h => ?_)
  obtain ⟨th', hR', hF, hp2⟩ := h
  rcases hp2 with ⟨e, g⟩ | ⟨e, na, nb, ea, eb, ha, hb, hv⟩
  · subst e
    exact ⟨1, S, Or.inl ⟨rfl, g, rfl⟩, LIx.ref (S2 := S) hC hO h24 hb3 hF hR' h1 h2 gm gr gx hP hK hL⟩
  · subst e
    have ev : v = (if c7 (S.2.2.2.2 na) (S.2.2.2.2 nb) = c7 (S.2.2.2.2 nb) (S.2.2.2.2 na) then nI 1 else nI 0) := QC h2 hP hL ha hb hv
    exact ⟨0, S, Or.inr (Or.inr ⟨rfl, ⟨⟨na, ha, ea⟩, ⟨nb, hb, eb⟩⟩, trivial, ⟨na, nb, ea, eb, ha, hb, ev, rfl⟩⟩), LIx.ref (S2 := S) hC hO h24 hb3 hF hR' h1 h2 gm gr gx hP hK hL⟩
set_option maxRecDepth 100000 in
set_option maxHeartbeats 4000000 in
theorem vv_size {X : jX} (hs : X.1.stackTraces = false) {d : Nat} (hd : 40 ≤ d) {o : Nat} {S0 S : StX} {w : List jC} (hI : LI o S0 S w) (p0 : Int32) (p1 : Int32) {kc ks : Nat} (hkc : 13 ≤ kc) (hks : 2054 ≤ ks) : jMet X mX8_size d kc ks [.ref 19, .int p0, .int p1] w (pI (fun _ => True) (LI o S0 S)) := by
  obtain ⟨t, hC, ⟨mv, rw, nx, b, bt, kn, en, hR, h1, h2, gm, gr, gx, hP, hK, hL, h24⟩, hO⟩ := hI
  have hb3 := hR.2.2.2.2.2.2
  refine uI0 (c_X8_size hs (d := d) (by omega) hR h1 h2 gm gr gx p0 p1 hP hK hkc hks) (fun w' h => ?_)
  obtain ⟨rw', nx', b', bt', kn', en', th', hR', hF, gr', gx', hp0⟩ := h
  exact ⟨_, (LIx.ref (S2 := S) hC hO h24 hb3 hF hR' h1 h2 gm gr' gx' hP hp0 hL).1⟩
set_option maxRecDepth 100000 in
set_option maxHeartbeats 4000000 in
theorem vv_reach {X : jX} (hs : X.1.stackTraces = false) {d : Nat} (hd : 40 ≤ d) {o : Nat} {S0 S : StX} {w : List jC} (hI : LI o S0 S w) (p0 : Int32) (p1 : Int32) (p2 : Int32) {kc ks : Nat} (hkc : 13 ≤ kc) (hks : 2054 ≤ ks) : jMet X mX8_reach d kc ks [.ref 19, .int p0, .int p1, .int p2] w (pI (fun _ => True) (LI o S0 S)) := by
  obtain ⟨t, hC, ⟨mv, rw, nx, b, bt, kn, en, hR, h1, h2, gm, gr, gx, hP, hK, hL, h24⟩, hO⟩ := hI
  have hb3 := hR.2.2.2.2.2.2
  refine uI0 (c_X8_reach hs (d := d) (by omega) hR h1 h2 gm gr gx p0 p1 p2 hP hK hkc hks) (fun w' h => ?_)
  obtain ⟨rw', nx', b', bt', kn', en', th', hR', hF, gr', gx', hp0⟩ := h
  exact ⟨_, (LIx.ref (S2 := S) hC hO h24 hb3 hF hR' h1 h2 gm gr' gx' hP hp0 hL).1⟩
set_option maxRecDepth 100000 in
set_option maxHeartbeats 4000000 in
theorem vv_isIn {X : jX} (hs : X.1.stackTraces = false) {d : Nat} (hd : 40 ≤ d) {o : Nat} {S0 S : StX} {w : List jC} (hI : LI o S0 S w) (p0 : Int32) (p1 : Int32) (p2 : Int32) {kc ks : Nat} (hkc : 13 ≤ kc) (hks : 2054 ≤ ks) : jMet X mX8_isIn d kc ks [.ref 19, .int p0, .int p1, .int p2] w (pI (fun _ => True) (LI o S0 S)) := by
  obtain ⟨t, hC, ⟨mv, rw, nx, b, bt, kn, en, hR, h1, h2, gm, gr, gx, hP, hK, hL, h24⟩, hO⟩ := hI
  have hb3 := hR.2.2.2.2.2.2
  refine uI0 (c_X8_isIn hs (d := d) (by omega) hR h1 h2 gm gr gx p0 p1 p2 hP hK hkc hks) (fun w' h => ?_)
  obtain ⟨rw', nx', b', bt', kn', en', th', hR', hF, gr', gx', hp0⟩ := h
  exact ⟨_, (LIx.ref (S2 := S) hC hO h24 hb3 hF hR' h1 h2 gm gr' gx' hP hp0 hL).1⟩
set_option maxRecDepth 100000 in
set_option maxHeartbeats 4000000 in
theorem vv_rank {X : jX} (hs : X.1.stackTraces = false) {d : Nat} (hd : 40 ≤ d) {o : Nat} {S0 S : StX} {w : List jC} (hI : LI o S0 S w) (p0 : Int32) (p1 : Int32) (p2 : Int32) {kc ks : Nat} (hkc : 13 ≤ kc) (hks : 2054 ≤ ks) : jMet X mX8_rank d kc ks [.ref 19, .int p0, .int p1, .int p2] w (pI (fun _ => True) (LI o S0 S)) := by
  obtain ⟨t, hC, ⟨mv, rw, nx, b, bt, kn, en, hR, h1, h2, gm, gr, gx, hP, hK, hL, h24⟩, hO⟩ := hI
  have hb3 := hR.2.2.2.2.2.2
  refine uI0 (c_X8_rank hs (d := d) (by omega) hR h1 h2 gm gr gx p0 p1 p2 hP hK hkc hks) (fun w' h => ?_)
  obtain ⟨rw', nx', b', bt', kn', en', th', hR', hF, gr', gx', hp0⟩ := h
  exact ⟨_, (LIx.ref (S2 := S) hC hO h24 hb3 hF hR' h1 h2 gm gr' gx' hP hp0 hL).1⟩
set_option maxRecDepth 100000 in
set_option maxHeartbeats 4000000 in
theorem vv_list {X : jX} (hs : X.1.stackTraces = false) {d : Nat} (hd : 40 ≤ d) (hXO : XO X) {o : Nat} {S0 S : StX} {w : List jC} (hI : LI o S0 S w) (p0 : Int32) (p1 : Int32) {kc ks : Nat} (hkc : 55 ≤ kc) (hks : 3600 ≤ ks) : jMet X mX8_list d kc ks [.ref 19, .int p0, .int p1] w (pS (fun w' => LI o S0 S w')) := by
  obtain ⟨t, hC, ⟨mv, rw, nx, b, bt, kn, en, hR, h1, h2, gm, gr, gx, hP, hK, hL, h24⟩, hO⟩ := hI
  have hb3 := hR.2.2.2.2.2.2
  refine uS0 (c_X8_list hs (d := d) (by omega) hXO hR h1 h2 gm gr gx p0 p1 hP hK hkc hks) (fun w' h => ?_)
  obtain ⟨rw', nx', b', bt', kn', en', th', hR', hF, gr', gx', hK'⟩ := h
  exact ⟨_, (LIx.ref (S2 := S) hC hO h24 hb3 hF hR' h1 h2 gm gr' gx' hP hK' hL).1⟩
set_option maxRecDepth 100000 in
set_option maxHeartbeats 4000000 in
theorem vv_comes {X : jX} (hs : X.1.stackTraces = false) {d : Nat} (hd : 40 ≤ d) {o : Nat} {S0 S : StX} {w : List jC} (hI : LI o S0 S w) (p0 : Int32) (p1 : Int32) {kc ks : Nat} : jMet X mX8_comes d kc ks [.ref 19, .int p0, .int p1] w (pI (fun _ => True) (LI o S0 S)) := by
  obtain ⟨t, hC, ⟨mv, rw, nx, b, bt, kn, en, hR, h1, h2, gm, gr, gx, hP, hK, hL, h24⟩, hO⟩ := hI
  have hb3 := hR.2.2.2.2.2.2
  refine uI0 (c_X8_comes hs (d := d) (by omega) hR h1 h2 gm gr gx p0 p1) (fun w' h => ?_)
  obtain ⟨th', hR', hF⟩ := h
  exact ⟨_, (LIx.ref (S2 := S) hC hO h24 hb3 hF hR' h1 h2 gm gr gx hP hK hL).1⟩
set_option maxRecDepth 100000 in
set_option maxHeartbeats 4000000 in
theorem vv_pieces {X : jX} (hs : X.1.stackTraces = false) {d : Nat} (hd : 40 ≤ d) {o : Nat} {S0 S : StX} {w : List jC} (hI : LI o S0 S w) (p0 : Int32) {kc ks : Nat} : jMet X mX8_pieces d kc ks [.ref 19, .int p0] w (pI (fun _ => True) (LI o S0 S)) := by
  obtain ⟨t, hC, ⟨mv, rw, nx, b, bt, kn, en, hR, h1, h2, gm, gr, gx, hP, hK, hL, h24⟩, hO⟩ := hI
  have hb3 := hR.2.2.2.2.2.2
  refine uI0 (c_X8_pieces hs (d := d) (by omega) hR h1 h2 gm gr gx p0) (fun w' h => ?_)
  obtain ⟨th', hR', hF⟩ := h
  exact ⟨_, (LIx.ref (S2 := S) hC hO h24 hb3 hF hR' h1 h2 gm gr gx hP hK hL).1⟩
set_option maxRecDepth 100000 in
set_option maxHeartbeats 4000000 in
theorem vv_withOrder {X : jX} (hs : X.1.stackTraces = false) {d : Nat} (hd : 40 ≤ d) {o : Nat} {S0 S : StX} {w : List jC} (hI : LI o S0 S w) (p0 : Int32) (p1 : Int32) {kc ks : Nat} (hkc : 13 ≤ kc) (hks : 2054 ≤ ks) : jMet X mX8_withOrder d kc ks [.ref 19, .int p0, .int p1] w (pI (fun _ => True) (LI o S0 S)) := by
  obtain ⟨t, hC, ⟨mv, rw, nx, b, bt, kn, en, hR, h1, h2, gm, gr, gx, hP, hK, hL, h24⟩, hO⟩ := hI
  have hb3 := hR.2.2.2.2.2.2
  refine uI0 (c_X8_withOrder hs (d := d) (by omega) hR h1 h2 gm gr gx p0 p1 hP hK hkc hks) (fun w' h => ?_)
  obtain ⟨rw', nx', b', bt', kn', en', th', hR', hF, gr', gx', hp0⟩ := h
  exact ⟨_, (LIx.ref (S2 := S) hC hO h24 hb3 hF hR' h1 h2 gm gr' gx' hP hp0 hL).1⟩
set_option maxRecDepth 100000 in
set_option maxHeartbeats 4000000 in
theorem vv_even {X : jX} (hs : X.1.stackTraces = false) {d : Nat} (hd : 40 ≤ d) {o : Nat} {S0 S : StX} {w : List jC} (hI : LI o S0 S w) (p0 : Int32) {kc ks : Nat} (hkc : 13 ≤ kc) (hks : 2054 ≤ ks) : jMet X mX8_even d kc ks [.ref 19, .int p0] w (pI (fun _ => True) (LI o S0 S)) := by
  obtain ⟨t, hC, ⟨mv, rw, nx, b, bt, kn, en, hR, h1, h2, gm, gr, gx, hP, hK, hL, h24⟩, hO⟩ := hI
  have hb3 := hR.2.2.2.2.2.2
  refine uI0 (c_X8_even hs (d := d) (by omega) hR h1 h2 gm gr gx p0 hP hK hkc hks) (fun w' h => ?_)
  obtain ⟨rw', nx', b', bt', kn', en', th', hR', hF, gr', gx', hp0⟩ := h
  exact ⟨_, (LIx.ref (S2 := S) hC hO h24 hb3 hF hR' h1 h2 gm gr' gx' hP hp0 hL).1⟩
set_option maxRecDepth 100000 in
set_option maxHeartbeats 4000000 in
theorem vv_colourings {X : jX} (hs : X.1.stackTraces = false) {d : Nat} (hd : 40 ≤ d) {o : Nat} {S0 S : StX} {w : List jC} (hI : LI o S0 S w) (p0 : Int32) (p1 : Int32) (p2 : Int32) {kc ks : Nat} (hkc : 15 ≤ kc) (hks : 6428 ≤ ks) : jMet X mX8_colourings d kc ks [.ref 19, .int p0, .int p1, .int p2] w (pI (fun _ => True) (LI o S0 S)) := by
  obtain ⟨t, hC, ⟨mv, rw, nx, b, bt, kn, en, hR, h1, h2, gm, gr, gx, hP, hK, hL, h24⟩, hO⟩ := hI
  have hb3 := hR.2.2.2.2.2.2
  refine uI0 (c_X8_colourings hs (d := d) (by omega) hR h1 h2 gm gr gx p0 p1 p2 hP hK hkc hks) (fun w' h => ?_)
  obtain ⟨rw', nx', b', bt', kn', en', th', hR', hF, gr', gx', hp0⟩ := h
  exact ⟨_, (LIx.ref (S2 := S) hC hO h24 hb3 hF hR' h1 h2 gm gr' gx' hP hp0 hL).1⟩
set_option maxRecDepth 100000 in
set_option maxHeartbeats 4000000 in
theorem vv_isPart {X : jX} (hs : X.1.stackTraces = false) {d : Nat} (hd : 40 ≤ d) {o : Nat} {S0 S : StX} {w : List jC} (hI : LI o S0 S w) (p0 : Int32) (p1 : Int32) {kc ks : Nat} (hkc : 78 ≤ kc) (hks : 12324 ≤ ks) : jMet X mX8_isPart d kc ks [.ref 19, .int p0, .int p1] w (pI (fun _ => True) (LI o S0 S)) := by
  obtain ⟨t, hC, ⟨mv, rw, nx, b, bt, kn, en, hR, h1, h2, gm, gr, gx, hP, hK, hL, h24⟩, hO⟩ := hI
  have hb3 := hR.2.2.2.2.2.2
  refine uI0 (c_X8_isPart hs (d := d) (by omega) hR h1 h2 gm gr gx p0 p1 hP hK hkc hks) (fun w' h => ?_)
  obtain ⟨rw', nx', b', bt', kn', en', th', hR', hF, gr', gx', hp0⟩ := h
  exact ⟨_, (LIx.ref (S2 := S) hC hO h24 hb3 hF hR' h1 h2 gm gr' gx' hP hp0 hL).1⟩
set_option maxRecDepth 100000 in
set_option maxHeartbeats 4000000 in
theorem vv_shares {X : jX} (hs : X.1.stackTraces = false) {d : Nat} (hd : 40 ≤ d) {o : Nat} {S0 S : StX} {w : List jC} (hI : LI o S0 S w) (p0 : Int32) (p1 : Int32) {kc ks : Nat} (hkc : 104 ≤ kc) (hks : 16432 ≤ ks) : jMet X mX8_shares d kc ks [.ref 19, .int p0, .int p1] w (pI (fun _ => True) (LI o S0 S)) := by
  obtain ⟨t, hC, ⟨mv, rw, nx, b, bt, kn, en, hR, h1, h2, gm, gr, gx, hP, hK, hL, h24⟩, hO⟩ := hI
  have hb3 := hR.2.2.2.2.2.2
  refine uI0 (c_X8_shares hs (d := d) (by omega) hR h1 h2 gm gr gx p0 p1 hP hK hkc hks) (fun w' h => ?_)
  obtain ⟨rw', nx', b', bt', kn', en', th', hR', hF, gr', gx', hp0⟩ := h
  exact ⟨_, (LIx.ref (S2 := S) hC hO h24 hb3 hF hR' h1 h2 gm gr' gx' hP hp0 hL).1⟩
set_option maxRecDepth 100000 in
set_option maxHeartbeats 4000000 in
theorem vv_share {X : jX} (hs : X.1.stackTraces = false) {d : Nat} (hd : 40 ≤ d) {o : Nat} {S0 S : StX} {w : List jC} (hI : LI o S0 S w) (p0 : Int32) (p1 : Int32) {kc ks : Nat} (hkc : 13 ≤ kc) (hks : 2054 ≤ ks) : jMet X mX8_share d kc ks [.ref 19, .int p0, .int p1] w (pI (fun _ => True) (LI o S0 S)) := by
  obtain ⟨t, hC, ⟨mv, rw, nx, b, bt, kn, en, hR, h1, h2, gm, gr, gx, hP, hK, hL, h24⟩, hO⟩ := hI
  have hb3 := hR.2.2.2.2.2.2
  refine uI0 (c_X8_share hs (d := d) (by omega) hR h1 h2 gm gr gx p0 p1 hP hK hkc hks) (fun w' h => ?_)
  obtain ⟨rw', nx', b', bt', kn', en', th', hR', hF, gr', gx', hp0⟩ := h
  exact ⟨_, (LIx.ref (S2 := S) hC hO h24 hb3 hF hR' h1 h2 gm gr' gx' hP hp0 hL).1⟩
set_option maxRecDepth 100000 in
set_option maxHeartbeats 4000000 in
theorem vv_together {X : jX} (hs : X.1.stackTraces = false) {d : Nat} (hd : 40 ≤ d) {o : Nat} {S0 S : StX} {w : List jC} (hI : LI o S0 S w) (p0 : Int32) (p1 : Int32) (p2 : Int32) {kc ks : Nat} : jMet X mX8_together d kc ks [.ref 19, .int p0, .int p1, .int p2] w (pI (fun _ => True) (LI o S0 S)) := by
  obtain ⟨t, hC, ⟨mv, rw, nx, b, bt, kn, en, hR, h1, h2, gm, gr, gx, hP, hK, hL, h24⟩, hO⟩ := hI
  have hb3 := hR.2.2.2.2.2.2
  refine uI0 (c_X8_together hs (d := d) (by omega) hR h1 h2 gm gr gx p0 p1 p2 hP) (fun w' h => ?_)
  obtain ⟨rw', th', hR', hF, gr'⟩ := h
  exact ⟨_, (LIx.ref (S2 := S) hC hO h24 hb3 hF hR' h1 h2 gm gr' gx hP hK hL).1⟩
set_option maxRecDepth 100000 in
set_option maxHeartbeats 4000000 in
theorem vv_blocks {X : jX} (hs : X.1.stackTraces = false) {d : Nat} (hd : 40 ≤ d) {o : Nat} {S0 S : StX} {w : List jC} (hI : LI o S0 S w) (p0 : Int32) (p1 : Int32) (p2 : Int32) {kc ks : Nat} : jMet X mX8_blocks d kc ks [.ref 19, .int p0, .int p1, .int p2] w (pI (fun _ => True) (LI o S0 S)) := by
  obtain ⟨t, hC, ⟨mv, rw, nx, b, bt, kn, en, hR, h1, h2, gm, gr, gx, hP, hK, hL, h24⟩, hO⟩ := hI
  have hb3 := hR.2.2.2.2.2.2
  refine uI0 (c_X8_blocks hs (d := d) (by omega) hR h1 h2 gm gr gx p0 p1 p2 hP) (fun w' h => ?_)
  obtain ⟨rw', th', hR', hF, gr'⟩ := h
  exact ⟨_, (LIx.ref (S2 := S) hC hO h24 hb3 hF hR' h1 h2 gm gr' gx hP hK hL).1⟩
set_option maxRecDepth 100000 in
set_option maxHeartbeats 4000000 in
theorem vv_isTwofold {X : jX} (hs : X.1.stackTraces = false) {d : Nat} (hd : 40 ≤ d) {o : Nat} {S0 S : StX} {w : List jC} (hI : LI o S0 S w) (p0 : Int32) {kc ks : Nat} (hkc : 1 ≤ kc) (hks : 49 ≤ ks) : jMet X mX8_isTwofold d kc ks [.ref 19, .int p0] w (pI (fun _ => True) (LI o S0 S)) := by
  obtain ⟨t, hC, ⟨mv, rw, nx, b, bt, kn, en, hR, h1, h2, gm, gr, gx, hP, hK, hL, h24⟩, hO⟩ := hI
  have hb3 := hR.2.2.2.2.2.2
  refine uI0 (c_X8_isTwofold hs (d := d) (by omega) hR h1 h2 gm gr gx p0 hkc hks) (fun w' h => ?_)
  obtain ⟨th', hR', hF⟩ := h
  exact ⟨_, (LIx.ref (S2 := S) hC hO h24 hb3 hF hR' h1 h2 gm gr gx hP hK hL).1⟩
set_option maxRecDepth 100000 in
set_option maxHeartbeats 4000000 in
theorem vv_enough {X : jX} (hs : X.1.stackTraces = false) {d : Nat} (hd : 40 ≤ d) {o : Nat} {S0 S : StX} {w : List jC} (hI : LI o S0 S w) (p0 : Int32) {kc ks : Nat} (hkc : 13 ≤ kc) (hks : 2054 ≤ ks) : jMet X mX8_enough d kc ks [.ref 19, .int p0] w (pI (fun _ => True) (LI o S0 S)) := by
  obtain ⟨t, hC, ⟨mv, rw, nx, b, bt, kn, en, hR, h1, h2, gm, gr, gx, hP, hK, hL, h24⟩, hO⟩ := hI
  have hb3 := hR.2.2.2.2.2.2
  refine uI0 (c_X8_enough hs (d := d) (by omega) hR h1 h2 gm gr gx p0 hP hK hkc hks) (fun w' h => ?_)
  obtain ⟨rw', nx', b', bt', kn', en', th', hR', hF, gr', gx', hp0⟩ := h
  exact ⟨_, (LIx.ref (S2 := S) hC hO h24 hb3 hF hR' h1 h2 gm gr' gx' hP hp0 hL).1⟩
set_option maxRecDepth 100000 in
set_option maxHeartbeats 4000000 in
theorem vv_house {X : jX} (hs : X.1.stackTraces = false) {d : Nat} (hd : 40 ≤ d) {o : Nat} {S0 S : StX} {w : List jC} (hI : LI o S0 S w) (p0 : Int32) {kc ks : Nat} : jMet X mX8_house d kc ks [.ref 19, .int p0] w (pJ (fun v w' => ∃ (k : Nat) (S2 : StX), AG (isN p0 3) (True) (Dhouse S p0) S k v S2 ∧ LIx o S0 S2 (nI k) w' ∧ w'[o]? = w[o]?)) := by
  obtain ⟨t, hC, ⟨mv, rw, nx, b, bt, kn, en, hR, h1, h2, gm, gr, gx, hP, hK, hL, h24⟩, hO⟩ := hI
  have hb3 := hR.2.2.2.2.2.2
  refine jJ (c_X8_house_ate hs (d := d) (by omega) hR h1 h2 gm gr gx p0) (fun v w' h => ?_)
  obtain ⟨th', hR', hF, hp2⟩ := h
  rcases hp2 with ⟨e, g⟩ | ⟨e, ⟨na, ha, ea⟩, hv⟩
  · subst e
    exact ⟨1, S, Or.inl ⟨rfl, g, rfl⟩, LIx.ref (S2 := S) hC hO h24 hb3 hF hR' h1 h2 gm gr gx hP hK hL⟩
  · subst e
    have ev : v = (if na = 0 then S.2.1 else if na = 1 then S.2.2.1 else S.2.2.2.1) := by rw [hv, ea]; exact hs_v ha
    exact ⟨0, S, Or.inr (Or.inr ⟨rfl, ⟨na, ha, ea⟩, trivial, ⟨na, ea, ha, ev, rfl⟩⟩), LIx.ref (S2 := S) hC hO h24 hb3 hF hR' h1 h2 gm gr gx hP hK hL⟩
set_option maxRecDepth 100000 in
set_option maxHeartbeats 4000000 in
theorem vv_knock {X : jX} (hs : X.1.stackTraces = false) {d : Nat} (hd : 40 ≤ d) {o : Nat} {S0 S : StX} {w : List jC} (hI : LI o S0 S w) {kc ks : Nat} : jMet X mX8_knock d kc ks [.ref 19] w (pI (fun _ => True) (LI o S0 (KS S))) := by
  obtain ⟨t, hC, ⟨mv, rw, nx, b, bt, kn, en, hR, h1, h2, gm, gr, gx, hP, hK, hL, h24⟩, hO⟩ := hI
  have hb3 := hR.2.2.2.2.2.2
  refine uI0 (c_X8_knock hs (d := d) (by omega) hR h1 h2 gm gr gx) (fun w' h => ?_)
  obtain ⟨hR', hF⟩ := h
  exact ⟨_, (LIx.ref (S2 := (KS S)) hC hO h24 hb3 hF hR' h1 h2 gm gr gx hP hK hL).1⟩
set_option maxRecDepth 100000 in
set_option maxHeartbeats 4000000 in
theorem vv_isSound {X : jX} (hs : X.1.stackTraces = false) {d : Nat} (hd : 40 ≤ d) {o : Nat} {S0 S : StX} {w : List jC} (hI : LI o S0 S w) {kc ks : Nat} (hkc : 15 ≤ kc) (hks : 6428 ≤ ks) : jMet X mX8_isSound d kc ks [.ref 19] w (pI (fun _ => True) (LI o S0 S)) := by
  obtain ⟨t, hC, ⟨mv, rw, nx, b, bt, kn, en, hR, h1, h2, gm, gr, gx, hP, hK, hL, h24⟩, hO⟩ := hI
  have hb3 := hR.2.2.2.2.2.2
  refine uI0 (c_X8_isSound hs (d := d) (by omega) hR h1 h2 gm gr gx hP hK hkc hks) (fun w' h => ?_)
  obtain ⟨rw', nx', b', bt', kn', en', th', hR', hF, gr', gx', hp0⟩ := h
  exact ⟨_, (LIx.ref (S2 := S) hC hO h24 hb3 hF hR' h1 h2 gm gr' gx' hP hp0 hL).1⟩
set_option maxRecDepth 100000 in
set_option maxHeartbeats 4000000 in
theorem vv_digest {X : jX} (hs : X.1.stackTraces = false) {d : Nat} (hd : 40 ≤ d) (hXO : XO X) {o : Nat} {S0 S : StX} {w : List jC} (hI : LI o S0 S w) {kc ks : Nat} (hkc : 330 ≤ kc) (hks : 26000 ≤ ks) : jMet X mX8_digest d kc ks [.ref 19] w (pL (fun _ => True) (LI o S0 S)) := by
  obtain ⟨t, hC, ⟨mv, rw, nx, b, bt, kn, en, hR, h1, h2, gm, gr, gx, hP, hK, hL, h24⟩, hO⟩ := hI
  have hb3 := hR.2.2.2.2.2.2
  refine uL0 (c_X8_digest hs (d := d) (by omega) hXO hR h1 h2 gm gr gx hP hK hkc hks) (fun w' h => ?_)
  obtain ⟨rw', nx', b', bt', kn', en', th', hR', hF, gr', gx', hp0⟩ := h
  exact ⟨_, (LIx.ref (S2 := S) hC hO h24 hb3 hF hR' h1 h2 gm gr' gx' hP hp0 hL).1⟩
end
