/-! rules that read and write cells -/
section JHEAP
variable {X : jX} {M : jM} {d kc ks pc : Nat} {L : List (Option Value)} {st : List Value} {w : List jC} {Q : jQ}
theorem jA_new {X : jX} {s : State} (h : X.2.1 ≤ s.heap.size) : ∀ q, s.heap.size ≤ q → jA X q := fun q hq => Nat.le_trans h hq
/-- a cell of the world, as the kit's one-cell picture -/
theorem jH_at {X : jX} {w : List jC} {H : Heap} (h : jH X w H) {i : Nat} {c : jC} (hi : w[i]? = some c) (hc : ∀ fs, c ≠ .inr (99, fs)) : va_P X.2.2.2.1 vwCl [(X.2.1 + i, jE X c)] H := by
  intro k q hq
  have hz : k < 1 := (List.getElem?_eq_some_iff.mp hq).1
  rw [show k = 0 by omega] at hq
  cases hq
  exact h.2 i c hi hc
theorem jH_set {X : jX} {w : List jC} {H H1 : Heap} {i : Nat} {c0 c : jC} (h : jH X w H) (hi : w[i]? = some c0) (hz : H1.size = H.size) (ho : ∀ q, q ≠ X.2.1 + i → H1[q]? = H[q]?) (hc : va_at X.2.2.2.1 vwCl (X.2.1 + i, jE X c) H1) : jH X (w.set i c) H1 := by
  refine ⟨by rw [hz, h.1, List.length_set], fun j c2 hj hn => ?_⟩
  by_cases hji : j = i
  · subst hji
    rw [List.getElem?_set_self (List.getElem?_eq_some_iff.mp hi).1] at hj
    cases hj
    exact hc
  · rw [List.getElem?_set_ne (fun e => hji e.symm)] at hj
    exact (h.2 j c2 hj hn).kept (ho _ (by show X.2.1 + j ≠ X.2.1 + i; omega))
theorem jH_push {X : jX} {w : List jC} {H H1 : Heap} {c : jC} (h : jH X w H) (hz : H1.size = H.size + 1) (ho : ∀ q, q < H.size → H1[q]? = H[q]?) (hc : (∀ fs, c ≠ .inr (99, fs)) → va_at X.2.2.2.1 vwCl (X.2.1 + w.length, jE X c) H1) : jH X (w ++ [c]) H1 := by
  refine ⟨by rw [hz, h.1, List.length_append, List.length_singleton]; omega, fun j c2 hj hn => ?_⟩
  by_cases hjl : j < w.length
  · rw [List.getElem?_append_left hjl] at hj
    exact (h.2 j c2 hj hn).kept (ho _ (by rw [h.1]; show X.2.1 + j < _; omega))
  · rw [List.getElem?_append_right (by omega)] at hj
    have hz1 : j - w.length < 1 := (List.getElem?_eq_some_iff.mp hj).1
    have e : j = w.length := by omega
    subst e
    rw [Nat.sub_self] at hj
    cases hj
    exact hc hn
theorem jH_lt {X : jX} {w : List jC} {H : Heap} (h : jH X w H) {i : Nat} {c : jC} (hi : w[i]? = some c) : X.2.1 + i < H.size := by
  have := (List.getElem?_eq_some_iff.mp hi).1
  rw [h.1]; omega
/-- a class of ours: its number, name, fields -/
def jCl (ci : Nat) (C : String) (T : u_T) (N : Nat) (ty : Nat → FieldType) : Prop :=
  vwCl[ci]? = some (C, T, N) ∧ (∀ w ∈ u_ws C T N, w ∈ jK) ∧ (∀ k, k < N → parseFieldDescriptor (T k).2.2.1 = some (ty k)) ∧ (∀ a, a < N → ∀ b, b < N → a ≠ b → (T a).2.1 ≠ (T b).2.1) ∧ ci < 99
theorem J_get {ci : Nat} {C : String} {T : u_T} {N : Nat} {ty : Nat → FieldType} {index k a : Nat} {fs : List Value} {v : Value} (hdg : decode M.2.1 pc = .ok (.getfield index, 3)) (hC : jCl ci C T N ty) (hk : k < N) (hl : Cond.fieldLink M.1.cls index (T k).1 (T k).2.1 (T k).2.2.1 ∈ jK)
    (hw : w[a]? = some (.inr (ci, fs))) (hv : fs[k]? = some v) (kk : J X M d kc ks (pc + 3) L (v :: st) w Q) : J X M d kc ks pc L (.ref a :: st) w Q := by
  intro p e R s m args below meth c C9 H locs cells slots ls hH hS hL h1 h2
  have hA := C9.2.2.2.2.2.2.2.2.1
  have hP := jH_at hH hw (fun fs' e => by have := hC.2.2.2.2; cases e; exact absurd this (Nat.lt_irrefl 99))
  exact va_get (Ts := jK) C9.1 C9.2.1 (fun w9 hw9 => hA.word hw9 args) hC.2.1 C9.2.2.2.1 hA.2.1 hP 0 (fs := fs.map (jT X)) rfl hC.1 k hk (hA.word hl args) (fun _ h => h) (v := jT X v) (by rw [List.getElem?_map, hv]; rfl) hdg (kk p e R s m args below meth c C9 H locs cells slots ls hH hS hL h1 h2)
theorem J_getN {ci : Nat} {C host : String} {T : u_T} {N : Nat} {ty : Nat → FieldType} {index k a : Nat} {fs : List Value} {v : Value} (hdg : decode M.2.1 pc = .ok (.getfield index, 3)) (hC : jCl ci C T N ty) (hk : k < N) (hl : Cond.fieldLinkNest M.1.cls index (T k).1 (T k).2.1 (T k).2.2.1 host ∈ jK)
    (hw : w[a]? = some (.inr (ci, fs))) (hv : fs[k]? = some v) (kk : J X M d kc ks (pc + 3) L (v :: st) w Q) : J X M d kc ks pc L (.ref a :: st) w Q := by
  intro p e R s m args below meth c C9 H locs cells slots ls hH hS hL h1 h2
  have hA := C9.2.2.2.2.2.2.2.2.1
  have hP := jH_at hH hw (fun fs' e => by have := hC.2.2.2.2; cases e; exact absurd this (Nat.lt_irrefl 99))
  exact va_getN (Ts := jK) C9.1 C9.2.1 (fun w9 hw9 => hA.word hw9 args) hC.2.1 C9.2.2.2.1 hA.2.1 hP 0 (fs := fs.map (jT X)) rfl hC.1 k hk (hA.word hl args) (fun _ h => h) (v := jT X v) (by rw [List.getElem?_map, hv]; rfl) hdg (kk p e R s m args below meth c C9 H locs cells slots ls hH hS hL h1 h2)
theorem jS_put {A : Nat → Prop} {H0 H H1 : Heap} {locs : List Loc} {a k : Nat} (h : va_S A H0 H locs) (z : H1.size = H.size) (oq : ∀ q : Nat, q ≠ a → H1[q]? = H[q]?) (ha : A a) : va_S A H0 H1 (locs ++ [⟨a, k⟩]) := h.put z oq ha
theorem jV_set {X : jX} {fs : List Value} {k : Nat} {v : Value} (hl : k < fs.length) (j : Nat) : updV (vp_V (fs.map (jT X))) k (jT X v) j = vp_V ((fs.set k v).map (jT X)) j := by
  rw [List.map_set]
  exact vp_updV_set (by rw [List.length_map]; exact hl) (jT X v) j
/-- a value that a field of that type takes as it is -/
def jFit (ty : FieldType) (v : Value) : Prop := match v with
  | .int x => narrow ty (.int x) = .int x ∧ fits ty (.int x) = true
  | .long _ => ty = .long
  | .null => ty.isReference = true
  | .ref _ => ty.isReference = true
  | .retAddr _ => ty.isReference = true
  | _ => False
theorem jFit_spec {X : jX} {ty : FieldType} {v : Value} (h : jFit ty v) : narrow ty (jT X v) = jT X v ∧ fits ty (jT X v) = true := by
  cases v with
  | int x => exact h
  | long x => cases h; exact ⟨rfl, rfl⟩
  | null => cases ty <;> first | exact ⟨rfl, rfl⟩ | exact absurd h Bool.false_ne_true
  | ref i => cases ty <;> first | exact ⟨rfl, rfl⟩ | exact absurd h Bool.false_ne_true
  | retAddr i => cases ty <;> first | exact ⟨rfl, rfl⟩ | exact absurd h Bool.false_ne_true
  | float x => exact absurd h id
  | double x => exact absurd h id
theorem J_put {ci : Nat} {C : String} {T : u_T} {N : Nat} {ty : Nat → FieldType} {index k a : Nat} {fs : List Value} {v : Value} (hdg : decode M.2.1 pc = .ok (.putfield index, 3)) (hC : jCl ci C T N ty) (hk : k < N) (hl : Cond.fieldLink M.1.cls index (T k).1 (T k).2.1 (T k).2.2.1 ∈ jK)
    (hfin : (T k).2.2.2 = false ∨ ((T k).2.2.2 = true ∧ M.1.name = "<init>" ∧ (T k).1 = M.1.cls)) (hfit : jFit (ty k) v)
    (hw : w[a]? = some (.inr (ci, fs))) (hlen : k < fs.length) (kk : J X M d kc ks (pc + 3) L st (w.set a (.inr (ci, fs.set k v))) Q) : J X M d kc ks pc L (v :: .ref a :: st) w Q := by
  intro p e R s m args below meth c C9 H locs cells slots ls hH hS hL h1 h2
  have hA := C9.2.2.2.2.2.2.2.2.1
  have hP := jH_at hH hw (fun fs' e => by have := hC.2.2.2.2; cases e; exact absurd this (Nat.lt_irrefl 99))
  have hts : ∀ w9 ∈ jK, w9.before args s = true := fun w9 hw9 => hA.word hw9 args
  have hap := va_apart (own := M.1.cls) hts hC.2.1 ty hC.2.2.1 hC.2.2.2.1 hA.2.1 hC.1
  obtain ⟨r, e1, cell, q1, q2, q3, q4⟩ := hP 0 _ rfl
  have hr : r = (C, T, N) := Option.some.inj (e1.symm.trans hC.1)
  subst hr
  obtain ⟨hSl, hfc, kC, hkC, hkind⟩ := hA.2.1.1 ci _ hC.1
  obtain ⟨cf, kf, fi, f, hi, hsl⟩ := hSl k hk
  have hlay := hts _ (hC.2.1 _ (u_in_lay hk))
  have hst := (u_facts hfc hkC (u_lays hts hC.2.1 hk) hi).1
  obtain ⟨f1, f2⟩ := jFit_spec (X := X) hfit
  have key : ∀ H' : Heap, H'[X.2.1 + a]? = some (cell.setSlot f.slot (jT X v)) → H'.size = H.size → (∀ q, q ≠ X.2.1 + a → H'[q]? = H[q]?) →
      W p X.1 e R s m args below meth c H' (locs ++ [⟨X.2.1 + a, f.slot⟩]) cells slots (jEnd X Q below args s R) (F0 m (pc + 3) ls (st.map (jT X))) := by
    intro H' g1 g2 g3
    rw [hsl] at g1 ⊢
    refine kk p e R s m args below meth c C9 H' _ cells slots ls (jH_set hH hw g2 g3 ?_) (hS.put g2 g3 (show jA X (X.2.1 + a) from Nat.le_add_right _ _)) hL h1 h2
    exact ⟨_, hC.1, t_OB.to (V := updV (vp_V (fs.map (jT X))) k (jT X v)) ⟨_, g1, q2, q3, t_set q4 hap hk (jT X v)⟩ (fun j _ => jV_set hlen j)⟩
  rcases hfin with hfin | ⟨hfin, hin, hdecl⟩
  · unfold u_lay at hlay
    rw [if_neg (by rw [hfin]; decide)] at hlay
    have h6 := u_store hfc hkC hkind hlay hi (hC.2.2.1 k hk) f1 f2
    exact W.putK C9.1 C9.2.1 (f := f) ⟨C9.2.2.2.1, hA.word hl args, ⟨_, _, _, hi⟩, hst⟩ (by rw [q2]; exact h6) q1 q3 (by rw [hsl]; exact k2_hasslot (q4 k hk)) rfl rfl hdg key
  · unfold u_lay at hlay
    rw [if_pos hfin] at hlay
    have hcf : m.cls = cf := by
      obtain ⟨_, _, c', _, _, _, -, -, hf', -, -, -, hown2, -⟩ := Cond.laysFinal_spec hlay
      have e1 : c' = cf := by have := hi.symm.trans hf'; simp at this; exact this.1.symm
      rw [hdecl] at hown2
      rw [← e1]; exact Option.some.inj (C9.2.2.2.1.symm.trans hown2)
    have h6 := u_fits hfc hkC hkind (Or.inr hlay) hi (hC.2.2.1 k hk) f1 f2
    exact W.putFinK C9.1 C9.2.1 C9.2.2.2.1 (hA.word hl args) hi hst hcf (C9.2.2.2.2.2.2.1.trans hin) (by rw [q2]; exact h6) q1 q3 (by rw [hsl]; exact k2_hasslot (q4 k hk)) rfl rfl hdg key
theorem jTy_of (X : jX) {s : State} (h : jAmb X s) (t : Nat) (ht : t < 2) : ([(X.2.2.2.2.1 0, FieldType.int), (X.2.2.2.2.1 1, FieldType.byte)] : List (ClassId × FieldType))[t]? = some (X.2.2.2.2.1 t, jTy t) := by
  rcases (show t = 0 ∨ t = 1 by omega) with rfl | rfl <;> rfl
theorem J_iald {a : Nat} {xs : List Int32} {i : Int32} (hdg : decode M.2.1 pc = .ok (.iaload, 1)) (hw : w[a]? = some (.inl (0, xs))) (hin : vp_in i xs.length) (kk : J X M d kc ks (pc + 1) L (.int (xs.getD i.toNatClampNeg 0) :: st) w Q) : J X M d kc ks pc L (.int i :: .ref a :: st) w Q := by
  intro p e R s m args below meth c C9 H locs cells slots ls hH hS hL h1 h2
  have hA := C9.2.2.2.2.2.2.2.2.1
  exact va_iald C9.1 C9.2.1 hA.2.1 (jH_at hH hw (fun _ e => by cases e)) 0 0 (f := fun j => xs.getD j 0) rfl rfl hin hdg (kk p e R s m args below meth c C9 H locs cells slots ls hH hS hL h1 h2)
theorem J_bald {a : Nat} {xs : List Int32} {i : Int32} (hdg : decode M.2.1 pc = .ok (.baload, 1)) (hw : w[a]? = some (.inl (1, xs))) (hin : vp_in i xs.length) (kk : J X M d kc ks (pc + 1) L (.int (xs.getD i.toNatClampNeg 0) :: st) w Q) : J X M d kc ks pc L (.int i :: .ref a :: st) w Q := by
  intro p e R s m args below meth c C9 H locs cells slots ls hH hS hL h1 h2
  have hA := C9.2.2.2.2.2.2.2.2.1
  exact va_bald C9.1 C9.2.1 hA.2.1 (jH_at hH hw (fun _ e => by cases e)) 0 1 (f := fun j => xs.getD j 0) rfl rfl hin hdg (kk p e R s m args below meth c C9 H locs cells slots ls hH hS hL h1 h2)
/-- of an old array -/
theorem J_ialdO {a : Nat} {xs : List Int32} {i : Int32} (hdg : decode M.2.1 pc = .ok (.iaload, 1)) (hw : X.2.2.2.2.2[a]? = some (.inl (0, xs))) (hin : vp_in i xs.length) (kk : J X M d kc ks (pc + 1) L (.int (xs.getD i.toNatClampNeg 0) :: st) w Q) : J X M d kc ks pc L (.int i :: .retAddr a :: st) w Q := by
  intro p e R s m args below meth c C9 H locs cells slots ls hH hS hL h1 h2
  have hA := C9.2.2.2.2.2.2.2.2.1
  have h9 : jOldC X s s.heap a (.inl (0, xs)) := hA.2.2.1 a _ hw
  exact va_ti (f := fun j => .int (xs.getD j 0)) (v := .int (xs.getD i.toNatClampNeg 0)) C9.1 C9.2.1 h9 hS hin rfl hdg (kk p e R s m args below meth c C9 H locs cells slots ls hH hS hL h1 h2)
theorem J_baldO {a : Nat} {xs : List Int32} {i : Int32} (hdg : decode M.2.1 pc = .ok (.baload, 1)) (hw : X.2.2.2.2.2[a]? = some (.inl (1, xs))) (hin : vp_in i xs.length) (kk : J X M d kc ks (pc + 1) L (.int (xs.getD i.toNatClampNeg 0) :: st) w Q) : J X M d kc ks pc L (.int i :: .retAddr a :: st) w Q := by
  intro p e R s m args below meth c C9 H locs cells slots ls hH hS hL h1 h2
  have hA := C9.2.2.2.2.2.2.2.2.1
  have h9 : jOldC X s s.heap a (.inl (1, xs)) := hA.2.2.1 a _ hw
  exact va_tb (f := fun j => .int (xs.getD j 0)) (v := .int (xs.getD i.toNatClampNeg 0)) C9.1 C9.2.1 h9 hS hin rfl hdg (kk p e R s m args below meth c C9 H locs cells slots ls hH hS hL h1 h2)
theorem J_alen {a t : Nat} {xs : List Int32} {n : Int32} (hdg : decode M.2.1 pc = .ok (.arraylength, 1)) (hw : w[a]? = some (.inl (t, xs))) (ht : t < 2) (hn : Int32.ofNat xs.length = n) (kk : J X M d kc ks (pc + 1) L (.int n :: st) w Q) : J X M d kc ks pc L (.ref a :: st) w Q := by
  intro p e R s m args below meth c C9 H locs cells slots ls hH hS hL h1 h2
  have hA := C9.2.2.2.2.2.2.2.2.1
  exact va_alen C9.1 C9.2.1 hA.2.1 (jH_at hH hw (fun _ e => by cases e)) 0 t (x := (xs.length, .inl (fun j => xs.getD j 0))) rfl (jTy_of X hA t ht) hn hdg (kk p e R s m args below meth c C9 H locs cells slots ls hH hS hL h1 h2)
theorem J_alenO {a t : Nat} {xs : List Int32} {n : Int32} (hdg : decode M.2.1 pc = .ok (.arraylength, 1)) (hw : X.2.2.2.2.2[a]? = some (.inl (t, xs))) (hn : Int32.ofNat xs.length = n) (kk : J X M d kc ks (pc + 1) L (.int n :: st) w Q) : J X M d kc ks pc L (.retAddr a :: st) w Q := by
  intro p e R s m args below meth c C9 H locs cells slots ls hH hS hL h1 h2
  have hA := C9.2.2.2.2.2.2.2.2.1
  have h9 : jOldC X s s.heap a (.inl (t, xs)) := hA.2.2.1 a _ hw
  exact va_tlen (f := fun j => .int (xs.getD j 0)) C9.1 C9.2.1 h9 hS hn hdg (kk p e R s m args below meth c C9 H locs cells slots ls hH hS hL h1 h2)
theorem jArr_set {xs : List Int32} {i : Nat} {x : Int32} (hi : i < xs.length) : upd (fun j => xs.getD j 0) i x = fun j => (xs.set i x).getD j 0 := by
  funext j
  rw [set_getD x hi]
  rfl
theorem J_iast {a : Nat} {xs : List Int32} {i x : Int32} (hdg : decode M.2.1 pc = .ok (.iastore, 1)) (hw : w[a]? = some (.inl (0, xs))) (hin : vp_in i xs.length) (kk : J X M d kc ks (pc + 1) L st (w.set a (.inl (0, xs.set i.toNatClampNeg x))) Q) : J X M d kc ks pc L (.int x :: .int i :: .ref a :: st) w Q := by
  intro p e R s m args below meth c C9 H locs cells slots ls hH hS hL h1 h2
  have hA := C9.2.2.2.2.2.2.2.2.1
  have hP := jH_at hH hw (fun _ e => by cases e)
  have hlt : i.toNatClampNeg < xs.length := Nat.not_le.mp fun q => hin (Or.inr q)
  refine W.iast C9.1 C9.2.1 (hP 0 _ rfl) ((hA.2.1.2 0 _ rfl).1 xs.length (fun j => .int (xs.getD j 0))) (fun q => by cases q) (by show ¬ (i < 0 ∨ (arrV _ _ _).slots.size ≤ _); rw [arrV_size]; exact hin) rfl rfl hdg fun H1 e1 z oq => ?_
  refine kk p e R s m args below meth c C9 H1 _ cells slots ls (jH_set hH hw z oq ?_) (hS.put z oq (show jA X (X.2.1 + a) from Nat.le_add_right _ _)) hL h1 h2
  show H1[X.2.1 + a]? = some (vp_cell _ _)
  rw [e1]
  show some ((arrV (X.2.2.2.2.1 0) xs.length (fun j => .int (xs.getD j 0))).setSlot i.toNatClampNeg (.int x)) = some (arrV (X.2.2.2.2.1 0) (xs.set i.toNatClampNeg x).length (fun j => .int ((xs.set i.toNatClampNeg x).getD j 0)))
  rw [arrV_store, List.length_set]
  congr 2
  funext q
  have := congrFun (jArr_set (x := x) hlt) q
  simp only [upd] at this
  show updV _ _ _ q = .int ((xs.set i.toNatClampNeg x).getD q 0)
  rw [← this]
  by_cases hq : q = i.toNatClampNeg
  · subst hq; simp [updV]
  · simp [updV, hq]
theorem J_bast {a : Nat} {xs : List Int32} {i x : Int32} (hdg : decode M.2.1 pc = .ok (.bastore, 1)) (hw : w[a]? = some (.inl (1, xs))) (hin : vp_in i xs.length) (kk : J X M d kc ks (pc + 1) L st (w.set a (.inl (1, xs.set i.toNatClampNeg x.toInt8.toInt32))) Q) : J X M d kc ks pc L (.int x :: .int i :: .ref a :: st) w Q := by
  intro p e R s m args below meth c C9 H locs cells slots ls hH hS hL h1 h2
  have hA := C9.2.2.2.2.2.2.2.2.1
  have hP := jH_at hH hw (fun _ e => by cases e)
  have hlt : i.toNatClampNeg < xs.length := Nat.not_le.mp fun q => hin (Or.inr q)
  refine W.bast C9.1 C9.2.1 (hP 0 _ rfl) ((hA.2.1.2 1 _ rfl).1 xs.length (fun j => .int (xs.getD j 0))) (fun q => by cases q) (by show ¬ (i < 0 ∨ (arrV _ _ _).slots.size ≤ _); rw [arrV_size]; exact hin) rfl rfl hdg fun H1 e1 z oq => ?_
  refine kk p e R s m args below meth c C9 H1 _ cells slots ls (jH_set hH hw z oq ?_) (hS.put z oq (show jA X (X.2.1 + a) from Nat.le_add_right _ _)) hL h1 h2
  show H1[X.2.1 + a]? = some (vp_cell _ _)
  rw [e1]
  show some ((arrV (X.2.2.2.2.1 1) xs.length (fun j => .int (xs.getD j 0))).setSlot i.toNatClampNeg (.int x.toInt8.toInt32)) = some (arrV (X.2.2.2.2.1 1) (xs.set i.toNatClampNeg x.toInt8.toInt32).length (fun j => .int ((xs.set i.toNatClampNeg x.toInt8.toInt32).getD j 0)))
  rw [arrV_store, List.length_set]
  congr 2
  funext q
  have := congrFun (jArr_set (x := x.toInt8.toInt32) hlt) q
  simp only [upd] at this
  show updV _ _ _ q = .int ((xs.set i.toNatClampNeg x.toInt8.toInt32).getD q 0)
  rw [← this]
  by_cases hq : q = i.toNatClampNeg
  · subst hq; simp [updV]
  · simp [updV, hq]
theorem jRep (n : Nat) : (fun j => (List.replicate n (0 : Int32)).getD j 0) = fun _ => 0 := by
  funext j
  rw [List.getD_eq_getElem?_getD, List.getElem?_replicate]
  split <;> rfl
/-- a new array of ints or bytes -/
theorem J_newa {t : Nat} {atype : ArrayType} {n : Int32} {N : Nat} (hdg : decode M.2.1 pc = .ok (.newarray atype, 2)) (ht : t < 2) (hty : newarray.typeOf atype = jTy t) (hc : Cond.arrayClass (jTy t) ∈ jK) (hn : ¬ n < 0) (hN : n.toNatClampNeg = N) (hb : N ≤ 100000000) (hkc : 1 ≤ kc) (hks : N ≤ ks)
    (kk : J X M d (kc - 1) (ks - N) (pc + 2) L (.ref w.length :: st) (w ++ [.inl (t, List.replicate N 0)]) Q) : J X M d kc ks pc L (.int n :: st) w Q := by
  intro p e R s m args below meth c C9 H locs cells slots ls hH hS hL h1 h2
  have hA := C9.2.2.2.2.2.2.2.2.1
  refine va_newaK C9.1 C9.2.1 (by rw [hty]; exact hA.word hc args) rfl hdg rfl hn hN ?_ (by omega) (by omega) rfl fun H1 cA e1 z1 o1 hAr hNm => ?_
  · rcases (show t = 0 ∨ t = 1 by omega) with rfl | rfl
    · rw [hty]; show N * 4 ≤ _; omega
    · rw [hty]; show N * 1 ≤ _; omega
  have hcA : cA = X.2.2.2.2.1 t := by
    have g := (hA.2.1.2 t _ (jTy_of X hA t ht)).2
    rw [hty] at hNm
    have g2 : s.vm.findClass ("[" ++ (jTy t).toString) = some (X.2.2.2.2.1 t) := by
      rcases (show t = 0 ∨ t = 1 by omega) with rfl | rfl <;> exact g
    exact Option.some.inj (hNm.symm.trans g2)
  have hlen : H.size = X.2.1 + w.length := hH.1
  have hk := kk p e R s m args below meth c C9 H1 locs (cells + 1) (slots + N) ls (jH_push hH z1 o1 (fun _ => ?_)) ⟨Nat.le_trans hS.1 (by omega), fun q g1 g2 => (o1 q (Nat.lt_of_lt_of_le g1 hS.1)).trans (hS.2.1 q g1 g2), hS.2.2⟩ hL (by omega) (by omega)
  · rw [List.map_cons, show jT X (.ref w.length) = .ref H.size by rw [hlen]; rfl] at hk
    exact hk
  · show H1[X.2.1 + w.length]? = some (vp_cell (X.2.2.2.2.1 t) ((List.replicate N 0).length, .inl (fun j => (List.replicate N (0 : Int32)).getD j 0)))
    rw [← hlen, e1, hcA, List.length_replicate, jRep, hty]
    rcases (show t = 0 ∨ t = 1 by omega) with rfl | rfl <;> rfl
/-- a new object -/
theorem J_new {ci : Nat} {C : String} {T : u_T} {N index : Nat} {ty : Nat → FieldType} {fs : List Value} (hdg : decode M.2.1 pc = .ok (.new index, 3)) (hC : jCl ci C T N ty) (hcl : Cond.classLink M.1.cls index C ∈ jK) (hins : Cond.instantiable C N ∈ jK) (hini : Cond.initialized C ∈ jK)
    (hfs : ∀ j, j < N → defaultValue (ty j) = vp_V (fs.map (jT X)) j) (hkc : 1 ≤ kc) (hks : N ≤ ks) (kk : J X M d (kc - 1) (ks - N) (pc + 3) L (.ref w.length :: st) (w ++ [.inr (ci, fs)]) Q) : J X M d kc ks pc L st w Q := by
  intro p e R s m args below meth c C9 H locs cells slots ls hH hS hL h1 h2
  have hA := C9.2.2.2.2.2.2.2.2.1
  have hts : ∀ w9 ∈ jK, w9.before args s = true := fun w9 hw9 => hA.word hw9 args
  have hKn := hA.2.1.1 ci _ hC.1
  have hlen : H.size = X.2.1 + w.length := hH.1
  refine W.newcK C9.1 C9.2.1 C9.2.2.2.1 (hA.word hcl args) (hA.word hins args) (hA.word hini args) rfl hdg (by omega) (by omega) hKn.2.1 rfl fun H1 kC hkC e1 z1 o1 => ?_
  have hk := kk p e R s m args below meth c C9 H1 locs (cells + 1) (slots + N) ls (jH_push hH z1 o1 (fun _ => ?_)) ⟨Nat.le_trans hS.1 (by omega), fun q g1 g2 => (o1 q (Nat.lt_of_lt_of_le g1 hS.1)).trans (hS.2.1 q g1 g2), hS.2.2⟩ hL (by omega) (by omega)
  · rw [List.map_cons, show jT X (.ref w.length) = .ref H.size by rw [hlen]; rfl] at hk
    exact hk
  · rw [← hlen]
    exact ⟨_, hC.1, (u_born ty hts hC.2.1 hKn hkC e1 hC.2.2.1).to hfs⟩
/-- Object's constructor -/
theorem J_objInit {index : Nat} {v : Value} (hdg : decode M.2.1 pc = .ok (.invokespecial index, 3)) (hl : Cond.methodLink M.1.cls index Lib.objectInit ∈ jK) (hi : Cond.instanceMethod Lib.objectInit ∈ jK) (hc : Cond.code Lib.objectInit ⟨#[0xb1]⟩ 1 none ∈ jK) (hr : jRf v = true) (hd : 1 ≤ d) (hst : (st.map fun v => v.category).sum ≤ 8)
    (kk : J X M d kc ks (pc + 3) L st w Q) : J X M d kc ks pc L (v :: st) w Q := by
  intro p e R s m args below meth c C9 H locs cells slots ls hH hS hL h1 h2
  have hA := C9.2.2.2.2.2.2.2.2.1
  obtain ⟨a, ha⟩ := jRf_spec (X := X) hr
  rw [List.map_cons, ha]
  have hd1 := C9.2.2.2.2.2.2.2.2.2.2
  refine W.objInit C9.1 C9.2.1 C9.2.2.2.1 (hA.word hl args) (hA.word hi args) (hA.word hc args) rfl (hL.1.trans C9.2.2.1.symm) rfl hdg (by omega) ?_ (kk p e R s m args below meth c C9 H locs cells slots ls hH hS hL h1 h2)
  show 2 * 0 + ((st.map (jT X)).map fun v => v.category).sum + 12 ≤ R.locals
  rw [jT_sum]
  omega
/-- a static -/
theorem J_gets {index : Nat} {C n ds : String} {v : Value} (hdg : decode M.2.1 pc = .ok (.getstatic index, 3)) (hq : (C, n, ds, v) ∈ jStat) (hl : Cond.fieldLink M.1.cls index C n ds ∈ jK) (kk : J X M d kc ks (pc + 3) L (v :: st) w Q) : J X M d kc ks pc L st w Q := by
  intro p e R s m args below meth c C9 H locs cells slots ls hH hS hL h1 h2
  have hA := C9.2.2.2.2.2.2.2.2.1
  have hz := hA.2.2.2.1 (C, n, ds, v) hq
  exact va_gets (C := C) (ref := C) C9.1 C9.2.1 hz hS C9.2.2.2.1 (hA.word hl args) (fun _ h => h) hdg (kk p e R s m args below meth c C9 H locs cells slots ls hH hS hL h1 h2)
/-- a String constant -/
theorem J_ldcS {index a : Nat} {tx : String} (hdg : decode M.2.1 pc = .ok (.ldc index, 2)) (hq : (M.1.cls, index, tx, a) ∈ jStr) (kk : J X M d kc ks (pc + 2) L (.retAddr a :: st) w Q) : J X M d kc ks pc L st w Q := by
  intro p e R s m args below meth c C9 H locs cells slots ls hH hS hL h1 h2
  have hA := C9.2.2.2.2.2.2.2.2.1
  have hz := hA.2.2.2.2.2.2.1 (M.1.cls, index, tx, a) hq
  exact va_ldcS (tx := tx) C9.1 C9.2.1 C9.2.2.2.1 hz hdg (kk p e R s m args below meth c C9 H locs cells slots ls hH hS hL h1 h2)
/-- fields of a String constant -/
theorem J_getO {index a : Nat} {fs : List Value} (hdg : decode M.2.1 pc = .ok (.getfield index, 3)) (hl : Cond.fieldLink M.1.cls index "java/lang/String" "value" "[B" ∈ jK) (hw : X.2.2.2.2.2[a]? = some (.inr (0, fs))) (kk : J X M d kc ks (pc + 3) L (fs.getD 0 .null :: st) w Q) : J X M d kc ks pc L (.retAddr a :: st) w Q := by
  intro p e R s m args below meth c C9 H locs cells slots ls hH hS hL h1 h2
  have hA := C9.2.2.2.2.2.2.2.2.1
  have h9 : jOldC X s s.heap a (.inr (0, fs)) := hA.2.2.1 a _ hw
  exact vk_getf (ref := "java/lang/String") C9.1 C9.2.1 h9.2.2 hS C9.2.2.2.1 (hA.word hl args) (fun _ h => h) hdg (kk p e R s m args below meth c C9 H locs cells slots ls hH hS hL h1 h2)
theorem J_getOc {index a : Nat} {fs : List Value} (hdg : decode M.2.1 pc = .ok (.getfield index, 3)) (hl : Cond.fieldLink M.1.cls index "java/lang/String" "coder" "B" ∈ jK) (hw : X.2.2.2.2.2[a]? = some (.inr (0, fs))) (kk : J X M d kc ks (pc + 3) L (.int 0 :: st) w Q) : J X M d kc ks pc L (.retAddr a :: st) w Q := by
  intro p e R s m args below meth c C9 H locs cells slots ls hH hS hL h1 h2
  have hA := C9.2.2.2.2.2.2.2.2.1
  have h9 : jOldC X s s.heap a (.inr (0, fs)) := hA.2.2.1 a _ hw
  exact vk_getf (ref := "java/lang/String") C9.1 C9.2.1 h9.2.1 hS C9.2.2.2.1 (hA.word hl args) (fun _ h => h) hdg (kk p e R s m args below meth c C9 H locs cells slots ls hH hS hL h1 h2)
end JHEAP
