section
/-! THE J KIT: a judgement over a plain list of cells, the machine's context hidden. -/
abbrev jC : Type := (Nat × List Int32) ⊕ (Nat × List Value)
abbrev jX : Type := Launch × Nat × (Nat → Nat) × va_G × (Nat → ClassId) × List jC
abbrev jO : Type := (Option Value) ⊕ String
abbrev jQ : Type := jO → List jC → Prop
/-- a value of ours in the machine: own cells lie behind the base, old ones where they lie -/
def jT (X : jX) (v : Value) : Value := match v with
  | .ref i => .ref (X.2.1 + i)
  | .retAddr k => .ref (X.2.2.1 k)
  | v => v
theorem jT_cat (X : jX) (v : Value) : (jT X v).category = v.category := by cases v <;> rfl
theorem jT_sum (X : jX) (st : List Value) : ((st.map (jT X)).map fun v => v.category).sum = (st.map fun v => v.category).sum := by
  induction st with
  | nil => rfl
  | cons a l ih => simp only [List.map_cons, List.sum_cons, jT_cat, ih]
def jTy (t : Nat) : FieldType := if t = 0 then .int else .byte
def jE (X : jX) (c : jC) : va_E := match c with
  | .inl a => .inl (X.2.2.2.2.1 a.1, (a.2.length, .inl (fun j => a.2.getD j 0)))
  | .inr o => .inr (o.1, o.2.map (jT X))
def jA (X : jX) (q : Nat) : Prop := X.2.1 ≤ q
/-- the world: our cells, one behind the other, behind the base; the cells of class 99 hold anything -/
def jH (X : jX) (w : List jC) (H : Heap) : Prop := H.size = X.2.1 + w.length ∧ ∀ (i : Nat) (c : jC), w[i]? = some c → (∀ fs, c ≠ .inr (99, fs)) → va_at X.2.2.2.1 vwCl (X.2.1 + i, jE X c) H
/-- what lay there before, and is read -/
def jOldC (X : jX) (U : State) (H : Heap) (k : Nat) (c : jC) : Prop := match c with
  | .inl a => va_T (jTy a.1) (X.2.2.1 k) a.2.length (fun j => .int (a.2.getD j 0)) (jA X) U H
  | .inr o => va_O "java/lang/String" (X.2.2.1 k) (jA X) U H ∧ va_OF "java/lang/String" "coder" "B" (.int 0) (X.2.2.1 k) (jA X) U H ∧ va_OF "java/lang/String" "value" "[B" (jT X (o.2.getD 0 .null)) (X.2.2.1 k) (jA X) U H
def jOld (X : jX) (U : State) (H : Heap) : Prop := ∀ (k : Nat) (c : jC), X.2.2.2.2.2[k]? = some c → jOldC X U H k c
/-- statics that are read: where, what -/
def jStat : List (String × String × String × Value) := [("java/lang/String", "COMPACT_STRINGS", "Z", .int 1), ("java/lang/Integer", "DigitOnes", "[B", .retAddr 1), ("java/lang/Integer", "DigitTens", "[B", .retAddr 2)]
/-- String constants: class, entry, text, the old cell -/
def jStr : List (String × Nat × String × Nat) := [("SwaphouseModel", 144, "", 5), ("SwaphouseModel", 149, " ", 6), ("Swaphouse", 289, "there is no such cell", 7), ("Swaphouse", 294, "there is no such point", 8), ("Swaphouse", 298, "an argument is outside what the document lets", 9)]
def jNc : List (String × String) := [("java/lang/IllegalArgumentException", "java/lang/IndexOutOfBoundsException")]
/-- words that stay as the tables warm -/
def jKeepW (w : Cond) : Bool := (w.onTables && (w.keeps || (w.keepsFace || w.keepsH))) || (match w with | .arrayClass _ => true | _ => false)
def jK : List Cond := lw_tbl.filter jKeepW
theorem jK_of {w : Cond} (i : Nat) (h : lw_tbl[i]? = some w) (hk : jKeepW w = true) : w ∈ jK := List.mem_filter.mpr ⟨List.mem_of_getElem? h, hk⟩
theorem jW_use {w : Cond} (hk : jKeepW w = true) {s U : State} {a a' : Array Value} (hW : s.WarmedH U.vm) (h : w.before a s = true) : w.before a' U = true := by
  unfold jKeepW at hk
  rcases Bool.or_eq_true _ _ |>.mp hk with hk | hk
  · obtain ⟨h1, h2⟩ := Bool.and_eq_true _ _ |>.mp hk
    have hs : w.before a (s.setVm U.vm) = true := by
      rcases Bool.or_eq_true _ _ |>.mp h2 with h2 | h2
      · exact Cond.holds_shifted (State.Shifted.of_warmed hW) w [] h2 h
      · rcases Bool.or_eq_true _ _ |>.mp h2 with h2 | h2
        · exact Cond.before_shiftedFace (State.Shifted.of_warmed hW) w h2 h
        · exact Cond.holds_shiftedH (State.Shifted.of_warmed hW) (fun m x hx => by rw [hW.hostNow]; exact hx) w [] h2 h
    exact va_tabs h1 (rfl : (s.setVm U.vm).vm = U.vm) hs
  · cases w <;> first | exact word_at hW (Or.inr ⟨_, rfl⟩) h | exact absurd hk Bool.false_ne_true
/-- what holds wherever a method of ours is called -/
def jAmb (X : jX) (U : State) : Prop :=
  X.2.1 ≤ U.heap.size ∧ va_K X.2.2.2.1 vwCl [(X.2.2.2.2.1 0, .int), (X.2.2.2.2.1 1, .byte)] U ∧ jOld X U U.heap ∧
  (∀ q ∈ jStat, va_Z q.1 q.2.1 q.2.2.1 (jT X q.2.2.2) (jA X) U U.heap) ∧
  vx_Zq Bundle.tN "UNASSIGNED_STACK" Bundle.steD (jA X) U U.heap ∧ vx_Zq Bundle.tN "SUPPRESSED_SENTINEL" Bundle.listD (jA X) U U.heap ∧
  (∀ q ∈ jStr, vk_R q.1 q.2.1 q.2.2.1 (X.2.2.1 q.2.2.2) U) ∧ (∀ w ∈ jK, w.before #[] U = true) ∧ (∀ q ∈ jNc, va_Nc q.1 q.2 U)
def jLow (X : jX) (s t : State) : Prop := s.heap.size ≤ t.heap.size ∧ ∀ q : Nat, q < X.2.1 → t.heap[q]? = s.heap[q]?
theorem jOldC.moved {X : jX} {s U : State} {H : Heap} {k : Nat} {c : jC} (hvm : s.vm.Alike U.vm) (h : jOldC X s H k c) : jOldC X U H k c := by
  cases c with
  | inl a => exact va_T.moved hvm h
  | inr o => exact ⟨va_O.moved hvm h.1, va_OF.moved hvm h.2.1, va_OF.moved hvm h.2.2⟩
theorem jOldC.kept {X : jX} {s : State} {H H1 : Heap} {k : Nat} {c : jC} (hq : ∀ a : Nat, a < H.size → ¬ jA X a → H1[a]? = H[a]?) (h : jOldC X s H k c) : jOldC X s H1 k c := by
  cases c with
  | inl a => exact va_T.kept h hq
  | inr o => exact ⟨va_O.kept h.1 hq, va_OF.kept h.2.1 hq, va_OF.kept h.2.2 hq⟩
theorem jAmb.moved {X : jX} {s U : State} (hW : s.WarmedH U.vm) (hz : X.2.1 ≤ U.heap.size) (hl : jLow X s U) (h : jAmb X s) : jAmb X U := by
  obtain ⟨h1, h2, h3, h4, h5, h6, h7, h8, h9⟩ := h
  have ha := hW.alike
  have hq : ∀ a : Nat, a < s.heap.size → ¬ jA X a → U.heap[a]? = s.heap[a]? := fun a _ hn => hl.2 a (Nat.not_le.mp hn)
  exact ⟨hz, va_K.moved ha h2, fun k c hk => ((h3 k c hk).moved ha).kept hq, fun q hm => (va_Z.moved ha (h4 q hm)).kept hq, (vx_Zq.moved ha h5).kept hq, (vx_Zq.moved ha h6).kept hq,
    fun q hm => vk_R.warm hW (h7 q hm), fun w hw => jW_use (List.mem_filter.mp hw).2 hW (h8 w hw), fun q hm => va_Nc.moved ha (h9 q hm)⟩
theorem jAmb.word {X : jX} {s : State} (h : jAmb X s) {w : Cond} (hw : w ∈ jK) (a : Array Value) : w.before a s = true := jW_use (List.mem_filter.mp hw).2 (State.WarmedH.refl s) (h.2.2.2.2.2.2.2.1 w hw)
/-- the locals -/
def jL (X : jX) (ls : Array Slot) (nL : Nat) (L : List (Option Value)) : Prop := ls.size = nL ∧ lv_wf ls ∧ ∀ (i : Nat) (v : Value), L[i]? = some (some v) → ls[i]? = some (.val (jT X v))
def jAs (X : jX) (L : List (Option Value)) : List (Nat × Value) := (List.range L.length).filterMap fun i => (L.getD i none).map fun v => (i, jT X v)
theorem jAs_mem {X : jX} {L : List (Option Value)} {q : Nat × Value} : q ∈ jAs X L ↔ ∃ v, L[q.1]? = some (some v) ∧ q.2 = jT X v := by
  unfold jAs
  rw [List.mem_filterMap]
  constructor
  · rintro ⟨i, hi, hq⟩
    have hi := List.mem_range.mp hi
    rw [List.getD_eq_getElem?_getD, List.getElem?_eq_getElem hi] at hq
    simp only [Option.getD_some, Option.map_eq_some_iff] at hq
    obtain ⟨v, hv, rfl⟩ := hq
    exact ⟨v, by rw [List.getElem?_eq_getElem hi, hv], rfl⟩
  · rintro ⟨v, hv, he⟩
    have hi := (List.getElem?_eq_some_iff.mp hv).1
    refine ⟨q.1, List.mem_range.mpr hi, ?_⟩
    rw [List.getD_eq_getElem?_getD, hv]
    obtain ⟨a, b⟩ := q
    simp only at he
    subst he
    rfl
theorem jL_has {X : jX} {ls : Array Slot} {nL : Nat} {L : List (Option Value)} : jL X ls nL L ↔ lv_has ls nL (jAs X L) := by
  constructor
  · rintro ⟨h1, h2, h3⟩
    refine ⟨h1, h2, fun q hq => ?_⟩
    obtain ⟨v, hv, he⟩ := jAs_mem.mp hq
    rw [he]
    exact h3 _ _ hv
  · rintro ⟨h1, h2, h3⟩
    exact ⟨h1, h2, fun i v hv => h3 (i, jT X v) (jAs_mem.mpr ⟨v, hv, rfl⟩)⟩
/-- ahead of place i stands no long -/
def jOk1 (L : List (Option Value)) (i : Nat) : Bool := match i with
  | 0 => true
  | k + 1 => match L[k]? with
    | some (some v) => v.category == 1
    | _ => true
theorem jOk1_spec {L : List (Option Value)} {i j : Nat} {v : Value} (h : jOk1 L i = true) (hj : L[j]? = some (some v)) (e : j + 1 = i) : ¬ v.category = 2 := by
  subst e
  simp only [jOk1, hj, beq_iff_eq] at h
  omega
theorem jL_set1 {X : jX} {ls' : Array Slot} {nL i : Nat} {L : List (Option Value)} {v : Value} (hok : jOk1 L i = true) (h : lv_has ls' nL ((i, jT X v) :: (jAs X L).filter (fun q => !(q.1 == i) && !(q.1 + 1 == i && q.2.category == 2)))) : jL X ls' nL (L.set i (some v)) := by
  refine ⟨h.1, h.2.1, fun j u hu => ?_⟩
  by_cases hji : j = i
  · subst hji
    have hlt : j < L.length := by
      have := (List.getElem?_eq_some_iff.mp hu).1
      simpa using this
    rw [List.getElem?_set_self hlt] at hu
    cases hu
    exact h.2.2 (j, jT X v) List.mem_cons_self
  · rw [List.getElem?_set_ne (fun e => hji e.symm)] at hu
    refine h.2.2 (j, jT X u) (List.mem_cons_of_mem _ (List.mem_filter.mpr ⟨jAs_mem.mpr ⟨u, hu, rfl⟩, ?_⟩))
    have h2 : ¬ (j + 1 = i ∧ u.category = 2) := fun e => jOk1_spec hok hu e.1 e.2
    simp only [jT_cat, Bool.and_eq_true, Bool.not_eq_true', beq_eq_false_iff_ne, ne_eq, hji, not_false_eq_true, true_and]
    by_cases e : j + 1 = i
    · have : ¬ u.category = 2 := fun q => h2 ⟨e, q⟩
      simp [this]
    · simp [e]
theorem jL_set2 {X : jX} {ls' : Array Slot} {nL i : Nat} {L : List (Option Value)} {v : Value} (hok : jOk1 L i = true) (h : lv_has ls' nL ((i, jT X v) :: (jAs X L).filter (fun q => !(q.1 == i) && (!(q.1 == i + 1) && !(q.1 + 1 == i && q.2.category == 2))))) : jL X ls' nL ((L.set i (some v)).set (i + 1) none) := by
  refine ⟨h.1, h.2.1, fun j u hu => ?_⟩
  by_cases hj1 : j = i + 1
  · subst hj1
    have hlt : i + 1 < (L.set i (some v)).length := by
      have := (List.getElem?_eq_some_iff.mp hu).1
      simpa using this
    rw [List.getElem?_set_self hlt] at hu
    cases hu
  · rw [List.getElem?_set_ne (fun e => hj1 e.symm)] at hu
    by_cases hji : j = i
    · subst hji
      have hlt : j < L.length := by
        have := (List.getElem?_eq_some_iff.mp hu).1
        simpa using this
      rw [List.getElem?_set_self hlt] at hu
      cases hu
      exact h.2.2 (j, jT X v) List.mem_cons_self
    · rw [List.getElem?_set_ne (fun e => hji e.symm)] at hu
      refine h.2.2 (j, jT X u) (List.mem_cons_of_mem _ (List.mem_filter.mpr ⟨jAs_mem.mpr ⟨u, hu, rfl⟩, ?_⟩))
      have h2 : ¬ (j + 1 = i ∧ u.category = 2) := fun e => jOk1_spec hok hu e.1 e.2
      simp only [jT_cat, Bool.and_eq_true, Bool.not_eq_true', beq_eq_false_iff_ne, ne_eq, hji, hj1, not_false_eq_true, true_and]
      by_cases e : j + 1 = i
      · have : ¬ u.category = 2 := fun q => h2 ⟨e, q⟩
        simp [this]
      · simp [e]
/-- a method's own word -/
def jWd (M : jM) : Cond := match M.2.2.2.2 with
  | [] => .code M.1 M.2.1 M.2.2.1 M.2.2.2.1
  | h :: t => .codeWith M.1 M.2.1 M.2.2.1 M.2.2.2.1 (h :: t)
def jR (d kc ks : Nat) : Room := { frames := d, cells := kc, slots := ks, locals := 100 * d }
/-- a contract: from the world w and the arguments as, the method comes to an end with Q -/
def jMet (X : jX) (M : jM) (d kc ks : Nat) (as : List Value) (w : List jC) (Q : jQ) : Prop :=
  vx_Met X.1 M.1 [jWd M] (jR d kc ks) (fun v U => v = (as.map (jT X)).toArray ∧ jAmb X U ∧ jH X w U.heap)
    (fun _ st o t => ∃ (r : Option Value) (w' : List jC), o = .returned (r.map (jT X)) ∧ Q (.inl r) w' ∧ jH X w' t.heap ∧ jLow X st t)
    (fun E st t => ∃ w' : List jC, Q (.inr E) w' ∧ jH X w' t.heap ∧ jLow X st t) kc ks (jA X)
/-- a body's context -/
def jCtx (X : jX) (M : jM) (d : Nat) (p : Program) (R : Room) (s : State) (m : MethodId) (meth : Method) (c : Code) : Prop :=
  p.tables.exec = Jvm.exec ∧ c.code = M.2.1 ∧ c.maxLocals = M.2.2.1 ∧ s.vm.findClass M.1.cls = some m.cls ∧ meth.sig.returnType = M.2.2.2.1 ∧ meth.locks = false ∧ meth.name = M.1.name ∧
  c.exceptionTable.toList = tableOf M.2.2.2.2 ∧ jAmb X s ∧ X.1.stackTraces = false ∧ d ≤ R.frames ∧ 100 * d ≤ R.locals
def jEnd (X : jX) (Q : jQ) (below : List Frame) (args : Array Value) (s : State) (R : Room) : State → Prop :=
  vx_MQ below (fun _ st o t => ∃ (r : Option Value) (w' : List jC), o = .returned (r.map (jT X)) ∧ Q (.inl r) w' ∧ jH X w' t.heap ∧ jLow X st t)
    (fun E st t => ∃ w' : List jC, Q (.inr E) w' ∧ jH X w' t.heap ∧ jLow X st t) args s R.cells R.slots (jA X)
/-- the judgement: the method stands at pc -/
def J (X : jX) (M : jM) (d kc ks pc : Nat) (L : List (Option Value)) (st : List Value) (w : List jC) (Q : jQ) : Prop :=
  ∀ (p : Program) (e : Env) (R : Room) (s : State) (m : MethodId) (args : Array Value) (below : List Frame) (meth : Method) (c : Code), jCtx X M d p R s m meth c →
  ∀ (H : Heap) (locs : List Loc) (cells slots : Nat) (ls : Array Slot), jH X w H → va_S (jA X) s.heap H locs → jL X ls M.2.2.1 L → cells + kc ≤ R.cells → slots + ks ≤ R.slots →
  W p X.1 e R s m args below meth c H locs cells slots (jEnd X Q below args s R) (F0 m pc ls (st.map (jT X)))
/-- .. with a thing of class E thrown there -/
def JX (X : jX) (M : jM) (d kc ks pc : Nat) (L : List (Option Value)) (st : List Value) (w : List jC) (E : String) (Q : jQ) : Prop :=
  ∀ (p : Program) (e : Env) (R : Room) (s : State) (m : MethodId) (args : Array Value) (below : List Frame) (meth : Method) (c : Code), jCtx X M d p R s m meth c →
  ∀ (H : Heap) (locs : List Loc) (cells slots : Nat) (ls : Array Slot) (q : Addr) (ce : Cell), jH X w H → va_S (jA X) s.heap H locs → jL X ls M.2.2.1 L → cells + kc ≤ R.cells → slots + ks ≤ R.slots →
  H[q]? = some ce → ce.vm = .none → s.vm.findClass E = some ce.cls → vx_W p X.1 e R s m args below meth c H locs cells slots (jEnd X Q below args s R) (F0 m pc ls (st.map (jT X))) q
/-- bounds may be lowered, ends weakened -/
theorem J.mono {X : jX} {M : jM} {d kc ks kc' ks' pc : Nat} {L : List (Option Value)} {st : List Value} {w : List jC} {Q Q' : jQ} (h : J X M d kc ks pc L st w Q) (hc : kc ≤ kc') (hs : ks ≤ ks') (hq : ∀ o w', Q o w' → Q' o w') : J X M d kc' ks' pc L st w Q' := by
  intro p e R s m args below meth c C H locs cells slots ls hH hS hL h1 h2 T hT Y
  obtain ⟨t, a, o, b1, b2, b3⟩ := h p e R s m args below meth c C H locs cells slots ls hH hS hL (by omega) (by omega) T hT Y
  refine ⟨t, a, o, b1, b2, ?_⟩
  rcases b3 with ⟨⟨r, w', c1, c2, c3⟩, c4⟩ | ⟨q, c1, E, ce, Ls, ⟨w', c2, c3⟩, c4⟩
  · exact Or.inl ⟨⟨r, w', c1, hq _ _ c2, c3⟩, c4⟩
  · exact Or.inr ⟨q, c1, E, ce, Ls, ⟨w', hq _ _ c2, c3⟩, c4⟩
end
section
/-! one-instruction rules: stack, locals, numbers, branches -/
theorem J_iadd {X : jX} {M : jM} {d kc ks pc : Nat} {L : List (Option Value)} {st : List Value} {w : List jC} {Q : jQ} {x y : Int32} (hdg : decode M.2.1 pc = .ok (.iadd, 1)) (k : J X M d kc ks (pc + 1) L (.int (x + y) :: st) w Q) : J X M d kc ks pc L (.int y :: .int x :: st) w Q :=
  fun p e R s m args below meth c C H locs cells slots ls hH hS hL h1 h2 => lv_iadd C.1 C.2.1 hdg (k p e R s m args below meth c C H locs cells slots ls hH hS hL h1 h2)
theorem J_isub {X : jX} {M : jM} {d kc ks pc : Nat} {L : List (Option Value)} {st : List Value} {w : List jC} {Q : jQ} {x y : Int32} (hdg : decode M.2.1 pc = .ok (.isub, 1)) (k : J X M d kc ks (pc + 1) L (.int (x - y) :: st) w Q) : J X M d kc ks pc L (.int y :: .int x :: st) w Q :=
  fun p e R s m args below meth c C H locs cells slots ls hH hS hL h1 h2 => lv_isub C.1 C.2.1 hdg (k p e R s m args below meth c C H locs cells slots ls hH hS hL h1 h2)
theorem J_imul {X : jX} {M : jM} {d kc ks pc : Nat} {L : List (Option Value)} {st : List Value} {w : List jC} {Q : jQ} {x y : Int32} (hdg : decode M.2.1 pc = .ok (.imul, 1)) (k : J X M d kc ks (pc + 1) L (.int (x * y) :: st) w Q) : J X M d kc ks pc L (.int y :: .int x :: st) w Q :=
  fun p e R s m args below meth c C H locs cells slots ls hH hS hL h1 h2 => lv_imul C.1 C.2.1 hdg (k p e R s m args below meth c C H locs cells slots ls hH hS hL h1 h2)
theorem J_iand {X : jX} {M : jM} {d kc ks pc : Nat} {L : List (Option Value)} {st : List Value} {w : List jC} {Q : jQ} {x y : Int32} (hdg : decode M.2.1 pc = .ok (.iand, 1)) (k : J X M d kc ks (pc + 1) L (.int (x &&& y) :: st) w Q) : J X M d kc ks pc L (.int y :: .int x :: st) w Q :=
  fun p e R s m args below meth c C H locs cells slots ls hH hS hL h1 h2 => lv_iand C.1 C.2.1 hdg (k p e R s m args below meth c C H locs cells slots ls hH hS hL h1 h2)
theorem J_ior {X : jX} {M : jM} {d kc ks pc : Nat} {L : List (Option Value)} {st : List Value} {w : List jC} {Q : jQ} {x y : Int32} (hdg : decode M.2.1 pc = .ok (.ior, 1)) (k : J X M d kc ks (pc + 1) L (.int (x ||| y) :: st) w Q) : J X M d kc ks pc L (.int y :: .int x :: st) w Q :=
  fun p e R s m args below meth c C H locs cells slots ls hH hS hL h1 h2 => lv_ior C.1 C.2.1 hdg (k p e R s m args below meth c C H locs cells slots ls hH hS hL h1 h2)
theorem J_ixor {X : jX} {M : jM} {d kc ks pc : Nat} {L : List (Option Value)} {st : List Value} {w : List jC} {Q : jQ} {x y : Int32} (hdg : decode M.2.1 pc = .ok (.ixor, 1)) (k : J X M d kc ks (pc + 1) L (.int (x ^^^ y) :: st) w Q) : J X M d kc ks pc L (.int y :: .int x :: st) w Q :=
  fun p e R s m args below meth c C H locs cells slots ls hH hS hL h1 h2 => lv_ixor C.1 C.2.1 hdg (k p e R s m args below meth c C H locs cells slots ls hH hS hL h1 h2)
theorem J_ishl {X : jX} {M : jM} {d kc ks pc : Nat} {L : List (Option Value)} {st : List Value} {w : List jC} {Q : jQ} {x y : Int32} (hdg : decode M.2.1 pc = .ok (.ishl, 1)) (k : J X M d kc ks (pc + 1) L (.int (x <<< (y &&& 31)) :: st) w Q) : J X M d kc ks pc L (.int y :: .int x :: st) w Q :=
  fun p e R s m args below meth c C H locs cells slots ls hH hS hL h1 h2 => lv_ishl C.1 C.2.1 hdg (k p e R s m args below meth c C H locs cells slots ls hH hS hL h1 h2)
theorem J_ishr {X : jX} {M : jM} {d kc ks pc : Nat} {L : List (Option Value)} {st : List Value} {w : List jC} {Q : jQ} {x y : Int32} (hdg : decode M.2.1 pc = .ok (.ishr, 1)) (k : J X M d kc ks (pc + 1) L (.int (x >>> (y &&& 31)) :: st) w Q) : J X M d kc ks pc L (.int y :: .int x :: st) w Q :=
  fun p e R s m args below meth c C H locs cells slots ls hH hS hL h1 h2 => lv_ishr C.1 C.2.1 hdg (k p e R s m args below meth c C H locs cells slots ls hH hS hL h1 h2)
theorem J_iushr {X : jX} {M : jM} {d kc ks pc : Nat} {L : List (Option Value)} {st : List Value} {w : List jC} {Q : jQ} {x y : Int32} (hdg : decode M.2.1 pc = .ok (.iushr, 1)) (k : J X M d kc ks (pc + 1) L (.int ((x.toUInt32 >>> (y.toUInt32 &&& Int32.toUInt32 31)).toInt32) :: st) w Q) : J X M d kc ks pc L (.int y :: .int x :: st) w Q :=
  fun p e R s m args below meth c C H locs cells slots ls hH hS hL h1 h2 => lv_iushr C.1 C.2.1 hdg rfl (k p e R s m args below meth c C H locs cells slots ls hH hS hL h1 h2)
theorem J_ineg {X : jX} {M : jM} {d kc ks pc : Nat} {L : List (Option Value)} {st : List Value} {w : List jC} {Q : jQ} {x : Int32} (hdg : decode M.2.1 pc = .ok (.ineg, 1)) (k : J X M d kc ks (pc + 1) L (.int (-x) :: st) w Q) : J X M d kc ks pc L (.int x :: st) w Q :=
  fun p e R s m args below meth c C H locs cells slots ls hH hS hL h1 h2 => lv_ineg C.1 C.2.1 hdg (k p e R s m args below meth c C H locs cells slots ls hH hS hL h1 h2)
theorem J_i2l {X : jX} {M : jM} {d kc ks pc : Nat} {L : List (Option Value)} {st : List Value} {w : List jC} {Q : jQ} {x : Int32} (hdg : decode M.2.1 pc = .ok (.i2l, 1)) (k : J X M d kc ks (pc + 1) L (.long x.toInt64 :: st) w Q) : J X M d kc ks pc L (.int x :: st) w Q :=
  fun p e R s m args below meth c C H locs cells slots ls hH hS hL h1 h2 => lv_i2l C.1 C.2.1 hdg rfl (k p e R s m args below meth c C H locs cells slots ls hH hS hL h1 h2)
theorem J_i2b {X : jX} {M : jM} {d kc ks pc : Nat} {L : List (Option Value)} {st : List Value} {w : List jC} {Q : jQ} {x : Int32} (hdg : decode M.2.1 pc = .ok (.i2b, 1)) (k : J X M d kc ks (pc + 1) L (.int x.toInt8.toInt32 :: st) w Q) : J X M d kc ks pc L (.int x :: st) w Q :=
  fun p e R s m args below meth c C H locs cells slots ls hH hS hL h1 h2 => lv_i2b C.1 C.2.1 hdg rfl (k p e R s m args below meth c C H locs cells slots ls hH hS hL h1 h2)
theorem J_ladd {X : jX} {M : jM} {d kc ks pc : Nat} {L : List (Option Value)} {st : List Value} {w : List jC} {Q : jQ} {x y : Int64} (hdg : decode M.2.1 pc = .ok (.ladd, 1)) (k : J X M d kc ks (pc + 1) L (.long (x + y) :: st) w Q) : J X M d kc ks pc L (.long y :: .long x :: st) w Q :=
  fun p e R s m args below meth c C H locs cells slots ls hH hS hL h1 h2 => lv_ladd C.1 C.2.1 hdg (k p e R s m args below meth c C H locs cells slots ls hH hS hL h1 h2)
theorem J_lmul {X : jX} {M : jM} {d kc ks pc : Nat} {L : List (Option Value)} {st : List Value} {w : List jC} {Q : jQ} {x y : Int64} (hdg : decode M.2.1 pc = .ok (.lmul, 1)) (k : J X M d kc ks (pc + 1) L (.long (x * y) :: st) w Q) : J X M d kc ks pc L (.long y :: .long x :: st) w Q :=
  fun p e R s m args below meth c C H locs cells slots ls hH hS hL h1 h2 => lv_lmul C.1 C.2.1 hdg (k p e R s m args below meth c C H locs cells slots ls hH hS hL h1 h2)
theorem J_lcmp {X : jX} {M : jM} {d kc ks pc : Nat} {L : List (Option Value)} {st : List Value} {w : List jC} {Q : jQ} {x y : Int64} (hdg : decode M.2.1 pc = .ok (.lcmp, 1)) (k : J X M d kc ks (pc + 1) L (.int (lg_cmp x y) :: st) w Q) : J X M d kc ks pc L (.long y :: .long x :: st) w Q :=
  fun p e R s m args below meth c C H locs cells slots ls hH hS hL h1 h2 => W.lcmp C.1 C.2.1 hdg (k p e R s m args below meth c C H locs cells slots ls hH hS hL h1 h2)
theorem J_idiv {X : jX} {M : jM} {d kc ks pc : Nat} {L : List (Option Value)} {st : List Value} {w : List jC} {Q : jQ} {x y : Int32} (hdg : decode M.2.1 pc = .ok (.idiv, 1)) (hne : ¬ y = 0) (k : J X M d kc ks (pc + 1) L (.int (x / y) :: st) w Q) : J X M d kc ks pc L (.int y :: .int x :: st) w Q :=
  fun p e R s m args below meth c C H locs cells slots ls hH hS hL h1 h2 => lv_idiv C.1 C.2.1 hdg hne (k p e R s m args below meth c C H locs cells slots ls hH hS hL h1 h2)
theorem J_irem {X : jX} {M : jM} {d kc ks pc : Nat} {L : List (Option Value)} {st : List Value} {w : List jC} {Q : jQ} {x y : Int32} (hdg : decode M.2.1 pc = .ok (.irem, 1)) (hne : ¬ y = 0) (k : J X M d kc ks (pc + 1) L (.int (x - x / y * y) :: st) w Q) : J X M d kc ks pc L (.int y :: .int x :: st) w Q :=
  fun p e R s m args below meth c C H locs cells slots ls hH hS hL h1 h2 => lv_irem C.1 C.2.1 hdg hne (k p e R s m args below meth c C H locs cells slots ls hH hS hL h1 h2)
theorem J_iconst {X : jX} {M : jM} {d kc ks pc : Nat} {L : List (Option Value)} {st : List Value} {w : List jC} {Q : jQ} {n : Int} {v : Int32} (hdg : decode M.2.1 pc = .ok (.iconst n, 1)) (hv : Int32.ofInt n = v) (k : J X M d kc ks (pc + 1) L (.int v :: st) w Q) : J X M d kc ks pc L st w Q :=
  fun p e R s m args below meth c C H locs cells slots ls hH hS hL h1 h2 => lv_iconst C.1 C.2.1 hdg hv (k p e R s m args below meth c C H locs cells slots ls hH hS hL h1 h2)
theorem J_bipush {X : jX} {M : jM} {d kc ks pc : Nat} {L : List (Option Value)} {st : List Value} {w : List jC} {Q : jQ} {n : Int} {v : Int32} (hdg : decode M.2.1 pc = .ok (.bipush n, 2)) (hv : (Int8.ofInt n).toInt32 = v) (k : J X M d kc ks (pc + 2) L (.int v :: st) w Q) : J X M d kc ks pc L st w Q :=
  fun p e R s m args below meth c C H locs cells slots ls hH hS hL h1 h2 => lv_bipush C.1 C.2.1 hdg hv (k p e R s m args below meth c C H locs cells slots ls hH hS hL h1 h2)
theorem J_sipush {X : jX} {M : jM} {d kc ks pc : Nat} {L : List (Option Value)} {st : List Value} {w : List jC} {Q : jQ} {n : Int} {v : Int32} (hdg : decode M.2.1 pc = .ok (.sipush n, 3)) (hv : (Int16.ofInt n).toInt32 = v) (k : J X M d kc ks (pc + 3) L (.int v :: st) w Q) : J X M d kc ks pc L st w Q :=
  fun p e R s m args below meth c C H locs cells slots ls hH hS hL h1 h2 => lv_sipush C.1 C.2.1 hdg hv (k p e R s m args below meth c C H locs cells slots ls hH hS hL h1 h2)
theorem J_lconst {X : jX} {M : jM} {d kc ks pc : Nat} {L : List (Option Value)} {st : List Value} {w : List jC} {Q : jQ} {n : Fin 2} {v : Int64} (hdg : decode M.2.1 pc = .ok (.lconst n, 1)) (hv : Int64.ofNat (n : Nat) = v) (k : J X M d kc ks (pc + 1) L (.long v :: st) w Q) : J X M d kc ks pc L st w Q :=
  fun p e R s m args below meth c C H locs cells slots ls hH hS hL h1 h2 => lv_lconst C.1 C.2.1 hdg hv (k p e R s m args below meth c C H locs cells slots ls hH hS hL h1 h2)
theorem J_iload_n {X : jX} {M : jM} {d kc ks pc : Nat} {L : List (Option Value)} {st : List Value} {w : List jC} {Q : jQ} {k : Fin 4} {i : Nat} {x : Int32} (hdg : decode M.2.1 pc = .ok (.iload_n k, 1)) (hi : (k : Nat) = i) (hl : L[i]? = some (some (.int x))) (kk : J X M d kc ks (pc + 1) L (.int x :: st) w Q) : J X M d kc ks pc L st w Q :=
  fun p e R s m args below meth c C H locs cells slots ls hH hS hL h1 h2 => lv_iload_n C.1 C.2.1 hdg hi (hL.2.2 i (.int x) hl) (kk p e R s m args below meth c C H locs cells slots ls hH hS hL h1 h2)
theorem J_iload {X : jX} {M : jM} {d kc ks pc : Nat} {L : List (Option Value)} {st : List Value} {w : List jC} {Q : jQ} {i : Nat} {x : Int32} (hdg : decode M.2.1 pc = .ok (.iload i, 2)) (hl : L[i]? = some (some (.int x))) (kk : J X M d kc ks (pc + 2) L (.int x :: st) w Q) : J X M d kc ks pc L st w Q :=
  fun p e R s m args below meth c C H locs cells slots ls hH hS hL h1 h2 => lv_iload C.1 C.2.1 hdg (hL.2.2 i (.int x) hl) (kk p e R s m args below meth c C H locs cells slots ls hH hS hL h1 h2)
theorem J_lload_n {X : jX} {M : jM} {d kc ks pc : Nat} {L : List (Option Value)} {st : List Value} {w : List jC} {Q : jQ} {k : Fin 4} {i : Nat} {x : Int64} (hdg : decode M.2.1 pc = .ok (.lload_n k, 1)) (hi : (k : Nat) = i) (hl : L[i]? = some (some (.long x))) (kk : J X M d kc ks (pc + 1) L (.long x :: st) w Q) : J X M d kc ks pc L st w Q :=
  fun p e R s m args below meth c C H locs cells slots ls hH hS hL h1 h2 => lv_lload_n C.1 C.2.1 hdg hi (hL.2.2 i (.long x) hl) (kk p e R s m args below meth c C H locs cells slots ls hH hS hL h1 h2)
theorem J_lload {X : jX} {M : jM} {d kc ks pc : Nat} {L : List (Option Value)} {st : List Value} {w : List jC} {Q : jQ} {i : Nat} {x : Int64} (hdg : decode M.2.1 pc = .ok (.lload i, 2)) (hl : L[i]? = some (some (.long x))) (kk : J X M d kc ks (pc + 2) L (.long x :: st) w Q) : J X M d kc ks pc L st w Q :=
  fun p e R s m args below meth c C H locs cells slots ls hH hS hL h1 h2 => lv_lload C.1 C.2.1 hdg (hL.2.2 i (.long x) hl) (kk p e R s m args below meth c C H locs cells slots ls hH hS hL h1 h2)
def jRf (v : Value) : Bool := match v with
  | .ref _ => true
  | .retAddr _ => true
  | _ => false
theorem jRf_spec {X : jX} {v : Value} (h : jRf v = true) : ∃ a, jT X v = .ref a := by
  cases v <;> first | exact ⟨_, rfl⟩ | exact absurd h Bool.false_ne_true
theorem J_aload_n {X : jX} {M : jM} {d kc ks pc : Nat} {L : List (Option Value)} {st : List Value} {w : List jC} {Q : jQ} {k : Fin 4} {i : Nat} {v : Value} (hdg : decode M.2.1 pc = .ok (.aload_n k, 1)) (hi : (k : Nat) = i) (hl : L[i]? = some (some v)) (hr : jRf v = true) (kk : J X M d kc ks (pc + 1) L (v :: st) w Q) : J X M d kc ks pc L st w Q := by
  intro p e R s m args below meth c C H locs cells slots ls hH hS hL h1 h2
  obtain ⟨a, ha⟩ := jRf_spec (X := X) hr
  have hx := hL.2.2 i v hl
  rw [ha] at hx
  refine lv_aload_n C.1 C.2.1 hdg hi hx ?_
  have := kk p e R s m args below meth c C H locs cells slots ls hH hS hL h1 h2
  rw [List.map_cons, ha] at this
  exact this
theorem J_aload {X : jX} {M : jM} {d kc ks pc : Nat} {L : List (Option Value)} {st : List Value} {w : List jC} {Q : jQ} {i : Nat} {v : Value} (hdg : decode M.2.1 pc = .ok (.aload i, 2)) (hl : L[i]? = some (some v)) (hr : jRf v = true) (kk : J X M d kc ks (pc + 2) L (v :: st) w Q) : J X M d kc ks pc L st w Q := by
  intro p e R s m args below meth c C H locs cells slots ls hH hS hL h1 h2
  obtain ⟨a, ha⟩ := jRf_spec (X := X) hr
  have hx := hL.2.2 i v hl
  rw [ha] at hx
  refine lv_aload C.1 C.2.1 hdg hx ?_
  have := kk p e R s m args below meth c C H locs cells slots ls hH hS hL h1 h2
  rw [List.map_cons, ha] at this
  exact this
theorem J_istore_n {X : jX} {M : jM} {d kc ks pc : Nat} {L : List (Option Value)} {st : List Value} {w : List jC} {Q : jQ} {k : Fin 4} {i : Nat} {x : Int32} (hdg : decode M.2.1 pc = .ok (.istore_n k, 1)) (hi : (k : Nat) = i) (hn : i < M.2.2.1) (hok : jOk1 L i = true) (kk : J X M d kc ks (pc + 1) (L.set i (some (.int x))) st w Q) : J X M d kc ks pc L (.int x :: st) w Q :=
  fun p e R s m args below meth c C H locs cells slots ls hH hS hL h1 h2 => lv_istore_n C.1 C.2.1 hdg hi (jL_has.mp hL) hn rfl (fun ls' h' => kk p e R s m args below meth c C H locs cells slots ls' hH hS (jL_set1 (v := .int x) hok h') h1 h2)
theorem J_istore {X : jX} {M : jM} {d kc ks pc : Nat} {L : List (Option Value)} {st : List Value} {w : List jC} {Q : jQ} {i : Nat} {x : Int32} (hdg : decode M.2.1 pc = .ok (.istore i, 2)) (hn : i < M.2.2.1) (hok : jOk1 L i = true) (kk : J X M d kc ks (pc + 2) (L.set i (some (.int x))) st w Q) : J X M d kc ks pc L (.int x :: st) w Q :=
  fun p e R s m args below meth c C H locs cells slots ls hH hS hL h1 h2 => lv_istore C.1 C.2.1 hdg (jL_has.mp hL) hn rfl (fun ls' h' => kk p e R s m args below meth c C H locs cells slots ls' hH hS (jL_set1 (v := .int x) hok h') h1 h2)
theorem J_lstore_n {X : jX} {M : jM} {d kc ks pc : Nat} {L : List (Option Value)} {st : List Value} {w : List jC} {Q : jQ} {k : Fin 4} {i : Nat} {x : Int64} (hdg : decode M.2.1 pc = .ok (.lstore_n k, 1)) (hi : (k : Nat) = i) (hn : i + 1 < M.2.2.1) (hok : jOk1 L i = true) (kk : J X M d kc ks (pc + 1) ((L.set i (some (.long x))).set (i + 1) none) st w Q) : J X M d kc ks pc L (.long x :: st) w Q :=
  fun p e R s m args below meth c C H locs cells slots ls hH hS hL h1 h2 => lv_lstore_n C.1 C.2.1 hdg hi (jL_has.mp hL) hn rfl (fun ls' h' => kk p e R s m args below meth c C H locs cells slots ls' hH hS (jL_set2 (v := .long x) hok h') h1 h2)
theorem J_lstore {X : jX} {M : jM} {d kc ks pc : Nat} {L : List (Option Value)} {st : List Value} {w : List jC} {Q : jQ} {i : Nat} {x : Int64} (hdg : decode M.2.1 pc = .ok (.lstore i, 2)) (hn : i + 1 < M.2.2.1) (hok : jOk1 L i = true) (kk : J X M d kc ks (pc + 2) ((L.set i (some (.long x))).set (i + 1) none) st w Q) : J X M d kc ks pc L (.long x :: st) w Q :=
  fun p e R s m args below meth c C H locs cells slots ls hH hS hL h1 h2 => lv_lstore C.1 C.2.1 hdg (jL_has.mp hL) hn rfl (fun ls' h' => kk p e R s m args below meth c C H locs cells slots ls' hH hS (jL_set2 (v := .long x) hok h') h1 h2)
theorem J_astore_n {X : jX} {M : jM} {d kc ks pc : Nat} {L : List (Option Value)} {st : List Value} {w : List jC} {Q : jQ} {k : Fin 4} {i : Nat} {v : Value} (hdg : decode M.2.1 pc = .ok (.astore_n k, 1)) (hi : (k : Nat) = i) (hn : i < M.2.2.1) (hr : jRf v = true) (hok : jOk1 L i = true) (kk : J X M d kc ks (pc + 1) (L.set i (some v)) st w Q) : J X M d kc ks pc L (v :: st) w Q := by
  intro p e R s m args below meth c C H locs cells slots ls hH hS hL h1 h2
  obtain ⟨a, ha⟩ := jRf_spec (X := X) hr
  rw [List.map_cons, ha]
  exact lv_astore_n C.1 C.2.1 hdg hi (jL_has.mp hL) hn rfl (fun ls' h' => kk p e R s m args below meth c C H locs cells slots ls' hH hS (jL_set1 (v := v) hok (by rw [ha]; exact h')) h1 h2)
theorem J_astore {X : jX} {M : jM} {d kc ks pc : Nat} {L : List (Option Value)} {st : List Value} {w : List jC} {Q : jQ} {i : Nat} {v : Value} (hdg : decode M.2.1 pc = .ok (.astore i, 2)) (hn : i < M.2.2.1) (hr : jRf v = true) (hok : jOk1 L i = true) (kk : J X M d kc ks (pc + 2) (L.set i (some v)) st w Q) : J X M d kc ks pc L (v :: st) w Q := by
  intro p e R s m args below meth c C H locs cells slots ls hH hS hL h1 h2
  obtain ⟨a, ha⟩ := jRf_spec (X := X) hr
  rw [List.map_cons, ha]
  exact lv_astore C.1 C.2.1 hdg (jL_has.mp hL) hn rfl (fun ls' h' => kk p e R s m args below meth c C H locs cells slots ls' hH hS (jL_set1 (v := v) hok (by rw [ha]; exact h')) h1 h2)
theorem J_iinc {X : jX} {M : jM} {d kc ks pc : Nat} {L : List (Option Value)} {st : List Value} {w : List jC} {Q : jQ} {i : Nat} {n : Int} {x v : Int32} (hdg : decode M.2.1 pc = .ok (.iinc i n, 3)) (hl : L[i]? = some (some (.int x))) (hv : x + Int32.ofInt n = v) (hn : i < M.2.2.1) (hok : jOk1 L i = true) (kk : J X M d kc ks (pc + 3) (L.set i (some (.int v))) st w Q) : J X M d kc ks pc L st w Q := by
  intro p e R s m args below meth c C H locs cells slots ls hH hS hL h1 h2
  obtain ⟨k, hk⟩ := List.getElem?_of_mem (jAs_mem (X := X) (L := L) (q := (i, .int x)) |>.mpr ⟨.int x, hl, rfl⟩)
  exact lv_iinc C.1 C.2.1 hdg (jL_has.mp hL) hk hv hn rfl (fun ls' h' => kk p e R s m args below meth c C H locs cells slots ls' hH hS (jL_set1 (v := .int v) hok h') h1 h2)
theorem J_if_eq {X : jX} {M : jM} {d kc ks pc : Nat} {L : List (Option Value)} {st : List Value} {w : List jC} {Q : jQ} {x : Int32} {off : Int} {tgt : Nat} (hdg : decode M.2.1 pc = .ok (.ifCond .eq off, 3)) (ht : (pc : Int) + off = (tgt : Int)) (kt : x = 0 → J X M d kc ks tgt L st w Q) (kf : ¬ x = 0 → J X M d kc ks (pc + 3) L st w Q) : J X M d kc ks pc L (.int x :: st) w Q :=
  fun p e R s m args below meth c C H locs cells slots ls hH hS hL h1 h2 => lv_if_eq C.1 C.2.1 hdg ht (fun h => kt h p e R s m args below meth c C H locs cells slots ls hH hS hL h1 h2) (fun h => kf h p e R s m args below meth c C H locs cells slots ls hH hS hL h1 h2)
theorem J_icmp_eq {X : jX} {M : jM} {d kc ks pc : Nat} {L : List (Option Value)} {st : List Value} {w : List jC} {Q : jQ} {x y : Int32} {off : Int} {tgt : Nat} (hdg : decode M.2.1 pc = .ok (.if_icmp .eq off, 3)) (ht : (pc : Int) + off = (tgt : Int)) (kt : x = y → J X M d kc ks tgt L st w Q) (kf : ¬ x = y → J X M d kc ks (pc + 3) L st w Q) : J X M d kc ks pc L (.int y :: .int x :: st) w Q :=
  fun p e R s m args below meth c C H locs cells slots ls hH hS hL h1 h2 => lv_icmp_eq C.1 C.2.1 hdg ht (fun h => kt h p e R s m args below meth c C H locs cells slots ls hH hS hL h1 h2) (fun h => kf h p e R s m args below meth c C H locs cells slots ls hH hS hL h1 h2)
theorem J_if_ne {X : jX} {M : jM} {d kc ks pc : Nat} {L : List (Option Value)} {st : List Value} {w : List jC} {Q : jQ} {x : Int32} {off : Int} {tgt : Nat} (hdg : decode M.2.1 pc = .ok (.ifCond .ne off, 3)) (ht : (pc : Int) + off = (tgt : Int)) (kt : ¬ x = 0 → J X M d kc ks tgt L st w Q) (kf : x = 0 → J X M d kc ks (pc + 3) L st w Q) : J X M d kc ks pc L (.int x :: st) w Q :=
  fun p e R s m args below meth c C H locs cells slots ls hH hS hL h1 h2 => lv_if_ne C.1 C.2.1 hdg ht (fun h => kt h p e R s m args below meth c C H locs cells slots ls hH hS hL h1 h2) (fun h => kf h p e R s m args below meth c C H locs cells slots ls hH hS hL h1 h2)
theorem J_icmp_ne {X : jX} {M : jM} {d kc ks pc : Nat} {L : List (Option Value)} {st : List Value} {w : List jC} {Q : jQ} {x y : Int32} {off : Int} {tgt : Nat} (hdg : decode M.2.1 pc = .ok (.if_icmp .ne off, 3)) (ht : (pc : Int) + off = (tgt : Int)) (kt : ¬ x = y → J X M d kc ks tgt L st w Q) (kf : x = y → J X M d kc ks (pc + 3) L st w Q) : J X M d kc ks pc L (.int y :: .int x :: st) w Q :=
  fun p e R s m args below meth c C H locs cells slots ls hH hS hL h1 h2 => lv_icmp_ne C.1 C.2.1 hdg ht (fun h => kt h p e R s m args below meth c C H locs cells slots ls hH hS hL h1 h2) (fun h => kf h p e R s m args below meth c C H locs cells slots ls hH hS hL h1 h2)
theorem J_if_lt {X : jX} {M : jM} {d kc ks pc : Nat} {L : List (Option Value)} {st : List Value} {w : List jC} {Q : jQ} {x : Int32} {off : Int} {tgt : Nat} (hdg : decode M.2.1 pc = .ok (.ifCond .lt off, 3)) (ht : (pc : Int) + off = (tgt : Int)) (kt : x < 0 → J X M d kc ks tgt L st w Q) (kf : ¬ x < 0 → J X M d kc ks (pc + 3) L st w Q) : J X M d kc ks pc L (.int x :: st) w Q :=
  fun p e R s m args below meth c C H locs cells slots ls hH hS hL h1 h2 => lv_if_lt C.1 C.2.1 hdg ht (fun h => kt h p e R s m args below meth c C H locs cells slots ls hH hS hL h1 h2) (fun h => kf h p e R s m args below meth c C H locs cells slots ls hH hS hL h1 h2)
theorem J_icmp_lt {X : jX} {M : jM} {d kc ks pc : Nat} {L : List (Option Value)} {st : List Value} {w : List jC} {Q : jQ} {x y : Int32} {off : Int} {tgt : Nat} (hdg : decode M.2.1 pc = .ok (.if_icmp .lt off, 3)) (ht : (pc : Int) + off = (tgt : Int)) (kt : x < y → J X M d kc ks tgt L st w Q) (kf : ¬ x < y → J X M d kc ks (pc + 3) L st w Q) : J X M d kc ks pc L (.int y :: .int x :: st) w Q :=
  fun p e R s m args below meth c C H locs cells slots ls hH hS hL h1 h2 => lv_icmp_lt C.1 C.2.1 hdg ht (fun h => kt h p e R s m args below meth c C H locs cells slots ls hH hS hL h1 h2) (fun h => kf h p e R s m args below meth c C H locs cells slots ls hH hS hL h1 h2)
theorem J_if_ge {X : jX} {M : jM} {d kc ks pc : Nat} {L : List (Option Value)} {st : List Value} {w : List jC} {Q : jQ} {x : Int32} {off : Int} {tgt : Nat} (hdg : decode M.2.1 pc = .ok (.ifCond .ge off, 3)) (ht : (pc : Int) + off = (tgt : Int)) (kt : 0 ≤ x → J X M d kc ks tgt L st w Q) (kf : ¬ 0 ≤ x → J X M d kc ks (pc + 3) L st w Q) : J X M d kc ks pc L (.int x :: st) w Q :=
  fun p e R s m args below meth c C H locs cells slots ls hH hS hL h1 h2 => lv_if_ge C.1 C.2.1 hdg ht (fun h => kt h p e R s m args below meth c C H locs cells slots ls hH hS hL h1 h2) (fun h => kf h p e R s m args below meth c C H locs cells slots ls hH hS hL h1 h2)
theorem J_icmp_ge {X : jX} {M : jM} {d kc ks pc : Nat} {L : List (Option Value)} {st : List Value} {w : List jC} {Q : jQ} {x y : Int32} {off : Int} {tgt : Nat} (hdg : decode M.2.1 pc = .ok (.if_icmp .ge off, 3)) (ht : (pc : Int) + off = (tgt : Int)) (kt : y ≤ x → J X M d kc ks tgt L st w Q) (kf : ¬ y ≤ x → J X M d kc ks (pc + 3) L st w Q) : J X M d kc ks pc L (.int y :: .int x :: st) w Q :=
  fun p e R s m args below meth c C H locs cells slots ls hH hS hL h1 h2 => lv_icmp_ge C.1 C.2.1 hdg ht (fun h => kt h p e R s m args below meth c C H locs cells slots ls hH hS hL h1 h2) (fun h => kf h p e R s m args below meth c C H locs cells slots ls hH hS hL h1 h2)
theorem J_if_gt {X : jX} {M : jM} {d kc ks pc : Nat} {L : List (Option Value)} {st : List Value} {w : List jC} {Q : jQ} {x : Int32} {off : Int} {tgt : Nat} (hdg : decode M.2.1 pc = .ok (.ifCond .gt off, 3)) (ht : (pc : Int) + off = (tgt : Int)) (kt : 0 < x → J X M d kc ks tgt L st w Q) (kf : ¬ 0 < x → J X M d kc ks (pc + 3) L st w Q) : J X M d kc ks pc L (.int x :: st) w Q :=
  fun p e R s m args below meth c C H locs cells slots ls hH hS hL h1 h2 => lv_if_gt C.1 C.2.1 hdg ht (fun h => kt h p e R s m args below meth c C H locs cells slots ls hH hS hL h1 h2) (fun h => kf h p e R s m args below meth c C H locs cells slots ls hH hS hL h1 h2)
theorem J_icmp_gt {X : jX} {M : jM} {d kc ks pc : Nat} {L : List (Option Value)} {st : List Value} {w : List jC} {Q : jQ} {x y : Int32} {off : Int} {tgt : Nat} (hdg : decode M.2.1 pc = .ok (.if_icmp .gt off, 3)) (ht : (pc : Int) + off = (tgt : Int)) (kt : y < x → J X M d kc ks tgt L st w Q) (kf : ¬ y < x → J X M d kc ks (pc + 3) L st w Q) : J X M d kc ks pc L (.int y :: .int x :: st) w Q :=
  fun p e R s m args below meth c C H locs cells slots ls hH hS hL h1 h2 => lv_icmp_gt C.1 C.2.1 hdg ht (fun h => kt h p e R s m args below meth c C H locs cells slots ls hH hS hL h1 h2) (fun h => kf h p e R s m args below meth c C H locs cells slots ls hH hS hL h1 h2)
theorem J_if_le {X : jX} {M : jM} {d kc ks pc : Nat} {L : List (Option Value)} {st : List Value} {w : List jC} {Q : jQ} {x : Int32} {off : Int} {tgt : Nat} (hdg : decode M.2.1 pc = .ok (.ifCond .le off, 3)) (ht : (pc : Int) + off = (tgt : Int)) (kt : x ≤ 0 → J X M d kc ks tgt L st w Q) (kf : ¬ x ≤ 0 → J X M d kc ks (pc + 3) L st w Q) : J X M d kc ks pc L (.int x :: st) w Q :=
  fun p e R s m args below meth c C H locs cells slots ls hH hS hL h1 h2 => lv_if_le C.1 C.2.1 hdg ht (fun h => kt h p e R s m args below meth c C H locs cells slots ls hH hS hL h1 h2) (fun h => kf h p e R s m args below meth c C H locs cells slots ls hH hS hL h1 h2)
theorem J_icmp_le {X : jX} {M : jM} {d kc ks pc : Nat} {L : List (Option Value)} {st : List Value} {w : List jC} {Q : jQ} {x y : Int32} {off : Int} {tgt : Nat} (hdg : decode M.2.1 pc = .ok (.if_icmp .le off, 3)) (ht : (pc : Int) + off = (tgt : Int)) (kt : x ≤ y → J X M d kc ks tgt L st w Q) (kf : ¬ x ≤ y → J X M d kc ks (pc + 3) L st w Q) : J X M d kc ks pc L (.int y :: .int x :: st) w Q :=
  fun p e R s m args below meth c C H locs cells slots ls hH hS hL h1 h2 => lv_icmp_le C.1 C.2.1 hdg ht (fun h => kt h p e R s m args below meth c C H locs cells slots ls hH hS hL h1 h2) (fun h => kf h p e R s m args below meth c C H locs cells slots ls hH hS hL h1 h2)
theorem J_goto {X : jX} {M : jM} {d kc ks pc : Nat} {L : List (Option Value)} {st : List Value} {w : List jC} {Q : jQ} {off : Int} {tgt : Nat} (hdg : decode M.2.1 pc = .ok (.goto off, 3)) (ht : (pc : Int) + off = (tgt : Int)) (k : J X M d kc ks tgt L st w Q) : J X M d kc ks pc L st w Q :=
  fun p e R s m args below meth c C H locs cells slots ls hH hS hL h1 h2 => lv_goto C.1 C.2.1 hdg ht (k p e R s m args below meth c C H locs cells slots ls hH hS hL h1 h2)
theorem J_ifnonnull {X : jX} {M : jM} {d kc ks pc : Nat} {L : List (Option Value)} {st : List Value} {w : List jC} {Q : jQ} {v : Value} {off : Int} {tgt : Nat} (hdg : decode M.2.1 pc = .ok (.ifnonnull off, 3)) (ht : (pc : Int) + off = (tgt : Int)) (hr : jRf v = true) (k : J X M d kc ks tgt L st w Q) : J X M d kc ks pc L (v :: st) w Q := by
  intro p e R s m args below meth c C H locs cells slots ls hH hS hL h1 h2
  obtain ⟨a, ha⟩ := jRf_spec (X := X) hr
  rw [List.map_cons, ha]
  exact lv_ifnonnull C.1 C.2.1 hdg ht (k p e R s m args below meth c C H locs cells slots ls hH hS hL h1 h2)
theorem J_dup {X : jX} {M : jM} {d kc ks pc : Nat} {L : List (Option Value)} {st : List Value} {w : List jC} {Q : jQ} {v : Value} (hdg : decode M.2.1 pc = .ok (.dup, 1)) (hv : v.category = 1) (k : J X M d kc ks (pc + 1) L (v :: v :: st) w Q) : J X M d kc ks pc L (v :: st) w Q :=
  fun p e R s m args below meth c C H locs cells slots ls hH hS hL h1 h2 => lv_dup C.1 C.2.1 hdg (by rw [jT_cat]; exact hv) (k p e R s m args below meth c C H locs cells slots ls hH hS hL h1 h2)
theorem J_pop {X : jX} {M : jM} {d kc ks pc : Nat} {L : List (Option Value)} {st : List Value} {w : List jC} {Q : jQ} {v : Value} (hdg : decode M.2.1 pc = .ok (.pop, 1)) (hv : v.category = 1) (k : J X M d kc ks (pc + 1) L st w Q) : J X M d kc ks pc L (v :: st) w Q :=
  fun p e R s m args below meth c C H locs cells slots ls hH hS hL h1 h2 => lv_pop C.1 C.2.1 hdg (by rw [jT_cat]; exact hv) (k p e R s m args below meth c C H locs cells slots ls hH hS hL h1 h2)
theorem J_dup_x1 {X : jX} {M : jM} {d kc ks pc : Nat} {L : List (Option Value)} {st : List Value} {w : List jC} {Q : jQ} {u v : Value} (hdg : decode M.2.1 pc = .ok (.dup_x1, 1)) (hu : u.category = 1) (hv : v.category = 1) (k : J X M d kc ks (pc + 1) L (u :: v :: u :: st) w Q) : J X M d kc ks pc L (u :: v :: st) w Q :=
  fun p e R s m args below meth c C H locs cells slots ls hH hS hL h1 h2 => lv_dup_x1 C.1 C.2.1 hdg (by rw [jT_cat]; exact hu) (by rw [jT_cat]; exact hv) (k p e R s m args below meth c C H locs cells slots ls hH hS hL h1 h2)
theorem J_dup2 {X : jX} {M : jM} {d kc ks pc : Nat} {L : List (Option Value)} {st : List Value} {w : List jC} {Q : jQ} {u v : Value} (hdg : decode M.2.1 pc = .ok (.dup2, 1)) (hu : u.category = 1) (hv : v.category = 1) (k : J X M d kc ks (pc + 1) L (u :: v :: u :: v :: st) w Q) : J X M d kc ks pc L (u :: v :: st) w Q :=
  fun p e R s m args below meth c C H locs cells slots ls hH hS hL h1 h2 => lv_dup2_11 C.1 C.2.1 hdg (by rw [jT_cat]; exact hu) (by rw [jT_cat]; exact hv) (k p e R s m args below meth c C H locs cells slots ls hH hS hL h1 h2)
theorem J_tableOut {X : jX} {M : jM} {d kc ks pc : Nat} {L : List (Option Value)} {st : List Value} {w : List jC} {Q : jQ} {dflt lo hi : Int} {offs : Array Int} {len : Nat} {x : Int32} {tgt : Nat} (hdg : decode M.2.1 pc = .ok (.tableswitch dflt lo hi offs, len)) (h : x.toInt < lo ∨ hi < x.toInt) (ht : (pc : Int) + dflt = (tgt : Int)) (k : J X M d kc ks tgt L st w Q) : J X M d kc ks pc L (.int x :: st) w Q :=
  fun p e R s m args below meth c C H locs cells slots ls hH hS hL h1 h2 => lv_tableOut C.1 C.2.1 hdg h ht (k p e R s m args below meth c C H locs cells slots ls hH hS hL h1 h2)
theorem J_tableIn {X : jX} {M : jM} {d kc ks pc : Nat} {L : List (Option Value)} {st : List Value} {w : List jC} {Q : jQ} {dflt lo hi : Int} {offs : Array Int} {len : Nat} {x : Int32} {off : Int} {tgt : Nat} (hdg : decode M.2.1 pc = .ok (.tableswitch dflt lo hi offs, len)) (hl : ¬ x.toInt < lo) (hh : ¬ hi < x.toInt) (ho : offs[(x.toInt - lo).toNat]? = some off) (ht : (pc : Int) + off = (tgt : Int)) (k : J X M d kc ks tgt L st w Q) : J X M d kc ks pc L (.int x :: st) w Q :=
  fun p e R s m args below meth c C H locs cells slots ls hH hS hL h1 h2 => lv_tableIn C.1 C.2.1 hdg hl hh ho ht (k p e R s m args below meth c C H locs cells slots ls hH hS hL h1 h2)
theorem J_ldc {X : jX} {M : jM} {d kc ks pc : Nat} {L : List (Option Value)} {st : List Value} {w : List jC} {Q : jQ} {index : Nat} {v : Int32} (hdg : decode M.2.1 pc = .ok (.ldc index, 2)) (hc : Cond.constant M.1.cls index v ∈ jK) (k : J X M d kc ks (pc + 2) L (.int v :: st) w Q) : J X M d kc ks pc L st w Q :=
  fun p e R s m args below meth c C H locs cells slots ls hH hS hL h1 h2 => lv_ldc C.1 C.2.1 C.2.2.2.1 (C.2.2.2.2.2.2.2.2.1.word hc args) hdg (k p e R s m args below meth c C H locs cells slots ls hH hS hL h1 h2)
theorem J_ldc2 {X : jX} {M : jM} {d kc ks pc : Nat} {L : List (Option Value)} {st : List Value} {w : List jC} {Q : jQ} {index : Nat} {v : Int64} (hdg : decode M.2.1 pc = .ok (.ldc2_w index, 3)) (hc : Cond.constantLong M.1.cls index v ∈ jK) (k : J X M d kc ks (pc + 3) L (.long v :: st) w Q) : J X M d kc ks pc L st w Q :=
  fun p e R s m args below meth c C H locs cells slots ls hH hS hL h1 h2 => lv_ldc2 C.1 C.2.1 C.2.2.2.1 (C.2.2.2.2.2.2.2.2.1.word hc args) hdg (k p e R s m args below meth c C H locs cells slots ls hH hS hL h1 h2)
end
section
/-! rules that read and write cells -/
section JHEAP
variable {X : jX} {M : jM} {d kc ks pc : Nat} {L : List (Option Value)} {st : List Value} {w : List jC} {Q : jQ}
theorem jA_new {X : jX} {s : State} (h : X.2.1 ≤ s.heap.size) : ∀ q, s.heap.size ≤ q → jA X q := fun q hq => Nat.le_trans h hq
/-- a cell of the world, as the kit's one-cell picture -/
theorem jH_at {X : jX} {w : List jC} {H : Heap} (h : jH X w H) {i : Nat} {c : jC} (hi : w[i]? = some c) (hc : ∀ fs, c ≠ .inr (99, fs)) : va_P X.2.2.2.1 vwCl [(X.2.1 + i, jE X c)] H := by
  intro k q hq
  have hz : k < 1 := (List.getElem?_eq_some_iff.mp hq).1
  rw [show k = 0 by omega] at hq
  cases hq
  exact h.2 i c hi hc
theorem jH_set {X : jX} {w : List jC} {H H1 : Heap} {i : Nat} {c0 c : jC} (h : jH X w H) (hi : w[i]? = some c0) (hz : H1.size = H.size) (ho : ∀ q, q ≠ X.2.1 + i → H1[q]? = H[q]?) (hc : va_at X.2.2.2.1 vwCl (X.2.1 + i, jE X c) H1) : jH X (w.set i c) H1 := by
  refine ⟨by rw [hz, h.1, List.length_set], fun j c2 hj hn => ?_⟩
  by_cases hji : j = i
  · subst hji
    rw [List.getElem?_set_self (List.getElem?_eq_some_iff.mp hi).1] at hj
    cases hj
    exact hc
  · rw [List.getElem?_set_ne (fun e => hji e.symm)] at hj
    exact (h.2 j c2 hj hn).kept (ho _ (by show X.2.1 + j ≠ X.2.1 + i; omega))
theorem jH_push {X : jX} {w : List jC} {H H1 : Heap} {c : jC} (h : jH X w H) (hz : H1.size = H.size + 1) (ho : ∀ q, q < H.size → H1[q]? = H[q]?) (hc : (∀ fs, c ≠ .inr (99, fs)) → va_at X.2.2.2.1 vwCl (X.2.1 + w.length, jE X c) H1) : jH X (w ++ [c]) H1 := by
  refine ⟨by rw [hz, h.1, List.length_append, List.length_singleton]; omega, fun j c2 hj hn => ?_⟩
  by_cases hjl : j < w.length
  · rw [List.getElem?_append_left hjl] at hj
    exact (h.2 j c2 hj hn).kept (ho _ (by rw [h.1]; show X.2.1 + j < _; omega))
  · rw [List.getElem?_append_right (by omega)] at hj
    have hz1 : j - w.length < 1 := (List.getElem?_eq_some_iff.mp hj).1
    have e : j = w.length := by omega
    subst e
    rw [Nat.sub_self] at hj
    cases hj
    exact hc hn
theorem jH_lt {X : jX} {w : List jC} {H : Heap} (h : jH X w H) {i : Nat} {c : jC} (hi : w[i]? = some c) : X.2.1 + i < H.size := by
  have := (List.getElem?_eq_some_iff.mp hi).1
  rw [h.1]; omega
/-- a class of ours: its number, name, fields -/
def jCl (ci : Nat) (C : String) (T : u_T) (N : Nat) (ty : Nat → FieldType) : Prop :=
  vwCl[ci]? = some (C, T, N) ∧ (∀ w ∈ u_ws C T N, w ∈ jK) ∧ (∀ k, k < N → parseFieldDescriptor (T k).2.2.1 = some (ty k)) ∧ (∀ a, a < N → ∀ b, b < N → a ≠ b → (T a).2.1 ≠ (T b).2.1) ∧ ci < 99
theorem J_get {ci : Nat} {C : String} {T : u_T} {N : Nat} {ty : Nat → FieldType} {index k a : Nat} {fs : List Value} {v : Value} (hdg : decode M.2.1 pc = .ok (.getfield index, 3)) (hC : jCl ci C T N ty) (hk : k < N) (hl : Cond.fieldLink M.1.cls index (T k).1 (T k).2.1 (T k).2.2.1 ∈ jK)
    (hw : w[a]? = some (.inr (ci, fs))) (hv : fs[k]? = some v) (kk : J X M d kc ks (pc + 3) L (v :: st) w Q) : J X M d kc ks pc L (.ref a :: st) w Q := by
  intro p e R s m args below meth c C9 H locs cells slots ls hH hS hL h1 h2
  have hA := C9.2.2.2.2.2.2.2.2.1
  have hP := jH_at hH hw (fun fs' e => by have := hC.2.2.2.2; cases e; exact absurd this (Nat.lt_irrefl 99))
  exact va_get (Ts := jK) C9.1 C9.2.1 (fun w9 hw9 => hA.word hw9 args) hC.2.1 C9.2.2.2.1 hA.2.1 hP 0 (fs := fs.map (jT X)) rfl hC.1 k hk (hA.word hl args) (fun _ h => h) (v := jT X v) (by rw [List.getElem?_map, hv]; rfl) hdg (kk p e R s m args below meth c C9 H locs cells slots ls hH hS hL h1 h2)
theorem J_getN {ci : Nat} {C host : String} {T : u_T} {N : Nat} {ty : Nat → FieldType} {index k a : Nat} {fs : List Value} {v : Value} (hdg : decode M.2.1 pc = .ok (.getfield index, 3)) (hC : jCl ci C T N ty) (hk : k < N) (hl : Cond.fieldLinkNest M.1.cls index (T k).1 (T k).2.1 (T k).2.2.1 host ∈ jK)
    (hw : w[a]? = some (.inr (ci, fs))) (hv : fs[k]? = some v) (kk : J X M d kc ks (pc + 3) L (v :: st) w Q) : J X M d kc ks pc L (.ref a :: st) w Q := by
  intro p e R s m args below meth c C9 H locs cells slots ls hH hS hL h1 h2
  have hA := C9.2.2.2.2.2.2.2.2.1
  have hP := jH_at hH hw (fun fs' e => by have := hC.2.2.2.2; cases e; exact absurd this (Nat.lt_irrefl 99))
  exact va_getN (Ts := jK) C9.1 C9.2.1 (fun w9 hw9 => hA.word hw9 args) hC.2.1 C9.2.2.2.1 hA.2.1 hP 0 (fs := fs.map (jT X)) rfl hC.1 k hk (hA.word hl args) (fun _ h => h) (v := jT X v) (by rw [List.getElem?_map, hv]; rfl) hdg (kk p e R s m args below meth c C9 H locs cells slots ls hH hS hL h1 h2)
theorem jS_put {A : Nat → Prop} {H0 H H1 : Heap} {locs : List Loc} {a k : Nat} (h : va_S A H0 H locs) (z : H1.size = H.size) (oq : ∀ q : Nat, q ≠ a → H1[q]? = H[q]?) (ha : A a) : va_S A H0 H1 (locs ++ [⟨a, k⟩]) := h.put z oq ha
theorem jV_set {X : jX} {fs : List Value} {k : Nat} {v : Value} (hl : k < fs.length) (j : Nat) : updV (vp_V (fs.map (jT X))) k (jT X v) j = vp_V ((fs.set k v).map (jT X)) j := by
  rw [List.map_set]
  exact vp_updV_set (by rw [List.length_map]; exact hl) (jT X v) j
/-- a value that a field of that type takes as it is -/
def jFit (ty : FieldType) (v : Value) : Prop := match v with
  | .int x => narrow ty (.int x) = .int x ∧ fits ty (.int x) = true
  | .long _ => ty = .long
  | .null => ty.isReference = true
  | .ref _ => ty.isReference = true
  | .retAddr _ => ty.isReference = true
  | _ => False
theorem jFit_spec {X : jX} {ty : FieldType} {v : Value} (h : jFit ty v) : narrow ty (jT X v) = jT X v ∧ fits ty (jT X v) = true := by
  cases v with
  | int x => exact h
  | long x => cases h; exact ⟨rfl, rfl⟩
  | null => cases ty <;> first | exact ⟨rfl, rfl⟩ | exact absurd h Bool.false_ne_true
  | ref i => cases ty <;> first | exact ⟨rfl, rfl⟩ | exact absurd h Bool.false_ne_true
  | retAddr i => cases ty <;> first | exact ⟨rfl, rfl⟩ | exact absurd h Bool.false_ne_true
  | float x => exact absurd h id
  | double x => exact absurd h id
theorem J_put {ci : Nat} {C : String} {T : u_T} {N : Nat} {ty : Nat → FieldType} {index k a : Nat} {fs : List Value} {v : Value} (hdg : decode M.2.1 pc = .ok (.putfield index, 3)) (hC : jCl ci C T N ty) (hk : k < N) (hl : Cond.fieldLink M.1.cls index (T k).1 (T k).2.1 (T k).2.2.1 ∈ jK)
    (hfin : (T k).2.2.2 = false ∨ ((T k).2.2.2 = true ∧ M.1.name = "<init>" ∧ (T k).1 = M.1.cls)) (hfit : jFit (ty k) v)
    (hw : w[a]? = some (.inr (ci, fs))) (hlen : k < fs.length) (kk : J X M d kc ks (pc + 3) L st (w.set a (.inr (ci, fs.set k v))) Q) : J X M d kc ks pc L (v :: .ref a :: st) w Q := by
  intro p e R s m args below meth c C9 H locs cells slots ls hH hS hL h1 h2
  have hA := C9.2.2.2.2.2.2.2.2.1
  have hP := jH_at hH hw (fun fs' e => by have := hC.2.2.2.2; cases e; exact absurd this (Nat.lt_irrefl 99))
  have hts : ∀ w9 ∈ jK, w9.before args s = true := fun w9 hw9 => hA.word hw9 args
  have hap := va_apart (own := M.1.cls) hts hC.2.1 ty hC.2.2.1 hC.2.2.2.1 hA.2.1 hC.1
  obtain ⟨r, e1, cell, q1, q2, q3, q4⟩ := hP 0 _ rfl
  have hr : r = (C, T, N) := Option.some.inj (e1.symm.trans hC.1)
  subst hr
  obtain ⟨hSl, hfc, kC, hkC, hkind⟩ := hA.2.1.1 ci _ hC.1
  obtain ⟨cf, kf, fi, f, hi, hsl⟩ := hSl k hk
  have hlay := hts _ (hC.2.1 _ (u_in_lay hk))
  have hst := (u_facts hfc hkC (u_lays hts hC.2.1 hk) hi).1
  obtain ⟨f1, f2⟩ := jFit_spec (X := X) hfit
  have key : ∀ H' : Heap, H'[X.2.1 + a]? = some (cell.setSlot f.slot (jT X v)) → H'.size = H.size → (∀ q, q ≠ X.2.1 + a → H'[q]? = H[q]?) →
      W p X.1 e R s m args below meth c H' (locs ++ [⟨X.2.1 + a, f.slot⟩]) cells slots (jEnd X Q below args s R) (F0 m (pc + 3) ls (st.map (jT X))) := by
    intro H' g1 g2 g3
    rw [hsl] at g1 ⊢
    refine kk p e R s m args below meth c C9 H' _ cells slots ls (jH_set hH hw g2 g3 ?_) (hS.put g2 g3 (show jA X (X.2.1 + a) from Nat.le_add_right _ _)) hL h1 h2
    exact ⟨_, hC.1, t_OB.to (V := updV (vp_V (fs.map (jT X))) k (jT X v)) ⟨_, g1, q2, q3, t_set q4 hap hk (jT X v)⟩ (fun j _ => jV_set hlen j)⟩
  rcases hfin with hfin | ⟨hfin, hin, hdecl⟩
  · unfold u_lay at hlay
    rw [if_neg (by rw [hfin]; decide)] at hlay
    have h6 := u_store hfc hkC hkind hlay hi (hC.2.2.1 k hk) f1 f2
    exact W.putK C9.1 C9.2.1 (f := f) ⟨C9.2.2.2.1, hA.word hl args, ⟨_, _, _, hi⟩, hst⟩ (by rw [q2]; exact h6) q1 q3 (by rw [hsl]; exact k2_hasslot (q4 k hk)) rfl rfl hdg key
  · unfold u_lay at hlay
    rw [if_pos hfin] at hlay
    have hcf : m.cls = cf := by
      obtain ⟨_, _, c', _, _, _, -, -, hf', -, -, -, hown2, -⟩ := Cond.laysFinal_spec hlay
      have e1 : c' = cf := by have := hi.symm.trans hf'; simp at this; exact this.1.symm
      rw [hdecl] at hown2
      rw [← e1]; exact Option.some.inj (C9.2.2.2.1.symm.trans hown2)
    have h6 := u_fits hfc hkC hkind (Or.inr hlay) hi (hC.2.2.1 k hk) f1 f2
    exact W.putFinK C9.1 C9.2.1 C9.2.2.2.1 (hA.word hl args) hi hst hcf (C9.2.2.2.2.2.2.1.trans hin) (by rw [q2]; exact h6) q1 q3 (by rw [hsl]; exact k2_hasslot (q4 k hk)) rfl rfl hdg key
theorem jTy_of (X : jX) {s : State} (h : jAmb X s) (t : Nat) (ht : t < 2) : ([(X.2.2.2.2.1 0, FieldType.int), (X.2.2.2.2.1 1, FieldType.byte)] : List (ClassId × FieldType))[t]? = some (X.2.2.2.2.1 t, jTy t) := by
  rcases (show t = 0 ∨ t = 1 by omega) with rfl | rfl <;> rfl
theorem J_iald {a : Nat} {xs : List Int32} {i : Int32} (hdg : decode M.2.1 pc = .ok (.iaload, 1)) (hw : w[a]? = some (.inl (0, xs))) (hin : vp_in i xs.length) (kk : J X M d kc ks (pc + 1) L (.int (xs.getD i.toNatClampNeg 0) :: st) w Q) : J X M d kc ks pc L (.int i :: .ref a :: st) w Q := by
  intro p e R s m args below meth c C9 H locs cells slots ls hH hS hL h1 h2
  have hA := C9.2.2.2.2.2.2.2.2.1
  exact va_iald C9.1 C9.2.1 hA.2.1 (jH_at hH hw (fun _ e => by cases e)) 0 0 (f := fun j => xs.getD j 0) rfl rfl hin hdg (kk p e R s m args below meth c C9 H locs cells slots ls hH hS hL h1 h2)
theorem J_bald {a : Nat} {xs : List Int32} {i : Int32} (hdg : decode M.2.1 pc = .ok (.baload, 1)) (hw : w[a]? = some (.inl (1, xs))) (hin : vp_in i xs.length) (kk : J X M d kc ks (pc + 1) L (.int (xs.getD i.toNatClampNeg 0) :: st) w Q) : J X M d kc ks pc L (.int i :: .ref a :: st) w Q := by
  intro p e R s m args below meth c C9 H locs cells slots ls hH hS hL h1 h2
  have hA := C9.2.2.2.2.2.2.2.2.1
  exact va_bald C9.1 C9.2.1 hA.2.1 (jH_at hH hw (fun _ e => by cases e)) 0 1 (f := fun j => xs.getD j 0) rfl rfl hin hdg (kk p e R s m args below meth c C9 H locs cells slots ls hH hS hL h1 h2)
/-- of an old array -/
theorem J_ialdO {a : Nat} {xs : List Int32} {i : Int32} (hdg : decode M.2.1 pc = .ok (.iaload, 1)) (hw : X.2.2.2.2.2[a]? = some (.inl (0, xs))) (hin : vp_in i xs.length) (kk : J X M d kc ks (pc + 1) L (.int (xs.getD i.toNatClampNeg 0) :: st) w Q) : J X M d kc ks pc L (.int i :: .retAddr a :: st) w Q := by
  intro p e R s m args below meth c C9 H locs cells slots ls hH hS hL h1 h2
  have hA := C9.2.2.2.2.2.2.2.2.1
  have h9 : jOldC X s s.heap a (.inl (0, xs)) := hA.2.2.1 a _ hw
  exact va_ti (f := fun j => .int (xs.getD j 0)) (v := .int (xs.getD i.toNatClampNeg 0)) C9.1 C9.2.1 h9 hS hin rfl hdg (kk p e R s m args below meth c C9 H locs cells slots ls hH hS hL h1 h2)
theorem J_baldO {a : Nat} {xs : List Int32} {i : Int32} (hdg : decode M.2.1 pc = .ok (.baload, 1)) (hw : X.2.2.2.2.2[a]? = some (.inl (1, xs))) (hin : vp_in i xs.length) (kk : J X M d kc ks (pc + 1) L (.int (xs.getD i.toNatClampNeg 0) :: st) w Q) : J X M d kc ks pc L (.int i :: .retAddr a :: st) w Q := by
  intro p e R s m args below meth c C9 H locs cells slots ls hH hS hL h1 h2
  have hA := C9.2.2.2.2.2.2.2.2.1
  have h9 : jOldC X s s.heap a (.inl (1, xs)) := hA.2.2.1 a _ hw
  exact va_tb (f := fun j => .int (xs.getD j 0)) (v := .int (xs.getD i.toNatClampNeg 0)) C9.1 C9.2.1 h9 hS hin rfl hdg (kk p e R s m args below meth c C9 H locs cells slots ls hH hS hL h1 h2)
theorem J_alen {a t : Nat} {xs : List Int32} {n : Int32} (hdg : decode M.2.1 pc = .ok (.arraylength, 1)) (hw : w[a]? = some (.inl (t, xs))) (ht : t < 2) (hn : Int32.ofNat xs.length = n) (kk : J X M d kc ks (pc + 1) L (.int n :: st) w Q) : J X M d kc ks pc L (.ref a :: st) w Q := by
  intro p e R s m args below meth c C9 H locs cells slots ls hH hS hL h1 h2
  have hA := C9.2.2.2.2.2.2.2.2.1
  exact va_alen C9.1 C9.2.1 hA.2.1 (jH_at hH hw (fun _ e => by cases e)) 0 t (x := (xs.length, .inl (fun j => xs.getD j 0))) rfl (jTy_of X hA t ht) hn hdg (kk p e R s m args below meth c C9 H locs cells slots ls hH hS hL h1 h2)
theorem J_alenO {a t : Nat} {xs : List Int32} {n : Int32} (hdg : decode M.2.1 pc = .ok (.arraylength, 1)) (hw : X.2.2.2.2.2[a]? = some (.inl (t, xs))) (hn : Int32.ofNat xs.length = n) (kk : J X M d kc ks (pc + 1) L (.int n :: st) w Q) : J X M d kc ks pc L (.retAddr a :: st) w Q := by
  intro p e R s m args below meth c C9 H locs cells slots ls hH hS hL h1 h2
  have hA := C9.2.2.2.2.2.2.2.2.1
  have h9 : jOldC X s s.heap a (.inl (t, xs)) := hA.2.2.1 a _ hw
  exact va_tlen (f := fun j => .int (xs.getD j 0)) C9.1 C9.2.1 h9 hS hn hdg (kk p e R s m args below meth c C9 H locs cells slots ls hH hS hL h1 h2)
theorem jArr_set {xs : List Int32} {i : Nat} {x : Int32} (hi : i < xs.length) : upd (fun j => xs.getD j 0) i x = fun j => (xs.set i x).getD j 0 := by
  funext j
  rw [set_getD x hi]
  rfl
theorem J_iast {a : Nat} {xs : List Int32} {i x : Int32} (hdg : decode M.2.1 pc = .ok (.iastore, 1)) (hw : w[a]? = some (.inl (0, xs))) (hin : vp_in i xs.length) (kk : J X M d kc ks (pc + 1) L st (w.set a (.inl (0, xs.set i.toNatClampNeg x))) Q) : J X M d kc ks pc L (.int x :: .int i :: .ref a :: st) w Q := by
  intro p e R s m args below meth c C9 H locs cells slots ls hH hS hL h1 h2
  have hA := C9.2.2.2.2.2.2.2.2.1
  have hP := jH_at hH hw (fun _ e => by cases e)
  have hlt : i.toNatClampNeg < xs.length := Nat.not_le.mp fun q => hin (Or.inr q)
  refine W.iast C9.1 C9.2.1 (hP 0 _ rfl) ((hA.2.1.2 0 _ rfl).1 xs.length (fun j => .int (xs.getD j 0))) (fun q => by cases q) (by show ¬ (i < 0 ∨ (arrV _ _ _).slots.size ≤ _); rw [arrV_size]; exact hin) rfl rfl hdg fun H1 e1 z oq => ?_
  refine kk p e R s m args below meth c C9 H1 _ cells slots ls (jH_set hH hw z oq ?_) (hS.put z oq (show jA X (X.2.1 + a) from Nat.le_add_right _ _)) hL h1 h2
  show H1[X.2.1 + a]? = some (vp_cell _ _)
  rw [e1]
  show some ((arrV (X.2.2.2.2.1 0) xs.length (fun j => .int (xs.getD j 0))).setSlot i.toNatClampNeg (.int x)) = some (arrV (X.2.2.2.2.1 0) (xs.set i.toNatClampNeg x).length (fun j => .int ((xs.set i.toNatClampNeg x).getD j 0)))
  rw [arrV_store, List.length_set]
  congr 2
  funext q
  have := congrFun (jArr_set (x := x) hlt) q
  simp only [upd] at this
  show updV _ _ _ q = .int ((xs.set i.toNatClampNeg x).getD q 0)
  rw [← this]
  by_cases hq : q = i.toNatClampNeg
  · subst hq; simp [updV]
  · simp [updV, hq]
theorem J_bast {a : Nat} {xs : List Int32} {i x : Int32} (hdg : decode M.2.1 pc = .ok (.bastore, 1)) (hw : w[a]? = some (.inl (1, xs))) (hin : vp_in i xs.length) (kk : J X M d kc ks (pc + 1) L st (w.set a (.inl (1, xs.set i.toNatClampNeg x.toInt8.toInt32))) Q) : J X M d kc ks pc L (.int x :: .int i :: .ref a :: st) w Q := by
  intro p e R s m args below meth c C9 H locs cells slots ls hH hS hL h1 h2
  have hA := C9.2.2.2.2.2.2.2.2.1
  have hP := jH_at hH hw (fun _ e => by cases e)
  have hlt : i.toNatClampNeg < xs.length := Nat.not_le.mp fun q => hin (Or.inr q)
  refine W.bast C9.1 C9.2.1 (hP 0 _ rfl) ((hA.2.1.2 1 _ rfl).1 xs.length (fun j => .int (xs.getD j 0))) (fun q => by cases q) (by show ¬ (i < 0 ∨ (arrV _ _ _).slots.size ≤ _); rw [arrV_size]; exact hin) rfl rfl hdg fun H1 e1 z oq => ?_
  refine kk p e R s m args below meth c C9 H1 _ cells slots ls (jH_set hH hw z oq ?_) (hS.put z oq (show jA X (X.2.1 + a) from Nat.le_add_right _ _)) hL h1 h2
  show H1[X.2.1 + a]? = some (vp_cell _ _)
  rw [e1]
  show some ((arrV (X.2.2.2.2.1 1) xs.length (fun j => .int (xs.getD j 0))).setSlot i.toNatClampNeg (.int x.toInt8.toInt32)) = some (arrV (X.2.2.2.2.1 1) (xs.set i.toNatClampNeg x.toInt8.toInt32).length (fun j => .int ((xs.set i.toNatClampNeg x.toInt8.toInt32).getD j 0)))
  rw [arrV_store, List.length_set]
  congr 2
  funext q
  have := congrFun (jArr_set (x := x.toInt8.toInt32) hlt) q
  simp only [upd] at this
  show updV _ _ _ q = .int ((xs.set i.toNatClampNeg x.toInt8.toInt32).getD q 0)
  rw [← this]
  by_cases hq : q = i.toNatClampNeg
  · subst hq; simp [updV]
  · simp [updV, hq]
theorem jRep (n : Nat) : (fun j => (List.replicate n (0 : Int32)).getD j 0) = fun _ => 0 := by
  funext j
  rw [List.getD_eq_getElem?_getD, List.getElem?_replicate]
  split <;> rfl
/-- a new array of ints or bytes -/
theorem J_newa {t : Nat} {atype : ArrayType} {n : Int32} {N : Nat} (hdg : decode M.2.1 pc = .ok (.newarray atype, 2)) (ht : t < 2) (hty : newarray.typeOf atype = jTy t) (hc : Cond.arrayClass (jTy t) ∈ jK) (hn : ¬ n < 0) (hN : n.toNatClampNeg = N) (hb : N ≤ 100000000) (hkc : 1 ≤ kc) (hks : N ≤ ks)
    (kk : J X M d (kc - 1) (ks - N) (pc + 2) L (.ref w.length :: st) (w ++ [.inl (t, List.replicate N 0)]) Q) : J X M d kc ks pc L (.int n :: st) w Q := by
  intro p e R s m args below meth c C9 H locs cells slots ls hH hS hL h1 h2
  have hA := C9.2.2.2.2.2.2.2.2.1
  refine va_newaK C9.1 C9.2.1 (by rw [hty]; exact hA.word hc args) rfl hdg rfl hn hN ?_ (by omega) (by omega) rfl fun H1 cA e1 z1 o1 hAr hNm => ?_
  · rcases (show t = 0 ∨ t = 1 by omega) with rfl | rfl
    · rw [hty]; show N * 4 ≤ _; omega
    · rw [hty]; show N * 1 ≤ _; omega
  have hcA : cA = X.2.2.2.2.1 t := by
    have g := (hA.2.1.2 t _ (jTy_of X hA t ht)).2
    rw [hty] at hNm
    have g2 : s.vm.findClass ("[" ++ (jTy t).toString) = some (X.2.2.2.2.1 t) := by
      rcases (show t = 0 ∨ t = 1 by omega) with rfl | rfl <;> exact g
    exact Option.some.inj (hNm.symm.trans g2)
  have hlen : H.size = X.2.1 + w.length := hH.1
  have hk := kk p e R s m args below meth c C9 H1 locs (cells + 1) (slots + N) ls (jH_push hH z1 o1 (fun _ => ?_)) ⟨Nat.le_trans hS.1 (by omega), fun q g1 g2 => (o1 q (Nat.lt_of_lt_of_le g1 hS.1)).trans (hS.2.1 q g1 g2), hS.2.2⟩ hL (by omega) (by omega)
  · rw [List.map_cons, show jT X (.ref w.length) = .ref H.size by rw [hlen]; rfl] at hk
    exact hk
  · show H1[X.2.1 + w.length]? = some (vp_cell (X.2.2.2.2.1 t) ((List.replicate N 0).length, .inl (fun j => (List.replicate N (0 : Int32)).getD j 0)))
    rw [← hlen, e1, hcA, List.length_replicate, jRep, hty]
    rcases (show t = 0 ∨ t = 1 by omega) with rfl | rfl <;> rfl
/-- a new object -/
theorem J_new {ci : Nat} {C : String} {T : u_T} {N index : Nat} {ty : Nat → FieldType} {fs : List Value} (hdg : decode M.2.1 pc = .ok (.new index, 3)) (hC : jCl ci C T N ty) (hcl : Cond.classLink M.1.cls index C ∈ jK) (hins : Cond.instantiable C N ∈ jK) (hini : Cond.initialized C ∈ jK)
    (hfs : ∀ j, j < N → defaultValue (ty j) = vp_V (fs.map (jT X)) j) (hkc : 1 ≤ kc) (hks : N ≤ ks) (kk : J X M d (kc - 1) (ks - N) (pc + 3) L (.ref w.length :: st) (w ++ [.inr (ci, fs)]) Q) : J X M d kc ks pc L st w Q := by
  intro p e R s m args below meth c C9 H locs cells slots ls hH hS hL h1 h2
  have hA := C9.2.2.2.2.2.2.2.2.1
  have hts : ∀ w9 ∈ jK, w9.before args s = true := fun w9 hw9 => hA.word hw9 args
  have hKn := hA.2.1.1 ci _ hC.1
  have hlen : H.size = X.2.1 + w.length := hH.1
  refine W.newcK C9.1 C9.2.1 C9.2.2.2.1 (hA.word hcl args) (hA.word hins args) (hA.word hini args) rfl hdg (by omega) (by omega) hKn.2.1 rfl fun H1 kC hkC e1 z1 o1 => ?_
  have hk := kk p e R s m args below meth c C9 H1 locs (cells + 1) (slots + N) ls (jH_push hH z1 o1 (fun _ => ?_)) ⟨Nat.le_trans hS.1 (by omega), fun q g1 g2 => (o1 q (Nat.lt_of_lt_of_le g1 hS.1)).trans (hS.2.1 q g1 g2), hS.2.2⟩ hL (by omega) (by omega)
  · rw [List.map_cons, show jT X (.ref w.length) = .ref H.size by rw [hlen]; rfl] at hk
    exact hk
  · rw [← hlen]
    exact ⟨_, hC.1, (u_born ty hts hC.2.1 hKn hkC e1 hC.2.2.1).to hfs⟩
/-- Object's constructor -/
theorem J_objInit {index : Nat} {v : Value} (hdg : decode M.2.1 pc = .ok (.invokespecial index, 3)) (hl : Cond.methodLink M.1.cls index Lib.objectInit ∈ jK) (hi : Cond.instanceMethod Lib.objectInit ∈ jK) (hc : Cond.code Lib.objectInit ⟨#[0xb1]⟩ 1 none ∈ jK) (hr : jRf v = true) (hd : 1 ≤ d) (hst : (st.map fun v => v.category).sum ≤ 8)
    (kk : J X M d kc ks (pc + 3) L st w Q) : J X M d kc ks pc L (v :: st) w Q := by
  intro p e R s m args below meth c C9 H locs cells slots ls hH hS hL h1 h2
  have hA := C9.2.2.2.2.2.2.2.2.1
  obtain ⟨a, ha⟩ := jRf_spec (X := X) hr
  rw [List.map_cons, ha]
  have hd1 := C9.2.2.2.2.2.2.2.2.2.2
  refine W.objInit C9.1 C9.2.1 C9.2.2.2.1 (hA.word hl args) (hA.word hi args) (hA.word hc args) rfl (hL.1.trans C9.2.2.1.symm) rfl hdg (by omega) ?_ (kk p e R s m args below meth c C9 H locs cells slots ls hH hS hL h1 h2)
  show 2 * 0 + ((st.map (jT X)).map fun v => v.category).sum + 12 ≤ R.locals
  rw [jT_sum]
  omega
/-- a static -/
theorem J_gets {index : Nat} {C n ds : String} {v : Value} (hdg : decode M.2.1 pc = .ok (.getstatic index, 3)) (hq : (C, n, ds, v) ∈ jStat) (hl : Cond.fieldLink M.1.cls index C n ds ∈ jK) (kk : J X M d kc ks (pc + 3) L (v :: st) w Q) : J X M d kc ks pc L st w Q := by
  intro p e R s m args below meth c C9 H locs cells slots ls hH hS hL h1 h2
  have hA := C9.2.2.2.2.2.2.2.2.1
  have hz := hA.2.2.2.1 (C, n, ds, v) hq
  exact va_gets (C := C) (ref := C) C9.1 C9.2.1 hz hS C9.2.2.2.1 (hA.word hl args) (fun _ h => h) hdg (kk p e R s m args below meth c C9 H locs cells slots ls hH hS hL h1 h2)
/-- a String constant -/
theorem J_ldcS {index a : Nat} {tx : String} (hdg : decode M.2.1 pc = .ok (.ldc index, 2)) (hq : (M.1.cls, index, tx, a) ∈ jStr) (kk : J X M d kc ks (pc + 2) L (.retAddr a :: st) w Q) : J X M d kc ks pc L st w Q := by
  intro p e R s m args below meth c C9 H locs cells slots ls hH hS hL h1 h2
  have hA := C9.2.2.2.2.2.2.2.2.1
  have hz := hA.2.2.2.2.2.2.1 (M.1.cls, index, tx, a) hq
  exact va_ldcS (tx := tx) C9.1 C9.2.1 C9.2.2.2.1 hz hdg (kk p e R s m args below meth c C9 H locs cells slots ls hH hS hL h1 h2)
/-- fields of a String constant -/
theorem J_getO {index a : Nat} {fs : List Value} (hdg : decode M.2.1 pc = .ok (.getfield index, 3)) (hl : Cond.fieldLink M.1.cls index "java/lang/String" "value" "[B" ∈ jK) (hw : X.2.2.2.2.2[a]? = some (.inr (0, fs))) (kk : J X M d kc ks (pc + 3) L (fs.getD 0 .null :: st) w Q) : J X M d kc ks pc L (.retAddr a :: st) w Q := by
  intro p e R s m args below meth c C9 H locs cells slots ls hH hS hL h1 h2
  have hA := C9.2.2.2.2.2.2.2.2.1
  have h9 : jOldC X s s.heap a (.inr (0, fs)) := hA.2.2.1 a _ hw
  exact vk_getf (ref := "java/lang/String") C9.1 C9.2.1 h9.2.2 hS C9.2.2.2.1 (hA.word hl args) (fun _ h => h) hdg (kk p e R s m args below meth c C9 H locs cells slots ls hH hS hL h1 h2)
theorem J_getOc {index a : Nat} {fs : List Value} (hdg : decode M.2.1 pc = .ok (.getfield index, 3)) (hl : Cond.fieldLink M.1.cls index "java/lang/String" "coder" "B" ∈ jK) (hw : X.2.2.2.2.2[a]? = some (.inr (0, fs))) (kk : J X M d kc ks (pc + 3) L (.int 0 :: st) w Q) : J X M d kc ks pc L (.retAddr a :: st) w Q := by
  intro p e R s m args below meth c C9 H locs cells slots ls hH hS hL h1 h2
  have hA := C9.2.2.2.2.2.2.2.2.1
  have h9 : jOldC X s s.heap a (.inr (0, fs)) := hA.2.2.1 a _ hw
  exact vk_getf (ref := "java/lang/String") C9.1 C9.2.1 h9.2.1 hS C9.2.2.2.1 (hA.word hl args) (fun _ h => h) hdg (kk p e R s m args below meth c C9 H locs cells slots ls hH hS hL h1 h2)
end JHEAP
end
section
/-! calls, returns, throws, catches, the entry -/
section JTHROW
variable {p : Program} {l : Launch} {e : Env} {R : Room} {s : State} {m : MethodId} {args : Array Value} {below : List Frame} {meth : Method} {c : Code} {H : Heap} {locs : List Loc} {cells slots : Nat}
variable {free : Addr → Prop} {ls : Array Slot} {rest : List Value} {Qc : Array Value → State → Outcome → State → Prop} {XC : String → State → State → Prop}
theorem jx_throwSW {cc : ByteArray} {pc : Nat} (hexec : p.tables.exec = Jvm.exec) (hb : c.code = cc) (hl : l.stackTraces = false) {own cls text : String} {names : List String} {ik is ic mc ms sa : Nat} {A : Nat → Prop}
    (hown : s.vm.findClass own = some m.cls) (hcls : Bundle.fit cls = true) (hnames : ∀ n ∈ names, Bundle.fit n = true)
    (hk : (Cond.classLink own ik cls).before args s = true) (hini : (Cond.initialized cls).before args s = true) (hstr : vk_R own is text sa s) (hat : ∀ w ∈ vx_atS own ic cls names, w.before args s = true)
    (hgood : ∀ w ∈ Cond.classLink own ik cls :: Cond.initialized cls :: vx_atS own ic cls names, vx_ot w = true)
    (hU : vx_Zq Bundle.tN "UNASSIGNED_STACK" Bundle.steD A s s.heap) (hN : vx_Zq Bundle.tN "SUPPRESSED_SENTINEL" Bundle.listD A s s.heap) (hS : va_S A s.heap H locs) (hsize : ls.size = c.maxLocals)
    (d0 : decode cc pc = .ok (.new ik, 3)) (d3 : decode cc (pc + 3) = .ok (.dup, 1)) (d4 : decode cc (pc + 4) = .ok (.ldc_w is, 3)) (d7 : decode cc (pc + 7) = .ok (.invokespecial ic, 3)) (d10 : decode cc (pc + 10) = .ok (.athrow, 1))
    (hout : ∀ x ∈ c.exceptionTable.toList, covers x (pc + 10) = false)
    (hRframes : names.length + 3 < R.frames) (hRlocals : (rest.map fun v => v.category).sum + (13 * (names.length + 1) + 43) ≤ R.locals) (hRcells : cells + 1 ≤ R.cells) (hRslots : slots + 6 ≤ R.slots) (hlocks : meth.locks = false)
    (hx : ∀ t : State, s.vm.Alike t.vm → t.heap.size = H.size + 1 → (∀ q : Nat, q < H.size → t.heap[q]? = H[q]?) → XC cls s t)
    (hf : ∀ z ∈ locs, free z.base) (hc : cells + 1 ≤ mc) (hs : slots + 6 ≤ ms) :
    W p l e R s m args below meth c H locs cells slots (vx_MQ below Qc XC args s mc ms free) (F0 m pc ls rest) := by
  intro T hT X
  have htr : e.platform.stackTraces = false := (show e.platform.stackTraces = l.stackTraces by rw [X.admits.platform]).trans hl
  have Y := vx_rebase X (R' := { frames := R.frames, locals := R.locals, cells := 1, slots := 6 }) (Nat.le_refl _) (Nat.le_refl _) hRcells hRslots
  obtain ⟨s', hA⟩ : ∃ z, z = (T.setVm s.vm).setFrames (.invoking m args :: below) := ⟨_, rfl⟩
  rw [← hA] at Y
  have hvm : s'.vm = s.vm := by rw [hA]; rfl
  have hhp : s'.heap = H := by rw [hA]; exact hT
  have hW0 : s.WarmedH s'.vm := by rw [hvm]; exact State.WarmedH.refl s
  have hat' : ∀ w ∈ vx_atS own ic cls names, w.before args s' = true := fun w hw => vx_ot_at hW0 hvm.symm (hgood w (List.mem_cons_of_mem _ (List.mem_cons_of_mem _ hw))) (hat w hw)
  have hk' : (Cond.classLink own ik cls).before args s' = true := vx_ot_at hW0 hvm.symm (hgood _ List.mem_cons_self) hk
  have hini' : (Cond.initialized cls).before args s' = true := vx_ot_at hW0 hvm.symm (hgood _ (List.mem_cons_of_mem _ List.mem_cons_self)) hini
  have hU' : vx_Zq Bundle.tN "UNASSIGNED_STACK" Bundle.steD A s' s'.heap := by rw [hhp]; exact vx_Zq.moved hW0.alike (hU.kept hS.2.1)
  have hN' : vx_Zq Bundle.tN "SUPPRESSED_SENTINEL" Bundle.listD A s' s'.heap := by rw [hhp]; exact vx_Zq.moved hW0.alike (hN.kept hS.2.1)
  have h : ∀ w ∈ Bundle.ownAtoms own ic cls names, w.before args s' = true := vx_own hat' (vx_isRefq hU'.1) (vx_isRefq hN'.1) hU'.2.word hN'.2.word
  have hown' : s'.vm.findClass own = some m.cls := by rw [hvm]; exact hown
  have hins : (Cond.instantiable cls 6).before args s' = true := h _ (by simp [Bundle.ownAtoms])
  obtain ⟨vm₁, cX, kX, hfX, hkX, -, -, X₁, st1⟩ := Y.newCold hexec (own := own) (C := cls) (index := ik) (n := 6) hown' hk' hins hini'
    (g := F0 m pc ls rest) rfl (by rw [hb]; exact d0) (Nat.le_refl _) (Nat.le_refl _)
  generalize hT1 : (T.setVm vm₁).pushCell { cls := cX, slots := kX.instanceTypes.map defaultValue, vm := .none } = T1 at X₁ st1
  have hcat : (Value.ref T.heap.size).category = 1 := rfl
  have hcellA : T1.heap[T.heap.size]? = some (freshCell cX kX) := by rw [← hT1]; exact State.heap_pushCell_size _ _
  have d3' : decode c.code (pc + 3) = .ok (.dup, 1) := by rw [hb]; exact d3
  have d4' : decode c.code (pc + 4) = .ok (.ldc_w is, 3) := by rw [hb]; exact d4
  have hstr' : vk_R own is text sa s' := vk_R.warm hW0 hstr
  obtain ⟨U, hsteps, hrun, hend, hW, hsame, ce, hce, hO⟩ := X₁.ctorThrowS hexec htr (own := own) (cls := cls) (names := names) (ic := ic) hown' hcls hnames h (fun x hx => nomatch hx) hfX hkX hcellA (by rw [hhp, hT]; exact Nat.le_refl _) (msg := .ref sa) rfl
    (g := { method := m, pc := pc + 7, locals := ls, stack := .ref sa :: .ref T.heap.size :: .ref T.heap.size :: rest, locked := none }) rfl hsize rfl rfl (rest := rest) rfl
    (by rw [hb]; exact d7) (by rw [hb]; exact d10) hout hRframes (by simp only [List.map_cons, List.sum_cons, hcat]; omega) hlocks
  obtain ⟨f1, f2⟩ := vx_frame hsame
  rw [hhp] at f1 f2
  have fz : U.heap.size = H.size + 1 := by
    have g1 : U.heap.size ≤ s'.heap.size + _ := hsame.2.2.1
    have g2 := (Array.getElem?_eq_some_iff.mp hce).1
    rw [hhp] at g1
    rw [hT] at g2
    omega
  have hWs : s.WarmedH U.vm := State.WarmedH.trans hW0 hW
  have hcl : s.vm.findClass cls = some ce.cls := by
    have h9 := hO.cls
    rw [hvm] at h9
    exact h9
  have hall : s.sameButNew ({ U with vm := s.vm } : State) locs mc ms := by
    subst hA
    obtain ⟨e1, e2⟩ := hsame
    rw [State.setFrames_setFrames] at e1
    have h2 : (T.setVm s.vm).sameButNew ({ U with vm := s.vm } : State) [] (0 + 1) (0 + 6) := ⟨e1, e2⟩
    have h3 := X.same.trans h2
    rw [List.append_nil] at h3
    exact h3.mono hc hs
  refine ⟨U, ?_, .threw T.heap.size, hrun, hend, Or.inr ⟨T.heap.size, rfl, cls, ce, locs, hx U hWs.alike fz (fun q hq => f2 q hq (fun z hz => nomatch hz)), hce, hO.vm, hcl, hWs, hall, hf⟩⟩
  refine st1 _ ?_
  show Steps p.tables e below (T1.setTop { method := m, pc := pc + 3, locals := ls, stack := .ref T.heap.size :: rest, locked := none }) _
  jvm_step X₁.here [X₁.here.top, hexec, d3', Value.category]
  exact X₁.ldcStringW hexec (own := own) (text := text) (index := is) (a := sa) hown' hstr'.1 hstr'.2
    (g := { method := m, pc := pc + 4, locals := ls, stack := .ref T.heap.size :: .ref T.heap.size :: rest, locked := none }) rfl d4' _ hsteps
end JTHROW
section JCALL
variable {X : jX} {M : jM} {d kc ks pc : Nat} {L : List (Option Value)} {st : List Value} {w : List jC} {Q : jQ}
theorem jCtx_amb {d : Nat} {p : Program} {R : Room} {s : State} {m : MethodId} {meth : Method} {c : Code} (C : jCtx X M d p R s m meth c) : jAmb X s := C.2.2.2.2.2.2.2.2.1
/-- the end of a body -/
theorem J_ret_core {p : Program} {e : Env} {R : Room} {s : State} {m : MethodId} {args : Array Value} {below : List Frame} {meth : Method} {c : Code} {H : Heap} {locs : List Loc} {cells slots : Nat} {g : JFrame} {r : Option Value}
    (C : jCtx X M d p R s m meth c) (hH : jH X w H) (hS : va_S (jA X) s.heap H locs) (h1 : cells ≤ R.cells) (h2 : slots ≤ R.slots) (hq : Q (.inl r) w)
    (k : ∀ {Qc : Array Value → State → Outcome → State → Prop}, (∀ t : State, t.heap = H → s.WarmedH t.vm → Qc args s (.returned (r.map (jT X))) t) → (∀ z ∈ locs, jA X z.base) → W p X.1 e R s m args below meth c H locs R.cells R.slots (MQ below Qc args s R.cells R.slots (jA X)) g) :
    W p X.1 e R s m args below meth c H locs cells slots (jEnd X Q below args s R) g := by
  refine W.widen h1 h2 (vx_ret (k (fun t ht _ => ⟨r, w, rfl, hq, by rw [ht]; exact hH, by rw [ht]; exact hS.1, fun q hq => ?_⟩) hS.2.2))
  rw [ht]
  exact hS.2.1 q (Nat.lt_of_lt_of_le hq C.2.2.2.2.2.2.2.2.1.1) (Nat.not_le.mpr hq)
theorem J_iret {v : Int32} (hdg : decode M.2.1 pc = .ok (.ireturn, 1)) (hr : M.2.2.2.1 = some .int) (hq : Q (.inl (some (.int v))) w) : J X M d kc ks pc L [.int v] w Q := by
  intro p e R s m args below meth c C H locs cells slots ls hH hS hL h1 h2
  have hlocks := C.2.2.2.2.2.1
  exact J_ret_core C hH hS (by omega) (by omega) hq (fun hq hf => W.iret C.1 C.2.1 (C.2.2.2.2.1.trans hr) hq hf hdg hlocks)
theorem J_zret {v : Int32} {ty : FieldType} (hdg : decode M.2.1 pc = .ok (.ireturn, 1)) (hr : M.2.2.2.1 = some ty) (hn : narrow ty (.int v) = .int v) (hq : Q (.inl (some (.int v))) w) : J X M d kc ks pc L [.int v] w Q := by
  intro p e R s m args below meth c C H locs cells slots ls hH hS hL h1 h2
  have hlocks := C.2.2.2.2.2.1
  exact J_ret_core C hH hS (by omega) (by omega) hq (fun hq hf => W.zret C.1 C.2.1 (C.2.2.2.2.1.trans hr) hn hq hf hdg hlocks)
theorem J_lret {v : Int64} (hdg : decode M.2.1 pc = .ok (.lreturn, 1)) (hr : M.2.2.2.1 = some .long) (hq : Q (.inl (some (.long v))) w) : J X M d kc ks pc L [.long v] w Q := by
  intro p e R s m args below meth c C H locs cells slots ls hH hS hL h1 h2
  have hlocks := C.2.2.2.2.2.1
  exact J_ret_core C hH hS (by omega) (by omega) hq (fun hq hf => W.lret C.1 C.2.1 (C.2.2.2.2.1.trans hr) hq hf hdg hlocks)
theorem J_vret (hdg : decode M.2.1 pc = .ok (.return_, 1)) (hr : M.2.2.2.1 = none) (hq : Q (.inl none) w) : J X M d kc ks pc L [] w Q := by
  intro p e R s m args below meth c C H locs cells slots ls hH hS hL h1 h2
  have hlocks := C.2.2.2.2.2.1
  exact J_ret_core (r := none) C hH hS (by omega) (by omega) hq (fun hq hf => W.vret C.1 C.2.1 (C.2.2.2.2.1.trans hr) hq hf hdg hlocks)
theorem J_aret {v : Value} {rt : FieldType} (hdg : decode M.2.1 pc = .ok (.areturn, 1)) (hr : M.2.2.2.1 = some rt) (hrt : rt.isReference = true) (hv : jRf v = true) (hq : Q (.inl (some v)) w) : J X M d kc ks pc L [v] w Q := by
  intro p e R s m args below meth c C H locs cells slots ls hH hS hL h1 h2
  have hlocks := C.2.2.2.2.2.1
  exact J_ret_core (r := some v) C hH hS (by omega) (by omega) hq (fun hq hf => W.aret C.1 C.2.1 (C.2.2.2.2.1.trans hr) (by cases rt <;> first | exact Or.inl ⟨_, rfl⟩ | exact Or.inr ⟨_, rfl⟩ | exact absurd hrt Bool.false_ne_true) (Or.inr (jRf_spec hv)) hq hf hdg hlocks)
/-- behind a call, whatever its kind -/
theorem j_core {p : Program} {e : Env} {R : Room} {s : State} {m : MethodId} {args : Array Value} {below : List Frame} {meth : Method} {c : Code} {H : Heap} {locs : List Loc} {cells slots kc' ks' : Nat} {ls : Array Slot} {st0 : List Value} {Q' : jQ}
    (C : jCtx X M d p R s m meth c) (hS : va_S (jA X) s.heap H locs) (hL : jL X ls M.2.2.1 L) (h1 : cells + kc ≤ R.cells) (h2 : slots + ks ≤ R.slots) (hkc : kc' ≤ kc) (hks : ks' ≤ ks)
    (hr : vx_Run p X.1 e R s m args below meth c H locs cells slots kc' ks' (F0 m pc ls st0) (st.map (jT X)) (fun st o t => ∃ (r : Option Value) (w' : List jC), o = .returned (r.map (jT X)) ∧ Q' (.inl r) w' ∧ jH X w' t.heap ∧ jLow X st t) (fun E st t => ∃ w' : List jC, Q' (.inr E) w' ∧ jH X w' t.heap ∧ jLow X st t) (jA X))
    (kr : ∀ (r : Option Value) (w' : List jC), Q' (.inl r) w' → J X M d (kc - kc') (ks - ks') (pc + 3) L (r.toList ++ st) w' Q)
    (kx : ∀ (E : String) (w' : List jC), Q' (.inr E) w' → JX X M d (kc - kc') (ks - ks') pc L st w' E Q) : W p X.1 e R s m args below meth c H locs cells slots (jEnd X Q below args s R) (F0 m pc ls st0) := by
  have keep : ∀ (st₀ t T' : State) (Lc : List Loc), st₀.heap = H → T'.heap = t.heap → jLow X st₀ t → (∀ q ∈ Lc, jA X q.base) → va_S (jA X) s.heap T'.heap (locs ++ Lc) := by
    intro st₀ t T' Lc g0 g1 g2 g3
    obtain ⟨g4, g5⟩ := g2
    rw [g0] at g4 g5
    refine ⟨Nat.le_trans hS.1 (by rw [g1]; exact g4), fun q q1 q2 => ?_, fun q hq => ?_⟩
    · rw [g1, g5 q (Nat.not_le.mp q2)]
      exact hS.2.1 q q1 q2
    · rcases List.mem_append.mp hq with h | h
      · exact hS.2.2 q h
      · exact g3 q h
  intro T hT Y
  rcases hr T hT Y with ⟨v, st₀, t, T', Lc, g0, Y', gL, e1, e2, ⟨r, w', hv, hq, hh, hlow⟩, stp⟩ | ⟨q, st₀, t, T', Lc, E, ce, g0, Y', gL, e1, e2, ⟨w', hq, hh, hlow⟩, hce, hcv, hcl, stp⟩
  · cases hv
    obtain ⟨t2, a1, b1⟩ := kr r w' hq p e R s m args below meth c C T'.heap (locs ++ Lc) (cells + kc') (slots + ks') ls (by rw [e1]; exact hh) (keep _ _ _ _ g0 e1 hlow gL) hL (by omega) (by omega) T' rfl Y'
    refine ⟨t2, stp t2 ?_, b1⟩
    rw [List.map_append] at a1
    cases r <;> exact a1
  · obtain ⟨t2, a1, b1⟩ := kx E w' hq p e R s m args below meth c C T'.heap (locs ++ Lc) (cells + kc') (slots + ks') ls q ce (by rw [e1]; exact hh) (keep _ _ _ _ g0 e1 hlow gL) hL (by omega) (by omega) (by rw [e1]; exact hce) hcv hcl T' rfl Y'
    exact ⟨t2, stp.trans a1, b1⟩
theorem jBlind (X : jX) (as : List Value) (w : List jC) : FrameBlind (fun v U => v = (as.map (jT X)).toArray ∧ jAmb X U ∧ jH X w U.heap) := by
  intro a U g mk h
  exact ⟨h.1, jAmb.moved (s := U) (U := U.calling g mk a) (State.WarmedH.refl U) h.2.1.1 ⟨Nat.le_refl _, fun _ _ => rfl⟩ h.2.1, h.2.2⟩
theorem jPre {p : Program} {R : Room} {s : State} {m : MethodId} {meth : Method} {c : Code} {H : Heap} {locs : List Loc} (C : jCtx X M d p R s m meth c) (hH : jH X w H) (hS : va_S (jA X) s.heap H locs) (as : List Value) : ∀ U : State, U.heap = H → s.WarmedH U.vm → (as.map (jT X)).toArray = (as.map (jT X)).toArray ∧ jAmb X U ∧ jH X w U.heap := by
  intro U hU hW
  refine ⟨rfl, jAmb.moved hW (by rw [hU, hH.1]; exact Nat.le_add_right _ _) ⟨by rw [hU]; exact hS.1, fun q hq => ?_⟩ (jCtx_amb C), by rw [hU]; exact hH⟩
  rw [hU]
  exact hS.2.1 q (Nat.lt_of_lt_of_le hq (jCtx_amb C).1) (Nat.not_le.mpr hq)
/-- what every call asks of the callee z: no table of its own, its word known, its class made ready, as many parameters -/
def jCal (z : jM) (n : Nat) : Prop := z.2.2.2.2 = [] ∧ jWd z ∈ jK ∧ goodWord (jWd z) = true ∧ Cond.initialized z.1.cls ∈ jK ∧ (z.1.cls ≠ "java/lang/invoke/MethodHandle" ∧ z.1.cls ≠ "java/lang/invoke/VarHandle") ∧ (parseMethodDescriptor z.1.desc).map (fun q => q.parameters.length) = some n ∧ z.2.2.1 ≤ 80
theorem jCal_word {z : jM} {n : Nat} (h : jCal z n) : jWd z = .code z.1 z.2.1 z.2.2.1 z.2.2.2.1 := by
  unfold jWd
  rw [h.1]
theorem jCal_back {z : jM} {n d' kc' ks' : Nat} {p : Program} {R : Room} {s : State} {m : MethodId} {args : Array Value} {meth : Method} {c : Code} (C : jCtx X M d p R s m meth c) (h : jCal z n) (hd : d' + 1 ≤ d) :
    (jR d' kc' ks').cells = kc' ∧ (jR d' kc' ks').slots = ks' ∧ (jR d' kc' ks').frames + 1 ≤ R.frames ∧ 8 + (z.2.2.1 + 11) + (jR d' kc' ks').locals ≤ R.locals ∧ (∀ w ∈ [jWd z], ∀ (a' : Array Value) (U : State), s.WarmedH U.vm → w.before a' U = true) ∧ Cond.code z.1 z.2.1 z.2.2.1 z.2.2.2.1 ∈ [jWd z] ∧ (Cond.code z.1 z.2.1 z.2.2.1 z.2.2.2.1).before args s = true ∧ (Cond.initialized z.1.cls).before args s = true ∧ (∀ sig, parseMethodDescriptor z.1.desc = some sig → n = sig.parameters.length) := by
  have hA := jCtx_amb C
  obtain ⟨-, -, -, -, -, -, -, -, -, -, hd1, hd2⟩ := C
  have hw := jCal_word h
  obtain ⟨h0, h1, h2, h3, h4, h5, h6⟩ := h
  refine ⟨rfl, rfl, by show d' + 1 ≤ _; omega, by show 8 + (z.2.2.1 + 11) + 100 * d' ≤ _; omega, fun w9 hw9 a' U hW => ?_, by rw [← hw]; exact List.mem_singleton.mpr rfl, by rw [← hw]; exact hA.word h1 args, hA.word h3 args, fun sig hs => ?_⟩
  · rw [List.mem_singleton.mp hw9]
    exact word_at hW (good_of_word h2) (hA.word h1 args)
  · rw [hs] at h5
    exact (Option.some.inj h5).symm
theorem j_fix {p : Program} {R : Room} {s : State} {m : MethodId} {args : Array Value} {meth : Method} {c : Code} (C : jCtx X M d p R s m meth c) : CallFix p m c M.2.1 M.2.2.1 s args [] M.1.cls := ⟨C.1, C.2.1, C.2.2.1, C.2.2.2.1, fun w h => nomatch h⟩
theorem j_sum8 {st : List Value} (h : (st.map fun v => v.category).sum ≤ 8) (X : jX) {m : MethodId} {pc : Nat} {ls : Array Slot} {r : List Value} : 2 * (F0 m pc ls r).monitorRoom + ((st.map (jT X)).map fun v => v.category).sum ≤ 8 := lv_room (by rw [jT_sum]; exact h)
/-- a static call -/
theorem J_callS {index d' kc' ks' n : Nat} {z : jM} {as : List Value} {Q' : jQ} (hdg : decode M.2.1 pc = .ok (.invokestatic index, 3)) (hz : jCal z n) (hl : Cond.methodLink M.1.cls index z.1 ∈ jK) (hst : Cond.static z.1 ∈ jK) (hn : as.length = n) (hM : jMet X z d' kc' ks' as w Q') (hd : d' + 1 ≤ d) (hkc : kc' ≤ kc) (hks : ks' ≤ ks) (h8 : (st.map fun v => v.category).sum ≤ 8)
    {st0 : List Value} (h0 : st0 = as.reverse ++ st)
    (kr : ∀ (r : Option Value) (w' : List jC), Q' (.inl r) w' → J X M d (kc - kc') (ks - ks') (pc + 3) L (r.toList ++ st) w' Q) (kx : ∀ (E : String) (w' : List jC), Q' (.inr E) w' → JX X M d (kc - kc') (ks - ks') pc L st w' E Q) : J X M d kc ks pc L st0 w Q := by
  subst h0
  intro p e R s m args below meth c C H locs cells slots ls hH hS hL h1 h2
  have hA := jCtx_amb C
  obtain ⟨b1, b2, b3, b4, b5, b6, b7, b8, b9⟩ := jCal_back (args := args) (kc' := kc') (ks' := ks') C hz hd
  refine j_core C hS hL h1 h2 hkc hks (vx_runS (As := as.map (jT X)) (n := n) (j_fix C) hM ⟨⟨b1, b2, b3, b4, b5, b6, b7, b8, hz.2.2.2.2.1, b9, hA.word hl args⟩, hA.word hst args⟩ ⟨jBlind X as w, jPre C hH hS as⟩ rfl (by rw [List.length_map]; exact hn) hL.1 (by show (as.reverse ++ st).map (jT X) = _; rw [List.map_append, List.map_reverse]) (j_sum8 h8 X) hdg ⟨by omega, by omega⟩) kr kx
/-- .. a private one of a nest mate -/
theorem J_callSN {index d' kc' ks' n : Nat} {host : String} {z : jM} {as : List Value} {Q' : jQ} (hdg : decode M.2.1 pc = .ok (.invokestatic index, 3)) (hz : jCal z n) (hl : Cond.methodLinkNest M.1.cls index z.1 host ∈ jK) (hst : Cond.static z.1 ∈ jK) (hn : as.length = n) (hM : jMet X z d' kc' ks' as w Q') (hd : d' + 1 ≤ d) (hkc : kc' ≤ kc) (hks : ks' ≤ ks) (h8 : (st.map fun v => v.category).sum ≤ 8)
    {st0 : List Value} (h0 : st0 = as.reverse ++ st)
    (kr : ∀ (r : Option Value) (w' : List jC), Q' (.inl r) w' → J X M d (kc - kc') (ks - ks') (pc + 3) L (r.toList ++ st) w' Q) (kx : ∀ (E : String) (w' : List jC), Q' (.inr E) w' → JX X M d (kc - kc') (ks - ks') pc L st w' E Q) : J X M d kc ks pc L st0 w Q := by
  subst h0
  intro p e R s m args below meth c C H locs cells slots ls hH hS hL h1 h2
  have hA := jCtx_amb C
  obtain ⟨b1, b2, b3, b4, b5, b6, b7, b8, b9⟩ := jCal_back (args := args) (kc' := kc') (ks' := ks') C hz hd
  refine j_core C hS hL h1 h2 hkc hks (vx_runSN (As := as.map (jT X)) (n := n) (j_fix C) hM ⟨⟨⟨b1, b2, b3, b4, b5, b6⟩, b7, b8, hz.2.2.2.2.1, b9, hA.word hl args⟩, hA.word hst args, trivial⟩ ⟨jBlind X as w, jPre C hH hS as⟩ rfl (by rw [List.length_map]; exact hn) hL.1 (by show (as.reverse ++ st).map (jT X) = _; rw [List.map_append, List.map_reverse]) (j_sum8 h8 X) hdg ⟨by omega, by omega⟩) kr kx
/-- a receiver of ours -/
theorem j_recv {p : Program} {R : Room} {s : State} {m : MethodId} {meth : Method} {c : Code} {H : Heap} (C : jCtx X M d p R s m meth c) (hH : jH X w H) {a ci : Nat} {fs : List Value} {q : vw_C} (hw : w[a]? = some (.inr (ci, fs))) (hci : ci < 99) (hc : vwCl[ci]? = some q) : ∃ cell : Cell, H[X.2.1 + a]? = some cell ∧ cell.vm.isStatics = false ∧ s.vm.findClass q.1 = some cell.cls :=
  va_recv (fs := fs.map (jT X)) (jCtx_amb C).2.1 (jH_at hH hw (fun fs' e => by cases e; exact absurd hci (Nat.lt_irrefl 99))) hc (q0 := 0) rfl
/-- an instance method of the receiver's own class -/
theorem J_callV {index d' kc' ks' n a ci : Nat} {z : jM} {as fs : List Value} {q : vw_C} {Q' : jQ} (hdg : decode M.2.1 pc = .ok (.invokevirtual index, 3)) (hz : jCal z n) (hl : Cond.methodLink M.1.cls index z.1 ∈ jK) (hin : Cond.instanceMethod z.1 ∈ jK) (hse : Cond.selects z.1.cls z.1 z.1 ∈ jK) (hw : w[a]? = some (.inr (ci, fs))) (hci : ci < 99) (hc : vwCl[ci]? = some q) (hq : q.1 = z.1.cls) (hn : as.length = n) (hM : jMet X z d' kc' ks' (.ref a :: as) w Q') (hd : d' + 1 ≤ d) (hkc : kc' ≤ kc) (hks : ks' ≤ ks) (h8 : (st.map fun v => v.category).sum ≤ 8)
    {st0 : List Value} (h0 : st0 = as.reverse ++ .ref a :: st)
    (kr : ∀ (r : Option Value) (w' : List jC), Q' (.inl r) w' → J X M d (kc - kc') (ks - ks') (pc + 3) L (r.toList ++ st) w' Q) (kx : ∀ (E : String) (w' : List jC), Q' (.inr E) w' → JX X M d (kc - kc') (ks - ks') pc L st w' E Q) : J X M d kc ks pc L st0 w Q := by
  subst h0
  intro p e R s m args below meth c C H locs cells slots ls hH hS hL h1 h2
  have hA := jCtx_amb C
  obtain ⟨b1, b2, b3, b4, b5, b6, b7, b8, b9⟩ := jCal_back (args := args) (kc' := kc') (ks' := ks') C hz hd
  have hrc := j_recv C hH hw hci hc
  rw [hq] at hrc
  refine j_core C hS hL h1 h2 hkc hks (vx_runV (C := z.1.cls) (b := X.2.1 + a) (As := as.map (jT X)) (n := n) (j_fix C) hM ⟨⟨b1, b2, b3, b4, b5, b6, b7, b8, hz.2.2.2.2.1, b9, hA.word hl args⟩, hA.word hin args, hA.word hse args⟩ ⟨jBlind X (.ref a :: as) w, hrc, jPre C hH hS (.ref a :: as)⟩ rfl (by rw [List.length_map]; exact hn) hL.1 (by show (as.reverse ++ .ref a :: st).map (jT X) = _; rw [List.map_append, List.map_reverse]; rfl) (j_sum8 h8 X) hdg ⟨by omega, by omega⟩) kr kx
/-- .. a private one of a nest mate -/
theorem J_callVN {index d' kc' ks' n a ci : Nat} {host : String} {z : jM} {as fs : List Value} {q : vw_C} {Q' : jQ} (hdg : decode M.2.1 pc = .ok (.invokevirtual index, 3)) (hz : jCal z n) (hl : Cond.methodLinkNest M.1.cls index z.1 host ∈ jK) (hin : Cond.instanceMethod z.1 ∈ jK) (hse : Cond.selects z.1.cls z.1 z.1 ∈ jK) (hw : w[a]? = some (.inr (ci, fs))) (hci : ci < 99) (hc : vwCl[ci]? = some q) (hq : q.1 = z.1.cls) (hn : as.length = n) (hM : jMet X z d' kc' ks' (.ref a :: as) w Q') (hd : d' + 1 ≤ d) (hkc : kc' ≤ kc) (hks : ks' ≤ ks) (h8 : (st.map fun v => v.category).sum ≤ 8)
    {st0 : List Value} (h0 : st0 = as.reverse ++ .ref a :: st)
    (kr : ∀ (r : Option Value) (w' : List jC), Q' (.inl r) w' → J X M d (kc - kc') (ks - ks') (pc + 3) L (r.toList ++ st) w' Q) (kx : ∀ (E : String) (w' : List jC), Q' (.inr E) w' → JX X M d (kc - kc') (ks - ks') pc L st w' E Q) : J X M d kc ks pc L st0 w Q := by
  subst h0
  intro p e R s m args below meth c C H locs cells slots ls hH hS hL h1 h2
  have hA := jCtx_amb C
  obtain ⟨b1, b2, b3, b4, b5, b6, b7, b8, b9⟩ := jCal_back (args := args) (kc' := kc') (ks' := ks') C hz hd
  have hrc := j_recv C hH hw hci hc
  rw [hq] at hrc
  refine j_core C hS hL h1 h2 hkc hks (vx_runVN (C := z.1.cls) (b := X.2.1 + a) (As := as.map (jT X)) (n := n) (j_fix C) hM ⟨⟨⟨b1, b2, b3, b4, b5, b6⟩, b7, b8, hz.2.2.2.2.1, b9, hA.word hl args⟩, hA.word hin args, hA.word hse args⟩ ⟨jBlind X (.ref a :: as) w, hrc, jPre C hH hS (.ref a :: as)⟩ rfl (by rw [List.length_map]; exact hn) hL.1 (by show (as.reverse ++ .ref a :: st).map (jT X) = _; rw [List.map_append, List.map_reverse]; rfl) (j_sum8 h8 X) hdg ⟨by omega, by omega⟩) kr kx
/-- a constructor -/
theorem J_callI {index d' kc' ks' n a : Nat} {z : jM} {as : List Value} {Q' : jQ} (hdg : decode M.2.1 pc = .ok (.invokespecial index, 3)) (hz : jCal z n) (hl : Cond.methodLink M.1.cls index z.1 ∈ jK) (hin : Cond.instanceMethod z.1 ∈ jK) (hnm : z.1.name = "<init>") (hret : z.2.2.2.1 = none) (hn : as.length = n) (hM : jMet X z d' kc' ks' (.ref a :: as) w Q') (hd : d' + 1 ≤ d) (hkc : kc' ≤ kc) (hks : ks' ≤ ks) (h8 : (st.map fun v => v.category).sum ≤ 8)
    {st0 : List Value} (h0 : st0 = as.reverse ++ .ref a :: st)
    (kr : ∀ (r : Option Value) (w' : List jC), Q' (.inl r) w' → J X M d (kc - kc') (ks - ks') (pc + 3) L (r.toList ++ st) w' Q) (kx : ∀ (E : String) (w' : List jC), Q' (.inr E) w' → JX X M d (kc - kc') (ks - ks') pc L st w' E Q) : J X M d kc ks pc L st0 w Q := by
  subst h0
  intro p e R s m args below meth c C H locs cells slots ls hH hS hL h1 h2
  have hA := jCtx_amb C
  obtain ⟨b1, b2, b3, b4, b5, b6, b7, b8, b9⟩ := jCal_back (args := args) (kc' := kc') (ks' := ks') C hz hd
  rw [hret] at b6 b7
  refine j_core C hS hL h1 h2 hkc hks (vx_runI (b := X.2.1 + a) (As := as.map (jT X)) (n := n) (j_fix C) hM ⟨⟨b1, b2, b3, b4, b5, b6, b7, b8, hz.2.2.2.2.1, b9, hA.word hl args⟩, hnm, hA.word hin args⟩ ⟨jBlind X (.ref a :: as) w, jPre C hH hS (.ref a :: as)⟩ rfl (by rw [List.length_map]; exact hn) hL.1 (by show (as.reverse ++ .ref a :: st).map (jT X) = _; rw [List.map_append, List.map_reverse]; rfl) (j_sum8 h8 X) hdg ⟨by omega, by omega⟩) kr kx
/-- .. a private one of a nest mate -/
theorem J_callIN {index d' kc' ks' n a : Nat} {host : String} {z : jM} {as : List Value} {Q' : jQ} (hdg : decode M.2.1 pc = .ok (.invokespecial index, 3)) (hz : jCal z n) (hl : Cond.methodLinkNest M.1.cls index z.1 host ∈ jK) (hin : Cond.instanceMethod z.1 ∈ jK) (hnm : z.1.name = "<init>") (hret : z.2.2.2.1 = none) (hn : as.length = n) (hM : jMet X z d' kc' ks' (.ref a :: as) w Q') (hd : d' + 1 ≤ d) (hkc : kc' ≤ kc) (hks : ks' ≤ ks) (h8 : (st.map fun v => v.category).sum ≤ 8)
    {st0 : List Value} (h0 : st0 = as.reverse ++ .ref a :: st)
    (kr : ∀ (r : Option Value) (w' : List jC), Q' (.inl r) w' → J X M d (kc - kc') (ks - ks') (pc + 3) L (r.toList ++ st) w' Q) (kx : ∀ (E : String) (w' : List jC), Q' (.inr E) w' → JX X M d (kc - kc') (ks - ks') pc L st w' E Q) : J X M d kc ks pc L st0 w Q := by
  subst h0
  intro p e R s m args below meth c C H locs cells slots ls hH hS hL h1 h2
  have hA := jCtx_amb C
  obtain ⟨b1, b2, b3, b4, b5, b6, b7, b8, b9⟩ := jCal_back (args := args) (kc' := kc') (ks' := ks') C hz hd
  rw [hret] at b6 b7
  refine j_core C hS hL h1 h2 hkc hks (vx_runIN (b := X.2.1 + a) (As := as.map (jT X)) (n := n) (j_fix C) hM ⟨⟨⟨b1, b2, b3, b4, b5, b6⟩, b7, b8, hz.2.2.2.2.1, b9, hA.word hl args⟩, hnm, hA.word hin args⟩ ⟨jBlind X (.ref a :: as) w, jPre C hH hS (.ref a :: as)⟩ rfl (by rw [List.length_map]; exact hn) hL.1 (by show (as.reverse ++ .ref a :: st).map (jT X) = _; rw [List.map_append, List.map_reverse]; rfl) (j_sum8 h8 X) hdg ⟨by omega, by omega⟩) kr kx
/-- a static call of a method with a table of its own -/
def jCalW (z : jM) (n : Nat) : Prop := z.2.2.2.2 ≠ [] ∧ jWd z ∈ jK ∧ goodWord (jWd z) = true ∧ Cond.initialized z.1.cls ∈ jK ∧ (z.1.cls ≠ "java/lang/invoke/MethodHandle" ∧ z.1.cls ≠ "java/lang/invoke/VarHandle") ∧ (parseMethodDescriptor z.1.desc).map (fun q => q.parameters.length) = some n ∧ z.2.2.1 ≤ 80
theorem jCalW_word {z : jM} {n : Nat} (h : jCalW z n) : jWd z = .codeWith z.1 z.2.1 z.2.2.1 z.2.2.2.1 z.2.2.2.2 := by
  unfold jWd
  cases hz : z.2.2.2.2 with
  | nil => exact absurd hz h.1
  | cons a t => rfl
theorem J_callSX {index d' kc' ks' n : Nat} {z : jM} {as : List Value} {Q' : jQ} (hdg : decode M.2.1 pc = .ok (.invokestatic index, 3)) (hz : jCalW z n) (hl : Cond.methodLink M.1.cls index z.1 ∈ jK) (hst : Cond.static z.1 ∈ jK) (hn : as.length = n) (hM : jMet X z d' kc' ks' as w Q') (hd : d' + 1 ≤ d) (hkc : kc' ≤ kc) (hks : ks' ≤ ks) (h8 : (st.map fun v => v.category).sum ≤ 8)
    {st0 : List Value} (h0 : st0 = as.reverse ++ st)
    (kr : ∀ (r : Option Value) (w' : List jC), Q' (.inl r) w' → J X M d (kc - kc') (ks - ks') (pc + 3) L (r.toList ++ st) w' Q) (kx : ∀ (E : String) (w' : List jC), Q' (.inr E) w' → JX X M d (kc - kc') (ks - ks') pc L st w' E Q) : J X M d kc ks pc L st0 w Q := by
  subst h0
  intro p e R s m args below meth c C H locs cells slots ls hH hS hL h1 h2
  have hA := jCtx_amb C
  have hw := jCalW_word hz
  obtain ⟨-, -, -, -, -, -, -, -, -, -, hd1, hd2⟩ := id C
  obtain ⟨-, g1, g2, g3, g4, g5, g6⟩ := hz
  refine j_core C hS hL h1 h2 hkc hks (vx_runSX (hh := z.2.2.2.2) (As := as.map (jT X)) (n := n) (j_fix C) hM ⟨⟨rfl, rfl, by show d' + 1 ≤ _; omega, by show 8 + (z.2.2.1 + 11) + 100 * d' ≤ _; omega, fun w9 hw9 a' U hW => ?_, by rw [← hw]; exact List.mem_singleton.mpr rfl⟩, by rw [← hw]; exact hA.word g1 args, hA.word g3 args, g4, fun sig hs => ?_, hA.word hl args, hA.word hst args⟩ ⟨jBlind X as w, jPre C hH hS as⟩ rfl (by rw [List.length_map]; exact hn) hL.1 (by show (as.reverse ++ st).map (jT X) = _; rw [List.map_append, List.map_reverse]) (j_sum8 h8 X) hdg ⟨by omega, by omega⟩) kr kx
  · rw [List.mem_singleton.mp hw9]
    exact word_at hW (good_of_word g2) (hA.word g1 args)
  · rw [hs] at g5
    exact (Option.some.inj g5).symm
/-- throw new E("text") -/
theorem J_throw {cls text : String} {names : List String} {ik is ic sa : Nat} (hcls : Bundle.fit cls = true) (hnames : ∀ n ∈ names, Bundle.fit n = true) (hk : Cond.classLink M.1.cls ik cls ∈ jK) (hini : Cond.initialized cls ∈ jK) (hstr : (M.1.cls, is, text, sa) ∈ jStr)
    (hat : ∀ w ∈ vx_atS M.1.cls ic cls names, w ∈ jK) (hgood : ∀ w ∈ Cond.classLink M.1.cls ik cls :: Cond.initialized cls :: vx_atS M.1.cls ic cls names, vx_ot w = true)
    (d0 : decode M.2.1 pc = .ok (.new ik, 3)) (d3 : decode M.2.1 (pc + 3) = .ok (.dup, 1)) (d4 : decode M.2.1 (pc + 4) = .ok (.ldc_w is, 3)) (d7 : decode M.2.1 (pc + 7) = .ok (.invokespecial ic, 3)) (d10 : decode M.2.1 (pc + 10) = .ok (.athrow, 1))
    (hh : M.2.2.2.2 = []) (hd : names.length + 9 ≤ d) (h8 : (st.map fun v => v.category).sum ≤ 8) (hkc : 1 ≤ kc) (hks : 6 ≤ ks) (hq : Q (.inr cls) (w ++ [.inr (99, [])])) : J X M d kc ks pc L st w Q := by
  intro p e R s m args below meth c C H locs cells slots ls hH hS hL h1 h2
  have hA := jCtx_amb C
  obtain ⟨-, -, -, -, -, -, -, ht, -, hl, hd1, hd2⟩ := id C
  have hz := hA.2.2.2.2.2.2.1 _ hstr
  refine jx_throwSW C.1 C.2.1 hl C.2.2.2.1 hcls hnames (hA.word hk args) (hA.word hini args) hz (fun w9 hw9 => hA.word (hat w9 hw9) args) hgood hA.2.2.2.2.1 hA.2.2.2.2.2.1 hS (hL.1.trans C.2.2.1.symm) d0 d3 d4 d7 d10 ?_ (by omega) ?_ (by omega) (by omega) C.2.2.2.2.2.1 ?_ hS.2.2 (by omega) (by omega)
  · intro x hx
    rw [ht, hh] at hx
    cases hx
  · rw [jT_sum]; omega
  · intro t hvm hz ho
    refine ⟨_, hq, jH_push hH hz ho (fun hne => absurd rfl (hne [])), by rw [hz]; exact Nat.le_succ_of_le hS.1, fun q hq => ?_⟩
    have hb := (jCtx_amb C).1
    rw [ho q (by have := hS.1; omega)]
    exact hS.2.1 q (Nat.lt_of_lt_of_le hq hb) (Nat.not_le.mpr hq)
/-- a thing thrown here goes on to the caller -/
theorem JX_out {E : String} (hout : ∀ x ∈ tableOf M.2.2.2.2, covers x pc = false) (hq : Q (.inr E) w) : JX X M d kc ks pc L st w E Q := by
  intro p e R s m args below meth c C H locs cells slots ls q ce hH hS hL h1 h2 hce hcv hcl
  obtain ⟨-, -, -, -, -, hlocks, -, ht, hA, -, -, -⟩ := id C
  refine vx_out (by rw [ht]; exact hout) hlocks hce hcv hcl (fun t htH _ => ⟨w, hq, by rw [htH]; exact hH, by rw [htH]; exact hS.1, fun q9 hq9 => ?_⟩) hS.2.2 (by omega) (by omega)
  rw [htH]
  exact hS.2.1 q9 (Nat.lt_of_lt_of_le hq9 hA.1) (Nat.not_le.mpr hq9)
theorem JX_no {E : String} {P : Prop} (h : False) : JX X M d kc ks pc L st w E Q := h.elim
/-- the handler's three instructions: astore, iconst, ireturn -/
def jHan (M : jM) (hp : Nat) (v : Int32) : Prop := (∃ (k : Fin 4), decode M.2.1 hp = .ok (.astore_n k, 1) ∧ (k : Nat) < M.2.2.1 ∧ ∃ n : Int, decode M.2.1 (hp + 1) = .ok (.iconst n, 1) ∧ Int32.ofInt n = v ∧ decode M.2.1 (hp + 2) = .ok (.ireturn, 1)) ∨
  (∃ (k : Nat), decode M.2.1 hp = .ok (.astore k, 2) ∧ k < M.2.2.1 ∧ ∃ n : Int, decode M.2.1 (hp + 2) = .ok (.iconst n, 1) ∧ Int32.ofInt n = v ∧ decode M.2.1 (hp + 3) = .ok (.ireturn, 1))
theorem j_han {hp : Nat} {v : Int32} (hh : jHan M hp v) (hr : M.2.2.2.1 = some .int) (hq : Q (.inl (some (.int v))) w) {p : Program} {e : Env} {R : Room} {s : State} {m : MethodId} {args : Array Value} {below : List Frame} {meth : Method} {c : Code} (C : jCtx X M d p R s m meth c) {H : Heap} {locs : List Loc} {cells slots : Nat} {ls : Array Slot} (hH : jH X w H) (hS : va_S (jA X) s.heap H locs) (hL : jL X ls M.2.2.1 L) (h1 : cells ≤ R.cells) (h2 : slots ≤ R.slots) (q : Addr) :
    W p X.1 e R s m args below meth c H locs cells slots (jEnd X Q below args s R) (F0 m hp ls [.ref q]) := by
  have hlocks := C.2.2.2.2.2.1
  rcases hh with ⟨k, d0, hk, n, d1, hv, d2⟩ | ⟨k, d0, hk, n, d1, hv, d2⟩
  · exact lv_astore_n C.1 C.2.1 d0 rfl (jL_has.mp hL) hk rfl (fun ls' _ => lv_iconst C.1 C.2.1 d1 hv (J_ret_core (r := some (.int v)) C hH hS h1 h2 hq (fun hq hf => W.iret C.1 C.2.1 (C.2.2.2.2.1.trans hr) hq hf d2 hlocks)))
  · exact lv_astore C.1 C.2.1 d0 (jL_has.mp hL) hk rfl (fun ls' _ => lv_iconst C.1 C.2.1 d1 hv (J_ret_core (r := some (.int v)) C hH hS h1 h2 hq (fun hq hf => W.iret C.1 C.2.1 (C.2.2.2.2.1.trans hr) hq hf d2 hlocks)))
/-- caught by the table's first row -/
theorem JX_catch1 {E : String} {v : Int32} {x : ExceptionTableEntry} {suf : List ExceptionTableEntry} (ht : tableOf M.2.2.2.2 = x :: suf) (hx : covers x pc = true) (h0 : x.catchType ≠ 0) (hl : Cond.classLink M.1.cls x.catchType E ∈ jK) (hc : Cond.castable E E ∈ jK) (hh : jHan M x.handlerPc v) (hr : M.2.2.2.1 = some .int) (hq : Q (.inl (some (.int v))) w) : JX X M d kc ks pc L st w E Q := by
  intro p e R s m args below meth c C H locs cells slots ls q ce hH hS hL h1 h2 hce hcv hcl
  have hA := jCtx_amb C
  have hT := C.2.2.2.2.2.2.2.1
  exact vx_catch (name := E) C.2.2.2.1 [] x suf (hT.trans ht) (fun z hz => nomatch hz) hx h0 (hA.word hl args) (hA.word hc args) hce hcv hcl (j_han hh hr hq C hH hS hL (by omega) (by omega) q)
/-- caught by its second, the first names another class -/
theorem JX_catch2 {E nm : String} {v : Int32} {x y : ExceptionTableEntry} {suf : List ExceptionTableEntry} (ht : tableOf M.2.2.2.2 = y :: x :: suf) (hy0 : y.catchType ≠ 0) (hyl : Cond.classLink M.1.cls y.catchType nm ∈ jK) (hnc : (E, nm) ∈ jNc) (hx : covers x pc = true) (h0 : x.catchType ≠ 0) (hl : Cond.classLink M.1.cls x.catchType E ∈ jK) (hc : Cond.castable E E ∈ jK) (hh : jHan M x.handlerPc v) (hr : M.2.2.2.1 = some .int) (hq : Q (.inl (some (.int v))) w) : JX X M d kc ks pc L st w E Q := by
  intro p e R s m args below meth c C H locs cells slots ls q ce hH hS hL h1 h2 hce hcv hcl
  have hA := jCtx_amb C
  have hT := C.2.2.2.2.2.2.2.1
  refine vx_catch (name := E) C.2.2.2.1 [y] x suf (hT.trans ht) (fun z hz => ?_) hx h0 (hA.word hl args) (hA.word hc args) hce hcv hcl (j_han hh hr hq C hH hS hL (by omega) (by omega) q)
  rw [List.mem_singleton.mp hz]
  exact Or.inr ⟨hy0, nm, hA.word hyl args, hA.2.2.2.2.2.2.2.2 _ hnc⟩
end JCALL
/-- the locals at the entry -/
def jEnt : List Value → List (Option Value)
  | [] => []
  | v :: t => some v :: (if v.category = 2 then none :: jEnt t else jEnt t)
theorem jEnt_spec (X : jX) : ∀ (as : List Value) (k i : Nat) (v : Value), (jEnt as)[i]? = some (some v) → (k + i, jT X v) ∈ lv_args k (as.map (jT X)) := by
  intro as
  induction as with
  | nil => intro k i v h; simp [jEnt] at h
  | cons a t ih =>
    intro k i v h
    cases i with
    | zero =>
      simp [jEnt] at h
      subst h
      exact List.mem_cons_self
    | succ i =>
      refine List.mem_cons_of_mem _ ?_
      rw [jT_cat]
      by_cases hc : a.category = 2
      · rw [if_pos hc]
        simp only [jEnt, if_pos hc, List.getElem?_cons_succ] at h
        cases i with
        | zero => simp at h
        | succ i =>
          rw [List.getElem?_cons_succ] at h
          have := ih (k + 2) i v h
          rw [show k + (i + 1 + 1) = k + 2 + i by omega]
          exact this
      · rw [if_neg hc]
        simp only [jEnt, if_neg hc, List.getElem?_cons_succ] at h
        have := ih (k + 1) i v h
        rw [show k + (i + 1) = k + 1 + i by omega]
        exact this
theorem jL_entry (X : jX) {as : List Value} {nL : Nat} {L : List (Option Value)} (hn : (lg_sl (as.map (jT X))).length ≤ nL) (hL : L = jEnt as ++ List.replicate (nL - (jEnt as).length) none) : jL X ((lg_sl (as.map (jT X)) ++ List.replicate (nL - (lg_sl (as.map (jT X))).length) Slot.unset).toArray) nL L := by
  obtain ⟨h1, h2, h3⟩ := lv_entry (as.map (jT X)) hn
  refine ⟨h1, h2, fun i v hv => ?_⟩
  have hi : (jEnt as)[i]? = some (some v) := by
    rw [hL] at hv
    by_cases hlt : i < (jEnt as).length
    · rwa [List.getElem?_append_left hlt] at hv
    · rw [List.getElem?_append_right (by omega), List.getElem?_replicate] at hv
      split at hv <;> cases hv
  have := jEnt_spec X as 0 i v hi
  rw [Nat.zero_add] at this
  exact h3 _ this
theorem lg_len (X : jX) (as : List Value) : (lg_sl (as.map (jT X))).length = (jEnt as).length := by
  induction as with
  | nil => rfl
  | cons a t ih =>
    simp only [lg_sl, List.map_cons, List.flatMap_cons, List.length_append, jT_cat] at ih ⊢
    rw [ih]
    by_cases hc : a.category = 2
    · simp [jEnt, hc]; omega
    · simp [jEnt, hc]; omega
/-- a contract, out of the body's judgement -/
theorem jMet_of {X : jX} {M : jM} {d kc ks : Nat} {as : List Value} {w : List jC} {Q : jQ} (hs : X.1.stackTraces = false) (hp : plainName M.1.cls = true) (hn : (jEnt as).length ≤ M.2.2.1) {L : List (Option Value)} (hL : L = jEnt as ++ List.replicate (M.2.2.1 - (jEnt as).length) none) (h : J X M d kc ks 0 L [] w Q) : jMet X M d kc ks as w Q := by
  have hlen := lg_len X as
  have go : ∀ (p : Program) (e : Env) (s : State) (m : MethodId) (args : Array Value) (below : List Frame) (meth : Method) (c : Code) (s₁ : State), BodyLoose p X.1 M.1 (headSpec [jWd M] (jR d kc ks)) M.2.1 M.2.2.1 M.2.2.2.1 e s m args below meth c s₁ → c.maxLocals = M.2.2.1 → c.exceptionTable.toList = tableOf M.2.2.2.2 → (args = (as.map (jT X)).toArray ∧ jAmb X s ∧ jH X w s.heap) →
      W p X.1 e (jR d kc ks) s m args below meth c s.heap [] 0 0 (vx_MQ below (fun _ st o t => ∃ (r : Option Value) (w' : List jC), o = .returned (r.map (jT X)) ∧ Q (.inl r) w' ∧ jH X w' t.heap ∧ jLow X st t) (fun E st t => ∃ w' : List jC, Q (.inr E) w' ∧ jH X w' t.heap ∧ jLow X st t) args s kc ks (jA X)) (entryFrame m args M.2.2.1) := by
    intro p e s m args below meth c s₁ B hml hT hP
    obtain ⟨rfl, hA, hH⟩ := hP
    rw [lg_entry_eq]
    have hnm := (name_of_methodNamed B.named B.method).1
    exact h p e (jR d kc ks) s m _ below meth c ⟨B.exec, B.bytes, hml, findClass_of_methodNamed B.named, B.returns, B.notSynchronized, hnm, hT, hA, hs, Nat.le_refl _, Nat.le_refl _⟩ s.heap [] 0 0 _ hH va_S.rf (jL_entry X (by rw [hlen]; exact hn) hL) (by show 0 + kc ≤ kc; omega) (by show 0 + ks ≤ ks; omega)
  obtain ⟨y, cc, nL, ret, hh⟩ := M
  cases hh with
  | nil =>
    refine vx_ofW (cc := cc) (maxL := nL) (ret := ret) hp rfl (fun p e s m args below meth c s₁ B hml ht hP => go p e s m args below meth c s₁ B hml ?_ hP)
    show c.exceptionTable.toList = []
    cases hq : c.exceptionTable.toList with
    | nil => rfl
    | cons a t => exact (ht a (by rw [hq]; exact List.mem_cons_self)).elim
  | cons a t =>
    refine vx_ofWH (cc := cc) (maxL := nL) (ret := ret) (hh := a :: t) hp rfl (fun p e s m args below meth c s₁ B hml hP => go p e s m args below meth c s₁ B hml ?_ hP)
    exact vx_table (x := y) (S := headSpec [Cond.codeWith y cc nL ret (a :: t)] (jR d kc ks)) B (atoms_spec (ws := [Cond.codeWith y cc nL ret (a :: t)]) B.pre _ List.mem_cons_self)
end
