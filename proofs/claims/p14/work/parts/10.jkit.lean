/-! THE J KIT: a judgement over a plain list of cells, the machine's context hidden. -/
abbrev jC : Type := (Nat × List Int32) ⊕ (Nat × List Value)
abbrev jX : Type := Launch × Nat × (Nat → Nat) × va_G × (Nat → ClassId) × List jC
abbrev jO : Type := (Option Value) ⊕ String
abbrev jQ : Type := jO → List jC → Prop
/-- a value of ours in the machine: own cells lie behind the base, old ones where they lie -/
def jT (X : jX) (v : Value) : Value := match v with
  | .ref i => .ref (X.2.1 + i)
  | .retAddr k => .ref (X.2.2.1 k)
  | v => v
theorem jT_cat (X : jX) (v : Value) : (jT X v).category = v.category := by cases v <;> rfl
theorem jT_sum (X : jX) (st : List Value) : ((st.map (jT X)).map fun v => v.category).sum = (st.map fun v => v.category).sum := by
  induction st with
  | nil => rfl
  | cons a l ih => simp only [List.map_cons, List.sum_cons, jT_cat, ih]
def jTy (t : Nat) : FieldType := if t = 0 then .int else .byte
def jE (X : jX) (c : jC) : va_E := match c with
  | .inl a => .inl (X.2.2.2.2.1 a.1, (a.2.length, .inl (fun j => a.2.getD j 0)))
  | .inr o => .inr (o.1, o.2.map (jT X))
def jA (X : jX) (q : Nat) : Prop := X.2.1 ≤ q
/-- the world: our cells, one behind the other, behind the base; the cells of class 99 hold anything -/
def jH (X : jX) (w : List jC) (H : Heap) : Prop := H.size = X.2.1 + w.length ∧ ∀ (i : Nat) (c : jC), w[i]? = some c → (∀ fs, c ≠ .inr (99, fs)) → va_at X.2.2.2.1 vwCl (X.2.1 + i, jE X c) H
/-- what lay there before, and is read -/
def jOldC (X : jX) (U : State) (H : Heap) (k : Nat) (c : jC) : Prop := match c with
  | .inl a => va_T (jTy a.1) (X.2.2.1 k) a.2.length (fun j => .int (a.2.getD j 0)) (jA X) U H
  | .inr o => va_O "java/lang/String" (X.2.2.1 k) (jA X) U H ∧ va_OF "java/lang/String" "coder" "B" (.int 0) (X.2.2.1 k) (jA X) U H ∧ va_OF "java/lang/String" "value" "[B" (jT X (o.2.getD 0 .null)) (X.2.2.1 k) (jA X) U H
def jOld (X : jX) (U : State) (H : Heap) : Prop := ∀ (k : Nat) (c : jC), X.2.2.2.2.2[k]? = some c → jOldC X U H k c
/-- statics that are read: where, what -/
def jStat : List (String × String × String × Value) := [("java/lang/String", "COMPACT_STRINGS", "Z", .int 1), ("java/lang/Integer", "DigitOnes", "[B", .retAddr 1), ("java/lang/Integer", "DigitTens", "[B", .retAddr 2)]
/-- String constants: class, entry, text, the old cell -/
def jStr : List (String × Nat × String × Nat) := [("SwaphouseModel", 144, "", 5), ("SwaphouseModel", 149, " ", 6), ("Swaphouse", 289, "there is no such cell", 7), ("Swaphouse", 294, "there is no such point", 8), ("Swaphouse", 298, "an argument is outside what the document lets", 9)]
def jNc : List (String × String) := [("java/lang/IllegalArgumentException", "java/lang/IndexOutOfBoundsException")]
/-- words that stay as the tables warm -/
def jKeepW (w : Cond) : Bool := (w.onTables && (w.keeps || (w.keepsFace || w.keepsH))) || (match w with | .arrayClass _ => true | _ => false)
def jK : List Cond := lw_tbl.filter jKeepW
theorem jK_of {w : Cond} (i : Nat) (h : lw_tbl[i]? = some w) (hk : jKeepW w = true) : w ∈ jK := List.mem_filter.mpr ⟨List.mem_of_getElem? h, hk⟩
theorem jW_use {w : Cond} (hk : jKeepW w = true) {s U : State} {a a' : Array Value} (hW : s.WarmedH U.vm) (h : w.before a s = true) : w.before a' U = true := by
  unfold jKeepW at hk
  rcases Bool.or_eq_true _ _ |>.mp hk with hk | hk
  · obtain ⟨h1, h2⟩ := Bool.and_eq_true _ _ |>.mp hk
    have hs : w.before a (s.setVm U.vm) = true := by
      rcases Bool.or_eq_true _ _ |>.mp h2 with h2 | h2
      · exact Cond.holds_shifted (State.Shifted.of_warmed hW) w [] h2 h
      · rcases Bool.or_eq_true _ _ |>.mp h2 with h2 | h2
        · exact Cond.before_shiftedFace (State.Shifted.of_warmed hW) w h2 h
        · exact Cond.holds_shiftedH (State.Shifted.of_warmed hW) (fun m x hx => by rw [hW.hostNow]; exact hx) w [] h2 h
    exact va_tabs h1 (rfl : (s.setVm U.vm).vm = U.vm) hs
  · cases w <;> first | exact word_at hW (Or.inr ⟨_, rfl⟩) h | exact absurd hk Bool.false_ne_true
/-- what holds wherever a method of ours is called -/
def jAmb (X : jX) (U : State) : Prop :=
  X.2.1 ≤ U.heap.size ∧ va_K X.2.2.2.1 vwCl [(X.2.2.2.2.1 0, .int), (X.2.2.2.2.1 1, .byte)] U ∧ jOld X U U.heap ∧
  (∀ q ∈ jStat, va_Z q.1 q.2.1 q.2.2.1 (jT X q.2.2.2) (jA X) U U.heap) ∧
  vx_Zq Bundle.tN "UNASSIGNED_STACK" Bundle.steD (jA X) U U.heap ∧ vx_Zq Bundle.tN "SUPPRESSED_SENTINEL" Bundle.listD (jA X) U U.heap ∧
  (∀ q ∈ jStr, vk_R q.1 q.2.1 q.2.2.1 (X.2.2.1 q.2.2.2) U) ∧ (∀ w ∈ jK, w.before #[] U = true) ∧ (∀ q ∈ jNc, va_Nc q.1 q.2 U)
def jLow (X : jX) (s t : State) : Prop := s.heap.size ≤ t.heap.size ∧ ∀ q : Nat, q < X.2.1 → t.heap[q]? = s.heap[q]?
theorem jOldC.moved {X : jX} {s U : State} {H : Heap} {k : Nat} {c : jC} (hvm : s.vm.Alike U.vm) (h : jOldC X s H k c) : jOldC X U H k c := by
  cases c with
  | inl a => exact va_T.moved hvm h
  | inr o => exact ⟨va_O.moved hvm h.1, va_OF.moved hvm h.2.1, va_OF.moved hvm h.2.2⟩
theorem jOldC.kept {X : jX} {s : State} {H H1 : Heap} {k : Nat} {c : jC} (hq : ∀ a : Nat, a < H.size → ¬ jA X a → H1[a]? = H[a]?) (h : jOldC X s H k c) : jOldC X s H1 k c := by
  cases c with
  | inl a => exact va_T.kept h hq
  | inr o => exact ⟨va_O.kept h.1 hq, va_OF.kept h.2.1 hq, va_OF.kept h.2.2 hq⟩
theorem jAmb.moved {X : jX} {s U : State} (hW : s.WarmedH U.vm) (hz : X.2.1 ≤ U.heap.size) (hl : jLow X s U) (h : jAmb X s) : jAmb X U := by
  obtain ⟨h1, h2, h3, h4, h5, h6, h7, h8, h9⟩ := h
  have ha := hW.alike
  have hq : ∀ a : Nat, a < s.heap.size → ¬ jA X a → U.heap[a]? = s.heap[a]? := fun a _ hn => hl.2 a (Nat.not_le.mp hn)
  exact ⟨hz, va_K.moved ha h2, fun k c hk => ((h3 k c hk).moved ha).kept hq, fun q hm => (va_Z.moved ha (h4 q hm)).kept hq, (vx_Zq.moved ha h5).kept hq, (vx_Zq.moved ha h6).kept hq,
    fun q hm => vk_R.warm hW (h7 q hm), fun w hw => jW_use (List.mem_filter.mp hw).2 hW (h8 w hw), fun q hm => va_Nc.moved ha (h9 q hm)⟩
theorem jAmb.word {X : jX} {s : State} (h : jAmb X s) {w : Cond} (hw : w ∈ jK) (a : Array Value) : w.before a s = true := jW_use (List.mem_filter.mp hw).2 (State.WarmedH.refl s) (h.2.2.2.2.2.2.2.1 w hw)
/-- the locals -/
def jL (X : jX) (ls : Array Slot) (nL : Nat) (L : List (Option Value)) : Prop := ls.size = nL ∧ lv_wf ls ∧ ∀ (i : Nat) (v : Value), L[i]? = some (some v) → ls[i]? = some (.val (jT X v))
def jAs (X : jX) (L : List (Option Value)) : List (Nat × Value) := (List.range L.length).filterMap fun i => (L.getD i none).map fun v => (i, jT X v)
theorem jAs_mem {X : jX} {L : List (Option Value)} {q : Nat × Value} : q ∈ jAs X L ↔ ∃ v, L[q.1]? = some (some v) ∧ q.2 = jT X v := by
  unfold jAs
  rw [List.mem_filterMap]
  constructor
  · rintro ⟨i, hi, hq⟩
    have hi := List.mem_range.mp hi
    rw [List.getD_eq_getElem?_getD, List.getElem?_eq_getElem hi] at hq
    simp only [Option.getD_some, Option.map_eq_some_iff] at hq
    obtain ⟨v, hv, rfl⟩ := hq
    exact ⟨v, by rw [List.getElem?_eq_getElem hi, hv], rfl⟩
  · rintro ⟨v, hv, he⟩
    have hi := (List.getElem?_eq_some_iff.mp hv).1
    refine ⟨q.1, List.mem_range.mpr hi, ?_⟩
    rw [List.getD_eq_getElem?_getD, hv]
    obtain ⟨a, b⟩ := q
    simp only at he
    subst he
    rfl
theorem jL_has {X : jX} {ls : Array Slot} {nL : Nat} {L : List (Option Value)} : jL X ls nL L ↔ lv_has ls nL (jAs X L) := by
  constructor
  · rintro ⟨h1, h2, h3⟩
    refine ⟨h1, h2, fun q hq => ?_⟩
    obtain ⟨v, hv, he⟩ := jAs_mem.mp hq
    rw [he]
    exact h3 _ _ hv
  · rintro ⟨h1, h2, h3⟩
    exact ⟨h1, h2, fun i v hv => h3 (i, jT X v) (jAs_mem.mpr ⟨v, hv, rfl⟩)⟩
/-- ahead of place i stands no long -/
def jOk1 (L : List (Option Value)) (i : Nat) : Bool := match i with
  | 0 => true
  | k + 1 => match L[k]? with
    | some (some v) => v.category == 1
    | _ => true
theorem jOk1_spec {L : List (Option Value)} {i j : Nat} {v : Value} (h : jOk1 L i = true) (hj : L[j]? = some (some v)) (e : j + 1 = i) : ¬ v.category = 2 := by
  subst e
  simp only [jOk1, hj, beq_iff_eq] at h
  omega
theorem jL_set1 {X : jX} {ls' : Array Slot} {nL i : Nat} {L : List (Option Value)} {v : Value} (hok : jOk1 L i = true) (h : lv_has ls' nL ((i, jT X v) :: (jAs X L).filter (fun q => !(q.1 == i) && !(q.1 + 1 == i && q.2.category == 2)))) : jL X ls' nL (L.set i (some v)) := by
  refine ⟨h.1, h.2.1, fun j u hu => ?_⟩
  by_cases hji : j = i
  · subst hji
    have hlt : j < L.length := by
      have := (List.getElem?_eq_some_iff.mp hu).1
      simpa using this
    rw [List.getElem?_set_self hlt] at hu
    cases hu
    exact h.2.2 (j, jT X v) List.mem_cons_self
  · rw [List.getElem?_set_ne (fun e => hji e.symm)] at hu
    refine h.2.2 (j, jT X u) (List.mem_cons_of_mem _ (List.mem_filter.mpr ⟨jAs_mem.mpr ⟨u, hu, rfl⟩, ?_⟩))
    have h2 : ¬ (j + 1 = i ∧ u.category = 2) := fun e => jOk1_spec hok hu e.1 e.2
    simp only [jT_cat, Bool.and_eq_true, Bool.not_eq_true', beq_eq_false_iff_ne, ne_eq, hji, not_false_eq_true, true_and]
    by_cases e : j + 1 = i
    · have : ¬ u.category = 2 := fun q => h2 ⟨e, q⟩
      simp [this]
    · simp [e]
theorem jL_set2 {X : jX} {ls' : Array Slot} {nL i : Nat} {L : List (Option Value)} {v : Value} (hok : jOk1 L i = true) (h : lv_has ls' nL ((i, jT X v) :: (jAs X L).filter (fun q => !(q.1 == i) && (!(q.1 == i + 1) && !(q.1 + 1 == i && q.2.category == 2))))) : jL X ls' nL ((L.set i (some v)).set (i + 1) none) := by
  refine ⟨h.1, h.2.1, fun j u hu => ?_⟩
  by_cases hj1 : j = i + 1
  · subst hj1
    have hlt : i + 1 < (L.set i (some v)).length := by
      have := (List.getElem?_eq_some_iff.mp hu).1
      simpa using this
    rw [List.getElem?_set_self hlt] at hu
    cases hu
  · rw [List.getElem?_set_ne (fun e => hj1 e.symm)] at hu
    by_cases hji : j = i
    · subst hji
      have hlt : j < L.length := by
        have := (List.getElem?_eq_some_iff.mp hu).1
        simpa using this
      rw [List.getElem?_set_self hlt] at hu
      cases hu
      exact h.2.2 (j, jT X v) List.mem_cons_self
    · rw [List.getElem?_set_ne (fun e => hji e.symm)] at hu
      refine h.2.2 (j, jT X u) (List.mem_cons_of_mem _ (List.mem_filter.mpr ⟨jAs_mem.mpr ⟨u, hu, rfl⟩, ?_⟩))
      have h2 : ¬ (j + 1 = i ∧ u.category = 2) := fun e => jOk1_spec hok hu e.1 e.2
      simp only [jT_cat, Bool.and_eq_true, Bool.not_eq_true', beq_eq_false_iff_ne, ne_eq, hji, hj1, not_false_eq_true, true_and]
      by_cases e : j + 1 = i
      · have : ¬ u.category = 2 := fun q => h2 ⟨e, q⟩
        simp [this]
      · simp [e]
/-- a method's own word -/
def jWd (M : jM) : Cond := match M.2.2.2.2 with
  | [] => .code M.1 M.2.1 M.2.2.1 M.2.2.2.1
  | h :: t => .codeWith M.1 M.2.1 M.2.2.1 M.2.2.2.1 (h :: t)
def jR (d kc ks : Nat) : Room := { frames := d, cells := kc, slots := ks, locals := 100 * d }
/-- a contract: from the world w and the arguments as, the method comes to an end with Q -/
def jMet (X : jX) (M : jM) (d kc ks : Nat) (as : List Value) (w : List jC) (Q : jQ) : Prop :=
  vx_Met X.1 M.1 [jWd M] (jR d kc ks) (fun v U => v = (as.map (jT X)).toArray ∧ jAmb X U ∧ jH X w U.heap)
    (fun _ st o t => ∃ (r : Option Value) (w' : List jC), o = .returned (r.map (jT X)) ∧ Q (.inl r) w' ∧ jH X w' t.heap ∧ jLow X st t)
    (fun E st t => ∃ w' : List jC, Q (.inr E) w' ∧ jH X w' t.heap ∧ jLow X st t) kc ks (jA X)
/-- a body's context -/
def jCtx (X : jX) (M : jM) (d : Nat) (p : Program) (R : Room) (s : State) (m : MethodId) (meth : Method) (c : Code) : Prop :=
  p.tables.exec = Jvm.exec ∧ c.code = M.2.1 ∧ c.maxLocals = M.2.2.1 ∧ s.vm.findClass M.1.cls = some m.cls ∧ meth.sig.returnType = M.2.2.2.1 ∧ meth.locks = false ∧ meth.name = M.1.name ∧
  c.exceptionTable.toList = tableOf M.2.2.2.2 ∧ jAmb X s ∧ X.1.stackTraces = false ∧ d ≤ R.frames ∧ 100 * d ≤ R.locals
def jEnd (X : jX) (Q : jQ) (below : List Frame) (args : Array Value) (s : State) (R : Room) : State → Prop :=
  vx_MQ below (fun _ st o t => ∃ (r : Option Value) (w' : List jC), o = .returned (r.map (jT X)) ∧ Q (.inl r) w' ∧ jH X w' t.heap ∧ jLow X st t)
    (fun E st t => ∃ w' : List jC, Q (.inr E) w' ∧ jH X w' t.heap ∧ jLow X st t) args s R.cells R.slots (jA X)
/-- the judgement: the method stands at pc -/
def J (X : jX) (M : jM) (d kc ks pc : Nat) (L : List (Option Value)) (st : List Value) (w : List jC) (Q : jQ) : Prop :=
  ∀ (p : Program) (e : Env) (R : Room) (s : State) (m : MethodId) (args : Array Value) (below : List Frame) (meth : Method) (c : Code), jCtx X M d p R s m meth c →
  ∀ (H : Heap) (locs : List Loc) (cells slots : Nat) (ls : Array Slot), jH X w H → va_S (jA X) s.heap H locs → jL X ls M.2.2.1 L → cells + kc ≤ R.cells → slots + ks ≤ R.slots →
  W p X.1 e R s m args below meth c H locs cells slots (jEnd X Q below args s R) (F0 m pc ls (st.map (jT X)))
/-- .. with a thing of class E thrown there -/
def JX (X : jX) (M : jM) (d kc ks pc : Nat) (L : List (Option Value)) (st : List Value) (w : List jC) (E : String) (Q : jQ) : Prop :=
  ∀ (p : Program) (e : Env) (R : Room) (s : State) (m : MethodId) (args : Array Value) (below : List Frame) (meth : Method) (c : Code), jCtx X M d p R s m meth c →
  ∀ (H : Heap) (locs : List Loc) (cells slots : Nat) (ls : Array Slot) (q : Addr) (ce : Cell), jH X w H → va_S (jA X) s.heap H locs → jL X ls M.2.2.1 L → cells + kc ≤ R.cells → slots + ks ≤ R.slots →
  H[q]? = some ce → ce.vm = .none → s.vm.findClass E = some ce.cls → vx_W p X.1 e R s m args below meth c H locs cells slots (jEnd X Q below args s R) (F0 m pc ls (st.map (jT X))) q
/-- bounds may be lowered, ends weakened -/
theorem J.mono {X : jX} {M : jM} {d kc ks kc' ks' pc : Nat} {L : List (Option Value)} {st : List Value} {w : List jC} {Q Q' : jQ} (h : J X M d kc ks pc L st w Q) (hc : kc ≤ kc') (hs : ks ≤ ks') (hq : ∀ o w', Q o w' → Q' o w') : J X M d kc' ks' pc L st w Q' := by
  intro p e R s m args below meth c C H locs cells slots ls hH hS hL h1 h2 T hT Y
  obtain ⟨t, a, o, b1, b2, b3⟩ := h p e R s m args below meth c C H locs cells slots ls hH hS hL (by omega) (by omega) T hT Y
  refine ⟨t, a, o, b1, b2, ?_⟩
  rcases b3 with ⟨⟨r, w', c1, c2, c3⟩, c4⟩ | ⟨q, c1, E, ce, Ls, ⟨w', c2, c3⟩, c4⟩
  · exact Or.inl ⟨⟨r, w', c1, hq _ _ c2, c3⟩, c4⟩
  · exact Or.inr ⟨q, c1, E, ce, Ls, ⟨w', hq _ _ c2, c3⟩, c4⟩
