/-! calls, returns, throws, catches, the entry -/
section JTHROW
variable {p : Program} {l : Launch} {e : Env} {R : Room} {s : State} {m : MethodId} {args : Array Value} {below : List Frame} {meth : Method} {c : Code} {H : Heap} {locs : List Loc} {cells slots : Nat}
variable {free : Addr → Prop} {ls : Array Slot} {rest : List Value} {Qc : Array Value → State → Outcome → State → Prop} {XC : String → State → State → Prop}
theorem jx_throwSW {cc : ByteArray} {pc : Nat} (hexec : p.tables.exec = Jvm.exec) (hb : c.code = cc) (hl : l.stackTraces = false) {own cls text : String} {names : List String} {ik is ic mc ms sa : Nat} {A : Nat → Prop}
    (hown : s.vm.findClass own = some m.cls) (hcls : Bundle.fit cls = true) (hnames : ∀ n ∈ names, Bundle.fit n = true)
    (hk : (Cond.classLink own ik cls).before args s = true) (hini : (Cond.initialized cls).before args s = true) (hstr : vk_R own is text sa s) (hat : ∀ w ∈ vx_atS own ic cls names, w.before args s = true)
    (hgood : ∀ w ∈ Cond.classLink own ik cls :: Cond.initialized cls :: vx_atS own ic cls names, vx_ot w = true)
    (hU : vx_Zq Bundle.tN "UNASSIGNED_STACK" Bundle.steD A s s.heap) (hN : vx_Zq Bundle.tN "SUPPRESSED_SENTINEL" Bundle.listD A s s.heap) (hS : va_S A s.heap H locs) (hsize : ls.size = c.maxLocals)
    (d0 : decode cc pc = .ok (.new ik, 3)) (d3 : decode cc (pc + 3) = .ok (.dup, 1)) (d4 : decode cc (pc + 4) = .ok (.ldc_w is, 3)) (d7 : decode cc (pc + 7) = .ok (.invokespecial ic, 3)) (d10 : decode cc (pc + 10) = .ok (.athrow, 1))
    (hout : ∀ x ∈ c.exceptionTable.toList, covers x (pc + 10) = false)
    (hRframes : names.length + 3 < R.frames) (hRlocals : (rest.map fun v => v.category).sum + (13 * (names.length + 1) + 43) ≤ R.locals) (hRcells : cells + 1 ≤ R.cells) (hRslots : slots + 6 ≤ R.slots) (hlocks : meth.locks = false)
    (hx : ∀ t : State, s.vm.Alike t.vm → t.heap.size = H.size + 1 → (∀ q : Nat, q < H.size → t.heap[q]? = H[q]?) → XC cls s t)
    (hf : ∀ z ∈ locs, free z.base) (hc : cells + 1 ≤ mc) (hs : slots + 6 ≤ ms) :
    W p l e R s m args below meth c H locs cells slots (vx_MQ below Qc XC args s mc ms free) (F0 m pc ls rest) := by
  intro T hT X
  have htr : e.platform.stackTraces = false := (show e.platform.stackTraces = l.stackTraces by rw [X.admits.platform]).trans hl
  have Y := vx_rebase X (R' := { frames := R.frames, locals := R.locals, cells := 1, slots := 6 }) (Nat.le_refl _) (Nat.le_refl _) hRcells hRslots
  obtain ⟨s', hA⟩ : ∃ z, z = (T.setVm s.vm).setFrames (.invoking m args :: below) := ⟨_, rfl⟩
  rw [← hA] at Y
  have hvm : s'.vm = s.vm := by rw [hA]; rfl
  have hhp : s'.heap = H := by rw [hA]; exact hT
  have hW0 : s.WarmedH s'.vm := by rw [hvm]; exact State.WarmedH.refl s
  have hat' : ∀ w ∈ vx_atS own ic cls names, w.before args s' = true := fun w hw => vx_ot_at hW0 hvm.symm (hgood w (List.mem_cons_of_mem _ (List.mem_cons_of_mem _ hw))) (hat w hw)
  have hk' : (Cond.classLink own ik cls).before args s' = true := vx_ot_at hW0 hvm.symm (hgood _ List.mem_cons_self) hk
  have hini' : (Cond.initialized cls).before args s' = true := vx_ot_at hW0 hvm.symm (hgood _ (List.mem_cons_of_mem _ List.mem_cons_self)) hini
  have hU' : vx_Zq Bundle.tN "UNASSIGNED_STACK" Bundle.steD A s' s'.heap := by rw [hhp]; exact vx_Zq.moved hW0.alike (hU.kept hS.2.1)
  have hN' : vx_Zq Bundle.tN "SUPPRESSED_SENTINEL" Bundle.listD A s' s'.heap := by rw [hhp]; exact vx_Zq.moved hW0.alike (hN.kept hS.2.1)
  have h : ∀ w ∈ Bundle.ownAtoms own ic cls names, w.before args s' = true := vx_own hat' (vx_isRefq hU'.1) (vx_isRefq hN'.1) hU'.2.word hN'.2.word
  have hown' : s'.vm.findClass own = some m.cls := by rw [hvm]; exact hown
  have hins : (Cond.instantiable cls 6).before args s' = true := h _ (by simp [Bundle.ownAtoms])
  obtain ⟨vm₁, cX, kX, hfX, hkX, -, -, X₁, st1⟩ := Y.newCold hexec (own := own) (C := cls) (index := ik) (n := 6) hown' hk' hins hini'
    (g := F0 m pc ls rest) rfl (by rw [hb]; exact d0) (Nat.le_refl _) (Nat.le_refl _)
  generalize hT1 : (T.setVm vm₁).pushCell { cls := cX, slots := kX.instanceTypes.map defaultValue, vm := .none } = T1 at X₁ st1
  have hcat : (Value.ref T.heap.size).category = 1 := rfl
  have hcellA : T1.heap[T.heap.size]? = some (freshCell cX kX) := by rw [← hT1]; exact State.heap_pushCell_size _ _
  have d3' : decode c.code (pc + 3) = .ok (.dup, 1) := by rw [hb]; exact d3
  have d4' : decode c.code (pc + 4) = .ok (.ldc_w is, 3) := by rw [hb]; exact d4
  have hstr' : vk_R own is text sa s' := vk_R.warm hW0 hstr
  obtain ⟨U, hsteps, hrun, hend, hW, hsame, ce, hce, hO⟩ := X₁.ctorThrowS hexec htr (own := own) (cls := cls) (names := names) (ic := ic) hown' hcls hnames h (fun x hx => nomatch hx) hfX hkX hcellA (by rw [hhp, hT]; exact Nat.le_refl _) (msg := .ref sa) rfl
    (g := { method := m, pc := pc + 7, locals := ls, stack := .ref sa :: .ref T.heap.size :: .ref T.heap.size :: rest, locked := none }) rfl hsize rfl rfl (rest := rest) rfl
    (by rw [hb]; exact d7) (by rw [hb]; exact d10) hout hRframes (by simp only [List.map_cons, List.sum_cons, hcat]; omega) hlocks
  obtain ⟨f1, f2⟩ := vx_frame hsame
  rw [hhp] at f1 f2
  have fz : U.heap.size = H.size + 1 := by
    have g1 : U.heap.size ≤ s'.heap.size + _ := hsame.2.2.1
    have g2 := (Array.getElem?_eq_some_iff.mp hce).1
    rw [hhp] at g1
    rw [hT] at g2
    omega
  have hWs : s.WarmedH U.vm := State.WarmedH.trans hW0 hW
  have hcl : s.vm.findClass cls = some ce.cls := by
    have h9 := hO.cls
    rw [hvm] at h9
    exact h9
  have hall : s.sameButNew ({ U with vm := s.vm } : State) locs mc ms := by
    subst hA
    obtain ⟨e1, e2⟩ := hsame
    rw [State.setFrames_setFrames] at e1
    have h2 : (T.setVm s.vm).sameButNew ({ U with vm := s.vm } : State) [] (0 + 1) (0 + 6) := ⟨e1, e2⟩
    have h3 := X.same.trans h2
    rw [List.append_nil] at h3
    exact h3.mono hc hs
  refine ⟨U, ?_, .threw T.heap.size, hrun, hend, Or.inr ⟨T.heap.size, rfl, cls, ce, locs, hx U hWs.alike fz (fun q hq => f2 q hq (fun z hz => nomatch hz)), hce, hO.vm, hcl, hWs, hall, hf⟩⟩
  refine st1 _ ?_
  show Steps p.tables e below (T1.setTop { method := m, pc := pc + 3, locals := ls, stack := .ref T.heap.size :: rest, locked := none }) _
  jvm_step X₁.here [X₁.here.top, hexec, d3', Value.category]
  exact X₁.ldcStringW hexec (own := own) (text := text) (index := is) (a := sa) hown' hstr'.1 hstr'.2
    (g := { method := m, pc := pc + 4, locals := ls, stack := .ref T.heap.size :: .ref T.heap.size :: rest, locked := none }) rfl d4' _ hsteps
end JTHROW
section JCALL
variable {X : jX} {M : jM} {d kc ks pc : Nat} {L : List (Option Value)} {st : List Value} {w : List jC} {Q : jQ}
theorem jCtx_amb {d : Nat} {p : Program} {R : Room} {s : State} {m : MethodId} {meth : Method} {c : Code} (C : jCtx X M d p R s m meth c) : jAmb X s := C.2.2.2.2.2.2.2.2.1
/-- the end of a body -/
theorem J_ret_core {p : Program} {e : Env} {R : Room} {s : State} {m : MethodId} {args : Array Value} {below : List Frame} {meth : Method} {c : Code} {H : Heap} {locs : List Loc} {cells slots : Nat} {g : JFrame} {r : Option Value}
    (C : jCtx X M d p R s m meth c) (hH : jH X w H) (hS : va_S (jA X) s.heap H locs) (h1 : cells ≤ R.cells) (h2 : slots ≤ R.slots) (hq : Q (.inl r) w)
    (k : ∀ {Qc : Array Value → State → Outcome → State → Prop}, (∀ t : State, t.heap = H → s.WarmedH t.vm → Qc args s (.returned (r.map (jT X))) t) → (∀ z ∈ locs, jA X z.base) → W p X.1 e R s m args below meth c H locs R.cells R.slots (MQ below Qc args s R.cells R.slots (jA X)) g) :
    W p X.1 e R s m args below meth c H locs cells slots (jEnd X Q below args s R) g := by
  refine W.widen h1 h2 (vx_ret (k (fun t ht _ => ⟨r, w, rfl, hq, by rw [ht]; exact hH, by rw [ht]; exact hS.1, fun q hq => ?_⟩) hS.2.2))
  rw [ht]
  exact hS.2.1 q (Nat.lt_of_lt_of_le hq C.2.2.2.2.2.2.2.2.1.1) (Nat.not_le.mpr hq)
theorem J_iret {v : Int32} (hdg : decode M.2.1 pc = .ok (.ireturn, 1)) (hr : M.2.2.2.1 = some .int) (hq : Q (.inl (some (.int v))) w) : J X M d kc ks pc L [.int v] w Q := by
  intro p e R s m args below meth c C H locs cells slots ls hH hS hL h1 h2
  have hlocks := C.2.2.2.2.2.1
  exact J_ret_core C hH hS (by omega) (by omega) hq (fun hq hf => W.iret C.1 C.2.1 (C.2.2.2.2.1.trans hr) hq hf hdg hlocks)
theorem J_zret {v : Int32} {ty : FieldType} (hdg : decode M.2.1 pc = .ok (.ireturn, 1)) (hr : M.2.2.2.1 = some ty) (hn : narrow ty (.int v) = .int v) (hq : Q (.inl (some (.int v))) w) : J X M d kc ks pc L [.int v] w Q := by
  intro p e R s m args below meth c C H locs cells slots ls hH hS hL h1 h2
  have hlocks := C.2.2.2.2.2.1
  exact J_ret_core C hH hS (by omega) (by omega) hq (fun hq hf => W.zret C.1 C.2.1 (C.2.2.2.2.1.trans hr) hn hq hf hdg hlocks)
theorem J_lret {v : Int64} (hdg : decode M.2.1 pc = .ok (.lreturn, 1)) (hr : M.2.2.2.1 = some .long) (hq : Q (.inl (some (.long v))) w) : J X M d kc ks pc L [.long v] w Q := by
  intro p e R s m args below meth c C H locs cells slots ls hH hS hL h1 h2
  have hlocks := C.2.2.2.2.2.1
  exact J_ret_core C hH hS (by omega) (by omega) hq (fun hq hf => W.lret C.1 C.2.1 (C.2.2.2.2.1.trans hr) hq hf hdg hlocks)
theorem J_vret (hdg : decode M.2.1 pc = .ok (.return_, 1)) (hr : M.2.2.2.1 = none) (hq : Q (.inl none) w) : J X M d kc ks pc L [] w Q := by
  intro p e R s m args below meth c C H locs cells slots ls hH hS hL h1 h2
  have hlocks := C.2.2.2.2.2.1
  exact J_ret_core (r := none) C hH hS (by omega) (by omega) hq (fun hq hf => W.vret C.1 C.2.1 (C.2.2.2.2.1.trans hr) hq hf hdg hlocks)
theorem J_aret {v : Value} {rt : FieldType} (hdg : decode M.2.1 pc = .ok (.areturn, 1)) (hr : M.2.2.2.1 = some rt) (hrt : rt.isReference = true) (hv : jRf v = true) (hq : Q (.inl (some v)) w) : J X M d kc ks pc L [v] w Q := by
  intro p e R s m args below meth c C H locs cells slots ls hH hS hL h1 h2
  have hlocks := C.2.2.2.2.2.1
  exact J_ret_core (r := some v) C hH hS (by omega) (by omega) hq (fun hq hf => W.aret C.1 C.2.1 (C.2.2.2.2.1.trans hr) (by cases rt <;> first | exact Or.inl ⟨_, rfl⟩ | exact Or.inr ⟨_, rfl⟩ | exact absurd hrt Bool.false_ne_true) (Or.inr (jRf_spec hv)) hq hf hdg hlocks)
/-- behind a call, whatever its kind -/
theorem j_core {p : Program} {e : Env} {R : Room} {s : State} {m : MethodId} {args : Array Value} {below : List Frame} {meth : Method} {c : Code} {H : Heap} {locs : List Loc} {cells slots kc' ks' : Nat} {ls : Array Slot} {st0 : List Value} {Q' : jQ}
    (C : jCtx X M d p R s m meth c) (hS : va_S (jA X) s.heap H locs) (hL : jL X ls M.2.2.1 L) (h1 : cells + kc ≤ R.cells) (h2 : slots + ks ≤ R.slots) (hkc : kc' ≤ kc) (hks : ks' ≤ ks)
    (hr : vx_Run p X.1 e R s m args below meth c H locs cells slots kc' ks' (F0 m pc ls st0) (st.map (jT X)) (fun st o t => ∃ (r : Option Value) (w' : List jC), o = .returned (r.map (jT X)) ∧ Q' (.inl r) w' ∧ jH X w' t.heap ∧ jLow X st t) (fun E st t => ∃ w' : List jC, Q' (.inr E) w' ∧ jH X w' t.heap ∧ jLow X st t) (jA X))
    (kr : ∀ (r : Option Value) (w' : List jC), Q' (.inl r) w' → J X M d (kc - kc') (ks - ks') (pc + 3) L (r.toList ++ st) w' Q)
    (kx : ∀ (E : String) (w' : List jC), Q' (.inr E) w' → JX X M d (kc - kc') (ks - ks') pc L st w' E Q) : W p X.1 e R s m args below meth c H locs cells slots (jEnd X Q below args s R) (F0 m pc ls st0) := by
  have keep : ∀ (st₀ t T' : State) (Lc : List Loc), st₀.heap = H → T'.heap = t.heap → jLow X st₀ t → (∀ q ∈ Lc, jA X q.base) → va_S (jA X) s.heap T'.heap (locs ++ Lc) := by
    intro st₀ t T' Lc g0 g1 g2 g3
    obtain ⟨g4, g5⟩ := g2
    rw [g0] at g4 g5
    refine ⟨Nat.le_trans hS.1 (by rw [g1]; exact g4), fun q q1 q2 => ?_, fun q hq => ?_⟩
    · rw [g1, g5 q (Nat.not_le.mp q2)]
      exact hS.2.1 q q1 q2
    · rcases List.mem_append.mp hq with h | h
      · exact hS.2.2 q h
      · exact g3 q h
  intro T hT Y
  rcases hr T hT Y with ⟨v, st₀, t, T', Lc, g0, Y', gL, e1, e2, ⟨r, w', hv, hq, hh, hlow⟩, stp⟩ | ⟨q, st₀, t, T', Lc, E, ce, g0, Y', gL, e1, e2, ⟨w', hq, hh, hlow⟩, hce, hcv, hcl, stp⟩
  · cases hv
    obtain ⟨t2, a1, b1⟩ := kr r w' hq p e R s m args below meth c C T'.heap (locs ++ Lc) (cells + kc') (slots + ks') ls (by rw [e1]; exact hh) (keep _ _ _ _ g0 e1 hlow gL) hL (by omega) (by omega) T' rfl Y'
    refine ⟨t2, stp t2 ?_, b1⟩
    rw [List.map_append] at a1
    cases r <;> exact a1
  · obtain ⟨t2, a1, b1⟩ := kx E w' hq p e R s m args below meth c C T'.heap (locs ++ Lc) (cells + kc') (slots + ks') ls q ce (by rw [e1]; exact hh) (keep _ _ _ _ g0 e1 hlow gL) hL (by omega) (by omega) (by rw [e1]; exact hce) hcv hcl T' rfl Y'
    exact ⟨t2, stp.trans a1, b1⟩
theorem jBlind (X : jX) (as : List Value) (w : List jC) : FrameBlind (fun v U => v = (as.map (jT X)).toArray ∧ jAmb X U ∧ jH X w U.heap) := by
  intro a U g mk h
  exact ⟨h.1, jAmb.moved (s := U) (U := U.calling g mk a) (State.WarmedH.refl U) h.2.1.1 ⟨Nat.le_refl _, fun _ _ => rfl⟩ h.2.1, h.2.2⟩
theorem jPre {p : Program} {R : Room} {s : State} {m : MethodId} {meth : Method} {c : Code} {H : Heap} {locs : List Loc} (C : jCtx X M d p R s m meth c) (hH : jH X w H) (hS : va_S (jA X) s.heap H locs) (as : List Value) : ∀ U : State, U.heap = H → s.WarmedH U.vm → (as.map (jT X)).toArray = (as.map (jT X)).toArray ∧ jAmb X U ∧ jH X w U.heap := by
  intro U hU hW
  refine ⟨rfl, jAmb.moved hW (by rw [hU, hH.1]; exact Nat.le_add_right _ _) ⟨by rw [hU]; exact hS.1, fun q hq => ?_⟩ (jCtx_amb C), by rw [hU]; exact hH⟩
  rw [hU]
  exact hS.2.1 q (Nat.lt_of_lt_of_le hq (jCtx_amb C).1) (Nat.not_le.mpr hq)
/-- what every call asks of the callee z: no table of its own, its word known, its class made ready, as many parameters -/
def jCal (z : jM) (n : Nat) : Prop := z.2.2.2.2 = [] ∧ jWd z ∈ jK ∧ goodWord (jWd z) = true ∧ Cond.initialized z.1.cls ∈ jK ∧ (z.1.cls ≠ "java/lang/invoke/MethodHandle" ∧ z.1.cls ≠ "java/lang/invoke/VarHandle") ∧ (parseMethodDescriptor z.1.desc).map (fun q => q.parameters.length) = some n ∧ z.2.2.1 ≤ 80
theorem jCal_word {z : jM} {n : Nat} (h : jCal z n) : jWd z = .code z.1 z.2.1 z.2.2.1 z.2.2.2.1 := by
  unfold jWd
  rw [h.1]
theorem jCal_back {z : jM} {n d' kc' ks' : Nat} {p : Program} {R : Room} {s : State} {m : MethodId} {args : Array Value} {meth : Method} {c : Code} (C : jCtx X M d p R s m meth c) (h : jCal z n) (hd : d' + 1 ≤ d) :
    (jR d' kc' ks').cells = kc' ∧ (jR d' kc' ks').slots = ks' ∧ (jR d' kc' ks').frames + 1 ≤ R.frames ∧ 8 + (z.2.2.1 + 11) + (jR d' kc' ks').locals ≤ R.locals ∧ (∀ w ∈ [jWd z], ∀ (a' : Array Value) (U : State), s.WarmedH U.vm → w.before a' U = true) ∧ Cond.code z.1 z.2.1 z.2.2.1 z.2.2.2.1 ∈ [jWd z] ∧ (Cond.code z.1 z.2.1 z.2.2.1 z.2.2.2.1).before args s = true ∧ (Cond.initialized z.1.cls).before args s = true ∧ (∀ sig, parseMethodDescriptor z.1.desc = some sig → n = sig.parameters.length) := by
  have hA := jCtx_amb C
  obtain ⟨-, -, -, -, -, -, -, -, -, -, hd1, hd2⟩ := C
  have hw := jCal_word h
  obtain ⟨h0, h1, h2, h3, h4, h5, h6⟩ := h
  refine ⟨rfl, rfl, by show d' + 1 ≤ _; omega, by show 8 + (z.2.2.1 + 11) + 100 * d' ≤ _; omega, fun w9 hw9 a' U hW => ?_, by rw [← hw]; exact List.mem_singleton.mpr rfl, by rw [← hw]; exact hA.word h1 args, hA.word h3 args, fun sig hs => ?_⟩
  · rw [List.mem_singleton.mp hw9]
    exact word_at hW (good_of_word h2) (hA.word h1 args)
  · rw [hs] at h5
    exact (Option.some.inj h5).symm
theorem j_fix {p : Program} {R : Room} {s : State} {m : MethodId} {args : Array Value} {meth : Method} {c : Code} (C : jCtx X M d p R s m meth c) : CallFix p m c M.2.1 M.2.2.1 s args [] M.1.cls := ⟨C.1, C.2.1, C.2.2.1, C.2.2.2.1, fun w h => nomatch h⟩
theorem j_sum8 {st : List Value} (h : (st.map fun v => v.category).sum ≤ 8) (X : jX) {m : MethodId} {pc : Nat} {ls : Array Slot} {r : List Value} : 2 * (F0 m pc ls r).monitorRoom + ((st.map (jT X)).map fun v => v.category).sum ≤ 8 := lv_room (by rw [jT_sum]; exact h)
/-- a static call -/
theorem J_callS {index d' kc' ks' n : Nat} {z : jM} {as : List Value} {Q' : jQ} (hdg : decode M.2.1 pc = .ok (.invokestatic index, 3)) (hz : jCal z n) (hl : Cond.methodLink M.1.cls index z.1 ∈ jK) (hst : Cond.static z.1 ∈ jK) (hn : as.length = n) (hM : jMet X z d' kc' ks' as w Q') (hd : d' + 1 ≤ d) (hkc : kc' ≤ kc) (hks : ks' ≤ ks) (h8 : (st.map fun v => v.category).sum ≤ 8)
    {st0 : List Value} (h0 : st0 = as.reverse ++ st)
    (kr : ∀ (r : Option Value) (w' : List jC), Q' (.inl r) w' → J X M d (kc - kc') (ks - ks') (pc + 3) L (r.toList ++ st) w' Q) (kx : ∀ (E : String) (w' : List jC), Q' (.inr E) w' → JX X M d (kc - kc') (ks - ks') pc L st w' E Q) : J X M d kc ks pc L st0 w Q := by
  subst h0
  intro p e R s m args below meth c C H locs cells slots ls hH hS hL h1 h2
  have hA := jCtx_amb C
  obtain ⟨b1, b2, b3, b4, b5, b6, b7, b8, b9⟩ := jCal_back (args := args) (kc' := kc') (ks' := ks') C hz hd
  refine j_core C hS hL h1 h2 hkc hks (vx_runS (As := as.map (jT X)) (n := n) (j_fix C) hM ⟨⟨b1, b2, b3, b4, b5, b6, b7, b8, hz.2.2.2.2.1, b9, hA.word hl args⟩, hA.word hst args⟩ ⟨jBlind X as w, jPre C hH hS as⟩ rfl (by rw [List.length_map]; exact hn) hL.1 (by show (as.reverse ++ st).map (jT X) = _; rw [List.map_append, List.map_reverse]) (j_sum8 h8 X) hdg ⟨by omega, by omega⟩) kr kx
/-- .. a private one of a nest mate -/
theorem J_callSN {index d' kc' ks' n : Nat} {host : String} {z : jM} {as : List Value} {Q' : jQ} (hdg : decode M.2.1 pc = .ok (.invokestatic index, 3)) (hz : jCal z n) (hl : Cond.methodLinkNest M.1.cls index z.1 host ∈ jK) (hst : Cond.static z.1 ∈ jK) (hn : as.length = n) (hM : jMet X z d' kc' ks' as w Q') (hd : d' + 1 ≤ d) (hkc : kc' ≤ kc) (hks : ks' ≤ ks) (h8 : (st.map fun v => v.category).sum ≤ 8)
    {st0 : List Value} (h0 : st0 = as.reverse ++ st)
    (kr : ∀ (r : Option Value) (w' : List jC), Q' (.inl r) w' → J X M d (kc - kc') (ks - ks') (pc + 3) L (r.toList ++ st) w' Q) (kx : ∀ (E : String) (w' : List jC), Q' (.inr E) w' → JX X M d (kc - kc') (ks - ks') pc L st w' E Q) : J X M d kc ks pc L st0 w Q := by
  subst h0
  intro p e R s m args below meth c C H locs cells slots ls hH hS hL h1 h2
  have hA := jCtx_amb C
  obtain ⟨b1, b2, b3, b4, b5, b6, b7, b8, b9⟩ := jCal_back (args := args) (kc' := kc') (ks' := ks') C hz hd
  refine j_core C hS hL h1 h2 hkc hks (vx_runSN (As := as.map (jT X)) (n := n) (j_fix C) hM ⟨⟨⟨b1, b2, b3, b4, b5, b6⟩, b7, b8, hz.2.2.2.2.1, b9, hA.word hl args⟩, hA.word hst args, trivial⟩ ⟨jBlind X as w, jPre C hH hS as⟩ rfl (by rw [List.length_map]; exact hn) hL.1 (by show (as.reverse ++ st).map (jT X) = _; rw [List.map_append, List.map_reverse]) (j_sum8 h8 X) hdg ⟨by omega, by omega⟩) kr kx
/-- a receiver of ours -/
theorem j_recv {p : Program} {R : Room} {s : State} {m : MethodId} {meth : Method} {c : Code} {H : Heap} (C : jCtx X M d p R s m meth c) (hH : jH X w H) {a ci : Nat} {fs : List Value} {q : vw_C} (hw : w[a]? = some (.inr (ci, fs))) (hci : ci < 99) (hc : vwCl[ci]? = some q) : ∃ cell : Cell, H[X.2.1 + a]? = some cell ∧ cell.vm.isStatics = false ∧ s.vm.findClass q.1 = some cell.cls :=
  va_recv (fs := fs.map (jT X)) (jCtx_amb C).2.1 (jH_at hH hw (fun fs' e => by cases e; exact absurd hci (Nat.lt_irrefl 99))) hc (q0 := 0) rfl
/-- an instance method of the receiver's own class -/
theorem J_callV {index d' kc' ks' n a ci : Nat} {z : jM} {as fs : List Value} {q : vw_C} {Q' : jQ} (hdg : decode M.2.1 pc = .ok (.invokevirtual index, 3)) (hz : jCal z n) (hl : Cond.methodLink M.1.cls index z.1 ∈ jK) (hin : Cond.instanceMethod z.1 ∈ jK) (hse : Cond.selects z.1.cls z.1 z.1 ∈ jK) (hw : w[a]? = some (.inr (ci, fs))) (hci : ci < 99) (hc : vwCl[ci]? = some q) (hq : q.1 = z.1.cls) (hn : as.length = n) (hM : jMet X z d' kc' ks' (.ref a :: as) w Q') (hd : d' + 1 ≤ d) (hkc : kc' ≤ kc) (hks : ks' ≤ ks) (h8 : (st.map fun v => v.category).sum ≤ 8)
    {st0 : List Value} (h0 : st0 = as.reverse ++ .ref a :: st)
    (kr : ∀ (r : Option Value) (w' : List jC), Q' (.inl r) w' → J X M d (kc - kc') (ks - ks') (pc + 3) L (r.toList ++ st) w' Q) (kx : ∀ (E : String) (w' : List jC), Q' (.inr E) w' → JX X M d (kc - kc') (ks - ks') pc L st w' E Q) : J X M d kc ks pc L st0 w Q := by
  subst h0
  intro p e R s m args below meth c C H locs cells slots ls hH hS hL h1 h2
  have hA := jCtx_amb C
  obtain ⟨b1, b2, b3, b4, b5, b6, b7, b8, b9⟩ := jCal_back (args := args) (kc' := kc') (ks' := ks') C hz hd
  have hrc := j_recv C hH hw hci hc
  rw [hq] at hrc
  refine j_core C hS hL h1 h2 hkc hks (vx_runV (C := z.1.cls) (b := X.2.1 + a) (As := as.map (jT X)) (n := n) (j_fix C) hM ⟨⟨b1, b2, b3, b4, b5, b6, b7, b8, hz.2.2.2.2.1, b9, hA.word hl args⟩, hA.word hin args, hA.word hse args⟩ ⟨jBlind X (.ref a :: as) w, hrc, jPre C hH hS (.ref a :: as)⟩ rfl (by rw [List.length_map]; exact hn) hL.1 (by show (as.reverse ++ .ref a :: st).map (jT X) = _; rw [List.map_append, List.map_reverse]; rfl) (j_sum8 h8 X) hdg ⟨by omega, by omega⟩) kr kx
/-- .. a private one of a nest mate -/
theorem J_callVN {index d' kc' ks' n a ci : Nat} {host : String} {z : jM} {as fs : List Value} {q : vw_C} {Q' : jQ} (hdg : decode M.2.1 pc = .ok (.invokevirtual index, 3)) (hz : jCal z n) (hl : Cond.methodLinkNest M.1.cls index z.1 host ∈ jK) (hin : Cond.instanceMethod z.1 ∈ jK) (hse : Cond.selects z.1.cls z.1 z.1 ∈ jK) (hw : w[a]? = some (.inr (ci, fs))) (hci : ci < 99) (hc : vwCl[ci]? = some q) (hq : q.1 = z.1.cls) (hn : as.length = n) (hM : jMet X z d' kc' ks' (.ref a :: as) w Q') (hd : d' + 1 ≤ d) (hkc : kc' ≤ kc) (hks : ks' ≤ ks) (h8 : (st.map fun v => v.category).sum ≤ 8)
    {st0 : List Value} (h0 : st0 = as.reverse ++ .ref a :: st)
    (kr : ∀ (r : Option Value) (w' : List jC), Q' (.inl r) w' → J X M d (kc - kc') (ks - ks') (pc + 3) L (r.toList ++ st) w' Q) (kx : ∀ (E : String) (w' : List jC), Q' (.inr E) w' → JX X M d (kc - kc') (ks - ks') pc L st w' E Q) : J X M d kc ks pc L st0 w Q := by
  subst h0
  intro p e R s m args below meth c C H locs cells slots ls hH hS hL h1 h2
  have hA := jCtx_amb C
  obtain ⟨b1, b2, b3, b4, b5, b6, b7, b8, b9⟩ := jCal_back (args := args) (kc' := kc') (ks' := ks') C hz hd
  have hrc := j_recv C hH hw hci hc
  rw [hq] at hrc
  refine j_core C hS hL h1 h2 hkc hks (vx_runVN (C := z.1.cls) (b := X.2.1 + a) (As := as.map (jT X)) (n := n) (j_fix C) hM ⟨⟨⟨b1, b2, b3, b4, b5, b6⟩, b7, b8, hz.2.2.2.2.1, b9, hA.word hl args⟩, hA.word hin args, hA.word hse args⟩ ⟨jBlind X (.ref a :: as) w, hrc, jPre C hH hS (.ref a :: as)⟩ rfl (by rw [List.length_map]; exact hn) hL.1 (by show (as.reverse ++ .ref a :: st).map (jT X) = _; rw [List.map_append, List.map_reverse]; rfl) (j_sum8 h8 X) hdg ⟨by omega, by omega⟩) kr kx
/-- a constructor -/
theorem J_callI {index d' kc' ks' n a : Nat} {z : jM} {as : List Value} {Q' : jQ} (hdg : decode M.2.1 pc = .ok (.invokespecial index, 3)) (hz : jCal z n) (hl : Cond.methodLink M.1.cls index z.1 ∈ jK) (hin : Cond.instanceMethod z.1 ∈ jK) (hnm : z.1.name = "<init>") (hret : z.2.2.2.1 = none) (hn : as.length = n) (hM : jMet X z d' kc' ks' (.ref a :: as) w Q') (hd : d' + 1 ≤ d) (hkc : kc' ≤ kc) (hks : ks' ≤ ks) (h8 : (st.map fun v => v.category).sum ≤ 8)
    {st0 : List Value} (h0 : st0 = as.reverse ++ .ref a :: st)
    (kr : ∀ (r : Option Value) (w' : List jC), Q' (.inl r) w' → J X M d (kc - kc') (ks - ks') (pc + 3) L (r.toList ++ st) w' Q) (kx : ∀ (E : String) (w' : List jC), Q' (.inr E) w' → JX X M d (kc - kc') (ks - ks') pc L st w' E Q) : J X M d kc ks pc L st0 w Q := by
  subst h0
  intro p e R s m args below meth c C H locs cells slots ls hH hS hL h1 h2
  have hA := jCtx_amb C
  obtain ⟨b1, b2, b3, b4, b5, b6, b7, b8, b9⟩ := jCal_back (args := args) (kc' := kc') (ks' := ks') C hz hd
  rw [hret] at b6 b7
  refine j_core C hS hL h1 h2 hkc hks (vx_runI (b := X.2.1 + a) (As := as.map (jT X)) (n := n) (j_fix C) hM ⟨⟨b1, b2, b3, b4, b5, b6, b7, b8, hz.2.2.2.2.1, b9, hA.word hl args⟩, hnm, hA.word hin args⟩ ⟨jBlind X (.ref a :: as) w, jPre C hH hS (.ref a :: as)⟩ rfl (by rw [List.length_map]; exact hn) hL.1 (by show (as.reverse ++ .ref a :: st).map (jT X) = _; rw [List.map_append, List.map_reverse]; rfl) (j_sum8 h8 X) hdg ⟨by omega, by omega⟩) kr kx
/-- .. a private one of a nest mate -/
theorem J_callIN {index d' kc' ks' n a : Nat} {host : String} {z : jM} {as : List Value} {Q' : jQ} (hdg : decode M.2.1 pc = .ok (.invokespecial index, 3)) (hz : jCal z n) (hl : Cond.methodLinkNest M.1.cls index z.1 host ∈ jK) (hin : Cond.instanceMethod z.1 ∈ jK) (hnm : z.1.name = "<init>") (hret : z.2.2.2.1 = none) (hn : as.length = n) (hM : jMet X z d' kc' ks' (.ref a :: as) w Q') (hd : d' + 1 ≤ d) (hkc : kc' ≤ kc) (hks : ks' ≤ ks) (h8 : (st.map fun v => v.category).sum ≤ 8)
    {st0 : List Value} (h0 : st0 = as.reverse ++ .ref a :: st)
    (kr : ∀ (r : Option Value) (w' : List jC), Q' (.inl r) w' → J X M d (kc - kc') (ks - ks') (pc + 3) L (r.toList ++ st) w' Q) (kx : ∀ (E : String) (w' : List jC), Q' (.inr E) w' → JX X M d (kc - kc') (ks - ks') pc L st w' E Q) : J X M d kc ks pc L st0 w Q := by
  subst h0
  intro p e R s m args below meth c C H locs cells slots ls hH hS hL h1 h2
  have hA := jCtx_amb C
  obtain ⟨b1, b2, b3, b4, b5, b6, b7, b8, b9⟩ := jCal_back (args := args) (kc' := kc') (ks' := ks') C hz hd
  rw [hret] at b6 b7
  refine j_core C hS hL h1 h2 hkc hks (vx_runIN (b := X.2.1 + a) (As := as.map (jT X)) (n := n) (j_fix C) hM ⟨⟨⟨b1, b2, b3, b4, b5, b6⟩, b7, b8, hz.2.2.2.2.1, b9, hA.word hl args⟩, hnm, hA.word hin args⟩ ⟨jBlind X (.ref a :: as) w, jPre C hH hS (.ref a :: as)⟩ rfl (by rw [List.length_map]; exact hn) hL.1 (by show (as.reverse ++ .ref a :: st).map (jT X) = _; rw [List.map_append, List.map_reverse]; rfl) (j_sum8 h8 X) hdg ⟨by omega, by omega⟩) kr kx
/-- a static call of a method with a table of its own -/
def jCalW (z : jM) (n : Nat) : Prop := z.2.2.2.2 ≠ [] ∧ jWd z ∈ jK ∧ goodWord (jWd z) = true ∧ Cond.initialized z.1.cls ∈ jK ∧ (z.1.cls ≠ "java/lang/invoke/MethodHandle" ∧ z.1.cls ≠ "java/lang/invoke/VarHandle") ∧ (parseMethodDescriptor z.1.desc).map (fun q => q.parameters.length) = some n ∧ z.2.2.1 ≤ 80
theorem jCalW_word {z : jM} {n : Nat} (h : jCalW z n) : jWd z = .codeWith z.1 z.2.1 z.2.2.1 z.2.2.2.1 z.2.2.2.2 := by
  unfold jWd
  cases hz : z.2.2.2.2 with
  | nil => exact absurd hz h.1
  | cons a t => rfl
theorem J_callSX {index d' kc' ks' n : Nat} {z : jM} {as : List Value} {Q' : jQ} (hdg : decode M.2.1 pc = .ok (.invokestatic index, 3)) (hz : jCalW z n) (hl : Cond.methodLink M.1.cls index z.1 ∈ jK) (hst : Cond.static z.1 ∈ jK) (hn : as.length = n) (hM : jMet X z d' kc' ks' as w Q') (hd : d' + 1 ≤ d) (hkc : kc' ≤ kc) (hks : ks' ≤ ks) (h8 : (st.map fun v => v.category).sum ≤ 8)
    {st0 : List Value} (h0 : st0 = as.reverse ++ st)
    (kr : ∀ (r : Option Value) (w' : List jC), Q' (.inl r) w' → J X M d (kc - kc') (ks - ks') (pc + 3) L (r.toList ++ st) w' Q) (kx : ∀ (E : String) (w' : List jC), Q' (.inr E) w' → JX X M d (kc - kc') (ks - ks') pc L st w' E Q) : J X M d kc ks pc L st0 w Q := by
  subst h0
  intro p e R s m args below meth c C H locs cells slots ls hH hS hL h1 h2
  have hA := jCtx_amb C
  have hw := jCalW_word hz
  obtain ⟨-, -, -, -, -, -, -, -, -, -, hd1, hd2⟩ := id C
  obtain ⟨-, g1, g2, g3, g4, g5, g6⟩ := hz
  refine j_core C hS hL h1 h2 hkc hks (vx_runSX (hh := z.2.2.2.2) (As := as.map (jT X)) (n := n) (j_fix C) hM ⟨⟨rfl, rfl, by show d' + 1 ≤ _; omega, by show 8 + (z.2.2.1 + 11) + 100 * d' ≤ _; omega, fun w9 hw9 a' U hW => ?_, by rw [← hw]; exact List.mem_singleton.mpr rfl⟩, by rw [← hw]; exact hA.word g1 args, hA.word g3 args, g4, fun sig hs => ?_, hA.word hl args, hA.word hst args⟩ ⟨jBlind X as w, jPre C hH hS as⟩ rfl (by rw [List.length_map]; exact hn) hL.1 (by show (as.reverse ++ st).map (jT X) = _; rw [List.map_append, List.map_reverse]) (j_sum8 h8 X) hdg ⟨by omega, by omega⟩) kr kx
  · rw [List.mem_singleton.mp hw9]
    exact word_at hW (good_of_word g2) (hA.word g1 args)
  · rw [hs] at g5
    exact (Option.some.inj g5).symm
/-- throw new E("text") -/
theorem J_throw {cls text : String} {names : List String} {ik is ic sa : Nat} (hcls : Bundle.fit cls = true) (hnames : ∀ n ∈ names, Bundle.fit n = true) (hk : Cond.classLink M.1.cls ik cls ∈ jK) (hini : Cond.initialized cls ∈ jK) (hstr : (M.1.cls, is, text, sa) ∈ jStr)
    (hat : ∀ w ∈ vx_atS M.1.cls ic cls names, w ∈ jK) (hgood : ∀ w ∈ Cond.classLink M.1.cls ik cls :: Cond.initialized cls :: vx_atS M.1.cls ic cls names, vx_ot w = true)
    (d0 : decode M.2.1 pc = .ok (.new ik, 3)) (d3 : decode M.2.1 (pc + 3) = .ok (.dup, 1)) (d4 : decode M.2.1 (pc + 4) = .ok (.ldc_w is, 3)) (d7 : decode M.2.1 (pc + 7) = .ok (.invokespecial ic, 3)) (d10 : decode M.2.1 (pc + 10) = .ok (.athrow, 1))
    (hh : M.2.2.2.2 = []) (hd : names.length + 9 ≤ d) (h8 : (st.map fun v => v.category).sum ≤ 8) (hkc : 1 ≤ kc) (hks : 6 ≤ ks) (hq : Q (.inr cls) (w ++ [.inr (99, [])])) : J X M d kc ks pc L st w Q := by
  intro p e R s m args below meth c C H locs cells slots ls hH hS hL h1 h2
  have hA := jCtx_amb C
  obtain ⟨-, -, -, -, -, -, -, ht, -, hl, hd1, hd2⟩ := id C
  have hz := hA.2.2.2.2.2.2.1 _ hstr
  refine jx_throwSW C.1 C.2.1 hl C.2.2.2.1 hcls hnames (hA.word hk args) (hA.word hini args) hz (fun w9 hw9 => hA.word (hat w9 hw9) args) hgood hA.2.2.2.2.1 hA.2.2.2.2.2.1 hS (hL.1.trans C.2.2.1.symm) d0 d3 d4 d7 d10 ?_ (by omega) ?_ (by omega) (by omega) C.2.2.2.2.2.1 ?_ hS.2.2 (by omega) (by omega)
  · intro x hx
    rw [ht, hh] at hx
    cases hx
  · rw [jT_sum]; omega
  · intro t hvm hz ho
    refine ⟨_, hq, jH_push hH hz ho (fun hne => absurd rfl (hne [])), by rw [hz]; exact Nat.le_succ_of_le hS.1, fun q hq => ?_⟩
    have hb := (jCtx_amb C).1
    rw [ho q (by have := hS.1; omega)]
    exact hS.2.1 q (Nat.lt_of_lt_of_le hq hb) (Nat.not_le.mpr hq)
/-- a thing thrown here goes on to the caller -/
theorem JX_out {E : String} (hout : ∀ x ∈ tableOf M.2.2.2.2, covers x pc = false) (hq : Q (.inr E) w) : JX X M d kc ks pc L st w E Q := by
  intro p e R s m args below meth c C H locs cells slots ls q ce hH hS hL h1 h2 hce hcv hcl
  obtain ⟨-, -, -, -, -, hlocks, -, ht, hA, -, -, -⟩ := id C
  refine vx_out (by rw [ht]; exact hout) hlocks hce hcv hcl (fun t htH _ => ⟨w, hq, by rw [htH]; exact hH, by rw [htH]; exact hS.1, fun q9 hq9 => ?_⟩) hS.2.2 (by omega) (by omega)
  rw [htH]
  exact hS.2.1 q9 (Nat.lt_of_lt_of_le hq9 hA.1) (Nat.not_le.mpr hq9)
theorem JX_no {E : String} {P : Prop} (h : False) : JX X M d kc ks pc L st w E Q := h.elim
/-- the handler's three instructions: astore, iconst, ireturn -/
def jHan (M : jM) (hp : Nat) (v : Int32) : Prop := (∃ (k : Fin 4), decode M.2.1 hp = .ok (.astore_n k, 1) ∧ (k : Nat) < M.2.2.1 ∧ ∃ n : Int, decode M.2.1 (hp + 1) = .ok (.iconst n, 1) ∧ Int32.ofInt n = v ∧ decode M.2.1 (hp + 2) = .ok (.ireturn, 1)) ∨
  (∃ (k : Nat), decode M.2.1 hp = .ok (.astore k, 2) ∧ k < M.2.2.1 ∧ ∃ n : Int, decode M.2.1 (hp + 2) = .ok (.iconst n, 1) ∧ Int32.ofInt n = v ∧ decode M.2.1 (hp + 3) = .ok (.ireturn, 1))
theorem j_han {hp : Nat} {v : Int32} (hh : jHan M hp v) (hr : M.2.2.2.1 = some .int) (hq : Q (.inl (some (.int v))) w) {p : Program} {e : Env} {R : Room} {s : State} {m : MethodId} {args : Array Value} {below : List Frame} {meth : Method} {c : Code} (C : jCtx X M d p R s m meth c) {H : Heap} {locs : List Loc} {cells slots : Nat} {ls : Array Slot} (hH : jH X w H) (hS : va_S (jA X) s.heap H locs) (hL : jL X ls M.2.2.1 L) (h1 : cells ≤ R.cells) (h2 : slots ≤ R.slots) (q : Addr) :
    W p X.1 e R s m args below meth c H locs cells slots (jEnd X Q below args s R) (F0 m hp ls [.ref q]) := by
  have hlocks := C.2.2.2.2.2.1
  rcases hh with ⟨k, d0, hk, n, d1, hv, d2⟩ | ⟨k, d0, hk, n, d1, hv, d2⟩
  · exact lv_astore_n C.1 C.2.1 d0 rfl (jL_has.mp hL) hk rfl (fun ls' _ => lv_iconst C.1 C.2.1 d1 hv (J_ret_core (r := some (.int v)) C hH hS h1 h2 hq (fun hq hf => W.iret C.1 C.2.1 (C.2.2.2.2.1.trans hr) hq hf d2 hlocks)))
  · exact lv_astore C.1 C.2.1 d0 (jL_has.mp hL) hk rfl (fun ls' _ => lv_iconst C.1 C.2.1 d1 hv (J_ret_core (r := some (.int v)) C hH hS h1 h2 hq (fun hq hf => W.iret C.1 C.2.1 (C.2.2.2.2.1.trans hr) hq hf d2 hlocks)))
/-- caught by the table's first row -/
theorem JX_catch1 {E : String} {v : Int32} {x : ExceptionTableEntry} {suf : List ExceptionTableEntry} (ht : tableOf M.2.2.2.2 = x :: suf) (hx : covers x pc = true) (h0 : x.catchType ≠ 0) (hl : Cond.classLink M.1.cls x.catchType E ∈ jK) (hc : Cond.castable E E ∈ jK) (hh : jHan M x.handlerPc v) (hr : M.2.2.2.1 = some .int) (hq : Q (.inl (some (.int v))) w) : JX X M d kc ks pc L st w E Q := by
  intro p e R s m args below meth c C H locs cells slots ls q ce hH hS hL h1 h2 hce hcv hcl
  have hA := jCtx_amb C
  have hT := C.2.2.2.2.2.2.2.1
  exact vx_catch (name := E) C.2.2.2.1 [] x suf (hT.trans ht) (fun z hz => nomatch hz) hx h0 (hA.word hl args) (hA.word hc args) hce hcv hcl (j_han hh hr hq C hH hS hL (by omega) (by omega) q)
/-- caught by its second, the first names another class -/
theorem JX_catch2 {E nm : String} {v : Int32} {x y : ExceptionTableEntry} {suf : List ExceptionTableEntry} (ht : tableOf M.2.2.2.2 = y :: x :: suf) (hy0 : y.catchType ≠ 0) (hyl : Cond.classLink M.1.cls y.catchType nm ∈ jK) (hnc : (E, nm) ∈ jNc) (hx : covers x pc = true) (h0 : x.catchType ≠ 0) (hl : Cond.classLink M.1.cls x.catchType E ∈ jK) (hc : Cond.castable E E ∈ jK) (hh : jHan M x.handlerPc v) (hr : M.2.2.2.1 = some .int) (hq : Q (.inl (some (.int v))) w) : JX X M d kc ks pc L st w E Q := by
  intro p e R s m args below meth c C H locs cells slots ls q ce hH hS hL h1 h2 hce hcv hcl
  have hA := jCtx_amb C
  have hT := C.2.2.2.2.2.2.2.1
  refine vx_catch (name := E) C.2.2.2.1 [y] x suf (hT.trans ht) (fun z hz => ?_) hx h0 (hA.word hl args) (hA.word hc args) hce hcv hcl (j_han hh hr hq C hH hS hL (by omega) (by omega) q)
  rw [List.mem_singleton.mp hz]
  exact Or.inr ⟨hy0, nm, hA.word hyl args, hA.2.2.2.2.2.2.2.2 _ hnc⟩
end JCALL
/-- the locals at the entry -/
def jEnt : List Value → List (Option Value)
  | [] => []
  | v :: t => some v :: (if v.category = 2 then none :: jEnt t else jEnt t)
theorem jEnt_spec (X : jX) : ∀ (as : List Value) (k i : Nat) (v : Value), (jEnt as)[i]? = some (some v) → (k + i, jT X v) ∈ lv_args k (as.map (jT X)) := by
  intro as
  induction as with
  | nil => intro k i v h; simp [jEnt] at h
  | cons a t ih =>
    intro k i v h
    cases i with
    | zero =>
      simp [jEnt] at h
      subst h
      exact List.mem_cons_self
    | succ i =>
      refine List.mem_cons_of_mem _ ?_
      rw [jT_cat]
      by_cases hc : a.category = 2
      · rw [if_pos hc]
        simp only [jEnt, if_pos hc, List.getElem?_cons_succ] at h
        cases i with
        | zero => simp at h
        | succ i =>
          rw [List.getElem?_cons_succ] at h
          have := ih (k + 2) i v h
          rw [show k + (i + 1 + 1) = k + 2 + i by omega]
          exact this
      · rw [if_neg hc]
        simp only [jEnt, if_neg hc, List.getElem?_cons_succ] at h
        have := ih (k + 1) i v h
        rw [show k + (i + 1) = k + 1 + i by omega]
        exact this
theorem jL_entry (X : jX) {as : List Value} {nL : Nat} {L : List (Option Value)} (hn : (lg_sl (as.map (jT X))).length ≤ nL) (hL : L = jEnt as ++ List.replicate (nL - (jEnt as).length) none) : jL X ((lg_sl (as.map (jT X)) ++ List.replicate (nL - (lg_sl (as.map (jT X))).length) Slot.unset).toArray) nL L := by
  obtain ⟨h1, h2, h3⟩ := lv_entry (as.map (jT X)) hn
  refine ⟨h1, h2, fun i v hv => ?_⟩
  have hi : (jEnt as)[i]? = some (some v) := by
    rw [hL] at hv
    by_cases hlt : i < (jEnt as).length
    · rwa [List.getElem?_append_left hlt] at hv
    · rw [List.getElem?_append_right (by omega), List.getElem?_replicate] at hv
      split at hv <;> cases hv
  have := jEnt_spec X as 0 i v hi
  rw [Nat.zero_add] at this
  exact h3 _ this
theorem lg_len (X : jX) (as : List Value) : (lg_sl (as.map (jT X))).length = (jEnt as).length := by
  induction as with
  | nil => rfl
  | cons a t ih =>
    simp only [lg_sl, List.map_cons, List.flatMap_cons, List.length_append, jT_cat] at ih ⊢
    rw [ih]
    by_cases hc : a.category = 2
    · simp [jEnt, hc]; omega
    · simp [jEnt, hc]; omega
/-- a contract, out of the body's judgement -/
theorem jMet_of {X : jX} {M : jM} {d kc ks : Nat} {as : List Value} {w : List jC} {Q : jQ} (hs : X.1.stackTraces = false) (hp : plainName M.1.cls = true) (hn : (jEnt as).length ≤ M.2.2.1) {L : List (Option Value)} (hL : L = jEnt as ++ List.replicate (M.2.2.1 - (jEnt as).length) none) (h : J X M d kc ks 0 L [] w Q) : jMet X M d kc ks as w Q := by
  have hlen := lg_len X as
  have go : ∀ (p : Program) (e : Env) (s : State) (m : MethodId) (args : Array Value) (below : List Frame) (meth : Method) (c : Code) (s₁ : State), BodyLoose p X.1 M.1 (headSpec [jWd M] (jR d kc ks)) M.2.1 M.2.2.1 M.2.2.2.1 e s m args below meth c s₁ → c.maxLocals = M.2.2.1 → c.exceptionTable.toList = tableOf M.2.2.2.2 → (args = (as.map (jT X)).toArray ∧ jAmb X s ∧ jH X w s.heap) →
      W p X.1 e (jR d kc ks) s m args below meth c s.heap [] 0 0 (vx_MQ below (fun _ st o t => ∃ (r : Option Value) (w' : List jC), o = .returned (r.map (jT X)) ∧ Q (.inl r) w' ∧ jH X w' t.heap ∧ jLow X st t) (fun E st t => ∃ w' : List jC, Q (.inr E) w' ∧ jH X w' t.heap ∧ jLow X st t) args s kc ks (jA X)) (entryFrame m args M.2.2.1) := by
    intro p e s m args below meth c s₁ B hml hT hP
    obtain ⟨rfl, hA, hH⟩ := hP
    rw [lg_entry_eq]
    have hnm := (name_of_methodNamed B.named B.method).1
    exact h p e (jR d kc ks) s m _ below meth c ⟨B.exec, B.bytes, hml, findClass_of_methodNamed B.named, B.returns, B.notSynchronized, hnm, hT, hA, hs, Nat.le_refl _, Nat.le_refl _⟩ s.heap [] 0 0 _ hH va_S.rf (jL_entry X (by rw [hlen]; exact hn) hL) (by show 0 + kc ≤ kc; omega) (by show 0 + ks ≤ ks; omega)
  obtain ⟨y, cc, nL, ret, hh⟩ := M
  cases hh with
  | nil =>
    refine vx_ofW (cc := cc) (maxL := nL) (ret := ret) hp rfl (fun p e s m args below meth c s₁ B hml ht hP => go p e s m args below meth c s₁ B hml ?_ hP)
    show c.exceptionTable.toList = []
    cases hq : c.exceptionTable.toList with
    | nil => rfl
    | cons a t => exact (ht a (by rw [hq]; exact List.mem_cons_self)).elim
  | cons a t =>
    refine vx_ofWH (cc := cc) (maxL := nL) (ret := ret) (hh := a :: t) hp rfl (fun p e s m args below meth c s₁ B hml hP => go p e s m args below meth c s₁ B hml ?_ hP)
    exact vx_table (x := y) (S := headSpec [Cond.codeWith y cc nL ret (a :: t)] (jR d kc ks)) B (atoms_spec (ws := [Cond.codeWith y cc nL ret (a :: t)]) B.pre _ List.mem_cons_self)
