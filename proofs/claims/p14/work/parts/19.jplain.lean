/-! methods of a class that has entries, that the machine has no entry for (java/lang/Math) -/
theorem vx_ofWF {l : Launch} {y : MethodName} {ws ws' : List Cond} {rm : Room} {Pc : Array Value → State → Prop} {Qc : Array Value → State → Outcome → State → Prop} {XC : String → State → State → Prop} {mc ms : Nat} {free : Addr → Prop} {cc : ByteArray} {maxL : Nat} {ret : Option FieldType}
    (hy : plainFor y = true) (hw : ws = Cond.code y cc maxL ret :: ws')
    (body : ∀ p e s m args below meth c s₁, BodyLoose p l y (headSpec ws rm) cc maxL ret e s m args below meth c s₁ → c.maxLocals = maxL → (∀ x ∈ c.exceptionTable.toList, False) → Pc args s →
      W p l e (headSpec ws rm).room s m args below meth c s.heap [] 0 0 (vx_MQ below Qc XC args s mc ms free) (entryFrame m args maxL)) : vx_Met l y ws rm Pc Qc XC mc ms free := by
  refine MetFree.of_bodySF (code := cc) (maxLocals := maxL) (ret := ret) hy ?_ ?_
  · intro args s m h hn
    obtain ⟨meth, c, h1, h2, h3, h4, h5, h6, -, -⟩ := Cond.code_spec hn (atoms_spec (ws := ws) h _ (by rw [hw]; exact List.mem_cons_self))
    exact ⟨meth, c, h1, h2, h3, h4, h5, h6⟩
  · intro p e s m args below meth c s₁ B hml hP _
    have hh0 : s₁.heap = s.heap := by rw [B.state]; rfl
    have ht : ∀ x ∈ c.exceptionTable.toList, False := by
      obtain ⟨meth9, c9, h1, h2, -, -, -, -, h7, -⟩ := Cond.code_spec B.named (atoms_spec (ws := ws) B.pre _ (by rw [hw]; exact List.mem_cons_self))
      cases Option.some.inj (h1.symm.trans B.method)
      cases Option.some.inj (h2.symm.trans (Stand.of_body B).code)
      intro x hx
      rw [Array.isEmpty_iff.mp h7] at hx
      cases hx
    obtain ⟨t, a1, o, b1, b2, b3⟩ := body p e s m args below meth c s₁ B hml ht hP s₁ hh0 (Stand.of_body B)
    exact ⟨t, o, a1, b1, b2, b3⟩
theorem jMet_ofF {X : jX} {M : jM} {d kc ks : Nat} {as : List Value} {w : List jC} {Q : jQ} (hs : X.1.stackTraces = false) (hp : plainFor M.1 = true) (hh : M.2.2.2.2 = []) (hn : (jEnt as).length ≤ M.2.2.1) {L : List (Option Value)} (hL : L = jEnt as ++ List.replicate (M.2.2.1 - (jEnt as).length) none) (h : J X M d kc ks 0 L [] w Q) : jMet X M d kc ks as w Q := by
  have hlen := lg_len X as
  obtain ⟨y, cc, nL, ret, hx⟩ := M
  cases (show hx = [] from hh)
  refine vx_ofWF (cc := cc) (maxL := nL) (ret := ret) hp rfl (fun p e s m args below meth c s₁ B hml ht hP => ?_)
  obtain ⟨rfl, hA, hH⟩ := hP
  rw [lg_entry_eq]
  have hnm := (name_of_methodNamed B.named B.method).1
  have hT : c.exceptionTable.toList = tableOf [] := by
    show c.exceptionTable.toList = []
    cases hq : c.exceptionTable.toList with
    | nil => rfl
    | cons a t => exact (ht a (by rw [hq]; exact List.mem_cons_self)).elim
  exact h p e (jR d kc ks) s m _ below meth c ⟨B.exec, B.bytes, hml, findClass_of_methodNamed B.named, B.returns, B.notSynchronized, hnm, hT, hA, hs, Nat.le_refl _, Nat.le_refl _⟩ s.heap [] 0 0 _ hH va_S.rf (jL_entry X (by rw [hlen]; exact hn) hL) (by show 0 + kc ≤ kc; omega) (by show 0 + ks ≤ ks; omega)
theorem pf_J9_abs_0f7a4 : plainFor mJ9_abs_0f7a4.1 = true := by decide +kernel
theorem pf_J9_floorMod_7cf53 : plainFor mJ9_floorMod_7cf53.1 = true := by decide +kernel
theorem pf_J9_min_7cf53 : plainFor mJ9_min_7cf53.1 = true := by decide +kernel
theorem pf_J9_max_7cf53 : plainFor mJ9_max_7cf53.1 = true := by decide +kernel
