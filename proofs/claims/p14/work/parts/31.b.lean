section
/-! the world at the law's entry -/
theorem one_str {s : State} {args : Array Value} {t : Term} (bs : List Int32) {A : Nat → Prop} (hl : bs.length < 2 ^ 31) (hex : (Cond.exactly t "java/lang/String").before args s = true) (hco : (Cond.eq (.field t "java/lang/String" "coder" "B") (.int 0)).before args s = true)
    (har : (Cond.arrayOf (.field t "java/lang/String" "value" "[B") .byte).before args s = true) (hle : (Cond.eq (.length (.field t "java/lang/String" "value" "[B")) (.int (Int32.ofNat bs.length))).before args s = true)
    (hel : ∀ j : Nat, j < bs.length → (Cond.eq (.elem (.field t "java/lang/String" "value" "[B") (.int (Int32.ofNat j))) (.int (bs.getD j 0))).before args s = true) (hA : ∀ a : Nat, a < s.heap.size → ¬ A a) :
    ∃ a v : Nat, t.eval args s none [] s = some (.ref a) ∧ va_O "java/lang/String" a A s s.heap ∧ va_OF "java/lang/String" "coder" "B" (.int 0) a A s s.heap ∧ va_OF "java/lang/String" "value" "[B" (.ref v) a A s s.heap ∧ va_T .byte v bs.length (fun j => .int (bs.getD j 0)) A s s.heap := by
  have hz : ∀ i : Nat, i < 1 → i = 0 := fun i hi => by omega
  obtain ⟨aK, aV, hS, he⟩ := vk_Sof (args := args) (s := s) (N := 1) (tm := fun _ => t) (len := [bs.length]) (byt := [bs]) (A := A) (fun i hi => by rw [hz i hi]; exact hl) (fun _ _ => hex) (fun _ _ => hco) (fun _ _ => har)
    (fun i hi => by rw [hz i hi]; exact hle) (fun i hi j hj => by rw [hz i hi] at hj; rw [hz i hi]; exact hel j hj) (fun i j hi hj h => absurd ((hz i hi).trans (hz j hj).symm) h) hA
  have h0 := hS.1 0 (by decide)
  exact ⟨aK 0, aV 0, he 0 (by decide), h0.1, h0.2.1, h0.2.2.1, h0.2.2.2⟩
theorem cls_at {s : State} {args : Array Value} (hK : ∀ w ∈ jK, w.before args s = true) : ∀ c : Nat, ∃ D : ClassId × (Nat → Nat), ∀ q : vw_C, vwCl[c]? = some q → u_Kn s q.1 q.2.1 q.2.2 D.1 D.2 := by
  intro c
  match c with
  | 0 =>
    obtain ⟨cC, iS, h⟩ := u_known hK kC0.2.1 (hK _ fi_J0)
    exact ⟨(cC, iS), fun q hq => by rw [← Option.some.inj (kC0.1.symm.trans hq)]; exact h⟩
  | 1 =>
    obtain ⟨cC, iS, h⟩ := u_known hK kC1.2.1 (hK _ fi_J4)
    exact ⟨(cC, iS), fun q hq => by rw [← Option.some.inj (kC1.1.symm.trans hq)]; exact h⟩
  | 2 =>
    obtain ⟨cC, iS, h⟩ := u_known hK kC2.2.1 (hK _ fi_X0)
    exact ⟨(cC, iS), fun q hq => by rw [← Option.some.inj (kC2.1.symm.trans hq)]; exact h⟩
  | 3 =>
    obtain ⟨cC, iS, h⟩ := u_known hK kC3.2.1 (hK _ fi_X1)
    exact ⟨(cC, iS), fun q hq => by rw [← Option.some.inj (kC3.1.symm.trans hq)]; exact h⟩
  | 4 =>
    obtain ⟨cC, iS, h⟩ := u_known hK kC4.2.1 (hK _ fi_X3)
    exact ⟨(cC, iS), fun q hq => by rw [← Option.some.inj (kC4.1.symm.trans hq)]; exact h⟩
  | 5 =>
    obtain ⟨cC, iS, h⟩ := u_known hK kC5.2.1 (hK _ fi_X4)
    exact ⟨(cC, iS), fun q hq => by rw [← Option.some.inj (kC5.1.symm.trans hq)]; exact h⟩
  | 6 =>
    obtain ⟨cC, iS, h⟩ := u_known hK kC6.2.1 (hK _ fi_X5)
    exact ⟨(cC, iS), fun q hq => by rw [← Option.some.inj (kC6.1.symm.trans hq)]; exact h⟩
  | 7 =>
    obtain ⟨cC, iS, h⟩ := u_known hK kC7.2.1 (hK _ fi_X6)
    exact ⟨(cC, iS), fun q hq => by rw [← Option.some.inj (kC7.1.symm.trans hq)]; exact h⟩
  | 8 =>
    obtain ⟨cC, iS, h⟩ := u_known hK kC8.2.1 (hK _ fi_X7)
    exact ⟨(cC, iS), fun q hq => by rw [← Option.some.inj (kC8.1.symm.trans hq)]; exact h⟩
  | 9 =>
    obtain ⟨cC, iS, h⟩ := u_known hK kC9.2.1 (hK _ fi_X8)
    exact ⟨(cC, iS), fun q hq => by rw [← Option.some.inj (kC9.1.symm.trans hq)]; exact h⟩
  | c + 10 =>
    obtain ⟨cC, iS, _⟩ := u_known hK kC0.2.1 (hK _ fi_J0)
    exact ⟨(cC, iS), fun q hq => by first | (simp [vwCl] at hq; done) | exact nomatch (show (none : Option vw_C) = some q from hq)⟩
set_option maxRecDepth 100000 in
set_option maxHeartbeats 4000000 in
theorem start_X (l : Launch) {s : State} {b L : Nat} {xs : Nat → Int32} (hL : L ≤ 320) (hts : ∀ w ∈ lw_tbl, w.before #[Value.ref b] s = true) (hX : va_X b L xs s s.heap) (hbl : b < s.heap.size) (hgv : (Jvm.Cond.and given_1 narrow_1).before #[Value.ref b] s = true) :
    ∃ X : jX, X.1 = l ∧ X.2.1 = s.heap.size ∧ X.2.2.1 0 = b ∧ jAmb X s ∧ XO X ∧ X.2.2.2.2.2[0]? = some (.inl (0, (List.range L).map xs)) := by
  have hf0 := flat_of_before _ hgv
  have hfl : ∀ (i : Nat) (c : Cond), FLs[i]? = some c → c.before #[Value.ref b] s = true := fun i c h => hf0 c (List.mem_of_getElem? h)
  have hlt : ∀ (i : Nat) (c : Cond), lw_tbl[i]? = some c → c.before #[Value.ref b] s = true := fun i c h => hts c (List.mem_of_getElem? h)
  have hA : ∀ a : Nat, a < s.heap.size → ¬ s.heap.size ≤ a := fun a h => Nat.not_le.mpr h
  have hK : ∀ w ∈ jK, w.before #[Value.ref b] s = true := fun w hw => hts w (List.mem_filter.mp hw).1
  have hK0 : ∀ w ∈ jK, w.before #[] s = true := fun w hw => jW_use (List.mem_filter.mp hw).2 (State.WarmedH.refl s) (hK w hw)
  obtain ⟨D, hD⟩ := Classical.axiomOfChoice (cls_at hK)
  obtain ⟨cI, kI, mI, i1, i2, i3⟩ := Cond.arrayClass_spec (hK _ fa_int)
  obtain ⟨cB, kB, mB, b1, b2, b3⟩ := Cond.arrayClass_spec (hK _ fa_byte)
  obtain ⟨tO, eO, hO⟩ := va_Tof (A := fun q => s.heap.size ≤ q) (N := ysO.length) (f := fun j => .int (ysO.getD j 0)) (by decide +kernel) (hfl _ _ flOa) (va_eqt (hfl _ _ flOl)) (fun j hj => va_eqt (hfl _ _ (flOe j hj))) hA
  obtain ⟨tT, eT, hT⟩ := va_Tof (A := fun q => s.heap.size ≤ q) (N := ysT.length) (f := fun j => .int (ysT.getD j 0)) (by decide +kernel) (hfl _ _ flTa) (va_eqt (hfl _ _ flTl)) (fun j hj => va_eqt (hfl _ _ (flTe j hj))) hA
  obtain ⟨a144, v144, e144, o144, c144, p144, t144⟩ := one_str (A := fun q => s.heap.size ≤ q) bs144 (by decide +kernel) (hfl _ _ fs144x) (hfl _ _ fs144c) (hfl _ _ fs144a) (hfl _ _ fs144l) (fun j hj => hfl _ _ (fs144e j hj)) hA
  obtain ⟨a149, v149, e149, o149, c149, p149, t149⟩ := one_str (A := fun q => s.heap.size ≤ q) bs149 (by decide +kernel) (hfl _ _ fs149x) (hfl _ _ fs149c) (hfl _ _ fs149a) (hfl _ _ fs149l) (fun j hj => hfl _ _ (fs149e j hj)) hA
  obtain ⟨a289, v289, e289, o289, c289, p289, t289⟩ := one_str (A := fun q => s.heap.size ≤ q) bs289 (by decide +kernel) (hfl _ _ fs289x) (hfl _ _ fs289c) (hfl _ _ fs289a) (hfl _ _ fs289l) (fun j hj => hfl _ _ (fs289e j hj)) hA
  obtain ⟨a294, v294, e294, o294, c294, p294, t294⟩ := one_str (A := fun q => s.heap.size ≤ q) bs294 (by decide +kernel) (hfl _ _ fs294x) (hfl _ _ fs294c) (hfl _ _ fs294a) (hfl _ _ fs294l) (fun j hj => hfl _ _ (fs294e j hj)) hA
  obtain ⟨a298, v298, e298, o298, c298, p298, t298⟩ := one_str (A := fun q => s.heap.size ≤ q) bs298 (by decide +kernel) (hfl _ _ fs298x) (hfl _ _ fs298c) (hfl _ _ fs298a) (hfl _ _ fs298l) (fun j hj => hfl _ _ (fs298e j hj)) hA
  refine ⟨(l, s.heap.size, (fun k => match k with | 0 => b | 1 => tO | 2 => tT | 3 => tO | 4 => tO | 5 => a144 | 6 => a149 | 7 => a289 | 8 => a294 | 9 => a298 | 10 => v144 | 11 => v149 | 12 => v289 | 13 => v294 | 14 => v298 | _ => 0), ((fun c => (D c).1), fun c => (D c).2), (fun t => if t = 0 then cI else cB), [.inl (0, (List.range L).map xs), .inl (1, ysO), .inl (1, ysT), .inl (1, ysO), .inl (1, ysO), .inr (0, [.retAddr 10]), .inr (0, [.retAddr 11]), .inr (0, [.retAddr 12]), .inr (0, [.retAddr 13]), .inr (0, [.retAddr 14]), .inl (1, bs144), .inl (1, bs149), .inl (1, bs289), .inl (1, bs294), .inl (1, bs298)]), rfl, rfl, rfl, ⟨Nat.le_refl _, ⟨fun c q hq => hD c q hq, fun k q hq => ?_⟩, fun k c hk => ?_, fun q hq => ?_, vx_Zqof (hlt _ _ lt_U) (hlt _ _ lt_W) (hfl _ _ flU) hA, vx_Zqof (hlt _ _ lt_V) (hlt _ _ lt_W) (hfl _ _ flV) hA, fun q hq => ?_, hK0, fun q hq => ?_⟩, ?_, rfl⟩
  · match k, hq with
    | 0, hq =>
      obtain rfl : ((cI, FieldType.int) : ClassId × FieldType) = q := Option.some.inj hq
      exact ⟨fun n z => ⟨fun k h => (by cases h), kI, i2, mI, i3⟩, i1⟩
    | 1, hq =>
      obtain rfl : ((cB, FieldType.byte) : ClassId × FieldType) = q := Option.some.inj hq
      exact ⟨fun n z => ⟨fun k h => (by cases h), kB, b2, mB, b3⟩, b1⟩
    | k + 2, hq => first | (simp at hq; done) | exact nomatch (show (none : Option (ClassId × FieldType)) = some q from hq)
  · match k, hk with
    | 0, hk =>
      obtain rfl : (.inl (0, (List.range L).map xs) : jC) = c := Option.some.inj hk
      obtain ⟨scr, h1, h2, h3, h4, h5⟩ := hX
      have hlen : ((List.range L).map xs).length = L := by rw [List.length_map, List.length_range]
      refine ⟨scr, h1, h2, h3, (by rw [h4]; exact Nat.le_of_eq hlen), (congrArg Nat.toInt32 h4).trans (congrArg Int32.ofNat hlen.symm), fun j hj => ?_, hA b hbl⟩
      have hj2 : j < L := Nat.lt_of_lt_of_eq hj hlen
      show scr.slots[j]? = some (.int (((List.range L).map xs).getD j 0))
      rw [h5 j hj2, List.getD_eq_getElem?_getD, List.getElem?_map, List.getElem?_range hj2] <;> rfl
    | 1, hk =>
      obtain rfl : (.inl (1, ysO) : jC) = c := Option.some.inj hk
      exact hO
    | 3, hk =>
      obtain rfl : (.inl (1, ysO) : jC) = c := Option.some.inj hk
      exact hO
    | 4, hk =>
      obtain rfl : (.inl (1, ysO) : jC) = c := Option.some.inj hk
      exact hO
    | 2, hk =>
      obtain rfl : (.inl (1, ysT) : jC) = c := Option.some.inj hk
      exact hT
    | 5, hk =>
      obtain rfl : (.inr (0, [.retAddr 10]) : jC) = c := Option.some.inj hk
      exact ⟨o144, c144, p144⟩
    | 6, hk =>
      obtain rfl : (.inr (0, [.retAddr 11]) : jC) = c := Option.some.inj hk
      exact ⟨o149, c149, p149⟩
    | 7, hk =>
      obtain rfl : (.inr (0, [.retAddr 12]) : jC) = c := Option.some.inj hk
      exact ⟨o289, c289, p289⟩
    | 8, hk =>
      obtain rfl : (.inr (0, [.retAddr 13]) : jC) = c := Option.some.inj hk
      exact ⟨o294, c294, p294⟩
    | 9, hk =>
      obtain rfl : (.inr (0, [.retAddr 14]) : jC) = c := Option.some.inj hk
      exact ⟨o298, c298, p298⟩
    | 10, hk =>
      obtain rfl : (.inl (1, bs144) : jC) = c := Option.some.inj hk
      exact t144
    | 11, hk =>
      obtain rfl : (.inl (1, bs149) : jC) = c := Option.some.inj hk
      exact t149
    | 12, hk =>
      obtain rfl : (.inl (1, bs289) : jC) = c := Option.some.inj hk
      exact t289
    | 13, hk =>
      obtain rfl : (.inl (1, bs294) : jC) = c := Option.some.inj hk
      exact t294
    | 14, hk =>
      obtain rfl : (.inl (1, bs298) : jC) = c := Option.some.inj hk
      exact t298
    | k + 15, hk => first | (simp at hk; done) | exact nomatch (show (none : Option jC) = some c from hk)
  · simp only [jStat, List.mem_cons, List.not_mem_nil, or_false] at hq
    rcases hq with rfl | rfl | rfl
    · exact va_Zof (hlt _ _ lt_C) (hlt _ _ lt_S) (va_eqi (hfl _ _ flC)) hA
    · exact va_Zof (hlt _ _ lt_O) (hlt _ _ lt_I) eO hA
    · exact va_Zof (hlt _ _ lt_T) (hlt _ _ lt_I) eT hA
  · simp only [jStr, List.mem_cons, List.not_mem_nil, or_false] at hq
    rcases hq with rfl | rfl | rfl | rfl | rfl
    · exact vk_R.of (hlt _ _ lt_144) e144
    · exact vk_R.of (hlt _ _ lt_149) e149
    · exact vk_R.of (hlt _ _ lt_289) e289
    · exact vk_R.of (hlt _ _ lt_294) e294
    · exact vk_R.of (hlt _ _ lt_298) e298
  · rw [List.mem_singleton.mp hq]; exact va_Nc.of (hfl _ _ flN)
  · exact ⟨⟨ysO, rfl, (by decide +kernel)⟩, ⟨ysT, rfl, (by decide +kernel)⟩, ⟨bs144, 10, [], rfl, rfl, rfl, fs144f⟩, ⟨bs149, 11, [], rfl, rfl, rfl, fs149f⟩⟩
end
section
/-! THE CLAIM OUT OF ONE WALK OF THE LAW'S BODY. Your part is whole_start (and what it stands on); all else here is the same for every law, but numbers. -/
def R_law : String := "SwaphouseLaw"
def lw_P (b : Addr) (xs : List Int32) (args : Array Value) (s : State) : Prop := args = #[.ref b] ∧ s.IntsAt b xs ∧ xs.length ≤ 320 ∧ (Jvm.Cond.and given_1 narrow_1).before args s = true
def lw_Q (_ : Array Value) (s : State) (o : Outcome) (t : State) : Prop := o = .returned (some (.int 1)) ∧ Framed s o t [] 600128 7301098
def lw_Z (below : List Frame) (a : Array Value) (s : State) : State → Prop := fun t => ∃ o, t.status = .running ∧ Ended t below o ∧ lw_Q a s o t
/-- the law's own end, with 1 on the stack, nothing written that was there before, its room as the claim has it -/
theorem lw_ret {p : Program} {l : Launch} {e : Env} {s : State} {m : MethodId} {below : List Frame} {meth : Method} {c : Code} {b : Nat} (hx : p.tables.exec = Jvm.exec) (hb : c.code = code) (hr : meth.sig.returnType = ret) (hlocks : meth.locks = false) {pc : Nat} {H : Heap} {ls : Array Slot} (hdg : decode code pc = .ok (.ireturn, 1)) : W p l e room_1 s m #[Value.ref b] below meth c H [] 600128 7301098 (lw_Z below #[Value.ref b] s) (F0 m pc ls [.int 1]) := by
  intro T hT X
  obtain ⟨fs, hret, hrun, hended, hW, hframe⟩ := X.leave (v := some (.int 1)) (hlocks := hlocks) (fun h => by rw [hr] at h; cases h)
  have hmeth' : T.vm.method? m = some meth := X.method'
  refine ⟨T.setFrames fs, ?_, .returned (some (.int 1)), hrun, hended, rfl, ⟨_, rfl⟩, hW, hframe⟩
  jvm_step X.here [X.here.top, hx, hb, hdg, hmeth', hr, ret, narrow_b1]
  (try refine ⟨rfl, ?_⟩); (try refine ⟨rfl, ?_⟩)
  first | (intro acts; rw [hret _ acts rfl rfl rfl]) | rw [hret _ _ rfl rfl rfl]
  exact Steps.refl _
/-- what holds at the law's entry: the machine, the code, the tables' words (any of lw_tbl by 'hts w (by decide +kernel)'), the script of L ints xs at the cell b, what the Statement gives of the start (any of its parts by flat_of_before) -/
def lw_At (p : Program) (s : State) (m : MethodId) (meth : Method) (c : Code) (b L : Nat) (xs : Nat → Int32) : Prop :=
  p.tables.exec = Jvm.exec ∧ c.code = code ∧ meth.sig.returnType = ret ∧ c.maxLocals = 7 ∧ s.vm.findClass R_law = some m.cls ∧ (∀ w ∈ lw_tbl, w.before #[Value.ref b] s = true) ∧ va_X b L xs s s.heap ∧ b < s.heap.size ∧ meth.locks = false ∧ (Jvm.Cond.and given_1 narrow_1).before #[Value.ref b] s = true
def law_Q : jQ := fun o _ => o = .inl (some (.int 1))
theorem whole_start {p : Program} {e : Env} {s : State} {m : MethodId} {below : List Frame} {meth : Method} {c : Code} (l : Launch) (hflags : l.flags = flags0) {b L : Nat} {xs : Nat → Int32} (hL : L ≤ 320) (C0 : lw_At p s m meth c b L xs) (hnm : meth.name = "law") (htb : c.exceptionTable.toList = []) : W p l e room_1 s m #[Value.ref b] below meth c s.heap [] 0 0 (lw_Z below #[Value.ref b] s) (entryFrame m ([Value.ref b] : List Value).toArray 7) := by
  obtain ⟨hx, hb, hr, hml, hown, hts, hX, hbl, hlocks, hgv⟩ := C0
  obtain ⟨X, hX1, hX2, hX3, hAmb, hXO, hX0⟩ := start_X l hL hts hX hbl hgv
  subst hX1
  have hst : X.1.stackTraces = false := by rw [Launch.stackTraces, hflags]; decide +kernel
  have hJ := s_start (X := X) hst hXO hX0 (by rw [List.length_map, List.length_range]; exact hL) (d := 60) (by decide) (kc := 600128) (ks := 7301098) (by decide) (by decide) (Q := law_Q) (fun _ => rfl)
  have hH : jH X [] s.heap := ⟨hX2.symm, fun i c h _ => by simp at h⟩
  have has : (([.retAddr 0] : List Value).map (jT X)) = [Value.ref b] := by show [Value.ref (X.2.2.1 0)] = _; rw [hX3]
  have hent := jL_entry X (as := [.retAddr 0]) (nL := 7) (L := [some (.retAddr 0), none, none, none, none, none, none]) (by rw [lg_len]; decide) rfl
  rw [has] at hent
  rw [lg_entry_eq]
  have hW := hJ p e room_1 s m #[Value.ref b] below meth c ⟨hx, hb, hml, hown, hr, hlocks, hnm, htb, hAmb, hst, by decide, by decide⟩ s.heap [] 0 0 _ hH va_S.rf hent (by decide) (by decide)
  intro T hT XS
  obtain ⟨t, a1, o, b1, b2, b3⟩ := hW T hT XS
  refine ⟨t, a1, o, b1, b2, ?_⟩
  rcases b3 with ⟨⟨r, w', ho, hq, -, -⟩, Lo, hfe, hfree⟩ | ⟨q, -, E, ce, Lo, ⟨w', hq, -⟩, -⟩
  · have hr1 : r = some (.int 1) := Sum.inl.inj hq
    subst hr1
    have h9 : ∀ y ∈ Lo, s.heap.size ≤ y.base := by
      intro y hy
      have h8 : X.2.1 ≤ y.base := hfree y hy
      rw [hX2] at h8
      exact h8
    exact ⟨ho, hfe.1, hfe.2.1, hfe.2.2.weaken (fun y hy hlt => absurd hlt (Nat.not_lt.mpr (h9 y hy))) (Nat.le_refl _) (Nat.le_refl _)⟩
  · cases (show (Sum.inr E : jO) = Sum.inl (some (.int 1)) from hq)
set_option maxHeartbeats 4000000 in
theorem lw_walk (l : Launch) (hflags : l.flags = flags0) (b : Addr) (xs : List Int32) : MetFree l x (headSpec (Jvm.Cond.code x code maxLocals ret :: tables_1) room_1) (lw_P b xs) (fun _ _ _ _ _ => True) lw_Q := by
  refine MetFree.of_bodyS (code := code) (maxLocals := maxLocals) (ret := ret) (by decide) ?_ ?_
  · intro args s m h hn
    obtain ⟨meth, c, h1, h2, h3, h4, h5, h6, -, -⟩ := Cond.code_spec hn (atoms_spec (ws := Jvm.Cond.code x code maxLocals ret :: tables_1) h _ List.mem_cons_self)
    exact ⟨meth, c, h1, h2, h3, h4, h5, h6⟩
  · intro p e s m args below meth c s₁ B hml0 hP _
    obtain ⟨rfl, hx, hbd, hgv⟩ := hP
    obtain ⟨scr, harrAt, hlist, hof, hsmall⟩ := hx
    obtain ⟨hcb, hkn, -, -⟩ := State.arrayAt?_spec harrAt
    have hown : s.vm.findClass R_law = some m.cls := findClass_of_methodNamed B.named
    have hts0 : ∀ c ∈ (Jvm.Cond.code x code maxLocals ret :: tables_1), c.before #[Value.ref b] s = true := atoms_spec (ws := Jvm.Cond.code x code maxLocals ret :: tables_1) B.pre
    have hts : ∀ w ∈ lw_tbl, w.before #[Value.ref b] s = true := k2_hts_sels lw_privs (fun w hw => hts0 w (List.mem_cons_of_mem _ hw)) lw_privs_ok
    have hml : c.maxLocals = 7 := B.maxLocals_eq (hts0 _ List.mem_cons_self)
    have X₀ : Stand p l e room_1 s m #[Value.ref b] below meth c s₁ [] 0 0 := Stand.of_body B
    have hh0 : s₁.heap = s.heap := by rw [B.state]; rfl
    have hsz : scr.slots.size = xs.length := by rw [← Array.length_toList, hlist, List.length_map]
    have hval : ∀ j : Nat, j < xs.length → scr.slots[j]? = some (.int (xs.getD j 0)) := fun j hj => by
      rw [← Array.getElem?_toList, hlist]
      simp [hj]
    have hbl : b < s.heap.size := (Array.getElem?_eq_some_iff.mp hcb).1
    have hX : va_X b xs.length (fun j => xs.getD j 0) s s.heap := ⟨scr, hcb, hof, hkn, hsz, hval⟩
    have hnm : meth.name = "law" := (name_of_methodNamed B.named B.method).1
    have htb : c.exceptionTable.toList = [] := by
      obtain ⟨meth9, c9, h1, h2, -, -, -, -, h7, -⟩ := Cond.code_spec B.named (hts0 _ List.mem_cons_self)
      cases Option.some.inj (h1.symm.trans B.method)
      cases Option.some.inj (h2.symm.trans X₀.code)
      exact congrArg Array.toList (Array.isEmpty_iff.mp h7)
    have K : W p l e room_1 s m #[Value.ref b] below meth c s₁.heap [] 0 0 (lw_Z below #[Value.ref b] s) (entryFrame m ([Value.ref b] : List Value).toArray 7) := by
      rw [hh0]
      exact whole_start l hflags hbd ⟨B.exec, B.bytes, B.returns, hml, hown, hts, hX, hbl, B.notSynchronized, hgv⟩ hnm htb
    obtain ⟨t, a1, o, b1, b2, b3⟩ := K s₁ rfl X₀
    exact ⟨t, o, a1, b1, b2, b3⟩
theorem lw_pre_spec {args : Array Value} {s : State} (h : (Jvm.Cond.and given_1 narrow_1).before args s = true) (hr : rest_1_c.before args s = true) : ∃ (b : Addr) (xs : List Int32), lw_P b xs args s := by
  have hs := flat_of_before _ h
  have hq := flat_of_before _ hr
  have hc : (Cond.count 1).before args s = true := hs _ (by decide +kernel)
  have harr : (Cond.arrayOf (.arg 0) .int).before args s = true := hs _ (by decide +kernel)
  have hle : (Cond.le (.length (.arg 0)) (.int 320)).before args s = true := hs _ (by decide +kernel)
  have hlen : (Cond.isInt (.length (.arg 0))).before args s = true := hq _ (by decide +kernel)
  have hall : (Cond.all (.arg 0) (.isInt (.elem (.arg 0) (.index 0)))).before args s = true := hq _ (by decide +kernel)
  obtain ⟨b, xs, hb, hx⟩ := State.ints_of_pre rfl harr hlen hall
  have hsm : xs.length < 2 ^ 31 := hx.choose_spec.2.2.2
  have hev : (Term.length (.arg 0)).eval args s none [] s = some (.int xs.length.toInt32) := hx.length_eval hb
  have hv := Cond.le_ints hev (show (Term.int 320).eval args s none [] s = some (.int 320) from rfl)
  have hd : xs.length.toInt32 ≤ 320 := by
    simpa [Cond.before, Cond.holds, hv] using hle
  have hN : xs.length ≤ 320 := (Int32.ofNat_le_ofNat hsm (by decide)).mp (show Int32.ofNat xs.length ≤ Int32.ofNat 320 from hd)
  exact ⟨b, xs, Cond.one_arg hc (show args[0]? = some (.ref b) from hb), hx, hN, h⟩
theorem lw_comes (l : Launch) (hflags : l.flags = flags0) : Comes l x (Jvm.Cond.code x code maxLocals ret :: tables_1) room_1 (fun tb e args s => Calls_1 tb e args s ∧ rest_1 tb e args s ∧ Pre_1 tb e args s)
    (fun _ _ args s o t => lw_Q args s o t) := by
  intro p e ha hc hk s m args below hf hfit hheap happ hpre
  obtain ⟨b, xs, hP⟩ := lw_pre_spec hpre.2.2 hpre.2.1
  obtain ⟨k, o, h1, h2, h3, hQ⟩ := lw_walk l hflags b xs p e ha hc hk s m args below hf ((Spec.applies_iff_loose hf).mp happ).1 hP trivial
  exact ⟨k, o, h1, h2, h3, hQ⟩
theorem lw_frame {s t : State} {o : Outcome} {args : Array Value} (h : Framed s o t [] 600128 7301098) :
    Framed s o t (fieldLocs frame_1_writes args s ++ arrayLocs frame_1_arrays args s ++ staticLocs frame_1_statics s) 600128 7301098 := h
theorem lw_limb (L : Cond) (hL : ∀ (args : Array Value) (s t : State), L.after args s (.returned (some (.int 1))) t = true) :
    ArmFor flags0 classFile x code maxLocals ret World_1 tables_1 room_1 Calls_1 rest_1 Pre_1
      (fun tb e a s o t => postC L tb e a s o t ∧ Framed s o t (fieldLocs frame_1_writes a s ++ arrayLocs frame_1_arrays a s ++ staticLocs frame_1_statics s) 600128 7301098) := by
  intro l hflags _ _ p e ha hc hk s m args below hf hfit hheap happ hpre
  obtain ⟨k, o, h1, h2, h3, rfl, hF⟩ := lw_comes l hflags p e ha hc hk s m args below hf hfit hheap happ hpre
  exact ⟨k, _, h1, h2, h3, hL args s _, lw_frame hF⟩
theorem i_vc : Claimed_1_1 ∧ Claimed_1_2 := ⟨lw_limb limb_1_1 (fun args s t => by simp [limb_1_1, Cond.after, Cond.holds, Cond.value]), lw_limb limb_1_2 (fun args s t => Cond.after_iff.mpr (by
  first | (rw [show limb_1_2 = Cond.eq .result (.int 1) from rfl, Cond.eq_ints (x := 1) (y := 1) rfl rfl]; simp; done) | (simp [limb_1_2, Cond.value, Term.eval]; done)))⟩
end
