/-! rules over naturals, and rules that forget -/
section JWEAK
variable {X : jX} {M : jM} {d kc ks pc : Nat} {L : List (Option Value)} {st : List Value} {w : List jC} {Q : jQ}
theorem J_absI {y : Int32} (h : ∀ x, J X M d kc ks pc L (.int x :: st) w Q) : J X M d kc ks pc L (.int y :: st) w Q := h y
theorem J_absL {y : Int64} (h : ∀ x, J X M d kc ks pc L (.long x :: st) w Q) : J X M d kc ks pc L (.long y :: st) w Q := h y
theorem J_andE {x : Int32} (k m : Nat) (hm : (nI m).toBitVec.toNat = 2 ^ k - 1) (h : ∀ j, j < 2 ^ k → J X M d kc ks pc L (.int (nI j) :: st) w Q) : J X M d kc ks pc L (.int (x &&& nI m) :: st) w Q := by
  obtain ⟨j, hj, e⟩ := pk_andE x k hm
  rw [e]
  exact h j hj
theorem J_iaddN {a b : Nat} (hdg : decode M.2.1 pc = .ok (.iadd, 1)) (k : J X M d kc ks (pc + 1) L (.int (nI (a + b)) :: st) w Q) : J X M d kc ks pc L (.int (nI b) :: .int (nI a) :: st) w Q := J_iadd hdg (by rw [nI_add]; exact k)
theorem J_isubN {a b : Nat} (hdg : decode M.2.1 pc = .ok (.isub, 1)) (h : b ≤ a) (k : J X M d kc ks (pc + 1) L (.int (nI (a - b)) :: st) w Q) : J X M d kc ks pc L (.int (nI b) :: .int (nI a) :: st) w Q := J_isub hdg (by rw [pk_sub h]; exact k)
theorem J_imulN {a b : Nat} (hdg : decode M.2.1 pc = .ok (.imul, 1)) (k : J X M d kc ks (pc + 1) L (.int (nI (a * b)) :: st) w Q) : J X M d kc ks pc L (.int (nI b) :: .int (nI a) :: st) w Q := J_imul hdg (by rw [pk_mul]; exact k)
theorem J_iincN {i a b : Nat} {n : Int} (hdg : decode M.2.1 pc = .ok (.iinc i n, 3)) (hl : L[i]? = some (some (.int (nI a)))) (hv : Int32.ofInt n = nI b) (hn : i < M.2.2.1) (hok : jOk1 L i = true) (kk : J X M d kc ks (pc + 3) (L.set i (some (.int (nI (a + b))))) st w Q) : J X M d kc ks pc L st w Q :=
  J_iinc hdg hl (by rw [hv, nI_add]) hn hok kk
theorem nI_m1 {a : Nat} (h : 1 ≤ a) : nI a + Int32.ofInt (-1) = nI (a - 1) := by
  obtain ⟨b, rfl⟩ : ∃ b, a = b + 1 := ⟨a - 1, by omega⟩
  have : Int32.ofInt (-1) = -1 := by decide
  rw [this, Nat.add_sub_cancel, ← nI_pred b, Int32.sub_eq_add_neg]
theorem J_iincM {i a : Nat} (hdg : decode M.2.1 pc = .ok (.iinc i (-1), 3)) (hl : L[i]? = some (some (.int (nI a)))) (h1 : 1 ≤ a) (hn : i < M.2.2.1) (hok : jOk1 L i = true) (kk : J X M d kc ks (pc + 3) (L.set i (some (.int (nI (a - 1))))) st w Q) : J X M d kc ks pc L st w Q :=
  J_iinc hdg hl (nI_m1 h1) hn hok kk
theorem J_icmp_eqN {a b : Nat} {off : Int} {tgt : Nat} (hdg : decode M.2.1 pc = .ok (.if_icmp .eq off, 3)) (ht : (pc : Int) + off = (tgt : Int)) (ha : a < 2 ^ 31) (hb : b < 2 ^ 31) (kt : a = b → J X M d kc ks tgt L st w Q) (kf : ¬ a = b → J X M d kc ks (pc + 3) L st w Q) : J X M d kc ks pc L (.int (nI b) :: .int (nI a) :: st) w Q := J_icmp_eq hdg ht (fun h => kt ((nI_eq ha hb).mp h)) (fun h => kf (fun e => h ((nI_eq ha hb).mpr e)))
theorem J_icmp_neN {a b : Nat} {off : Int} {tgt : Nat} (hdg : decode M.2.1 pc = .ok (.if_icmp .ne off, 3)) (ht : (pc : Int) + off = (tgt : Int)) (ha : a < 2 ^ 31) (hb : b < 2 ^ 31) (kt : ¬ a = b → J X M d kc ks tgt L st w Q) (kf : a = b → J X M d kc ks (pc + 3) L st w Q) : J X M d kc ks pc L (.int (nI b) :: .int (nI a) :: st) w Q := J_icmp_ne hdg ht (fun h => kt (fun e => h ((nI_eq ha hb).mpr e))) (fun h => kf ((nI_eq ha hb).mp h))
theorem J_icmp_ltN {a b : Nat} {off : Int} {tgt : Nat} (hdg : decode M.2.1 pc = .ok (.if_icmp .lt off, 3)) (ht : (pc : Int) + off = (tgt : Int)) (ha : a < 2 ^ 31) (hb : b < 2 ^ 31) (kt : a < b → J X M d kc ks tgt L st w Q) (kf : b ≤ a → J X M d kc ks (pc + 3) L st w Q) : J X M d kc ks pc L (.int (nI b) :: .int (nI a) :: st) w Q := J_icmp_lt hdg ht (fun h => kt ((nI_ltI ha hb).mp h)) (fun h => kf (Nat.not_lt.mp fun e => h ((nI_ltI ha hb).mpr e)))
theorem J_icmp_geN {a b : Nat} {off : Int} {tgt : Nat} (hdg : decode M.2.1 pc = .ok (.if_icmp .ge off, 3)) (ht : (pc : Int) + off = (tgt : Int)) (ha : a < 2 ^ 31) (hb : b < 2 ^ 31) (kt : b ≤ a → J X M d kc ks tgt L st w Q) (kf : a < b → J X M d kc ks (pc + 3) L st w Q) : J X M d kc ks pc L (.int (nI b) :: .int (nI a) :: st) w Q := J_icmp_ge hdg ht (fun h => kt ((nI_leI hb ha).mp h)) (fun h => kf (Nat.not_le.mp fun e => h ((nI_leI hb ha).mpr e)))
theorem J_icmp_gtN {a b : Nat} {off : Int} {tgt : Nat} (hdg : decode M.2.1 pc = .ok (.if_icmp .gt off, 3)) (ht : (pc : Int) + off = (tgt : Int)) (ha : a < 2 ^ 31) (hb : b < 2 ^ 31) (kt : b < a → J X M d kc ks tgt L st w Q) (kf : a ≤ b → J X M d kc ks (pc + 3) L st w Q) : J X M d kc ks pc L (.int (nI b) :: .int (nI a) :: st) w Q := J_icmp_gt hdg ht (fun h => kt ((nI_ltI hb ha).mp h)) (fun h => kf (Nat.not_lt.mp fun e => h ((nI_ltI hb ha).mpr e)))
theorem J_icmp_leN {a b : Nat} {off : Int} {tgt : Nat} (hdg : decode M.2.1 pc = .ok (.if_icmp .le off, 3)) (ht : (pc : Int) + off = (tgt : Int)) (ha : a < 2 ^ 31) (hb : b < 2 ^ 31) (kt : a ≤ b → J X M d kc ks tgt L st w Q) (kf : b < a → J X M d kc ks (pc + 3) L st w Q) : J X M d kc ks pc L (.int (nI b) :: .int (nI a) :: st) w Q := J_icmp_le hdg ht (fun h => kt ((nI_leI ha hb).mp h)) (fun h => kf (Nat.not_le.mp fun e => h ((nI_leI ha hb).mpr e)))
theorem J_if_eqN {a : Nat} {off : Int} {tgt : Nat} (hdg : decode M.2.1 pc = .ok (.ifCond .eq off, 3)) (ht : (pc : Int) + off = (tgt : Int)) (ha : a < 2 ^ 31) (kt : a = 0 → J X M d kc ks tgt L st w Q) (kf : ¬ a = 0 → J X M d kc ks (pc + 3) L st w Q) : J X M d kc ks pc L (.int (nI a) :: st) w Q := J_if_eq hdg ht (fun h => kt ((nI_eq ha (b := 0) (by decide)).mp (h.trans nI_0.symm))) (fun h => kf fun e => h (by rw [e]; exact nI_0))
theorem J_if_neN {a : Nat} {off : Int} {tgt : Nat} (hdg : decode M.2.1 pc = .ok (.ifCond .ne off, 3)) (ht : (pc : Int) + off = (tgt : Int)) (ha : a < 2 ^ 31) (kt : ¬ a = 0 → J X M d kc ks tgt L st w Q) (kf : a = 0 → J X M d kc ks (pc + 3) L st w Q) : J X M d kc ks pc L (.int (nI a) :: st) w Q := J_if_ne hdg ht (fun h => kt fun e => h (by rw [e]; exact nI_0)) (fun h => kf ((nI_eq ha (b := 0) (by decide)).mp (h.trans nI_0.symm)))
theorem J_if_ltN {a : Nat} {off : Int} {tgt : Nat} (hdg : decode M.2.1 pc = .ok (.ifCond .lt off, 3)) (ht : (pc : Int) + off = (tgt : Int)) (ha : a < 2 ^ 31) (kf : True → J X M d kc ks (pc + 3) L st w Q) : J X M d kc ks pc L (.int (nI a) :: st) w Q := J_if_lt hdg ht (fun h => absurd h (nI_pos ha)) (fun h => kf trivial)
theorem J_if_geN {a : Nat} {off : Int} {tgt : Nat} (hdg : decode M.2.1 pc = .ok (.ifCond .ge off, 3)) (ht : (pc : Int) + off = (tgt : Int)) (ha : a < 2 ^ 31) (kt : True → J X M d kc ks tgt L st w Q) : J X M d kc ks pc L (.int (nI a) :: st) w Q := J_if_ge hdg ht (fun h => kt trivial) (fun h => absurd (nI_pos' ha) h)
theorem J_if_gtN {a : Nat} {off : Int} {tgt : Nat} (hdg : decode M.2.1 pc = .ok (.ifCond .gt off, 3)) (ht : (pc : Int) + off = (tgt : Int)) (ha : a < 2 ^ 31) (kt : 0 < a → J X M d kc ks tgt L st w Q) (kf : a = 0 → J X M d kc ks (pc + 3) L st w Q) : J X M d kc ks pc L (.int (nI a) :: st) w Q := J_if_gt hdg ht (fun h => kt (Nat.pos_of_ne_zero fun e => by subst e; exact absurd h (by decide))) (fun h => kf (Nat.eq_zero_of_not_pos fun e => h (by have := nI_lt e ha; exact this)))
theorem J_if_leN {a : Nat} {off : Int} {tgt : Nat} (hdg : decode M.2.1 pc = .ok (.ifCond .le off, 3)) (ht : (pc : Int) + off = (tgt : Int)) (ha : a < 2 ^ 31) (kt : a = 0 → J X M d kc ks tgt L st w Q) (kf : 0 < a → J X M d kc ks (pc + 3) L st w Q) : J X M d kc ks pc L (.int (nI a) :: st) w Q := J_if_le hdg ht (fun h => kt (Nat.eq_zero_of_not_pos fun e => nI_nle e ha h)) (fun h => kf (Nat.pos_of_ne_zero fun e => by subst e; exact absurd h (by decide)))
theorem J_isubM {a : Nat} (hdg : decode M.2.1 pc = .ok (.isub, 1)) (k : J X M d kc ks (pc + 1) L (.int (nI a + Int32.ofInt (-1)) :: st) w Q) : J X M d kc ks pc L (.int (nI 1) :: .int (nI a) :: st) w Q := J_isub hdg (by
  have e : nI a - nI 1 = nI a + Int32.ofInt (-1) := by
    rw [Int32.sub_eq_add_neg]
    rfl
  rw [e]
  exact k)
theorem J_idivN {a b : Nat} (hdg : decode M.2.1 pc = .ok (.idiv, 1)) (ha : a < 2 ^ 31) (h0 : 0 < b) (hb : b < 2 ^ 31) (k : J X M d kc ks (pc + 1) L (.int (nI (a / b)) :: st) w Q) : J X M d kc ks pc L (.int (nI b) :: .int (nI a) :: st) w Q := J_idiv hdg (nI_ne0 h0 hb) (by rw [pk_div ha h0 hb]; exact k)
theorem J_iremN {a b : Nat} (hdg : decode M.2.1 pc = .ok (.irem, 1)) (ha : a < 2 ^ 31) (h0 : 0 < b) (hb : b < 2 ^ 31) (k : J X M d kc ks (pc + 1) L (.int (nI (a % b)) :: st) w Q) : J X M d kc ks pc L (.int (nI b) :: .int (nI a) :: st) w Q := J_irem hdg (nI_ne0 h0 hb) (by rw [pk_rem ha h0 hb]; exact k)
theorem J_if_ltM {a : Nat} {off : Int} {tgt : Nat} (hdg : decode M.2.1 pc = .ok (.ifCond .lt off, 3)) (ht : (pc : Int) + off = (tgt : Int)) (ha : a < 2 ^ 31) (kt : a = 0 → J X M d kc ks tgt L st w Q) (kf : 1 ≤ a → J X M d kc ks (pc + 3) L st w Q) : J X M d kc ks pc L (.int (nI a + Int32.ofInt (-1)) :: st) w Q := by
  refine J_if_lt hdg ht (fun h => kt ?_) (fun h => kf ?_)
  · refine Nat.eq_zero_of_not_pos fun h1 => ?_
    rw [nI_m1 h1] at h
    exact nI_pos (by omega) h
  · refine Nat.pos_of_ne_zero fun e => h ?_
    subst e
    decide
/-- the natural that an int is at the most -/
def tN (x : Int32) : Nat := x.toInt.toNat
theorem tN_lt (x : Int32) : tN x < 2 ^ 31 := by
  have h1 := x.toInt_lt
  unfold tN
  omega
theorem tN_lt_iff {a : Nat} {x : Int32} (ha : a < 2 ^ 31) : nI a < x ↔ a < tN x := by
  rw [Int32.lt_iff_toInt_lt, nI_toInt ha]
  unfold tN
  omega
theorem J_icmp_geI {a : Nat} {x : Int32} {off : Int} {tgt : Nat} (hdg : decode M.2.1 pc = .ok (.if_icmp .ge off, 3)) (ht : (pc : Int) + off = (tgt : Int)) (ha : a < 2 ^ 31) (kt : tN x ≤ a → J X M d kc ks tgt L st w Q) (kf : a < tN x → J X M d kc ks (pc + 3) L st w Q) : J X M d kc ks pc L (.int x :: .int (nI a) :: st) w Q :=
  J_icmp_ge hdg ht (fun h => kt (Nat.not_lt.mp fun e => absurd ((tN_lt_iff ha).mpr e) (Int32.not_lt.mpr h))) (fun h => kf ((tN_lt_iff ha).mp (Int32.not_le.mp h)))
theorem J_icmp_ltI {a : Nat} {x : Int32} {off : Int} {tgt : Nat} (hdg : decode M.2.1 pc = .ok (.if_icmp .lt off, 3)) (ht : (pc : Int) + off = (tgt : Int)) (ha : a < 2 ^ 31) (kt : a < tN x → J X M d kc ks tgt L st w Q) (kf : tN x ≤ a → J X M d kc ks (pc + 3) L st w Q) : J X M d kc ks pc L (.int x :: .int (nI a) :: st) w Q :=
  J_icmp_lt hdg ht (fun h => kt ((tN_lt_iff ha).mp h)) (fun h => kf (Nat.not_lt.mp fun e => h ((tN_lt_iff ha).mpr e)))
theorem nI_k {x : Int32} {b : Nat} (hb : b < 2 ^ 31) (h1 : ¬ x < 0) (h2 : ¬ nI b ≤ x) : ∃ k, k < b ∧ x = nI k := by
  obtain ⟨j, hj, rfl⟩ := nI_of h1
  exact ⟨j, Nat.not_le.mp fun e => h2 ((nI_leI hb hj).mpr e), rfl⟩
end JWEAK
theorem nar_b {k : Nat} (h : k < 2) : narrow .boolean (.int (nI k)) = .int (nI k) := by
  rcases (show k = 0 ∨ k = 1 by omega) with rfl | rfl <;> decide +kernel
theorem nz1 {y : Int32} (h : nI 1 ≤ y) : ¬ y = 0 := by
  intro e; subst e; exact absurd h (by decide)
theorem nz1' {y : Int32} (h : ¬ y < nI 1) : ¬ y = 0 := by
  intro e; subst e; exact absurd h (by decide)
def rT (n : Nat) (q : Int32) (w w' : List jC) : Prop := ∃ e r : Int32, rS n e r q w w'
section JCALL0
variable {X : jX} {M : jM} {d kc ks pc : Nat} {L : List (Option Value)} {st : List Value} {w : List jC} {Q : jQ}
theorem J_callS0 {index d' n : Nat} {z : jM} {as : List Value} {Q' : jQ} (hdg : decode M.2.1 pc = .ok (.invokestatic index, 3)) (hz : jCal z n) (hl : Cond.methodLink M.1.cls index z.1 ∈ jK) (hst : Cond.static z.1 ∈ jK) (hn : as.length = n) (hM : jMet X z d' 0 0 as w Q') (hd : d' + 1 ≤ d) (h8 : (st.map fun v => v.category).sum ≤ 8)
    {st0 : List Value} (h0 : st0 = as.reverse ++ st)
    (kr : ∀ (r : Option Value) (w' : List jC), Q' (.inl r) w' → J X M d kc ks (pc + 3) L (r.toList ++ st) w' Q) (kx : ∀ (E : String) (w' : List jC), Q' (.inr E) w' → JX X M d kc ks pc L st w' E Q) : J X M d kc ks pc L st0 w Q :=
  J_callS hdg hz hl hst hn hM hd (Nat.zero_le _) (Nat.zero_le _) h8 h0 kr kx
theorem J_callSN0 {index d' n : Nat} {host : String} {z : jM} {as : List Value} {Q' : jQ} (hdg : decode M.2.1 pc = .ok (.invokestatic index, 3)) (hz : jCal z n) (hl : Cond.methodLinkNest M.1.cls index z.1 host ∈ jK) (hst : Cond.static z.1 ∈ jK) (hn : as.length = n) (hM : jMet X z d' 0 0 as w Q') (hd : d' + 1 ≤ d) (h8 : (st.map fun v => v.category).sum ≤ 8)
    {st0 : List Value} (h0 : st0 = as.reverse ++ st)
    (kr : ∀ (r : Option Value) (w' : List jC), Q' (.inl r) w' → J X M d kc ks (pc + 3) L (r.toList ++ st) w' Q) (kx : ∀ (E : String) (w' : List jC), Q' (.inr E) w' → JX X M d kc ks pc L st w' E Q) : J X M d kc ks pc L st0 w Q :=
  J_callSN hdg hz hl hst hn hM hd (Nat.zero_le _) (Nat.zero_le _) h8 h0 kr kx
theorem J_callV0 {index d' n a ci : Nat} {z : jM} {as fs : List Value} {q : vw_C} {Q' : jQ} (hdg : decode M.2.1 pc = .ok (.invokevirtual index, 3)) (hz : jCal z n) (hl : Cond.methodLink M.1.cls index z.1 ∈ jK) (hin : Cond.instanceMethod z.1 ∈ jK) (hse : Cond.selects z.1.cls z.1 z.1 ∈ jK) (hw : w[a]? = some (.inr (ci, fs))) (hci : ci < 99) (hc : vwCl[ci]? = some q) (hq : q.1 = z.1.cls) (hn : as.length = n) (hM : jMet X z d' 0 0 (.ref a :: as) w Q') (hd : d' + 1 ≤ d) (h8 : (st.map fun v => v.category).sum ≤ 8)
    {st0 : List Value} (h0 : st0 = as.reverse ++ .ref a :: st)
    (kr : ∀ (r : Option Value) (w' : List jC), Q' (.inl r) w' → J X M d kc ks (pc + 3) L (r.toList ++ st) w' Q) (kx : ∀ (E : String) (w' : List jC), Q' (.inr E) w' → JX X M d kc ks pc L st w' E Q) : J X M d kc ks pc L st0 w Q :=
  J_callV hdg hz hl hin hse hw hci hc hq hn hM hd (Nat.zero_le _) (Nat.zero_le _) h8 h0 kr kx
theorem J_callVN0 {index d' n a ci : Nat} {host : String} {z : jM} {as fs : List Value} {q : vw_C} {Q' : jQ} (hdg : decode M.2.1 pc = .ok (.invokevirtual index, 3)) (hz : jCal z n) (hl : Cond.methodLinkNest M.1.cls index z.1 host ∈ jK) (hin : Cond.instanceMethod z.1 ∈ jK) (hse : Cond.selects z.1.cls z.1 z.1 ∈ jK) (hw : w[a]? = some (.inr (ci, fs))) (hci : ci < 99) (hc : vwCl[ci]? = some q) (hq : q.1 = z.1.cls) (hn : as.length = n) (hM : jMet X z d' 0 0 (.ref a :: as) w Q') (hd : d' + 1 ≤ d) (h8 : (st.map fun v => v.category).sum ≤ 8)
    {st0 : List Value} (h0 : st0 = as.reverse ++ .ref a :: st)
    (kr : ∀ (r : Option Value) (w' : List jC), Q' (.inl r) w' → J X M d kc ks (pc + 3) L (r.toList ++ st) w' Q) (kx : ∀ (E : String) (w' : List jC), Q' (.inr E) w' → JX X M d kc ks pc L st w' E Q) : J X M d kc ks pc L st0 w Q :=
  J_callVN hdg hz hl hin hse hw hci hc hq hn hM hd (Nat.zero_le _) (Nat.zero_le _) h8 h0 kr kx
end JCALL0
/-- the classes above the two things that are thrown -/
def exN : List String := ["java/lang/RuntimeException", "java/lang/Exception"]
theorem nI_k2 {x : Int32} {b : Nat} (h2 : x < nI b) (hb : b < 2 ^ 31) (h1 : ¬ x < 0) : ∃ k, k < b ∧ x = nI k := nI_k hb h1 (Int32.not_le.mpr h2)
theorem nI_k1 {x : Int32} {b : Nat} (h2 : ¬ nI b ≤ x) (hb : b < 2 ^ 31) (h1 : ¬ x < 0) : ∃ k, k < b ∧ x = nI k := nI_k hb h1 h2
theorem nI_btw {x : Int32} {a b : Nat} (h1 : nI a ≤ x) (h2 : x ≤ nI b) (ha : a < 2 ^ 31) (hb : b < 2 ^ 31) : ∃ k, a ≤ k ∧ k ≤ b ∧ x = nI k := by
  have h0 : ¬ x < 0 := Int32.not_lt.mpr (Int32.le_trans (nI_pos' ha) h1)
  obtain ⟨j, hj, rfl⟩ := nI_of h0
  exact ⟨j, (nI_leI ha hj).mp h1, (nI_leI hj hb).mp h2, rfl⟩
/-- how far an int is from the greatest -/
def tI (x : Int32) : Nat := (2147483647 - x.toInt).toNat
theorem tI_dec {x y : Int32} (h : x < y) : tI (x + Int32.ofInt 1) < tI x := by
  have h1 := Int32.lt_iff_toInt_lt.mp h
  have h2 := y.toInt_lt
  have h3 := x.le_toInt
  have e : (x + Int32.ofInt 1).toInt = x.toInt + 1 := by
    rw [Int32.toInt_add]
    have : (Int32.ofInt 1).toInt = 1 := by decide
    rw [this]
    apply Int.bmod_eq_of_le <;> omega
  unfold tI
  rw [e]
  omega
/-- an end whose answer and world are told together -/
def pJ (R : Int32 → List jC → Prop) : jQ := fun o w => match o with
  | .inl (some (.int v)) => R v w
  | _ => False
section JPJ
variable {X : jX} {M : jM} {d kc ks pc : Nat} {L : List (Option Value)} {st as : List Value} {w : List jC} {Q : jQ}
theorem kr_J {R : Int32 → List jC → Prop} (k : ∀ (v : Int32) (w' : List jC), R v w' → J X M d kc ks pc L (.int v :: st) w' Q) : ∀ (r : Option Value) (w' : List jC), pJ R (.inl r) w' → J X M d kc ks pc L (r.toList ++ st) w' Q := by
  intro r w' h
  match r, h with
  | some (.int v), h => exact k v w' h
theorem kx_J {R : Int32 → List jC → Prop} : ∀ (E : String) (w' : List jC), pJ R (.inr E) w' → JX X M d kc ks pc L st w' E Q := fun _ _ h => h.elim
theorem jJX {R R' : Int32 → List jC → Prop} {RX RX' : String → List jC → Prop} (h : jMet X M d kc ks as w (pX (pJ R) RX)) (hR : ∀ v w', R v w' → R' v w') (hX : ∀ E w', RX E w' → RX' E w') : jMet X M d kc ks as w (pX (pJ R') RX') := h.mono (fun o w' hq => by
  match o, hq with
  | .inl (some (.int v)), hq => exact hR v w' hq
  | .inr E, hq => exact hX E w' hq)
theorem jJ {R R' : Int32 → List jC → Prop} (h : jMet X M d kc ks as w (pJ R)) (hR : ∀ v w', R v w' → R' v w') : jMet X M d kc ks as w (pJ R') := h.mono (fun o w' hq => by
  match o, hq with
  | .inl (some (.int v)), hq => exact hR v w' hq)
end JPJ
