-- ===== PART A: goes FIRST, ahead of the names: the tables' words, and 'selects' of the private methods out of them =====
def cN : List Cond → Nat → Option Cond
  | [], _ => none
  | x :: _, 0 => some x
  | _ :: t, k + 1 => cN t k
theorem cN_mem : ∀ {L : List Cond} {k : Nat} {w : Cond}, cN L k = some w → w ∈ L
  | [], _, _, e => nomatch e
  | x :: t, 0, w, e => by
    have e : some x = some w := e
    cases e
    exact List.mem_cons_self
  | _ :: t, k + 1, w, e => List.mem_cons_of_mem _ (cN_mem (L := t) (k := k) e)
theorem tI_1 {w : Cond} (i : Nat) (h : cN tables_1_1 i = some w) : w ∈ tables_1 := (List.mem_append_left _ (cN_mem h))
theorem tI_2 {w : Cond} (i : Nat) (h : cN tables_1_2 i = some w) : w ∈ tables_1 := (List.mem_append_right _ (List.mem_append_left _ (cN_mem h)))
theorem tI_3 {w : Cond} (i : Nat) (h : cN tables_1_3 i = some w) : w ∈ tables_1 := (List.mem_append_right _ (List.mem_append_right _ (List.mem_append_left _ (cN_mem h))))
theorem tI_4 {w : Cond} (i : Nat) (h : cN tables_1_4 i = some w) : w ∈ tables_1 := (List.mem_append_right _ (List.mem_append_right _ (List.mem_append_right _ (List.mem_append_left _ (cN_mem h)))))
theorem tI_5 {w : Cond} (i : Nat) (h : cN tables_1_5 i = some w) : w ∈ tables_1 := (List.mem_append_right _ (List.mem_append_right _ (List.mem_append_right _ (List.mem_append_right _ (List.mem_append_left _ (cN_mem h))))))
theorem tI_6 {w : Cond} (i : Nat) (h : cN tables_1_6 i = some w) : w ∈ tables_1 := (List.mem_append_right _ (List.mem_append_right _ (List.mem_append_right _ (List.mem_append_right _ (List.mem_append_right _ (List.mem_append_left _ (cN_mem h)))))))
theorem tI_7 {w : Cond} (i : Nat) (h : cN tables_1_7 i = some w) : w ∈ tables_1 := (List.mem_append_right _ (List.mem_append_right _ (List.mem_append_right _ (List.mem_append_right _ (List.mem_append_right _ (List.mem_append_right _ (cN_mem h)))))))
/-- a private method of Chain, out of the printed tables -/
def lw_a1 : MethodName := match cN tables_1_1 199 with
  | some (Cond.privateMethod m) => m
  | _ => ⟨"", "", ""⟩
/-- a private method of a class that the tables say can be made, by its rows of tables_1 -/
def lw_okq (q : MethodName × Nat) : Prop := (q.1.cls ≠ "java/lang/invoke/MethodHandle" ∧ q.1.cls ≠ "java/lang/invoke/VarHandle") ∧ Cond.instantiable q.1.cls q.2 ∈ tables_1 ∧ Cond.privateMethod q.1 ∈ tables_1 ∧ Cond.instanceMethod q.1 ∈ tables_1
theorem lw_p0 : lw_okq (⟨"Swaphouse", "raiseAll", "()V"⟩, 9) := ⟨⟨by decide +kernel, by decide +kernel⟩, tI_1 28 rfl, tI_1 182 rfl, tI_1 183 rfl⟩
theorem lw_p1 : lw_okq (⟨"Swaphouse$Chain", lw_a1.name, "(I)Z"⟩, 9) := ⟨⟨by decide +kernel, by decide +kernel⟩, tI_1 36 rfl, tI_1 199 rfl, tI_1 200 rfl⟩
theorem lw_p2 : lw_okq (⟨"Swaphouse$Chain", "addStep", "(III)V"⟩, 9) := ⟨⟨by decide +kernel, by decide +kernel⟩, tI_1 36 rfl, tI_1 206 rfl, tI_1 207 rfl⟩
theorem lw_p3 : lw_okq (⟨"Swaphouse$Chain", "close", "()V"⟩, 9) := ⟨⟨by decide +kernel, by decide +kernel⟩, tI_1 36 rfl, tI_1 213 rfl, tI_1 214 rfl⟩
theorem lw_p4 : lw_okq (⟨"Swaphouse$Chain", "measure", "()V"⟩, 9) := ⟨⟨by decide +kernel, by decide +kernel⟩, tI_1 36 rfl, tI_1 217 rfl, tI_1 218 rfl⟩
theorem lw_p5 : lw_okq (⟨"Swaphouse$Walk", "spread", "([II)V"⟩, 2) := ⟨⟨by decide +kernel, by decide +kernel⟩, tI_1 72 rfl, tI_2 15 rfl, tI_2 16 rfl⟩
theorem lw_p6 : lw_okq (⟨"Swaphouse", "allAgrees", "()Z"⟩, 9) := ⟨⟨by decide +kernel, by decide +kernel⟩, tI_1 28 rfl, tI_2 28 rfl, tI_2 29 rfl⟩
theorem lw_p7 : lw_okq (⟨"Swaphouse", "sizesAgree", "()Z"⟩, 9) := ⟨⟨by decide +kernel, by decide +kernel⟩, tI_1 28 rfl, tI_2 32 rfl, tI_2 33 rfl⟩
theorem lw_p8 : lw_okq (⟨"Swaphouse", "ranksAgree", "()Z"⟩, 9) := ⟨⟨by decide +kernel, by decide +kernel⟩, tI_1 28 rfl, tI_2 50 rfl, tI_2 51 rfl⟩
theorem lw_p9 : lw_okq (⟨"Swaphouse", "signsAgree", "()Z"⟩, 9) := ⟨⟨by decide +kernel, by decide +kernel⟩, tI_1 28 rfl, tI_2 81 rfl, tI_2 82 rfl⟩
theorem lw_p10 : lw_okq (⟨"Swaphouse", "colouringsAgree", "()Z"⟩, 9) := ⟨⟨by decide +kernel, by decide +kernel⟩, tI_1 28 rfl, tI_2 107 rfl, tI_2 108 rfl⟩
theorem lw_p11 : lw_okq (⟨"Swaphouse$Palette", "weigh", "()I"⟩, 4) := ⟨⟨by decide +kernel, by decide +kernel⟩, tI_1 117 rfl, tI_2 121 rfl, tI_2 122 rfl⟩
theorem lw_p12 : lw_okq (⟨"Swaphouse$Palette", "spread", "([II)V"⟩, 4) := ⟨⟨by decide +kernel, by decide +kernel⟩, tI_1 117 rfl, tI_2 127 rfl, tI_2 128 rfl⟩
theorem lw_p13 : lw_okq (⟨"Swaphouse$Palette", "madeBy", "(II)I"⟩, 4) := ⟨⟨by decide +kernel, by decide +kernel⟩, tI_1 117 rfl, tI_2 134 rfl, tI_2 135 rfl⟩
theorem lw_p14 : lw_okq (⟨"Swaphouse", "enoughSuffices", "()Z"⟩, 9) := ⟨⟨by decide +kernel, by decide +kernel⟩, tI_1 28 rfl, tI_2 140 rfl, tI_2 141 rfl⟩
theorem lw_p15 : lw_okq (⟨"java/lang/Throwable", "fillInStackTrace", "(I)Ljava/lang/Throwable;"⟩, 6) := ⟨⟨by decide +kernel, by decide +kernel⟩, tI_2 201 rfl, tI_2 199 rfl, tI_2 200 rfl⟩
def lw_privs_1 : List (MethodName × Nat) := [(⟨"Swaphouse", "raiseAll", "()V"⟩, 9), (⟨"Swaphouse$Chain", lw_a1.name, "(I)Z"⟩, 9), (⟨"Swaphouse$Chain", "addStep", "(III)V"⟩, 9), (⟨"Swaphouse$Chain", "close", "()V"⟩, 9), (⟨"Swaphouse$Chain", "measure", "()V"⟩, 9), (⟨"Swaphouse$Walk", "spread", "([II)V"⟩, 2), (⟨"Swaphouse", "allAgrees", "()Z"⟩, 9), (⟨"Swaphouse", "sizesAgree", "()Z"⟩, 9), (⟨"Swaphouse", "ranksAgree", "()Z"⟩, 9), (⟨"Swaphouse", "signsAgree", "()Z"⟩, 9), (⟨"Swaphouse", "colouringsAgree", "()Z"⟩, 9), (⟨"Swaphouse$Palette", "weigh", "()I"⟩, 4), (⟨"Swaphouse$Palette", "spread", "([II)V"⟩, 4), (⟨"Swaphouse$Palette", "madeBy", "(II)I"⟩, 4), (⟨"Swaphouse", "enoughSuffices", "()Z"⟩, 9), (⟨"java/lang/Throwable", "fillInStackTrace", "(I)Ljava/lang/Throwable;"⟩, 6)]
theorem lw_r1 : ∀ q ∈ lw_privs_1, lw_okq q := List.forall_mem_cons.mpr ⟨lw_p0, List.forall_mem_cons.mpr ⟨lw_p1, List.forall_mem_cons.mpr ⟨lw_p2, List.forall_mem_cons.mpr ⟨lw_p3, List.forall_mem_cons.mpr ⟨lw_p4, List.forall_mem_cons.mpr ⟨lw_p5, List.forall_mem_cons.mpr ⟨lw_p6, List.forall_mem_cons.mpr ⟨lw_p7, List.forall_mem_cons.mpr ⟨lw_p8, List.forall_mem_cons.mpr ⟨lw_p9, List.forall_mem_cons.mpr ⟨lw_p10, List.forall_mem_cons.mpr ⟨lw_p11, List.forall_mem_cons.mpr ⟨lw_p12, List.forall_mem_cons.mpr ⟨lw_p13, List.forall_mem_cons.mpr ⟨lw_p14, List.forall_mem_cons.mpr ⟨lw_p15, fun _ h => absurd h List.not_mem_nil⟩⟩⟩⟩⟩⟩⟩⟩⟩⟩⟩⟩⟩⟩⟩⟩
theorem lw_p16 : lw_okq (⟨"Swaphouse$Parting", "separate", "(I)V"⟩, 2) := ⟨⟨by decide +kernel, by decide +kernel⟩, tI_1 104 rfl, tI_4 74 rfl, tI_4 75 rfl⟩
theorem lw_p17 : lw_okq (⟨"Swaphouse$Parting", "join", "(II)Z"⟩, 2) := ⟨⟨by decide +kernel, by decide +kernel⟩, tI_1 104 rfl, tI_4 80 rfl, tI_4 81 rfl⟩
theorem lw_p18 : lw_okq (⟨"Swaphouse", "keep", "(II)V"⟩, 9) := ⟨⟨by decide +kernel, by decide +kernel⟩, tI_1 28 rfl, tI_4 135 rfl, tI_4 136 rfl⟩
theorem lw_p19 : lw_okq (⟨"Swaphouse", "needPoint", "(I)V"⟩, 9) := ⟨⟨by decide +kernel, by decide +kernel⟩, tI_1 28 rfl, tI_4 146 rfl, tI_4 147 rfl⟩
theorem lw_p20 : lw_okq (⟨"Swaphouse", "keepForSign", "(II)I"⟩, 9) := ⟨⟨by decide +kernel, by decide +kernel⟩, tI_1 28 rfl, tI_4 153 rfl, tI_4 154 rfl⟩
theorem lw_p21 : lw_okq (⟨"Swaphouse", "keepForNumber", "(II)I"⟩, 9) := ⟨⟨by decide +kernel, by decide +kernel⟩, tI_1 28 rfl, tI_4 205 rfl, tI_4 206 rfl⟩
theorem lw_p22 : lw_okq (⟨"Swaphouse", "cannot", "()I"⟩, 9) := ⟨⟨by decide +kernel, by decide +kernel⟩, tI_1 28 rfl, tI_5 8 rfl, tI_5 9 rfl⟩
theorem lw_p23 : lw_okq (⟨"Swaphouse$Parting", "joinMoved", "(I)Z"⟩, 2) := ⟨⟨by decide +kernel, by decide +kernel⟩, tI_1 104 rfl, tI_5 201 rfl, tI_5 202 rfl⟩
theorem lw_p24 : lw_okq (⟨"SwaphouseModel", "still", "()V"⟩, 11) := ⟨⟨by decide +kernel, by decide +kernel⟩, tI_5 230 rfl, tI_5 236 rfl, tI_5 237 rfl⟩
theorem lw_p25 : lw_okq (⟨"SwaphouseModel", "isThrown", "(Z)Z"⟩, 11) := ⟨⟨by decide +kernel, by decide +kernel⟩, tI_5 230 rfl, tI_6 42 rfl, tI_6 43 rfl⟩
theorem lw_p26 : lw_okq (⟨"SwaphouseModel", "isThrown", "(ZZ)Z"⟩, 11) := ⟨⟨by decide +kernel, by decide +kernel⟩, tI_5 230 rfl, tI_6 46 rfl, tI_6 47 rfl⟩
theorem lw_p27 : lw_okq (⟨"SwaphouseModel", "told", "(I)I"⟩, 11) := ⟨⟨by decide +kernel, by decide +kernel⟩, tI_5 230 rfl, tI_6 50 rfl, tI_6 51 rfl⟩
theorem lw_p28 : lw_okq (⟨"SwaphouseModel", "all", "()I"⟩, 11) := ⟨⟨by decide +kernel, by decide +kernel⟩, tI_5 230 rfl, tI_6 61 rfl, tI_6 62 rfl⟩
theorem lw_p29 : lw_okq (⟨"SwaphouseModel", "numberOf", "([II)I"⟩, 11) := ⟨⟨by decide +kernel, by decide +kernel⟩, tI_5 230 rfl, tI_6 65 rfl, tI_6 66 rfl⟩
theorem lw_p30 : lw_okq (⟨"SwaphouseModel", "rowOf", "(I[I)V"⟩, 11) := ⟨⟨by decide +kernel, by decide +kernel⟩, tI_5 230 rfl, tI_6 69 rfl, tI_6 70 rfl⟩
theorem lw_p31 : lw_okq (⟨"SwaphouseModel", "get", "(I[I)I"⟩, 11) := ⟨⟨by decide +kernel, by decide +kernel⟩, tI_5 230 rfl, tI_6 73 rfl, tI_6 74 rfl⟩
def lw_privs_2 : List (MethodName × Nat) := [(⟨"Swaphouse$Parting", "separate", "(I)V"⟩, 2), (⟨"Swaphouse$Parting", "join", "(II)Z"⟩, 2), (⟨"Swaphouse", "keep", "(II)V"⟩, 9), (⟨"Swaphouse", "needPoint", "(I)V"⟩, 9), (⟨"Swaphouse", "keepForSign", "(II)I"⟩, 9), (⟨"Swaphouse", "keepForNumber", "(II)I"⟩, 9), (⟨"Swaphouse", "cannot", "()I"⟩, 9), (⟨"Swaphouse$Parting", "joinMoved", "(I)Z"⟩, 2), (⟨"SwaphouseModel", "still", "()V"⟩, 11), (⟨"SwaphouseModel", "isThrown", "(Z)Z"⟩, 11), (⟨"SwaphouseModel", "isThrown", "(ZZ)Z"⟩, 11), (⟨"SwaphouseModel", "told", "(I)I"⟩, 11), (⟨"SwaphouseModel", "all", "()I"⟩, 11), (⟨"SwaphouseModel", "numberOf", "([II)I"⟩, 11), (⟨"SwaphouseModel", "rowOf", "(I[I)V"⟩, 11), (⟨"SwaphouseModel", "get", "(I[I)I"⟩, 11)]
theorem lw_r2 : ∀ q ∈ lw_privs_2, lw_okq q := List.forall_mem_cons.mpr ⟨lw_p16, List.forall_mem_cons.mpr ⟨lw_p17, List.forall_mem_cons.mpr ⟨lw_p18, List.forall_mem_cons.mpr ⟨lw_p19, List.forall_mem_cons.mpr ⟨lw_p20, List.forall_mem_cons.mpr ⟨lw_p21, List.forall_mem_cons.mpr ⟨lw_p22, List.forall_mem_cons.mpr ⟨lw_p23, List.forall_mem_cons.mpr ⟨lw_p24, List.forall_mem_cons.mpr ⟨lw_p25, List.forall_mem_cons.mpr ⟨lw_p26, List.forall_mem_cons.mpr ⟨lw_p27, List.forall_mem_cons.mpr ⟨lw_p28, List.forall_mem_cons.mpr ⟨lw_p29, List.forall_mem_cons.mpr ⟨lw_p30, List.forall_mem_cons.mpr ⟨lw_p31, fun _ h => absurd h List.not_mem_nil⟩⟩⟩⟩⟩⟩⟩⟩⟩⟩⟩⟩⟩⟩⟩⟩
theorem lw_p32 : lw_okq (⟨"SwaphouseModel", "isPoint", "(I)Z"⟩, 11) := ⟨⟨by decide +kernel, by decide +kernel⟩, tI_5 230 rfl, tI_6 81 rfl, tI_6 82 rfl⟩
theorem lw_p33 : lw_okq (⟨"SwaphouseModel", "stillRow", "()V"⟩, 11) := ⟨⟨by decide +kernel, by decide +kernel⟩, tI_5 230 rfl, tI_6 85 rfl, tI_6 86 rfl⟩
theorem lw_p34 : lw_okq (⟨"SwaphouseModel", "behind", "(I[I)I"⟩, 11) := ⟨⟨by decide +kernel, by decide +kernel⟩, tI_5 230 rfl, tI_6 89 rfl, tI_6 90 rfl⟩
theorem lw_p35 : lw_okq (⟨"SwaphouseModel", "at", "(II)I"⟩, 11) := ⟨⟨by decide +kernel, by decide +kernel⟩, tI_5 230 rfl, tI_6 93 rfl, tI_6 94 rfl⟩
theorem lw_p36 : lw_okq (⟨"SwaphouseModel", "signOf", "([II)I"⟩, 11) := ⟨⟨by decide +kernel, by decide +kernel⟩, tI_5 230 rfl, tI_6 97 rfl, tI_6 98 rfl⟩
theorem lw_p37 : lw_okq (⟨"SwaphouseModel", "areUnlike", "(II)Z"⟩, 11) := ⟨⟨by decide +kernel, by decide +kernel⟩, tI_5 230 rfl, tI_6 117 rfl, tI_6 118 rfl⟩
theorem lw_p38 : lw_okq (⟨"SwaphouseModel", "ringFrom", "([III)I"⟩, 11) := ⟨⟨by decide +kernel, by decide +kernel⟩, tI_5 230 rfl, tI_6 137 rfl, tI_6 138 rfl⟩
theorem lw_p39 : lw_okq (⟨"SwaphouseModel", "no", "()I"⟩, 11) := ⟨⟨by decide +kernel, by decide +kernel⟩, tI_5 230 rfl, tI_6 149 rfl, tI_6 150 rfl⟩
theorem lw_p40 : lw_okq (⟨"SwaphouseModel", "group", "(I)V"⟩, 11) := ⟨⟨by decide +kernel, by decide +kernel⟩, tI_5 230 rfl, tI_6 160 rfl, tI_6 161 rfl⟩
theorem lw_p41 : lw_okq (⟨"SwaphouseModel", "isBit", "(I)Z"⟩, 11) := ⟨⟨by decide +kernel, by decide +kernel⟩, tI_5 230 rfl, tI_6 164 rfl, tI_6 165 rfl⟩
theorem lw_p42 : lw_okq (⟨"SwaphouseModel", "close", "(I)V"⟩, 11) := ⟨⟨by decide +kernel, by decide +kernel⟩, tI_5 230 rfl, tI_6 168 rfl, tI_6 169 rfl⟩
theorem lw_p43 : lw_okq (⟨"SwaphouseModel", "goOn", "(II)V"⟩, 11) := ⟨⟨by decide +kernel, by decide +kernel⟩, tI_5 230 rfl, tI_6 176 rfl, tI_6 177 rfl⟩
theorem lw_p44 : lw_okq (⟨"SwaphouseModel", "sizeNow", "()I"⟩, 11) := ⟨⟨by decide +kernel, by decide +kernel⟩, tI_5 230 rfl, tI_6 180 rfl, tI_6 181 rfl⟩
theorem lw_p45 : lw_okq (⟨"SwaphouseModel", "from", "(I)I"⟩, 11) := ⟨⟨by decide +kernel, by decide +kernel⟩, tI_5 230 rfl, tI_6 185 rfl, tI_6 186 rfl⟩
theorem lw_p46 : lw_okq (⟨"SwaphouseModel", "isSuch", "(III[I)Z"⟩, 11) := ⟨⟨by decide +kernel, by decide +kernel⟩, tI_5 230 rfl, tI_6 189 rfl, tI_6 190 rfl⟩
theorem lw_p47 : lw_okq (⟨"SwaphouseModel", "ringsNow", "(I)Ljava/lang/String;"⟩, 11) := ⟨⟨by decide +kernel, by decide +kernel⟩, tI_5 230 rfl, tI_6 220 rfl, tI_6 221 rfl⟩
def lw_privs_3 : List (MethodName × Nat) := [(⟨"SwaphouseModel", "isPoint", "(I)Z"⟩, 11), (⟨"SwaphouseModel", "stillRow", "()V"⟩, 11), (⟨"SwaphouseModel", "behind", "(I[I)I"⟩, 11), (⟨"SwaphouseModel", "at", "(II)I"⟩, 11), (⟨"SwaphouseModel", "signOf", "([II)I"⟩, 11), (⟨"SwaphouseModel", "areUnlike", "(II)Z"⟩, 11), (⟨"SwaphouseModel", "ringFrom", "([III)I"⟩, 11), (⟨"SwaphouseModel", "no", "()I"⟩, 11), (⟨"SwaphouseModel", "group", "(I)V"⟩, 11), (⟨"SwaphouseModel", "isBit", "(I)Z"⟩, 11), (⟨"SwaphouseModel", "close", "(I)V"⟩, 11), (⟨"SwaphouseModel", "goOn", "(II)V"⟩, 11), (⟨"SwaphouseModel", "sizeNow", "()I"⟩, 11), (⟨"SwaphouseModel", "from", "(I)I"⟩, 11), (⟨"SwaphouseModel", "isSuch", "(III[I)Z"⟩, 11), (⟨"SwaphouseModel", "ringsNow", "(I)Ljava/lang/String;"⟩, 11)]
theorem lw_r3 : ∀ q ∈ lw_privs_3, lw_okq q := List.forall_mem_cons.mpr ⟨lw_p32, List.forall_mem_cons.mpr ⟨lw_p33, List.forall_mem_cons.mpr ⟨lw_p34, List.forall_mem_cons.mpr ⟨lw_p35, List.forall_mem_cons.mpr ⟨lw_p36, List.forall_mem_cons.mpr ⟨lw_p37, List.forall_mem_cons.mpr ⟨lw_p38, List.forall_mem_cons.mpr ⟨lw_p39, List.forall_mem_cons.mpr ⟨lw_p40, List.forall_mem_cons.mpr ⟨lw_p41, List.forall_mem_cons.mpr ⟨lw_p42, List.forall_mem_cons.mpr ⟨lw_p43, List.forall_mem_cons.mpr ⟨lw_p44, List.forall_mem_cons.mpr ⟨lw_p45, List.forall_mem_cons.mpr ⟨lw_p46, List.forall_mem_cons.mpr ⟨lw_p47, fun _ h => absurd h List.not_mem_nil⟩⟩⟩⟩⟩⟩⟩⟩⟩⟩⟩⟩⟩⟩⟩⟩
theorem lw_p48 : lw_okq (⟨"SwaphouseModel", "longOnes", "(II)I"⟩, 11) := ⟨⟨by decide +kernel, by decide +kernel⟩, tI_5 230 rfl, tI_6 224 rfl, tI_6 225 rfl⟩
theorem lw_p49 : lw_okq (⟨"SwaphouseModel", "orderOf", "([II)I"⟩, 11) := ⟨⟨by decide +kernel, by decide +kernel⟩, tI_5 230 rfl, tI_6 237 rfl, tI_6 238 rfl⟩
theorem lw_p50 : lw_okq (⟨"SwaphouseModel", "staysNow", "(I)I"⟩, 11) := ⟨⟨by decide +kernel, by decide +kernel⟩, tI_5 230 rfl, tI_7 12 rfl, tI_7 13 rfl⟩
theorem lw_p51 : lw_okq (⟨"SwaphouseModel", "sizeOf", "(I)I"⟩, 11) := ⟨⟨by decide +kernel, by decide +kernel⟩, tI_5 230 rfl, tI_7 28 rfl, tI_7 29 rfl⟩
theorem lw_p52 : lw_okq (⟨"SwaphouseModel", "reachNow", "(III)I"⟩, 11) := ⟨⟨by decide +kernel, by decide +kernel⟩, tI_5 230 rfl, tI_7 36 rfl, tI_7 37 rfl⟩
theorem lw_p53 : lw_okq (⟨"SwaphouseModel", "isInNow", "(II)Z"⟩, 11) := ⟨⟨by decide +kernel, by decide +kernel⟩, tI_5 230 rfl, tI_7 44 rfl, tI_7 45 rfl⟩
theorem lw_p54 : lw_okq (⟨"SwaphouseModel", "comesNow", "(II)I"⟩, 11) := ⟨⟨by decide +kernel, by decide +kernel⟩, tI_5 230 rfl, tI_7 60 rfl, tI_7 61 rfl⟩
theorem lw_p55 : lw_okq (⟨"SwaphouseModel", "piecesNow", "(I)I"⟩, 11) := ⟨⟨by decide +kernel, by decide +kernel⟩, tI_5 230 rfl, tI_7 68 rfl, tI_7 69 rfl⟩
theorem lw_p56 : lw_okq (⟨"SwaphouseModel", "evenNow", "(I)I"⟩, 11) := ⟨⟨by decide +kernel, by decide +kernel⟩, tI_5 230 rfl, tI_7 80 rfl, tI_7 81 rfl⟩
theorem lw_p57 : lw_okq (⟨"SwaphouseModel", "byThoseThatStay", "(II)I"⟩, 11) := ⟨⟨by decide +kernel, by decide +kernel⟩, tI_5 230 rfl, tI_7 88 rfl, tI_7 89 rfl⟩
theorem lw_p58 : lw_okq (⟨"SwaphouseModel", "ringsOf", "([II)I"⟩, 11) := ⟨⟨by decide +kernel, by decide +kernel⟩, tI_5 230 rfl, tI_7 92 rfl, tI_7 93 rfl⟩
theorem lw_p59 : lw_okq (⟨"SwaphouseModel", "isFirst", "([III)Z"⟩, 11) := ⟨⟨by decide +kernel, by decide +kernel⟩, tI_5 230 rfl, tI_7 96 rfl, tI_7 97 rfl⟩
theorem lw_p60 : lw_okq (⟨"SwaphouseModel", "oneByOne", "(II)I"⟩, 11) := ⟨⟨by decide +kernel, by decide +kernel⟩, tI_5 230 rfl, tI_7 100 rfl, tI_7 101 rfl⟩
theorem lw_p61 : lw_okq (⟨"SwaphouseModel", "coloured", "(III)I"⟩, 11) := ⟨⟨by decide +kernel, by decide +kernel⟩, tI_5 230 rfl, tI_7 104 rfl, tI_7 105 rfl⟩
theorem lw_p62 : lw_okq (⟨"SwaphouseModel", "isPartNow", "(II)Z"⟩, 11) := ⟨⟨by decide +kernel, by decide +kernel⟩, tI_5 230 rfl, tI_7 112 rfl, tI_7 113 rfl⟩
theorem lw_p63 : lw_okq (⟨"SwaphouseModel", "part", "(III)V"⟩, 11) := ⟨⟨by decide +kernel, by decide +kernel⟩, tI_5 230 rfl, tI_7 129 rfl, tI_7 130 rfl⟩
def lw_privs_4 : List (MethodName × Nat) := [(⟨"SwaphouseModel", "longOnes", "(II)I"⟩, 11), (⟨"SwaphouseModel", "orderOf", "([II)I"⟩, 11), (⟨"SwaphouseModel", "staysNow", "(I)I"⟩, 11), (⟨"SwaphouseModel", "sizeOf", "(I)I"⟩, 11), (⟨"SwaphouseModel", "reachNow", "(III)I"⟩, 11), (⟨"SwaphouseModel", "isInNow", "(II)Z"⟩, 11), (⟨"SwaphouseModel", "comesNow", "(II)I"⟩, 11), (⟨"SwaphouseModel", "piecesNow", "(I)I"⟩, 11), (⟨"SwaphouseModel", "evenNow", "(I)I"⟩, 11), (⟨"SwaphouseModel", "byThoseThatStay", "(II)I"⟩, 11), (⟨"SwaphouseModel", "ringsOf", "([II)I"⟩, 11), (⟨"SwaphouseModel", "isFirst", "([III)Z"⟩, 11), (⟨"SwaphouseModel", "oneByOne", "(II)I"⟩, 11), (⟨"SwaphouseModel", "coloured", "(III)I"⟩, 11), (⟨"SwaphouseModel", "isPartNow", "(II)Z"⟩, 11), (⟨"SwaphouseModel", "part", "(III)V"⟩, 11)]
theorem lw_r4 : ∀ q ∈ lw_privs_4, lw_okq q := List.forall_mem_cons.mpr ⟨lw_p48, List.forall_mem_cons.mpr ⟨lw_p49, List.forall_mem_cons.mpr ⟨lw_p50, List.forall_mem_cons.mpr ⟨lw_p51, List.forall_mem_cons.mpr ⟨lw_p52, List.forall_mem_cons.mpr ⟨lw_p53, List.forall_mem_cons.mpr ⟨lw_p54, List.forall_mem_cons.mpr ⟨lw_p55, List.forall_mem_cons.mpr ⟨lw_p56, List.forall_mem_cons.mpr ⟨lw_p57, List.forall_mem_cons.mpr ⟨lw_p58, List.forall_mem_cons.mpr ⟨lw_p59, List.forall_mem_cons.mpr ⟨lw_p60, List.forall_mem_cons.mpr ⟨lw_p61, List.forall_mem_cons.mpr ⟨lw_p62, List.forall_mem_cons.mpr ⟨lw_p63, fun _ h => absurd h List.not_mem_nil⟩⟩⟩⟩⟩⟩⟩⟩⟩⟩⟩⟩⟩⟩⟩⟩
theorem lw_p64 : lw_okq (⟨"SwaphouseModel", "join", "(II)V"⟩, 11) := ⟨⟨by decide +kernel, by decide +kernel⟩, tI_5 230 rfl, tI_7 133 rfl, tI_7 134 rfl⟩
theorem lw_p65 : lw_okq (⟨"SwaphouseModel", "enoughNow", "(I)I"⟩, 11) := ⟨⟨by decide +kernel, by decide +kernel⟩, tI_5 230 rfl, tI_7 149 rfl, tI_7 150 rfl⟩
theorem lw_p66 : lw_okq (⟨"SwaphouseModel", "houseNow", "(I)I"⟩, 11) := ⟨⟨by decide +kernel, by decide +kernel⟩, tI_5 230 rfl, tI_7 157 rfl, tI_7 158 rfl⟩
theorem lw_p67 : lw_okq (⟨"SwaphouseModel", "isSoundNow", "()Z"⟩, 11) := ⟨⟨by decide +kernel, by decide +kernel⟩, tI_5 230 rfl, tI_7 169 rfl, tI_7 170 rfl⟩
def lw_privs_5 : List (MethodName × Nat) := [(⟨"SwaphouseModel", "join", "(II)V"⟩, 11), (⟨"SwaphouseModel", "enoughNow", "(I)I"⟩, 11), (⟨"SwaphouseModel", "houseNow", "(I)I"⟩, 11), (⟨"SwaphouseModel", "isSoundNow", "()Z"⟩, 11)]
theorem lw_r5 : ∀ q ∈ lw_privs_5, lw_okq q := List.forall_mem_cons.mpr ⟨lw_p64, List.forall_mem_cons.mpr ⟨lw_p65, List.forall_mem_cons.mpr ⟨lw_p66, List.forall_mem_cons.mpr ⟨lw_p67, fun _ h => absurd h List.not_mem_nil⟩⟩⟩⟩
def lw_privs : List (MethodName × Nat) := lw_privs_1 ++ (lw_privs_2 ++ (lw_privs_3 ++ (lw_privs_4 ++ (lw_privs_5))))
def lw_tbl : List Cond := k2_sels lw_privs ++ tables_1
theorem lw_privs_ok : ∀ q ∈ lw_privs, lw_okq q := by
  show ∀ q ∈ lw_privs_1 ++ (lw_privs_2 ++ (lw_privs_3 ++ (lw_privs_4 ++ (lw_privs_5)))), lw_okq q
  exact List.forall_mem_append.mpr ⟨lw_r1, List.forall_mem_append.mpr ⟨lw_r2, List.forall_mem_append.mpr ⟨lw_r3, List.forall_mem_append.mpr ⟨lw_r4, lw_r5⟩⟩⟩⟩
