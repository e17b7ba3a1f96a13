/-! contracts of the JDK's builders of texts -/
set_option maxRecDepth 100000 in
set_option maxHeartbeats 4000000 in
theorem c_J9_max_7cf53 {X : jX} (hs : X.1.stackTraces = false) {d : Nat} (hd : 0 ≤ d) {w : List jC} (a : Nat) (c : Nat) (hy0 : a < 1073741824) (hy1 : c < 1073741824) {kc ks : Nat} : jMet X mJ9_max_7cf53 d kc ks [.int (nI a), .int (nI c)] w (pI (fun v => ∃ k : Nat, v = nI k ∧ a ≤ k ∧ c ≤ k ∧ (k = a ∨ k = c)) (fun w' => w' = w)) := by
  refine jMet_ofF hs pf_J9_max_7cf53 rfl (Nat.le_of_ble_eq_true rfl) (L := [some (.int (nI a)), some (.int (nI c))]) rfl ?_
  refine J_iload_n (pc := 0) dJ9_max_7cf53_0 rfl rfl ?_
  refine J_iload_n (pc := 1) dJ9_max_7cf53_1 rfl rfl ?_
  refine J_icmp_ltN (pc := 2) (tgt := 9) dJ9_max_7cf53_2 (by decide) (by omega) (by omega) (fun ht1 => ?_) (fun hf2 => ?_)
  · refine J_iload_n (pc := 9) dJ9_max_7cf53_9 rfl rfl ?_
    exact J_iret (pc := 10) dJ9_max_7cf53_10 rfl ⟨⟨c, rfl, by omega⟩, rfl⟩
  · refine J_iload_n (pc := 5) dJ9_max_7cf53_5 rfl rfl ?_
    refine J_goto (pc := 6) (tgt := 10) dJ9_max_7cf53_6 (by decide) ?_
    exact J_iret (pc := 10) dJ9_max_7cf53_10 rfl ⟨⟨a, rfl, by omega⟩, rfl⟩
set_option maxRecDepth 100000 in
set_option maxHeartbeats 4000000 in
theorem c_J9_min_7cf53_atn {X : jX} (hs : X.1.stackTraces = false) {d : Nat} (hd : 0 ≤ d) {w : List jC} (a : Nat) (c : Nat) (hy0 : a < 1073741824) (hy1 : c < 1073741824) {kc ks : Nat} : jMet X mJ9_min_7cf53 d kc ks [.int (nI a), .int (nI c)] w (pI (fun v => ∃ k : Nat, v = nI k ∧ k ≤ a ∧ k ≤ c ∧ (k = a ∨ k = c)) (fun w' => w' = w)) := by
  refine jMet_ofF hs pf_J9_min_7cf53 rfl (Nat.le_of_ble_eq_true rfl) (L := [some (.int (nI a)), some (.int (nI c))]) rfl ?_
  refine J_iload_n (pc := 0) dJ9_min_7cf53_0 rfl rfl ?_
  refine J_iload_n (pc := 1) dJ9_min_7cf53_1 rfl rfl ?_
  refine J_icmp_gtN (pc := 2) (tgt := 9) dJ9_min_7cf53_2 (by decide) (by omega) (by omega) (fun ht1 => ?_) (fun hf2 => ?_)
  · refine J_iload_n (pc := 9) dJ9_min_7cf53_9 rfl rfl ?_
    exact J_iret (pc := 10) dJ9_min_7cf53_10 rfl ⟨⟨c, rfl, by omega⟩, rfl⟩
  · refine J_iload_n (pc := 5) dJ9_min_7cf53_5 rfl rfl ?_
    refine J_goto (pc := 6) (tgt := 10) dJ9_min_7cf53_6 (by decide) ?_
    exact J_iret (pc := 10) dJ9_min_7cf53_10 rfl ⟨⟨a, rfl, by omega⟩, rfl⟩
set_option maxRecDepth 100000 in
set_option maxHeartbeats 4000000 in
theorem c_J8_newLength_cabcc {X : jX} (hs : X.1.stackTraces = false) {d : Nat} (hd : 1 ≤ d) {w : List jC} (a : Nat) (c : Nat) (e : Nat) (hy0 : 16 ≤ a) (hy1 : a ≤ 270) (hy2 : c ≤ 270) (hy3 : e ≤ 540) {kc ks : Nat} : jMet X mJ8_newLength_cabcc d kc ks [.int (nI a), .int (nI c), .int (nI e)] w (pI (fun v => ∃ k : Nat, v = nI k ∧ a + c ≤ k ∧ a + e ≤ k ∧ (k = a + c ∨ k = a + e)) (fun w' => w' = w)) := by
  refine jMet_of hs (by decide +kernel) (Nat.le_of_ble_eq_true rfl) (L := [some (.int (nI a)), some (.int (nI c)), some (.int (nI e)), none]) rfl ?_
  have hdm : 0 ≤ d - 1 := by omega
  have hdp : d - 1 + 1 ≤ d := by omega
  refine J_iload_n (pc := 0) dJ8_newLength_cabcc_0 rfl rfl ?_
  refine J_iload_n (pc := 1) dJ8_newLength_cabcc_1 rfl rfl ?_
  refine J_iload_n (pc := 2) dJ8_newLength_cabcc_2 rfl rfl ?_
  refine J_callS0 (pc := 3) (M := mJ8_newLength_cabcc) (as := [.int (nI c), .int (nI e)]) dJ8_newLength_cabcc_3 fw_J9_max_7cf53 fl_J8_194 fs_J9_max_7cf53 rfl (c_J9_max_7cf53 hs (d := d - 1) (Nat.le_trans (by decide) hdm) (w := w) c e (by first | assumption | omega) (by first | assumption | omega) (kc := 0) (ks := 0)) hdp (st := [.int (nI a)]) (Nat.le_of_ble_eq_true rfl) rfl (kr_P fun v1 hv1 => ?_) kx_I
  obtain ⟨k1, rfl, hk1⟩ := hv1
  refine J_iaddN (pc := 6) dJ8_newLength_cabcc_6 ?_
  refine J_istore_n (pc := 7) dJ8_newLength_cabcc_7 rfl (by decide) rfl ?_
  show J X mJ8_newLength_cabcc d kc ks 8 [some (.int (nI a)), some (.int (nI c)), some (.int (nI e)), some (.int (nI (a + k1)))] [] w _
  refine J_iconst (pc := 8) (v := nI 0) dJ8_newLength_cabcc_8 (by decide) ?_
  refine J_iload_n (pc := 9) dJ8_newLength_cabcc_9 rfl rfl ?_
  refine J_icmp_geN (pc := 10) (tgt := 21) dJ8_newLength_cabcc_10 (by decide) (by omega) (by omega) (fun ht2 => ?_) (fun hf3 => ?_)
  · exact absurd ht2 (by omega)
  · refine J_iload_n (pc := 13) dJ8_newLength_cabcc_13 rfl rfl ?_
    refine J_ldc (pc := 14) (v := nI 2147483639) dJ8_newLength_cabcc_14 (by have := fk_J8_200; exact this) ?_
    refine J_icmp_gtN (pc := 16) (tgt := 21) dJ8_newLength_cabcc_16 (by decide) (by omega) (by omega) (fun ht4 => ?_) (fun hf5 => ?_)
    · exact absurd ht4 (by omega)
    · refine J_iload_n (pc := 19) dJ8_newLength_cabcc_19 rfl rfl ?_
      exact J_iret (pc := 20) dJ8_newLength_cabcc_20 rfl ⟨⟨a + k1, rfl, by omega⟩, rfl⟩
set_option maxRecDepth 100000 in
set_option maxHeartbeats 4000000 in
theorem c_J5_isLatin1_aae02 {X : jX} (hs : X.1.stackTraces = false) {d : Nat} (hd : 0 ≤ d) {a v : Nat} {ml : Int32} {c : Nat} {bs : List Int32} {w : List jC} (hB : SBp a v ml c bs w) {kc ks : Nat} : jMet X mJ5_isLatin1_aae02 d kc ks [.ref a] w (pI (fun v => v = nI 1) (fun w' => w' = w)) := by
  refine jMet_of hs (by decide +kernel) (Nat.le_of_ble_eq_true rfl) (L := [some (.ref a)]) rfl ?_
  obtain ⟨h_a, h_v, hfit, hB1, hB2, hB3⟩ := hB
  have hav : a ≠ v := fun e => by subst e; rw [h_a] at h_v; cases h_v
  have hga := gl h_a
  have hgv := gl h_v
  have hF : FS a v w w := FS.rf
  refine J_gets (pc := 0) (M := mJ5_isLatin1_aae02) (v := .int 1) dJ5_isLatin1_aae02_0 (by simp [jStat]) ff_J5_18 ?_
  show J X mJ5_isLatin1_aae02 d kc ks 3 [some (.ref a)] [.int (nI 1)] w _
  refine J_if_eqN (pc := 3) (tgt := 17) dJ5_isLatin1_aae02_3 (by decide) (by decide) (fun h => absurd h (by decide)) (fun _ => ?_)
  refine J_aload_n (pc := 6) dJ5_isLatin1_aae02_6 rfl rfl rfl ?_
  refine J_get (pc := 7) (k := 1) dJ5_isLatin1_aae02_7 kC1 (by decide) ff_J5_22 h_a rfl ?_
  show J X mJ5_isLatin1_aae02 d kc ks 10 [some (.ref a)] [.int (nI 0)] w _
  refine J_if_neN (pc := 10) (tgt := 17) dJ5_isLatin1_aae02_10 (by decide) (by decide) (fun h => absurd h (by decide)) (fun _ => ?_)
  refine J_iconst (pc := 13) (v := nI 1) dJ5_isLatin1_aae02_13 (by decide) ?_
  refine J_goto (pc := 14) (tgt := 18) dJ5_isLatin1_aae02_14 (by decide) ?_
  exact J_zret (pc := 18) dJ5_isLatin1_aae02_18 rfl (nar_b (by first | decide | omega)) ⟨rfl, rfl⟩
set_option maxRecDepth 100000 in
set_option maxHeartbeats 4000000 in
theorem c_J5_length_8abf5 {X : jX} (hs : X.1.stackTraces = false) {d : Nat} (hd : 0 ≤ d) {a v : Nat} {ml : Int32} {c : Nat} {bs : List Int32} {w : List jC} (hB : SBp a v ml c bs w) {kc ks : Nat} : jMet X mJ5_length_8abf5 d kc ks [.ref a] w (pI (fun v => v = nI c) (fun w' => w' = w)) := by
  refine jMet_of hs (by decide +kernel) (Nat.le_of_ble_eq_true rfl) (L := [some (.ref a)]) rfl ?_
  obtain ⟨h_a, h_v, hfit, hB1, hB2, hB3⟩ := hB
  have hav : a ≠ v := fun e => by subst e; rw [h_a] at h_v; cases h_v
  have hga := gl h_a
  have hgv := gl h_v
  have hF : FS a v w w := FS.rf
  refine J_aload_n (pc := 0) dJ5_length_8abf5_0 rfl rfl rfl ?_
  refine J_get (pc := 1) (k := 3) dJ5_length_8abf5_1 kC1 (by decide) ff_J5_79 h_a rfl ?_
  exact J_iret (pc := 4) dJ5_length_8abf5_4 rfl ⟨rfl, rfl⟩
set_option maxRecDepth 100000 in
set_option maxHeartbeats 4000000 in
theorem c_J4_length_8abf5 {X : jX} (hs : X.1.stackTraces = false) {d : Nat} (hd : 1 ≤ d) {a v : Nat} {ml : Int32} {c : Nat} {bs : List Int32} {w : List jC} (hB : SBp a v ml c bs w) {kc ks : Nat} : jMet X mJ4_length_8abf5 d kc ks [.ref a] w (pI (fun v => v = nI c) (fun w' => w' = w)) := by
  refine jMet_of hs (by decide +kernel) (Nat.le_of_ble_eq_true rfl) (L := [some (.ref a)]) rfl ?_
  have hdm : 0 ≤ d - 1 := by omega
  have hdp : d - 1 + 1 ≤ d := by omega
  obtain ⟨h_a, h_v, hfit, hB1, hB2, hB3⟩ := hB
  have hav : a ≠ v := fun e => by subst e; rw [h_a] at h_v; cases h_v
  have hga := gl h_a
  have hgv := gl h_v
  have hF : FS a v w w := FS.rf
  refine J_aload_n (pc := 0) dJ4_length_8abf5_0 rfl rfl rfl ?_
  refine J_callSU (pc := 1) (M := mJ4_length_8abf5) (as := []) (cj := 1) dJ4_length_8abf5_1 fw_J5_length_8abf5 fl_J4_343 fq_J5_J5_length_8abf5 fsup_J4 fm_J5_length_8abf5 (by decide) ⟨rfl, rfl⟩ h_a (by decide) rfl rfl (c_J5_length_8abf5 hs (d := d - 1) (by omega) (a := a) (v := v) (c := c) (bs := bs) (w := w) ⟨h_a, h_v, hfit, (by omega), (by omega), (by omega)⟩  (kc := 0) (ks := 0)) (by omega) (by omega) (by omega) (st := []) (Nat.le_of_ble_eq_true rfl) rfl (kr_P fun v1 hv1 => ?_) kx_I
  subst hv1
  exact J_iret (pc := 4) dJ4_length_8abf5_4 rfl ⟨rfl, rfl⟩
set_option maxRecDepth 100000 in
set_option maxHeartbeats 4000000 in
theorem c_J5_getValue_6d5f1 {X : jX} (hs : X.1.stackTraces = false) {d : Nat} (hd : 0 ≤ d) {a v : Nat} {ml : Int32} {c : Nat} {bs : List Int32} {w : List jC} (hB : SBp a v ml c bs w) {kc ks : Nat} : jMet X mJ5_getValue_6d5f1 d kc ks [.ref a] w (pA (fun r w' => r = v ∧ w' = w)) := by
  refine jMet_of hs (by decide +kernel) (Nat.le_of_ble_eq_true rfl) (L := [some (.ref a)]) rfl ?_
  obtain ⟨h_a, h_v, hfit, hB1, hB2, hB3⟩ := hB
  have hav : a ≠ v := fun e => by subst e; rw [h_a] at h_v; cases h_v
  have hga := gl h_a
  have hgv := gl h_v
  have hF : FS a v w w := FS.rf
  refine J_aload_n (pc := 0) dJ5_getValue_6d5f1_0 rfl rfl rfl ?_
  refine J_get (pc := 1) (k := 0) dJ5_getValue_6d5f1_1 kC1 (by decide) ff_J5_15 h_a rfl ?_
  exact J_aret (pc := 4) dJ5_getValue_6d5f1_4 rfl rfl rfl ⟨rfl, rfl⟩
set_option maxRecDepth 100000 in
set_option maxHeartbeats 4000000 in
theorem c_J5_newCapacity_0f7a4 {X : jX} (hs : X.1.stackTraces = false) {d : Nat} (hd : 2 ≤ d) {a v : Nat} {ml : Int32} {c : Nat} {bs : List Int32} {w : List jC} (hB : SBp a v ml c bs w) (m : Nat) (hy0 : bs.length < m) (hy1 : m ≤ 134) {kc ks : Nat} : jMet X mJ5_newCapacity_0f7a4 d kc ks [.ref a, .int (nI m)] w (pI (fun v => ∃ k : Nat, v = nI k ∧ m ≤ k ∧ 2 * bs.length + 2 ≤ k ∧ (k = m ∨ k = 2 * bs.length + 2)) (fun w' => w' = w)) := by
  refine jMet_of hs (by decide +kernel) (Nat.le_of_ble_eq_true rfl) (L := [some (.ref a), some (.int (nI m)), none, none, none, none]) rfl ?_
  have hdm : 1 ≤ d - 1 := by omega
  have hdp : d - 1 + 1 ≤ d := by omega
  obtain ⟨h_a, h_v, hfit, hB1, hB2, hB3⟩ := hB
  have hav : a ≠ v := fun e => by subst e; rw [h_a] at h_v; cases h_v
  have hga := gl h_a
  have hgv := gl h_v
  have hF : FS a v w w := FS.rf
  refine J_aload_n (pc := 0) dJ5_newCapacity_0f7a4_0 rfl rfl rfl ?_
  refine J_get (pc := 1) (k := 0) dJ5_newCapacity_0f7a4_1 kC1 (by decide) ff_J5_15 h_a rfl ?_
  refine J_alen (pc := 4) (n := nI bs.length) dJ5_newCapacity_0f7a4_4 h_v (by decide) rfl ?_
  refine J_istore_n (pc := 5) dJ5_newCapacity_0f7a4_5 rfl (by decide) rfl ?_
  show J X mJ5_newCapacity_0f7a4 d kc ks 6 [some (.ref a), some (.int (nI m)), some (.int (nI bs.length)), none, none, none] [] w _
  refine J_iload_n (pc := 6) dJ5_newCapacity_0f7a4_6 rfl rfl ?_
  refine J_aload_n (pc := 7) dJ5_newCapacity_0f7a4_7 rfl rfl rfl ?_
  refine J_get (pc := 8) (k := 1) dJ5_newCapacity_0f7a4_8 kC1 (by decide) ff_J5_22 h_a rfl ?_
  show J X mJ5_newCapacity_0f7a4 d kc ks 11 [some (.ref a), some (.int (nI m)), some (.int (nI bs.length)), none, none, none] [.int (nI 0), .int (nI m)] w _
  refine J_ishl0 (pc := 11) dJ5_newCapacity_0f7a4_11 (by omega) ?_
  refine J_istore_n (pc := 12) dJ5_newCapacity_0f7a4_12 rfl (by decide) rfl ?_
  show J X mJ5_newCapacity_0f7a4 d kc ks 13 [some (.ref a), some (.int (nI m)), some (.int (nI bs.length)), some (.int (nI m)), none, none] [] w _
  refine J_iload_n (pc := 13) dJ5_newCapacity_0f7a4_13 rfl rfl ?_
  refine J_iload_n (pc := 14) dJ5_newCapacity_0f7a4_14 rfl rfl ?_
  refine J_isubN (pc := 15) dJ5_newCapacity_0f7a4_15 (by omega) ?_
  refine J_istore (pc := 16) dJ5_newCapacity_0f7a4_16 (by decide) rfl ?_
  show J X mJ5_newCapacity_0f7a4 d kc ks 18 [some (.ref a), some (.int (nI m)), some (.int (nI bs.length)), some (.int (nI m)), some (.int (nI (m - bs.length))), none] [] w _
  refine J_iload_n (pc := 18) dJ5_newCapacity_0f7a4_18 rfl rfl ?_
  refine J_iload (pc := 19) dJ5_newCapacity_0f7a4_19 rfl ?_
  refine J_iload_n (pc := 21) dJ5_newCapacity_0f7a4_21 rfl rfl ?_
  refine J_iconst (pc := 22) (v := nI 2) dJ5_newCapacity_0f7a4_22 (by decide) ?_
  refine J_aload_n (pc := 23) dJ5_newCapacity_0f7a4_23 rfl rfl rfl ?_
  refine J_get (pc := 24) (k := 1) dJ5_newCapacity_0f7a4_24 kC1 (by decide) ff_J5_22 h_a rfl ?_
  show J X mJ5_newCapacity_0f7a4 d kc ks 27 [some (.ref a), some (.int (nI m)), some (.int (nI bs.length)), some (.int (nI m)), some (.int (nI (m - bs.length))), none] [.int (nI 0), .int (nI 2), .int (nI bs.length), .int (nI (m - bs.length)), .int (nI bs.length)] w _
  refine J_ishl0 (pc := 27) dJ5_newCapacity_0f7a4_27 (by omega) ?_
  refine J_iaddN (pc := 28) dJ5_newCapacity_0f7a4_28 ?_
  refine J_callS0 (pc := 29) (M := mJ5_newCapacity_0f7a4) (as := [.int (nI bs.length), .int (nI (m - bs.length)), .int (nI (bs.length + 2))]) dJ5_newCapacity_0f7a4_29 fw_J8_newLength_cabcc fl_J5_114 fs_J8_newLength_cabcc rfl (c_J8_newLength_cabcc hs (d := d - 1) (Nat.le_trans (by decide) hdm) (w := w) bs.length (m - bs.length) (bs.length + 2) (by first | assumption | omega) (by first | assumption | omega) (by first | assumption | omega) (by first | assumption | omega) (kc := 0) (ks := 0)) hdp (st := []) (Nat.le_of_ble_eq_true rfl) rfl (kr_P fun v1 hv1 => ?_) kx_I
  obtain ⟨k1, rfl, hk1⟩ := hv1
  refine J_istore (pc := 32) dJ5_newCapacity_0f7a4_32 (by decide) rfl ?_
  show J X mJ5_newCapacity_0f7a4 d kc ks 34 [some (.ref a), some (.int (nI m)), some (.int (nI bs.length)), some (.int (nI m)), some (.int (nI (m - bs.length))), some (.int (nI k1))] [] w _
  refine J_iload (pc := 34) dJ5_newCapacity_0f7a4_34 rfl ?_
  refine J_ldc (pc := 36) (v := nI 2147483647) dJ5_newCapacity_0f7a4_36 (by have := fk_J5_39; exact this) ?_
  refine J_icmp_neN (pc := 38) (tgt := 51) dJ5_newCapacity_0f7a4_38 (by decide) (by omega) (by omega) (fun ht2 => ?_) (fun hf3 => ?_)
  · refine J_iload (pc := 51) dJ5_newCapacity_0f7a4_51 rfl ?_
    refine J_aload_n (pc := 53) dJ5_newCapacity_0f7a4_53 rfl rfl rfl ?_
    refine J_get (pc := 54) (k := 1) dJ5_newCapacity_0f7a4_54 kC1 (by decide) ff_J5_22 h_a rfl ?_
    show J X mJ5_newCapacity_0f7a4 d kc ks 57 [some (.ref a), some (.int (nI m)), some (.int (nI bs.length)), some (.int (nI m)), some (.int (nI (m - bs.length))), some (.int (nI k1))] [.int (nI 0), .int (nI k1)] w _
    refine J_ishr0 (pc := 57) dJ5_newCapacity_0f7a4_57 (by omega) ?_
    exact J_iret (pc := 58) dJ5_newCapacity_0f7a4_58 rfl ⟨⟨k1, rfl, by omega⟩, rfl⟩
  · exact absurd hf3 (by omega)
set_option maxRecDepth 100000 in
set_option maxHeartbeats 4000000 in
theorem c_J7_copyOf_9075b {X : jX} (hs : X.1.stackTraces = false) {d : Nat} (hd : 2 ≤ d) {w : List jC} (p : Nat) (N : Nat) (bs : List Int32) (hy0 : w[p]? = some (.inl (1, bs))) (hy1 : jFitB bs) (hy2 : bs.length < N) (hy3 : N ≤ 270) {kc ks : Nat} (hkc : 1 ≤ kc) (hks : N ≤ ks) : jMet X mJ7_copyOf_9075b d kc ks [.ref p, .int (nI N)] w (pA (fun r w' => ∃ bs' : List Int32, r = w.length ∧ w'.length = w.length + 1 ∧ (∀ i, i < w.length → w'[i]? = w[i]?) ∧ w'[r]? = some (.inl (1, bs')) ∧ bs'.length = N ∧ jFitB bs')) := by
  refine jMet_of hs (by decide +kernel) (Nat.le_of_ble_eq_true rfl) (L := [some (.ref p), some (.int (nI N)), none]) rfl ?_
  have hdm : 1 ≤ d - 1 := by omega
  have hdp : d - 1 + 1 ≤ d := by omega
  have hF : FS w.length w.length w w := FS.rf
  have hgp := gl hy0
  refine J_iload_n (pc := 0) dJ7_copyOf_9075b_0 rfl rfl ?_
  refine J_aload_n (pc := 1) dJ7_copyOf_9075b_1 rfl rfl rfl ?_
  refine J_alen (pc := 2) (n := nI bs.length) dJ7_copyOf_9075b_2 hy0 (by decide) rfl ?_
  refine J_icmp_neN (pc := 3) (tgt := 14) dJ7_copyOf_9075b_3 (by decide) (by omega) (by omega) (fun ht1 => ?_) (fun hf2 => ?_)
  · refine J_iload_n (pc := 14) dJ7_copyOf_9075b_14 rfl rfl ?_
    have qgp3 := gl hy0
    refine J_newB (pc := 15) (M := mJ7_copyOf_9075b) (N := N) dJ7_copyOf_9075b_15 rfl (by omega) (by omega) (by omega) (fun a15 w3 ys3 ha3 hln3 hc3 hyl3 hyf3 hne3 => ?_)
    have hlp_3 := (hne3 p (by omega)).trans hy0
    have qF3 := hF.1
    have hF3 := hF.pu ha3 hln3 hne3
    refine J_astore_n (pc := 17) dJ7_copyOf_9075b_17 rfl (by decide) rfl rfl ?_
    show J X mJ7_copyOf_9075b d (kc - 1) (ks - N) 18 [some (.ref p), some (.int (nI N)), some (.ref a15)] [] w3 _
    refine J_aload_n (pc := 18) dJ7_copyOf_9075b_18 rfl rfl rfl ?_
    refine J_iconst (pc := 19) (v := nI 0) dJ7_copyOf_9075b_19 (by decide) ?_
    refine J_aload_n (pc := 20) dJ7_copyOf_9075b_20 rfl rfl rfl ?_
    refine J_iconst (pc := 21) (v := nI 0) dJ7_copyOf_9075b_21 (by decide) ?_
    refine J_aload_n (pc := 22) dJ7_copyOf_9075b_22 rfl rfl rfl ?_
    refine J_alen (pc := 23) (n := nI bs.length) dJ7_copyOf_9075b_23 hlp_3 (by decide) rfl ?_
    refine J_iload_n (pc := 24) dJ7_copyOf_9075b_24 rfl rfl ?_
    refine J_callS0 (pc := 25) (M := mJ7_copyOf_9075b) (as := [.int (nI bs.length), .int (nI N)]) dJ7_copyOf_9075b_25 fw_J9_min_7cf53 fl_J7_304 fs_J9_min_7cf53 rfl (c_J9_min_7cf53_atn hs (d := d - 1) (Nat.le_trans (by decide) hdm) (w := w3) bs.length N (by first | assumption | omega) (by first | assumption | omega) (kc := 0) (ks := 0)) hdp (st := [.int (nI 0), .ref a15, .int (nI 0), .ref p]) (Nat.le_of_ble_eq_true rfl) rfl (kr_P fun v4 hv4 => ?_) kx_I
    obtain ⟨k4, rfl, hk4⟩ := hv4
    refine J_copyS (pc := 28) dJ7_copyOf_9075b_28 fl_J7_150 fnat_arraycopy fs_arraycopy fz_J10 hlp_3 hy1 hc3 hyf3 (by omega) (by omega) (by omega) (by omega) (by omega) (by omega) (st := []) (Nat.le_of_ble_eq_true rfl) (fun w5 ys5 hln5 hc5 hyl5 hyf5 hne5 => ?_)
    have hlp_5 := (hne5 p (by omega)).trans hlp_3
    have hF5 := hF3.st hln5 hne5 (by omega)
    refine J_aload_n (pc := 31) dJ7_copyOf_9075b_31 rfl rfl rfl ?_
    exact J_aret (pc := 32) dJ7_copyOf_9075b_32 rfl rfl rfl ⟨ys5, by omega, by omega, fun i hi => hF5.2 i (by omega) (by omega) hi, hc5, by omega, hyf5⟩
  · exact absurd hf2 (by omega)
set_option maxRecDepth 100000 in
set_option maxHeartbeats 4000000 in
theorem c_J5_ensureCapacityInternal_d00df {X : jX} (hs : X.1.stackTraces = false) {d : Nat} (hd : 3 ≤ d) {a v : Nat} {ml : Int32} {c : Nat} {bs : List Int32} {w : List jC} (hB : SBp a v ml c bs w) (m : Nat) (hy0 : m ≤ 134) {kc ks : Nat} (hkc : (gL m bs.length - bs.length) / 18 ≤ kc) (hks : 2 * (gL m bs.length - bs.length) ≤ ks) : jMet X mJ5_ensureCapacityInternal_d00df d kc ks [.ref a, .int (nI m)] w (pV (fun w' => ∃ (v' : Nat) (bs' : List Int32), SBp a v' ml (c) bs' w' ∧ FS a v w w' ∧ (v' = v ∨ w.length ≤ v') ∧ bs'.length = gL m bs.length)) := by
  refine jMet_of hs (by decide +kernel) (Nat.le_of_ble_eq_true rfl) (L := [some (.ref a), some (.int (nI m)), none]) rfl ?_
  have hdm : 2 ≤ d - 1 := by omega
  have hdp : d - 1 + 1 ≤ d := by omega
  obtain ⟨h_a, h_v, hfit, hB1, hB2, hB3⟩ := hB
  have hav : a ≠ v := fun e => by subst e; rw [h_a] at h_v; cases h_v
  have hga := gl h_a
  have hgv := gl h_v
  have hF : FS a v w w := FS.rf
  have hgd := gL_d m bs.length
  refine J_aload_n (pc := 0) dJ5_ensureCapacityInternal_d00df_0 rfl rfl rfl ?_
  refine J_get (pc := 1) (k := 0) dJ5_ensureCapacityInternal_d00df_1 kC1 (by decide) ff_J5_15 h_a rfl ?_
  refine J_alen (pc := 4) (n := nI bs.length) dJ5_ensureCapacityInternal_d00df_4 h_v (by decide) rfl ?_
  refine J_aload_n (pc := 5) dJ5_ensureCapacityInternal_d00df_5 rfl rfl rfl ?_
  refine J_get (pc := 6) (k := 1) dJ5_ensureCapacityInternal_d00df_6 kC1 (by decide) ff_J5_22 h_a rfl ?_
  show J X mJ5_ensureCapacityInternal_d00df d kc ks 9 [some (.ref a), some (.int (nI m)), none] [.int (nI 0), .int (nI bs.length)] w _
  refine J_ishr0 (pc := 9) dJ5_ensureCapacityInternal_d00df_9 (by omega) ?_
  refine J_istore_n (pc := 10) dJ5_ensureCapacityInternal_d00df_10 rfl (by decide) rfl ?_
  show J X mJ5_ensureCapacityInternal_d00df d kc ks 11 [some (.ref a), some (.int (nI m)), some (.int (nI bs.length))] [] w _
  refine J_iload_n (pc := 11) dJ5_ensureCapacityInternal_d00df_11 rfl rfl ?_
  refine J_iload_n (pc := 12) dJ5_ensureCapacityInternal_d00df_12 rfl rfl ?_
  refine J_subIfle (pc := 13) (tgt := 38) dJ5_ensureCapacityInternal_d00df_13 dJ5_ensureCapacityInternal_d00df_14 (by decide) (by omega) (by omega) (fun ht1 => ?_) (fun hf2 => ?_)
  · exact J_vret (pc := 38) dJ5_ensureCapacityInternal_d00df_38 rfl (⟨v, bs, ⟨h_a, h_v, hfit, (by omega), (by omega), (by omega)⟩, hF, (by omega), (by omega)⟩)
  · refine J_aload_n (pc := 17) dJ5_ensureCapacityInternal_d00df_17 rfl rfl rfl ?_
    refine J_aload_n (pc := 18) dJ5_ensureCapacityInternal_d00df_18 rfl rfl rfl ?_
    refine J_get (pc := 19) (k := 0) dJ5_ensureCapacityInternal_d00df_19 kC1 (by decide) ff_J5_15 h_a rfl ?_
    refine J_aload_n (pc := 22) dJ5_ensureCapacityInternal_d00df_22 rfl rfl rfl ?_
    refine J_iload_n (pc := 23) dJ5_ensureCapacityInternal_d00df_23 rfl rfl ?_
    refine J_callP (pc := 24) (M := mJ5_ensureCapacityInternal_d00df) (as := [.int (nI m)]) (q := (RJ4, TJ4, 4)) dJ5_ensureCapacityInternal_d00df_24 fw_J5_newCapacity_0f7a4 fl_J5_104 fq_J5_J5_newCapacity_0f7a4 fm_J5_newCapacity_0f7a4 fp_J5_newCap fe_J4_J5_isLatin1_aae02 rfl h_a (by decide) rfl rfl (c_J5_newCapacity_0f7a4 hs (d := d - 1) (by omega) (a := a) (v := v) (c := c) (bs := bs) (w := w) ⟨h_a, h_v, hfit, (by omega), (by omega), (by omega)⟩ m (by first | assumption | omega) (by first | assumption | omega) (kc := 0) (ks := 0)) (by omega) (by omega) (by omega) (st := [.ref v, .ref a]) (Nat.le_of_ble_eq_true rfl) rfl (kr_P fun v3 hv3 => ?_) kx_I
    obtain ⟨k3, rfl, hk3⟩ := hv3
    refine J_aload_n (pc := 27) dJ5_ensureCapacityInternal_d00df_27 rfl rfl rfl ?_
    refine J_get (pc := 28) (k := 1) dJ5_ensureCapacityInternal_d00df_28 kC1 (by decide) ff_J5_22 h_a rfl ?_
    show J X mJ5_ensureCapacityInternal_d00df d (kc - 0) (ks - 0) 31 [some (.ref a), some (.int (nI m)), some (.int (nI bs.length))] [.int (nI 0), .int (nI k3), .ref v, .ref a] w _
    refine J_ishl0 (pc := 31) dJ5_ensureCapacityInternal_d00df_31 (by omega) ?_
    refine J_callS (pc := 32) (M := mJ5_ensureCapacityInternal_d00df) (as := [.ref v, .int (nI k3)]) dJ5_ensureCapacityInternal_d00df_32 fw_J7_copyOf_9075b fl_J5_108 fs_J7_copyOf_9075b rfl (c_J7_copyOf_9075b hs (d := d - 1) (by omega) (w := w) v k3 _ (by first | assumption | exact h_v) (by first | assumption | omega) (by first | assumption | omega) (by first | assumption | omega) (kc := 1) (ks := k3) (Nat.le_refl _) (Nat.le_refl _)) (by omega) (by omega) (by omega) (st := [.ref a]) (Nat.le_of_ble_eq_true rfl) rfl (kr_A fun r4 w4 hw4 => ?_) kx_A
    obtain ⟨ys4, hra4, hln4, hne4, hcn4, hyl4, hyf4⟩ := hw4
    have hgga4 := gl h_a
    have hggv4 := gl h_v
    have hoa_4 := (hne4 a (by omega)).trans h_a
    have hlv_4 := (hne4 v (by omega)).trans h_v
    have hFq4 := hF.1
    have hF4 := hF.pu hra4 (by omega) (fun c hc => hne4 c (by omega))
    refine J_putW (pc := 35) (k := 0) dJ5_ensureCapacityInternal_d00df_35 kC1 (by decide) ff_J5_15 (Or.inl rfl) rfl hoa_4 (Nat.le_of_ble_eq_true rfl) (fun w5 hln5 hw5 hne5 => ?_)
    have hoa_5 : w5[a]? = some (.inr (1, [.ref r4, .int (nI 0), .int ml, .int (nI c)])) := hw5
    have hlv_5 := (hne5 v (by omega)).trans hlv_4
    have hlr4_5 := (hne5 r4 (by omega)).trans hcn4
    have hF5 := hF4.st hln5 hne5 (by omega)
    exact J_vret (pc := 38) dJ5_ensureCapacityInternal_d00df_38 rfl (⟨r4, ys4, ⟨hoa_5, hlr4_5, hyf4, (by omega), (by omega), (by omega)⟩, hF5, (by omega), (by omega)⟩)
set_option maxRecDepth 100000 in
set_option maxHeartbeats 4000000 in
theorem c_J1_canEncode_fc78d {X : jX} (hs : X.1.stackTraces = false) {d : Nat} (hd : 0 ≤ d) {w : List jC} (a : Nat) (hy0 : a ≤ 255) {kc ks : Nat} : jMet X mJ1_canEncode_fc78d d kc ks [.int (nI a)] w (pI (fun v => v = nI 1) (fun w' => w' = w)) := by
  refine jMet_of hs (by decide +kernel) (Nat.le_of_ble_eq_true rfl) (L := [some (.int (nI a))]) rfl ?_
  refine J_iload_n (pc := 0) dJ1_canEncode_fc78d_0 rfl rfl ?_
  refine J_sipush (pc := 1) (v := nI 255) dJ1_canEncode_fc78d_1 (by decide) ?_
  refine J_icmp_gtN (pc := 4) (tgt := 11) dJ1_canEncode_fc78d_4 (by decide) (by omega) (by omega) (fun ht1 => ?_) (fun hf2 => ?_)
  · exact absurd ht1 (by omega)
  · refine J_iconst (pc := 7) (v := nI 1) dJ1_canEncode_fc78d_7 (by decide) ?_
    refine J_goto (pc := 8) (tgt := 12) dJ1_canEncode_fc78d_8 (by decide) ?_
    exact J_zret (pc := 12) dJ1_canEncode_fc78d_12 rfl (nar_b (by first | decide | omega)) ⟨rfl, rfl⟩
set_option maxRecDepth 100000 in
set_option maxHeartbeats 4000000 in
theorem c_J5_append_3fe6f {X : jX} (hs : X.1.stackTraces = false) {d : Nat} (hd : 4 ≤ d) {a v : Nat} {ml : Int32} {c : Nat} {bs : List Int32} {w : List jC} (hB : SBp a v ml c bs w) (x : Nat) (hy0 : x ≤ 127) (hy1 : c ≤ 128) {kc ks : Nat} (hkc : (gL (c + 1) bs.length - bs.length) / 18 ≤ kc) (hks : 2 * (gL (c + 1) bs.length - bs.length) ≤ ks) : jMet X mJ5_append_3fe6f d kc ks [.ref a, .int (nI x)] w (pA (fun r w' => r = a ∧ ∃ (v' : Nat) (bs' : List Int32), SBp a v' ml (c + 1) bs' w' ∧ FS a v w w' ∧ (v' = v ∨ w.length ≤ v') ∧ bs'.length = gL (c + 1) bs.length)) := by
  refine jMet_of hs (by decide +kernel) (Nat.le_of_ble_eq_true rfl) (L := [some (.ref a), some (.int (nI x))]) rfl ?_
  have hdm : 3 ≤ d - 1 := by omega
  have hdp : d - 1 + 1 ≤ d := by omega
  obtain ⟨h_a, h_v, hfit, hB1, hB2, hB3⟩ := hB
  have hav : a ≠ v := fun e => by subst e; rw [h_a] at h_v; cases h_v
  have hga := gl h_a
  have hgv := gl h_v
  have hF : FS a v w w := FS.rf
  have hgd := gL_d (c + 1) bs.length
  refine J_aload_n (pc := 0) dJ5_append_3fe6f_0 rfl rfl rfl ?_
  refine J_aload_n (pc := 1) dJ5_append_3fe6f_1 rfl rfl rfl ?_
  refine J_get (pc := 2) (k := 3) dJ5_append_3fe6f_2 kC1 (by decide) ff_J5_79 h_a rfl ?_
  refine J_iconst (pc := 5) (v := nI 1) dJ5_append_3fe6f_5 (by decide) ?_
  refine J_iaddN (pc := 6) dJ5_append_3fe6f_6 ?_
  refine J_callP (pc := 7) (M := mJ5_append_3fe6f) (as := [.int (nI (c + 1))]) (q := (RJ4, TJ4, 4)) dJ5_append_3fe6f_7 fw_J5_ensureCapacityInternal_d00df fl_J5_100 fq_J5_J5_ensureCapacityInternal_d00df fm_J5_ensureCapacityInternal_d00df fp_J5_ensure fe_J4_J5_isLatin1_aae02 rfl h_a (by decide) rfl rfl (c_J5_ensureCapacityInternal_d00df hs (d := d - 1) (by omega) (a := a) (v := v) (c := c) (bs := bs) (w := w) ⟨h_a, h_v, hfit, (by omega), (by omega), (by omega)⟩ (c + 1) (by first | assumption | omega) (kc := ((gL (c + 1) bs.length - bs.length) / 18)) (ks := (2 * (gL (c + 1) bs.length - bs.length))) (Nat.le_refl _) (Nat.le_refl _)) (by omega) (by omega) (by omega) (st := []) (Nat.le_of_ble_eq_true rfl) rfl (kr_V fun w1 hw1 => ?_) kx_V
  obtain ⟨v1', ys1, ⟨h_a1, h_v1, hfit1, hB11, hB21, hB31⟩, hFc1, hvv1, hp1_0⟩ := hw1
  have hav1 : a ≠ v1' := fun e => by rw [e] at h_a1; rw [h_a1] at h_v1; cases h_v1
  have hgl1 := hFc1.1
  have hgf2 := gL_d (c + 1) bs.length
  have hF1 := hF.tr hFc1 (by omega)
  refine J_aload_n (pc := 10) dJ5_append_3fe6f_10 rfl rfl rfl ?_
  refine J_callU (pc := 11) (M := mJ5_append_3fe6f) (as := []) (x := yJ5_isLatin1_aae02) (owner := RJ5) (q := (RJ4, TJ4, 4)) dJ5_append_3fe6f_11 fw_J5_isLatin1_aae02 fl_J5_83 fq_J5_J5_isLatin1_aae02 fm_J5_isLatin1_aae02 fe_J4_J5_isLatin1_aae02 rfl h_a1 (by decide) rfl rfl (c_J5_isLatin1_aae02 hs (d := d - 1) (by omega) (a := a) (v := v1') (c := c) (bs := ys1) (w := w1) ⟨h_a1, h_v1, hfit1, (by omega), (by omega), (by omega)⟩  (kc := 0) (ks := 0)) (by omega) (by omega) (by omega) (st := []) (Nat.le_of_ble_eq_true rfl) rfl (kr_P fun v3 hv3 => ?_) kx_I
  subst hv3
  refine J_if_eqN (pc := 14) (tgt := 45) dJ5_append_3fe6f_14 (by decide) (by decide) (fun h => absurd h (by decide)) (fun _ => ?_)
  refine J_iload_n (pc := 17) dJ5_append_3fe6f_17 rfl rfl ?_
  refine J_callS0 (pc := 18) (M := mJ5_append_3fe6f) (as := [.int (nI x)]) dJ5_append_3fe6f_18 fw_J1_canEncode_fc78d fl_J5_191 fs_J1_canEncode_fc78d rfl (c_J1_canEncode_fc78d hs (d := d - 1) (Nat.le_trans (by decide) hdm) (w := w1) x (by first | assumption | omega) (kc := 0) (ks := 0)) hdp (st := []) (Nat.le_of_ble_eq_true rfl) rfl (kr_P fun v4 hv4 => ?_) kx_I
  subst hv4
  refine J_if_eqN (pc := 21) (tgt := 45) dJ5_append_3fe6f_21 (by decide) (by decide) (fun h => absurd h (by decide)) (fun _ => ?_)
  refine J_aload_n (pc := 24) dJ5_append_3fe6f_24 rfl rfl rfl ?_
  refine J_get (pc := 25) (k := 0) dJ5_append_3fe6f_25 kC1 (by decide) ff_J5_15 h_a1 rfl ?_
  refine J_aload_n (pc := 28) dJ5_append_3fe6f_28 rfl rfl rfl ?_
  refine J_dup (pc := 29) dJ5_append_3fe6f_29 rfl ?_
  refine J_get (pc := 30) (k := 3) dJ5_append_3fe6f_30 kC1 (by decide) ff_J5_79 h_a1 rfl ?_
  refine J_dup_x1 (pc := 33) dJ5_append_3fe6f_33 rfl rfl ?_
  refine J_iconst (pc := 34) (v := nI 1) dJ5_append_3fe6f_34 (by decide) ?_
  refine J_iaddN (pc := 35) dJ5_append_3fe6f_35 ?_
  refine J_putW (pc := 36) (k := 3) dJ5_append_3fe6f_36 kC1 (by decide) ff_J5_79 (Or.inl rfl) ⟨rfl, rfl⟩ h_a1 (Nat.le_of_ble_eq_true rfl) (fun w5 hln5 hw5 hne5 => ?_)
  have hoa_5 : w5[a]? = some (.inr (1, [.ref v1', .int (nI 0), .int ml, .int (nI (c + 1))])) := hw5
  have hlv1'_5 := (hne5 v1' (by omega)).trans h_v1
  have hF5 := hF1.st hln5 hne5 (by omega)
  refine J_iload_n (pc := 39) dJ5_append_3fe6f_39 rfl rfl ?_
  refine J_i2b (pc := 40) dJ5_append_3fe6f_40 (J_absI fun x6 => ?_)
  refine J_bastS (pc := 41) dJ5_append_3fe6f_41 hlv1'_5 hfit1 (by omega) (by omega) (fun w7 ys7 hln7 hc7 hyl7 hyf7 hne7 => ?_)
  have hoa_7 := (hne7 a (by omega)).trans hoa_5
  have hF7 := hF5.st hln7 hne7 (by omega)
  refine J_goto (pc := 42) (tgt := 75) dJ5_append_3fe6f_42 (by decide) ?_
  refine J_aload_n (pc := 75) dJ5_append_3fe6f_75 rfl rfl rfl ?_
  exact J_aret (pc := 76) dJ5_append_3fe6f_76 rfl rfl rfl ⟨rfl, ⟨v1', ys7, ⟨hoa_7, hc7, hyf7, (by omega), (by omega), (by omega)⟩, hF7, (by omega), (by omega)⟩⟩
set_option maxRecDepth 100000 in
set_option maxHeartbeats 4000000 in
theorem c_J4_append_cf468 {X : jX} (hs : X.1.stackTraces = false) {d : Nat} (hd : 5 ≤ d) {a v : Nat} {ml : Int32} {c : Nat} {bs : List Int32} {w : List jC} (hB : SBp a v ml c bs w) (x : Nat) (hy0 : x ≤ 127) (hy1 : c ≤ 128) {kc ks : Nat} (hkc : (gL (c + 1) bs.length - bs.length) / 18 ≤ kc) (hks : 2 * (gL (c + 1) bs.length - bs.length) ≤ ks) : jMet X mJ4_append_cf468 d kc ks [.ref a, .int (nI x)] w (pA (fun r w' => r = a ∧ ∃ (v' : Nat) (bs' : List Int32), SBp a v' ml (c + 1) bs' w' ∧ FS a v w w' ∧ (v' = v ∨ w.length ≤ v') ∧ bs'.length = gL (c + 1) bs.length)) := by
  refine jMet_of hs (by decide +kernel) (Nat.le_of_ble_eq_true rfl) (L := [some (.ref a), some (.int (nI x))]) rfl ?_
  have hdm : 4 ≤ d - 1 := by omega
  have hdp : d - 1 + 1 ≤ d := by omega
  obtain ⟨h_a, h_v, hfit, hB1, hB2, hB3⟩ := hB
  have hav : a ≠ v := fun e => by subst e; rw [h_a] at h_v; cases h_v
  have hga := gl h_a
  have hgv := gl h_v
  have hF : FS a v w w := FS.rf
  have hgd := gL_d (c + 1) bs.length
  refine J_aload_n (pc := 0) dJ4_append_cf468_0 rfl rfl rfl ?_
  refine J_iload_n (pc := 1) dJ4_append_cf468_1 rfl rfl ?_
  refine J_callSU (pc := 2) (M := mJ4_append_cf468) (as := [.int (nI x)]) (cj := 1) dJ4_append_cf468_2 fw_J5_append_3fe6f fl_J4_50 fq_J5_J5_append_3fe6f fsup_J4 fm_J5_append_3fe6f (by decide) ⟨rfl, rfl⟩ h_a (by decide) rfl rfl (c_J5_append_3fe6f hs (d := d - 1) (by omega) (a := a) (v := v) (c := c) (bs := bs) (w := w) ⟨h_a, h_v, hfit, (by omega), (by omega), (by omega)⟩ x (by first | assumption | omega) (by first | assumption | omega) (kc := ((gL (c + 1) bs.length - bs.length) / 18)) (ks := (2 * (gL (c + 1) bs.length - bs.length))) (Nat.le_refl _) (Nat.le_refl _)) (by omega) (by omega) (by omega) (st := []) (Nat.le_of_ble_eq_true rfl) rfl (kr_A fun r1 w1 hw1 => ?_) kx_A
  obtain ⟨hra1, v1', ys1, ⟨h_a1, h_v1, hfit1, hB11, hB21, hB31⟩, hFc1, hvv1, hp1_0⟩ := hw1
  obtain rfl := hra1.symm
  have hav1 : a ≠ v1' := fun e => by rw [e] at h_a1; rw [h_a1] at h_v1; cases h_v1
  have hgl1 := hFc1.1
  have hgf2 := gL_d (c + 1) bs.length
  have hF1 := hF.tr hFc1 (by omega)
  refine J_pop (pc := 5) dJ4_append_cf468_5 rfl ?_
  refine J_aload_n (pc := 6) dJ4_append_cf468_6 rfl rfl rfl ?_
  exact J_aret (pc := 7) dJ4_append_cf468_7 rfl rfl rfl ⟨rfl, ⟨v1', ys1, ⟨h_a1, h_v1, hfit1, (by omega), (by omega), (by omega)⟩, hF1, (by omega), (by omega)⟩⟩
set_option maxRecDepth 100000 in
set_option maxHeartbeats 4000000 in
theorem c_J6_stringSize_0f7a4 {X : jX} (hs : X.1.stackTraces = false) {d : Nat} (hd : 0 ≤ d) {w : List jC} (x : Nat) (hy0 : x < 10000) {kc ks : Nat} : jMet X mJ6_stringSize_0f7a4 d kc ks [.int (nI x)] w (pI (fun v => v = nI (dgs x)) (fun w' => w' = w)) := by
  refine jMet_of hs (by decide +kernel) (Nat.le_of_ble_eq_true rfl) (L := [some (.int (nI x)), none, none, none]) rfl ?_
  refine J_iconst (pc := 0) (v := nI 1) dJ6_stringSize_0f7a4_0 (by decide) ?_
  refine J_istore_n (pc := 1) dJ6_stringSize_0f7a4_1 rfl (by decide) rfl ?_
  show J X mJ6_stringSize_0f7a4 d kc ks 2 [some (.int (nI x)), some (.int (nI 1)), none, none] [] w _
  refine J_iload_n (pc := 2) dJ6_stringSize_0f7a4_2 rfl rfl ?_
  refine J_if_ltN (pc := 3) (tgt := 11) dJ6_stringSize_0f7a4_3 (by decide) (by omega) (fun hf2 => ?_)
  refine J_iconst (pc := 6) (v := nI 0) dJ6_stringSize_0f7a4_6 (by decide) ?_
  refine J_istore_n (pc := 7) dJ6_stringSize_0f7a4_7 rfl (by decide) rfl ?_
  show J X mJ6_stringSize_0f7a4 d kc ks 8 [some (.int (nI x)), some (.int (nI 0)), none, none] [] w _
  refine J_iload_n (pc := 8) dJ6_stringSize_0f7a4_8 rfl rfl ?_
  refine J_ineg (pc := 9) dJ6_stringSize_0f7a4_9 ?_
  refine J_istore_n (pc := 10) dJ6_stringSize_0f7a4_10 rfl (by decide) rfl ?_
  show J X mJ6_stringSize_0f7a4 d kc ks 11 [some (.int (-nI x)), some (.int (nI 0)), none, none] [] w _
  refine J_bipush (pc := 11) (v := (-10)) dJ6_stringSize_0f7a4_11 (by decide) ?_
  refine J_istore_n (pc := 13) dJ6_stringSize_0f7a4_13 rfl (by decide) rfl ?_
  show J X mJ6_stringSize_0f7a4 d kc ks 14 [some (.int (-nI x)), some (.int (nI 0)), some (.int (-10)), none] [] w _
  refine J_iconst (pc := 14) (v := nI 1) dJ6_stringSize_0f7a4_14 (by decide) ?_
  refine J_istore_n (pc := 15) dJ6_stringSize_0f7a4_15 rfl (by decide) rfl ?_
  show J X mJ6_stringSize_0f7a4 d kc ks 16 [some (.int (-nI x)), some (.int (nI 0)), some (.int (-10)), some (.int (nI 1))] [] w _
  refine J_iload_n (pc := 16) dJ6_stringSize_0f7a4_16 rfl rfl ?_
  refine J_bipush (pc := 17) (v := nI 10) dJ6_stringSize_0f7a4_17 (by decide) ?_
  refine J_icmp_geN (pc := 19) (tgt := 42) dJ6_stringSize_0f7a4_19 (by decide) (by decide) (by decide) (fun h => absurd h (by decide)) (fun _ => ?_)
  refine J_iload_n (pc := 22) dJ6_stringSize_0f7a4_22 rfl rfl ?_
  refine J_iload_n (pc := 23) dJ6_stringSize_0f7a4_23 rfl rfl ?_
  refine J_icmp_leG (pc := 24) (tgt := 31) (P := 10) dJ6_stringSize_0f7a4_24 (by decide) (by decide) (by omega) (by decide) (fun ht3 => ?_) (fun hf4 => ?_)
  · refine J_bipush (pc := 31) (v := nI 10) dJ6_stringSize_0f7a4_31 (by decide) ?_
    refine J_iload_n (pc := 33) dJ6_stringSize_0f7a4_33 rfl rfl ?_
    refine J_imul (pc := 34) dJ6_stringSize_0f7a4_34 ?_
    rw [show nI 10 * (-10) = (-100) by decide]
    refine J_istore_n (pc := 35) dJ6_stringSize_0f7a4_35 rfl (by decide) rfl ?_
    show J X mJ6_stringSize_0f7a4 d kc ks 36 [some (.int (-nI x)), some (.int (nI 0)), some (.int (-100)), some (.int (nI 1))] [] w _
    refine J_iincN (pc := 36) (b := 1) dJ6_stringSize_0f7a4_36 rfl (by decide) (by decide) rfl ?_
    show J X mJ6_stringSize_0f7a4 d kc ks 39 [some (.int (-nI x)), some (.int (nI 0)), some (.int (-100)), some (.int (nI 2))] [] w _
    refine J_goto (pc := 39) (tgt := 16) dJ6_stringSize_0f7a4_39 (by decide) ?_
    refine J_iload_n (pc := 16) dJ6_stringSize_0f7a4_16 rfl rfl ?_
    refine J_bipush (pc := 17) (v := nI 10) dJ6_stringSize_0f7a4_17 (by decide) ?_
    refine J_icmp_geN (pc := 19) (tgt := 42) dJ6_stringSize_0f7a4_19 (by decide) (by decide) (by decide) (fun h => absurd h (by decide)) (fun _ => ?_)
    refine J_iload_n (pc := 22) dJ6_stringSize_0f7a4_22 rfl rfl ?_
    refine J_iload_n (pc := 23) dJ6_stringSize_0f7a4_23 rfl rfl ?_
    refine J_icmp_leG (pc := 24) (tgt := 31) (P := 100) dJ6_stringSize_0f7a4_24 (by decide) (by decide) (by omega) (by decide) (fun ht5 => ?_) (fun hf6 => ?_)
    · refine J_bipush (pc := 31) (v := nI 10) dJ6_stringSize_0f7a4_31 (by decide) ?_
      refine J_iload_n (pc := 33) dJ6_stringSize_0f7a4_33 rfl rfl ?_
      refine J_imul (pc := 34) dJ6_stringSize_0f7a4_34 ?_
      rw [show nI 10 * (-100) = (-1000) by decide]
      refine J_istore_n (pc := 35) dJ6_stringSize_0f7a4_35 rfl (by decide) rfl ?_
      show J X mJ6_stringSize_0f7a4 d kc ks 36 [some (.int (-nI x)), some (.int (nI 0)), some (.int (-1000)), some (.int (nI 2))] [] w _
      refine J_iincN (pc := 36) (b := 1) dJ6_stringSize_0f7a4_36 rfl (by decide) (by decide) rfl ?_
      show J X mJ6_stringSize_0f7a4 d kc ks 39 [some (.int (-nI x)), some (.int (nI 0)), some (.int (-1000)), some (.int (nI 3))] [] w _
      refine J_goto (pc := 39) (tgt := 16) dJ6_stringSize_0f7a4_39 (by decide) ?_
      refine J_iload_n (pc := 16) dJ6_stringSize_0f7a4_16 rfl rfl ?_
      refine J_bipush (pc := 17) (v := nI 10) dJ6_stringSize_0f7a4_17 (by decide) ?_
      refine J_icmp_geN (pc := 19) (tgt := 42) dJ6_stringSize_0f7a4_19 (by decide) (by decide) (by decide) (fun h => absurd h (by decide)) (fun _ => ?_)
      refine J_iload_n (pc := 22) dJ6_stringSize_0f7a4_22 rfl rfl ?_
      refine J_iload_n (pc := 23) dJ6_stringSize_0f7a4_23 rfl rfl ?_
      refine J_icmp_leG (pc := 24) (tgt := 31) (P := 1000) dJ6_stringSize_0f7a4_24 (by decide) (by decide) (by omega) (by decide) (fun ht7 => ?_) (fun hf8 => ?_)
      · refine J_bipush (pc := 31) (v := nI 10) dJ6_stringSize_0f7a4_31 (by decide) ?_
        refine J_iload_n (pc := 33) dJ6_stringSize_0f7a4_33 rfl rfl ?_
        refine J_imul (pc := 34) dJ6_stringSize_0f7a4_34 ?_
        rw [show nI 10 * (-1000) = (-10000) by decide]
        refine J_istore_n (pc := 35) dJ6_stringSize_0f7a4_35 rfl (by decide) rfl ?_
        show J X mJ6_stringSize_0f7a4 d kc ks 36 [some (.int (-nI x)), some (.int (nI 0)), some (.int (-10000)), some (.int (nI 3))] [] w _
        refine J_iincN (pc := 36) (b := 1) dJ6_stringSize_0f7a4_36 rfl (by decide) (by decide) rfl ?_
        show J X mJ6_stringSize_0f7a4 d kc ks 39 [some (.int (-nI x)), some (.int (nI 0)), some (.int (-10000)), some (.int (nI 4))] [] w _
        refine J_goto (pc := 39) (tgt := 16) dJ6_stringSize_0f7a4_39 (by decide) ?_
        refine J_iload_n (pc := 16) dJ6_stringSize_0f7a4_16 rfl rfl ?_
        refine J_bipush (pc := 17) (v := nI 10) dJ6_stringSize_0f7a4_17 (by decide) ?_
        refine J_icmp_geN (pc := 19) (tgt := 42) dJ6_stringSize_0f7a4_19 (by decide) (by decide) (by decide) (fun h => absurd h (by decide)) (fun _ => ?_)
        refine J_iload_n (pc := 22) dJ6_stringSize_0f7a4_22 rfl rfl ?_
        refine J_iload_n (pc := 23) dJ6_stringSize_0f7a4_23 rfl rfl ?_
        refine J_icmp_leG (pc := 24) (tgt := 31) (P := 10000) dJ6_stringSize_0f7a4_24 (by decide) (by decide) (by omega) (by decide) (fun ht9 => ?_) (fun hf10 => ?_)
        · exact absurd ht9 (by omega)
        · refine J_iload_n (pc := 27) dJ6_stringSize_0f7a4_27 rfl rfl ?_
          refine J_iload_n (pc := 28) dJ6_stringSize_0f7a4_28 rfl rfl ?_
          refine J_iaddN (pc := 29) dJ6_stringSize_0f7a4_29 ?_
          exact J_iret (pc := 30) dJ6_stringSize_0f7a4_30 rfl ⟨(congrArg nI (by unfold dgs; (repeat' split) <;> omega)), rfl⟩
      · refine J_iload_n (pc := 27) dJ6_stringSize_0f7a4_27 rfl rfl ?_
        refine J_iload_n (pc := 28) dJ6_stringSize_0f7a4_28 rfl rfl ?_
        refine J_iaddN (pc := 29) dJ6_stringSize_0f7a4_29 ?_
        exact J_iret (pc := 30) dJ6_stringSize_0f7a4_30 rfl ⟨(congrArg nI (by unfold dgs; (repeat' split) <;> omega)), rfl⟩
    · refine J_iload_n (pc := 27) dJ6_stringSize_0f7a4_27 rfl rfl ?_
      refine J_iload_n (pc := 28) dJ6_stringSize_0f7a4_28 rfl rfl ?_
      refine J_iaddN (pc := 29) dJ6_stringSize_0f7a4_29 ?_
      exact J_iret (pc := 30) dJ6_stringSize_0f7a4_30 rfl ⟨(congrArg nI (by unfold dgs; (repeat' split) <;> omega)), rfl⟩
  · refine J_iload_n (pc := 27) dJ6_stringSize_0f7a4_27 rfl rfl ?_
    refine J_iload_n (pc := 28) dJ6_stringSize_0f7a4_28 rfl rfl ?_
    refine J_iaddN (pc := 29) dJ6_stringSize_0f7a4_29 ?_
    exact J_iret (pc := 30) dJ6_stringSize_0f7a4_30 rfl ⟨(congrArg nI (by unfold dgs; (repeat' split) <;> omega)), rfl⟩
