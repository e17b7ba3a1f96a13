/-! contracts of the reference: rspec1 -/
set_option maxRecDepth 100000 in
set_option maxHeartbeats 4000000 in
theorem c_X8_isCell {X : jX} (hs : X.1.stackTraces = false) {d : Nat} (hd : 0 ≤ d) {w : List jC} (a : Int32) {kc ks : Nat} : jMet X mX8_isCell d kc ks [.int a] w (pI (fun v => (v = nI 0 ∧ ∀ q, q < 6 → a ≠ nI q) ∨ (∃ (q : Nat), v = nI 1 ∧ q < 6 ∧ a = nI q)) (fun w' => w' = w)) := by
  refine jMet_of hs (by decide +kernel) (Nat.le_of_ble_eq_true rfl) (L := [some (.int a)]) rfl ?_
  refine J_iload_n (pc := 0) dX8_isCell_0 rfl rfl ?_
  refine J_if_lt (pc := 1) (tgt := 14) dX8_isCell_1 (by decide) (fun ht1 => ?_) (fun hf2 => ?_)
  · refine J_iconst (pc := 14) (v := nI 0) dX8_isCell_14 (by decide) ?_
    exact J_zret (pc := 15) dX8_isCell_15 rfl (nar_b (by first | decide | omega)) ⟨Or.inl ⟨rfl, (by intro q hq e; subst e; first | exact absurd (by assumption) (nI_pos (n := q) (by omega)) | exact absurd (by assumption) (nI_ge hq (by omega)))⟩, rfl⟩
  · refine J_iload_n (pc := 4) dX8_isCell_4 rfl rfl ?_
    refine J_bipush (pc := 5) (v := nI 6) dX8_isCell_5 (by decide) ?_
    refine J_icmp_ge (pc := 7) (tgt := 14) dX8_isCell_7 (by decide) (fun ht3 => ?_) (fun hf4 => ?_)
    · refine J_iconst (pc := 14) (v := nI 0) dX8_isCell_14 (by decide) ?_
      exact J_zret (pc := 15) dX8_isCell_15 rfl (nar_b (by first | decide | omega)) ⟨Or.inl ⟨rfl, (by intro q hq e; subst e; first | exact absurd (by assumption) (nI_pos (n := q) (by omega)) | exact absurd (by assumption) (nI_ge hq (by omega)))⟩, rfl⟩
    · obtain ⟨k5, hk5, rfl⟩ := nI_k1 hf4 (by omega) hf2
      refine J_iconst (pc := 10) (v := nI 1) dX8_isCell_10 (by decide) ?_
      refine J_goto (pc := 11) (tgt := 15) dX8_isCell_11 (by decide) ?_
      exact J_zret (pc := 15) dX8_isCell_15 rfl (nar_b (by first | decide | omega)) ⟨Or.inr (⟨k5, rfl, (by first | assumption | omega | rfl), (by first | assumption | omega | rfl)⟩), rfl⟩
set_option maxRecDepth 100000 in
set_option maxHeartbeats 4000000 in
theorem c_X8_isSet {X : jX} (hs : X.1.stackTraces = false) {d : Nat} (hd : 0 ≤ d) {w : List jC} (a : Int32) {kc ks : Nat} : jMet X mX8_isSet d kc ks [.int a] w (pI (fun v => (v = nI 0 ∧ ∀ q, q < 64 → a ≠ nI q) ∨ (∃ (q : Nat), v = nI 1 ∧ q < 64 ∧ a = nI q)) (fun w' => w' = w)) := by
  refine jMet_of hs (by decide +kernel) (Nat.le_of_ble_eq_true rfl) (L := [some (.int a)]) rfl ?_
  refine J_iload_n (pc := 0) dX8_isSet_0 rfl rfl ?_
  refine J_if_lt (pc := 1) (tgt := 14) dX8_isSet_1 (by decide) (fun ht1 => ?_) (fun hf2 => ?_)
  · refine J_iconst (pc := 14) (v := nI 0) dX8_isSet_14 (by decide) ?_
    exact J_zret (pc := 15) dX8_isSet_15 rfl (nar_b (by first | decide | omega)) ⟨Or.inl ⟨rfl, (by intro q hq e; subst e; first | exact absurd (by assumption) (nI_pos (n := q) (by omega)) | exact absurd (by assumption) (nI_ge hq (by omega)))⟩, rfl⟩
  · refine J_iload_n (pc := 4) dX8_isSet_4 rfl rfl ?_
    refine J_bipush (pc := 5) (v := nI 64) dX8_isSet_5 (by decide) ?_
    refine J_icmp_ge (pc := 7) (tgt := 14) dX8_isSet_7 (by decide) (fun ht3 => ?_) (fun hf4 => ?_)
    · refine J_iconst (pc := 14) (v := nI 0) dX8_isSet_14 (by decide) ?_
      exact J_zret (pc := 15) dX8_isSet_15 rfl (nar_b (by first | decide | omega)) ⟨Or.inl ⟨rfl, (by intro q hq e; subst e; first | exact absurd (by assumption) (nI_pos (n := q) (by omega)) | exact absurd (by assumption) (nI_ge hq (by omega)))⟩, rfl⟩
    · obtain ⟨k5, hk5, rfl⟩ := nI_k1 hf4 (by omega) hf2
      refine J_iconst (pc := 10) (v := nI 1) dX8_isSet_10 (by decide) ?_
      refine J_goto (pc := 11) (tgt := 15) dX8_isSet_11 (by decide) ?_
      exact J_zret (pc := 15) dX8_isSet_15 rfl (nar_b (by first | decide | omega)) ⟨Or.inr (⟨k5, rfl, (by first | assumption | omega | rfl), (by first | assumption | omega | rfl)⟩), rfl⟩
set_option maxRecDepth 100000 in
set_option maxHeartbeats 4000000 in
theorem c_X8_isPoint {X : jX} (hs : X.1.stackTraces = false) {d : Nat} (hd : 0 ≤ d) {n : Nat} {mv rw nx : Nat → Nat} {b : Nat} {bt : List Int32} {kn en dn rf kk th : Int32} {w : List jC} (hR : RM n mv rw nx b bt kn en dn rf kk th w) (hn1 : 2 ≤ n) (hn2 : n ≤ 7) (gm : ∀ i, mv i < 7) (gr : ∀ i, rw i < 7) (gx : ∀ i, nx i < 7) (a : Int32) {kc ks : Nat} : jMet X mX8_isPoint d kc ks [.ref 19, .int a] w (pI (fun v => (v = nI 0 ∧ ∀ q, q < n → a ≠ nI q) ∨ (∃ (q : Nat), v = nI 1 ∧ q < n ∧ a = nI q)) (fun w' => w' = w)) := by
  refine jMet_of hs (by decide +kernel) (Nat.le_of_ble_eq_true rfl) (L := [some (.ref 19), some (.int a)]) rfl ?_
  have hfc := fc_7 hn2
  have hfp := fc_pos n
  obtain ⟨h19, h20, h21, h22, hbb, hbl, hb3⟩ := hR
  have hF : FR b b w w := FR.rf
  refine J_iload_n (pc := 0) dX8_isPoint_0 rfl rfl ?_
  refine J_if_lt (pc := 1) (tgt := 16) dX8_isPoint_1 (by decide) (fun ht1 => ?_) (fun hf2 => ?_)
  · refine J_iconst (pc := 16) (v := nI 0) dX8_isPoint_16 (by decide) ?_
    exact J_zret (pc := 17) dX8_isPoint_17 rfl (nar_b (by first | decide | omega)) ⟨Or.inl ⟨rfl, (by intro q hq e; subst e; first | exact absurd (by assumption) (nI_pos (n := q) (by omega)) | exact absurd (by assumption) (nI_ge hq (by omega)))⟩, rfl⟩
  · refine J_iload_n (pc := 4) dX8_isPoint_4 rfl rfl ?_
    refine J_aload_n (pc := 5) dX8_isPoint_5 rfl rfl rfl ?_
    refine J_get (pc := 6) (k := 0) dX8_isPoint_6 kC9 (by decide) ff_X8_7 h19 rfl ?_
    refine J_icmp_ge (pc := 9) (tgt := 16) dX8_isPoint_9 (by decide) (fun ht3 => ?_) (fun hf4 => ?_)
    · refine J_iconst (pc := 16) (v := nI 0) dX8_isPoint_16 (by decide) ?_
      exact J_zret (pc := 17) dX8_isPoint_17 rfl (nar_b (by first | decide | omega)) ⟨Or.inl ⟨rfl, (by intro q hq e; subst e; first | exact absurd (by assumption) (nI_pos (n := q) (by omega)) | exact absurd (by assumption) (nI_ge hq (by omega)))⟩, rfl⟩
    · obtain ⟨k5, hk5, rfl⟩ := nI_k1 hf4 (by omega) hf2
      refine J_iconst (pc := 12) (v := nI 1) dX8_isPoint_12 (by decide) ?_
      refine J_goto (pc := 13) (tgt := 17) dX8_isPoint_13 (by decide) ?_
      exact J_zret (pc := 17) dX8_isPoint_17 rfl (nar_b (by first | decide | omega)) ⟨Or.inr (⟨k5, rfl, (by first | assumption | omega | rfl), (by first | assumption | omega | rfl)⟩), rfl⟩
set_option maxRecDepth 100000 in
set_option maxHeartbeats 4000000 in
theorem c_X8_isThrown {X : jX} (hs : X.1.stackTraces = false) {d : Nat} (hd : 0 ≤ d) {n : Nat} {mv rw nx : Nat → Nat} {b : Nat} {bt : List Int32} {kn en dn rf kk th : Int32} {w : List jC} (hR : RM n mv rw nx b bt kn en dn rf kk th w) (hn1 : 2 ≤ n) (hn2 : n ≤ 7) (gm : ∀ i, mv i < 7) (gr : ∀ i, rw i < 7) (gx : ∀ i, nx i < 7) (a : Nat) (c : Nat) (hy0 : a < 2) (hy1 : c < 2) {kc ks : Nat} : jMet X mX8_isThrown d kc ks [.ref 19, .int (nI a), .int (nI c)] w (pI (fun v => v = nI (tV a c)) (fun w' => RM n mv rw nx b bt kn en dn rf kk (nI (tW a c)) w' ∧ FR b b w w')) := by
  refine jMet_of hs (by decide +kernel) (Nat.le_of_ble_eq_true rfl) (L := [some (.ref 19), some (.int (nI a)), some (.int (nI c))]) rfl ?_
  have hfc := fc_7 hn2
  have hfp := fc_pos n
  obtain ⟨h19, h20, h21, h22, hbb, hbl, hb3⟩ := hR
  have hF : FR b b w w := FR.rf
  refine J_aload_n (pc := 0) dX8_isThrown_0 rfl rfl rfl ?_
  refine J_iload_n (pc := 1) dX8_isThrown_1 rfl rfl ?_
  refine J_if_eqN (pc := 2) (tgt := 9) dX8_isThrown_2 (by decide) (by omega) (fun ht1 => ?_) (fun hf2 => ?_)
  · refine J_iload_n (pc := 9) dX8_isThrown_9 rfl rfl ?_
    refine J_if_eqN (pc := 10) (tgt := 17) dX8_isThrown_10 (by decide) (by omega) (fun ht3 => ?_) (fun hf4 => ?_)
    · refine J_iconst (pc := 17) (v := nI 0) dX8_isThrown_17 (by decide) ?_
      refine J_putW (pc := 18) (k := 10) dX8_isThrown_18 kC9 (by decide) ff_X8_32 (Or.inl rfl) ⟨rfl, rfl⟩ h19 (by show 10 < 11; decide) (fun w5 hln5 hw5 hne5 => ?_)
      have h19_5 : w5[19]? = some (.inr (9, [.int (nI n), .ref 20, .ref 21, .ref 22, .ref b, .int kn, .int en, .int dn, .int rf, .int kk, .int (nI 0)])) := hw5
      have h20_5 := (hne5 20 (by omega)).trans h20
      have h21_5 := (hne5 21 (by omega)).trans h21
      have h22_5 := (hne5 22 (by omega)).trans h22
      have hb_5 := (hne5 _ (by omega)).trans hbb
      have hF5 := hF.st hln5 hne5 (Or.inl (by decide))
      refine J_aload_n (pc := 21) dX8_isThrown_21 rfl rfl rfl ?_
      refine J_get (pc := 22) (k := 10) dX8_isThrown_22 kC9 (by decide) ff_X8_32 h19_5 rfl ?_
      refine J_if_leN (pc := 25) (tgt := 32) dX8_isThrown_25 (by decide) (by decide) (fun _ => ?_) (fun h => absurd h (by decide))
      refine J_iconst (pc := 32) (v := nI 0) dX8_isThrown_32 (by decide) ?_
      have hta : a = 0 ∨ a = 1 := by omega
      have htc : c = 0 ∨ c = 1 := by omega
      have e1 : tW a c = 0 := by rcases hta with rfl | rfl <;> rcases htc with rfl | rfl <;> first | rfl | omega
      have e2 : tV a c = 0 := by rcases hta with rfl | rfl <;> rcases htc with rfl | rfl <;> first | rfl | omega
      rw [e1, e2]
      exact J_zret (pc := 33) dX8_isThrown_33 rfl (nar_b (by first | decide | omega)) ⟨(congrArg nI (by omega)), ⟨⟨h19_5, h20_5, h21_5, h22_5, hb_5, hbl, hb3⟩, hF5⟩⟩
    · refine J_iconst (pc := 13) (v := nI 2) dX8_isThrown_13 (by decide) ?_
      refine J_goto (pc := 14) (tgt := 18) dX8_isThrown_14 (by decide) ?_
      refine J_putW (pc := 18) (k := 10) dX8_isThrown_18 kC9 (by decide) ff_X8_32 (Or.inl rfl) ⟨rfl, rfl⟩ h19 (by show 10 < 11; decide) (fun w6 hln6 hw6 hne6 => ?_)
      have h19_6 : w6[19]? = some (.inr (9, [.int (nI n), .ref 20, .ref 21, .ref 22, .ref b, .int kn, .int en, .int dn, .int rf, .int kk, .int (nI 2)])) := hw6
      have h20_6 := (hne6 20 (by omega)).trans h20
      have h21_6 := (hne6 21 (by omega)).trans h21
      have h22_6 := (hne6 22 (by omega)).trans h22
      have hb_6 := (hne6 _ (by omega)).trans hbb
      have hF6 := hF.st hln6 hne6 (Or.inl (by decide))
      refine J_aload_n (pc := 21) dX8_isThrown_21 rfl rfl rfl ?_
      refine J_get (pc := 22) (k := 10) dX8_isThrown_22 kC9 (by decide) ff_X8_32 h19_6 rfl ?_
      refine J_if_leN (pc := 25) (tgt := 32) dX8_isThrown_25 (by decide) (by decide) (fun h => absurd h (by decide)) (fun _ => ?_)
      refine J_iconst (pc := 28) (v := nI 1) dX8_isThrown_28 (by decide) ?_
      refine J_goto (pc := 29) (tgt := 33) dX8_isThrown_29 (by decide) ?_
      have hta : a = 0 ∨ a = 1 := by omega
      have htc : c = 0 ∨ c = 1 := by omega
      have e1 : tW a c = 2 := by rcases hta with rfl | rfl <;> rcases htc with rfl | rfl <;> first | rfl | omega
      have e2 : tV a c = 1 := by rcases hta with rfl | rfl <;> rcases htc with rfl | rfl <;> first | rfl | omega
      rw [e1, e2]
      exact J_zret (pc := 33) dX8_isThrown_33 rfl (nar_b (by first | decide | omega)) ⟨(congrArg nI (by omega)), ⟨⟨h19_6, h20_6, h21_6, h22_6, hb_6, hbl, hb3⟩, hF6⟩⟩
  · refine J_iconst (pc := 5) (v := nI 1) dX8_isThrown_5 (by decide) ?_
    refine J_goto (pc := 6) (tgt := 18) dX8_isThrown_6 (by decide) ?_
    refine J_putW (pc := 18) (k := 10) dX8_isThrown_18 kC9 (by decide) ff_X8_32 (Or.inl rfl) ⟨rfl, rfl⟩ h19 (by show 10 < 11; decide) (fun w7 hln7 hw7 hne7 => ?_)
    have h19_7 : w7[19]? = some (.inr (9, [.int (nI n), .ref 20, .ref 21, .ref 22, .ref b, .int kn, .int en, .int dn, .int rf, .int kk, .int (nI 1)])) := hw7
    have h20_7 := (hne7 20 (by omega)).trans h20
    have h21_7 := (hne7 21 (by omega)).trans h21
    have h22_7 := (hne7 22 (by omega)).trans h22
    have hb_7 := (hne7 _ (by omega)).trans hbb
    have hF7 := hF.st hln7 hne7 (Or.inl (by decide))
    refine J_aload_n (pc := 21) dX8_isThrown_21 rfl rfl rfl ?_
    refine J_get (pc := 22) (k := 10) dX8_isThrown_22 kC9 (by decide) ff_X8_32 h19_7 rfl ?_
    refine J_if_leN (pc := 25) (tgt := 32) dX8_isThrown_25 (by decide) (by decide) (fun h => absurd h (by decide)) (fun _ => ?_)
    refine J_iconst (pc := 28) (v := nI 1) dX8_isThrown_28 (by decide) ?_
    refine J_goto (pc := 29) (tgt := 33) dX8_isThrown_29 (by decide) ?_
    have hta : a = 0 ∨ a = 1 := by omega
    have htc : c = 0 ∨ c = 1 := by omega
    have e1 : tW a c = 1 := by rcases hta with rfl | rfl <;> rcases htc with rfl | rfl <;> first | rfl | omega
    have e2 : tV a c = 1 := by rcases hta with rfl | rfl <;> rcases htc with rfl | rfl <;> first | rfl | omega
    rw [e1, e2]
    exact J_zret (pc := 33) dX8_isThrown_33 rfl (nar_b (by first | decide | omega)) ⟨(congrArg nI (by omega)), ⟨⟨h19_7, h20_7, h21_7, h22_7, hb_7, hbl, hb3⟩, hF7⟩⟩
set_option maxRecDepth 100000 in
set_option maxHeartbeats 4000000 in
theorem c_X8_isThrown_ {X : jX} (hs : X.1.stackTraces = false) {d : Nat} (hd : 1 ≤ d) {n : Nat} {mv rw nx : Nat → Nat} {b : Nat} {bt : List Int32} {kn en dn rf kk th : Int32} {w : List jC} (hR : RM n mv rw nx b bt kn en dn rf kk th w) (hn1 : 2 ≤ n) (hn2 : n ≤ 7) (gm : ∀ i, mv i < 7) (gr : ∀ i, rw i < 7) (gx : ∀ i, nx i < 7) (a : Nat) (hy0 : a < 2) {kc ks : Nat} : jMet X mX8_isThrown_ d kc ks [.ref 19, .int (nI a)] w (pI (fun v => v = nI (tV a 0)) (fun w' => RM n mv rw nx b bt kn en dn rf kk (nI (tW a 0)) w' ∧ FR b b w w')) := by
  refine jMet_of hs (by decide +kernel) (Nat.le_of_ble_eq_true rfl) (L := [some (.ref 19), some (.int (nI a))]) rfl ?_
  have hfc := fc_7 hn2
  have hfp := fc_pos n
  obtain ⟨h19, h20, h21, h22, hbb, hbl, hb3⟩ := hR
  have hF : FR b b w w := FR.rf
  refine J_aload_n (pc := 0) dX8_isThrown__0 rfl rfl rfl ?_
  refine J_iload_n (pc := 1) dX8_isThrown__1 rfl rfl ?_
  refine J_iconst (pc := 2) (v := nI 0) dX8_isThrown__2 (by decide) ?_
  refine J_callV0 (pc := 3) (M := mX8_isThrown_) (as := [.int (nI a), .int (nI 0)]) dX8_isThrown__3 fw_X8_isThrown fl_X8_35 fm_X8_isThrown fe_X8_isThrown h19 (by decide) rfl rfl rfl (c_X8_isThrown hs (d := d - 1) (by omega) (w := w) (n := n) (mv := mv) (rw := rw) (nx := nx) (b := b) (bt := bt) (kn := kn) (en := en) (dn := dn) (rf := rf) (kk := kk) (th := th) ⟨h19, h20, h21, h22, hbb, hbl, hb3⟩ hn1 hn2 gm gr gx a 0 (by first | assumption | omega) (by first | assumption | omega) (kc := 0) (ks := 0)) (by omega) (st := []) (Nat.le_of_ble_eq_true rfl) rfl (kr_I fun v1 w1 hv1 hw1 => ?_) kx_I
  obtain ⟨hR1, hFc1⟩ := hw1
  obtain ⟨h19_1, h20_1, h21_1, h22_1, hbb_1, hbl_1, hb3_1⟩ := hR1
  have hF1 := hF.tr hFc1
  subst hv1
  have e2 : tV a 0 < 2 := by rcases (show a = 0 ∨ a = 1 by omega) with rfl | rfl <;> decide
  exact J_zret (pc := 6) dX8_isThrown__6 rfl (nar_b (by first | decide | omega)) ⟨rfl, ⟨⟨h19_1, h20_1, h21_1, h22_1, hbb_1, hbl_1, hb3_1⟩, hF1⟩⟩
set_option maxRecDepth 100000 in
set_option maxHeartbeats 4000000 in
theorem c_X8_told {X : jX} (hs : X.1.stackTraces = false) {d : Nat} (hd : 0 ≤ d) {n : Nat} {mv rw nx : Nat → Nat} {b : Nat} {bt : List Int32} {kn en dn rf kk th : Int32} {w : List jC} (hR : RM n mv rw nx b bt kn en dn rf kk th w) (hn1 : 2 ≤ n) (hn2 : n ≤ 7) (gm : ∀ i, mv i < 7) (gr : ∀ i, rw i < 7) (gx : ∀ i, nx i < 7) (a : Int32) {kc ks : Nat} : jMet X mX8_told d kc ks [.ref 19, .int a] w (pI (fun v => v = a) (fun w' => RM n mv rw nx b bt kn en (dn + nI 1) rf kk th w' ∧ FR b b w w')) := by
  refine jMet_of hs (by decide +kernel) (Nat.le_of_ble_eq_true rfl) (L := [some (.ref 19), some (.int a)]) rfl ?_
  have hfc := fc_7 hn2
  have hfp := fc_pos n
  obtain ⟨h19, h20, h21, h22, hbb, hbl, hb3⟩ := hR
  have hF : FR b b w w := FR.rf
  refine J_aload_n (pc := 0) dX8_told_0 rfl rfl rfl ?_
  refine J_dup (pc := 1) dX8_told_1 rfl ?_
  refine J_get (pc := 2) (k := 7) dX8_told_2 kC9 (by decide) ff_X8_39 h19 rfl ?_
  refine J_iconst (pc := 5) (v := nI 1) dX8_told_5 (by decide) ?_
  refine J_iadd (pc := 6) dX8_told_6 ?_
  refine J_putW (pc := 7) (k := 7) dX8_told_7 kC9 (by decide) ff_X8_39 (Or.inl rfl) ⟨rfl, rfl⟩ h19 (by show 7 < 11; decide) (fun w1 hln1 hw1 hne1 => ?_)
  have h19_1 : w1[19]? = some (.inr (9, [.int (nI n), .ref 20, .ref 21, .ref 22, .ref b, .int kn, .int en, .int (dn + nI 1), .int rf, .int kk, .int th])) := hw1
  have h20_1 := (hne1 20 (by omega)).trans h20
  have h21_1 := (hne1 21 (by omega)).trans h21
  have h22_1 := (hne1 22 (by omega)).trans h22
  have hb_1 := (hne1 _ (by omega)).trans hbb
  have hF1 := hF.st hln1 hne1 (Or.inl (by decide))
  refine J_iload_n (pc := 10) dX8_told_10 rfl rfl ?_
  exact J_iret (pc := 11) dX8_told_11 rfl ⟨rfl, ⟨⟨h19_1, h20_1, h21_1, h22_1, hb_1, hbl, hb3⟩, hF1⟩⟩
set_option maxRecDepth 100000 in
set_option maxHeartbeats 4000000 in
theorem c_X8_no {X : jX} (hs : X.1.stackTraces = false) {d : Nat} (hd : 0 ≤ d) {n : Nat} {mv rw nx : Nat → Nat} {b : Nat} {bt : List Int32} {kn en dn rf kk th : Int32} {w : List jC} (hR : RM n mv rw nx b bt kn en dn rf kk th w) (hn1 : 2 ≤ n) (hn2 : n ≤ 7) (gm : ∀ i, mv i < 7) (gr : ∀ i, rw i < 7) (gx : ∀ i, nx i < 7) {kc ks : Nat} : jMet X mX8_no d kc ks [.ref 19] w (pI (fun v => v = (-9)) (fun w' => RM n mv rw nx b bt kn en dn (rf + nI 1) kk th w' ∧ FR b b w w')) := by
  refine jMet_of hs (by decide +kernel) (Nat.le_of_ble_eq_true rfl) (L := [some (.ref 19)]) rfl ?_
  have hfc := fc_7 hn2
  have hfp := fc_pos n
  obtain ⟨h19, h20, h21, h22, hbb, hbl, hb3⟩ := hR
  have hF : FR b b w w := FR.rf
  refine J_aload_n (pc := 0) dX8_no_0 rfl rfl rfl ?_
  refine J_dup (pc := 1) dX8_no_1 rfl ?_
  refine J_get (pc := 2) (k := 8) dX8_no_2 kC9 (by decide) ff_X8_42 h19 rfl ?_
  refine J_iconst (pc := 5) (v := nI 1) dX8_no_5 (by decide) ?_
  refine J_iadd (pc := 6) dX8_no_6 ?_
  refine J_putW (pc := 7) (k := 8) dX8_no_7 kC9 (by decide) ff_X8_42 (Or.inl rfl) ⟨rfl, rfl⟩ h19 (by show 8 < 11; decide) (fun w1 hln1 hw1 hne1 => ?_)
  have h19_1 : w1[19]? = some (.inr (9, [.int (nI n), .ref 20, .ref 21, .ref 22, .ref b, .int kn, .int en, .int dn, .int (rf + nI 1), .int kk, .int th])) := hw1
  have h20_1 := (hne1 20 (by omega)).trans h20
  have h21_1 := (hne1 21 (by omega)).trans h21
  have h22_1 := (hne1 22 (by omega)).trans h22
  have hb_1 := (hne1 _ (by omega)).trans hbb
  have hF1 := hF.st hln1 hne1 (Or.inl (by decide))
  refine J_bipush (pc := 10) (v := (-9)) dX8_no_10 (by decide) ?_
  exact J_iret (pc := 12) dX8_no_12 rfl ⟨rfl, ⟨⟨h19_1, h20_1, h21_1, h22_1, hb_1, hbl, hb3⟩, hF1⟩⟩
set_option maxRecDepth 100000 in
set_option maxHeartbeats 4000000 in
theorem c_X8_still {X : jX} (hs : X.1.stackTraces = false) {d : Nat} (hd : 0 ≤ d) {n : Nat} {mv rw nx : Nat → Nat} {b : Nat} {bt : List Int32} {kn en dn rf kk th : Int32} {w : List jC} (hR : RM n mv rw nx b bt kn en dn rf kk th w) (hn1 : 2 ≤ n) (hn2 : n ≤ 7) (gm : ∀ i, mv i < 7) (gr : ∀ i, rw i < 7) (gx : ∀ i, nx i < 7) {kc ks : Nat} : jMet X mX8_still d kc ks [.ref 19] w (pV (fun w' => ∃ (mv' : Nat → Nat), RM n mv' rw nx b bt (-1) en dn rf kk th w' ∧ FR b b w w' ∧ (∀ i, mv' i < 7) ∧ ∀ k p, k < 6 → p < n → mv' (k * 7 + p) = p)) := by
  refine jMet_of hs (by decide +kernel) (Nat.le_of_ble_eq_true rfl) (L := [some (.ref 19), none, none]) rfl ?_
  have hfc := fc_7 hn2
  have hfp := fc_pos n
  obtain ⟨h19, h20, h21, h22, hbb, hbl, hb3⟩ := hR
  have hF : FR b b w w := FR.rf
  refine J_iconst (pc := 0) (v := nI 0) dX8_still_0 (by decide) ?_
  refine J_istore_n (pc := 1) dX8_still_1 rfl (by decide) rfl ?_
  show J X mX8_still d kc ks 2 [some (.ref 19), some (.int (nI 0)), none] [] w _
  have lp2_1 : ∀ (fuel : Nat) (w2 : List jC) (mv_2 : Nat → Nat) (c1 : Nat), (RM n mv_2 rw nx b bt kn en dn rf kk th w2) → (FR b b w w2) → (∀ i, mv_2 i < 7) → (∀ k p, k < c1 → p < n → mv_2 (k * 7 + p) = p) → (c1 ≤ 6) → (6 - c1 < fuel) → J X mX8_still d kc ks 2 [some (.ref 19), some (.int (nI c1)), none] [] w2 (pV (fun w' => ∃ (mv' : Nat → Nat), RM n mv' rw nx b bt (-1) en dn rf kk th w' ∧ FR b b w w' ∧ (∀ i, mv' i < 7) ∧ ∀ k p, k < 6 → p < n → mv' (k * 7 + p) = p)) := by
    intro fuellp2_1
    induction fuellp2_1 with
    | zero => intros; omega
    | succ fuellp2_1 ihlp2_1 =>
      intro w2 mv_2 c1 hR3 hF4 gm5 hv2_0 hv2_1 hf6
      obtain ⟨h19_7, h20_7, h21_7, h22_7, hb_7, hbl_7, hb3_7⟩ := hR3
      refine J_iload_n (pc := 2) dX8_still_2 rfl rfl ?_
      refine J_bipush (pc := 3) (v := nI 6) dX8_still_3 (by decide) ?_
      refine J_icmp_geN (pc := 5) (tgt := 42) dX8_still_5 (by decide) (by omega) (by omega) (fun ht8 => ?_) (fun hf9 => ?_)
      · refine J_aload_n (pc := 42) dX8_still_42 rfl rfl rfl ?_
        refine J_iconst (pc := 43) (v := (-1)) dX8_still_43 (by decide) ?_
        refine J_putW (pc := 44) (k := 5) dX8_still_44 kC9 (by decide) ff_X8_26 (Or.inl rfl) ⟨rfl, rfl⟩ h19_7 (by show 5 < 11; decide) (fun w10 hln10 hw10 hne10 => ?_)
        have h19_10 : w10[19]? = some (.inr (9, [.int (nI n), .ref 20, .ref 21, .ref 22, .ref b, .int (-1), .int en, .int dn, .int rf, .int kk, .int th])) := hw10
        have h20_10 := (hne10 20 (by omega)).trans h20_7
        have h21_10 := (hne10 21 (by omega)).trans h21_7
        have h22_10 := (hne10 22 (by omega)).trans h22_7
        have hb_10 := (hne10 _ (by omega)).trans hb_7
        have hF10 := hF4.st hln10 hne10 (Or.inl (by decide))
        exact J_vret (pc := 47) dX8_still_47 rfl (⟨mv_2, ⟨h19_10, h20_10, h21_10, h22_10, hb_10, hbl_7, hb3_7⟩, hF10, gm5, (by intro k p hk hp; exact hv2_0 k p (by omega) hp)⟩)
      · refine J_iconst (pc := 8) (v := nI 0) dX8_still_8 (by decide) ?_
        refine J_istore_n (pc := 9) dX8_still_9 rfl (by decide) rfl ?_
        show J X mX8_still d kc ks 10 [some (.ref 19), some (.int (nI c1)), some (.int (nI 0))] [] w2 _
        have lp10_11 : ∀ (fuel : Nat) (w12 : List jC) (mv_10 : Nat → Nat) (c2 : Nat), (RM n mv_10 rw nx b bt kn en dn rf kk th w12) → (FR b b w w12) → (∀ i, mv_10 i < 7) → (∀ k p, k < c1 → p < n → mv_10 (k * 7 + p) = p) → (∀ p, p < c2 → mv_10 (c1 * 7 + p) = p) → (c2 ≤ n) → (n - c2 < fuel) → J X mX8_still d kc ks 10 [some (.ref 19), some (.int (nI c1)), some (.int (nI c2))] [] w12 (pV (fun w' => ∃ (mv' : Nat → Nat), RM n mv' rw nx b bt (-1) en dn rf kk th w' ∧ FR b b w w' ∧ (∀ i, mv' i < 7) ∧ ∀ k p, k < 6 → p < n → mv' (k * 7 + p) = p)) := by
          intro fuellp10_11
          induction fuellp10_11 with
          | zero => intros; omega
          | succ fuellp10_11 ihlp10_11 =>
            intro w12 mv_10 c2 hR13 hF14 gm15 hv10_0 hv10_1 hv10_2 hf16
            obtain ⟨h19_17, h20_17, h21_17, h22_17, hb_17, hbl_17, hb3_17⟩ := hR13
            refine J_iload_n (pc := 10) dX8_still_10 rfl rfl ?_
            refine J_aload_n (pc := 11) dX8_still_11 rfl rfl rfl ?_
            refine J_get (pc := 12) (k := 0) dX8_still_12 kC9 (by decide) ff_X8_7 h19_17 rfl ?_
            refine J_icmp_geN (pc := 15) (tgt := 36) dX8_still_15 (by decide) (by omega) (by omega) (fun ht18 => ?_) (fun hf19 => ?_)
            · refine J_iincN (pc := 36) (b := 1) dX8_still_36 rfl (by decide) (by decide) rfl ?_
              show J X mX8_still d kc ks 39 [some (.ref 19), some (.int (nI (c1 + 1))), some (.int (nI c2))] [] w12 _
              refine J_goto (pc := 39) (tgt := 2) dX8_still_39 (by decide) ?_
              exact J_sub (L' := [some (.ref 19), some (.int (nI (c1 + 1))), none]) ⟨rfl, ⟨rfl, trivial⟩⟩ (ihlp2_1 w12 mv_10 (c1 + 1) ⟨h19_17, h20_17, h21_17, h22_17, hb_17, hbl_17, hb3_17⟩ hF14 gm15 (by intro k p hk hp; by_cases e : k = c1; (subst e; exact hv10_1 p (by omega)); (exact hv10_0 k p (by omega) hp)) (by first | assumption | omega) (by omega))
            · refine J_aload_n (pc := 18) dX8_still_18 rfl rfl rfl ?_
              refine J_get (pc := 19) (k := 1) dX8_still_19 kC9 (by decide) ff_X8_13 h19_17 rfl ?_
              refine J_iload_n (pc := 22) dX8_still_22 rfl rfl ?_
              refine J_bipush (pc := 23) (v := nI 7) dX8_still_23 (by decide) ?_
              refine J_imulN (pc := 25) dX8_still_25 ?_
              refine J_iload_n (pc := 26) dX8_still_26 rfl rfl ?_
              refine J_iaddN (pc := 27) dX8_still_27 ?_
              refine J_iload_n (pc := 28) dX8_still_28 rfl rfl ?_
              refine J_iastF (pc := 29) dX8_still_29 h20_17 (by omega) (by decide) (fun w20 hln20 hc20 hne20 => ?_)
              have hg20 : ∀ i, (up mv_10 ((c1 * 7) + c2) c2) i < 7 := up_b gm15 (by omega)
              have h19_20 := (hne20 19 (by omega)).trans h19_17
              have h21_20 := (hne20 21 (by omega)).trans h21_17
              have h22_20 := (hne20 22 (by omega)).trans h22_17
              have hb_20 := (hne20 _ (by omega)).trans hb_17
              have hF20 := hF14.st hln20 hne20 (Or.inl (by decide))
              refine J_iincN (pc := 30) (b := 1) dX8_still_30 rfl (by decide) (by decide) rfl ?_
              show J X mX8_still d kc ks 33 [some (.ref 19), some (.int (nI c1)), some (.int (nI (c2 + 1)))] [] w20 _
              refine J_goto (pc := 33) (tgt := 10) dX8_still_33 (by decide) ?_
              exact J_sub (L' := [some (.ref 19), some (.int (nI c1)), some (.int (nI (c2 + 1)))]) ⟨rfl, ⟨rfl, ⟨rfl, trivial⟩⟩⟩ (ihlp10_11 w20 (up mv_10 ((c1 * 7) + c2) c2) (c2 + 1) ⟨h19_20, hc20, h21_20, h22_20, hb_20, hbl_17, hb3_17⟩ hF20 hg20 (by intro k p hk hp; rw [up_n (by omega)]; exact hv10_0 k p hk hp) (by intro p hp; by_cases e : p = c2; (subst e; exact up_s _ _ _); (rw [up_n (by omega)]; exact hv10_1 p (by omega))) (by first | assumption | omega) (by omega))
        exact J_sub (L' := [some (.ref 19), some (.int (nI c1)), some (.int (nI 0))]) ⟨rfl, ⟨rfl, ⟨rfl, trivial⟩⟩⟩ (lp10_11 _ w2 mv_2 0 ⟨h19_7, h20_7, h21_7, h22_7, hb_7, hbl_7, hb3_7⟩ hF4 gm5 (by exact hv2_0) (by intro p hp; omega) (by first | assumption | omega) (Nat.lt_succ_self _))
  exact J_sub (L' := [some (.ref 19), some (.int (nI 0)), none]) ⟨rfl, ⟨rfl, trivial⟩⟩ (lp2_1 _ w mv 0 ⟨h19, h20, h21, h22, hbb, hbl, hb3⟩ hF gm (by intro k p hk; omega) (by first | assumption | omega) (Nat.lt_succ_self _))
set_option maxRecDepth 100000 in
set_option maxHeartbeats 4000000 in
theorem c_X8_all {X : jX} (hs : X.1.stackTraces = false) {d : Nat} (hd : 0 ≤ d) {n : Nat} {mv rw nx : Nat → Nat} {b : Nat} {bt : List Int32} {kn en dn rf kk th : Int32} {w : List jC} (hR : RM n mv rw nx b bt kn en dn rf kk th w) (hn1 : 2 ≤ n) (hn2 : n ≤ 7) (gm : ∀ i, mv i < 7) (gr : ∀ i, rw i < 7) (gx : ∀ i, nx i < 7) {kc ks : Nat} : jMet X mX8_all d kc ks [.ref 19] w (pI (fun v => v = nI (fc n)) (fun w' => w' = w)) := by
  refine jMet_of hs (by decide +kernel) (Nat.le_of_ble_eq_true rfl) (L := [some (.ref 19), none, none]) rfl ?_
  have hfc := fc_7 hn2
  have hfp := fc_pos n
  obtain ⟨h19, h20, h21, h22, hbb, hbl, hb3⟩ := hR
  have hF : FR b b w w := FR.rf
  refine J_iconst (pc := 0) (v := nI 1) dX8_all_0 (by decide) ?_
  refine J_istore_n (pc := 1) dX8_all_1 rfl (by decide) rfl ?_
  show J X mX8_all d kc ks 2 [some (.ref 19), some (.int (nI 1)), none] [] w _
  refine J_iconst (pc := 2) (v := nI 2) dX8_all_2 (by decide) ?_
  refine J_istore_n (pc := 3) dX8_all_3 rfl (by decide) rfl ?_
  show J X mX8_all d kc ks 4 [some (.ref 19), some (.int (nI 1)), some (.int (nI 2))] [] w _
  have lp4_1 : ∀ (fuel : Nat) (y1 : Nat) (c2 : Nat), (2 ≤ c2) → (c2 ≤ n + 1) → (y1 = fc (c2 - 1)) → (n + 1 - c2 < fuel) → J X mX8_all d kc ks 4 [some (.ref 19), some (.int (nI y1)), some (.int (nI c2))] [] w (pI (fun v => v = nI (fc n)) (fun w' => w' = w)) := by
    intro fuellp4_1
    induction fuellp4_1 with
    | zero => intros; omega
    | succ fuellp4_1 ihlp4_1 =>
      intro y1 c2 hv4_0 hv4_1 hv4_2 hf2
      refine J_iload_n (pc := 4) dX8_all_4 rfl rfl ?_
      refine J_aload_n (pc := 5) dX8_all_5 rfl rfl rfl ?_
      refine J_get (pc := 6) (k := 0) dX8_all_6 kC9 (by decide) ff_X8_7 h19 rfl ?_
      refine J_icmp_gtN (pc := 9) (tgt := 22) dX8_all_9 (by decide) (by omega) (by omega) (fun ht3 => ?_) (fun hf4 => ?_)
      · refine J_iload_n (pc := 22) dX8_all_22 rfl rfl ?_
        exact J_iret (pc := 23) dX8_all_23 rfl ⟨(congrArg nI (by rw [hv4_2, show c2 - 1 = n by omega])), rfl⟩
      · refine J_iload_n (pc := 12) dX8_all_12 rfl rfl ?_
        refine J_iload_n (pc := 13) dX8_all_13 rfl rfl ?_
        refine J_imulN (pc := 14) dX8_all_14 ?_
        refine J_istore_n (pc := 15) dX8_all_15 rfl (by decide) rfl ?_
        show J X mX8_all d kc ks 16 [some (.ref 19), some (.int (nI (y1 * c2))), some (.int (nI c2))] [] w _
        refine J_iincN (pc := 16) (b := 1) dX8_all_16 rfl (by decide) (by decide) rfl ?_
        show J X mX8_all d kc ks 19 [some (.ref 19), some (.int (nI (y1 * c2))), some (.int (nI (c2 + 1)))] [] w _
        refine J_goto (pc := 19) (tgt := 4) dX8_all_19 (by decide) ?_
        exact J_sub (L' := [some (.ref 19), some (.int (nI (y1 * c2))), some (.int (nI (c2 + 1)))]) ⟨rfl, ⟨rfl, ⟨rfl, trivial⟩⟩⟩ (ihlp4_1 (y1 * c2) (c2 + 1) (by first | assumption | omega) (by first | assumption | omega) (by rw [hv4_2, Nat.add_sub_cancel]; exact fc_s (by omega)) (by omega))
  exact J_sub (L' := [some (.ref 19), some (.int (nI 1)), some (.int (nI 2))]) ⟨rfl, ⟨rfl, ⟨rfl, trivial⟩⟩⟩ (lp4_1 _ 1 2 (by first | assumption | omega) (by first | assumption | omega) (by rfl) (Nat.lt_succ_self _))
set_option maxRecDepth 100000 in
set_option maxHeartbeats 4000000 in
theorem c_X8_at {X : jX} (hs : X.1.stackTraces = false) {d : Nat} (hd : 0 ≤ d) {n : Nat} {mv rw nx : Nat → Nat} {b : Nat} {bt : List Int32} {kn en dn rf kk th : Int32} {w : List jC} (hR : RM n mv rw nx b bt kn en dn rf kk th w) (hn1 : 2 ≤ n) (hn2 : n ≤ 7) (gm : ∀ i, mv i < 7) (gr : ∀ i, rw i < 7) (gx : ∀ i, nx i < 7) (a : Nat) (p : Nat) (hy0 : a < 6) (hy1 : p < 7) {kc ks : Nat} : jMet X mX8_at d kc ks [.ref 19, .int (nI a), .int (nI p)] w (pI (fun v => v = nI (mv (a * 7 + p))) (fun w' => w' = w)) := by
  refine jMet_of hs (by decide +kernel) (Nat.le_of_ble_eq_true rfl) (L := [some (.ref 19), some (.int (nI a)), some (.int (nI p))]) rfl ?_
  have hfc := fc_7 hn2
  have hfp := fc_pos n
  obtain ⟨h19, h20, h21, h22, hbb, hbl, hb3⟩ := hR
  have hF : FR b b w w := FR.rf
  refine J_aload_n (pc := 0) dX8_at_0 rfl rfl rfl ?_
  refine J_get (pc := 1) (k := 1) dX8_at_1 kC9 (by decide) ff_X8_13 h19 rfl ?_
  refine J_iload_n (pc := 4) dX8_at_4 rfl rfl ?_
  refine J_bipush (pc := 5) (v := nI 7) dX8_at_5 (by decide) ?_
  refine J_imulN (pc := 7) dX8_at_7 ?_
  refine J_iload_n (pc := 8) dX8_at_8 rfl rfl ?_
  refine J_iaddN (pc := 9) dX8_at_9 ?_
  refine J_ialdF (pc := 10) dX8_at_10 h20 (by omega) (by decide) ?_
  have hq1 := gm ((a * 7) + p)
  exact J_iret (pc := 11) dX8_at_11 rfl ⟨(congrArg nI (by omega)), rfl⟩
set_option maxRecDepth 100000 in
set_option maxHeartbeats 4000000 in
theorem c_X8_numberOf_at20 {X : jX} (hs : X.1.stackTraces = false) {d : Nat} (hd : 0 ≤ d) {n : Nat} {mv rw nx : Nat → Nat} {b : Nat} {bt : List Int32} {kn en dn rf kk th : Int32} {w : List jC} (hR : RM n mv rw nx b bt kn en dn rf kk th w) (hn1 : 2 ≤ n) (hn2 : n ≤ 7) (gm : ∀ i, mv i < 7) (gr : ∀ i, rw i < 7) (gx : ∀ i, nx i < 7) (fr : Nat) (hy0 : fr + n ≤ 42) {kc ks : Nat} : jMet X mX8_numberOf d kc ks [.ref 19, .ref 20, .int (nI fr)] w (pI (fun v => v = nI (nuF mv fr n n)) (fun w' => w' = w)) := by
  refine jMet_of hs (by decide +kernel) (Nat.le_of_ble_eq_true rfl) (L := [some (.ref 19), some (.ref 20), some (.int (nI fr)), none, none, none, none]) rfl ?_
  have hfc := fc_7 hn2
  have hfp := fc_pos n
  obtain ⟨h19, h20, h21, h22, hbb, hbl, hb3⟩ := hR
  have hF : FR b b w w := FR.rf
  refine J_iconst (pc := 0) (v := nI 0) dX8_numberOf_0 (by decide) ?_
  refine J_istore_n (pc := 1) dX8_numberOf_1 rfl (by decide) rfl ?_
  show J X mX8_numberOf d kc ks 2 [some (.ref 19), some (.ref 20), some (.int (nI fr)), some (.int (nI 0)), none, none, none] [] w _
  refine J_iconst (pc := 2) (v := nI 0) dX8_numberOf_2 (by decide) ?_
  refine J_istore (pc := 3) dX8_numberOf_3 (by decide) rfl ?_
  show J X mX8_numberOf d kc ks 5 [some (.ref 19), some (.ref 20), some (.int (nI fr)), some (.int (nI 0)), some (.int (nI 0)), none, none] [] w _
  have lp5_1 : ∀ (fuel : Nat) (y3 : Nat) (c4 : Nat), (y3 = nuF mv fr n c4) → (c4 ≤ n) → (n - c4 < fuel) → J X mX8_numberOf d kc ks 5 [some (.ref 19), some (.ref 20), some (.int (nI fr)), some (.int (nI y3)), some (.int (nI c4)), none, none] [] w (pI (fun v => v = nI (nuF mv fr n n)) (fun w' => w' = w)) := by
    intro fuellp5_1
    induction fuellp5_1 with
    | zero => intros; omega
    | succ fuellp5_1 ihlp5_1 =>
      intro y3 c4 hv5_0 hv5_1 hf2
      refine J_iload (pc := 5) dX8_numberOf_5 rfl ?_
      refine J_aload_n (pc := 7) dX8_numberOf_7 rfl rfl rfl ?_
      refine J_get (pc := 8) (k := 0) dX8_numberOf_8 kC9 (by decide) ff_X8_7 h19 rfl ?_
      refine J_icmp_geN (pc := 11) (tgt := 82) dX8_numberOf_11 (by decide) (by omega) (by omega) (fun ht3 => ?_) (fun hf4 => ?_)
      · refine J_iload_n (pc := 82) dX8_numberOf_82 rfl rfl ?_
        exact J_iret (pc := 83) dX8_numberOf_83 rfl ⟨(congrArg nI (by rw [hv5_0, show c4 = n by omega])), rfl⟩
      · refine J_iconst (pc := 14) (v := nI 0) dX8_numberOf_14 (by decide) ?_
        refine J_istore (pc := 15) dX8_numberOf_15 (by decide) rfl ?_
        show J X mX8_numberOf d kc ks 17 [some (.ref 19), some (.ref 20), some (.int (nI fr)), some (.int (nI y3)), some (.int (nI c4)), some (.int (nI 0)), none] [] w _
        refine J_iload (pc := 17) dX8_numberOf_17 rfl ?_
        refine J_iconst (pc := 19) (v := nI 1) dX8_numberOf_19 (by decide) ?_
        refine J_iaddN (pc := 20) dX8_numberOf_20 ?_
        refine J_istore (pc := 21) dX8_numberOf_21 (by decide) rfl ?_
        show J X mX8_numberOf d kc ks 23 [some (.ref 19), some (.ref 20), some (.int (nI fr)), some (.int (nI y3)), some (.int (nI c4)), some (.int (nI 0)), some (.int (nI (c4 + 1)))] [] w _
        have lp23_5 : ∀ (fuel : Nat) (y5 : Nat) (c6 : Nat), (c4 + 1 ≤ c6) → (c6 ≤ n) → (y5 = les mv fr c4 c6) → (n - c6 < fuel) → J X mX8_numberOf d kc ks 23 [some (.ref 19), some (.ref 20), some (.int (nI fr)), some (.int (nI y3)), some (.int (nI c4)), some (.int (nI y5)), some (.int (nI c6))] [] w (pI (fun v => v = nI (nuF mv fr n n)) (fun w' => w' = w)) := by
          intro fuellp23_5
          induction fuellp23_5 with
          | zero => intros; omega
          | succ fuellp23_5 ihlp23_5 =>
            intro y5 c6 hv23_0 hv23_1 hv23_2 hf6
            refine J_iload (pc := 23) dX8_numberOf_23 rfl ?_
            refine J_aload_n (pc := 25) dX8_numberOf_25 rfl rfl rfl ?_
            refine J_get (pc := 26) (k := 0) dX8_numberOf_26 kC9 (by decide) ff_X8_7 h19 rfl ?_
            refine J_icmp_geN (pc := 29) (tgt := 63) dX8_numberOf_29 (by decide) (by omega) (by omega) (fun ht7 => ?_) (fun hf8 => ?_)
            · refine J_iload_n (pc := 63) dX8_numberOf_63 rfl rfl ?_
              refine J_aload_n (pc := 64) dX8_numberOf_64 rfl rfl rfl ?_
              refine J_get (pc := 65) (k := 0) dX8_numberOf_65 kC9 (by decide) ff_X8_7 h19 rfl ?_
              refine J_iload (pc := 68) dX8_numberOf_68 rfl ?_
              refine J_isubN (pc := 70) dX8_numberOf_70 (by omega) ?_
              refine J_imulN (pc := 71) dX8_numberOf_71 ?_
              refine J_iload (pc := 72) dX8_numberOf_72 rfl ?_
              refine J_iaddN (pc := 74) dX8_numberOf_74 ?_
              refine J_istore_n (pc := 75) dX8_numberOf_75 rfl (by decide) rfl ?_
              show J X mX8_numberOf d kc ks 76 [some (.ref 19), some (.ref 20), some (.int (nI fr)), some (.int (nI ((y3 * (n - c4)) + y5))), some (.int (nI c4)), some (.int (nI y5)), some (.int (nI c6))] [] w _
              refine J_iincN (pc := 76) (b := 1) dX8_numberOf_76 rfl (by decide) (by decide) rfl ?_
              show J X mX8_numberOf d kc ks 79 [some (.ref 19), some (.ref 20), some (.int (nI fr)), some (.int (nI ((y3 * (n - c4)) + y5))), some (.int (nI (c4 + 1))), some (.int (nI y5)), some (.int (nI c6))] [] w _
              refine J_goto (pc := 79) (tgt := 5) dX8_numberOf_79 (by decide) ?_
              exact J_sub (L' := [some (.ref 19), some (.ref 20), some (.int (nI fr)), some (.int (nI ((y3 * (n - c4)) + y5))), some (.int (nI (c4 + 1))), none, none]) ⟨rfl, ⟨rfl, ⟨rfl, ⟨rfl, ⟨rfl, trivial⟩⟩⟩⟩⟩ (ihlp5_1 ((y3 * (n - c4)) + y5) (c4 + 1) (by simp only [nuF]; rw [← hv5_0, hv23_2, show c6 = n by omega]) (by first | assumption | omega) (by omega))
            · refine J_iload (pc := 32) dX8_numberOf_32 rfl ?_
              refine J_aload_n (pc := 34) dX8_numberOf_34 rfl rfl rfl ?_
              refine J_iload_n (pc := 35) dX8_numberOf_35 rfl rfl ?_
              refine J_iload (pc := 36) dX8_numberOf_36 rfl ?_
              refine J_iaddN (pc := 38) dX8_numberOf_38 ?_
              refine J_ialdF (pc := 39) dX8_numberOf_39 h20 (by omega) (by decide) ?_
              have hq9 := gm (fr + c6)
              refine J_aload_n (pc := 40) dX8_numberOf_40 rfl rfl rfl ?_
              refine J_iload_n (pc := 41) dX8_numberOf_41 rfl rfl ?_
              refine J_iload (pc := 42) dX8_numberOf_42 rfl ?_
              refine J_iaddN (pc := 44) dX8_numberOf_44 ?_
              refine J_ialdF (pc := 45) dX8_numberOf_45 h20 (by omega) (by decide) ?_
              have hq10 := gm (fr + c4)
              refine J_icmp_geN (pc := 46) (tgt := 53) dX8_numberOf_46 (by decide) (by omega) (by omega) (fun ht11 => ?_) (fun hf12 => ?_)
              · refine J_iconst (pc := 53) (v := nI 0) dX8_numberOf_53 (by decide) ?_
                refine J_iaddN (pc := 54) dX8_numberOf_54 ?_
                refine J_istore (pc := 55) dX8_numberOf_55 (by decide) rfl ?_
                show J X mX8_numberOf d kc ks 57 [some (.ref 19), some (.ref 20), some (.int (nI fr)), some (.int (nI y3)), some (.int (nI c4)), some (.int (nI (y5 + 0))), some (.int (nI c6))] [] w _
                refine J_iincN (pc := 57) (b := 1) dX8_numberOf_57 rfl (by decide) (by decide) rfl ?_
                show J X mX8_numberOf d kc ks 60 [some (.ref 19), some (.ref 20), some (.int (nI fr)), some (.int (nI y3)), some (.int (nI c4)), some (.int (nI (y5 + 0))), some (.int (nI (c6 + 1)))] [] w _
                refine J_goto (pc := 60) (tgt := 23) dX8_numberOf_60 (by decide) ?_
                exact J_sub (L' := [some (.ref 19), some (.ref 20), some (.int (nI fr)), some (.int (nI y3)), some (.int (nI c4)), some (.int (nI (y5 + 0))), some (.int (nI (c6 + 1)))]) ⟨rfl, ⟨rfl, ⟨rfl, ⟨rfl, ⟨rfl, ⟨rfl, ⟨rfl, trivial⟩⟩⟩⟩⟩⟩⟩ (ihlp23_5 (y5 + 0) (c6 + 1) (by first | assumption | omega) (by first | assumption | omega) (by simp only [les]; split <;> omega) (by omega))
              · refine J_iconst (pc := 49) (v := nI 1) dX8_numberOf_49 (by decide) ?_
                refine J_goto (pc := 50) (tgt := 54) dX8_numberOf_50 (by decide) ?_
                refine J_iaddN (pc := 54) dX8_numberOf_54 ?_
                refine J_istore (pc := 55) dX8_numberOf_55 (by decide) rfl ?_
                show J X mX8_numberOf d kc ks 57 [some (.ref 19), some (.ref 20), some (.int (nI fr)), some (.int (nI y3)), some (.int (nI c4)), some (.int (nI (y5 + 1))), some (.int (nI c6))] [] w _
                refine J_iincN (pc := 57) (b := 1) dX8_numberOf_57 rfl (by decide) (by decide) rfl ?_
                show J X mX8_numberOf d kc ks 60 [some (.ref 19), some (.ref 20), some (.int (nI fr)), some (.int (nI y3)), some (.int (nI c4)), some (.int (nI (y5 + 1))), some (.int (nI (c6 + 1)))] [] w _
                refine J_goto (pc := 60) (tgt := 23) dX8_numberOf_60 (by decide) ?_
                exact J_sub (L' := [some (.ref 19), some (.ref 20), some (.int (nI fr)), some (.int (nI y3)), some (.int (nI c4)), some (.int (nI (y5 + 1))), some (.int (nI (c6 + 1)))]) ⟨rfl, ⟨rfl, ⟨rfl, ⟨rfl, ⟨rfl, ⟨rfl, ⟨rfl, trivial⟩⟩⟩⟩⟩⟩⟩ (ihlp23_5 (y5 + 1) (c6 + 1) (by first | assumption | omega) (by first | assumption | omega) (by simp only [les]; split <;> omega) (by omega))
        exact J_sub (L' := [some (.ref 19), some (.ref 20), some (.int (nI fr)), some (.int (nI y3)), some (.int (nI c4)), some (.int (nI 0)), some (.int (nI (c4 + 1)))]) ⟨rfl, ⟨rfl, ⟨rfl, ⟨rfl, ⟨rfl, ⟨rfl, ⟨rfl, trivial⟩⟩⟩⟩⟩⟩⟩ (lp23_5 _ 0 (c4 + 1) (by first | assumption | omega) (by first | assumption | omega) (by exact (les_0 mv fr c4 _ (Nat.le_refl _)).symm) (Nat.lt_succ_self _))
  exact J_sub (L' := [some (.ref 19), some (.ref 20), some (.int (nI fr)), some (.int (nI 0)), some (.int (nI 0)), none, none]) ⟨rfl, ⟨rfl, ⟨rfl, ⟨rfl, ⟨rfl, trivial⟩⟩⟩⟩⟩ (lp5_1 _ 0 0 (by rfl) (by first | assumption | omega) (Nat.lt_succ_self _))
set_option maxRecDepth 100000 in
set_option maxHeartbeats 4000000 in
theorem c_X8_signOf_at20 {X : jX} (hs : X.1.stackTraces = false) {d : Nat} (hd : 0 ≤ d) {n : Nat} {mv rw nx : Nat → Nat} {b : Nat} {bt : List Int32} {kn en dn rf kk th : Int32} {w : List jC} (hR : RM n mv rw nx b bt kn en dn rf kk th w) (hn1 : 2 ≤ n) (hn2 : n ≤ 7) (gm : ∀ i, mv i < 7) (gr : ∀ i, rw i < 7) (gx : ∀ i, nx i < 7) (fr : Nat) (hy0 : fr + n ≤ 42) {kc ks : Nat} : jMet X mX8_signOf d kc ks [.ref 19, .ref 20, .int (nI fr)] w (pI (fun _ => True) (fun w' => w' = w)) := by
  refine jMet_of hs (by decide +kernel) (Nat.le_of_ble_eq_true rfl) (L := [some (.ref 19), some (.ref 20), some (.int (nI fr)), none, none, none]) rfl ?_
  have hfc := fc_7 hn2
  have hfp := fc_pos n
  obtain ⟨h19, h20, h21, h22, hbb, hbl, hb3⟩ := hR
  have hF : FR b b w w := FR.rf
  refine J_iconst (pc := 0) (v := nI 1) dX8_signOf_0 (by decide) ?_
  refine J_istore_n (pc := 1) dX8_signOf_1 rfl (by decide) rfl ?_
  show J X mX8_signOf d kc ks 2 [some (.ref 19), some (.ref 20), some (.int (nI fr)), some (.int (nI 1)), none, none] [] w _
  refine J_iconst (pc := 2) (v := nI 0) dX8_signOf_2 (by decide) ?_
  refine J_istore (pc := 3) dX8_signOf_3 (by decide) rfl ?_
  show J X mX8_signOf d kc ks 5 [some (.ref 19), some (.ref 20), some (.int (nI fr)), some (.int (nI 1)), some (.int (nI 0)), none] [] w _
  have lp5_1 : ∀ (fuel : Nat) (z3 : Int32) (c4 : Nat), (c4 ≤ n) → (n - c4 < fuel) → J X mX8_signOf d kc ks 5 [some (.ref 19), some (.ref 20), some (.int (nI fr)), some (.int z3), some (.int (nI c4)), none] [] w (pI (fun _ => True) (fun w' => w' = w)) := by
    intro fuellp5_1
    induction fuellp5_1 with
    | zero => intros; omega
    | succ fuellp5_1 ihlp5_1 =>
      intro z3 c4 hv5_0 hf2
      refine J_iload (pc := 5) dX8_signOf_5 rfl ?_
      refine J_aload_n (pc := 7) dX8_signOf_7 rfl rfl rfl ?_
      refine J_get (pc := 8) (k := 0) dX8_signOf_8 kC9 (by decide) ff_X8_7 h19 rfl ?_
      refine J_icmp_geN (pc := 11) (tgt := 54) dX8_signOf_11 (by decide) (by omega) (by omega) (fun ht3 => ?_) (fun hf4 => ?_)
      · refine J_iload_n (pc := 54) dX8_signOf_54 rfl rfl ?_
        exact J_iret (pc := 55) dX8_signOf_55 rfl ⟨trivial, rfl⟩
      · refine J_iconst (pc := 14) (v := nI 0) dX8_signOf_14 (by decide) ?_
        refine J_istore (pc := 15) dX8_signOf_15 (by decide) rfl ?_
        show J X mX8_signOf d kc ks 17 [some (.ref 19), some (.ref 20), some (.int (nI fr)), some (.int z3), some (.int (nI c4)), some (.int (nI 0))] [] w _
        have lp17_5 : ∀ (fuel : Nat) (z3 : Int32) (c5 : Nat), (c5 ≤ c4) → (c4 - c5 < fuel) → J X mX8_signOf d kc ks 17 [some (.ref 19), some (.ref 20), some (.int (nI fr)), some (.int z3), some (.int (nI c4)), some (.int (nI c5))] [] w (pI (fun _ => True) (fun w' => w' = w)) := by
          intro fuellp17_5
          induction fuellp17_5 with
          | zero => intros; omega
          | succ fuellp17_5 ihlp17_5 =>
            intro z3 c5 hv17_0 hf6
            refine J_iload (pc := 17) dX8_signOf_17 rfl ?_
            refine J_iload (pc := 19) dX8_signOf_19 rfl ?_
            refine J_icmp_geN (pc := 21) (tgt := 48) dX8_signOf_21 (by decide) (by omega) (by omega) (fun ht7 => ?_) (fun hf8 => ?_)
            · refine J_iincN (pc := 48) (b := 1) dX8_signOf_48 rfl (by decide) (by decide) rfl ?_
              show J X mX8_signOf d kc ks 51 [some (.ref 19), some (.ref 20), some (.int (nI fr)), some (.int z3), some (.int (nI (c4 + 1))), some (.int (nI c5))] [] w _
              refine J_goto (pc := 51) (tgt := 5) dX8_signOf_51 (by decide) ?_
              exact J_sub (L' := [some (.ref 19), some (.ref 20), some (.int (nI fr)), some (.int z3), some (.int (nI (c4 + 1))), none]) ⟨rfl, ⟨rfl, ⟨rfl, ⟨rfl, ⟨rfl, trivial⟩⟩⟩⟩⟩ (ihlp5_1 z3 (c4 + 1) (by first | assumption | omega) (by omega))
            · refine J_aload_n (pc := 24) dX8_signOf_24 rfl rfl rfl ?_
              refine J_iload_n (pc := 25) dX8_signOf_25 rfl rfl ?_
              refine J_iload (pc := 26) dX8_signOf_26 rfl ?_
              refine J_iaddN (pc := 28) dX8_signOf_28 ?_
              refine J_ialdF (pc := 29) dX8_signOf_29 h20 (by omega) (by decide) ?_
              have hq9 := gm (fr + c5)
              refine J_aload_n (pc := 30) dX8_signOf_30 rfl rfl rfl ?_
              refine J_iload_n (pc := 31) dX8_signOf_31 rfl rfl ?_
              refine J_iload (pc := 32) dX8_signOf_32 rfl ?_
              refine J_iaddN (pc := 34) dX8_signOf_34 ?_
              refine J_ialdF (pc := 35) dX8_signOf_35 h20 (by omega) (by decide) ?_
              have hq10 := gm (fr + c4)
              refine J_icmp_leN (pc := 36) (tgt := 42) dX8_signOf_36 (by decide) (by omega) (by omega) (fun ht11 => ?_) (fun hf12 => ?_)
              · refine J_iincN (pc := 42) (b := 1) dX8_signOf_42 rfl (by decide) (by decide) rfl ?_
                show J X mX8_signOf d kc ks 45 [some (.ref 19), some (.ref 20), some (.int (nI fr)), some (.int z3), some (.int (nI c4)), some (.int (nI (c5 + 1)))] [] w _
                refine J_goto (pc := 45) (tgt := 17) dX8_signOf_45 (by decide) ?_
                exact J_sub (L' := [some (.ref 19), some (.ref 20), some (.int (nI fr)), some (.int z3), some (.int (nI c4)), some (.int (nI (c5 + 1)))]) ⟨rfl, ⟨rfl, ⟨rfl, ⟨rfl, ⟨rfl, ⟨rfl, trivial⟩⟩⟩⟩⟩⟩ (ihlp17_5 z3 (c5 + 1) (by first | assumption | omega) (by omega))
              · refine J_iload_n (pc := 39) dX8_signOf_39 rfl rfl ?_
                refine J_ineg (pc := 40) dX8_signOf_40 (J_absI fun x13 => ?_)
                refine J_istore_n (pc := 41) dX8_signOf_41 rfl (by decide) rfl ?_
                show J X mX8_signOf d kc ks 42 [some (.ref 19), some (.ref 20), some (.int (nI fr)), some (.int x13), some (.int (nI c4)), some (.int (nI c5))] [] w _
                refine J_iincN (pc := 42) (b := 1) dX8_signOf_42 rfl (by decide) (by decide) rfl ?_
                show J X mX8_signOf d kc ks 45 [some (.ref 19), some (.ref 20), some (.int (nI fr)), some (.int x13), some (.int (nI c4)), some (.int (nI (c5 + 1)))] [] w _
                refine J_goto (pc := 45) (tgt := 17) dX8_signOf_45 (by decide) ?_
                exact J_sub (L' := [some (.ref 19), some (.ref 20), some (.int (nI fr)), some (.int x13), some (.int (nI c4)), some (.int (nI (c5 + 1)))]) ⟨rfl, ⟨rfl, ⟨rfl, ⟨rfl, ⟨rfl, ⟨rfl, trivial⟩⟩⟩⟩⟩⟩ (ihlp17_5 x13 (c5 + 1) (by first | assumption | omega) (by omega))
        exact J_sub (L' := [some (.ref 19), some (.ref 20), some (.int (nI fr)), some (.int z3), some (.int (nI c4)), some (.int (nI 0))]) ⟨rfl, ⟨rfl, ⟨rfl, ⟨rfl, ⟨rfl, ⟨rfl, trivial⟩⟩⟩⟩⟩⟩ (lp17_5 _ z3 0 (by first | assumption | omega) (Nat.lt_succ_self _))
  exact J_sub (L' := [some (.ref 19), some (.ref 20), some (.int (nI fr)), some (.int (nI 1)), some (.int (nI 0)), none]) ⟨rfl, ⟨rfl, ⟨rfl, ⟨rfl, ⟨rfl, trivial⟩⟩⟩⟩⟩ (lp5_1 _ (nI 1) 0 (by first | assumption | omega) (Nat.lt_succ_self _))
set_option maxRecDepth 100000 in
set_option maxHeartbeats 4000000 in
theorem c_X8_ringFrom_at20 {X : jX} (hs : X.1.stackTraces = false) {d : Nat} (hd : 0 ≤ d) {n : Nat} {mv rw nx : Nat → Nat} {b : Nat} {bt : List Int32} {kn en dn rf kk th : Int32} {w : List jC} (hR : RM n mv rw nx b bt kn en dn rf kk th w) (hn1 : 2 ≤ n) (hn2 : n ≤ 7) (gm : ∀ i, mv i < 7) (gr : ∀ i, rw i < 7) (gx : ∀ i, nx i < 7) (fr : Nat) (pt : Nat) (hy0 : fr + n ≤ 42) (hy1 : Pn n (fun p => mv (fr + p))) (hy2 : pt < n) {kc ks : Nat} : jMet X mX8_ringFrom d kc ks [.ref 19, .ref 20, .int (nI fr), .int (nI pt)] w (pI (fun v => ∃ k : Nat, v = nI k ∧ 1 ≤ k ∧ k ≤ n ∧ it (fun p => mv (fr + p)) k pt = pt ∧ (∀ j, 1 ≤ j → j < k → it (fun p => mv (fr + p)) j pt ≠ pt)) (fun w' => w' = w)) := by
  refine jMet_of hs (by decide +kernel) (Nat.le_of_ble_eq_true rfl) (L := [some (.ref 19), some (.ref 20), some (.int (nI fr)), some (.int (nI pt)), none, none]) rfl ?_
  have hfc := fc_7 hn2
  have hfp := fc_pos n
  obtain ⟨h19, h20, h21, h22, hbb, hbl, hb3⟩ := hR
  have hF : FR b b w w := FR.rf
  obtain ⟨K, hK1, hK2, hK3, hK4⟩ := it_ret hy1 hy2
  refine J_iconst (pc := 0) (v := nI 1) dX8_ringFrom_0 (by decide) ?_
  refine J_istore (pc := 1) dX8_ringFrom_1 (by decide) rfl ?_
  show J X mX8_ringFrom d kc ks 3 [some (.ref 19), some (.ref 20), some (.int (nI fr)), some (.int (nI pt)), some (.int (nI 1)), none] [] w _
  refine J_aload_n (pc := 3) dX8_ringFrom_3 rfl rfl rfl ?_
  refine J_iload_n (pc := 4) dX8_ringFrom_4 rfl rfl ?_
  refine J_iload_n (pc := 5) dX8_ringFrom_5 rfl rfl ?_
  refine J_iaddN (pc := 6) dX8_ringFrom_6 ?_
  refine J_ialdF (pc := 7) dX8_ringFrom_7 h20 (by omega) (by decide) ?_
  have hq1 := gm (fr + pt)
  refine J_istore (pc := 8) dX8_ringFrom_8 (by decide) rfl ?_
  show J X mX8_ringFrom d kc ks 10 [some (.ref 19), some (.ref 20), some (.int (nI fr)), some (.int (nI pt)), some (.int (nI 1)), some (.int (nI (mv (fr + pt))))] [] w _
  have lp10_2 : ∀ (fuel : Nat) (c4 : Nat) (y5 : Nat), (1 ≤ c4) → (c4 ≤ K) → (y5 = it (fun p => mv (fr + p)) c4 pt) → (y5 < n) → (K - c4 < fuel) → J X mX8_ringFrom d kc ks 10 [some (.ref 19), some (.ref 20), some (.int (nI fr)), some (.int (nI pt)), some (.int (nI c4)), some (.int (nI y5))] [] w (pI (fun v => ∃ k : Nat, v = nI k ∧ 1 ≤ k ∧ k ≤ n ∧ it (fun p => mv (fr + p)) k pt = pt ∧ (∀ j, 1 ≤ j → j < k → it (fun p => mv (fr + p)) j pt ≠ pt)) (fun w' => w' = w)) := by
    intro fuellp10_2
    induction fuellp10_2 with
    | zero => intros; omega
    | succ fuellp10_2 ihlp10_2 =>
      intro c4 y5 hv10_0 hv10_1 hv10_2 hv10_3 hf3
      refine J_iload (pc := 10) dX8_ringFrom_10 rfl ?_
      refine J_iload_n (pc := 12) dX8_ringFrom_12 rfl rfl ?_
      refine J_icmp_eqN (pc := 13) (tgt := 30) dX8_ringFrom_13 (by decide) (by omega) (by omega) (fun ht4 => ?_) (fun hf5 => ?_)
      · have h30 : c4 = K := by
          refine Nat.le_antisymm (by assumption) (Nat.not_lt.mp fun e => hK4 c4 (by assumption) e ?_)
          rw [← hv10_2]; assumption
        refine J_iload (pc := 30) dX8_ringFrom_30 rfl ?_
        exact J_iret (pc := 32) dX8_ringFrom_32 rfl ⟨⟨c4, rfl, by rw [h30]; exact ⟨hK1, hK2, hK3, hK4⟩⟩, rfl⟩
      · have h16 : c4 ≠ K := fun e => absurd (show y5 = pt by rw [hv10_2, e]; exact hK3) (by assumption)
        refine J_iincN (pc := 16) (b := 1) dX8_ringFrom_16 rfl (by decide) (by decide) rfl ?_
        show J X mX8_ringFrom d kc ks 19 [some (.ref 19), some (.ref 20), some (.int (nI fr)), some (.int (nI pt)), some (.int (nI (c4 + 1))), some (.int (nI y5))] [] w _
        refine J_aload_n (pc := 19) dX8_ringFrom_19 rfl rfl rfl ?_
        refine J_iload_n (pc := 20) dX8_ringFrom_20 rfl rfl ?_
        refine J_iload (pc := 21) dX8_ringFrom_21 rfl ?_
        refine J_iaddN (pc := 23) dX8_ringFrom_23 ?_
        refine J_ialdF (pc := 24) dX8_ringFrom_24 h20 (by omega) (by decide) ?_
        have hq6 := gm (fr + y5)
        refine J_istore (pc := 25) dX8_ringFrom_25 (by decide) rfl ?_
        show J X mX8_ringFrom d kc ks 27 [some (.ref 19), some (.ref 20), some (.int (nI fr)), some (.int (nI pt)), some (.int (nI (c4 + 1))), some (.int (nI (mv (fr + y5))))] [] w _
        refine J_goto (pc := 27) (tgt := 10) dX8_ringFrom_27 (by decide) ?_
        exact J_sub (L' := [some (.ref 19), some (.ref 20), some (.int (nI fr)), some (.int (nI pt)), some (.int (nI (c4 + 1))), some (.int (nI (mv (fr + y5))))]) ⟨rfl, ⟨rfl, ⟨rfl, ⟨rfl, ⟨rfl, ⟨rfl, trivial⟩⟩⟩⟩⟩⟩ (ihlp10_2 (c4 + 1) (mv (fr + y5)) (by first | assumption | omega) (by first | assumption | omega) (by rw [hv10_2]; rfl) (by exact hy1.1 y5 hv10_3) (by omega))
  exact J_sub (L' := [some (.ref 19), some (.ref 20), some (.int (nI fr)), some (.int (nI pt)), some (.int (nI 1)), some (.int (nI (mv (fr + pt))))]) ⟨rfl, ⟨rfl, ⟨rfl, ⟨rfl, ⟨rfl, ⟨rfl, trivial⟩⟩⟩⟩⟩⟩ (lp10_2 _ 1 (mv (fr + pt)) (by first | assumption | omega) (by first | assumption | omega) (by rfl) (by exact hy1.1 pt hy2) (Nat.lt_succ_self _))
set_option maxRecDepth 100000 in
set_option maxHeartbeats 4000000 in
theorem c_X8_orderOf_at20 {X : jX} (hs : X.1.stackTraces = false) {d : Nat} (hd : 9 ≤ d) {n : Nat} {mv rw nx : Nat → Nat} {b : Nat} {bt : List Int32} {kn en dn rf kk th : Int32} {w : List jC} (hR : RM n mv rw nx b bt kn en dn rf kk th w) (hn1 : 2 ≤ n) (hn2 : n ≤ 7) (gm : ∀ i, mv i < 7) (gr : ∀ i, rw i < 7) (gx : ∀ i, nx i < 7) (fr : Nat) (hy0 : fr + n ≤ 42) (hy1 : Pn n (fun p => mv (fr + p))) {kc ks : Nat} : jMet X mX8_orderOf d kc ks [.ref 19, .ref 20, .int (nI fr)] w (pI (fun v => ∃ k : Nat, v = nI k ∧ 1 ≤ k ∧ k ≤ 420) (fun w' => w' = w)) := by
  refine jMet_of hs (by decide +kernel) (Nat.le_of_ble_eq_true rfl) (L := [some (.ref 19), some (.ref 20), some (.int (nI fr)), none, none, none]) rfl ?_
  have hfc := fc_7 hn2
  have hfp := fc_pos n
  obtain ⟨h19, h20, h21, h22, hbb, hbl, hb3⟩ := hR
  have hF : FR b b w w := FR.rf
  refine J_iconst (pc := 0) (v := nI 1) dX8_orderOf_0 (by decide) ?_
  refine J_istore_n (pc := 1) dX8_orderOf_1 rfl (by decide) rfl ?_
  show J X mX8_orderOf d kc ks 2 [some (.ref 19), some (.ref 20), some (.int (nI fr)), some (.int (nI 1)), none, none] [] w _
  refine J_iconst (pc := 2) (v := nI 0) dX8_orderOf_2 (by decide) ?_
  refine J_istore (pc := 3) dX8_orderOf_3 (by decide) rfl ?_
  show J X mX8_orderOf d kc ks 5 [some (.ref 19), some (.ref 20), some (.int (nI fr)), some (.int (nI 1)), some (.int (nI 0)), none] [] w _
  have lp5_1 : ∀ (fuel : Nat) (y3 : Nat) (c4 : Nat), (1 ≤ y3) → (y3 ∣ 420) → (c4 ≤ n) → (n - c4 < fuel) → J X mX8_orderOf d kc ks 5 [some (.ref 19), some (.ref 20), some (.int (nI fr)), some (.int (nI y3)), some (.int (nI c4)), none] [] w (pI (fun v => ∃ k : Nat, v = nI k ∧ 1 ≤ k ∧ k ≤ 420) (fun w' => w' = w)) := by
    intro fuellp5_1
    induction fuellp5_1 with
    | zero => intros; omega
    | succ fuellp5_1 ihlp5_1 =>
      intro y3 c4 hv5_0 hv5_1 hv5_2 hf2
      refine J_iload (pc := 5) dX8_orderOf_5 rfl ?_
      refine J_aload_n (pc := 7) dX8_orderOf_7 rfl rfl rfl ?_
      refine J_get (pc := 8) (k := 0) dX8_orderOf_8 kC9 (by decide) ff_X8_7 h19 rfl ?_
      refine J_icmp_geN (pc := 11) (tgt := 42) dX8_orderOf_11 (by decide) (by omega) (by omega) (fun ht3 => ?_) (fun hf4 => ?_)
      · refine J_iload_n (pc := 42) dX8_orderOf_42 rfl rfl ?_
        exact J_iret (pc := 43) dX8_orderOf_43 rfl ⟨⟨y3, rfl, by exact ⟨hv5_0, Nat.le_of_dvd (by decide) hv5_1⟩⟩, rfl⟩
      · refine J_aload_n (pc := 14) dX8_orderOf_14 rfl rfl rfl ?_
        refine J_aload_n (pc := 15) dX8_orderOf_15 rfl rfl rfl ?_
        refine J_iload_n (pc := 16) dX8_orderOf_16 rfl rfl ?_
        refine J_iload (pc := 17) dX8_orderOf_17 rfl ?_
        refine J_callV0 (pc := 19) (M := mX8_orderOf) (as := [.ref 20, .int (nI fr), .int (nI c4)]) dX8_orderOf_19 fw_X8_ringFrom fl_X8_61 fm_X8_ringFrom fe_X8_ringFrom h19 (by decide) rfl rfl rfl (c_X8_ringFrom_at20 hs (d := d - 1) (by omega) (w := w) (n := n) (mv := mv) (rw := rw) (nx := nx) (b := b) (bt := bt) (kn := kn) (en := en) (dn := dn) (rf := rf) (kk := kk) (th := th) ⟨h19, h20, h21, h22, hbb, hbl, hb3⟩ hn1 hn2 gm gr gx fr c4 (by first | assumption | omega) (by first | assumption | omega) (by first | assumption | omega) (kc := 0) (ks := 0)) (by omega) (st := []) (Nat.le_of_ble_eq_true rfl) rfl (kr_P fun v5 hv5 => ?_) kx_I
        obtain ⟨k5, rfl, hk5⟩ := hv5
        have hq31 := ord_step (r := k5) hv5_0 hv5_1 (by omega) (by omega)
        have hq32 := Nat.gcd_le_left k5 hv5_0
        refine J_istore (pc := 22) dX8_orderOf_22 (by decide) rfl ?_
        show J X mX8_orderOf d kc ks 24 [some (.ref 19), some (.ref 20), some (.int (nI fr)), some (.int (nI y3)), some (.int (nI c4)), some (.int (nI k5))] [] w _
        have hq24 := Nat.le_of_dvd (by decide) hv5_1
        refine J_iload_n (pc := 24) dX8_orderOf_24 rfl rfl ?_
        refine J_iload_n (pc := 25) dX8_orderOf_25 rfl rfl ?_
        refine J_iload (pc := 26) dX8_orderOf_26 rfl ?_
        refine J_callS0 (pc := 28) (M := mX8_orderOf) (as := [.int (nI y3), .int (nI k5)]) dX8_orderOf_28 fw_X8_gcd fl_X8_57 fs_X8_gcd rfl (c_X8_gcd hs (d := d - 1) (by omega) (w := w) y3 k5 (by first | assumption | omega) (by first | assumption | omega) (kc := 0) (ks := 0)) (by omega) (st := [.int (nI y3)]) (Nat.le_of_ble_eq_true rfl) rfl (kr_P fun v6 hv6 => ?_) kx_I
        subst hv6
        have hm7 := Nat.mod_lt y3 (show 0 < Nat.gcd y3 k5 by exact hq31.1)
        have hm8 := Nat.div_le_self y3 (Nat.gcd y3 k5)
        refine J_idivN (pc := 31) dX8_orderOf_31 (by omega) (by exact hq31.1) (by omega) ?_
        refine J_iload (pc := 32) dX8_orderOf_32 rfl ?_
        refine J_imulN (pc := 34) dX8_orderOf_34 ?_
        refine J_istore_n (pc := 35) dX8_orderOf_35 rfl (by decide) rfl ?_
        show J X mX8_orderOf d kc ks 36 [some (.ref 19), some (.ref 20), some (.int (nI fr)), some (.int (nI ((y3 / (Nat.gcd y3 k5)) * k5))), some (.int (nI c4)), some (.int (nI k5))] [] w _
        refine J_iincN (pc := 36) (b := 1) dX8_orderOf_36 rfl (by decide) (by decide) rfl ?_
        show J X mX8_orderOf d kc ks 39 [some (.ref 19), some (.ref 20), some (.int (nI fr)), some (.int (nI ((y3 / (Nat.gcd y3 k5)) * k5))), some (.int (nI (c4 + 1))), some (.int (nI k5))] [] w _
        refine J_goto (pc := 39) (tgt := 5) dX8_orderOf_39 (by decide) ?_
        exact J_sub (L' := [some (.ref 19), some (.ref 20), some (.int (nI fr)), some (.int (nI ((y3 / (Nat.gcd y3 k5)) * k5))), some (.int (nI (c4 + 1))), none]) ⟨rfl, ⟨rfl, ⟨rfl, ⟨rfl, ⟨rfl, trivial⟩⟩⟩⟩⟩ (ihlp5_1 ((y3 / (Nat.gcd y3 k5)) * k5) (c4 + 1) (by first | assumption | omega) (by exact hq31.2.2) (by first | assumption | omega) (by omega))
  exact J_sub (L' := [some (.ref 19), some (.ref 20), some (.int (nI fr)), some (.int (nI 1)), some (.int (nI 0)), none]) ⟨rfl, ⟨rfl, ⟨rfl, ⟨rfl, ⟨rfl, trivial⟩⟩⟩⟩⟩ (lp5_1 _ 1 0 (by first | assumption | omega) (by exact Nat.one_dvd _) (by first | assumption | omega) (Nat.lt_succ_self _))
set_option maxRecDepth 100000 in
set_option maxHeartbeats 4000000 in
theorem c_X8_numberOf_at21 {X : jX} (hs : X.1.stackTraces = false) {d : Nat} (hd : 0 ≤ d) {n : Nat} {mv rw nx : Nat → Nat} {b : Nat} {bt : List Int32} {kn en dn rf kk th : Int32} {w : List jC} (hR : RM n mv rw nx b bt kn en dn rf kk th w) (hn1 : 2 ≤ n) (hn2 : n ≤ 7) (gm : ∀ i, mv i < 7) (gr : ∀ i, rw i < 7) (gx : ∀ i, nx i < 7) (fr : Nat) (hy0 : fr + n ≤ 7) {kc ks : Nat} : jMet X mX8_numberOf d kc ks [.ref 19, .ref 21, .int (nI fr)] w (pI (fun v => v = nI (nuF rw fr n n)) (fun w' => w' = w)) := by
  refine jMet_of hs (by decide +kernel) (Nat.le_of_ble_eq_true rfl) (L := [some (.ref 19), some (.ref 21), some (.int (nI fr)), none, none, none, none]) rfl ?_
  have hfc := fc_7 hn2
  have hfp := fc_pos n
  obtain ⟨h19, h20, h21, h22, hbb, hbl, hb3⟩ := hR
  have hF : FR b b w w := FR.rf
  refine J_iconst (pc := 0) (v := nI 0) dX8_numberOf_0 (by decide) ?_
  refine J_istore_n (pc := 1) dX8_numberOf_1 rfl (by decide) rfl ?_
  show J X mX8_numberOf d kc ks 2 [some (.ref 19), some (.ref 21), some (.int (nI fr)), some (.int (nI 0)), none, none, none] [] w _
  refine J_iconst (pc := 2) (v := nI 0) dX8_numberOf_2 (by decide) ?_
  refine J_istore (pc := 3) dX8_numberOf_3 (by decide) rfl ?_
  show J X mX8_numberOf d kc ks 5 [some (.ref 19), some (.ref 21), some (.int (nI fr)), some (.int (nI 0)), some (.int (nI 0)), none, none] [] w _
  have lp5_1 : ∀ (fuel : Nat) (y3 : Nat) (c4 : Nat), (y3 = nuF rw fr n c4) → (c4 ≤ n) → (n - c4 < fuel) → J X mX8_numberOf d kc ks 5 [some (.ref 19), some (.ref 21), some (.int (nI fr)), some (.int (nI y3)), some (.int (nI c4)), none, none] [] w (pI (fun v => v = nI (nuF rw fr n n)) (fun w' => w' = w)) := by
    intro fuellp5_1
    induction fuellp5_1 with
    | zero => intros; omega
    | succ fuellp5_1 ihlp5_1 =>
      intro y3 c4 hv5_0 hv5_1 hf2
      refine J_iload (pc := 5) dX8_numberOf_5 rfl ?_
      refine J_aload_n (pc := 7) dX8_numberOf_7 rfl rfl rfl ?_
      refine J_get (pc := 8) (k := 0) dX8_numberOf_8 kC9 (by decide) ff_X8_7 h19 rfl ?_
      refine J_icmp_geN (pc := 11) (tgt := 82) dX8_numberOf_11 (by decide) (by omega) (by omega) (fun ht3 => ?_) (fun hf4 => ?_)
      · refine J_iload_n (pc := 82) dX8_numberOf_82 rfl rfl ?_
        exact J_iret (pc := 83) dX8_numberOf_83 rfl ⟨(congrArg nI (by rw [hv5_0, show c4 = n by omega])), rfl⟩
      · refine J_iconst (pc := 14) (v := nI 0) dX8_numberOf_14 (by decide) ?_
        refine J_istore (pc := 15) dX8_numberOf_15 (by decide) rfl ?_
        show J X mX8_numberOf d kc ks 17 [some (.ref 19), some (.ref 21), some (.int (nI fr)), some (.int (nI y3)), some (.int (nI c4)), some (.int (nI 0)), none] [] w _
        refine J_iload (pc := 17) dX8_numberOf_17 rfl ?_
        refine J_iconst (pc := 19) (v := nI 1) dX8_numberOf_19 (by decide) ?_
        refine J_iaddN (pc := 20) dX8_numberOf_20 ?_
        refine J_istore (pc := 21) dX8_numberOf_21 (by decide) rfl ?_
        show J X mX8_numberOf d kc ks 23 [some (.ref 19), some (.ref 21), some (.int (nI fr)), some (.int (nI y3)), some (.int (nI c4)), some (.int (nI 0)), some (.int (nI (c4 + 1)))] [] w _
        have lp23_5 : ∀ (fuel : Nat) (y5 : Nat) (c6 : Nat), (c4 + 1 ≤ c6) → (c6 ≤ n) → (y5 = les rw fr c4 c6) → (n - c6 < fuel) → J X mX8_numberOf d kc ks 23 [some (.ref 19), some (.ref 21), some (.int (nI fr)), some (.int (nI y3)), some (.int (nI c4)), some (.int (nI y5)), some (.int (nI c6))] [] w (pI (fun v => v = nI (nuF rw fr n n)) (fun w' => w' = w)) := by
          intro fuellp23_5
          induction fuellp23_5 with
          | zero => intros; omega
          | succ fuellp23_5 ihlp23_5 =>
            intro y5 c6 hv23_0 hv23_1 hv23_2 hf6
            refine J_iload (pc := 23) dX8_numberOf_23 rfl ?_
            refine J_aload_n (pc := 25) dX8_numberOf_25 rfl rfl rfl ?_
            refine J_get (pc := 26) (k := 0) dX8_numberOf_26 kC9 (by decide) ff_X8_7 h19 rfl ?_
            refine J_icmp_geN (pc := 29) (tgt := 63) dX8_numberOf_29 (by decide) (by omega) (by omega) (fun ht7 => ?_) (fun hf8 => ?_)
            · refine J_iload_n (pc := 63) dX8_numberOf_63 rfl rfl ?_
              refine J_aload_n (pc := 64) dX8_numberOf_64 rfl rfl rfl ?_
              refine J_get (pc := 65) (k := 0) dX8_numberOf_65 kC9 (by decide) ff_X8_7 h19 rfl ?_
              refine J_iload (pc := 68) dX8_numberOf_68 rfl ?_
              refine J_isubN (pc := 70) dX8_numberOf_70 (by omega) ?_
              refine J_imulN (pc := 71) dX8_numberOf_71 ?_
              refine J_iload (pc := 72) dX8_numberOf_72 rfl ?_
              refine J_iaddN (pc := 74) dX8_numberOf_74 ?_
              refine J_istore_n (pc := 75) dX8_numberOf_75 rfl (by decide) rfl ?_
              show J X mX8_numberOf d kc ks 76 [some (.ref 19), some (.ref 21), some (.int (nI fr)), some (.int (nI ((y3 * (n - c4)) + y5))), some (.int (nI c4)), some (.int (nI y5)), some (.int (nI c6))] [] w _
              refine J_iincN (pc := 76) (b := 1) dX8_numberOf_76 rfl (by decide) (by decide) rfl ?_
              show J X mX8_numberOf d kc ks 79 [some (.ref 19), some (.ref 21), some (.int (nI fr)), some (.int (nI ((y3 * (n - c4)) + y5))), some (.int (nI (c4 + 1))), some (.int (nI y5)), some (.int (nI c6))] [] w _
              refine J_goto (pc := 79) (tgt := 5) dX8_numberOf_79 (by decide) ?_
              exact J_sub (L' := [some (.ref 19), some (.ref 21), some (.int (nI fr)), some (.int (nI ((y3 * (n - c4)) + y5))), some (.int (nI (c4 + 1))), none, none]) ⟨rfl, ⟨rfl, ⟨rfl, ⟨rfl, ⟨rfl, trivial⟩⟩⟩⟩⟩ (ihlp5_1 ((y3 * (n - c4)) + y5) (c4 + 1) (by simp only [nuF]; rw [← hv5_0, hv23_2, show c6 = n by omega]) (by first | assumption | omega) (by omega))
            · refine J_iload (pc := 32) dX8_numberOf_32 rfl ?_
              refine J_aload_n (pc := 34) dX8_numberOf_34 rfl rfl rfl ?_
              refine J_iload_n (pc := 35) dX8_numberOf_35 rfl rfl ?_
              refine J_iload (pc := 36) dX8_numberOf_36 rfl ?_
              refine J_iaddN (pc := 38) dX8_numberOf_38 ?_
              refine J_ialdF (pc := 39) dX8_numberOf_39 h21 (by omega) (by decide) ?_
              have hq9 := gr (fr + c6)
              refine J_aload_n (pc := 40) dX8_numberOf_40 rfl rfl rfl ?_
              refine J_iload_n (pc := 41) dX8_numberOf_41 rfl rfl ?_
              refine J_iload (pc := 42) dX8_numberOf_42 rfl ?_
              refine J_iaddN (pc := 44) dX8_numberOf_44 ?_
              refine J_ialdF (pc := 45) dX8_numberOf_45 h21 (by omega) (by decide) ?_
              have hq10 := gr (fr + c4)
              refine J_icmp_geN (pc := 46) (tgt := 53) dX8_numberOf_46 (by decide) (by omega) (by omega) (fun ht11 => ?_) (fun hf12 => ?_)
              · refine J_iconst (pc := 53) (v := nI 0) dX8_numberOf_53 (by decide) ?_
                refine J_iaddN (pc := 54) dX8_numberOf_54 ?_
                refine J_istore (pc := 55) dX8_numberOf_55 (by decide) rfl ?_
                show J X mX8_numberOf d kc ks 57 [some (.ref 19), some (.ref 21), some (.int (nI fr)), some (.int (nI y3)), some (.int (nI c4)), some (.int (nI (y5 + 0))), some (.int (nI c6))] [] w _
                refine J_iincN (pc := 57) (b := 1) dX8_numberOf_57 rfl (by decide) (by decide) rfl ?_
                show J X mX8_numberOf d kc ks 60 [some (.ref 19), some (.ref 21), some (.int (nI fr)), some (.int (nI y3)), some (.int (nI c4)), some (.int (nI (y5 + 0))), some (.int (nI (c6 + 1)))] [] w _
                refine J_goto (pc := 60) (tgt := 23) dX8_numberOf_60 (by decide) ?_
                exact J_sub (L' := [some (.ref 19), some (.ref 21), some (.int (nI fr)), some (.int (nI y3)), some (.int (nI c4)), some (.int (nI (y5 + 0))), some (.int (nI (c6 + 1)))]) ⟨rfl, ⟨rfl, ⟨rfl, ⟨rfl, ⟨rfl, ⟨rfl, ⟨rfl, trivial⟩⟩⟩⟩⟩⟩⟩ (ihlp23_5 (y5 + 0) (c6 + 1) (by first | assumption | omega) (by first | assumption | omega) (by simp only [les]; split <;> omega) (by omega))
              · refine J_iconst (pc := 49) (v := nI 1) dX8_numberOf_49 (by decide) ?_
                refine J_goto (pc := 50) (tgt := 54) dX8_numberOf_50 (by decide) ?_
                refine J_iaddN (pc := 54) dX8_numberOf_54 ?_
                refine J_istore (pc := 55) dX8_numberOf_55 (by decide) rfl ?_
                show J X mX8_numberOf d kc ks 57 [some (.ref 19), some (.ref 21), some (.int (nI fr)), some (.int (nI y3)), some (.int (nI c4)), some (.int (nI (y5 + 1))), some (.int (nI c6))] [] w _
                refine J_iincN (pc := 57) (b := 1) dX8_numberOf_57 rfl (by decide) (by decide) rfl ?_
                show J X mX8_numberOf d kc ks 60 [some (.ref 19), some (.ref 21), some (.int (nI fr)), some (.int (nI y3)), some (.int (nI c4)), some (.int (nI (y5 + 1))), some (.int (nI (c6 + 1)))] [] w _
                refine J_goto (pc := 60) (tgt := 23) dX8_numberOf_60 (by decide) ?_
                exact J_sub (L' := [some (.ref 19), some (.ref 21), some (.int (nI fr)), some (.int (nI y3)), some (.int (nI c4)), some (.int (nI (y5 + 1))), some (.int (nI (c6 + 1)))]) ⟨rfl, ⟨rfl, ⟨rfl, ⟨rfl, ⟨rfl, ⟨rfl, ⟨rfl, trivial⟩⟩⟩⟩⟩⟩⟩ (ihlp23_5 (y5 + 1) (c6 + 1) (by first | assumption | omega) (by first | assumption | omega) (by simp only [les]; split <;> omega) (by omega))
        exact J_sub (L' := [some (.ref 19), some (.ref 21), some (.int (nI fr)), some (.int (nI y3)), some (.int (nI c4)), some (.int (nI 0)), some (.int (nI (c4 + 1)))]) ⟨rfl, ⟨rfl, ⟨rfl, ⟨rfl, ⟨rfl, ⟨rfl, ⟨rfl, trivial⟩⟩⟩⟩⟩⟩⟩ (lp23_5 _ 0 (c4 + 1) (by first | assumption | omega) (by first | assumption | omega) (by exact (les_0 rw fr c4 _ (Nat.le_refl _)).symm) (Nat.lt_succ_self _))
  exact J_sub (L' := [some (.ref 19), some (.ref 21), some (.int (nI fr)), some (.int (nI 0)), some (.int (nI 0)), none, none]) ⟨rfl, ⟨rfl, ⟨rfl, ⟨rfl, ⟨rfl, trivial⟩⟩⟩⟩⟩ (lp5_1 _ 0 0 (by rfl) (by first | assumption | omega) (Nat.lt_succ_self _))
set_option maxRecDepth 100000 in
set_option maxHeartbeats 4000000 in
theorem c_X8_signOf_at21 {X : jX} (hs : X.1.stackTraces = false) {d : Nat} (hd : 0 ≤ d) {n : Nat} {mv rw nx : Nat → Nat} {b : Nat} {bt : List Int32} {kn en dn rf kk th : Int32} {w : List jC} (hR : RM n mv rw nx b bt kn en dn rf kk th w) (hn1 : 2 ≤ n) (hn2 : n ≤ 7) (gm : ∀ i, mv i < 7) (gr : ∀ i, rw i < 7) (gx : ∀ i, nx i < 7) (fr : Nat) (hy0 : fr + n ≤ 7) {kc ks : Nat} : jMet X mX8_signOf d kc ks [.ref 19, .ref 21, .int (nI fr)] w (pI (fun _ => True) (fun w' => w' = w)) := by
  refine jMet_of hs (by decide +kernel) (Nat.le_of_ble_eq_true rfl) (L := [some (.ref 19), some (.ref 21), some (.int (nI fr)), none, none, none]) rfl ?_
  have hfc := fc_7 hn2
  have hfp := fc_pos n
  obtain ⟨h19, h20, h21, h22, hbb, hbl, hb3⟩ := hR
  have hF : FR b b w w := FR.rf
  refine J_iconst (pc := 0) (v := nI 1) dX8_signOf_0 (by decide) ?_
  refine J_istore_n (pc := 1) dX8_signOf_1 rfl (by decide) rfl ?_
  show J X mX8_signOf d kc ks 2 [some (.ref 19), some (.ref 21), some (.int (nI fr)), some (.int (nI 1)), none, none] [] w _
  refine J_iconst (pc := 2) (v := nI 0) dX8_signOf_2 (by decide) ?_
  refine J_istore (pc := 3) dX8_signOf_3 (by decide) rfl ?_
  show J X mX8_signOf d kc ks 5 [some (.ref 19), some (.ref 21), some (.int (nI fr)), some (.int (nI 1)), some (.int (nI 0)), none] [] w _
  have lp5_1 : ∀ (fuel : Nat) (z3 : Int32) (c4 : Nat), (c4 ≤ n) → (n - c4 < fuel) → J X mX8_signOf d kc ks 5 [some (.ref 19), some (.ref 21), some (.int (nI fr)), some (.int z3), some (.int (nI c4)), none] [] w (pI (fun _ => True) (fun w' => w' = w)) := by
    intro fuellp5_1
    induction fuellp5_1 with
    | zero => intros; omega
    | succ fuellp5_1 ihlp5_1 =>
      intro z3 c4 hv5_0 hf2
      refine J_iload (pc := 5) dX8_signOf_5 rfl ?_
      refine J_aload_n (pc := 7) dX8_signOf_7 rfl rfl rfl ?_
      refine J_get (pc := 8) (k := 0) dX8_signOf_8 kC9 (by decide) ff_X8_7 h19 rfl ?_
      refine J_icmp_geN (pc := 11) (tgt := 54) dX8_signOf_11 (by decide) (by omega) (by omega) (fun ht3 => ?_) (fun hf4 => ?_)
      · refine J_iload_n (pc := 54) dX8_signOf_54 rfl rfl ?_
        exact J_iret (pc := 55) dX8_signOf_55 rfl ⟨trivial, rfl⟩
      · refine J_iconst (pc := 14) (v := nI 0) dX8_signOf_14 (by decide) ?_
        refine J_istore (pc := 15) dX8_signOf_15 (by decide) rfl ?_
        show J X mX8_signOf d kc ks 17 [some (.ref 19), some (.ref 21), some (.int (nI fr)), some (.int z3), some (.int (nI c4)), some (.int (nI 0))] [] w _
        have lp17_5 : ∀ (fuel : Nat) (z3 : Int32) (c5 : Nat), (c5 ≤ c4) → (c4 - c5 < fuel) → J X mX8_signOf d kc ks 17 [some (.ref 19), some (.ref 21), some (.int (nI fr)), some (.int z3), some (.int (nI c4)), some (.int (nI c5))] [] w (pI (fun _ => True) (fun w' => w' = w)) := by
          intro fuellp17_5
          induction fuellp17_5 with
          | zero => intros; omega
          | succ fuellp17_5 ihlp17_5 =>
            intro z3 c5 hv17_0 hf6
            refine J_iload (pc := 17) dX8_signOf_17 rfl ?_
            refine J_iload (pc := 19) dX8_signOf_19 rfl ?_
            refine J_icmp_geN (pc := 21) (tgt := 48) dX8_signOf_21 (by decide) (by omega) (by omega) (fun ht7 => ?_) (fun hf8 => ?_)
            · refine J_iincN (pc := 48) (b := 1) dX8_signOf_48 rfl (by decide) (by decide) rfl ?_
              show J X mX8_signOf d kc ks 51 [some (.ref 19), some (.ref 21), some (.int (nI fr)), some (.int z3), some (.int (nI (c4 + 1))), some (.int (nI c5))] [] w _
              refine J_goto (pc := 51) (tgt := 5) dX8_signOf_51 (by decide) ?_
              exact J_sub (L' := [some (.ref 19), some (.ref 21), some (.int (nI fr)), some (.int z3), some (.int (nI (c4 + 1))), none]) ⟨rfl, ⟨rfl, ⟨rfl, ⟨rfl, ⟨rfl, trivial⟩⟩⟩⟩⟩ (ihlp5_1 z3 (c4 + 1) (by first | assumption | omega) (by omega))
            · refine J_aload_n (pc := 24) dX8_signOf_24 rfl rfl rfl ?_
              refine J_iload_n (pc := 25) dX8_signOf_25 rfl rfl ?_
              refine J_iload (pc := 26) dX8_signOf_26 rfl ?_
              refine J_iaddN (pc := 28) dX8_signOf_28 ?_
              refine J_ialdF (pc := 29) dX8_signOf_29 h21 (by omega) (by decide) ?_
              have hq9 := gr (fr + c5)
              refine J_aload_n (pc := 30) dX8_signOf_30 rfl rfl rfl ?_
              refine J_iload_n (pc := 31) dX8_signOf_31 rfl rfl ?_
              refine J_iload (pc := 32) dX8_signOf_32 rfl ?_
              refine J_iaddN (pc := 34) dX8_signOf_34 ?_
              refine J_ialdF (pc := 35) dX8_signOf_35 h21 (by omega) (by decide) ?_
              have hq10 := gr (fr + c4)
              refine J_icmp_leN (pc := 36) (tgt := 42) dX8_signOf_36 (by decide) (by omega) (by omega) (fun ht11 => ?_) (fun hf12 => ?_)
              · refine J_iincN (pc := 42) (b := 1) dX8_signOf_42 rfl (by decide) (by decide) rfl ?_
                show J X mX8_signOf d kc ks 45 [some (.ref 19), some (.ref 21), some (.int (nI fr)), some (.int z3), some (.int (nI c4)), some (.int (nI (c5 + 1)))] [] w _
                refine J_goto (pc := 45) (tgt := 17) dX8_signOf_45 (by decide) ?_
                exact J_sub (L' := [some (.ref 19), some (.ref 21), some (.int (nI fr)), some (.int z3), some (.int (nI c4)), some (.int (nI (c5 + 1)))]) ⟨rfl, ⟨rfl, ⟨rfl, ⟨rfl, ⟨rfl, ⟨rfl, trivial⟩⟩⟩⟩⟩⟩ (ihlp17_5 z3 (c5 + 1) (by first | assumption | omega) (by omega))
              · refine J_iload_n (pc := 39) dX8_signOf_39 rfl rfl ?_
                refine J_ineg (pc := 40) dX8_signOf_40 (J_absI fun x13 => ?_)
                refine J_istore_n (pc := 41) dX8_signOf_41 rfl (by decide) rfl ?_
                show J X mX8_signOf d kc ks 42 [some (.ref 19), some (.ref 21), some (.int (nI fr)), some (.int x13), some (.int (nI c4)), some (.int (nI c5))] [] w _
                refine J_iincN (pc := 42) (b := 1) dX8_signOf_42 rfl (by decide) (by decide) rfl ?_
                show J X mX8_signOf d kc ks 45 [some (.ref 19), some (.ref 21), some (.int (nI fr)), some (.int x13), some (.int (nI c4)), some (.int (nI (c5 + 1)))] [] w _
                refine J_goto (pc := 45) (tgt := 17) dX8_signOf_45 (by decide) ?_
                exact J_sub (L' := [some (.ref 19), some (.ref 21), some (.int (nI fr)), some (.int x13), some (.int (nI c4)), some (.int (nI (c5 + 1)))]) ⟨rfl, ⟨rfl, ⟨rfl, ⟨rfl, ⟨rfl, ⟨rfl, trivial⟩⟩⟩⟩⟩⟩ (ihlp17_5 x13 (c5 + 1) (by first | assumption | omega) (by omega))
        exact J_sub (L' := [some (.ref 19), some (.ref 21), some (.int (nI fr)), some (.int z3), some (.int (nI c4)), some (.int (nI 0))]) ⟨rfl, ⟨rfl, ⟨rfl, ⟨rfl, ⟨rfl, ⟨rfl, trivial⟩⟩⟩⟩⟩⟩ (lp17_5 _ z3 0 (by first | assumption | omega) (Nat.lt_succ_self _))
  exact J_sub (L' := [some (.ref 19), some (.ref 21), some (.int (nI fr)), some (.int (nI 1)), some (.int (nI 0)), none]) ⟨rfl, ⟨rfl, ⟨rfl, ⟨rfl, ⟨rfl, trivial⟩⟩⟩⟩⟩ (lp5_1 _ (nI 1) 0 (by first | assumption | omega) (Nat.lt_succ_self _))
set_option maxRecDepth 100000 in
set_option maxHeartbeats 4000000 in
theorem c_X8_ringFrom_at21 {X : jX} (hs : X.1.stackTraces = false) {d : Nat} (hd : 0 ≤ d) {n : Nat} {mv rw nx : Nat → Nat} {b : Nat} {bt : List Int32} {kn en dn rf kk th : Int32} {w : List jC} (hR : RM n mv rw nx b bt kn en dn rf kk th w) (hn1 : 2 ≤ n) (hn2 : n ≤ 7) (gm : ∀ i, mv i < 7) (gr : ∀ i, rw i < 7) (gx : ∀ i, nx i < 7) (fr : Nat) (pt : Nat) (hy0 : fr + n ≤ 7) (hy1 : Pn n (fun p => rw (fr + p))) (hy2 : pt < n) {kc ks : Nat} : jMet X mX8_ringFrom d kc ks [.ref 19, .ref 21, .int (nI fr), .int (nI pt)] w (pI (fun v => ∃ k : Nat, v = nI k ∧ 1 ≤ k ∧ k ≤ n ∧ it (fun p => rw (fr + p)) k pt = pt ∧ (∀ j, 1 ≤ j → j < k → it (fun p => rw (fr + p)) j pt ≠ pt)) (fun w' => w' = w)) := by
  refine jMet_of hs (by decide +kernel) (Nat.le_of_ble_eq_true rfl) (L := [some (.ref 19), some (.ref 21), some (.int (nI fr)), some (.int (nI pt)), none, none]) rfl ?_
  have hfc := fc_7 hn2
  have hfp := fc_pos n
  obtain ⟨h19, h20, h21, h22, hbb, hbl, hb3⟩ := hR
  have hF : FR b b w w := FR.rf
  obtain ⟨K, hK1, hK2, hK3, hK4⟩ := it_ret hy1 hy2
  refine J_iconst (pc := 0) (v := nI 1) dX8_ringFrom_0 (by decide) ?_
  refine J_istore (pc := 1) dX8_ringFrom_1 (by decide) rfl ?_
  show J X mX8_ringFrom d kc ks 3 [some (.ref 19), some (.ref 21), some (.int (nI fr)), some (.int (nI pt)), some (.int (nI 1)), none] [] w _
  refine J_aload_n (pc := 3) dX8_ringFrom_3 rfl rfl rfl ?_
  refine J_iload_n (pc := 4) dX8_ringFrom_4 rfl rfl ?_
  refine J_iload_n (pc := 5) dX8_ringFrom_5 rfl rfl ?_
  refine J_iaddN (pc := 6) dX8_ringFrom_6 ?_
  refine J_ialdF (pc := 7) dX8_ringFrom_7 h21 (by omega) (by decide) ?_
  have hq1 := gr (fr + pt)
  refine J_istore (pc := 8) dX8_ringFrom_8 (by decide) rfl ?_
  show J X mX8_ringFrom d kc ks 10 [some (.ref 19), some (.ref 21), some (.int (nI fr)), some (.int (nI pt)), some (.int (nI 1)), some (.int (nI (rw (fr + pt))))] [] w _
  have lp10_2 : ∀ (fuel : Nat) (c4 : Nat) (y5 : Nat), (1 ≤ c4) → (c4 ≤ K) → (y5 = it (fun p => rw (fr + p)) c4 pt) → (y5 < n) → (K - c4 < fuel) → J X mX8_ringFrom d kc ks 10 [some (.ref 19), some (.ref 21), some (.int (nI fr)), some (.int (nI pt)), some (.int (nI c4)), some (.int (nI y5))] [] w (pI (fun v => ∃ k : Nat, v = nI k ∧ 1 ≤ k ∧ k ≤ n ∧ it (fun p => rw (fr + p)) k pt = pt ∧ (∀ j, 1 ≤ j → j < k → it (fun p => rw (fr + p)) j pt ≠ pt)) (fun w' => w' = w)) := by
    intro fuellp10_2
    induction fuellp10_2 with
    | zero => intros; omega
    | succ fuellp10_2 ihlp10_2 =>
      intro c4 y5 hv10_0 hv10_1 hv10_2 hv10_3 hf3
      refine J_iload (pc := 10) dX8_ringFrom_10 rfl ?_
      refine J_iload_n (pc := 12) dX8_ringFrom_12 rfl rfl ?_
      refine J_icmp_eqN (pc := 13) (tgt := 30) dX8_ringFrom_13 (by decide) (by omega) (by omega) (fun ht4 => ?_) (fun hf5 => ?_)
      · have h30 : c4 = K := by
          refine Nat.le_antisymm (by assumption) (Nat.not_lt.mp fun e => hK4 c4 (by assumption) e ?_)
          rw [← hv10_2]; assumption
        refine J_iload (pc := 30) dX8_ringFrom_30 rfl ?_
        exact J_iret (pc := 32) dX8_ringFrom_32 rfl ⟨⟨c4, rfl, by rw [h30]; exact ⟨hK1, hK2, hK3, hK4⟩⟩, rfl⟩
      · have h16 : c4 ≠ K := fun e => absurd (show y5 = pt by rw [hv10_2, e]; exact hK3) (by assumption)
        refine J_iincN (pc := 16) (b := 1) dX8_ringFrom_16 rfl (by decide) (by decide) rfl ?_
        show J X mX8_ringFrom d kc ks 19 [some (.ref 19), some (.ref 21), some (.int (nI fr)), some (.int (nI pt)), some (.int (nI (c4 + 1))), some (.int (nI y5))] [] w _
        refine J_aload_n (pc := 19) dX8_ringFrom_19 rfl rfl rfl ?_
        refine J_iload_n (pc := 20) dX8_ringFrom_20 rfl rfl ?_
        refine J_iload (pc := 21) dX8_ringFrom_21 rfl ?_
        refine J_iaddN (pc := 23) dX8_ringFrom_23 ?_
        refine J_ialdF (pc := 24) dX8_ringFrom_24 h21 (by omega) (by decide) ?_
        have hq6 := gr (fr + y5)
        refine J_istore (pc := 25) dX8_ringFrom_25 (by decide) rfl ?_
        show J X mX8_ringFrom d kc ks 27 [some (.ref 19), some (.ref 21), some (.int (nI fr)), some (.int (nI pt)), some (.int (nI (c4 + 1))), some (.int (nI (rw (fr + y5))))] [] w _
        refine J_goto (pc := 27) (tgt := 10) dX8_ringFrom_27 (by decide) ?_
        exact J_sub (L' := [some (.ref 19), some (.ref 21), some (.int (nI fr)), some (.int (nI pt)), some (.int (nI (c4 + 1))), some (.int (nI (rw (fr + y5))))]) ⟨rfl, ⟨rfl, ⟨rfl, ⟨rfl, ⟨rfl, ⟨rfl, trivial⟩⟩⟩⟩⟩⟩ (ihlp10_2 (c4 + 1) (rw (fr + y5)) (by first | assumption | omega) (by first | assumption | omega) (by rw [hv10_2]; rfl) (by exact hy1.1 y5 hv10_3) (by omega))
  exact J_sub (L' := [some (.ref 19), some (.ref 21), some (.int (nI fr)), some (.int (nI pt)), some (.int (nI 1)), some (.int (nI (rw (fr + pt))))]) ⟨rfl, ⟨rfl, ⟨rfl, ⟨rfl, ⟨rfl, ⟨rfl, trivial⟩⟩⟩⟩⟩⟩ (lp10_2 _ 1 (rw (fr + pt)) (by first | assumption | omega) (by first | assumption | omega) (by rfl) (by exact hy1.1 pt hy2) (Nat.lt_succ_self _))
set_option maxRecDepth 100000 in
set_option maxHeartbeats 4000000 in
theorem c_X8_isFirst_at21 {X : jX} (hs : X.1.stackTraces = false) {d : Nat} (hd : 0 ≤ d) {n : Nat} {mv rw nx : Nat → Nat} {b : Nat} {bt : List Int32} {kn en dn rf kk th : Int32} {w : List jC} (hR : RM n mv rw nx b bt kn en dn rf kk th w) (hn1 : 2 ≤ n) (hn2 : n ≤ 7) (gm : ∀ i, mv i < 7) (gr : ∀ i, rw i < 7) (gx : ∀ i, nx i < 7) (fr : Nat) (pt : Nat) (hy0 : fr + n ≤ 7) (hy1 : Pn n (fun p => rw (fr + p))) (hy2 : pt < n) {kc ks : Nat} : jMet X mX8_isFirst d kc ks [.ref 19, .ref 21, .int (nI fr), .int (nI pt)] w (pI (fun v => ∃ k : Nat, v = nI k ∧ k < 2) (fun w' => w' = w)) := by
  refine jMet_of hs (by decide +kernel) (Nat.le_of_ble_eq_true rfl) (L := [some (.ref 19), some (.ref 21), some (.int (nI fr)), some (.int (nI pt)), none]) rfl ?_
  have hfc := fc_7 hn2
  have hfp := fc_pos n
  obtain ⟨h19, h20, h21, h22, hbb, hbl, hb3⟩ := hR
  have hF : FR b b w w := FR.rf
  obtain ⟨K, hK1, hK2, hK3, hK4⟩ := it_ret hy1 hy2
  refine J_aload_n (pc := 0) dX8_isFirst_0 rfl rfl rfl ?_
  refine J_iload_n (pc := 1) dX8_isFirst_1 rfl rfl ?_
  refine J_iload_n (pc := 2) dX8_isFirst_2 rfl rfl ?_
  refine J_iaddN (pc := 3) dX8_isFirst_3 ?_
  refine J_ialdF (pc := 4) dX8_isFirst_4 h21 (by omega) (by decide) ?_
  have hq1 := gr (fr + pt)
  refine J_istore (pc := 5) dX8_isFirst_5 (by decide) rfl ?_
  show J X mX8_isFirst d kc ks 7 [some (.ref 19), some (.ref 21), some (.int (nI fr)), some (.int (nI pt)), some (.int (nI (rw (fr + pt))))] [] w _
  have lp7_2 : ∀ (fuel : Nat) (y4 : Nat) (g7 : Nat), (1 ≤ g7) → (g7 ≤ K) → (y4 = it (fun p => rw (fr + p)) g7 pt) → (y4 < n) → (K - g7 < fuel) → J X mX8_isFirst d kc ks 7 [some (.ref 19), some (.ref 21), some (.int (nI fr)), some (.int (nI pt)), some (.int (nI y4))] [] w (pI (fun v => ∃ k : Nat, v = nI k ∧ k < 2) (fun w' => w' = w)) := by
    intro fuellp7_2
    induction fuellp7_2 with
    | zero => intros; omega
    | succ fuellp7_2 ihlp7_2 =>
      intro y4 g7 hv7_0 hv7_1 hv7_2 hv7_3 hf3
      refine J_iload (pc := 7) dX8_isFirst_7 rfl ?_
      refine J_iload_n (pc := 9) dX8_isFirst_9 rfl rfl ?_
      refine J_icmp_eqN (pc := 10) (tgt := 32) dX8_isFirst_10 (by decide) (by omega) (by omega) (fun ht4 => ?_) (fun hf5 => ?_)
      · refine J_iconst (pc := 32) (v := nI 1) dX8_isFirst_32 (by decide) ?_
        exact J_zret (pc := 33) dX8_isFirst_33 rfl (nar_b (by first | decide | omega)) ⟨⟨1, rfl, by omega⟩, rfl⟩
      · have h16 : g7 ≠ K := fun e => absurd (show y4 = pt by rw [hv7_2, e]; exact hK3) (by assumption)
        refine J_iload (pc := 13) dX8_isFirst_13 rfl ?_
        refine J_iload_n (pc := 15) dX8_isFirst_15 rfl rfl ?_
        refine J_icmp_geN (pc := 16) (tgt := 21) dX8_isFirst_16 (by decide) (by omega) (by omega) (fun ht6 => ?_) (fun hf7 => ?_)
        · refine J_aload_n (pc := 21) dX8_isFirst_21 rfl rfl rfl ?_
          refine J_iload_n (pc := 22) dX8_isFirst_22 rfl rfl ?_
          refine J_iload (pc := 23) dX8_isFirst_23 rfl ?_
          refine J_iaddN (pc := 25) dX8_isFirst_25 ?_
          refine J_ialdF (pc := 26) dX8_isFirst_26 h21 (by omega) (by decide) ?_
          have hq8 := gr (fr + y4)
          refine J_istore (pc := 27) dX8_isFirst_27 (by decide) rfl ?_
          show J X mX8_isFirst d kc ks 29 [some (.ref 19), some (.ref 21), some (.int (nI fr)), some (.int (nI pt)), some (.int (nI (rw (fr + y4))))] [] w _
          refine J_goto (pc := 29) (tgt := 7) dX8_isFirst_29 (by decide) ?_
          exact J_sub (L' := [some (.ref 19), some (.ref 21), some (.int (nI fr)), some (.int (nI pt)), some (.int (nI (rw (fr + y4))))]) ⟨rfl, ⟨rfl, ⟨rfl, ⟨rfl, ⟨rfl, trivial⟩⟩⟩⟩⟩ (ihlp7_2 (rw (fr + y4)) (g7 + 1) (by first | assumption | omega) (by first | assumption | omega) (by rw [hv7_2]; rfl) (by exact hy1.1 y4 hv7_3) (by omega))
        · refine J_iconst (pc := 19) (v := nI 0) dX8_isFirst_19 (by decide) ?_
          exact J_zret (pc := 20) dX8_isFirst_20 rfl (nar_b (by first | decide | omega)) ⟨⟨0, rfl, by omega⟩, rfl⟩
  exact J_sub (L' := [some (.ref 19), some (.ref 21), some (.int (nI fr)), some (.int (nI pt)), some (.int (nI (rw (fr + pt))))]) ⟨rfl, ⟨rfl, ⟨rfl, ⟨rfl, ⟨rfl, trivial⟩⟩⟩⟩⟩ (lp7_2 _ (rw (fr + pt)) 1 (by first | assumption | omega) (by first | assumption | omega) (by rfl) (by exact hy1.1 pt hy2) (Nat.lt_succ_self _))
set_option maxRecDepth 100000 in
set_option maxHeartbeats 4000000 in
theorem c_X8_ringsOf_at21 {X : jX} (hs : X.1.stackTraces = false) {d : Nat} (hd : 1 ≤ d) {n : Nat} {mv rw nx : Nat → Nat} {b : Nat} {bt : List Int32} {kn en dn rf kk th : Int32} {w : List jC} (hR : RM n mv rw nx b bt kn en dn rf kk th w) (hn1 : 2 ≤ n) (hn2 : n ≤ 7) (gm : ∀ i, mv i < 7) (gr : ∀ i, rw i < 7) (gx : ∀ i, nx i < 7) (fr : Nat) (hy0 : fr + n ≤ 7) (hy1 : Pn n (fun p => rw (fr + p))) {kc ks : Nat} : jMet X mX8_ringsOf d kc ks [.ref 19, .ref 21, .int (nI fr)] w (pI (fun v => ∃ k : Nat, v = nI k ∧ k ≤ n) (fun w' => w' = w)) := by
  refine jMet_of hs (by decide +kernel) (Nat.le_of_ble_eq_true rfl) (L := [some (.ref 19), some (.ref 21), some (.int (nI fr)), none, none]) rfl ?_
  have hfc := fc_7 hn2
  have hfp := fc_pos n
  obtain ⟨h19, h20, h21, h22, hbb, hbl, hb3⟩ := hR
  have hF : FR b b w w := FR.rf
  refine J_iconst (pc := 0) (v := nI 0) dX8_ringsOf_0 (by decide) ?_
  refine J_istore_n (pc := 1) dX8_ringsOf_1 rfl (by decide) rfl ?_
  show J X mX8_ringsOf d kc ks 2 [some (.ref 19), some (.ref 21), some (.int (nI fr)), some (.int (nI 0)), none] [] w _
  refine J_iconst (pc := 2) (v := nI 0) dX8_ringsOf_2 (by decide) ?_
  refine J_istore (pc := 3) dX8_ringsOf_3 (by decide) rfl ?_
  show J X mX8_ringsOf d kc ks 5 [some (.ref 19), some (.ref 21), some (.int (nI fr)), some (.int (nI 0)), some (.int (nI 0))] [] w _
  have lp5_1 : ∀ (fuel : Nat) (y3 : Nat) (c4 : Nat), (y3 ≤ c4) → (c4 ≤ n) → (n - c4 < fuel) → J X mX8_ringsOf d kc ks 5 [some (.ref 19), some (.ref 21), some (.int (nI fr)), some (.int (nI y3)), some (.int (nI c4))] [] w (pI (fun v => ∃ k : Nat, v = nI k ∧ k ≤ n) (fun w' => w' = w)) := by
    intro fuellp5_1
    induction fuellp5_1 with
    | zero => intros; omega
    | succ fuellp5_1 ihlp5_1 =>
      intro y3 c4 hv5_0 hv5_1 hf2
      refine J_iload (pc := 5) dX8_ringsOf_5 rfl ?_
      refine J_aload_n (pc := 7) dX8_ringsOf_7 rfl rfl rfl ?_
      refine J_get (pc := 8) (k := 0) dX8_ringsOf_8 kC9 (by decide) ff_X8_7 h19 rfl ?_
      refine J_icmp_geN (pc := 11) (tgt := 39) dX8_ringsOf_11 (by decide) (by omega) (by omega) (fun ht3 => ?_) (fun hf4 => ?_)
      · refine J_iload_n (pc := 39) dX8_ringsOf_39 rfl rfl ?_
        exact J_iret (pc := 40) dX8_ringsOf_40 rfl ⟨⟨y3, rfl, by omega⟩, rfl⟩
      · refine J_iload_n (pc := 14) dX8_ringsOf_14 rfl rfl ?_
        refine J_aload_n (pc := 15) dX8_ringsOf_15 rfl rfl rfl ?_
        refine J_aload_n (pc := 16) dX8_ringsOf_16 rfl rfl rfl ?_
        refine J_iload_n (pc := 17) dX8_ringsOf_17 rfl rfl ?_
        refine J_iload (pc := 18) dX8_ringsOf_18 rfl ?_
        refine J_callV0 (pc := 20) (M := mX8_ringsOf) (as := [.ref 21, .int (nI fr), .int (nI c4)]) dX8_ringsOf_20 fw_X8_isFirst fl_X8_53 fm_X8_isFirst fe_X8_isFirst h19 (by decide) rfl rfl rfl (c_X8_isFirst_at21 hs (d := d - 1) (by omega) (w := w) (n := n) (mv := mv) (rw := rw) (nx := nx) (b := b) (bt := bt) (kn := kn) (en := en) (dn := dn) (rf := rf) (kk := kk) (th := th) ⟨h19, h20, h21, h22, hbb, hbl, hb3⟩ hn1 hn2 gm gr gx fr c4 (by first | assumption | omega) (by first | assumption | omega) (by first | assumption | omega) (kc := 0) (ks := 0)) (by omega) (st := [.int (nI y3)]) (Nat.le_of_ble_eq_true rfl) rfl (kr_P fun v5 hv5 => ?_) kx_I
        obtain ⟨k5, rfl, hk5⟩ := hv5
        refine J_if_eqN (pc := 23) (tgt := 30) dX8_ringsOf_23 (by decide) (by omega) (fun ht6 => ?_) (fun hf7 => ?_)
        · refine J_iconst (pc := 30) (v := nI 0) dX8_ringsOf_30 (by decide) ?_
          refine J_iaddN (pc := 31) dX8_ringsOf_31 ?_
          refine J_istore_n (pc := 32) dX8_ringsOf_32 rfl (by decide) rfl ?_
          show J X mX8_ringsOf d kc ks 33 [some (.ref 19), some (.ref 21), some (.int (nI fr)), some (.int (nI (y3 + 0))), some (.int (nI c4))] [] w _
          refine J_iincN (pc := 33) (b := 1) dX8_ringsOf_33 rfl (by decide) (by decide) rfl ?_
          show J X mX8_ringsOf d kc ks 36 [some (.ref 19), some (.ref 21), some (.int (nI fr)), some (.int (nI (y3 + 0))), some (.int (nI (c4 + 1)))] [] w _
          refine J_goto (pc := 36) (tgt := 5) dX8_ringsOf_36 (by decide) ?_
          exact J_sub (L' := [some (.ref 19), some (.ref 21), some (.int (nI fr)), some (.int (nI (y3 + 0))), some (.int (nI (c4 + 1)))]) ⟨rfl, ⟨rfl, ⟨rfl, ⟨rfl, ⟨rfl, trivial⟩⟩⟩⟩⟩ (ihlp5_1 (y3 + 0) (c4 + 1) (by first | assumption | omega) (by first | assumption | omega) (by omega))
        · refine J_iconst (pc := 26) (v := nI 1) dX8_ringsOf_26 (by decide) ?_
          refine J_goto (pc := 27) (tgt := 31) dX8_ringsOf_27 (by decide) ?_
          refine J_iaddN (pc := 31) dX8_ringsOf_31 ?_
          refine J_istore_n (pc := 32) dX8_ringsOf_32 rfl (by decide) rfl ?_
          show J X mX8_ringsOf d kc ks 33 [some (.ref 19), some (.ref 21), some (.int (nI fr)), some (.int (nI (y3 + 1))), some (.int (nI c4))] [] w _
          refine J_iincN (pc := 33) (b := 1) dX8_ringsOf_33 rfl (by decide) (by decide) rfl ?_
          show J X mX8_ringsOf d kc ks 36 [some (.ref 19), some (.ref 21), some (.int (nI fr)), some (.int (nI (y3 + 1))), some (.int (nI (c4 + 1)))] [] w _
          refine J_goto (pc := 36) (tgt := 5) dX8_ringsOf_36 (by decide) ?_
          exact J_sub (L' := [some (.ref 19), some (.ref 21), some (.int (nI fr)), some (.int (nI (y3 + 1))), some (.int (nI (c4 + 1)))]) ⟨rfl, ⟨rfl, ⟨rfl, ⟨rfl, ⟨rfl, trivial⟩⟩⟩⟩⟩ (ihlp5_1 (y3 + 1) (c4 + 1) (by first | assumption | omega) (by first | assumption | omega) (by omega))
  exact J_sub (L' := [some (.ref 19), some (.ref 21), some (.int (nI fr)), some (.int (nI 0)), some (.int (nI 0))]) ⟨rfl, ⟨rfl, ⟨rfl, ⟨rfl, ⟨rfl, trivial⟩⟩⟩⟩⟩ (lp5_1 _ 0 0 (by first | assumption | omega) (by first | assumption | omega) (Nat.lt_succ_self _))
set_option maxRecDepth 100000 in
set_option maxHeartbeats 4000000 in
theorem c_X8_orderOf_at21 {X : jX} (hs : X.1.stackTraces = false) {d : Nat} (hd : 9 ≤ d) {n : Nat} {mv rw nx : Nat → Nat} {b : Nat} {bt : List Int32} {kn en dn rf kk th : Int32} {w : List jC} (hR : RM n mv rw nx b bt kn en dn rf kk th w) (hn1 : 2 ≤ n) (hn2 : n ≤ 7) (gm : ∀ i, mv i < 7) (gr : ∀ i, rw i < 7) (gx : ∀ i, nx i < 7) (fr : Nat) (hy0 : fr + n ≤ 7) (hy1 : Pn n (fun p => rw (fr + p))) {kc ks : Nat} : jMet X mX8_orderOf d kc ks [.ref 19, .ref 21, .int (nI fr)] w (pI (fun v => ∃ k : Nat, v = nI k ∧ 1 ≤ k ∧ k ≤ 420) (fun w' => w' = w)) := by
  refine jMet_of hs (by decide +kernel) (Nat.le_of_ble_eq_true rfl) (L := [some (.ref 19), some (.ref 21), some (.int (nI fr)), none, none, none]) rfl ?_
  have hfc := fc_7 hn2
  have hfp := fc_pos n
  obtain ⟨h19, h20, h21, h22, hbb, hbl, hb3⟩ := hR
  have hF : FR b b w w := FR.rf
  refine J_iconst (pc := 0) (v := nI 1) dX8_orderOf_0 (by decide) ?_
  refine J_istore_n (pc := 1) dX8_orderOf_1 rfl (by decide) rfl ?_
  show J X mX8_orderOf d kc ks 2 [some (.ref 19), some (.ref 21), some (.int (nI fr)), some (.int (nI 1)), none, none] [] w _
  refine J_iconst (pc := 2) (v := nI 0) dX8_orderOf_2 (by decide) ?_
  refine J_istore (pc := 3) dX8_orderOf_3 (by decide) rfl ?_
  show J X mX8_orderOf d kc ks 5 [some (.ref 19), some (.ref 21), some (.int (nI fr)), some (.int (nI 1)), some (.int (nI 0)), none] [] w _
  have lp5_1 : ∀ (fuel : Nat) (y3 : Nat) (c4 : Nat), (1 ≤ y3) → (y3 ∣ 420) → (c4 ≤ n) → (n - c4 < fuel) → J X mX8_orderOf d kc ks 5 [some (.ref 19), some (.ref 21), some (.int (nI fr)), some (.int (nI y3)), some (.int (nI c4)), none] [] w (pI (fun v => ∃ k : Nat, v = nI k ∧ 1 ≤ k ∧ k ≤ 420) (fun w' => w' = w)) := by
    intro fuellp5_1
    induction fuellp5_1 with
    | zero => intros; omega
    | succ fuellp5_1 ihlp5_1 =>
      intro y3 c4 hv5_0 hv5_1 hv5_2 hf2
      refine J_iload (pc := 5) dX8_orderOf_5 rfl ?_
      refine J_aload_n (pc := 7) dX8_orderOf_7 rfl rfl rfl ?_
      refine J_get (pc := 8) (k := 0) dX8_orderOf_8 kC9 (by decide) ff_X8_7 h19 rfl ?_
      refine J_icmp_geN (pc := 11) (tgt := 42) dX8_orderOf_11 (by decide) (by omega) (by omega) (fun ht3 => ?_) (fun hf4 => ?_)
      · refine J_iload_n (pc := 42) dX8_orderOf_42 rfl rfl ?_
        exact J_iret (pc := 43) dX8_orderOf_43 rfl ⟨⟨y3, rfl, by exact ⟨hv5_0, Nat.le_of_dvd (by decide) hv5_1⟩⟩, rfl⟩
      · refine J_aload_n (pc := 14) dX8_orderOf_14 rfl rfl rfl ?_
        refine J_aload_n (pc := 15) dX8_orderOf_15 rfl rfl rfl ?_
        refine J_iload_n (pc := 16) dX8_orderOf_16 rfl rfl ?_
        refine J_iload (pc := 17) dX8_orderOf_17 rfl ?_
        refine J_callV0 (pc := 19) (M := mX8_orderOf) (as := [.ref 21, .int (nI fr), .int (nI c4)]) dX8_orderOf_19 fw_X8_ringFrom fl_X8_61 fm_X8_ringFrom fe_X8_ringFrom h19 (by decide) rfl rfl rfl (c_X8_ringFrom_at21 hs (d := d - 1) (by omega) (w := w) (n := n) (mv := mv) (rw := rw) (nx := nx) (b := b) (bt := bt) (kn := kn) (en := en) (dn := dn) (rf := rf) (kk := kk) (th := th) ⟨h19, h20, h21, h22, hbb, hbl, hb3⟩ hn1 hn2 gm gr gx fr c4 (by first | assumption | omega) (by first | assumption | omega) (by first | assumption | omega) (kc := 0) (ks := 0)) (by omega) (st := []) (Nat.le_of_ble_eq_true rfl) rfl (kr_P fun v5 hv5 => ?_) kx_I
        obtain ⟨k5, rfl, hk5⟩ := hv5
        have hq31 := ord_step (r := k5) hv5_0 hv5_1 (by omega) (by omega)
        have hq32 := Nat.gcd_le_left k5 hv5_0
        refine J_istore (pc := 22) dX8_orderOf_22 (by decide) rfl ?_
        show J X mX8_orderOf d kc ks 24 [some (.ref 19), some (.ref 21), some (.int (nI fr)), some (.int (nI y3)), some (.int (nI c4)), some (.int (nI k5))] [] w _
        have hq24 := Nat.le_of_dvd (by decide) hv5_1
        refine J_iload_n (pc := 24) dX8_orderOf_24 rfl rfl ?_
        refine J_iload_n (pc := 25) dX8_orderOf_25 rfl rfl ?_
        refine J_iload (pc := 26) dX8_orderOf_26 rfl ?_
        refine J_callS0 (pc := 28) (M := mX8_orderOf) (as := [.int (nI y3), .int (nI k5)]) dX8_orderOf_28 fw_X8_gcd fl_X8_57 fs_X8_gcd rfl (c_X8_gcd hs (d := d - 1) (by omega) (w := w) y3 k5 (by first | assumption | omega) (by first | assumption | omega) (kc := 0) (ks := 0)) (by omega) (st := [.int (nI y3)]) (Nat.le_of_ble_eq_true rfl) rfl (kr_P fun v6 hv6 => ?_) kx_I
        subst hv6
        have hm7 := Nat.mod_lt y3 (show 0 < Nat.gcd y3 k5 by exact hq31.1)
        have hm8 := Nat.div_le_self y3 (Nat.gcd y3 k5)
        refine J_idivN (pc := 31) dX8_orderOf_31 (by omega) (by exact hq31.1) (by omega) ?_
        refine J_iload (pc := 32) dX8_orderOf_32 rfl ?_
        refine J_imulN (pc := 34) dX8_orderOf_34 ?_
        refine J_istore_n (pc := 35) dX8_orderOf_35 rfl (by decide) rfl ?_
        show J X mX8_orderOf d kc ks 36 [some (.ref 19), some (.ref 21), some (.int (nI fr)), some (.int (nI ((y3 / (Nat.gcd y3 k5)) * k5))), some (.int (nI c4)), some (.int (nI k5))] [] w _
        refine J_iincN (pc := 36) (b := 1) dX8_orderOf_36 rfl (by decide) (by decide) rfl ?_
        show J X mX8_orderOf d kc ks 39 [some (.ref 19), some (.ref 21), some (.int (nI fr)), some (.int (nI ((y3 / (Nat.gcd y3 k5)) * k5))), some (.int (nI (c4 + 1))), some (.int (nI k5))] [] w _
        refine J_goto (pc := 39) (tgt := 5) dX8_orderOf_39 (by decide) ?_
        exact J_sub (L' := [some (.ref 19), some (.ref 21), some (.int (nI fr)), some (.int (nI ((y3 / (Nat.gcd y3 k5)) * k5))), some (.int (nI (c4 + 1))), none]) ⟨rfl, ⟨rfl, ⟨rfl, ⟨rfl, ⟨rfl, trivial⟩⟩⟩⟩⟩ (ihlp5_1 ((y3 / (Nat.gcd y3 k5)) * k5) (c4 + 1) (by first | assumption | omega) (by exact hq31.2.2) (by first | assumption | omega) (by omega))
  exact J_sub (L' := [some (.ref 19), some (.ref 21), some (.int (nI fr)), some (.int (nI 1)), some (.int (nI 0)), none]) ⟨rfl, ⟨rfl, ⟨rfl, ⟨rfl, ⟨rfl, trivial⟩⟩⟩⟩⟩ (lp5_1 _ 1 0 (by first | assumption | omega) (by exact Nat.one_dvd _) (by first | assumption | omega) (Nat.lt_succ_self _))
set_option maxRecDepth 100000 in
set_option maxHeartbeats 4000000 in
theorem c_X8_numberOf_at22 {X : jX} (hs : X.1.stackTraces = false) {d : Nat} (hd : 0 ≤ d) {n : Nat} {mv rw nx : Nat → Nat} {b : Nat} {bt : List Int32} {kn en dn rf kk th : Int32} {w : List jC} (hR : RM n mv rw nx b bt kn en dn rf kk th w) (hn1 : 2 ≤ n) (hn2 : n ≤ 7) (gm : ∀ i, mv i < 7) (gr : ∀ i, rw i < 7) (gx : ∀ i, nx i < 7) (fr : Nat) (hy0 : fr + n ≤ 7) {kc ks : Nat} : jMet X mX8_numberOf d kc ks [.ref 19, .ref 22, .int (nI fr)] w (pI (fun v => v = nI (nuF nx fr n n)) (fun w' => w' = w)) := by
  refine jMet_of hs (by decide +kernel) (Nat.le_of_ble_eq_true rfl) (L := [some (.ref 19), some (.ref 22), some (.int (nI fr)), none, none, none, none]) rfl ?_
  have hfc := fc_7 hn2
  have hfp := fc_pos n
  obtain ⟨h19, h20, h21, h22, hbb, hbl, hb3⟩ := hR
  have hF : FR b b w w := FR.rf
  refine J_iconst (pc := 0) (v := nI 0) dX8_numberOf_0 (by decide) ?_
  refine J_istore_n (pc := 1) dX8_numberOf_1 rfl (by decide) rfl ?_
  show J X mX8_numberOf d kc ks 2 [some (.ref 19), some (.ref 22), some (.int (nI fr)), some (.int (nI 0)), none, none, none] [] w _
  refine J_iconst (pc := 2) (v := nI 0) dX8_numberOf_2 (by decide) ?_
  refine J_istore (pc := 3) dX8_numberOf_3 (by decide) rfl ?_
  show J X mX8_numberOf d kc ks 5 [some (.ref 19), some (.ref 22), some (.int (nI fr)), some (.int (nI 0)), some (.int (nI 0)), none, none] [] w _
  have lp5_1 : ∀ (fuel : Nat) (y3 : Nat) (c4 : Nat), (y3 = nuF nx fr n c4) → (c4 ≤ n) → (n - c4 < fuel) → J X mX8_numberOf d kc ks 5 [some (.ref 19), some (.ref 22), some (.int (nI fr)), some (.int (nI y3)), some (.int (nI c4)), none, none] [] w (pI (fun v => v = nI (nuF nx fr n n)) (fun w' => w' = w)) := by
    intro fuellp5_1
    induction fuellp5_1 with
    | zero => intros; omega
    | succ fuellp5_1 ihlp5_1 =>
      intro y3 c4 hv5_0 hv5_1 hf2
      refine J_iload (pc := 5) dX8_numberOf_5 rfl ?_
      refine J_aload_n (pc := 7) dX8_numberOf_7 rfl rfl rfl ?_
      refine J_get (pc := 8) (k := 0) dX8_numberOf_8 kC9 (by decide) ff_X8_7 h19 rfl ?_
      refine J_icmp_geN (pc := 11) (tgt := 82) dX8_numberOf_11 (by decide) (by omega) (by omega) (fun ht3 => ?_) (fun hf4 => ?_)
      · refine J_iload_n (pc := 82) dX8_numberOf_82 rfl rfl ?_
        exact J_iret (pc := 83) dX8_numberOf_83 rfl ⟨(congrArg nI (by rw [hv5_0, show c4 = n by omega])), rfl⟩
      · refine J_iconst (pc := 14) (v := nI 0) dX8_numberOf_14 (by decide) ?_
        refine J_istore (pc := 15) dX8_numberOf_15 (by decide) rfl ?_
        show J X mX8_numberOf d kc ks 17 [some (.ref 19), some (.ref 22), some (.int (nI fr)), some (.int (nI y3)), some (.int (nI c4)), some (.int (nI 0)), none] [] w _
        refine J_iload (pc := 17) dX8_numberOf_17 rfl ?_
        refine J_iconst (pc := 19) (v := nI 1) dX8_numberOf_19 (by decide) ?_
        refine J_iaddN (pc := 20) dX8_numberOf_20 ?_
        refine J_istore (pc := 21) dX8_numberOf_21 (by decide) rfl ?_
        show J X mX8_numberOf d kc ks 23 [some (.ref 19), some (.ref 22), some (.int (nI fr)), some (.int (nI y3)), some (.int (nI c4)), some (.int (nI 0)), some (.int (nI (c4 + 1)))] [] w _
        have lp23_5 : ∀ (fuel : Nat) (y5 : Nat) (c6 : Nat), (c4 + 1 ≤ c6) → (c6 ≤ n) → (y5 = les nx fr c4 c6) → (n - c6 < fuel) → J X mX8_numberOf d kc ks 23 [some (.ref 19), some (.ref 22), some (.int (nI fr)), some (.int (nI y3)), some (.int (nI c4)), some (.int (nI y5)), some (.int (nI c6))] [] w (pI (fun v => v = nI (nuF nx fr n n)) (fun w' => w' = w)) := by
          intro fuellp23_5
          induction fuellp23_5 with
          | zero => intros; omega
          | succ fuellp23_5 ihlp23_5 =>
            intro y5 c6 hv23_0 hv23_1 hv23_2 hf6
            refine J_iload (pc := 23) dX8_numberOf_23 rfl ?_
            refine J_aload_n (pc := 25) dX8_numberOf_25 rfl rfl rfl ?_
            refine J_get (pc := 26) (k := 0) dX8_numberOf_26 kC9 (by decide) ff_X8_7 h19 rfl ?_
            refine J_icmp_geN (pc := 29) (tgt := 63) dX8_numberOf_29 (by decide) (by omega) (by omega) (fun ht7 => ?_) (fun hf8 => ?_)
            · refine J_iload_n (pc := 63) dX8_numberOf_63 rfl rfl ?_
              refine J_aload_n (pc := 64) dX8_numberOf_64 rfl rfl rfl ?_
              refine J_get (pc := 65) (k := 0) dX8_numberOf_65 kC9 (by decide) ff_X8_7 h19 rfl ?_
              refine J_iload (pc := 68) dX8_numberOf_68 rfl ?_
              refine J_isubN (pc := 70) dX8_numberOf_70 (by omega) ?_
              refine J_imulN (pc := 71) dX8_numberOf_71 ?_
              refine J_iload (pc := 72) dX8_numberOf_72 rfl ?_
              refine J_iaddN (pc := 74) dX8_numberOf_74 ?_
              refine J_istore_n (pc := 75) dX8_numberOf_75 rfl (by decide) rfl ?_
              show J X mX8_numberOf d kc ks 76 [some (.ref 19), some (.ref 22), some (.int (nI fr)), some (.int (nI ((y3 * (n - c4)) + y5))), some (.int (nI c4)), some (.int (nI y5)), some (.int (nI c6))] [] w _
              refine J_iincN (pc := 76) (b := 1) dX8_numberOf_76 rfl (by decide) (by decide) rfl ?_
              show J X mX8_numberOf d kc ks 79 [some (.ref 19), some (.ref 22), some (.int (nI fr)), some (.int (nI ((y3 * (n - c4)) + y5))), some (.int (nI (c4 + 1))), some (.int (nI y5)), some (.int (nI c6))] [] w _
              refine J_goto (pc := 79) (tgt := 5) dX8_numberOf_79 (by decide) ?_
              exact J_sub (L' := [some (.ref 19), some (.ref 22), some (.int (nI fr)), some (.int (nI ((y3 * (n - c4)) + y5))), some (.int (nI (c4 + 1))), none, none]) ⟨rfl, ⟨rfl, ⟨rfl, ⟨rfl, ⟨rfl, trivial⟩⟩⟩⟩⟩ (ihlp5_1 ((y3 * (n - c4)) + y5) (c4 + 1) (by simp only [nuF]; rw [← hv5_0, hv23_2, show c6 = n by omega]) (by first | assumption | omega) (by omega))
            · refine J_iload (pc := 32) dX8_numberOf_32 rfl ?_
              refine J_aload_n (pc := 34) dX8_numberOf_34 rfl rfl rfl ?_
              refine J_iload_n (pc := 35) dX8_numberOf_35 rfl rfl ?_
              refine J_iload (pc := 36) dX8_numberOf_36 rfl ?_
              refine J_iaddN (pc := 38) dX8_numberOf_38 ?_
              refine J_ialdF (pc := 39) dX8_numberOf_39 h22 (by omega) (by decide) ?_
              have hq9 := gx (fr + c6)
              refine J_aload_n (pc := 40) dX8_numberOf_40 rfl rfl rfl ?_
              refine J_iload_n (pc := 41) dX8_numberOf_41 rfl rfl ?_
              refine J_iload (pc := 42) dX8_numberOf_42 rfl ?_
              refine J_iaddN (pc := 44) dX8_numberOf_44 ?_
              refine J_ialdF (pc := 45) dX8_numberOf_45 h22 (by omega) (by decide) ?_
              have hq10 := gx (fr + c4)
              refine J_icmp_geN (pc := 46) (tgt := 53) dX8_numberOf_46 (by decide) (by omega) (by omega) (fun ht11 => ?_) (fun hf12 => ?_)
              · refine J_iconst (pc := 53) (v := nI 0) dX8_numberOf_53 (by decide) ?_
                refine J_iaddN (pc := 54) dX8_numberOf_54 ?_
                refine J_istore (pc := 55) dX8_numberOf_55 (by decide) rfl ?_
                show J X mX8_numberOf d kc ks 57 [some (.ref 19), some (.ref 22), some (.int (nI fr)), some (.int (nI y3)), some (.int (nI c4)), some (.int (nI (y5 + 0))), some (.int (nI c6))] [] w _
                refine J_iincN (pc := 57) (b := 1) dX8_numberOf_57 rfl (by decide) (by decide) rfl ?_
                show J X mX8_numberOf d kc ks 60 [some (.ref 19), some (.ref 22), some (.int (nI fr)), some (.int (nI y3)), some (.int (nI c4)), some (.int (nI (y5 + 0))), some (.int (nI (c6 + 1)))] [] w _
                refine J_goto (pc := 60) (tgt := 23) dX8_numberOf_60 (by decide) ?_
                exact J_sub (L' := [some (.ref 19), some (.ref 22), some (.int (nI fr)), some (.int (nI y3)), some (.int (nI c4)), some (.int (nI (y5 + 0))), some (.int (nI (c6 + 1)))]) ⟨rfl, ⟨rfl, ⟨rfl, ⟨rfl, ⟨rfl, ⟨rfl, ⟨rfl, trivial⟩⟩⟩⟩⟩⟩⟩ (ihlp23_5 (y5 + 0) (c6 + 1) (by first | assumption | omega) (by first | assumption | omega) (by simp only [les]; split <;> omega) (by omega))
              · refine J_iconst (pc := 49) (v := nI 1) dX8_numberOf_49 (by decide) ?_
                refine J_goto (pc := 50) (tgt := 54) dX8_numberOf_50 (by decide) ?_
                refine J_iaddN (pc := 54) dX8_numberOf_54 ?_
                refine J_istore (pc := 55) dX8_numberOf_55 (by decide) rfl ?_
                show J X mX8_numberOf d kc ks 57 [some (.ref 19), some (.ref 22), some (.int (nI fr)), some (.int (nI y3)), some (.int (nI c4)), some (.int (nI (y5 + 1))), some (.int (nI c6))] [] w _
                refine J_iincN (pc := 57) (b := 1) dX8_numberOf_57 rfl (by decide) (by decide) rfl ?_
                show J X mX8_numberOf d kc ks 60 [some (.ref 19), some (.ref 22), some (.int (nI fr)), some (.int (nI y3)), some (.int (nI c4)), some (.int (nI (y5 + 1))), some (.int (nI (c6 + 1)))] [] w _
                refine J_goto (pc := 60) (tgt := 23) dX8_numberOf_60 (by decide) ?_
                exact J_sub (L' := [some (.ref 19), some (.ref 22), some (.int (nI fr)), some (.int (nI y3)), some (.int (nI c4)), some (.int (nI (y5 + 1))), some (.int (nI (c6 + 1)))]) ⟨rfl, ⟨rfl, ⟨rfl, ⟨rfl, ⟨rfl, ⟨rfl, ⟨rfl, trivial⟩⟩⟩⟩⟩⟩⟩ (ihlp23_5 (y5 + 1) (c6 + 1) (by first | assumption | omega) (by first | assumption | omega) (by simp only [les]; split <;> omega) (by omega))
        exact J_sub (L' := [some (.ref 19), some (.ref 22), some (.int (nI fr)), some (.int (nI y3)), some (.int (nI c4)), some (.int (nI 0)), some (.int (nI (c4 + 1)))]) ⟨rfl, ⟨rfl, ⟨rfl, ⟨rfl, ⟨rfl, ⟨rfl, ⟨rfl, trivial⟩⟩⟩⟩⟩⟩⟩ (lp23_5 _ 0 (c4 + 1) (by first | assumption | omega) (by first | assumption | omega) (by exact (les_0 nx fr c4 _ (Nat.le_refl _)).symm) (Nat.lt_succ_self _))
  exact J_sub (L' := [some (.ref 19), some (.ref 22), some (.int (nI fr)), some (.int (nI 0)), some (.int (nI 0)), none, none]) ⟨rfl, ⟨rfl, ⟨rfl, ⟨rfl, ⟨rfl, trivial⟩⟩⟩⟩⟩ (lp5_1 _ 0 0 (by rfl) (by first | assumption | omega) (Nat.lt_succ_self _))
