section
/-! what is asked of the reference's moves, exactly -/
theorem isN_3 {a : Int32} (h1 : ¬ a < 0) (h2 : a ≤ nI 2) : isN a 3 := by
  obtain ⟨k, hk, rfl⟩ := nI_nn (Int32.not_lt.mp h1)
  exact ⟨k, by have := (nI_leI hk (by omega)).mp h2; omega, rfl⟩
/-- rings of a length, one length behind the other -/
def AL (n : Nat) (f g : Nat → Nat) (c y : Nat) : Prop := (y = 1 ∧ ∀ L, 1 ≤ L → L < c → lo f n L n / L = lo g n L n / L) ∨ (y = 0 ∧ ∃ L, 1 ≤ L ∧ L ≤ n ∧ ¬ lo f n L n / L = lo g n L n / L)
theorem AL_1 {n : Nat} {f g : Nat → Nat} : AL n f g 1 1 := Or.inl ⟨rfl, fun L h1 h2 => by omega⟩
theorem AL_s {n c y : Nat} {f g : Nat → Nat} (h : AL n f g c y) (h1 : 1 ≤ c) (h2 : c ≤ n) (e : lo f n c n / c = lo g n c n / c) : AL n f g (c + 1) (y % 2 ^ 1) := by
  rcases h with ⟨rfl, h⟩ | ⟨rfl, h⟩
  · exact Or.inl ⟨rfl, fun L a b => by
      by_cases q : L = c
      · rw [q]; exact e
      · exact h L a (by omega)⟩
  · exact Or.inr ⟨rfl, h⟩
theorem AL_n {n c y : Nat} {f g : Nat → Nat} (h : AL n f g c y) (h1 : 1 ≤ c) (h2 : c ≤ n) (e : ¬ lo f n c n / c = lo g n c n / c) : AL n f g (c + 1) (y * 0) := Or.inr ⟨rfl, c, h1, h2, e⟩
theorem al_end {n c y : Nat} {f g : Nat → Nat} (h : AL n f g c y) (hc : n < c) : (nI y = nI 1 ∧ ∀ L, 1 ≤ L → L ≤ n → lo f n L n / L = lo g n L n / L) ∨ (nI y = nI 0 ∧ ¬ ∀ L, 1 ≤ L → L ≤ n → lo f n L n / L = lo g n L n / L) := by
  rcases h with ⟨rfl, h⟩ | ⟨rfl, L, h1, h2, h3⟩
  · exact Or.inl ⟨rfl, fun L a b => h L a (by omega)⟩
  · exact Or.inr ⟨rfl, fun q => h3 (q L h1 h2)⟩
set_option maxRecDepth 100000 in
set_option maxHeartbeats 4000000 in
theorem c_X8_number_ate {X : jX} (hs : X.1.stackTraces = false) {d : Nat} (hd : 2 ≤ d) {n : Nat} {mv rw nx : Nat → Nat} {b : Nat} {bt : List Int32} {kn en dn rf kk th : Int32} {w : List jC} (hR : RM n mv rw nx b bt kn en dn rf kk th w) (hn1 : 2 ≤ n) (hn2 : n ≤ 7) (gm : ∀ i, mv i < 7) (gr : ∀ i, rw i < 7) (gx : ∀ i, nx i < 7) (a : Int32) {kc ks : Nat} : jMet X mX8_number d kc ks [.ref 19, .int a] w (pJ (fun v w' => ∃ (th' : Int32), RM n mv rw nx b bt kn en dn rf kk th' w' ∧ FR b b w w' ∧ ((th' = nI 1 ∧ ¬ (isN a 6)) ∨ (th' = nI 0 ∧ ∃ a1 : Nat, a = nI a1 ∧ a1 < 6 ∧ v = nI (nuF mv (a1 * 7) n n))))) := by
  refine jMet_of hs (by decide +kernel) (Nat.le_of_ble_eq_true rfl) (L := [some (.ref 19), some (.int a)]) rfl ?_
  have hdm : 1 ≤ d - 1 := by omega
  have hdp : d - 1 + 1 ≤ d := by omega
  have hfc := fc_7 hn2
  have hfp := fc_pos n
  obtain ⟨h19, h20, h21, h22, hbb, hbl, hb3⟩ := hR
  have hF : FR b b w w := FR.rf
  refine J_aload_n (pc := 0) dX8_number_0 rfl rfl rfl ?_
  refine J_iload_n (pc := 1) dX8_number_1 rfl rfl ?_
  refine J_callS0 (pc := 2) (M := mX8_number) (as := [.int a]) dX8_number_2 fw_X8_isCell fl_X8_108 fs_X8_isCell rfl (c_X8_isCell hs (d := d - 1) (Nat.le_trans (by decide) hdm) (w := w) a (kc := 0) (ks := 0)) hdp (st := [.ref 19]) (Nat.le_of_ble_eq_true rfl) rfl (kr_P fun v1 hv1 => ?_) kx_I
  rcases hv1 with ⟨rfl, hk1_0⟩ | ⟨q1, rfl, hk1_0, rfl⟩
  · refine J_if_neN (pc := 5) (tgt := 12) dX8_number_5 (by decide) (by decide) (fun h => absurd h (by decide)) (fun _ => ?_)
    refine J_iconst (pc := 8) (v := nI 1) dX8_number_8 (by decide) ?_
    refine J_goto (pc := 9) (tgt := 13) dX8_number_9 (by decide) ?_
    refine J_callV0 (pc := 13) (M := mX8_number) (as := [.int (nI 1)]) dX8_number_13 fw_X8_isThrown_ fl_X8_105 fm_X8_isThrown_ fe_X8_isThrown_ h19 (by decide) rfl rfl rfl (c_X8_isThrown_ hs (d := d - 1) (Nat.le_trans (by decide) hdm) (w := w) (n := n) (mv := mv) (rw := rw) (nx := nx) (b := b) (bt := bt) (kn := kn) (en := en) (dn := dn) (rf := rf) (kk := kk) (th := th) ⟨h19, h20, h21, h22, hbb, hbl, hb3⟩ hn1 hn2 gm gr gx 1 (by first | assumption | omega) (kc := 0) (ks := 0)) hdp (st := []) (Nat.le_of_ble_eq_true rfl) rfl (kr_I fun v2 w2 hv2 hw2 => ?_) kx_I
    obtain ⟨hR2, hFc2⟩ := hw2
    obtain ⟨h19_2, h20_2, h21_2, h22_2, hbb_2, hbl_2, hb3_2⟩ := hR2
    have hF2 := hF.tr hFc2
    subst hv2
    show J X mX8_number d kc ks 16 [some (.ref 19), some (.int a)] [.int (nI 1)] w2 _
    refine J_if_eqN (pc := 16) (tgt := 23) dX8_number_16 (by decide) (by decide) (fun h => absurd h (by decide)) (fun _ => ?_)
    refine J_iconst (pc := 19) (v := nI 0) dX8_number_19 (by decide) ?_
    refine J_goto (pc := 20) (tgt := 35) dX8_number_20 (by decide) ?_
    exact J_iret (pc := 35) dX8_number_35 rfl (⟨nI (tW 1 0), ⟨h19_2, h20_2, h21_2, h22_2, hbb_2, hbl_2, hb3_2⟩, hF2, (by first | exact Or.inl ⟨rfl, fun g => (by first | exact ne_isN (by assumption) g | exact ne_isN (by assumption) g.1 | exact ne_isN (by assumption) g.2)⟩ | exact Or.inr ⟨rfl, ⟨_, rfl, (by omega), (by rfl)⟩⟩)⟩)
  · refine J_if_neN (pc := 5) (tgt := 12) dX8_number_5 (by decide) (by decide) (fun _ => ?_) (fun h => absurd h (by decide))
    refine J_iconst (pc := 12) (v := nI 0) dX8_number_12 (by decide) ?_
    refine J_callV0 (pc := 13) (M := mX8_number) (as := [.int (nI 0)]) dX8_number_13 fw_X8_isThrown_ fl_X8_105 fm_X8_isThrown_ fe_X8_isThrown_ h19 (by decide) rfl rfl rfl (c_X8_isThrown_ hs (d := d - 1) (Nat.le_trans (by decide) hdm) (w := w) (n := n) (mv := mv) (rw := rw) (nx := nx) (b := b) (bt := bt) (kn := kn) (en := en) (dn := dn) (rf := rf) (kk := kk) (th := th) ⟨h19, h20, h21, h22, hbb, hbl, hb3⟩ hn1 hn2 gm gr gx 0 (by first | assumption | omega) (kc := 0) (ks := 0)) hdp (st := []) (Nat.le_of_ble_eq_true rfl) rfl (kr_I fun v3 w3 hv3 hw3 => ?_) kx_I
    obtain ⟨hR3, hFc3⟩ := hw3
    obtain ⟨h19_3, h20_3, h21_3, h22_3, hbb_3, hbl_3, hb3_3⟩ := hR3
    have hF3 := hF.tr hFc3
    subst hv3
    show J X mX8_number d kc ks 16 [some (.ref 19), some (.int (nI q1))] [.int (nI 0)] w3 _
    refine J_if_eqN (pc := 16) (tgt := 23) dX8_number_16 (by decide) (by decide) (fun _ => ?_) (fun h => absurd h (by decide))
    refine J_aload_n (pc := 23) dX8_number_23 rfl rfl rfl ?_
    refine J_aload_n (pc := 24) dX8_number_24 rfl rfl rfl ?_
    refine J_get (pc := 25) (k := 1) dX8_number_25 kC9 (by decide) ff_X8_13 h19_3 rfl ?_
    refine J_iload_n (pc := 28) dX8_number_28 rfl rfl ?_
    refine J_bipush (pc := 29) (v := nI 7) dX8_number_29 (by decide) ?_
    refine J_imulN (pc := 31) dX8_number_31 ?_
    refine J_callV0 (pc := 32) (M := mX8_number) (as := [.ref 20, .int (nI (q1 * 7))]) dX8_number_32 fw_X8_numberOf fl_X8_45 fm_X8_numberOf fe_X8_numberOf h19_3 (by decide) rfl rfl rfl (c_X8_numberOf_at20 hs (d := d - 1) (Nat.le_trans (by decide) hdm) (w := w3) (n := n) (mv := mv) (rw := rw) (nx := nx) (b := b) (bt := bt) (kn := kn) (en := en) (dn := dn) (rf := rf) (kk := kk) (th := nI (tW 0 0)) ⟨h19_3, h20_3, h21_3, h22_3, hbb_3, hbl_3, hb3_3⟩ hn1 hn2 gm gr gx (q1 * 7) (by first | assumption | omega) (kc := 0) (ks := 0)) hdp (st := []) (Nat.le_of_ble_eq_true rfl) rfl (kr_P fun v4 hv4 => ?_) kx_I
    subst hv4
    have hq5 := nuF_b mv (q1 * 7) n
    exact J_iret (pc := 35) dX8_number_35 rfl (⟨nI (tW 0 0), ⟨h19_3, h20_3, h21_3, h22_3, hbb_3, hbl_3, hb3_3⟩, hF3, (by first | exact Or.inl ⟨rfl, fun g => (by first | exact ne_isN (by assumption) g | exact ne_isN (by assumption) g.1 | exact ne_isN (by assumption) g.2)⟩ | exact Or.inr ⟨rfl, ⟨_, rfl, (by omega), (by rfl)⟩⟩)⟩)
set_option maxRecDepth 100000 in
set_option maxHeartbeats 4000000 in
theorem c_X8_goes_ate {X : jX} (hs : X.1.stackTraces = false) {d : Nat} (hd : 2 ≤ d) {n : Nat} {mv rw nx : Nat → Nat} {b : Nat} {bt : List Int32} {kn en dn rf kk th : Int32} {w : List jC} (hR : RM n mv rw nx b bt kn en dn rf kk th w) (hn1 : 2 ≤ n) (hn2 : n ≤ 7) (gm : ∀ i, mv i < 7) (gr : ∀ i, rw i < 7) (gx : ∀ i, nx i < 7) (a : Int32) (c : Int32) {kc ks : Nat} : jMet X mX8_goes d kc ks [.ref 19, .int a, .int c] w (pJ (fun v w' => ∃ (th' : Int32), RM n mv rw nx b bt kn en dn rf kk th' w' ∧ FR b b w w' ∧ ((th' = nI 1 ∧ ¬ (isN a 6 ∧ isN c n)) ∨ (th' = nI 0 ∧ ∃ a1 b1 : Nat, a = nI a1 ∧ c = nI b1 ∧ a1 < 6 ∧ b1 < n ∧ v = nI (mv (a1 * 7 + b1)))))) := by
  refine jMet_of hs (by decide +kernel) (Nat.le_of_ble_eq_true rfl) (L := [some (.ref 19), some (.int a), some (.int c)]) rfl ?_
  have hdm : 1 ≤ d - 1 := by omega
  have hdp : d - 1 + 1 ≤ d := by omega
  have hfc := fc_7 hn2
  have hfp := fc_pos n
  obtain ⟨h19, h20, h21, h22, hbb, hbl, hb3⟩ := hR
  have hF : FR b b w w := FR.rf
  refine J_aload_n (pc := 0) dX8_goes_0 rfl rfl rfl ?_
  refine J_iload_n (pc := 1) dX8_goes_1 rfl rfl ?_
  refine J_callS0 (pc := 2) (M := mX8_goes) (as := [.int a]) dX8_goes_2 fw_X8_isCell fl_X8_108 fs_X8_isCell rfl (c_X8_isCell hs (d := d - 1) (Nat.le_trans (by decide) hdm) (w := w) a (kc := 0) (ks := 0)) hdp (st := [.ref 19]) (Nat.le_of_ble_eq_true rfl) rfl (kr_P fun v1 hv1 => ?_) kx_I
  rcases hv1 with ⟨rfl, hk1_0⟩ | ⟨q1, rfl, hk1_0, rfl⟩
  · refine J_if_eqN (pc := 5) (tgt := 16) dX8_goes_5 (by decide) (by decide) (fun _ => ?_) (fun h => absurd h (by decide))
    refine J_iconst (pc := 16) (v := nI 1) dX8_goes_16 (by decide) ?_
    refine J_goto (pc := 17) (tgt := 21) dX8_goes_17 (by decide) ?_
    refine J_callV0 (pc := 21) (M := mX8_goes) (as := [.int (nI 1)]) dX8_goes_21 fw_X8_isThrown_ fl_X8_105 fm_X8_isThrown_ fe_X8_isThrown_ h19 (by decide) rfl rfl rfl (c_X8_isThrown_ hs (d := d - 1) (Nat.le_trans (by decide) hdm) (w := w) (n := n) (mv := mv) (rw := rw) (nx := nx) (b := b) (bt := bt) (kn := kn) (en := en) (dn := dn) (rf := rf) (kk := kk) (th := th) ⟨h19, h20, h21, h22, hbb, hbl, hb3⟩ hn1 hn2 gm gr gx 1 (by first | assumption | omega) (kc := 0) (ks := 0)) hdp (st := []) (Nat.le_of_ble_eq_true rfl) rfl (kr_I fun v2 w2 hv2 hw2 => ?_) kx_I
    obtain ⟨hR2, hFc2⟩ := hw2
    obtain ⟨h19_2, h20_2, h21_2, h22_2, hbb_2, hbl_2, hb3_2⟩ := hR2
    have hF2 := hF.tr hFc2
    subst hv2
    show J X mX8_goes d kc ks 24 [some (.ref 19), some (.int a), some (.int c)] [.int (nI 1)] w2 _
    refine J_if_eqN (pc := 24) (tgt := 31) dX8_goes_24 (by decide) (by decide) (fun h => absurd h (by decide)) (fun _ => ?_)
    refine J_iconst (pc := 27) (v := nI 0) dX8_goes_27 (by decide) ?_
    refine J_goto (pc := 28) (tgt := 37) dX8_goes_28 (by decide) ?_
    exact J_iret (pc := 37) dX8_goes_37 rfl (⟨nI (tW 1 0), ⟨h19_2, h20_2, h21_2, h22_2, hbb_2, hbl_2, hb3_2⟩, hF2, (by first | exact Or.inl ⟨rfl, fun g => (by first | exact ne_isN (by assumption) g | exact ne_isN (by assumption) g.1 | exact ne_isN (by assumption) g.2)⟩ | exact Or.inr ⟨rfl, ⟨_, _, rfl, rfl, (by omega), (by omega), (by rfl)⟩⟩)⟩)
  · refine J_if_eqN (pc := 5) (tgt := 16) dX8_goes_5 (by decide) (by decide) (fun h => absurd h (by decide)) (fun _ => ?_)
    refine J_aload_n (pc := 8) dX8_goes_8 rfl rfl rfl ?_
    refine J_iload_n (pc := 9) dX8_goes_9 rfl rfl ?_
    refine J_callV0 (pc := 10) (M := mX8_goes) (as := [.int c]) dX8_goes_10 fw_X8_isPoint fl_X8_118 fm_X8_isPoint fe_X8_isPoint h19 (by decide) rfl rfl rfl (c_X8_isPoint hs (d := d - 1) (Nat.le_trans (by decide) hdm) (w := w) (n := n) (mv := mv) (rw := rw) (nx := nx) (b := b) (bt := bt) (kn := kn) (en := en) (dn := dn) (rf := rf) (kk := kk) (th := th) ⟨h19, h20, h21, h22, hbb, hbl, hb3⟩ hn1 hn2 gm gr gx c (kc := 0) (ks := 0)) hdp (st := [.ref 19]) (Nat.le_of_ble_eq_true rfl) rfl (kr_P fun v3 hv3 => ?_) kx_I
    rcases hv3 with ⟨rfl, hk3_0⟩ | ⟨q3, rfl, hk3_0, rfl⟩
    · refine J_if_neN (pc := 13) (tgt := 20) dX8_goes_13 (by decide) (by decide) (fun h => absurd h (by decide)) (fun _ => ?_)
      refine J_iconst (pc := 16) (v := nI 1) dX8_goes_16 (by decide) ?_
      refine J_goto (pc := 17) (tgt := 21) dX8_goes_17 (by decide) ?_
      refine J_callV0 (pc := 21) (M := mX8_goes) (as := [.int (nI 1)]) dX8_goes_21 fw_X8_isThrown_ fl_X8_105 fm_X8_isThrown_ fe_X8_isThrown_ h19 (by decide) rfl rfl rfl (c_X8_isThrown_ hs (d := d - 1) (Nat.le_trans (by decide) hdm) (w := w) (n := n) (mv := mv) (rw := rw) (nx := nx) (b := b) (bt := bt) (kn := kn) (en := en) (dn := dn) (rf := rf) (kk := kk) (th := th) ⟨h19, h20, h21, h22, hbb, hbl, hb3⟩ hn1 hn2 gm gr gx 1 (by first | assumption | omega) (kc := 0) (ks := 0)) hdp (st := []) (Nat.le_of_ble_eq_true rfl) rfl (kr_I fun v4 w4 hv4 hw4 => ?_) kx_I
      obtain ⟨hR4, hFc4⟩ := hw4
      obtain ⟨h19_4, h20_4, h21_4, h22_4, hbb_4, hbl_4, hb3_4⟩ := hR4
      have hF4 := hF.tr hFc4
      subst hv4
      show J X mX8_goes d kc ks 24 [some (.ref 19), some (.int (nI q1)), some (.int c)] [.int (nI 1)] w4 _
      refine J_if_eqN (pc := 24) (tgt := 31) dX8_goes_24 (by decide) (by decide) (fun h => absurd h (by decide)) (fun _ => ?_)
      refine J_iconst (pc := 27) (v := nI 0) dX8_goes_27 (by decide) ?_
      refine J_goto (pc := 28) (tgt := 37) dX8_goes_28 (by decide) ?_
      exact J_iret (pc := 37) dX8_goes_37 rfl (⟨nI (tW 1 0), ⟨h19_4, h20_4, h21_4, h22_4, hbb_4, hbl_4, hb3_4⟩, hF4, (by first | exact Or.inl ⟨rfl, fun g => (by first | exact ne_isN (by assumption) g | exact ne_isN (by assumption) g.1 | exact ne_isN (by assumption) g.2)⟩ | exact Or.inr ⟨rfl, ⟨_, _, rfl, rfl, (by omega), (by omega), (by rfl)⟩⟩)⟩)
    · refine J_if_neN (pc := 13) (tgt := 20) dX8_goes_13 (by decide) (by decide) (fun _ => ?_) (fun h => absurd h (by decide))
      refine J_iconst (pc := 20) (v := nI 0) dX8_goes_20 (by decide) ?_
      refine J_callV0 (pc := 21) (M := mX8_goes) (as := [.int (nI 0)]) dX8_goes_21 fw_X8_isThrown_ fl_X8_105 fm_X8_isThrown_ fe_X8_isThrown_ h19 (by decide) rfl rfl rfl (c_X8_isThrown_ hs (d := d - 1) (Nat.le_trans (by decide) hdm) (w := w) (n := n) (mv := mv) (rw := rw) (nx := nx) (b := b) (bt := bt) (kn := kn) (en := en) (dn := dn) (rf := rf) (kk := kk) (th := th) ⟨h19, h20, h21, h22, hbb, hbl, hb3⟩ hn1 hn2 gm gr gx 0 (by first | assumption | omega) (kc := 0) (ks := 0)) hdp (st := []) (Nat.le_of_ble_eq_true rfl) rfl (kr_I fun v5 w5 hv5 hw5 => ?_) kx_I
      obtain ⟨hR5, hFc5⟩ := hw5
      obtain ⟨h19_5, h20_5, h21_5, h22_5, hbb_5, hbl_5, hb3_5⟩ := hR5
      have hF5 := hF.tr hFc5
      subst hv5
      show J X mX8_goes d kc ks 24 [some (.ref 19), some (.int (nI q1)), some (.int (nI q3))] [.int (nI 0)] w5 _
      refine J_if_eqN (pc := 24) (tgt := 31) dX8_goes_24 (by decide) (by decide) (fun _ => ?_) (fun h => absurd h (by decide))
      refine J_aload_n (pc := 31) dX8_goes_31 rfl rfl rfl ?_
      refine J_iload_n (pc := 32) dX8_goes_32 rfl rfl ?_
      refine J_iload_n (pc := 33) dX8_goes_33 rfl rfl ?_
      refine J_callV0 (pc := 34) (M := mX8_goes) (as := [.int (nI q1), .int (nI q3)]) dX8_goes_34 fw_X8_at fl_X8_82 fm_X8_at fe_X8_at h19_5 (by decide) rfl rfl rfl (c_X8_at hs (d := d - 1) (Nat.le_trans (by decide) hdm) (w := w5) (n := n) (mv := mv) (rw := rw) (nx := nx) (b := b) (bt := bt) (kn := kn) (en := en) (dn := dn) (rf := rf) (kk := kk) (th := nI (tW 0 0)) ⟨h19_5, h20_5, h21_5, h22_5, hbb_5, hbl_5, hb3_5⟩ hn1 hn2 gm gr gx q1 q3 (by first | assumption | omega) (by first | assumption | omega) (kc := 0) (ks := 0)) hdp (st := []) (Nat.le_of_ble_eq_true rfl) rfl (kr_P fun v6 hv6 => ?_) kx_I
      subst hv6
      have hq7 := gm (q1 * 7 + q3)
      exact J_iret (pc := 37) dX8_goes_37 rfl (⟨nI (tW 0 0), ⟨h19_5, h20_5, h21_5, h22_5, hbb_5, hbl_5, hb3_5⟩, hF5, (by first | exact Or.inl ⟨rfl, fun g => (by first | exact ne_isN (by assumption) g | exact ne_isN (by assumption) g.1 | exact ne_isN (by assumption) g.2)⟩ | exact Or.inr ⟨rfl, ⟨_, _, rfl, rfl, (by omega), (by omega), (by rfl)⟩⟩)⟩)
set_option maxRecDepth 100000 in
set_option maxHeartbeats 4000000 in
theorem c_X8_order_ate {X : jX} (hs : X.1.stackTraces = false) {d : Nat} (hd : 10 ≤ d) {n : Nat} {mv rw nx : Nat → Nat} {b : Nat} {bt : List Int32} {kn en dn rf kk th : Int32} {w : List jC} (hR : RM n mv rw nx b bt kn en dn rf kk th w) (hn1 : 2 ≤ n) (hn2 : n ≤ 7) (gm : ∀ i, mv i < 7) (gr : ∀ i, rw i < 7) (gx : ∀ i, nx i < 7) (a : Int32) (hy0 : PM n mv) {kc ks : Nat} : jMet X mX8_order d kc ks [.ref 19, .int a] w (pJ (fun v w' => ∃ (th' : Int32), RM n mv rw nx b bt kn en dn rf kk th' w' ∧ FR b b w w' ∧ ((th' = nI 1 ∧ ¬ (isN a 6)) ∨ (th' = nI 0 ∧ ∃ a1 : Nat, a = nI a1 ∧ a1 < 6 ∧ v = nI (olc (lF (fun p => mv (a1 * 7 + p)) n) n))))) := by
  refine jMet_of hs (by decide +kernel) (Nat.le_of_ble_eq_true rfl) (L := [some (.ref 19), some (.int a)]) rfl ?_
  have hdm : 9 ≤ d - 1 := by omega
  have hdp : d - 1 + 1 ≤ d := by omega
  have hfc := fc_7 hn2
  have hfp := fc_pos n
  obtain ⟨h19, h20, h21, h22, hbb, hbl, hb3⟩ := hR
  have hF : FR b b w w := FR.rf
  refine J_aload_n (pc := 0) dX8_order_0 rfl rfl rfl ?_
  refine J_iload_n (pc := 1) dX8_order_1 rfl rfl ?_
  refine J_callS0 (pc := 2) (M := mX8_order) (as := [.int a]) dX8_order_2 fw_X8_isCell fl_X8_108 fs_X8_isCell rfl (c_X8_isCell hs (d := d - 1) (Nat.le_trans (by decide) hdm) (w := w) a (kc := 0) (ks := 0)) hdp (st := [.ref 19]) (Nat.le_of_ble_eq_true rfl) rfl (kr_P fun v1 hv1 => ?_) kx_I
  rcases hv1 with ⟨rfl, hk1_0⟩ | ⟨q1, rfl, hk1_0, rfl⟩
  · refine J_if_neN (pc := 5) (tgt := 12) dX8_order_5 (by decide) (by decide) (fun h => absurd h (by decide)) (fun _ => ?_)
    refine J_iconst (pc := 8) (v := nI 1) dX8_order_8 (by decide) ?_
    refine J_goto (pc := 9) (tgt := 13) dX8_order_9 (by decide) ?_
    refine J_callV0 (pc := 13) (M := mX8_order) (as := [.int (nI 1)]) dX8_order_13 fw_X8_isThrown_ fl_X8_105 fm_X8_isThrown_ fe_X8_isThrown_ h19 (by decide) rfl rfl rfl (c_X8_isThrown_ hs (d := d - 1) (Nat.le_trans (by decide) hdm) (w := w) (n := n) (mv := mv) (rw := rw) (nx := nx) (b := b) (bt := bt) (kn := kn) (en := en) (dn := dn) (rf := rf) (kk := kk) (th := th) ⟨h19, h20, h21, h22, hbb, hbl, hb3⟩ hn1 hn2 gm gr gx 1 (by first | assumption | omega) (kc := 0) (ks := 0)) hdp (st := []) (Nat.le_of_ble_eq_true rfl) rfl (kr_I fun v2 w2 hv2 hw2 => ?_) kx_I
    obtain ⟨hR2, hFc2⟩ := hw2
    obtain ⟨h19_2, h20_2, h21_2, h22_2, hbb_2, hbl_2, hb3_2⟩ := hR2
    have hF2 := hF.tr hFc2
    subst hv2
    show J X mX8_order d kc ks 16 [some (.ref 19), some (.int a)] [.int (nI 1)] w2 _
    refine J_if_eqN (pc := 16) (tgt := 23) dX8_order_16 (by decide) (by decide) (fun h => absurd h (by decide)) (fun _ => ?_)
    refine J_iconst (pc := 19) (v := nI 0) dX8_order_19 (by decide) ?_
    refine J_goto (pc := 20) (tgt := 35) dX8_order_20 (by decide) ?_
    exact J_iret (pc := 35) dX8_order_35 rfl (⟨nI (tW 1 0), ⟨h19_2, h20_2, h21_2, h22_2, hbb_2, hbl_2, hb3_2⟩, hF2, (by first | exact Or.inl ⟨rfl, fun g => (by first | exact ne_isN (by assumption) g | exact ne_isN (by assumption) g.1 | exact ne_isN (by assumption) g.2)⟩ | exact Or.inr ⟨rfl, ⟨_, rfl, (by omega), (by exact congrArg nI hoc)⟩⟩)⟩)
  · refine J_if_neN (pc := 5) (tgt := 12) dX8_order_5 (by decide) (by decide) (fun _ => ?_) (fun h => absurd h (by decide))
    refine J_iconst (pc := 12) (v := nI 0) dX8_order_12 (by decide) ?_
    refine J_callV0 (pc := 13) (M := mX8_order) (as := [.int (nI 0)]) dX8_order_13 fw_X8_isThrown_ fl_X8_105 fm_X8_isThrown_ fe_X8_isThrown_ h19 (by decide) rfl rfl rfl (c_X8_isThrown_ hs (d := d - 1) (Nat.le_trans (by decide) hdm) (w := w) (n := n) (mv := mv) (rw := rw) (nx := nx) (b := b) (bt := bt) (kn := kn) (en := en) (dn := dn) (rf := rf) (kk := kk) (th := th) ⟨h19, h20, h21, h22, hbb, hbl, hb3⟩ hn1 hn2 gm gr gx 0 (by first | assumption | omega) (kc := 0) (ks := 0)) hdp (st := []) (Nat.le_of_ble_eq_true rfl) rfl (kr_I fun v3 w3 hv3 hw3 => ?_) kx_I
    obtain ⟨hR3, hFc3⟩ := hw3
    obtain ⟨h19_3, h20_3, h21_3, h22_3, hbb_3, hbl_3, hb3_3⟩ := hR3
    have hF3 := hF.tr hFc3
    subst hv3
    show J X mX8_order d kc ks 16 [some (.ref 19), some (.int (nI q1))] [.int (nI 0)] w3 _
    refine J_if_eqN (pc := 16) (tgt := 23) dX8_order_16 (by decide) (by decide) (fun _ => ?_) (fun h => absurd h (by decide))
    refine J_aload_n (pc := 23) dX8_order_23 rfl rfl rfl ?_
    refine J_aload_n (pc := 24) dX8_order_24 rfl rfl rfl ?_
    refine J_get (pc := 25) (k := 1) dX8_order_25 kC9 (by decide) ff_X8_13 h19_3 rfl ?_
    refine J_iload_n (pc := 28) dX8_order_28 rfl rfl ?_
    refine J_bipush (pc := 29) (v := nI 7) dX8_order_29 (by decide) ?_
    refine J_imulN (pc := 31) dX8_order_31 ?_
    refine J_callV0 (pc := 32) (M := mX8_order) (as := [.ref 20, .int (nI (q1 * 7))]) dX8_order_32 fw_X8_orderOf fl_X8_172 fm_X8_orderOf fe_X8_orderOf h19_3 (by decide) rfl rfl rfl (c_X8_orderOf_at20x hs (d := d - 1) (Nat.le_trans (by decide) hdm) (w := w3) (n := n) (mv := mv) (rw := rw) (nx := nx) (b := b) (bt := bt) (kn := kn) (en := en) (dn := dn) (rf := rf) (kk := kk) (th := nI (tW 0 0)) ⟨h19_3, h20_3, h21_3, h22_3, hbb_3, hbl_3, hb3_3⟩ hn1 hn2 gm gr gx (q1 * 7) (by first | assumption | omega) (by exact hy0 _ (by assumption)) (kc := 0) (ks := 0)) hdp (st := []) (Nat.le_of_ble_eq_true rfl) rfl (kr_P fun v4 hv4 => ?_) kx_I
    obtain ⟨k4, rfl, hk4⟩ := hv4
    have hoc := hk4.1
    exact J_iret (pc := 35) dX8_order_35 rfl (⟨nI (tW 0 0), ⟨h19_3, h20_3, h21_3, h22_3, hbb_3, hbl_3, hb3_3⟩, hF3, (by first | exact Or.inl ⟨rfl, fun g => (by first | exact ne_isN (by assumption) g | exact ne_isN (by assumption) g.1 | exact ne_isN (by assumption) g.2)⟩ | exact Or.inr ⟨rfl, ⟨_, rfl, (by omega), (by exact congrArg nI hoc)⟩⟩)⟩)
set_option maxRecDepth 100000 in
set_option maxHeartbeats 4000000 in
theorem c_X8_sign_ate {X : jX} (hs : X.1.stackTraces = false) {d : Nat} (hd : 2 ≤ d) {n : Nat} {mv rw nx : Nat → Nat} {b : Nat} {bt : List Int32} {kn en dn rf kk th : Int32} {w : List jC} (hR : RM n mv rw nx b bt kn en dn rf kk th w) (hn1 : 2 ≤ n) (hn2 : n ≤ 7) (gm : ∀ i, mv i < 7) (gr : ∀ i, rw i < 7) (gx : ∀ i, nx i < 7) (a : Int32) {kc ks : Nat} : jMet X mX8_sign d kc ks [.ref 19, .int a] w (pJ (fun v w' => ∃ (th' : Int32), RM n mv rw nx b bt kn en dn rf kk th' w' ∧ FR b b w w' ∧ ((th' = nI 1 ∧ ¬ (isN a 6)) ∨ (th' = nI 0 ∧ ∃ a1 : Nat, a = nI a1 ∧ a1 < 6 ∧ v = sgv (iv mv (a1 * 7) n))))) := by
  refine jMet_of hs (by decide +kernel) (Nat.le_of_ble_eq_true rfl) (L := [some (.ref 19), some (.int a)]) rfl ?_
  have hdm : 1 ≤ d - 1 := by omega
  have hdp : d - 1 + 1 ≤ d := by omega
  have hfc := fc_7 hn2
  have hfp := fc_pos n
  obtain ⟨h19, h20, h21, h22, hbb, hbl, hb3⟩ := hR
  have hF : FR b b w w := FR.rf
  refine J_aload_n (pc := 0) dX8_sign_0 rfl rfl rfl ?_
  refine J_iload_n (pc := 1) dX8_sign_1 rfl rfl ?_
  refine J_callS0 (pc := 2) (M := mX8_sign) (as := [.int a]) dX8_sign_2 fw_X8_isCell fl_X8_108 fs_X8_isCell rfl (c_X8_isCell hs (d := d - 1) (Nat.le_trans (by decide) hdm) (w := w) a (kc := 0) (ks := 0)) hdp (st := [.ref 19]) (Nat.le_of_ble_eq_true rfl) rfl (kr_P fun v1 hv1 => ?_) kx_I
  rcases hv1 with ⟨rfl, hk1_0⟩ | ⟨q1, rfl, hk1_0, rfl⟩
  · refine J_if_neN (pc := 5) (tgt := 12) dX8_sign_5 (by decide) (by decide) (fun h => absurd h (by decide)) (fun _ => ?_)
    refine J_iconst (pc := 8) (v := nI 1) dX8_sign_8 (by decide) ?_
    refine J_goto (pc := 9) (tgt := 13) dX8_sign_9 (by decide) ?_
    refine J_callV0 (pc := 13) (M := mX8_sign) (as := [.int (nI 1)]) dX8_sign_13 fw_X8_isThrown_ fl_X8_105 fm_X8_isThrown_ fe_X8_isThrown_ h19 (by decide) rfl rfl rfl (c_X8_isThrown_ hs (d := d - 1) (Nat.le_trans (by decide) hdm) (w := w) (n := n) (mv := mv) (rw := rw) (nx := nx) (b := b) (bt := bt) (kn := kn) (en := en) (dn := dn) (rf := rf) (kk := kk) (th := th) ⟨h19, h20, h21, h22, hbb, hbl, hb3⟩ hn1 hn2 gm gr gx 1 (by first | assumption | omega) (kc := 0) (ks := 0)) hdp (st := []) (Nat.le_of_ble_eq_true rfl) rfl (kr_I fun v2 w2 hv2 hw2 => ?_) kx_I
    obtain ⟨hR2, hFc2⟩ := hw2
    obtain ⟨h19_2, h20_2, h21_2, h22_2, hbb_2, hbl_2, hb3_2⟩ := hR2
    have hF2 := hF.tr hFc2
    subst hv2
    show J X mX8_sign d kc ks 16 [some (.ref 19), some (.int a)] [.int (nI 1)] w2 _
    refine J_if_eqN (pc := 16) (tgt := 23) dX8_sign_16 (by decide) (by decide) (fun h => absurd h (by decide)) (fun _ => ?_)
    refine J_iconst (pc := 19) (v := nI 0) dX8_sign_19 (by decide) ?_
    refine J_goto (pc := 20) (tgt := 35) dX8_sign_20 (by decide) ?_
    exact J_iret (pc := 35) dX8_sign_35 rfl (⟨nI (tW 1 0), ⟨h19_2, h20_2, h21_2, h22_2, hbb_2, hbl_2, hb3_2⟩, hF2, (by first | exact Or.inl ⟨rfl, fun g => (by first | exact ne_isN (by assumption) g | exact ne_isN (by assumption) g.1 | exact ne_isN (by assumption) g.2)⟩ | exact Or.inr ⟨rfl, ⟨_, rfl, (by omega), (by exact hsv)⟩⟩)⟩)
  · refine J_if_neN (pc := 5) (tgt := 12) dX8_sign_5 (by decide) (by decide) (fun _ => ?_) (fun h => absurd h (by decide))
    refine J_iconst (pc := 12) (v := nI 0) dX8_sign_12 (by decide) ?_
    refine J_callV0 (pc := 13) (M := mX8_sign) (as := [.int (nI 0)]) dX8_sign_13 fw_X8_isThrown_ fl_X8_105 fm_X8_isThrown_ fe_X8_isThrown_ h19 (by decide) rfl rfl rfl (c_X8_isThrown_ hs (d := d - 1) (Nat.le_trans (by decide) hdm) (w := w) (n := n) (mv := mv) (rw := rw) (nx := nx) (b := b) (bt := bt) (kn := kn) (en := en) (dn := dn) (rf := rf) (kk := kk) (th := th) ⟨h19, h20, h21, h22, hbb, hbl, hb3⟩ hn1 hn2 gm gr gx 0 (by first | assumption | omega) (kc := 0) (ks := 0)) hdp (st := []) (Nat.le_of_ble_eq_true rfl) rfl (kr_I fun v3 w3 hv3 hw3 => ?_) kx_I
    obtain ⟨hR3, hFc3⟩ := hw3
    obtain ⟨h19_3, h20_3, h21_3, h22_3, hbb_3, hbl_3, hb3_3⟩ := hR3
    have hF3 := hF.tr hFc3
    subst hv3
    show J X mX8_sign d kc ks 16 [some (.ref 19), some (.int (nI q1))] [.int (nI 0)] w3 _
    refine J_if_eqN (pc := 16) (tgt := 23) dX8_sign_16 (by decide) (by decide) (fun _ => ?_) (fun h => absurd h (by decide))
    refine J_aload_n (pc := 23) dX8_sign_23 rfl rfl rfl ?_
    refine J_aload_n (pc := 24) dX8_sign_24 rfl rfl rfl ?_
    refine J_get (pc := 25) (k := 1) dX8_sign_25 kC9 (by decide) ff_X8_13 h19_3 rfl ?_
    refine J_iload_n (pc := 28) dX8_sign_28 rfl rfl ?_
    refine J_bipush (pc := 29) (v := nI 7) dX8_sign_29 (by decide) ?_
    refine J_imulN (pc := 31) dX8_sign_31 ?_
    refine J_callV0 (pc := 32) (M := mX8_sign) (as := [.ref 20, .int (nI (q1 * 7))]) dX8_sign_32 fw_X8_signOf fl_X8_115 fm_X8_signOf fe_X8_signOf h19_3 (by decide) rfl rfl rfl (c_X8_signOf_at20x hs (d := d - 1) (Nat.le_trans (by decide) hdm) (w := w3) (n := n) (mv := mv) (rw := rw) (nx := nx) (b := b) (bt := bt) (kn := kn) (en := en) (dn := dn) (rf := rf) (kk := kk) (th := nI (tW 0 0)) ⟨h19_3, h20_3, h21_3, h22_3, hbb_3, hbl_3, hb3_3⟩ hn1 hn2 gm gr gx (q1 * 7) (by first | assumption | omega) (kc := 0) (ks := 0)) hdp (st := []) (Nat.le_of_ble_eq_true rfl) rfl (kr_P fun v4 hv4 => ?_) kx_I
    have hsv := hv4
    exact J_iret (pc := 35) dX8_sign_35 rfl (⟨nI (tW 0 0), ⟨h19_3, h20_3, h21_3, h22_3, hbb_3, hbl_3, hb3_3⟩, hF3, (by first | exact Or.inl ⟨rfl, fun g => (by first | exact ne_isN (by assumption) g | exact ne_isN (by assumption) g.1 | exact ne_isN (by assumption) g.2)⟩ | exact Or.inr ⟨rfl, ⟨_, rfl, (by omega), (by exact hsv)⟩⟩)⟩)
set_option maxRecDepth 100000 in
set_option maxHeartbeats 4000000 in
theorem c_X8_stays_ate {X : jX} (hs : X.1.stackTraces = false) {d : Nat} (hd : 2 ≤ d) {n : Nat} {mv rw nx : Nat → Nat} {b : Nat} {bt : List Int32} {kn en dn rf kk th : Int32} {w : List jC} (hR : RM n mv rw nx b bt kn en dn rf kk th w) (hn1 : 2 ≤ n) (hn2 : n ≤ 7) (gm : ∀ i, mv i < 7) (gr : ∀ i, rw i < 7) (gx : ∀ i, nx i < 7) (a : Int32) {kc ks : Nat} : jMet X mX8_stays d kc ks [.ref 19, .int a] w (pJ (fun v w' => ∃ (th' : Int32), RM n mv rw nx b bt kn en dn rf kk th' w' ∧ FR b b w w' ∧ ((th' = nI 1 ∧ ¬ (isN a 6)) ∨ (th' = nI 0 ∧ ∃ a1 : Nat, a = nI a1 ∧ a1 < 6 ∧ v = nI (stF (fun p => mv (a1 * 7 + p)) n))))) := by
  refine jMet_of hs (by decide +kernel) (Nat.le_of_ble_eq_true rfl) (L := [some (.ref 19), some (.int a)]) rfl ?_
  have hdm : 1 ≤ d - 1 := by omega
  have hdp : d - 1 + 1 ≤ d := by omega
  have hfc := fc_7 hn2
  have hfp := fc_pos n
  obtain ⟨h19, h20, h21, h22, hbb, hbl, hb3⟩ := hR
  have hF : FR b b w w := FR.rf
  refine J_aload_n (pc := 0) dX8_stays_0 rfl rfl rfl ?_
  refine J_iload_n (pc := 1) dX8_stays_1 rfl rfl ?_
  refine J_callS0 (pc := 2) (M := mX8_stays) (as := [.int a]) dX8_stays_2 fw_X8_isCell fl_X8_108 fs_X8_isCell rfl (c_X8_isCell hs (d := d - 1) (Nat.le_trans (by decide) hdm) (w := w) a (kc := 0) (ks := 0)) hdp (st := [.ref 19]) (Nat.le_of_ble_eq_true rfl) rfl (kr_P fun v1 hv1 => ?_) kx_I
  rcases hv1 with ⟨rfl, hk1_0⟩ | ⟨q1, rfl, hk1_0, rfl⟩
  · refine J_if_neN (pc := 5) (tgt := 12) dX8_stays_5 (by decide) (by decide) (fun h => absurd h (by decide)) (fun _ => ?_)
    refine J_iconst (pc := 8) (v := nI 1) dX8_stays_8 (by decide) ?_
    refine J_goto (pc := 9) (tgt := 13) dX8_stays_9 (by decide) ?_
    refine J_callV0 (pc := 13) (M := mX8_stays) (as := [.int (nI 1)]) dX8_stays_13 fw_X8_isThrown_ fl_X8_105 fm_X8_isThrown_ fe_X8_isThrown_ h19 (by decide) rfl rfl rfl (c_X8_isThrown_ hs (d := d - 1) (Nat.le_trans (by decide) hdm) (w := w) (n := n) (mv := mv) (rw := rw) (nx := nx) (b := b) (bt := bt) (kn := kn) (en := en) (dn := dn) (rf := rf) (kk := kk) (th := th) ⟨h19, h20, h21, h22, hbb, hbl, hb3⟩ hn1 hn2 gm gr gx 1 (by first | assumption | omega) (kc := 0) (ks := 0)) hdp (st := []) (Nat.le_of_ble_eq_true rfl) rfl (kr_I fun v2 w2 hv2 hw2 => ?_) kx_I
    obtain ⟨hR2, hFc2⟩ := hw2
    obtain ⟨h19_2, h20_2, h21_2, h22_2, hbb_2, hbl_2, hb3_2⟩ := hR2
    have hF2 := hF.tr hFc2
    subst hv2
    show J X mX8_stays d kc ks 16 [some (.ref 19), some (.int a)] [.int (nI 1)] w2 _
    refine J_if_eqN (pc := 16) (tgt := 23) dX8_stays_16 (by decide) (by decide) (fun h => absurd h (by decide)) (fun _ => ?_)
    refine J_iconst (pc := 19) (v := nI 0) dX8_stays_19 (by decide) ?_
    refine J_goto (pc := 20) (tgt := 28) dX8_stays_20 (by decide) ?_
    exact J_iret (pc := 28) dX8_stays_28 rfl (⟨nI (tW 1 0), ⟨h19_2, h20_2, h21_2, h22_2, hbb_2, hbl_2, hb3_2⟩, hF2, (by first | exact Or.inl ⟨rfl, fun g => (by first | exact ne_isN (by assumption) g | exact ne_isN (by assumption) g.1 | exact ne_isN (by assumption) g.2)⟩ | exact Or.inr ⟨rfl, ⟨_, rfl, (by omega), (by rfl)⟩⟩)⟩)
  · refine J_if_neN (pc := 5) (tgt := 12) dX8_stays_5 (by decide) (by decide) (fun _ => ?_) (fun h => absurd h (by decide))
    refine J_iconst (pc := 12) (v := nI 0) dX8_stays_12 (by decide) ?_
    refine J_callV0 (pc := 13) (M := mX8_stays) (as := [.int (nI 0)]) dX8_stays_13 fw_X8_isThrown_ fl_X8_105 fm_X8_isThrown_ fe_X8_isThrown_ h19 (by decide) rfl rfl rfl (c_X8_isThrown_ hs (d := d - 1) (Nat.le_trans (by decide) hdm) (w := w) (n := n) (mv := mv) (rw := rw) (nx := nx) (b := b) (bt := bt) (kn := kn) (en := en) (dn := dn) (rf := rf) (kk := kk) (th := th) ⟨h19, h20, h21, h22, hbb, hbl, hb3⟩ hn1 hn2 gm gr gx 0 (by first | assumption | omega) (kc := 0) (ks := 0)) hdp (st := []) (Nat.le_of_ble_eq_true rfl) rfl (kr_I fun v3 w3 hv3 hw3 => ?_) kx_I
    obtain ⟨hR3, hFc3⟩ := hw3
    obtain ⟨h19_3, h20_3, h21_3, h22_3, hbb_3, hbl_3, hb3_3⟩ := hR3
    have hF3 := hF.tr hFc3
    subst hv3
    show J X mX8_stays d kc ks 16 [some (.ref 19), some (.int (nI q1))] [.int (nI 0)] w3 _
    refine J_if_eqN (pc := 16) (tgt := 23) dX8_stays_16 (by decide) (by decide) (fun _ => ?_) (fun h => absurd h (by decide))
    refine J_aload_n (pc := 23) dX8_stays_23 rfl rfl rfl ?_
    refine J_iload_n (pc := 24) dX8_stays_24 rfl rfl ?_
    refine J_callV0 (pc := 25) (M := mX8_stays) (as := [.int (nI q1)]) dX8_stays_25 fw_X8_staysNow fl_X8_175 fm_X8_staysNow fe_X8_staysNow h19_3 (by decide) rfl rfl rfl (c_X8_staysNow_atx hs (d := d - 1) (Nat.le_trans (by decide) hdm) (w := w3) (n := n) (mv := mv) (rw := rw) (nx := nx) (b := b) (bt := bt) (kn := kn) (en := en) (dn := dn) (rf := rf) (kk := kk) (th := nI (tW 0 0)) ⟨h19_3, h20_3, h21_3, h22_3, hbb_3, hbl_3, hb3_3⟩ hn1 hn2 gm gr gx q1 (by first | assumption | omega) (kc := 0) (ks := 0)) hdp (st := []) (Nat.le_of_ble_eq_true rfl) rfl (kr_P fun v4 hv4 => ?_) kx_I
    subst hv4
    exact J_iret (pc := 28) dX8_stays_28 rfl (⟨nI (tW 0 0), ⟨h19_3, h20_3, h21_3, h22_3, hbb_3, hbl_3, hb3_3⟩, hF3, (by first | exact Or.inl ⟨rfl, fun g => (by first | exact ne_isN (by assumption) g | exact ne_isN (by assumption) g.1 | exact ne_isN (by assumption) g.2)⟩ | exact Or.inr ⟨rfl, ⟨_, rfl, (by omega), (by rfl)⟩⟩)⟩)
set_option maxRecDepth 100000 in
set_option maxHeartbeats 4000000 in
theorem c_X8_areAlike_ate {X : jX} (hs : X.1.stackTraces = false) {d : Nat} (hd : 2 ≤ d) {n : Nat} {mv rw nx : Nat → Nat} {b : Nat} {bt : List Int32} {kn en dn rf kk th : Int32} {w : List jC} (hR : RM n mv rw nx b bt kn en dn rf kk th w) (hn1 : 2 ≤ n) (hn2 : n ≤ 7) (gm : ∀ i, mv i < 7) (gr : ∀ i, rw i < 7) (gx : ∀ i, nx i < 7) (a : Int32) (c : Int32) (hy0 : PM n mv) {kc ks : Nat} : jMet X mX8_areAlike d kc ks [.ref 19, .int a, .int c] w (pJ (fun v w' => ∃ (th' : Int32), RM n mv rw nx b bt kn en dn rf kk th' w' ∧ FR b b w w' ∧ ((th' = nI 1 ∧ ¬ (isN a 6 ∧ isN c 6)) ∨ (th' = nI 0 ∧ ∃ a1 b1 : Nat, a = nI a1 ∧ c = nI b1 ∧ a1 < 6 ∧ b1 < 6 ∧ ((v = nI 1 ∧ ∀ L, 1 ≤ L → L ≤ n → lo (fun p => mv (a1 * 7 + p)) n L n / L = lo (fun p => mv (b1 * 7 + p)) n L n / L) ∨ (v = nI 0 ∧ ¬ ∀ L, 1 ≤ L → L ≤ n → lo (fun p => mv (a1 * 7 + p)) n L n / L = lo (fun p => mv (b1 * 7 + p)) n L n / L)))))) := by
  refine jMet_of hs (by decide +kernel) (Nat.le_of_ble_eq_true rfl) (L := [some (.ref 19), some (.int a), some (.int c), none, none]) rfl ?_
  have hdm : 1 ≤ d - 1 := by omega
  have hdp : d - 1 + 1 ≤ d := by omega
  have hfc := fc_7 hn2
  have hfp := fc_pos n
  obtain ⟨h19, h20, h21, h22, hbb, hbl, hb3⟩ := hR
  have hF : FR b b w w := FR.rf
  refine J_aload_n (pc := 0) dX8_areAlike_0 rfl rfl rfl ?_
  refine J_iload_n (pc := 1) dX8_areAlike_1 rfl rfl ?_
  refine J_callS0 (pc := 2) (M := mX8_areAlike) (as := [.int a]) dX8_areAlike_2 fw_X8_isCell fl_X8_108 fs_X8_isCell rfl (c_X8_isCell hs (d := d - 1) (Nat.le_trans (by decide) hdm) (w := w) a (kc := 0) (ks := 0)) hdp (st := [.ref 19]) (Nat.le_of_ble_eq_true rfl) rfl (kr_P fun v1 hv1 => ?_) kx_I
  rcases hv1 with ⟨rfl, hk1_0⟩ | ⟨q1, rfl, hk1_0, rfl⟩
  · refine J_if_eqN (pc := 5) (tgt := 15) dX8_areAlike_5 (by decide) (by decide) (fun _ => ?_) (fun h => absurd h (by decide))
    refine J_iconst (pc := 15) (v := nI 1) dX8_areAlike_15 (by decide) ?_
    refine J_goto (pc := 16) (tgt := 20) dX8_areAlike_16 (by decide) ?_
    refine J_callV0 (pc := 20) (M := mX8_areAlike) (as := [.int (nI 1)]) dX8_areAlike_20 fw_X8_isThrown_ fl_X8_105 fm_X8_isThrown_ fe_X8_isThrown_ h19 (by decide) rfl rfl rfl (c_X8_isThrown_ hs (d := d - 1) (Nat.le_trans (by decide) hdm) (w := w) (n := n) (mv := mv) (rw := rw) (nx := nx) (b := b) (bt := bt) (kn := kn) (en := en) (dn := dn) (rf := rf) (kk := kk) (th := th) ⟨h19, h20, h21, h22, hbb, hbl, hb3⟩ hn1 hn2 gm gr gx 1 (by first | assumption | omega) (kc := 0) (ks := 0)) hdp (st := []) (Nat.le_of_ble_eq_true rfl) rfl (kr_I fun v2 w2 hv2 hw2 => ?_) kx_I
    obtain ⟨hR2, hFc2⟩ := hw2
    obtain ⟨h19_2, h20_2, h21_2, h22_2, hbb_2, hbl_2, hb3_2⟩ := hR2
    have hF2 := hF.tr hFc2
    subst hv2
    show J X mX8_areAlike d kc ks 23 [some (.ref 19), some (.int a), some (.int c), none, none] [.int (nI 1)] w2 _
    refine J_if_eqN (pc := 23) (tgt := 28) dX8_areAlike_23 (by decide) (by decide) (fun h => absurd h (by decide)) (fun _ => ?_)
    refine J_iconst (pc := 26) (v := nI 0) dX8_areAlike_26 (by decide) ?_
    exact J_zret (pc := 27) dX8_areAlike_27 rfl (nar_b (by first | decide | omega)) (⟨nI (tW 1 0), ⟨h19_2, h20_2, h21_2, h22_2, hbb_2, hbl_2, hb3_2⟩, hF2, (by first | exact Or.inl ⟨rfl, fun g => (by first | exact ne_isN (by assumption) g | exact ne_isN (by assumption) g.1 | exact ne_isN (by assumption) g.2)⟩ | exact Or.inr ⟨rfl, ⟨_, _, rfl, rfl, (by omega), (by omega), (by first | exact al_end hv33_2 (by omega))⟩⟩)⟩)
  · refine J_if_eqN (pc := 5) (tgt := 15) dX8_areAlike_5 (by decide) (by decide) (fun h => absurd h (by decide)) (fun _ => ?_)
    refine J_iload_n (pc := 8) dX8_areAlike_8 rfl rfl ?_
    refine J_callS0 (pc := 9) (M := mX8_areAlike) (as := [.int c]) dX8_areAlike_9 fw_X8_isCell fl_X8_108 fs_X8_isCell rfl (c_X8_isCell hs (d := d - 1) (Nat.le_trans (by decide) hdm) (w := w) c (kc := 0) (ks := 0)) hdp (st := [.ref 19]) (Nat.le_of_ble_eq_true rfl) rfl (kr_P fun v3 hv3 => ?_) kx_I
    rcases hv3 with ⟨rfl, hk3_0⟩ | ⟨q3, rfl, hk3_0, rfl⟩
    · refine J_if_neN (pc := 12) (tgt := 19) dX8_areAlike_12 (by decide) (by decide) (fun h => absurd h (by decide)) (fun _ => ?_)
      refine J_iconst (pc := 15) (v := nI 1) dX8_areAlike_15 (by decide) ?_
      refine J_goto (pc := 16) (tgt := 20) dX8_areAlike_16 (by decide) ?_
      refine J_callV0 (pc := 20) (M := mX8_areAlike) (as := [.int (nI 1)]) dX8_areAlike_20 fw_X8_isThrown_ fl_X8_105 fm_X8_isThrown_ fe_X8_isThrown_ h19 (by decide) rfl rfl rfl (c_X8_isThrown_ hs (d := d - 1) (Nat.le_trans (by decide) hdm) (w := w) (n := n) (mv := mv) (rw := rw) (nx := nx) (b := b) (bt := bt) (kn := kn) (en := en) (dn := dn) (rf := rf) (kk := kk) (th := th) ⟨h19, h20, h21, h22, hbb, hbl, hb3⟩ hn1 hn2 gm gr gx 1 (by first | assumption | omega) (kc := 0) (ks := 0)) hdp (st := []) (Nat.le_of_ble_eq_true rfl) rfl (kr_I fun v4 w4 hv4 hw4 => ?_) kx_I
      obtain ⟨hR4, hFc4⟩ := hw4
      obtain ⟨h19_4, h20_4, h21_4, h22_4, hbb_4, hbl_4, hb3_4⟩ := hR4
      have hF4 := hF.tr hFc4
      subst hv4
      show J X mX8_areAlike d kc ks 23 [some (.ref 19), some (.int (nI q1)), some (.int c), none, none] [.int (nI 1)] w4 _
      refine J_if_eqN (pc := 23) (tgt := 28) dX8_areAlike_23 (by decide) (by decide) (fun h => absurd h (by decide)) (fun _ => ?_)
      refine J_iconst (pc := 26) (v := nI 0) dX8_areAlike_26 (by decide) ?_
      exact J_zret (pc := 27) dX8_areAlike_27 rfl (nar_b (by first | decide | omega)) (⟨nI (tW 1 0), ⟨h19_4, h20_4, h21_4, h22_4, hbb_4, hbl_4, hb3_4⟩, hF4, (by first | exact Or.inl ⟨rfl, fun g => (by first | exact ne_isN (by assumption) g | exact ne_isN (by assumption) g.1 | exact ne_isN (by assumption) g.2)⟩ | exact Or.inr ⟨rfl, ⟨_, _, rfl, rfl, (by omega), (by omega), (by first | exact al_end hv33_2 (by omega))⟩⟩)⟩)
    · refine J_if_neN (pc := 12) (tgt := 19) dX8_areAlike_12 (by decide) (by decide) (fun _ => ?_) (fun h => absurd h (by decide))
      refine J_iconst (pc := 19) (v := nI 0) dX8_areAlike_19 (by decide) ?_
      refine J_callV0 (pc := 20) (M := mX8_areAlike) (as := [.int (nI 0)]) dX8_areAlike_20 fw_X8_isThrown_ fl_X8_105 fm_X8_isThrown_ fe_X8_isThrown_ h19 (by decide) rfl rfl rfl (c_X8_isThrown_ hs (d := d - 1) (Nat.le_trans (by decide) hdm) (w := w) (n := n) (mv := mv) (rw := rw) (nx := nx) (b := b) (bt := bt) (kn := kn) (en := en) (dn := dn) (rf := rf) (kk := kk) (th := th) ⟨h19, h20, h21, h22, hbb, hbl, hb3⟩ hn1 hn2 gm gr gx 0 (by first | assumption | omega) (kc := 0) (ks := 0)) hdp (st := []) (Nat.le_of_ble_eq_true rfl) rfl (kr_I fun v5 w5 hv5 hw5 => ?_) kx_I
      obtain ⟨hR5, hFc5⟩ := hw5
      obtain ⟨h19_5, h20_5, h21_5, h22_5, hbb_5, hbl_5, hb3_5⟩ := hR5
      have hF5 := hF.tr hFc5
      subst hv5
      show J X mX8_areAlike d kc ks 23 [some (.ref 19), some (.int (nI q1)), some (.int (nI q3)), none, none] [.int (nI 0)] w5 _
      refine J_if_eqN (pc := 23) (tgt := 28) dX8_areAlike_23 (by decide) (by decide) (fun _ => ?_) (fun h => absurd h (by decide))
      refine J_iconst (pc := 28) (v := nI 1) dX8_areAlike_28 (by decide) ?_
      refine J_istore_n (pc := 29) dX8_areAlike_29 rfl (by decide) rfl ?_
      show J X mX8_areAlike d kc ks 30 [some (.ref 19), some (.int (nI q1)), some (.int (nI q3)), some (.int (nI 1)), none] [] w5 _
      refine J_iconst (pc := 30) (v := nI 1) dX8_areAlike_30 (by decide) ?_
      refine J_istore (pc := 31) dX8_areAlike_31 (by decide) rfl ?_
      show J X mX8_areAlike d kc ks 33 [some (.ref 19), some (.int (nI q1)), some (.int (nI q3)), some (.int (nI 1)), some (.int (nI 1))] [] w5 _
      have lp33_6 : ∀ (fuel : Nat) (y3 : Nat) (c4 : Nat), (y3 < 2) → (1 ≤ c4) → (AL n (fun p => mv (q1 * 7 + p)) (fun p => mv (q3 * 7 + p)) c4 y3) → (c4 ≤ n + 1) → (n + 1 - c4 < fuel) → J X mX8_areAlike d kc ks 33 [some (.ref 19), some (.int (nI q1)), some (.int (nI q3)), some (.int (nI y3)), some (.int (nI c4))] [] w5 (pJ (fun v w' => ∃ (th' : Int32), RM n mv rw nx b bt kn en dn rf kk th' w' ∧ FR b b w w' ∧ ((th' = nI 1 ∧ ¬ (isN (nI q1) 6 ∧ isN (nI q3) 6)) ∨ (th' = nI 0 ∧ ∃ a1 b1 : Nat, (nI q1) = nI a1 ∧ (nI q3) = nI b1 ∧ a1 < 6 ∧ b1 < 6 ∧ ((v = nI 1 ∧ ∀ L, 1 ≤ L → L ≤ n → lo (fun p => mv (a1 * 7 + p)) n L n / L = lo (fun p => mv (b1 * 7 + p)) n L n / L) ∨ (v = nI 0 ∧ ¬ ∀ L, 1 ≤ L → L ≤ n → lo (fun p => mv (a1 * 7 + p)) n L n / L = lo (fun p => mv (b1 * 7 + p)) n L n / L)))))) := by
        intro fuellp33_6
        induction fuellp33_6 with
        | zero => intros; omega
        | succ fuellp33_6 ihlp33_6 =>
          intro y3 c4 hv33_0 hv33_1 hv33_2 hv33_3 hf7
          refine J_iload (pc := 33) dX8_areAlike_33 rfl ?_
          refine J_aload_n (pc := 35) dX8_areAlike_35 rfl rfl rfl ?_
          refine J_get (pc := 36) (k := 0) dX8_areAlike_36 kC9 (by decide) ff_X8_7 h19_5 rfl ?_
          refine J_icmp_gtN (pc := 39) (tgt := 73) dX8_areAlike_39 (by decide) (by omega) (by omega) (fun ht8 => ?_) (fun hf9 => ?_)
          · refine J_iload_n (pc := 73) dX8_areAlike_73 rfl rfl ?_
            exact J_zret (pc := 74) dX8_areAlike_74 rfl (nar_b (by first | decide | omega)) (⟨nI (tW 0 0), ⟨h19_5, h20_5, h21_5, h22_5, hbb_5, hbl_5, hb3_5⟩, hF5, (by first | exact Or.inl ⟨rfl, fun g => (by first | exact ne_isN (by assumption) g | exact ne_isN (by assumption) g.1 | exact ne_isN (by assumption) g.2)⟩ | exact Or.inr ⟨rfl, ⟨_, _, rfl, rfl, (by omega), (by omega), (by first | exact al_end hv33_2 (by omega))⟩⟩)⟩)
          · refine J_iload_n (pc := 42) dX8_areAlike_42 rfl rfl ?_
            refine J_aload_n (pc := 43) dX8_areAlike_43 rfl rfl rfl ?_
            refine J_iload_n (pc := 44) dX8_areAlike_44 rfl rfl ?_
            refine J_iload (pc := 45) dX8_areAlike_45 rfl ?_
            refine J_callV0 (pc := 47) (M := mX8_areAlike) (as := [.int (nI q1), .int (nI c4)]) dX8_areAlike_47 fw_X8_longOnes fl_X8_162 fm_X8_longOnes fe_X8_longOnes h19_5 (by decide) rfl rfl rfl (c_X8_longOnes_atx hs (d := d - 1) (Nat.le_trans (by decide) hdm) (w := w5) (n := n) (mv := mv) (rw := rw) (nx := nx) (b := b) (bt := bt) (kn := kn) (en := en) (dn := dn) (rf := rf) (kk := kk) (th := nI (tW 0 0)) ⟨h19_5, h20_5, h21_5, h22_5, hbb_5, hbl_5, hb3_5⟩ hn1 hn2 gm gr gx q1 c4 (by first | assumption | omega) (by first | assumption | omega) (by first | assumption | omega) (by first | assumption | omega) (kc := 0) (ks := 0)) hdp (st := [.int (nI y3)]) (Nat.le_of_ble_eq_true rfl) rfl (kr_P fun v10 hv10 => ?_) kx_I
            subst hv10
            have hlo10 := Nat.lt_of_le_of_lt (Nat.le_trans (Nat.div_le_self (lo (fun p => mv (q1 * 7 + p)) n c4 n) c4) (lo_le (fun p => mv (q1 * 7 + p)) n c4 n)) (show n < 2 ^ 31 by omega)
            refine J_aload_n (pc := 50) dX8_areAlike_50 rfl rfl rfl ?_
            refine J_iload_n (pc := 51) dX8_areAlike_51 rfl rfl ?_
            refine J_iload (pc := 52) dX8_areAlike_52 rfl ?_
            refine J_callV0 (pc := 54) (M := mX8_areAlike) (as := [.int (nI q3), .int (nI c4)]) dX8_areAlike_54 fw_X8_longOnes fl_X8_162 fm_X8_longOnes fe_X8_longOnes h19_5 (by decide) rfl rfl rfl (c_X8_longOnes_atx hs (d := d - 1) (Nat.le_trans (by decide) hdm) (w := w5) (n := n) (mv := mv) (rw := rw) (nx := nx) (b := b) (bt := bt) (kn := kn) (en := en) (dn := dn) (rf := rf) (kk := kk) (th := nI (tW 0 0)) ⟨h19_5, h20_5, h21_5, h22_5, hbb_5, hbl_5, hb3_5⟩ hn1 hn2 gm gr gx q3 c4 (by first | assumption | omega) (by first | assumption | omega) (by first | assumption | omega) (by first | assumption | omega) (kc := 0) (ks := 0)) hdp (st := [.int (nI (lo (fun p => mv (q1 * 7 + p)) n c4 n / c4)), .int (nI y3)]) (Nat.le_of_ble_eq_true rfl) rfl (kr_P fun v11 hv11 => ?_) kx_I
            subst hv11
            have hlo11 := Nat.lt_of_le_of_lt (Nat.le_trans (Nat.div_le_self (lo (fun p => mv (q3 * 7 + p)) n c4 n) c4) (lo_le (fun p => mv (q3 * 7 + p)) n c4 n)) (show n < 2 ^ 31 by omega)
            refine J_icmp_neN (pc := 57) (tgt := 64) dX8_areAlike_57 (by decide) (by omega) (by omega) (fun ht12 => ?_) (fun hf13 => ?_)
            · refine J_iconst (pc := 64) (v := nI 0) dX8_areAlike_64 (by decide) ?_
              refine J_iand1 (pc := 65) dX8_areAlike_65 (by omega) (by omega) ?_
              refine J_istore_n (pc := 66) dX8_areAlike_66 rfl (by decide) rfl ?_
              show J X mX8_areAlike d kc ks 67 [some (.ref 19), some (.int (nI q1)), some (.int (nI q3)), some (.int (nI (y3 * 0))), some (.int (nI c4))] [] w5 _
              refine J_iincN (pc := 67) (b := 1) dX8_areAlike_67 rfl (by decide) (by decide) rfl ?_
              show J X mX8_areAlike d kc ks 70 [some (.ref 19), some (.int (nI q1)), some (.int (nI q3)), some (.int (nI (y3 * 0))), some (.int (nI (c4 + 1)))] [] w5 _
              refine J_goto (pc := 70) (tgt := 33) dX8_areAlike_70 (by decide) ?_
              exact J_sub (L' := [some (.ref 19), some (.int (nI q1)), some (.int (nI q3)), some (.int (nI (y3 * 0))), some (.int (nI (c4 + 1)))]) ⟨rfl, ⟨rfl, ⟨rfl, ⟨rfl, ⟨rfl, trivial⟩⟩⟩⟩⟩ (ihlp33_6 (y3 * 0) (c4 + 1) (by first | assumption | omega) (by first | assumption | omega) (by first | exact AL_s hv33_2 (by omega) (by omega) (by assumption) | exact AL_n hv33_2 (by omega) (by omega) (by assumption)) (by first | assumption | omega) (by omega))
            · refine J_iconst (pc := 60) (v := nI 1) dX8_areAlike_60 (by decide) ?_
              refine J_goto (pc := 61) (tgt := 65) dX8_areAlike_61 (by decide) ?_
              have hm14 := Nat.mod_lt y3 (show 0 < 2 ^ 1 by decide)
              refine J_iandN (pc := 65) 1 dX8_areAlike_65 (by omega) (by decide) ?_
              refine J_istore_n (pc := 66) dX8_areAlike_66 rfl (by decide) rfl ?_
              show J X mX8_areAlike d kc ks 67 [some (.ref 19), some (.int (nI q1)), some (.int (nI q3)), some (.int (nI (y3 % 2 ^ 1))), some (.int (nI c4))] [] w5 _
              refine J_iincN (pc := 67) (b := 1) dX8_areAlike_67 rfl (by decide) (by decide) rfl ?_
              show J X mX8_areAlike d kc ks 70 [some (.ref 19), some (.int (nI q1)), some (.int (nI q3)), some (.int (nI (y3 % 2 ^ 1))), some (.int (nI (c4 + 1)))] [] w5 _
              refine J_goto (pc := 70) (tgt := 33) dX8_areAlike_70 (by decide) ?_
              exact J_sub (L' := [some (.ref 19), some (.int (nI q1)), some (.int (nI q3)), some (.int (nI (y3 % 2 ^ 1))), some (.int (nI (c4 + 1)))]) ⟨rfl, ⟨rfl, ⟨rfl, ⟨rfl, ⟨rfl, trivial⟩⟩⟩⟩⟩ (ihlp33_6 (y3 % 2 ^ 1) (c4 + 1) (by first | assumption | omega) (by first | assumption | omega) (by first | exact AL_s hv33_2 (by omega) (by omega) (by assumption) | exact AL_n hv33_2 (by omega) (by omega) (by assumption)) (by first | assumption | omega) (by omega))
      exact J_sub (L' := [some (.ref 19), some (.int (nI q1)), some (.int (nI q3)), some (.int (nI 1)), some (.int (nI 1))]) ⟨rfl, ⟨rfl, ⟨rfl, ⟨rfl, ⟨rfl, trivial⟩⟩⟩⟩⟩ (lp33_6 _ 1 1 (by first | assumption | omega) (by first | assumption | omega) (by exact AL_1) (by first | assumption | omega) (Nat.lt_succ_self _))
set_option maxRecDepth 100000 in
set_option maxHeartbeats 4000000 in
theorem c_X8_commute_ate {X : jX} (hs : X.1.stackTraces = false) {d : Nat} (hd : 2 ≤ d) {n : Nat} {mv rw nx : Nat → Nat} {b : Nat} {bt : List Int32} {kn en dn rf kk th : Int32} {w : List jC} (hR : RM n mv rw nx b bt kn en dn rf kk th w) (hn1 : 2 ≤ n) (hn2 : n ≤ 7) (gm : ∀ i, mv i < 7) (gr : ∀ i, rw i < 7) (gx : ∀ i, nx i < 7) (a : Int32) (c : Int32) {kc ks : Nat} : jMet X mX8_commute d kc ks [.ref 19, .int a, .int c] w (pJ (fun v w' => ∃ (th' : Int32), RM n mv rw nx b bt kn en dn rf kk th' w' ∧ FR b b w w' ∧ ((th' = nI 1 ∧ ¬ (isN a 6 ∧ isN c 6)) ∨ (th' = nI 0 ∧ ∃ a1 b1 : Nat, a = nI a1 ∧ c = nI b1 ∧ a1 < 6 ∧ b1 < 6 ∧ ((v = nI 1 ∧ ∀ p, p < n → mv (b1 * 7 + mv (a1 * 7 + p)) = mv (a1 * 7 + mv (b1 * 7 + p))) ∨ (v = nI 0 ∧ ¬ ∀ p, p < n → mv (b1 * 7 + mv (a1 * 7 + p)) = mv (a1 * 7 + mv (b1 * 7 + p)))))))) := by
  refine jMet_of hs (by decide +kernel) (Nat.le_of_ble_eq_true rfl) (L := [some (.ref 19), some (.int a), some (.int c), none]) rfl ?_
  have hdm : 1 ≤ d - 1 := by omega
  have hdp : d - 1 + 1 ≤ d := by omega
  have hfc := fc_7 hn2
  have hfp := fc_pos n
  obtain ⟨h19, h20, h21, h22, hbb, hbl, hb3⟩ := hR
  have hF : FR b b w w := FR.rf
  refine J_aload_n (pc := 0) dX8_commute_0 rfl rfl rfl ?_
  refine J_iload_n (pc := 1) dX8_commute_1 rfl rfl ?_
  refine J_callS0 (pc := 2) (M := mX8_commute) (as := [.int a]) dX8_commute_2 fw_X8_isCell fl_X8_108 fs_X8_isCell rfl (c_X8_isCell hs (d := d - 1) (Nat.le_trans (by decide) hdm) (w := w) a (kc := 0) (ks := 0)) hdp (st := [.ref 19]) (Nat.le_of_ble_eq_true rfl) rfl (kr_P fun v1 hv1 => ?_) kx_I
  rcases hv1 with ⟨rfl, hk1_0⟩ | ⟨q1, rfl, hk1_0, rfl⟩
  · refine J_if_eqN (pc := 5) (tgt := 15) dX8_commute_5 (by decide) (by decide) (fun _ => ?_) (fun h => absurd h (by decide))
    refine J_iconst (pc := 15) (v := nI 1) dX8_commute_15 (by decide) ?_
    refine J_goto (pc := 16) (tgt := 20) dX8_commute_16 (by decide) ?_
    refine J_callV0 (pc := 20) (M := mX8_commute) (as := [.int (nI 1)]) dX8_commute_20 fw_X8_isThrown_ fl_X8_105 fm_X8_isThrown_ fe_X8_isThrown_ h19 (by decide) rfl rfl rfl (c_X8_isThrown_ hs (d := d - 1) (Nat.le_trans (by decide) hdm) (w := w) (n := n) (mv := mv) (rw := rw) (nx := nx) (b := b) (bt := bt) (kn := kn) (en := en) (dn := dn) (rf := rf) (kk := kk) (th := th) ⟨h19, h20, h21, h22, hbb, hbl, hb3⟩ hn1 hn2 gm gr gx 1 (by first | assumption | omega) (kc := 0) (ks := 0)) hdp (st := []) (Nat.le_of_ble_eq_true rfl) rfl (kr_I fun v2 w2 hv2 hw2 => ?_) kx_I
    obtain ⟨hR2, hFc2⟩ := hw2
    obtain ⟨h19_2, h20_2, h21_2, h22_2, hbb_2, hbl_2, hb3_2⟩ := hR2
    have hF2 := hF.tr hFc2
    subst hv2
    show J X mX8_commute d kc ks 23 [some (.ref 19), some (.int a), some (.int c), none] [.int (nI 1)] w2 _
    refine J_if_eqN (pc := 23) (tgt := 28) dX8_commute_23 (by decide) (by decide) (fun h => absurd h (by decide)) (fun _ => ?_)
    refine J_iconst (pc := 26) (v := nI 0) dX8_commute_26 (by decide) ?_
    exact J_zret (pc := 27) dX8_commute_27 rfl (nar_b (by first | decide | omega)) (⟨nI (tW 1 0), ⟨h19_2, h20_2, h21_2, h22_2, hbb_2, hbl_2, hb3_2⟩, hF2, (by first | exact Or.inl ⟨rfl, fun g => (by first | exact ne_isN (by assumption) g | exact ne_isN (by assumption) g.1 | exact ne_isN (by assumption) g.2)⟩ | exact Or.inr ⟨rfl, ⟨_, _, rfl, rfl, (by omega), (by omega), (by first | exact Or.inl ⟨rfl, fun p hp => hv30_0 p (by omega)⟩ | exact Or.inr ⟨rfl, fun h => absurd (h _ (by omega)) (by assumption)⟩)⟩⟩)⟩)
  · refine J_if_eqN (pc := 5) (tgt := 15) dX8_commute_5 (by decide) (by decide) (fun h => absurd h (by decide)) (fun _ => ?_)
    refine J_iload_n (pc := 8) dX8_commute_8 rfl rfl ?_
    refine J_callS0 (pc := 9) (M := mX8_commute) (as := [.int c]) dX8_commute_9 fw_X8_isCell fl_X8_108 fs_X8_isCell rfl (c_X8_isCell hs (d := d - 1) (Nat.le_trans (by decide) hdm) (w := w) c (kc := 0) (ks := 0)) hdp (st := [.ref 19]) (Nat.le_of_ble_eq_true rfl) rfl (kr_P fun v3 hv3 => ?_) kx_I
    rcases hv3 with ⟨rfl, hk3_0⟩ | ⟨q3, rfl, hk3_0, rfl⟩
    · refine J_if_neN (pc := 12) (tgt := 19) dX8_commute_12 (by decide) (by decide) (fun h => absurd h (by decide)) (fun _ => ?_)
      refine J_iconst (pc := 15) (v := nI 1) dX8_commute_15 (by decide) ?_
      refine J_goto (pc := 16) (tgt := 20) dX8_commute_16 (by decide) ?_
      refine J_callV0 (pc := 20) (M := mX8_commute) (as := [.int (nI 1)]) dX8_commute_20 fw_X8_isThrown_ fl_X8_105 fm_X8_isThrown_ fe_X8_isThrown_ h19 (by decide) rfl rfl rfl (c_X8_isThrown_ hs (d := d - 1) (Nat.le_trans (by decide) hdm) (w := w) (n := n) (mv := mv) (rw := rw) (nx := nx) (b := b) (bt := bt) (kn := kn) (en := en) (dn := dn) (rf := rf) (kk := kk) (th := th) ⟨h19, h20, h21, h22, hbb, hbl, hb3⟩ hn1 hn2 gm gr gx 1 (by first | assumption | omega) (kc := 0) (ks := 0)) hdp (st := []) (Nat.le_of_ble_eq_true rfl) rfl (kr_I fun v4 w4 hv4 hw4 => ?_) kx_I
      obtain ⟨hR4, hFc4⟩ := hw4
      obtain ⟨h19_4, h20_4, h21_4, h22_4, hbb_4, hbl_4, hb3_4⟩ := hR4
      have hF4 := hF.tr hFc4
      subst hv4
      show J X mX8_commute d kc ks 23 [some (.ref 19), some (.int (nI q1)), some (.int c), none] [.int (nI 1)] w4 _
      refine J_if_eqN (pc := 23) (tgt := 28) dX8_commute_23 (by decide) (by decide) (fun h => absurd h (by decide)) (fun _ => ?_)
      refine J_iconst (pc := 26) (v := nI 0) dX8_commute_26 (by decide) ?_
      exact J_zret (pc := 27) dX8_commute_27 rfl (nar_b (by first | decide | omega)) (⟨nI (tW 1 0), ⟨h19_4, h20_4, h21_4, h22_4, hbb_4, hbl_4, hb3_4⟩, hF4, (by first | exact Or.inl ⟨rfl, fun g => (by first | exact ne_isN (by assumption) g | exact ne_isN (by assumption) g.1 | exact ne_isN (by assumption) g.2)⟩ | exact Or.inr ⟨rfl, ⟨_, _, rfl, rfl, (by omega), (by omega), (by first | exact Or.inl ⟨rfl, fun p hp => hv30_0 p (by omega)⟩ | exact Or.inr ⟨rfl, fun h => absurd (h _ (by omega)) (by assumption)⟩)⟩⟩)⟩)
    · refine J_if_neN (pc := 12) (tgt := 19) dX8_commute_12 (by decide) (by decide) (fun _ => ?_) (fun h => absurd h (by decide))
      refine J_iconst (pc := 19) (v := nI 0) dX8_commute_19 (by decide) ?_
      refine J_callV0 (pc := 20) (M := mX8_commute) (as := [.int (nI 0)]) dX8_commute_20 fw_X8_isThrown_ fl_X8_105 fm_X8_isThrown_ fe_X8_isThrown_ h19 (by decide) rfl rfl rfl (c_X8_isThrown_ hs (d := d - 1) (Nat.le_trans (by decide) hdm) (w := w) (n := n) (mv := mv) (rw := rw) (nx := nx) (b := b) (bt := bt) (kn := kn) (en := en) (dn := dn) (rf := rf) (kk := kk) (th := th) ⟨h19, h20, h21, h22, hbb, hbl, hb3⟩ hn1 hn2 gm gr gx 0 (by first | assumption | omega) (kc := 0) (ks := 0)) hdp (st := []) (Nat.le_of_ble_eq_true rfl) rfl (kr_I fun v5 w5 hv5 hw5 => ?_) kx_I
      obtain ⟨hR5, hFc5⟩ := hw5
      obtain ⟨h19_5, h20_5, h21_5, h22_5, hbb_5, hbl_5, hb3_5⟩ := hR5
      have hF5 := hF.tr hFc5
      subst hv5
      show J X mX8_commute d kc ks 23 [some (.ref 19), some (.int (nI q1)), some (.int (nI q3)), none] [.int (nI 0)] w5 _
      refine J_if_eqN (pc := 23) (tgt := 28) dX8_commute_23 (by decide) (by decide) (fun _ => ?_) (fun h => absurd h (by decide))
      refine J_iconst (pc := 28) (v := nI 0) dX8_commute_28 (by decide) ?_
      refine J_istore_n (pc := 29) dX8_commute_29 rfl (by decide) rfl ?_
      show J X mX8_commute d kc ks 30 [some (.ref 19), some (.int (nI q1)), some (.int (nI q3)), some (.int (nI 0))] [] w5 _
      have lp30_6 : ∀ (fuel : Nat) (c3 : Nat), (∀ p, p < c3 → mv (q3 * 7 + mv (q1 * 7 + p)) = mv (q1 * 7 + mv (q3 * 7 + p))) → (c3 ≤ n) → (n - c3 < fuel) → J X mX8_commute d kc ks 30 [some (.ref 19), some (.int (nI q1)), some (.int (nI q3)), some (.int (nI c3))] [] w5 (pJ (fun v w' => ∃ (th' : Int32), RM n mv rw nx b bt kn en dn rf kk th' w' ∧ FR b b w w' ∧ ((th' = nI 1 ∧ ¬ (isN (nI q1) 6 ∧ isN (nI q3) 6)) ∨ (th' = nI 0 ∧ ∃ a1 b1 : Nat, (nI q1) = nI a1 ∧ (nI q3) = nI b1 ∧ a1 < 6 ∧ b1 < 6 ∧ ((v = nI 1 ∧ ∀ p, p < n → mv (b1 * 7 + mv (a1 * 7 + p)) = mv (a1 * 7 + mv (b1 * 7 + p))) ∨ (v = nI 0 ∧ ¬ ∀ p, p < n → mv (b1 * 7 + mv (a1 * 7 + p)) = mv (a1 * 7 + mv (b1 * 7 + p)))))))) := by
        intro fuellp30_6
        induction fuellp30_6 with
        | zero => intros; omega
        | succ fuellp30_6 ihlp30_6 =>
          intro c3 hv30_0 hv30_1 hf7
          refine J_iload_n (pc := 30) dX8_commute_30 rfl rfl ?_
          refine J_aload_n (pc := 31) dX8_commute_31 rfl rfl rfl ?_
          refine J_get (pc := 32) (k := 0) dX8_commute_32 kC9 (by decide) ff_X8_7 h19_5 rfl ?_
          refine J_icmp_geN (pc := 35) (tgt := 71) dX8_commute_35 (by decide) (by omega) (by omega) (fun ht8 => ?_) (fun hf9 => ?_)
          · refine J_iconst (pc := 71) (v := nI 1) dX8_commute_71 (by decide) ?_
            exact J_zret (pc := 72) dX8_commute_72 rfl (nar_b (by first | decide | omega)) (⟨nI (tW 0 0), ⟨h19_5, h20_5, h21_5, h22_5, hbb_5, hbl_5, hb3_5⟩, hF5, (by first | exact Or.inl ⟨rfl, fun g => (by first | exact ne_isN (by assumption) g | exact ne_isN (by assumption) g.1 | exact ne_isN (by assumption) g.2)⟩ | exact Or.inr ⟨rfl, ⟨_, _, rfl, rfl, (by omega), (by omega), (by first | exact Or.inl ⟨rfl, fun p hp => hv30_0 p (by omega)⟩ | exact Or.inr ⟨rfl, fun h => absurd (h _ (by omega)) (by assumption)⟩)⟩⟩)⟩)
          · refine J_aload_n (pc := 38) dX8_commute_38 rfl rfl rfl ?_
            refine J_iload_n (pc := 39) dX8_commute_39 rfl rfl ?_
            refine J_aload_n (pc := 40) dX8_commute_40 rfl rfl rfl ?_
            refine J_iload_n (pc := 41) dX8_commute_41 rfl rfl ?_
            refine J_iload_n (pc := 42) dX8_commute_42 rfl rfl ?_
            refine J_callV0 (pc := 43) (M := mX8_commute) (as := [.int (nI q1), .int (nI c3)]) dX8_commute_43 fw_X8_at fl_X8_82 fm_X8_at fe_X8_at h19_5 (by decide) rfl rfl rfl (c_X8_at hs (d := d - 1) (Nat.le_trans (by decide) hdm) (w := w5) (n := n) (mv := mv) (rw := rw) (nx := nx) (b := b) (bt := bt) (kn := kn) (en := en) (dn := dn) (rf := rf) (kk := kk) (th := nI (tW 0 0)) ⟨h19_5, h20_5, h21_5, h22_5, hbb_5, hbl_5, hb3_5⟩ hn1 hn2 gm gr gx q1 c3 (by first | assumption | omega) (by first | assumption | omega) (kc := 0) (ks := 0)) hdp (st := [.int (nI q3), .ref 19]) (Nat.le_of_ble_eq_true rfl) rfl (kr_P fun v10 hv10 => ?_) kx_I
            subst hv10
            have hq11 := gm (q1 * 7 + c3)
            refine J_callV0 (pc := 46) (M := mX8_commute) (as := [.int (nI q3), .int (nI (mv (q1 * 7 + c3)))]) dX8_commute_46 fw_X8_at fl_X8_82 fm_X8_at fe_X8_at h19_5 (by decide) rfl rfl rfl (c_X8_at hs (d := d - 1) (Nat.le_trans (by decide) hdm) (w := w5) (n := n) (mv := mv) (rw := rw) (nx := nx) (b := b) (bt := bt) (kn := kn) (en := en) (dn := dn) (rf := rf) (kk := kk) (th := nI (tW 0 0)) ⟨h19_5, h20_5, h21_5, h22_5, hbb_5, hbl_5, hb3_5⟩ hn1 hn2 gm gr gx q3 (mv (q1 * 7 + c3)) (by first | assumption | omega) (by first | assumption | omega) (kc := 0) (ks := 0)) hdp (st := []) (Nat.le_of_ble_eq_true rfl) rfl (kr_P fun v12 hv12 => ?_) kx_I
            subst hv12
            have hq13 := gm (q3 * 7 + (mv (q1 * 7 + c3)))
            refine J_aload_n (pc := 49) dX8_commute_49 rfl rfl rfl ?_
            refine J_iload_n (pc := 50) dX8_commute_50 rfl rfl ?_
            refine J_aload_n (pc := 51) dX8_commute_51 rfl rfl rfl ?_
            refine J_iload_n (pc := 52) dX8_commute_52 rfl rfl ?_
            refine J_iload_n (pc := 53) dX8_commute_53 rfl rfl ?_
            refine J_callV0 (pc := 54) (M := mX8_commute) (as := [.int (nI q3), .int (nI c3)]) dX8_commute_54 fw_X8_at fl_X8_82 fm_X8_at fe_X8_at h19_5 (by decide) rfl rfl rfl (c_X8_at hs (d := d - 1) (Nat.le_trans (by decide) hdm) (w := w5) (n := n) (mv := mv) (rw := rw) (nx := nx) (b := b) (bt := bt) (kn := kn) (en := en) (dn := dn) (rf := rf) (kk := kk) (th := nI (tW 0 0)) ⟨h19_5, h20_5, h21_5, h22_5, hbb_5, hbl_5, hb3_5⟩ hn1 hn2 gm gr gx q3 c3 (by first | assumption | omega) (by first | assumption | omega) (kc := 0) (ks := 0)) hdp (st := [.int (nI q1), .ref 19, .int (nI (mv (q3 * 7 + (mv (q1 * 7 + c3)))))]) (Nat.le_of_ble_eq_true rfl) rfl (kr_P fun v14 hv14 => ?_) kx_I
            subst hv14
            have hq15 := gm (q3 * 7 + c3)
            refine J_callV0 (pc := 57) (M := mX8_commute) (as := [.int (nI q1), .int (nI (mv (q3 * 7 + c3)))]) dX8_commute_57 fw_X8_at fl_X8_82 fm_X8_at fe_X8_at h19_5 (by decide) rfl rfl rfl (c_X8_at hs (d := d - 1) (Nat.le_trans (by decide) hdm) (w := w5) (n := n) (mv := mv) (rw := rw) (nx := nx) (b := b) (bt := bt) (kn := kn) (en := en) (dn := dn) (rf := rf) (kk := kk) (th := nI (tW 0 0)) ⟨h19_5, h20_5, h21_5, h22_5, hbb_5, hbl_5, hb3_5⟩ hn1 hn2 gm gr gx q1 (mv (q3 * 7 + c3)) (by first | assumption | omega) (by first | assumption | omega) (kc := 0) (ks := 0)) hdp (st := [.int (nI (mv (q3 * 7 + (mv (q1 * 7 + c3)))))]) (Nat.le_of_ble_eq_true rfl) rfl (kr_P fun v16 hv16 => ?_) kx_I
            subst hv16
            have hq17 := gm (q1 * 7 + (mv (q3 * 7 + c3)))
            refine J_icmp_eqN (pc := 60) (tgt := 65) dX8_commute_60 (by decide) (by omega) (by omega) (fun ht18 => ?_) (fun hf19 => ?_)
            · refine J_iincN (pc := 65) (b := 1) dX8_commute_65 rfl (by decide) (by decide) rfl ?_
              show J X mX8_commute d kc ks 68 [some (.ref 19), some (.int (nI q1)), some (.int (nI q3)), some (.int (nI (c3 + 1)))] [] w5 _
              refine J_goto (pc := 68) (tgt := 30) dX8_commute_68 (by decide) ?_
              exact J_sub (L' := [some (.ref 19), some (.int (nI q1)), some (.int (nI q3)), some (.int (nI (c3 + 1)))]) ⟨rfl, ⟨rfl, ⟨rfl, ⟨rfl, trivial⟩⟩⟩⟩ (ihlp30_6 (c3 + 1) (by intro p hp; by_cases e : p = c3; (rw [e]; assumption); (exact hv30_0 p (by omega))) (by first | assumption | omega) (by omega))
            · refine J_iconst (pc := 63) (v := nI 0) dX8_commute_63 (by decide) ?_
              exact J_zret (pc := 64) dX8_commute_64 rfl (nar_b (by first | decide | omega)) (⟨nI (tW 0 0), ⟨h19_5, h20_5, h21_5, h22_5, hbb_5, hbl_5, hb3_5⟩, hF5, (by first | exact Or.inl ⟨rfl, fun g => (by first | exact ne_isN (by assumption) g | exact ne_isN (by assumption) g.1 | exact ne_isN (by assumption) g.2)⟩ | exact Or.inr ⟨rfl, ⟨_, _, rfl, rfl, (by omega), (by omega), (by first | exact Or.inl ⟨rfl, fun p hp => hv30_0 p (by omega)⟩ | exact Or.inr ⟨rfl, fun h => absurd (h _ (by omega)) (by assumption)⟩)⟩⟩)⟩)
      exact J_sub (L' := [some (.ref 19), some (.int (nI q1)), some (.int (nI q3)), some (.int (nI 0))]) ⟨rfl, ⟨rfl, ⟨rfl, ⟨rfl, trivial⟩⟩⟩⟩ (lp30_6 _ 0 (by intro p hp; omega) (by first | assumption | omega) (Nat.lt_succ_self _))
set_option maxRecDepth 100000 in
set_option maxHeartbeats 40000000 in
theorem c_X8_houseNow_atq {X : jX} (hs : X.1.stackTraces = false) {d : Nat} (hd : 0 ≤ d) {n : Nat} {mv rw nx : Nat → Nat} {b : Nat} {bt : List Int32} {kn en dn rf kk th : Int32} {w : List jC} (hR : RM n mv rw nx b bt kn en dn rf kk th w) (hn1 : 2 ≤ n) (hn2 : n ≤ 7) (gm : ∀ i, mv i < 7) (gr : ∀ i, rw i < 7) (gx : ∀ i, nx i < 7) (a : Int32) {kc ks : Nat} : jMet X mX8_houseNow d kc ks [.ref 19, .int a] w (pI (fun v => v = (if a = nI 0 then dn else if a = nI 1 then rf else kk)) (fun w' => w' = w)) := by
  refine jMet_of hs (by decide +kernel) (Nat.le_of_ble_eq_true rfl) (L := [some (.ref 19), some (.int a)]) rfl ?_
  have hfc := fc_7 hn2
  have hfp := fc_pos n
  obtain ⟨h19, h20, h21, h22, hbb, hbl, hb3⟩ := hR
  have hF : FR b b w w := FR.rf
  refine J_iload_n (pc := 0) dX8_houseNow_0 rfl rfl ?_
  refine J_if_ne (pc := 1) (tgt := 11) dX8_houseNow_1 (by decide) (fun ht1 => ?_) (fun hf2 => ?_)
  · refine J_iload_n (pc := 11) dX8_houseNow_11 rfl rfl ?_
    refine J_iconst (pc := 12) (v := nI 1) dX8_houseNow_12 (by decide) ?_
    refine J_icmp_ne (pc := 13) (tgt := 23) dX8_houseNow_13 (by decide) (fun ht3 => ?_) (fun hf4 => ?_)
    · refine J_aload_n (pc := 23) dX8_houseNow_23 rfl rfl rfl ?_
      refine J_get (pc := 24) (k := 9) dX8_houseNow_24 kC9 (by decide) ff_X8_227 h19 rfl ?_
      exact J_iret (pc := 27) dX8_houseNow_27 rfl ⟨(by first | exact (if_pos ((show a = 0 by assumption).trans nI_0.symm)).symm | exact ((if_neg (fun e => absurd (e.trans nI_0) (by assumption))).trans (if_pos (by assumption))).symm | exact ((if_neg (fun e => absurd (e.trans nI_0) (by assumption))).trans (if_neg (by assumption))).symm), rfl⟩
    · refine J_aload_n (pc := 16) dX8_houseNow_16 rfl rfl rfl ?_
      refine J_get (pc := 17) (k := 8) dX8_houseNow_17 kC9 (by decide) ff_X8_42 h19 rfl ?_
      refine J_goto (pc := 20) (tgt := 27) dX8_houseNow_20 (by decide) ?_
      exact J_iret (pc := 27) dX8_houseNow_27 rfl ⟨(by first | exact (if_pos ((show a = 0 by assumption).trans nI_0.symm)).symm | exact ((if_neg (fun e => absurd (e.trans nI_0) (by assumption))).trans (if_pos (by assumption))).symm | exact ((if_neg (fun e => absurd (e.trans nI_0) (by assumption))).trans (if_neg (by assumption))).symm), rfl⟩
  · refine J_aload_n (pc := 4) dX8_houseNow_4 rfl rfl rfl ?_
    refine J_get (pc := 5) (k := 7) dX8_houseNow_5 kC9 (by decide) ff_X8_39 h19 rfl ?_
    refine J_goto (pc := 8) (tgt := 27) dX8_houseNow_8 (by decide) ?_
    exact J_iret (pc := 27) dX8_houseNow_27 rfl ⟨(by first | exact (if_pos ((show a = 0 by assumption).trans nI_0.symm)).symm | exact ((if_neg (fun e => absurd (e.trans nI_0) (by assumption))).trans (if_pos (by assumption))).symm | exact ((if_neg (fun e => absurd (e.trans nI_0) (by assumption))).trans (if_neg (by assumption))).symm), rfl⟩
set_option maxRecDepth 100000 in
set_option maxHeartbeats 40000000 in
theorem c_X8_house_ate {X : jX} (hs : X.1.stackTraces = false) {d : Nat} (hd : 2 ≤ d) {n : Nat} {mv rw nx : Nat → Nat} {b : Nat} {bt : List Int32} {kn en dn rf kk th : Int32} {w : List jC} (hR : RM n mv rw nx b bt kn en dn rf kk th w) (hn1 : 2 ≤ n) (hn2 : n ≤ 7) (gm : ∀ i, mv i < 7) (gr : ∀ i, rw i < 7) (gx : ∀ i, nx i < 7) (a : Int32) {kc ks : Nat} : jMet X mX8_house d kc ks [.ref 19, .int a] w (pJ (fun v w' => ∃ (th' : Int32), RM n mv rw nx b bt kn en dn rf kk th' w' ∧ FR b b w w' ∧ ((th' = nI 1 ∧ ¬ (isN a 3)) ∨ (th' = nI 0 ∧ isN a 3 ∧ v = (if a = nI 0 then dn else if a = nI 1 then rf else kk))))) := by
  refine jMet_of hs (by decide +kernel) (Nat.le_of_ble_eq_true rfl) (L := [some (.ref 19), some (.int a)]) rfl ?_
  have hdm : 1 ≤ d - 1 := by omega
  have hdp : d - 1 + 1 ≤ d := by omega
  have hfc := fc_7 hn2
  have hfp := fc_pos n
  obtain ⟨h19, h20, h21, h22, hbb, hbl, hb3⟩ := hR
  have hF : FR b b w w := FR.rf
  refine J_aload_n (pc := 0) dX8_house_0 rfl rfl rfl ?_
  refine J_iload_n (pc := 1) dX8_house_1 rfl rfl ?_
  refine J_if_lt (pc := 2) (tgt := 10) dX8_house_2 (by decide) (fun ht1 => ?_) (fun hf2 => ?_)
  · refine J_iconst (pc := 10) (v := nI 1) dX8_house_10 (by decide) ?_
    refine J_goto (pc := 11) (tgt := 15) dX8_house_11 (by decide) ?_
    refine J_callV0 (pc := 15) (M := mX8_house) (as := [.int (nI 1)]) dX8_house_15 fw_X8_isThrown_ fl_X8_105 fm_X8_isThrown_ fe_X8_isThrown_ h19 (by decide) rfl rfl rfl (c_X8_isThrown_ hs (d := d - 1) (Nat.le_trans (by decide) hdm) (w := w) (n := n) (mv := mv) (rw := rw) (nx := nx) (b := b) (bt := bt) (kn := kn) (en := en) (dn := dn) (rf := rf) (kk := kk) (th := th) ⟨h19, h20, h21, h22, hbb, hbl, hb3⟩ hn1 hn2 gm gr gx 1 (by first | assumption | omega) (kc := 0) (ks := 0)) hdp (st := []) (Nat.le_of_ble_eq_true rfl) rfl (kr_I fun v3 w3 hv3 hw3 => ?_) kx_I
    obtain ⟨hR3, hFc3⟩ := hw3
    obtain ⟨h19_3, h20_3, h21_3, h22_3, hbb_3, hbl_3, hb3_3⟩ := hR3
    have hF3 := hF.tr hFc3
    subst hv3
    show J X mX8_house d kc ks 18 [some (.ref 19), some (.int a)] [.int (nI 1)] w3 _
    refine J_if_eqN (pc := 18) (tgt := 25) dX8_house_18 (by decide) (by decide) (fun h => absurd h (by decide)) (fun _ => ?_)
    refine J_iconst (pc := 21) (v := nI 0) dX8_house_21 (by decide) ?_
    refine J_goto (pc := 22) (tgt := 30) dX8_house_22 (by decide) ?_
    exact J_iret (pc := 30) dX8_house_30 rfl (⟨nI (tW 1 0), ⟨h19_3, h20_3, h21_3, h22_3, hbb_3, hbl_3, hb3_3⟩, hF3, (by first | exact Or.inl ⟨rfl, fun g => (by obtain ⟨k, hk, e⟩ := g; subst e; first | exact absurd (by assumption) (nI_pos (n := k) (by omega)) | exact absurd ((nI_leI (a := k) (b := 2) (by omega) (by omega)).mpr (by omega)) (by assumption))⟩ | exact Or.inr ⟨rfl, isN_3 (by assumption) (by assumption), hPv⟩)⟩)
  · refine J_iload_n (pc := 5) dX8_house_5 rfl rfl ?_
    refine J_iconst (pc := 6) (v := nI 2) dX8_house_6 (by decide) ?_
    refine J_icmp_le (pc := 7) (tgt := 14) dX8_house_7 (by decide) (fun ht4 => ?_) (fun hf5 => ?_)
    · refine J_iconst (pc := 14) (v := nI 0) dX8_house_14 (by decide) ?_
      refine J_callV0 (pc := 15) (M := mX8_house) (as := [.int (nI 0)]) dX8_house_15 fw_X8_isThrown_ fl_X8_105 fm_X8_isThrown_ fe_X8_isThrown_ h19 (by decide) rfl rfl rfl (c_X8_isThrown_ hs (d := d - 1) (Nat.le_trans (by decide) hdm) (w := w) (n := n) (mv := mv) (rw := rw) (nx := nx) (b := b) (bt := bt) (kn := kn) (en := en) (dn := dn) (rf := rf) (kk := kk) (th := th) ⟨h19, h20, h21, h22, hbb, hbl, hb3⟩ hn1 hn2 gm gr gx 0 (by first | assumption | omega) (kc := 0) (ks := 0)) hdp (st := []) (Nat.le_of_ble_eq_true rfl) rfl (kr_I fun v6 w6 hv6 hw6 => ?_) kx_I
      obtain ⟨hR6, hFc6⟩ := hw6
      obtain ⟨h19_6, h20_6, h21_6, h22_6, hbb_6, hbl_6, hb3_6⟩ := hR6
      have hF6 := hF.tr hFc6
      subst hv6
      show J X mX8_house d kc ks 18 [some (.ref 19), some (.int a)] [.int (nI 0)] w6 _
      refine J_if_eqN (pc := 18) (tgt := 25) dX8_house_18 (by decide) (by decide) (fun _ => ?_) (fun h => absurd h (by decide))
      refine J_aload_n (pc := 25) dX8_house_25 rfl rfl rfl ?_
      refine J_iload_n (pc := 26) dX8_house_26 rfl rfl ?_
      refine J_callV0 (pc := 27) (M := mX8_house) (as := [.int a]) dX8_house_27 fw_X8_houseNow fl_X8_230 fm_X8_houseNow fe_X8_houseNow h19_6 (by decide) rfl rfl rfl (c_X8_houseNow_atq hs (d := d - 1) (Nat.le_trans (by decide) hdm) (w := w6) (n := n) (mv := mv) (rw := rw) (nx := nx) (b := b) (bt := bt) (kn := kn) (en := en) (dn := dn) (rf := rf) (kk := kk) (th := nI (tW 0 0)) ⟨h19_6, h20_6, h21_6, h22_6, hbb_6, hbl_6, hb3_6⟩ hn1 hn2 gm gr gx a (kc := 0) (ks := 0)) hdp (st := []) (Nat.le_of_ble_eq_true rfl) rfl (kr_P fun v7 hv7 => ?_) kx_I
      have hPv := hv7
      exact J_iret (pc := 30) dX8_house_30 rfl (⟨nI (tW 0 0), ⟨h19_6, h20_6, h21_6, h22_6, hbb_6, hbl_6, hb3_6⟩, hF6, (by first | exact Or.inl ⟨rfl, fun g => (by obtain ⟨k, hk, e⟩ := g; subst e; first | exact absurd (by assumption) (nI_pos (n := k) (by omega)) | exact absurd ((nI_leI (a := k) (b := 2) (by omega) (by omega)).mpr (by omega)) (by assumption))⟩ | exact Or.inr ⟨rfl, isN_3 (by assumption) (by assumption), hPv⟩)⟩)
    · refine J_iconst (pc := 10) (v := nI 1) dX8_house_10 (by decide) ?_
      refine J_goto (pc := 11) (tgt := 15) dX8_house_11 (by decide) ?_
      refine J_callV0 (pc := 15) (M := mX8_house) (as := [.int (nI 1)]) dX8_house_15 fw_X8_isThrown_ fl_X8_105 fm_X8_isThrown_ fe_X8_isThrown_ h19 (by decide) rfl rfl rfl (c_X8_isThrown_ hs (d := d - 1) (Nat.le_trans (by decide) hdm) (w := w) (n := n) (mv := mv) (rw := rw) (nx := nx) (b := b) (bt := bt) (kn := kn) (en := en) (dn := dn) (rf := rf) (kk := kk) (th := th) ⟨h19, h20, h21, h22, hbb, hbl, hb3⟩ hn1 hn2 gm gr gx 1 (by first | assumption | omega) (kc := 0) (ks := 0)) hdp (st := []) (Nat.le_of_ble_eq_true rfl) rfl (kr_I fun v8 w8 hv8 hw8 => ?_) kx_I
      obtain ⟨hR8, hFc8⟩ := hw8
      obtain ⟨h19_8, h20_8, h21_8, h22_8, hbb_8, hbl_8, hb3_8⟩ := hR8
      have hF8 := hF.tr hFc8
      subst hv8
      show J X mX8_house d kc ks 18 [some (.ref 19), some (.int a)] [.int (nI 1)] w8 _
      refine J_if_eqN (pc := 18) (tgt := 25) dX8_house_18 (by decide) (by decide) (fun h => absurd h (by decide)) (fun _ => ?_)
      refine J_iconst (pc := 21) (v := nI 0) dX8_house_21 (by decide) ?_
      refine J_goto (pc := 22) (tgt := 30) dX8_house_22 (by decide) ?_
      exact J_iret (pc := 30) dX8_house_30 rfl (⟨nI (tW 1 0), ⟨h19_8, h20_8, h21_8, h22_8, hbb_8, hbl_8, hb3_8⟩, hF8, (by first | exact Or.inl ⟨rfl, fun g => (by obtain ⟨k, hk, e⟩ := g; subst e; first | exact absurd (by assumption) (nI_pos (n := k) (by omega)) | exact absurd ((nI_leI (a := k) (b := 2) (by omega) (by omega)).mpr (by omega)) (by assumption))⟩ | exact Or.inr ⟨rfl, isN_3 (by assumption) (by assumption), hPv⟩)⟩)
end
section
/-! what is so between two calls, exactly; acts as relations -/
/-- the number of points, done, refused, knocks, the moves -/
abbrev StX : Type := Nat × Int32 × Int32 × Int32 × (Nat → Nat)
def LCx (S : StX) (w : List jC) : Prop := 2 ≤ S.1 ∧ S.1 ≤ 7 ∧ (∀ c, c < 6 → Mv S.1 (S.2.2.2.2 c)) ∧ HX S.1 S.2.1 S.2.2.1 S.2.2.2.1 S.2.2.2.2 w ∧ SH (rX S.1 S.2.1 S.2.2.1 S.2.2.2.1) w
def LRx (o : Nat) (S : StX) (t : Int32) (w : List jC) : Prop := ∃ (mv rw nx : Nat → Nat) (b : Nat) (bt : List Int32) (kn en : Int32), RM S.1 mv rw nx b bt kn en S.2.1 S.2.2.1 S.2.2.2.1 t w ∧ 2 ≤ S.1 ∧ S.1 ≤ 7 ∧ (∀ i, mv i < 7) ∧ (∀ i, rw i < 7) ∧ (∀ i, nx i < 7) ∧ PM S.1 mv ∧ KX S.1 mv kn bt ∧ RLx S.1 S.2.2.2.2 mv ∧ b ≠ o
def LO (o : Nat) (w : List jC) : Prop := 24 ≤ o ∧ ∃ fs : List Value, w[o]? = some (.inr (8, fs)) ∧ fs.length = 2
def LIx (o : Nat) (S S' : StX) (t : Int32) (w : List jC) : Prop := LCx S w ∧ LRx o S' t w ∧ LO o w
def LI (o : Nat) (S S' : StX) (w : List jC) : Prop := ∃ t, LIx o S S' t w
/-- what lies behind the house is kept -/
def F19 (w w' : List jC) : Prop := w.length ≤ w'.length ∧ ∀ i, 19 ≤ i → i < w.length → w'[i]? = w[i]?
theorem F19.of {w w' : List jC} (h : Fr kX w w') : F19 w w' := ⟨h.1, fun i hi hl => h.2 i (Or.inr hi) hl⟩
theorem F19.H {w w' : List jC} (h : FH w w') : F19 w w' := ⟨h.1, fun i hi hl => h.2 i (by omega) hl⟩
theorem F19.N {w w' : List jC} (h : FN w w') : F19 w w' := ⟨h.1, fun i hi hl => h.2 i (by omega) hl⟩
theorem F19.psh {w : List jC} {cs : List jC} : F19 w (w ++ cs) := ⟨by rw [List.length_append]; omega, fun _ _ hl => List.getElem?_append_left hl⟩
theorem LRx.fr {o : Nat} {S : StX} {t : Int32} {w w' : List jC} (h : LRx o S t w) (hF : F19 w w') : LRx o S t w' := by
  obtain ⟨mv, rw, nx, b, bt, kn, en, ⟨h1, h2, h3, h4, h5, h6, h7⟩, r⟩ := h
  exact ⟨mv, rw, nx, b, bt, kn, en, ⟨(hF.2 19 (by decide) (gl h1)).trans h1, (hF.2 20 (by decide) (gl h2)).trans h2, (hF.2 21 (by decide) (gl h3)).trans h3, (hF.2 22 (by decide) (gl h4)).trans h4, (hF.2 b (by omega) (gl h5)).trans h5, h6, h7⟩, r⟩
theorem LO.fr {o : Nat} {w w' : List jC} (h : LO o w) (hF : F19 w w') : LO o w' := by
  obtain ⟨h0, fs, h1, h2⟩ := h
  exact ⟨h0, fs, (hF.2 o (by omega) (gl h1)).trans h1, h2⟩
theorem LIx.c0 {o : Nat} {S S' : StX} {t : Int32} {w : List jC} (h : LIx o S S' t w) : ∃ fs : List Value, w[0]? = some (.inr (7, fs)) := ⟨_, h.1.2.2.2.1.1⟩
theorem LIx.c19 {o : Nat} {S S' : StX} {t : Int32} {w : List jC} (h : LIx o S S' t w) : ∃ fs : List Value, w[19]? = some (.inr (9, fs)) := by
  obtain ⟨_, ⟨mv, rw, nx, b, bt, kn, en, hR, _⟩, _⟩ := h
  exact ⟨_, hR.1⟩
theorem LI.c0 {o : Nat} {S S' : StX} {w : List jC} (h : LI o S S' w) : ∃ fs : List Value, w[0]? = some (.inr (7, fs)) := by
  obtain ⟨t, h⟩ := h
  exact h.c0
theorem LI.c19 {o : Nat} {S S' : StX} {w : List jC} (h : LI o S S' w) : ∃ fs : List Value, w[19]? = some (.inr (9, fs)) := by
  obtain ⟨t, h⟩ := h
  exact h.c19
/-! the class's side -/
theorem LCx.q {S : StX} {w w' : List jC} (h : LCx S w) (hS : SH (rX S.1 S.2.1 S.2.2.1 S.2.2.2.1) w') (hF : Fr kX w w') : LCx S w' := by
  obtain ⟨a1, a2, a3, ⟨a4, a5⟩, a6⟩ := h
  obtain ⟨_, hc, rfl⟩ := hS 0 _ rfl
  exact ⟨a1, a2, a3, ⟨hc, (hF.2 1 (Or.inl rfl) (gl a5)).trans a5⟩, hS⟩
theorem LI.q {o : Nat} {S S' : StX} {w w' : List jC} (h : LI o S S' w) (hS : SH (rX S.1 S.2.1 S.2.2.1 S.2.2.2.1) w') (hF : Fr kX w w') : LI o S S' w' := by
  obtain ⟨t, h1, h2, h3⟩ := h
  exact ⟨t, h1.q hS hF, h2.fr (F19.of hF), h3.fr (F19.of hF)⟩
theorem LCx.psh {S : StX} {w : List jC} {cs : List jC} (h : LCx S w) : LCx S (w ++ cs) := by
  obtain ⟨a1, a2, a3, ⟨a4, a5⟩, a6⟩ := h
  exact ⟨a1, a2, a3, ⟨(List.getElem?_append_left (gl a4)).trans a4, (List.getElem?_append_left (gl a5)).trans a5⟩, a6.push⟩
theorem LI.psh {o : Nat} {S S' : StX} {w w' : List jC} (h : LI o S S' w) (hw : w' = w ++ [.inr (99, [])]) : LI o S S' w' := by
  subst hw
  obtain ⟨t, h1, h2, h3⟩ := h
  exact ⟨t, h1.psh, h2.fr F19.psh, h3.fr F19.psh⟩
theorem LI.eq {o : Nat} {S S' : StX} {w w' : List jC} (h : LI o S S' w) (hw : w' = w) : LI o S S' w' := by
  obtain rfl := hw.symm
  exact h
/-- the moves' cell -/
theorem tA_aF {k : Nat} {f : Nat → Nat} : tA k (aF k f) := ⟨_, rfl, by rw [List.length_map, List.length_range]⟩
theorem LCx.act {S S2 : StX} {w w' : List jC} (h : LCx S w) (hH : HX S2.1 S2.2.1 S2.2.2.1 S2.2.2.2.1 S2.2.2.2.2 w') (hF : FH w w') (h1 : 2 ≤ S2.1) (h2 : S2.1 ≤ 7) (hM : ∀ c, c < 6 → Mv S2.1 (S2.2.2.2.2 c)) : LCx S2 w' := by
  obtain ⟨_, _, _, _, a6⟩ := h
  refine ⟨h1, h2, hM, hH, fun i p hp => ?_⟩
  match i, hp with
  | 0, hp =>
    cases hp
    exact ⟨_, hH.1, rfl⟩
  | 1, hp =>
    cases hp
    exact ⟨_, hH.2, tA_aF⟩
  | i + 2, hp =>
    obtain ⟨c, hc, h2⟩ := a6 (i + 2) p hp
    exact ⟨c, (hF.2 (i + 2) (by omega) (gl hc)).trans hc, h2⟩
theorem LI.act {o : Nat} {S S2 S' : StX} {w w' : List jC} (h : LI o S S' w) (hH : HX S2.1 S2.2.1 S2.2.2.1 S2.2.2.2.1 S2.2.2.2.2 w') (hF : FH w w') (h1 : 2 ≤ S2.1) (h2 : S2.1 ≤ 7) (hM : ∀ c, c < 6 → Mv S2.1 (S2.2.2.2.2 c)) : LI o S2 S' w' := by
  obtain ⟨t, a1, a2, a3⟩ := h
  exact ⟨t, a1.act hH hF h1 h2 hM, a2.fr (F19.H hF), a3.fr (F19.H hF)⟩
theorem LI.nth {o : Nat} {S S2 S' : StX} {w w' : List jC} {st sv rc sz kw : Nat → Nat} {ns tk ro nn : Nat} (h : LI o S S' w) (hH : HX S2.1 S2.2.1 S2.2.2.1 S2.2.2.2.1 S2.2.2.2.2 w') (hF : FN w w') (hC : CM st sv rc sz kw ns tk ro nn w') (hns : ns ≤ 21) (hnn : nn ≤ 7) (h1 : 2 ≤ S2.1) (h2 : S2.1 ≤ 7) (hM : ∀ c, c < 6 → Mv S2.1 (S2.2.2.2.2 c)) : LI o S2 S' w' := by
  obtain ⟨t, ⟨_, _, _, _, a6⟩, a2, a3⟩ := h
  refine ⟨t, ⟨h1, h2, hM, hH, fun i p hp => ?_⟩, a2.fr (F19.N hF), a3.fr (F19.N hF)⟩
  obtain ⟨c2, c3, c4, c5, c6, c7⟩ := hC
  match i, hp with
  | 0, hp =>
    cases hp
    exact ⟨_, hH.1, rfl⟩
  | 1, hp =>
    cases hp
    exact ⟨_, hH.2, tA_aF⟩
  | 2, hp =>
    cases hp
    exact ⟨_, c2, ns, nn, nI tk, nI ro, rfl, hns, hnn⟩
  | 3, hp =>
    cases hp
    exact ⟨_, c3, tA_aF⟩
  | 4, hp =>
    cases hp
    exact ⟨_, c4, tA_aF⟩
  | 5, hp =>
    cases hp
    exact ⟨_, c5, tA_aF⟩
  | 6, hp =>
    cases hp
    exact ⟨_, c6, tA_aF⟩
  | 7, hp =>
    cases hp
    exact ⟨_, c7, tA_aF⟩
  | i + 8, hp =>
    obtain ⟨c, hc, h2⟩ := a6 (i + 8) p hp
    exact ⟨c, (hF.2 (i + 8) (by omega) (gl hc)).trans hc, h2⟩
/-- a plain list of ints as a function -/
theorem aF_of {k : Nat} {xs : List Int32} (h : xs.length = k) : (.inl (0, xs) : jC) = aF k (fun i => (xs.getD i 0).toBitVec.toNat) := by
  unfold aF
  congr 2
  refine List.ext_getElem (by rw [List.length_map, List.length_range]; exact h) (fun i h1 h2 => ?_)
  rw [List.getElem_map, List.getElem_range, ← nI_self, List.getD_eq_getElem?_getD, List.getElem?_eq_getElem h1]
  rfl
/-- the chain's cells as functions -/
theorem CM_of {S : StX} {w : List jC} (h : LCx S w) : ∃ (st sv rc sz kw : Nat → Nat) (ns tk ro nn : Nat), CM st sv rc sz kw ns tk ro nn w := by
  obtain ⟨_, _, _, _, a6⟩ := h
  obtain ⟨_, c2, a, f, b, g, rfl, _, _⟩ := a6 2 _ rfl
  obtain ⟨_, c3, x3, rfl, l3⟩ := a6 3 _ rfl
  obtain ⟨_, c4, x4, rfl, l4⟩ := a6 4 _ rfl
  obtain ⟨_, c5, x5, rfl, l5⟩ := a6 5 _ rfl
  obtain ⟨_, c6, x6, rfl, l6⟩ := a6 6 _ rfl
  obtain ⟨_, c7, x7, rfl, l7⟩ := a6 7 _ rfl
  rw [aF_of l3] at c3
  rw [aF_of l4] at c4
  rw [aF_of l5] at c5
  rw [aF_of l6] at c6
  rw [aF_of l7] at c7
  rw [nI_self b, nI_self g] at c2
  exact ⟨_, _, _, _, _, _, _, _, _, c2, c3, c4, c5, c6, c7⟩
/-! the reference's side -/
theorem LIx.ref {o : Nat} {S S2 : StX} {t : Int32} {w w' : List jC} {b b' : Nat} {mv rw nx : Nat → Nat} {bt : List Int32} {kn en : Int32} (hC : LCx S w) (hO : LO o w) (h24 : b ≠ o) (hb : 23 ≤ b) (hF : FR b b' w w') (hR : RM S2.1 mv rw nx b' bt kn en S2.2.1 S2.2.2.1 S2.2.2.2.1 t w') (h1 : 2 ≤ S2.1) (h2 : S2.1 ≤ 7)
    (gm : ∀ i, mv i < 7) (gr : ∀ i, rw i < 7) (gx : ∀ i, nx i < 7) (hP : PM S2.1 mv) (hK : KX S2.1 mv kn bt) (hL : RLx S2.1 S2.2.2.2.2 mv) : LIx o S S2 t w' ∧ w'[o]? = w[o]? := by
  obtain ⟨a1, a2, a3, ⟨a4, a5⟩, a6⟩ := hC
  obtain ⟨o0, fs, o1, o2⟩ := hO
  have hl := gl o1
  have hk : ∀ i, i < 19 → w'[i]? = w[i]? := fun i hi => hF.2.2 i (Or.inl hi) (by omega) (by omega)
  have ho := hF.at o1 (by omega) (fun e => h24 e.symm)
  refine ⟨⟨⟨a1, a2, a3, ⟨(hk 0 (by decide)).trans a4, (hk 1 (by decide)).trans a5⟩, a6.keep (fun i hi => hk i hi)⟩, ⟨mv, rw, nx, b', bt, kn, en, hR, h1, h2, gm, gr, gx, hP, hK, hL, ?_⟩, ⟨o0, fs, ho, o2⟩⟩, ho.trans o1.symm⟩
  rcases hF.2.1 with e | e
  · rw [e]; exact h24
  · omega
theorem LI.out {o : Nat} {S S' : StX} {w w' : List jC} {k : Nat} {v : Value} {fs : List Value} (h : LI o S S' w) (hfs : fs.length = 2) (hw : w'[o]? = some (.inr (8, fs.set k v))) (hne : ∀ c, c ≠ o → w'[c]? = w[c]?) : LI o S S' w' := by
  obtain ⟨t, ⟨a1, a2, a3, ⟨a4, a5⟩, a6⟩, ⟨mv, rw, nx, b, bt, kn, en, ⟨b1, b2, b3, b4, b5, b6, b7⟩, c1, c2, c3, c4, c5, c6, c7, c8, c9⟩, ⟨o0, _⟩⟩ := h
  refine ⟨t, ⟨a1, a2, a3, ⟨(hne 0 (by omega)).trans a4, (hne 1 (by omega)).trans a5⟩, a6.keep (fun i hi => ?_)⟩, ⟨mv, rw, nx, b, bt, kn, en, ⟨(hne 19 (by omega)).trans b1, (hne 20 (by omega)).trans b2, (hne 21 (by omega)).trans b3, (hne 22 (by omega)).trans b4, (hne b c9).trans b5, b6, b7⟩, c1, c2, c3, c4, c5, c6, c7, c8, c9⟩, ⟨o0, _, hw, by rw [List.length_set]; exact hfs⟩⟩
  have h19 : i < 19 := hi
  exact hne i (by omega)
/-! acts -/
def AG (G1 G2 : Prop) (D : Int32 → StX → Prop) (S : StX) (k : Nat) (v : Int32) (S' : StX) : Prop := (k = 1 ∧ ¬ G1 ∧ S' = S) ∨ (k = 2 ∧ G1 ∧ ¬ G2 ∧ S' = S) ∨ (k = 0 ∧ G1 ∧ G2 ∧ D v S')
section ACTS
variable {G1 G2 : Prop} {D : Int32 → StX → Prop} {S : StX} {k k' : Nat} {v v' : Int32} {a b : StX}
theorem AG.same (hD : ∀ v v' a b, D v a → D v' b → a = b) (h : AG G1 G2 D S k v a) (h' : AG G1 G2 D S k' v' b) : a = b ∧ k = k' := by
  rcases h with ⟨e, g, s⟩ | ⟨e, g, g2, s⟩ | ⟨e, g, g2, s⟩ <;> rcases h' with ⟨e', g', s'⟩ | ⟨e', g', g2', s'⟩ | ⟨e', g', g2', s'⟩
  · exact ⟨s.trans s'.symm, e.trans e'.symm⟩
  · exact absurd g' g
  · exact absurd g' g
  · exact absurd g g'
  · exact ⟨s.trans s'.symm, e.trans e'.symm⟩
  · exact absurd g2' g2
  · exact absurd g g'
  · exact absurd g2 g2'
  · exact ⟨hD _ _ _ _ s s', e.trans e'.symm⟩
theorem AG.val (hV : ∀ v v' a b, D v a → D v' b → v = v') (h : AG G1 G2 D S k v a) (h' : AG G1 G2 D S k v' b) (h0 : k = 0) : v = v' := by
  rcases h with ⟨e, _⟩ | ⟨e, _⟩ | ⟨_, _, _, s⟩
  · omega
  · omega
  · rcases h' with ⟨e, _⟩ | ⟨e, _⟩ | ⟨_, _, _, s'⟩
    · omega
    · omega
    · exact hV _ _ _ _ s s'
theorem AG.k3 (h : AG G1 G2 D S k v a) : k < 3 := by
  rcases h with ⟨e, _⟩ | ⟨e, _⟩ | ⟨e, _⟩ <;> omega
end ACTS
def ES (S : StX) (a x : Nat) : StX := (S.1, S.2.1 + nI 1, S.2.2.1, S.2.2.2.1, up S.2.2.2.2 a x)
def NS (S : StX) : StX := (S.1, S.2.1, S.2.2.1 + nI 1, S.2.2.2.1, S.2.2.2.2)
def KS (S : StX) : StX := (S.1, S.2.1, S.2.2.1, S.2.2.2.1 + nI 1, S.2.2.2.2)
theorem nI_uq {x : Int32} {a b k : Nat} (ha : x = nI a) (hb : x = nI b) (h1 : a < k) (h2 : b < k) (hk : k ≤ 2 ^ 31 := by omega) : a = b := (nI_eq (by omega) (by omega)).mp (ha.symm.trans hb)
theorem ES_M {S : StX} {a x : Nat} (hM : ∀ c, c < 6 → Mv S.1 (S.2.2.2.2 c)) (hx : Mv S.1 x) : ∀ c, c < 6 → Mv (ES S a x).1 ((ES S a x).2.2.2.2 c) := fun c hc => by
  show Mv S.1 (up S.2.2.2.2 a x c)
  by_cases e : c = a
  · rw [e, up_s]; exact hx
  · rw [up_n e]; exact hM c hc
end
section
/-! what each call does and answers, on both sides the same -/
abbrev GX (S : StX) (s : Nat) : Nat → Prop := Gg S.1 (gS S.2.2.2.2 s 6)
def Dpoints (S : StX) (p0 : Int32) (v : Int32) (S' : StX) : Prop := ∃ k : Nat, p0 = nI k ∧ 2 ≤ k ∧ k ≤ 7 ∧ v = nI S.1 ∧ S' = (k, S.2.1 + nI 1, S.2.2.1, S.2.2.2.1, fun _ => 1754760)
def Dlay (S : StX) (p0 p1 : Int32) (v : Int32) (S' : StX) : Prop := ∃ na nb : Nat, p0 = nI na ∧ p1 = nI nb ∧ na < 6 ∧ nb < fc S.1 ∧ v = nI (nu S.1 (S.2.2.2.2 na)) ∧ S' = ES S na (XM S.1 nb)
def Dexchange (S : StX) (p0 p1 p2 : Int32) (v : Int32) (S' : StX) : Prop := ∃ na nb nc : Nat, p0 = nI na ∧ p1 = nI nb ∧ p2 = nI nc ∧ na < 6 ∧ nb < S.1 ∧ nc < S.1 ∧ v = sg S.1 (c7 (S.2.2.2.2 na) (w8 (w8 1754760 nb nc) nc nb)) ∧ S' = ES S na (c7 (S.2.2.2.2 na) (w8 (w8 1754760 nb nc) nc nb))
def Dring (S : StX) (p0 p1 p2 p3 : Int32) (v : Int32) (S' : StX) : Prop := ∃ na nb nc nf : Nat, p0 = nI na ∧ p1 = nI nb ∧ p2 = nI nc ∧ p3 = nI nf ∧ na < 6 ∧ nb < S.1 ∧ nc < S.1 ∧ nf < S.1 ∧ v = sg S.1 (c7 (S.2.2.2.2 na) (w8 (w8 (w8 1754760 nb nc) nc nf) nf nb)) ∧ S' = ES S na (c7 (S.2.2.2.2 na) (w8 (w8 (w8 1754760 nb nc) nc nf) nf nb))
def Dturn (S : StX) (p0 p1 : Int32) (v : Int32) (S' : StX) : Prop := ∃ na : Nat, p0 = nI na ∧ na < 6 ∧ v = sg S.1 (c7 (S.2.2.2.2 na) (bW (fun p => (p + tT S.1 p1) % S.1) S.1)) ∧ S' = ES S na (c7 (S.2.2.2.2 na) (bW (fun p => (p + tT S.1 p1) % S.1) S.1))
def Dmirror (S : StX) (p0 : Int32) (v : Int32) (S' : StX) : Prop := ∃ na : Nat, p0 = nI na ∧ na < 6 ∧ v = sg S.1 (c7 (S.2.2.2.2 na) (bW (fun p => S.1 - 1 - p) S.1)) ∧ S' = ES S na (c7 (S.2.2.2.2 na) (bW (fun p => S.1 - 1 - p) S.1))
def Dcopy (S : StX) (p0 p1 : Int32) (v : Int32) (S' : StX) : Prop := ∃ na nb : Nat, p0 = nI na ∧ p1 = nI nb ∧ na < 6 ∧ nb < 6 ∧ v = (if (S.2.2.2.2 nb) = (S.2.2.2.2 na) then nI 0 else nI 1) ∧ S' = ES S nb (S.2.2.2.2 na)
def Dswap (S : StX) (p0 p1 : Int32) (v : Int32) (S' : StX) : Prop := ∃ na nb : Nat, p0 = nI na ∧ p1 = nI nb ∧ na < 6 ∧ nb < 6 ∧ v = (if (S.2.2.2.2 na) = (S.2.2.2.2 nb) then nI 0 else nI 1) ∧ S' = (S.1, S.2.1 + nI 1, S.2.2.1, S.2.2.2.1, up (up S.2.2.2.2 na (S.2.2.2.2 nb)) nb (S.2.2.2.2 na))
def Dthen (S : StX) (p0 p1 p2 : Int32) (v : Int32) (S' : StX) : Prop := ∃ na nb nc : Nat, p0 = nI na ∧ p1 = nI nb ∧ p2 = nI nc ∧ na < 6 ∧ nb < 6 ∧ nc < 6 ∧ v = nI (nu S.1 (c7 (S.2.2.2.2 na) (S.2.2.2.2 nb))) ∧ S' = ES S nc (c7 (S.2.2.2.2 na) (S.2.2.2.2 nb))
def Dundo (S : StX) (p0 p1 : Int32) (v : Int32) (S' : StX) : Prop := ∃ na nb : Nat, p0 = nI na ∧ p1 = nI nb ∧ na < 6 ∧ nb < 6 ∧ v = nI (nu S.1 (i7 (S.2.2.2.2 na))) ∧ S' = ES S nb (i7 (S.2.2.2.2 na))
def Dpower (S : StX) (p0 p1 p2 : Int32) (v : Int32) (S' : StX) : Prop := ∃ na nc : Nat, p0 = nI na ∧ p2 = nI nc ∧ na < 6 ∧ nc < 6 ∧ v = nI (nu S.1 (pwM p1 (S.2.2.2.2 na))) ∧ S' = ES S nc (pwM p1 (S.2.2.2.2 na))
def Drename (S : StX) (p0 p1 p2 : Int32) (v : Int32) (S' : StX) : Prop := ∃ na nb nc : Nat, p0 = nI na ∧ p1 = nI nb ∧ p2 = nI nc ∧ na < 6 ∧ nb < 6 ∧ nc < 6 ∧ v = nI (nu S.1 (c7 (c7 (i7 (S.2.2.2.2 nb)) (S.2.2.2.2 na)) (S.2.2.2.2 nb))) ∧ S' = ES S nc (c7 (c7 (i7 (S.2.2.2.2 nb)) (S.2.2.2.2 na)) (S.2.2.2.2 nb))
def Dmatch (S : StX) (p0 p1 p2 : Int32) (v : Int32) (S' : StX) : Prop := ∃ a b c : Nat, p0 = nI a ∧ p1 = nI b ∧ p2 = nI c ∧ a < 6 ∧ b < 6 ∧ c < 6 ∧ ((∃ y, LN S.1 (S.2.2.2.2 a) (S.2.2.2.2 b) y ∧ v = nI (nu S.1 y) ∧ S' = ES S c y) ∨ ((∀ w, ¬ RN S.1 (S.2.2.2.2 a) (S.2.2.2.2 b) w) ∧ v = (-9) ∧ S' = NS S))
def Dnth (S : StX) (p0 p1 p2 p3 : Int32) (v : Int32) (S' : StX) : Prop := ∃ s a b rk : Nat, p0 = nI s ∧ p1 = nI a ∧ p3 = nI b ∧ p2 = nI rk ∧ s < 64 ∧ a < 6 ∧ b < 6 ∧ rk < 2 ^ 31 ∧ ((∃ y, rk < cd S.1 (GX S s) ∧ Mv S.1 y ∧ GK S.1 (GX S s) (d8 (S.2.2.2.2 a)) rk y ∧ v = nI (nu S.1 y) ∧ S' = ES S b y) ∨ (¬ rk < cd S.1 (GX S s) ∧ v = (-9) ∧ S' = NS S))
def Dnumber (S : StX) (p0 : Int32) (v : Int32) (S' : StX) : Prop := ∃ na : Nat, p0 = nI na ∧ na < 6 ∧ v = nI (nu S.1 (S.2.2.2.2 na)) ∧ S' = S
def Dgoes (S : StX) (p0 p1 : Int32) (v : Int32) (S' : StX) : Prop := ∃ na nb : Nat, p0 = nI na ∧ p1 = nI nb ∧ na < 6 ∧ nb < S.1 ∧ v = nI (d8 (S.2.2.2.2 na) nb) ∧ S' = S
def Dorder (S : StX) (p0 : Int32) (v : Int32) (S' : StX) : Prop := ∃ na : Nat, p0 = nI na ∧ na < 6 ∧ v = nI (oC (S.2.2.2.2 na)) ∧ S' = S
def Dsign (S : StX) (p0 : Int32) (v : Int32) (S' : StX) : Prop := ∃ na : Nat, p0 = nI na ∧ na < 6 ∧ v = sg S.1 (S.2.2.2.2 na) ∧ S' = S
def Dstays (S : StX) (p0 : Int32) (v : Int32) (S' : StX) : Prop := ∃ na : Nat, p0 = nI na ∧ na < 6 ∧ v = nI (stF (d8 (S.2.2.2.2 na)) S.1) ∧ S' = S
def DareAlike (S : StX) (p0 p1 : Int32) (v : Int32) (S' : StX) : Prop := ∃ na nb : Nat, p0 = nI na ∧ p1 = nI nb ∧ na < 6 ∧ nb < 6 ∧ v = nI (on (LK (S.2.2.2.2 na) (S.2.2.2.2 nb))) ∧ S' = S
def Dcommute (S : StX) (p0 p1 : Int32) (v : Int32) (S' : StX) : Prop := ∃ na nb : Nat, p0 = nI na ∧ p1 = nI nb ∧ na < 6 ∧ nb < 6 ∧ v = (if c7 (S.2.2.2.2 na) (S.2.2.2.2 nb) = c7 (S.2.2.2.2 nb) (S.2.2.2.2 na) then nI 1 else nI 0) ∧ S' = S
def Dhouse (S : StX) (p0 : Int32) (v : Int32) (S' : StX) : Prop := ∃ na : Nat, p0 = nI na ∧ na < 3 ∧ v = (if na = 0 then S.2.1 else if na = 1 then S.2.2.1 else S.2.2.2.1) ∧ S' = S
theorem on_01 (p : Prop) : nI (on p) = nI 0 ∨ nI (on p) = nI 1 := by
  by_cases h : p
  · rw [on_t h]; exact Or.inr rfl
  · rw [on_f h]; exact Or.inl rfl
theorem fD_points {S : StX} (h2 : 2 ≤ S.1) (h7 : S.1 ≤ 7) (hM : ∀ c, c < 6 → Mv S.1 (S.2.2.2.2 c)) (p0 : Int32) (v v' : Int32) (x y : StX) (h : Dpoints S p0 v x) (h' : Dpoints S p0 v' y) : x = y ∧ v = v' := by
  obtain ⟨k, e1, k1, k2, ev, e⟩ := h
  obtain ⟨k', e1', k1', k2', ev', e'⟩ := h'
  obtain rfl := nI_uq e1 e1' (k := 8) (by omega) (by omega)
  exact ⟨e.trans e'.symm, ev.trans ev'.symm⟩
theorem fD_lay {S : StX} (h2 : 2 ≤ S.1) (h7 : S.1 ≤ 7) (hM : ∀ c, c < 6 → Mv S.1 (S.2.2.2.2 c)) (p0 p1 : Int32) (v v' : Int32) (x y : StX) (h : Dlay S p0 p1 v x) (h' : Dlay S p0 p1 v' y) : x = y ∧ v = v' := by
  have hf7 := fc_7 h7
  obtain ⟨na, nb, ea, eb, ha, hb, ev, e⟩ := h
  obtain ⟨na', nb', ea', eb', ha', hb', ev', e'⟩ := h'
  obtain rfl := nI_uq ea ea' ha ha'
  obtain rfl := nI_uq eb eb' hb hb'
  exact ⟨e.trans e'.symm, ev.trans ev'.symm⟩
theorem fD_exchange {S : StX} (h2 : 2 ≤ S.1) (h7 : S.1 ≤ 7) (hM : ∀ c, c < 6 → Mv S.1 (S.2.2.2.2 c)) (p0 p1 p2 : Int32) (v v' : Int32) (x y : StX) (h : Dexchange S p0 p1 p2 v x) (h' : Dexchange S p0 p1 p2 v' y) : x = y ∧ v = v' := by
  obtain ⟨na, nb, nc, ea, eb, ec, ha, hb, hc, ev, e⟩ := h
  obtain ⟨na', nb', nc', ea', eb', ec', ha', hb', hc', ev', e'⟩ := h'
  obtain rfl := nI_uq ea ea' ha ha'
  obtain rfl := nI_uq eb eb' hb hb'
  obtain rfl := nI_uq ec ec' hc hc'
  exact ⟨e.trans e'.symm, ev.trans ev'.symm⟩
theorem fD_ring {S : StX} (h2 : 2 ≤ S.1) (h7 : S.1 ≤ 7) (hM : ∀ c, c < 6 → Mv S.1 (S.2.2.2.2 c)) (p0 p1 p2 p3 : Int32) (v v' : Int32) (x y : StX) (h : Dring S p0 p1 p2 p3 v x) (h' : Dring S p0 p1 p2 p3 v' y) : x = y ∧ v = v' := by
  obtain ⟨na, nb, nc, nf, ea, eb, ec, ef, ha, hb, hc, hf, ev, e⟩ := h
  obtain ⟨na', nb', nc', nf', ea', eb', ec', ef', ha', hb', hc', hf', ev', e'⟩ := h'
  obtain rfl := nI_uq ea ea' ha ha'
  obtain rfl := nI_uq eb eb' hb hb'
  obtain rfl := nI_uq ec ec' hc hc'
  obtain rfl := nI_uq ef ef' hf hf'
  exact ⟨e.trans e'.symm, ev.trans ev'.symm⟩
theorem fD_turn {S : StX} (h2 : 2 ≤ S.1) (h7 : S.1 ≤ 7) (hM : ∀ c, c < 6 → Mv S.1 (S.2.2.2.2 c)) (p0 p1 : Int32) (v v' : Int32) (x y : StX) (h : Dturn S p0 p1 v x) (h' : Dturn S p0 p1 v' y) : x = y ∧ v = v' := by
  obtain ⟨na, ea, ha, ev, e⟩ := h
  obtain ⟨na', ea', ha', ev', e'⟩ := h'
  obtain rfl := nI_uq ea ea' ha ha'
  exact ⟨e.trans e'.symm, ev.trans ev'.symm⟩
theorem fD_mirror {S : StX} (h2 : 2 ≤ S.1) (h7 : S.1 ≤ 7) (hM : ∀ c, c < 6 → Mv S.1 (S.2.2.2.2 c)) (p0 : Int32) (v v' : Int32) (x y : StX) (h : Dmirror S p0 v x) (h' : Dmirror S p0 v' y) : x = y ∧ v = v' := by
  obtain ⟨na, ea, ha, ev, e⟩ := h
  obtain ⟨na', ea', ha', ev', e'⟩ := h'
  obtain rfl := nI_uq ea ea' ha ha'
  exact ⟨e.trans e'.symm, ev.trans ev'.symm⟩
theorem fD_copy {S : StX} (h2 : 2 ≤ S.1) (h7 : S.1 ≤ 7) (hM : ∀ c, c < 6 → Mv S.1 (S.2.2.2.2 c)) (p0 p1 : Int32) (v v' : Int32) (x y : StX) (h : Dcopy S p0 p1 v x) (h' : Dcopy S p0 p1 v' y) : x = y ∧ v = v' := by
  obtain ⟨na, nb, ea, eb, ha, hb, ev, e⟩ := h
  obtain ⟨na', nb', ea', eb', ha', hb', ev', e'⟩ := h'
  obtain rfl := nI_uq ea ea' ha ha'
  obtain rfl := nI_uq eb eb' hb hb'
  exact ⟨e.trans e'.symm, ev.trans ev'.symm⟩
theorem fD_swap {S : StX} (h2 : 2 ≤ S.1) (h7 : S.1 ≤ 7) (hM : ∀ c, c < 6 → Mv S.1 (S.2.2.2.2 c)) (p0 p1 : Int32) (v v' : Int32) (x y : StX) (h : Dswap S p0 p1 v x) (h' : Dswap S p0 p1 v' y) : x = y ∧ v = v' := by
  obtain ⟨na, nb, ea, eb, ha, hb, ev, e⟩ := h
  obtain ⟨na', nb', ea', eb', ha', hb', ev', e'⟩ := h'
  obtain rfl := nI_uq ea ea' ha ha'
  obtain rfl := nI_uq eb eb' hb hb'
  exact ⟨e.trans e'.symm, ev.trans ev'.symm⟩
theorem fD_then {S : StX} (h2 : 2 ≤ S.1) (h7 : S.1 ≤ 7) (hM : ∀ c, c < 6 → Mv S.1 (S.2.2.2.2 c)) (p0 p1 p2 : Int32) (v v' : Int32) (x y : StX) (h : Dthen S p0 p1 p2 v x) (h' : Dthen S p0 p1 p2 v' y) : x = y ∧ v = v' := by
  obtain ⟨na, nb, nc, ea, eb, ec, ha, hb, hc, ev, e⟩ := h
  obtain ⟨na', nb', nc', ea', eb', ec', ha', hb', hc', ev', e'⟩ := h'
  obtain rfl := nI_uq ea ea' ha ha'
  obtain rfl := nI_uq eb eb' hb hb'
  obtain rfl := nI_uq ec ec' hc hc'
  exact ⟨e.trans e'.symm, ev.trans ev'.symm⟩
theorem fD_undo {S : StX} (h2 : 2 ≤ S.1) (h7 : S.1 ≤ 7) (hM : ∀ c, c < 6 → Mv S.1 (S.2.2.2.2 c)) (p0 p1 : Int32) (v v' : Int32) (x y : StX) (h : Dundo S p0 p1 v x) (h' : Dundo S p0 p1 v' y) : x = y ∧ v = v' := by
  obtain ⟨na, nb, ea, eb, ha, hb, ev, e⟩ := h
  obtain ⟨na', nb', ea', eb', ha', hb', ev', e'⟩ := h'
  obtain rfl := nI_uq ea ea' ha ha'
  obtain rfl := nI_uq eb eb' hb hb'
  exact ⟨e.trans e'.symm, ev.trans ev'.symm⟩
theorem fD_power {S : StX} (h2 : 2 ≤ S.1) (h7 : S.1 ≤ 7) (hM : ∀ c, c < 6 → Mv S.1 (S.2.2.2.2 c)) (p0 p1 p2 : Int32) (v v' : Int32) (x y : StX) (h : Dpower S p0 p1 p2 v x) (h' : Dpower S p0 p1 p2 v' y) : x = y ∧ v = v' := by
  obtain ⟨na, nc, ea, ec, ha, hc, ev, e⟩ := h
  obtain ⟨na', nc', ea', ec', ha', hc', ev', e'⟩ := h'
  obtain rfl := nI_uq ea ea' ha ha'
  obtain rfl := nI_uq ec ec' hc hc'
  exact ⟨e.trans e'.symm, ev.trans ev'.symm⟩
theorem fD_rename {S : StX} (h2 : 2 ≤ S.1) (h7 : S.1 ≤ 7) (hM : ∀ c, c < 6 → Mv S.1 (S.2.2.2.2 c)) (p0 p1 p2 : Int32) (v v' : Int32) (x y : StX) (h : Drename S p0 p1 p2 v x) (h' : Drename S p0 p1 p2 v' y) : x = y ∧ v = v' := by
  obtain ⟨na, nb, nc, ea, eb, ec, ha, hb, hc, ev, e⟩ := h
  obtain ⟨na', nb', nc', ea', eb', ec', ha', hb', hc', ev', e'⟩ := h'
  obtain rfl := nI_uq ea ea' ha ha'
  obtain rfl := nI_uq eb eb' hb hb'
  obtain rfl := nI_uq ec ec' hc hc'
  exact ⟨e.trans e'.symm, ev.trans ev'.symm⟩
theorem fD_match {S : StX} (h2 : 2 ≤ S.1) (h7 : S.1 ≤ 7) (hM : ∀ c, c < 6 → Mv S.1 (S.2.2.2.2 c)) (p0 p1 p2 : Int32) (v v' : Int32) (x y : StX) (h : Dmatch S p0 p1 p2 v x) (h' : Dmatch S p0 p1 p2 v' y) : x = y ∧ v = v' := by
  obtain ⟨a, b, c, e1, e2, e3, h1, h2, h3, e⟩ := h
  obtain ⟨a', b', c', e1', e2', e3', h1', h2', h3', e'⟩ := h'
  obtain rfl := nI_uq e1 e1' h1 h1'
  obtain rfl := nI_uq e2 e2' h2 h2'
  obtain rfl := nI_uq e3 e3' h3 h3'
  rcases e with ⟨z, hz, ev, e⟩ | ⟨hn, ev, e⟩
  · rcases e' with ⟨z', hz', ev', e'⟩ | ⟨hn', ev', e'⟩
    · obtain rfl := LN_same (by omega) h7 hz hz'
      exact ⟨e.trans e'.symm, ev.trans ev'.symm⟩
    · exact absurd hz.2.1 (hn' _)
  · rcases e' with ⟨z', hz', ev', e'⟩ | ⟨hn', ev', e'⟩
    · exact absurd hz'.2.1 (hn _)
    · exact ⟨e.trans e'.symm, ev.trans ev'.symm⟩
theorem fD_nth {S : StX} (h2 : 2 ≤ S.1) (h7 : S.1 ≤ 7) (hM : ∀ c, c < 6 → Mv S.1 (S.2.2.2.2 c)) (p0 p1 p2 p3 : Int32) (v v' : Int32) (x y : StX) (h : Dnth S p0 p1 p2 p3 v x) (h' : Dnth S p0 p1 p2 p3 v' y) : x = y ∧ v = v' := by
  obtain ⟨s, a, b, rk, e1, e2, e3, e4, h1, h2, h3, h4, e⟩ := h
  obtain ⟨s', a', b', rk', e1', e2', e3', e4', h1', h2', h3', h4', e'⟩ := h'
  obtain rfl := nI_uq e1 e1' h1 h1'
  obtain rfl := nI_uq e2 e2' h2 h2'
  obtain rfl := nI_uq e3 e3' h3 h3'
  obtain rfl := nI_uq e4 e4' h4 h4'
  rcases e with ⟨z, hz1, hz2, hz3, ev, e⟩ | ⟨hn, ev, e⟩
  · rcases e' with ⟨z', hz1', hz2', hz3', ev', e'⟩ | ⟨hn', ev', e'⟩
    · obtain rfl := GK_same (by omega) h7 (hM a h2).2.1 hz2 hz2' hz3 hz3'
      exact ⟨e.trans e'.symm, ev.trans ev'.symm⟩
    · exact absurd hz1 hn'
  · rcases e' with ⟨z', hz1', hz2', hz3', ev', e'⟩ | ⟨hn', ev', e'⟩
    · exact absurd hz1' hn
    · exact ⟨e.trans e'.symm, ev.trans ev'.symm⟩
theorem fD_number {S : StX} (h2 : 2 ≤ S.1) (h7 : S.1 ≤ 7) (hM : ∀ c, c < 6 → Mv S.1 (S.2.2.2.2 c)) (p0 : Int32) (v v' : Int32) (x y : StX) (h : Dnumber S p0 v x) (h' : Dnumber S p0 v' y) : x = y ∧ v = v' := by
  obtain ⟨na, ea, ha, ev, e⟩ := h
  obtain ⟨na', ea', ha', ev', e'⟩ := h'
  obtain rfl := nI_uq ea ea' ha ha'
  exact ⟨e.trans e'.symm, ev.trans ev'.symm⟩
theorem fD_goes {S : StX} (h2 : 2 ≤ S.1) (h7 : S.1 ≤ 7) (hM : ∀ c, c < 6 → Mv S.1 (S.2.2.2.2 c)) (p0 p1 : Int32) (v v' : Int32) (x y : StX) (h : Dgoes S p0 p1 v x) (h' : Dgoes S p0 p1 v' y) : x = y ∧ v = v' := by
  obtain ⟨na, nb, ea, eb, ha, hb, ev, e⟩ := h
  obtain ⟨na', nb', ea', eb', ha', hb', ev', e'⟩ := h'
  obtain rfl := nI_uq ea ea' ha ha'
  obtain rfl := nI_uq eb eb' hb hb'
  exact ⟨e.trans e'.symm, ev.trans ev'.symm⟩
theorem fD_order {S : StX} (h2 : 2 ≤ S.1) (h7 : S.1 ≤ 7) (hM : ∀ c, c < 6 → Mv S.1 (S.2.2.2.2 c)) (p0 : Int32) (v v' : Int32) (x y : StX) (h : Dorder S p0 v x) (h' : Dorder S p0 v' y) : x = y ∧ v = v' := by
  obtain ⟨na, ea, ha, ev, e⟩ := h
  obtain ⟨na', ea', ha', ev', e'⟩ := h'
  obtain rfl := nI_uq ea ea' ha ha'
  exact ⟨e.trans e'.symm, ev.trans ev'.symm⟩
theorem fD_sign {S : StX} (h2 : 2 ≤ S.1) (h7 : S.1 ≤ 7) (hM : ∀ c, c < 6 → Mv S.1 (S.2.2.2.2 c)) (p0 : Int32) (v v' : Int32) (x y : StX) (h : Dsign S p0 v x) (h' : Dsign S p0 v' y) : x = y ∧ v = v' := by
  obtain ⟨na, ea, ha, ev, e⟩ := h
  obtain ⟨na', ea', ha', ev', e'⟩ := h'
  obtain rfl := nI_uq ea ea' ha ha'
  exact ⟨e.trans e'.symm, ev.trans ev'.symm⟩
theorem fD_stays {S : StX} (h2 : 2 ≤ S.1) (h7 : S.1 ≤ 7) (hM : ∀ c, c < 6 → Mv S.1 (S.2.2.2.2 c)) (p0 : Int32) (v v' : Int32) (x y : StX) (h : Dstays S p0 v x) (h' : Dstays S p0 v' y) : x = y ∧ v = v' := by
  obtain ⟨na, ea, ha, ev, e⟩ := h
  obtain ⟨na', ea', ha', ev', e'⟩ := h'
  obtain rfl := nI_uq ea ea' ha ha'
  exact ⟨e.trans e'.symm, ev.trans ev'.symm⟩
theorem fD_areAlike {S : StX} (h2 : 2 ≤ S.1) (h7 : S.1 ≤ 7) (hM : ∀ c, c < 6 → Mv S.1 (S.2.2.2.2 c)) (p0 p1 : Int32) (v v' : Int32) (x y : StX) (h : DareAlike S p0 p1 v x) (h' : DareAlike S p0 p1 v' y) : x = y ∧ v = v' := by
  obtain ⟨na, nb, ea, eb, ha, hb, ev, e⟩ := h
  obtain ⟨na', nb', ea', eb', ha', hb', ev', e'⟩ := h'
  obtain rfl := nI_uq ea ea' ha ha'
  obtain rfl := nI_uq eb eb' hb hb'
  exact ⟨e.trans e'.symm, ev.trans ev'.symm⟩
theorem fD_commute {S : StX} (h2 : 2 ≤ S.1) (h7 : S.1 ≤ 7) (hM : ∀ c, c < 6 → Mv S.1 (S.2.2.2.2 c)) (p0 p1 : Int32) (v v' : Int32) (x y : StX) (h : Dcommute S p0 p1 v x) (h' : Dcommute S p0 p1 v' y) : x = y ∧ v = v' := by
  obtain ⟨na, nb, ea, eb, ha, hb, ev, e⟩ := h
  obtain ⟨na', nb', ea', eb', ha', hb', ev', e'⟩ := h'
  obtain rfl := nI_uq ea ea' ha ha'
  obtain rfl := nI_uq eb eb' hb hb'
  exact ⟨e.trans e'.symm, ev.trans ev'.symm⟩
theorem fD_house {S : StX} (h2 : 2 ≤ S.1) (h7 : S.1 ≤ 7) (hM : ∀ c, c < 6 → Mv S.1 (S.2.2.2.2 c)) (p0 : Int32) (v v' : Int32) (x y : StX) (h : Dhouse S p0 v x) (h' : Dhouse S p0 v' y) : x = y ∧ v = v' := by
  obtain ⟨na, ea, ha, ev, e⟩ := h
  obtain ⟨na', ea', ha', ev', e'⟩ := h'
  obtain rfl := nI_uq ea ea' ha ha'
  exact ⟨e.trans e'.symm, ev.trans ev'.symm⟩
theorem bD_areAlike {S : StX} (p0 p1 : Int32) (v : Int32) (x : StX) (h : DareAlike S p0 p1 v x) : v = nI 0 ∨ v = nI 1 := by
  obtain ⟨_, _, _, _, _, _, ev, _⟩ := h
  rw [ev]
  exact on_01 _
theorem bD_commute {S : StX} (p0 p1 : Int32) (v : Int32) (x : StX) (h : Dcommute S p0 p1 v x) : v = nI 0 ∨ v = nI 1 := by
  obtain ⟨_, _, _, _, _, _, ev, _⟩ := h
  rw [ev]
  split; exact Or.inr rfl; exact Or.inl rfl
/-! the reference's rows are the house's moves, also behind an act -/
section RLS
variable {n : Nat} {cm mv mv' : Nat → Nat}
theorem RLx_mW (h : RLx n cm mv) {c : Nat} (hc : c < 6) : mW n mv c = cm c := (h c hc).symm
theorem RL_behind (hn : n ≤ 7) (hP : PM n mv) (h : RLx n cm mv) {a x : Nat} {g : Nat → Nat} (ha : a < 6) (hg : Pn n g) (hx : x = mkM n g) (hA : ACT n mv a (fun p => g (mv (a * 7 + p))) mv') : RLx n (up cm a (c7 (cm a) x)) mv' :=
  RLx_act h hA (by rw [hx, h a ha]; exact c7_mkM hn (hP a ha) hg)
theorem RL_exchange (hn : n ≤ 7) (hP : PM n mv) (h : RLx n cm mv) {a b c : Nat} (ha : a < 6) (hb : b < n) (hc : c < n) (hA : ACT n mv a (fun p => sw2 b c (mv (a * 7 + p))) mv') : RLx n (up cm a (c7 (cm a) (w8 (w8 1754760 b c) c b))) mv' :=
  RL_behind hn hP h ha (sw2_Pn hb hc) (w8_2 hn hb hc) hA
theorem RL_ring (hn : n ≤ 7) (hP : PM n mv) (h : RLx n cm mv) {a b c f : Nat} (ha : a < 6) (hb : b < n) (hc : c < n) (hf : f < n) (h1 : b ≠ c) (h2 : c ≠ f) (h3 : f ≠ b) (hA : ACT n mv a (fun p => sw3 b c f (mv (a * 7 + p))) mv') : RLx n (up cm a (c7 (cm a) (w8 (w8 (w8 1754760 b c) c f) f b))) mv' :=
  RL_behind hn hP h ha (sw3_Pn hb hc hf h1 h2 h3) (w8_3 hn hb hc hf) hA
theorem RL_mirror (hn : n ≤ 7) (hP : PM n mv) (h : RLx n cm mv) {a : Nat} (ha : a < 6) (hA : ACT n mv a (fun p => n - 1 - mv (a * 7 + p)) mv') : RLx n (up cm a (c7 (cm a) (bW (fun p => n - 1 - p) n))) mv' :=
  RL_behind (g := fun p => n - 1 - p) hn hP h ha (Pn_rev (fun _ _ => rfl)) (bW_M hn (Pn_rev (fun _ _ => rfl)) _ (fun _ _ => rfl) (fun p _ => by omega)) hA
theorem RL_turn (hn1 : 2 ≤ n) (hn : n ≤ 7) (hP : PM n mv) (h : RLx n cm mv) {a : Nat} {T : Nat} (ha : a < 6) (hA : ACT n mv a (fun p => (mv (a * 7 + p) + T) % n) mv') : RLx n (up cm a (c7 (cm a) (bW (fun p => (p + T) % n) n))) mv' :=
  RL_behind (g := fun p => (p + T) % n) hn hP h ha (Pn_rot (by omega) (fun _ _ => rfl)) (bW_M hn (Pn_rot (by omega) (fun _ _ => rfl)) _ (fun _ _ => rfl) (fun p _ => by have := Nat.mod_lt (p + T) (show 0 < n by omega); omega)) hA
theorem RL_copy (h : RLx n cm mv) {a b : Nat} (ha : a < 6) (hA : ACT n mv b (fun p => mv (a * 7 + p)) mv') : RLx n (up cm b (cm a)) mv' := RLx_act h hA (h a ha)
theorem RL_then (hn : n ≤ 7) (hP : PM n mv) (h : RLx n cm mv) {a b c : Nat} (ha : a < 6) (hb : b < 6) (hA : ACT n mv c (fun p => mv (b * 7 + mv (a * 7 + p))) mv') : RLx n (up cm c (c7 (cm a) (cm b))) mv' :=
  RLx_act h hA (by rw [h a ha, h b hb]; exact c7_mkM hn (hP a ha) (hP b hb))
theorem RL_undo (hn : n ≤ 7) (hP : PM n mv) (h : RLx n cm mv) {a b : Nat} {f : Nat → Nat} (ha : a < 6) (hf : ∀ p, p < n → f (mv (a * 7 + p)) = p) (hA : ACT n mv b f mv') : RLx n (up cm b (i7 (cm a))) mv' :=
  RLx_act h hA (by rw [h a ha]; exact i7_mkM hn (hP a ha) hf)
theorem RL_power (hn : n ≤ 7) (hP : PM n mv) (h : RLx n cm mv) {a c : Nat} {t : Int32} (ha : a < 6) (h1 : (-1000) ≤ t) (h2 : t ≤ nI 1000) (hA : ACT n mv c (it (fun p => mv (a * 7 + p)) (tP t)) mv') : RLx n (up cm c (pwM t (cm a))) mv' := by
  have hM := RLx_M hn h hP a ha
  have hq := it_Pn (hP a ha) (tP t)
  refine RLx_act h hA ((pwM_Mv hn hM t).ext (mkM_Mv hn hq) (fun p hp => ?_))
  rw [pwM_d hn hM h1 h2 hp, mkM_d hn hq.1 hp]
  have hi : ∀ k, it (d8 (cm a)) k p = it (fun p => mv (a * 7 + p)) k p := by
    intro k
    induction k with
    | zero => rfl
    | succ k ih =>
      show d8 (cm a) (it (d8 (cm a)) k p) = mv (a * 7 + it (fun p => mv (a * 7 + p)) k p)
      rw [ih]
      exact RLx_d hn h hP ha (it_lt (hP a ha) hp k)
  exact hi _
theorem RL_rename (hn : n ≤ 7) (hP : PM n mv) (h : RLx n cm mv) {a b c : Nat} {f : Nat → Nat} (ha : a < 6) (hb : b < 6) (hf : ∀ p, p < n → f (mv (b * 7 + p)) = mv (b * 7 + mv (a * 7 + p))) (hA : ACT n mv c f mv') : RLx n (up cm c (c7 (c7 (i7 (cm b)) (cm a)) (cm b))) mv' := by
  have hMb := RLx_M hn h hP b hb
  have hMa := RLx_M hn h hP a ha
  have hf2 : Pn n f := Pn_inv (hP b hb) (Pn.comp (hP a ha) (hP b hb)) hf
  have i1 := i7_Mv hn hMb
  have i2 := c7_Mv hn i1 hMa
  refine RLx_act h hA ((c7_Mv hn i2 hMb).ext (mkM_Mv hn hf2) (fun v hv => ?_))
  rw [mkM_d hn hf2.1 hv, c7_d (by omega), c7_d (by omega)]
  have hg := i1.2.1.1 v hv
  have e1 : mv (b * 7 + d8 (i7 (cm b)) v) = v := by
    rw [← RLx_d hn h hP hb hg]
    have e := cM_d hn (iM_Mv hn hMb) hMb hv
    rw [iM_c hn hMb, eM_d hn hv, ← i7_M hn hMb] at e
    exact e.symm
  have e2 := hf _ hg
  rw [e1] at e2
  rw [e2, RLx_d hn h hP ha hg, RLx_d hn h hP hb ((hP a ha).1 _ hg)]
theorem RL_lay (h : RLx n cm mv) {a b : Nat} (hA : ACT n mv a (rwF n b) mv') : RLx n (up cm a (XM n b)) mv' := RLx_act h hA rfl
theorem RL_swap (hn : n ≤ 7) (h : RLx n cm mv) {a b : Nat} (ha : a < 6) (hb : b < 6) : RLx n (up (up cm a (cm b)) b (cm a)) (sw mv a b n) := fun c hc => by
  by_cases e : c = b
  · subst e
    rw [up_s, h a ha]
    refine mkM_congr (fun p hp => ?_)
    unfold sw
    by_cases q : a * 7 ≤ c * 7 + p ∧ c * 7 + p < a * 7 + n
    · have : a = c := by omega
      subst this
      rw [if_pos q]
      congr 1
      omega
    · rw [if_neg q, if_pos (by omega)]
      congr 1
      omega
  · rw [up_n e]
    by_cases e2 : c = a
    · subst e2
      rw [up_s, h b hb]
      refine mkM_congr (fun p hp => ?_)
      unfold sw
      rw [if_pos (by omega)]
      congr 1
      omega
    · rw [up_n e2, h c hc]
      refine mkM_congr (fun p hp => ?_)
      unfold sw
      rw [if_neg (by omega), if_neg (by omega)]
theorem RL_points {k : Nat} (hk : k ≤ 7) (h : ∀ c p, c < 6 → p < k → mv' (c * 7 + p) = p) : RLx k (fun _ => 1754760) mv' := fun c hc => by
  show 1754760 = _
  rw [e7_M hk]
  exact mkM_congr (fun p hp => (h c p hc hp).symm)
theorem RL_nth (h : RLx n cm mv) {c y : Nat} (hn : n ≤ 7) (hy : Mv n y) (hA : ACT n mv c (d8 y) mv') : RLx n (up cm c y) mv' :=
  RLx_act h hA (hy.ext (mkM_Mv hn hy.2.1) (fun p hp => by rw [mkM_d hn hy.2.1.1 hp]))
theorem RN_RNr (hn : n ≤ 7) (hP : PM n mv) (h : RLx n cm mv) {a b : Nat} (ha : a < 6) (hb : b < 6) {f : Nat → Nat} (hf : Pn n f) : RN n (cm a) (cm b) f ↔ RNr n mv a b f := by
  refine ⟨fun q p hp => ?_, fun q => ⟨hf, fun p hp => ?_⟩⟩
  · rw [← RLx_d hn h hP ha hp, ← RLx_d hn h hP hb (hf.1 p hp)]
    exact q.2 p hp
  · rw [RLx_d hn h hP ha hp, RLx_d hn h hP hb (hf.1 p hp)]
    exact q p hp
theorem RNr_num (h1 : 1 ≤ n) (hP : PM n mv) {a b : Nat} (ha : a < 6) {w : Nat → Nat} (hw : Pn n w) (h : RNr n mv a b w) : RNr n mv a b (rwF n (nuF w 0 n n)) := fun p hp => by
  rw [rw_nu h1 hw _ ((hP a ha).1 p hp), rw_nu h1 hw p hp]
  exact h p hp
theorem LN_ref (h1 : 1 ≤ n) (hn : n ≤ 7) (hP : PM n mv) (h : RLx n cm mv) {a b k : Nat} (ha : a < 6) (hb : b < 6) (hk : k < fc n) (hq : RNr n mv a b (rwF n k)) (hl : ∀ j, j < k → ¬ RNr n mv a b (rwF n j)) : LN n (cm a) (cm b) (XM n k) := by
  have hX := XM_Mv h1 hn k
  have hd : RNr n mv a b (d8 (XM n k)) := fun p hp => by
    rw [XM_d h1 hn ((hP a ha).1 p hp), XM_d h1 hn hp]
    exact hq p hp
  refine ⟨hX, (RN_RNr hn hP h ha hb hX.2.1).mpr hd, fun w hw => ?_⟩
  rw [nu_XM h1 hn hk]
  have h3 := RNr_num h1 hP ha hw.1 ((RN_RNr hn hP h ha hb hw.1).mp hw)
  exact Nat.not_lt.mp (fun e => hl _ e h3)
theorem LN_none (h1 : 1 ≤ n) (hn : n ≤ 7) (hP : PM n mv) (h : RLx n cm mv) {a b : Nat} (ha : a < 6) (hb : b < 6) (hl : ∀ k, k < fc n → ¬ RNr n mv a b (rwF n k)) (w : Nat → Nat) : ¬ RN n (cm a) (cm b) w := fun hw =>
  hl _ (nuF_b w 0 n) (RNr_num h1 hP ha hw.1 ((RN_RNr hn hP h ha hb hw.1).mp hw))
theorem gS_RL (h : RLx n cm mv) (s x : Nat) : gS (mW n mv) s 6 x ↔ gS cm s 6 x := by
  refine ⟨fun ⟨c, h1, h2, h3⟩ => ⟨c, h1, h2, h3.trans (RLx_mW h h1)⟩, fun ⟨c, h1, h2, h3⟩ => ⟨c, h1, h2, h3.trans (RLx_mW h h1).symm⟩⟩
theorem Gg_RL (h : RLx n cm mv) (s x : Nat) : Gg n (gS (mW n mv) s 6) x ↔ Gg n (gS cm s 6) x :=
  ⟨Gg_mono (fun y => (gS_RL h s y).mp), Gg_mono (fun y => (gS_RL h s y).mpr)⟩
theorem cd_RL (h1 : 1 ≤ n) (hn : n ≤ 7) (h : RLx n cm mv) (s : Nat) : cd n (Gg n (gS (mW n mv) s 6)) = cd n (Gg n (gS cm s 6)) := cd_iff h1 hn (fun x _ => Gg_RL h s x)
theorem GK_RL (h1 : 1 ≤ n) (hn : n ≤ 7) (hP : PM n mv) (h : RLx n cm mv) {s a rk y : Nat} (ha : a < 6) (hG : GK n (Gg n (gS (mW n mv) s 6)) (fun j => mv (a * 7 + j)) rk y) : GK n (Gg n (gS cm s 6)) (d8 (cm a)) rk y :=
  GK_iff h1 hn (fun x _ => Gg_RL h s x) (GK_rd h1 hn (fun j hj => (RLx_d hn h hP ha hj).symm) hG)
theorem KX_keep {kn kn' : Int32} {bt : List Int32} (h : KX n mv kn bt) (e : kn' = kn) : KX n mv kn' bt := by
  rw [e]; exact h
end RLS
/-! answers of acts, on both sides the same -/
section VALS
variable {n : Nat} {cm mv mv' : Nat → Nat}
theorem RL_row {c X : Nat} (hL : RLx n (up cm c X) mv') (hc : c < 6) : X = mkM n (fun p => mv' (c * 7 + p)) := by
  have h := hL c hc
  rw [up_s] at h
  exact h
theorem AV {c X : Nat} {F : Nat → Nat} (hn : n ≤ 7) (hP : PM n mv') (hL : RLx n (up cm c X) mv') (hA : ACT n mv c F mv') (hc : c < 6) : nu n X = nuF F 0 n n := by
  rw [RL_row hL hc]
  exact nu_congr (fun p hp => (mkM_d hn (hP c hc).1 hp).trans (hA.1 p hp))
theorem SV {c X : Nat} (hn : n ≤ 7) (hP : PM n mv') (hL : RLx n (up cm c X) mv') (hc : c < 6) : sg n X = sgv (iv mv' (c * 7) n) := by
  rw [RL_row hL hc]
  exact congrArg sgv (iv_congr (f := mv') (fr := c * 7) (m := n) (fun p hp => (mkM_d hn (hP c hc).1 hp).symm) n (Nat.le_refl n)).symm
theorem CV0 (hn : n ≤ 7) (hP : PM n mv) (hL : RLx n cm mv) {a b : Nat} (ha : a < 6) (hb : b < 6) : (∀ p, p < n → mv (a * 7 + p) = mv (b * 7 + p)) ↔ cm a = cm b := by
  refine ⟨fun h => ?_, fun e p hp => ?_⟩
  · rw [hL a ha, hL b hb]
    exact mkM_congr h
  · rw [← RLx_d hn hL hP ha hp, ← RLx_d hn hL hP hb hp, e]
theorem CVa (hn : n ≤ 7) (hP : PM n mv) (hL : RLx n cm mv) {a b : Nat} {v : Int32} (ha : a < 6) (hb : b < 6) (h : (v = nI 0 ∧ ∀ p, p < n → mv (a * 7 + p) = mv (b * 7 + p)) ∨ (v = nI 1 ∧ ¬ ∀ p, p < n → mv (a * 7 + p) = mv (b * 7 + p))) : v = (if cm a = cm b then nI 0 else nI 1) := by
  rcases h with ⟨rfl, h⟩ | ⟨rfl, h⟩
  · rw [if_pos ((CV0 hn hP hL ha hb).mp h)]
  · rw [if_neg (fun e => h ((CV0 hn hP hL ha hb).mpr e))]
theorem CVb (hn : n ≤ 7) (hP : PM n mv) (hL : RLx n cm mv) {a b : Nat} {v : Int32} (ha : a < 6) (hb : b < 6) (h : (v = nI 0 ∧ ∀ p, p < n → mv (a * 7 + p) = mv (b * 7 + p)) ∨ (v = nI 1 ∧ ¬ ∀ p, p < n → mv (a * 7 + p) = mv (b * 7 + p))) : v = (if cm b = cm a then nI 0 else nI 1) := by
  rcases h with ⟨rfl, h⟩ | ⟨rfl, h⟩
  · rw [if_pos ((CV0 hn hP hL ha hb).mp h).symm]
  · rw [if_neg (fun e => h ((CV0 hn hP hL ha hb).mpr e.symm))]
/-! what is asked of moves -/
theorem Mv.seven {x : Nat} (hn : n ≤ 7) (h : Mv n x) : Mv 7 x := ⟨h.1, h.P7 hn, fun p h1 h2 => by omega⟩
theorem QO (hn : n ≤ 7) (hP : PM n mv) (hL : RLx n cm mv) {a : Nat} (ha : a < 6) : oC (cm a) = olc (lF (fun p => mv (a * 7 + p)) n) n := by
  have hM := RLx_M hn hL hP a ha
  refine order_is hn hM (fun p hp => ?_)
  rw [lF_ln hn hM (fun q hq => (RLx_d hn hL hP ha hq).symm) hp]
  exact (lF_ln (Nat.le_refl 7) (hM.seven hn) (fun q _ => rfl) (show p < 7 by omega)).symm
theorem QS (hn : n ≤ 7) (hP : PM n mv) (hL : RLx n cm mv) {a : Nat} (ha : a < 6) : sg n (cm a) = sgv (iv mv (a * 7) n) :=
  congrArg sgv (iv_congr (f := mv) (fr := a * 7) (m := n) (fun p hp => (RLx_d hn hL hP ha hp).symm) n (Nat.le_refl n)).symm
theorem QA (hn : n ≤ 7) (hP : PM n mv) (hL : RLx n cm mv) {a b : Nat} {v : Int32} (ha : a < 6) (hb : b < 6)
    (h : (v = nI 1 ∧ ∀ L, 1 ≤ L → L ≤ n → lo (fun p => mv (a * 7 + p)) n L n / L = lo (fun p => mv (b * 7 + p)) n L n / L) ∨ (v = nI 0 ∧ ¬ ∀ L, 1 ≤ L → L ≤ n → lo (fun p => mv (a * 7 + p)) n L n / L = lo (fun p => mv (b * 7 + p)) n L n / L)) : v = nI (on (LK (cm a) (cm b))) := by
  have hM := RLx_M hn hL hP
  have hk := LK_lo hn (hM a ha) (hM b hb) (fun q hq => (RLx_d hn hL hP ha hq).symm) (fun q hq => (RLx_d hn hL hP hb hq).symm)
  rcases h with ⟨rfl, h⟩ | ⟨rfl, h⟩
  · rw [on_t (hk.mpr h)]
  · rw [on_f (fun e => h (hk.mp e))]
theorem QC (hn : n ≤ 7) (hP : PM n mv) (hL : RLx n cm mv) {a b : Nat} {v : Int32} (ha : a < 6) (hb : b < 6)
    (h : (v = nI 1 ∧ ∀ p, p < n → mv (b * 7 + mv (a * 7 + p)) = mv (a * 7 + mv (b * 7 + p))) ∨ (v = nI 0 ∧ ¬ ∀ p, p < n → mv (b * 7 + mv (a * 7 + p)) = mv (a * 7 + mv (b * 7 + p)))) : v = (if c7 (cm a) (cm b) = c7 (cm b) (cm a) then nI 1 else nI 0) := by
  have hM := RLx_M hn hL hP
  have hd : ∀ {x y p : Nat}, x < 6 → y < 6 → p < n → d8 (c7 (cm x) (cm y)) p = mv (y * 7 + mv (x * 7 + p)) := fun {x y p} hx hy hp => by
    rw [c7_d (by omega), RLx_d hn hL hP hx hp, RLx_d hn hL hP hy ((hP x hx).1 p hp)]
  have hk : (∀ p, p < n → mv (b * 7 + mv (a * 7 + p)) = mv (a * 7 + mv (b * 7 + p))) ↔ c7 (cm a) (cm b) = c7 (cm b) (cm a) := by
    refine ⟨fun h => (c7_Mv hn (hM a ha) (hM b hb)).ext (c7_Mv hn (hM b hb) (hM a ha)) (fun p hp => ?_), fun e p hp => ?_⟩
    · rw [hd ha hb hp, hd hb ha hp]; exact h p hp
    · rw [← hd ha hb hp, ← hd hb ha hp, e]
  rcases h with ⟨rfl, h⟩ | ⟨rfl, h⟩
  · rw [if_pos (hk.mp h)]
  · rw [if_neg (fun e => h (hk.mpr e))]
theorem hs_v {a : Nat} {x y z : Int32} (h : a < 3) : (if nI a = nI 0 then x else if nI a = nI 1 then y else z) = (if a = 0 then x else if a = 1 then y else z) := by
  match a, h with
  | 0, _ => rfl
  | 1, _ => rfl
  | 2, _ => rfl
end VALS
end
