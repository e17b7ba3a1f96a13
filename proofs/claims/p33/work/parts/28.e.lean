section
/-! what is asked of the reference's moves, exactly -/
theorem isN_3 {a : Int32} (h1 : ¬ a < 0) (h2 : a ≤ nI 2) : isN a 3 := by
  obtain ⟨k, hk, rfl⟩ := nI_nn (Int32.not_lt.mp h1)
  exact ⟨k, by have := (nI_leI hk (by omega)).mp h2; omega, rfl⟩
/-- rings of a length, one length behind the other -/
def AL (n : Nat) (f g : Nat → Nat) (c y : Nat) : Prop := (y = 1 ∧ ∀ L, 1 ≤ L → L < c → lo f n L n / L = lo g n L n / L) ∨ (y = 0 ∧ ∃ L, 1 ≤ L ∧ L ≤ n ∧ ¬ lo f n L n / L = lo g n L n / L)
theorem AL_1 {n : Nat} {f g : Nat → Nat} : AL n f g 1 1 := Or.inl ⟨rfl, fun L h1 h2 => by omega⟩
theorem AL_s {n c y : Nat} {f g : Nat → Nat} (h : AL n f g c y) (h1 : 1 ≤ c) (h2 : c ≤ n) (e : lo f n c n / c = lo g n c n / c) : AL n f g (c + 1) (y % 2 ^ 1) := by
  rcases h with ⟨rfl, h⟩ | ⟨rfl, h⟩
  · exact Or.inl ⟨rfl, fun L a b => by
      by_cases q : L = c
      · rw [q]; exact e
      · exact h L a (by omega)⟩
  · exact Or.inr ⟨rfl, h⟩
theorem AL_n {n c y : Nat} {f g : Nat → Nat} (h : AL n f g c y) (h1 : 1 ≤ c) (h2 : c ≤ n) (e : ¬ lo f n c n / c = lo g n c n / c) : AL n f g (c + 1) (y * 0) := Or.inr ⟨rfl, c, h1, h2, e⟩
theorem al_end {n c y : Nat} {f g : Nat → Nat} (h : AL n f g c y) (hc : n < c) : (nI y = nI 1 ∧ ∀ L, 1 ≤ L → L ≤ n → lo f n L n / L = lo g n L n / L) ∨ (nI y = nI 0 ∧ ¬ ∀ L, 1 ≤ L → L ≤ n → lo f n L n / L = lo g n L n / L) := by
  rcases h with ⟨rfl, h⟩ | ⟨rfl, L, h1, h2, h3⟩
  · exact Or.inl ⟨rfl, fun L a b => h L a (by omega)⟩
  · exact Or.inr ⟨rfl, fun q => h3 (q L h1 h2)⟩
set_option maxRecDepth 100000 in
set_option maxHeartbeats 4000000 in
theorem c_X8_number_ate {X : jX} (hs : X.1.stackTraces = false) {d : Nat} (hd : 2 ≤ d) {n : Nat} {mv rw nx : Nat → Nat} {b : Nat} {bt : List Int32} {kn en dn rf kk th : Int32} {w : List jC} (hR : RM n mv rw nx b bt kn en dn rf kk th w) (hn1 : 2 ≤ n) (hn2 : n ≤ 7) (gm : ∀ i, mv i < 7) (gr : ∀ i, rw i < 7) (gx : ∀ i, nx i < 7) (a : Int32) {kc ks : Nat} : jMet X mX8_number d kc ks [.ref 19, .int a] w (pJ (fun v w' => ∃ (th' : Int32), RM n mv rw nx b bt kn en dn rf kk th' w' ∧ FR b b w w' ∧ ((th' = nI 1 ∧ ¬ (isN a 6)) ∨ (th' = nI 0 ∧ ∃ a1 : Nat, a = nI a1 ∧ a1 < 6 ∧ v = nI (nuF mv (a1 * 7) n n))))) := by
  refine jMet_of hs (by decide +kernel) (Nat.le_of_ble_eq_true rfl) (L := [some (.ref 19), some (.int a)]) rfl ?_
  have hdm : 1 ≤ d - 1 := by omega
  have hdp : d - 1 + 1 ≤ d := by omega
  have hfc := fc_7 hn2
  have hfp := fc_pos n
  obtain ⟨h19, h20, h21, h22, hbb, hbl, hb3⟩ := hR
  have hF : FR b b w w := FR.rf
  refine J_aload_n (pc := 0) dX8_number_0 rfl rfl rfl ?_
  refine J_iload_n (pc := 1) dX8_number_1 rfl rfl ?_
  refine J_callS0 (pc := 2) (M := mX8_number) (as := [.int a]) dX8_number_2 fw_X8_isCell fl_X8_108 fs_X8_isCell rfl (c_X8_isCell hs (d := d - 1) (Nat.le_trans (by decide) hdm) (w := w) a (kc := 0) (ks := 0)) hdp (st := [.ref 19]) (Nat.le_of_ble_eq_true rfl) rfl (kr_P fun v1 hv1 => ?_) kx_I
  rcases hv1 with ⟨rfl, hk1_0⟩ | ⟨q1, rfl, hk1_0, rfl⟩
  · refine J_if_neN (pc := 5) (tgt := 12) dX8_number_5 (by decide) (by decide) (fun h => absurd h (by decide)) (fun _ => ?_)
    refine J_iconst (pc := 8) (v := nI 1) dX8_number_8 (by decide) ?_
    refine J_goto (pc := 9) (tgt := 13) dX8_number_9 (by decide) ?_
    refine J_callV0 (pc := 13) (M := mX8_number) (as := [.int (nI 1)]) dX8_number_13 fw_X8_isThrown_ fl_X8_105 fm_X8_isThrown_ fe_X8_isThrown_ h19 (by decide) rfl rfl rfl (c_X8_isThrown_ hs (d := d - 1) (Nat.le_trans (by decide) hdm) (w := w) (n := n) (mv := mv) (rw := rw) (nx := nx) (b := b) (bt := bt) (kn := kn) (en := en) (dn := dn) (rf := rf) (kk := kk) (th := th) ⟨h19, h20, h21, h22, hbb, hbl, hb3⟩ hn1 hn2 gm gr gx 1 (by first | assumption | omega) (kc := 0) (ks := 0)) hdp (st := []) (Nat.le_of_ble_eq_true rfl) rfl (kr_I fun v2 w2 hv2 hw2 => ?_) kx_I
    obtain ⟨hR2, hFc2⟩ := hw2
    obtain ⟨h19_2, h20_2, h21_2, h22_2, hbb_2, hbl_2, hb3_2⟩ := hR2
    have hF2 := hF.tr hFc2
    subst hv2
    show J X mX8_number d kc ks 16 [some (.ref 19), some (.int a)] [.int (nI 1)] w2 _
    refine J_if_eqN (pc := 16) (tgt := 23) dX8_number_16 (by decide) (by decide) (fun h => absurd h (by decide)) (fun _ => ?_)
    refine J_iconst (pc := 19) (v := nI 0) dX8_number_19 (by decide) ?_
    refine J_goto (pc := 20) (tgt := 35) dX8_number_20 (by decide) ?_
    exact J_iret (pc := 35) dX8_number_35 rfl (⟨nI (tW 1 0), ⟨h19_2, h20_2, h21_2, h22_2, hbb_2, hbl_2, hb3_2⟩, hF2, (by first | exact Or.inl ⟨rfl, fun g => (by first | exact ne_isN (by assumption) g | exact ne_isN (by assumption) g.1 | exact ne_isN (by assumption) g.2)⟩ | exact Or.inr ⟨rfl, ⟨_, rfl, (by omega), (by rfl)⟩⟩)⟩)
  · refine J_if_neN (pc := 5) (tgt := 12) dX8_number_5 (by decide) (by decide) (fun _ => ?_) (fun h => absurd h (by decide))
    refine J_iconst (pc := 12) (v := nI 0) dX8_number_12 (by decide) ?_
    refine J_callV0 (pc := 13) (M := mX8_number) (as := [.int (nI 0)]) dX8_number_13 fw_X8_isThrown_ fl_X8_105 fm_X8_isThrown_ fe_X8_isThrown_ h19 (by decide) rfl rfl rfl (c_X8_isThrown_ hs (d := d - 1) (Nat.le_trans (by decide) hdm) (w := w) (n := n) (mv := mv) (rw := rw) (nx := nx) (b := b) (bt := bt) (kn := kn) (en := en) (dn := dn) (rf := rf) (kk := kk) (th := th) ⟨h19, h20, h21, h22, hbb, hbl, hb3⟩ hn1 hn2 gm gr gx 0 (by first | assumption | omega) (kc := 0) (ks := 0)) hdp (st := []) (Nat.le_of_ble_eq_true rfl) rfl (kr_I fun v3 w3 hv3 hw3 => ?_) kx_I
    obtain ⟨hR3, hFc3⟩ := hw3
    obtain ⟨h19_3, h20_3, h21_3, h22_3, hbb_3, hbl_3, hb3_3⟩ := hR3
    have hF3 := hF.tr hFc3
    subst hv3
    show J X mX8_number d kc ks 16 [some (.ref 19), some (.int (nI q1))] [.int (nI 0)] w3 _
    refine J_if_eqN (pc := 16) (tgt := 23) dX8_number_16 (by decide) (by decide) (fun _ => ?_) (fun h => absurd h (by decide))
    refine J_aload_n (pc := 23) dX8_number_23 rfl rfl rfl ?_
    refine J_aload_n (pc := 24) dX8_number_24 rfl rfl rfl ?_
    refine J_get (pc := 25) (k := 1) dX8_number_25 kC9 (by decide) ff_X8_13 h19_3 rfl ?_
    refine J_iload_n (pc := 28) dX8_number_28 rfl rfl ?_
    refine J_bipush (pc := 29) (v := nI 7) dX8_number_29 (by decide) ?_
    refine J_imulN (pc := 31) dX8_number_31 ?_
    refine J_callV0 (pc := 32) (M := mX8_number) (as := [.ref 20, .int (nI (q1 * 7))]) dX8_number_32 fw_X8_numberOf fl_X8_45 fm_X8_numberOf fe_X8_numberOf h19_3 (by decide) rfl rfl rfl (c_X8_numberOf_at20 hs (d := d - 1) (Nat.le_trans (by decide) hdm) (w := w3) (n := n) (mv := mv) (rw := rw) (nx := nx) (b := b) (bt := bt) (kn := kn) (en := en) (dn := dn) (rf := rf) (kk := kk) (th := nI (tW 0 0)) ⟨h19_3, h20_3, h21_3, h22_3, hbb_3, hbl_3, hb3_3⟩ hn1 hn2 gm gr gx (q1 * 7) (by first | assumption | omega) (kc := 0) (ks := 0)) hdp (st := []) (Nat.le_of_ble_eq_true rfl) rfl (kr_P fun v4 hv4 => ?_) kx_I
    subst hv4
    have hq5 := nuF_b mv (q1 * 7) n
    exact J_iret (pc := 35) dX8_number_35 rfl (⟨nI (tW 0 0), ⟨h19_3, h20_3, h21_3, h22_3, hbb_3, hbl_3, hb3_3⟩, hF3, (by first | exact Or.inl ⟨rfl, fun g => (by first | exact ne_isN (by assumption) g | exact ne_isN (by assumption) g.1 | exact ne_isN (by assumption) g.2)⟩ | exact Or.inr ⟨rfl, ⟨_, rfl, (by omega), (by rfl)⟩⟩)⟩)
set_option maxRecDepth 100000 in
set_option maxHeartbeats 4000000 in
theorem c_X8_goes_ate {X : jX} (hs : X.1.stackTraces = false) {d : Nat} (hd : 2 ≤ d) {n : Nat} {mv rw nx : Nat → Nat} {b : Nat} {bt : List Int32} {kn en dn rf kk th : Int32} {w : List jC} (hR : RM n mv rw nx b bt kn en dn rf kk th w) (hn1 : 2 ≤ n) (hn2 : n ≤ 7) (gm : ∀ i, mv i < 7) (gr : ∀ i, rw i < 7) (gx : ∀ i, nx i < 7) (a : Int32) (c : Int32) {kc ks : Nat} : jMet X mX8_goes d kc ks [.ref 19, .int a, .int c] w (pJ (fun v w' => ∃ (th' : Int32), RM n mv rw nx b bt kn en dn rf kk th' w' ∧ FR b b w w' ∧ ((th' = nI 1 ∧ ¬ (isN a 6 ∧ isN c n)) ∨ (th' = nI 0 ∧ ∃ a1 b1 : Nat, a = nI a1 ∧ c = nI b1 ∧ a1 < 6 ∧ b1 < n ∧ v = nI (mv (a1 * 7 + b1)))))) := by
  refine jMet_of hs (by decide +kernel) (Nat.le_of_ble_eq_true rfl) (L := [some (.ref 19), some (.int a), some (.int c)]) rfl ?_
  have hdm : 1 ≤ d - 1 := by omega
  have hdp : d - 1 + 1 ≤ d := by omega
  have hfc := fc_7 hn2
  have hfp := fc_pos n
  obtain ⟨h19, h20, h21, h22, hbb, hbl, hb3⟩ := hR
  have hF : FR b b w w := FR.rf
  refine J_aload_n (pc := 0) dX8_goes_0 rfl rfl rfl ?_
  refine J_iload_n (pc := 1) dX8_goes_1 rfl rfl ?_
  refine J_callS0 (pc := 2) (M := mX8_goes) (as := [.int a]) dX8_goes_2 fw_X8_isCell fl_X8_108 fs_X8_isCell rfl (c_X8_isCell hs (d := d - 1) (Nat.le_trans (by decide) hdm) (w := w) a (kc := 0) (ks := 0)) hdp (st := [.ref 19]) (Nat.le_of_ble_eq_true rfl) rfl (kr_P fun v1 hv1 => ?_) kx_I
  rcases hv1 with ⟨rfl, hk1_0⟩ | ⟨q1, rfl, hk1_0, rfl⟩
  · refine J_if_eqN (pc := 5) (tgt := 16) dX8_goes_5 (by decide) (by decide) (fun _ => ?_) (fun h => absurd h (by decide))
    refine J_iconst (pc := 16) (v := nI 1) dX8_goes_16 (by decide) ?_
    refine J_goto (pc := 17) (tgt := 21) dX8_goes_17 (by decide) ?_
    refine J_callV0 (pc := 21) (M := mX8_goes) (as := [.int (nI 1)]) dX8_goes_21 fw_X8_isThrown_ fl_X8_105 fm_X8_isThrown_ fe_X8_isThrown_ h19 (by decide) rfl rfl rfl (c_X8_isThrown_ hs (d := d - 1) (Nat.le_trans (by decide) hdm) (w := w) (n := n) (mv := mv) (rw := rw) (nx := nx) (b := b) (bt := bt) (kn := kn) (en := en) (dn := dn) (rf := rf) (kk := kk) (th := th) ⟨h19, h20, h21, h22, hbb, hbl, hb3⟩ hn1 hn2 gm gr gx 1 (by first | assumption | omega) (kc := 0) (ks := 0)) hdp (st := []) (Nat.le_of_ble_eq_true rfl) rfl (kr_I fun v2 w2 hv2 hw2 => ?_) kx_I
    obtain ⟨hR2, hFc2⟩ := hw2
    obtain ⟨h19_2, h20_2, h21_2, h22_2, hbb_2, hbl_2, hb3_2⟩ := hR2
    have hF2 := hF.tr hFc2
    subst hv2
    show J X mX8_goes d kc ks 24 [some (.ref 19), some (.int a), some (.int c)] [.int (nI 1)] w2 _
    refine J_if_eqN (pc := 24) (tgt := 31) dX8_goes_24 (by decide) (by decide) (fun h => absurd h (by decide)) (fun _ => ?_)
    refine J_iconst (pc := 27) (v := nI 0) dX8_goes_27 (by decide) ?_
    refine J_goto (pc := 28) (tgt := 37) dX8_goes_28 (by decide) ?_
    exact J_iret (pc := 37) dX8_goes_37 rfl (⟨nI (tW 1 0), ⟨h19_2, h20_2, h21_2, h22_2, hbb_2, hbl_2, hb3_2⟩, hF2, (by first | exact Or.inl ⟨rfl, fun g => (by first | exact ne_isN (by assumption) g | exact ne_isN (by assumption) g.1 | exact ne_isN (by assumption) g.2)⟩ | exact Or.inr ⟨rfl, ⟨_, _, rfl, rfl, (by omega), (by omega), (by rfl)⟩⟩)⟩)
  · refine J_if_eqN (pc := 5) (tgt := 16) dX8_goes_5 (by decide) (by decide) (fun h => absurd h (by decide)) (fun _ => ?_)
    refine J_aload_n (pc := 8) dX8_goes_8 rfl rfl rfl ?_
    refine J_iload_n (pc := 9) dX8_goes_9 rfl rfl ?_
    refine J_callV0 (pc := 10) (M := mX8_goes) (as := [.int c]) dX8_goes_10 fw_X8_isPoint fl_X8_118 fm_X8_isPoint fe_X8_isPoint h19 (by decide) rfl rfl rfl (c_X8_isPoint hs (d := d - 1) (Nat.le_trans (by decide) hdm) (w := w) (n := n) (mv := mv) (rw := rw) (nx := nx) (b := b) (bt := bt) (kn := kn) (en := en) (dn := dn) (rf := rf) (kk := kk) (th := th) ⟨h19, h20, h21, h22, hbb, hbl, hb3⟩ hn1 hn2 gm gr gx c (kc := 0) (ks := 0)) hdp (st := [.ref 19]) (Nat.le_of_ble_eq_true rfl) rfl (kr_P fun v3 hv3 => ?_) kx_I
    rcases hv3 with ⟨rfl, hk3_0⟩ | ⟨q3, rfl, hk3_0, rfl⟩
    · refine J_if_neN (pc := 13) (tgt := 20) dX8_goes_13 (by decide) (by decide) (fun h => absurd h (by decide)) (fun _ => ?_)
      refine J_iconst (pc := 16) (v := nI 1) dX8_goes_16 (by decide) ?_
      refine J_goto (pc := 17) (tgt := 21) dX8_goes_17 (by decide) ?_
      refine J_callV0 (pc := 21) (M := mX8_goes) (as := [.int (nI 1)]) dX8_goes_21 fw_X8_isThrown_ fl_X8_105 fm_X8_isThrown_ fe_X8_isThrown_ h19 (by decide) rfl rfl rfl (c_X8_isThrown_ hs (d := d - 1) (Nat.le_trans (by decide) hdm) (w := w) (n := n) (mv := mv) (rw := rw) (nx := nx) (b := b) (bt := bt) (kn := kn) (en := en) (dn := dn) (rf := rf) (kk := kk) (th := th) ⟨h19, h20, h21, h22, hbb, hbl, hb3⟩ hn1 hn2 gm gr gx 1 (by first | assumption | omega) (kc := 0) (ks := 0)) hdp (st := []) (Nat.le_of_ble_eq_true rfl) rfl (kr_I fun v4 w4 hv4 hw4 => ?_) kx_I
      obtain ⟨hR4, hFc4⟩ := hw4
      obtain ⟨h19_4, h20_4, h21_4, h22_4, hbb_4, hbl_4, hb3_4⟩ := hR4
      have hF4 := hF.tr hFc4
      subst hv4
      show J X mX8_goes d kc ks 24 [some (.ref 19), some (.int (nI q1)), some (.int c)] [.int (nI 1)] w4 _
      refine J_if_eqN (pc := 24) (tgt := 31) dX8_goes_24 (by decide) (by decide) (fun h => absurd h (by decide)) (fun _ => ?_)
      refine J_iconst (pc := 27) (v := nI 0) dX8_goes_27 (by decide) ?_
      refine J_goto (pc := 28) (tgt := 37) dX8_goes_28 (by decide) ?_
      exact J_iret (pc := 37) dX8_goes_37 rfl (⟨nI (tW 1 0), ⟨h19_4, h20_4, h21_4, h22_4, hbb_4, hbl_4, hb3_4⟩, hF4, (by first | exact Or.inl ⟨rfl, fun g => (by first | exact ne_isN (by assumption) g | exact ne_isN (by assumption) g.1 | exact ne_isN (by assumption) g.2)⟩ | exact Or.inr ⟨rfl, ⟨_, _, rfl, rfl, (by omega), (by omega), (by rfl)⟩⟩)⟩)
    · refine J_if_neN (pc := 13) (tgt := 20) dX8_goes_13 (by decide) (by decide) (fun _ => ?_) (fun h => absurd h (by decide))
      refine J_iconst (pc := 20) (v := nI 0) dX8_goes_20 (by decide) ?_
      refine J_callV0 (pc := 21) (M := mX8_goes) (as := [.int (nI 0)]) dX8_goes_21 fw_X8_isThrown_ fl_X8_105 fm_X8_isThrown_ fe_X8_isThrown_ h19 (by decide) rfl rfl rfl (c_X8_isThrown_ hs (d := d - 1) (Nat.le_trans (by decide) hdm) (w := w) (n := n) (mv := mv) (rw := rw) (nx := nx) (b := b) (bt := bt) (kn := kn) (en := en) (dn := dn) (rf := rf) (kk := kk) (th := th) ⟨h19, h20, h21, h22, hbb, hbl, hb3⟩ hn1 hn2 gm gr gx 0 (by first | assumption | omega) (kc := 0) (ks := 0)) hdp (st := []) (Nat.le_of_ble_eq_true rfl) rfl (kr_I fun v5 w5 hv5 hw5 => ?_) kx_I
      obtain ⟨hR5, hFc5⟩ := hw5
      obtain ⟨h19_5, h20_5, h21_5, h22_5, hbb_5, hbl_5, hb3_5⟩ := hR5
      have hF5 := hF.tr hFc5
      subst hv5
      show J X mX8_goes d kc ks 24 [some (.ref 19), some (.int (nI q1)), some (.int (nI q3))] [.int (nI 0)] w5 _
      refine J_if_eqN (pc := 24) (tgt := 31) dX8_goes_24 (by decide) (by decide) (fun _ => ?_) (fun h => absurd h (by decide))
      refine J_aload_n (pc := 31) dX8_goes_31 rfl rfl rfl ?_
      refine J_iload_n (pc := 32) dX8_goes_32 rfl rfl ?_
      refine J_iload_n (pc := 33) dX8_goes_33 rfl rfl ?_
      refine J_callV0 (pc := 34) (M := mX8_goes) (as := [.int (nI q1), .int (nI q3)]) dX8_goes_34 fw_X8_at fl_X8_82 fm_X8_at fe_X8_at h19_5 (by decide) rfl rfl rfl (c_X8_at hs (d := d - 1) (Nat.le_trans (by decide) hdm) (w := w5) (n := n) (mv := mv) (rw := rw) (nx := nx) (b := b) (bt := bt) (kn := kn) (en := en) (dn := dn) (rf := rf) (kk := kk) (th := nI (tW 0 0)) ⟨h19_5, h20_5, h21_5, h22_5, hbb_5, hbl_5, hb3_5⟩ hn1 hn2 gm gr gx q1 q3 (by first | assumption | omega) (by first | assumption | omega) (kc := 0) (ks := 0)) hdp (st := []) (Nat.le_of_ble_eq_true rfl) rfl (kr_P fun v6 hv6 => ?_) kx_I
      subst hv6
      have hq7 := gm (q1 * 7 + q3)
      exact J_iret (pc := 37) dX8_goes_37 rfl (⟨nI (tW 0 0), ⟨h19_5, h20_5, h21_5, h22_5, hbb_5, hbl_5, hb3_5⟩, hF5, (by first | exact Or.inl ⟨rfl, fun g => (by first | exact ne_isN (by assumption) g | exact ne_isN (by assumption) g.1 | exact ne_isN (by assumption) g.2)⟩ | exact Or.inr ⟨rfl, ⟨_, _, rfl, rfl, (by omega), (by omega), (by rfl)⟩⟩)⟩)
set_option maxRecDepth 100000 in
set_option maxHeartbeats 4000000 in
theorem c_X8_order_ate {X : jX} (hs : X.1.stackTraces = false) {d : Nat} (hd : 10 ≤ d) {n : Nat} {mv rw nx : Nat → Nat} {b : Nat} {bt : List Int32} {kn en dn rf kk th : Int32} {w : List jC} (hR : RM n mv rw nx b bt kn en dn rf kk th w) (hn1 : 2 ≤ n) (hn2 : n ≤ 7) (gm : ∀ i, mv i < 7) (gr : ∀ i, rw i < 7) (gx : ∀ i, nx i < 7) (a : Int32) (hy0 : PM n mv) {kc ks : Nat} : jMet X mX8_order d kc ks [.ref 19, .int a] w (pJ (fun v w' => ∃ (th' : Int32), RM n mv rw nx b bt kn en dn rf kk th' w' ∧ FR b b w w' ∧ ((th' = nI 1 ∧ ¬ (isN a 6)) ∨ (th' = nI 0 ∧ ∃ a1 : Nat, a = nI a1 ∧ a1 < 6 ∧ v = nI (olc (lF (fun p => mv (a1 * 7 + p)) n) n))))) := by
  refine jMet_of hs (by decide +kernel) (Nat.le_of_ble_eq_true rfl) (L := [some (.ref 19), some (.int a)]) rfl ?_
  have hdm : 9 ≤ d - 1 := by omega
  have hdp : d - 1 + 1 ≤ d := by omega
  have hfc := fc_7 hn2
  have hfp := fc_pos n
  obtain ⟨h19, h20, h21, h22, hbb, hbl, hb3⟩ := hR
  have hF : FR b b w w := FR.rf
  refine J_aload_n (pc := 0) dX8_order_0 rfl rfl rfl ?_
  refine J_iload_n (pc := 1) dX8_order_1 rfl rfl ?_
  refine J_callS0 (pc := 2) (M := mX8_order) (as := [.int a]) dX8_order_2 fw_X8_isCell fl_X8_108 fs_X8_isCell rfl (c_X8_isCell hs (d := d - 1) (Nat.le_trans (by decide) hdm) (w := w) a (kc := 0) (ks := 0)) hdp (st := [.ref 19]) (Nat.le_of_ble_eq_true rfl) rfl (kr_P fun v1 hv1 => ?_) kx_I
  rcases hv1 with ⟨rfl, hk1_0⟩ | ⟨q1, rfl, hk1_0, rfl⟩
  · refine J_if_neN (pc := 5) (tgt := 12) dX8_order_5 (by decide) (by decide) (fun h => absurd h (by decide)) (fun _ => ?_)
    refine J_iconst (pc := 8) (v := nI 1) dX8_order_8 (by decide) ?_
    refine J_goto (pc := 9) (tgt := 13) dX8_order_9 (by decide) ?_
    refine J_callV0 (pc := 13) (M := mX8_order) (as := [.int (nI 1)]) dX8_order_13 fw_X8_isThrown_ fl_X8_105 fm_X8_isThrown_ fe_X8_isThrown_ h19 (by decide) rfl rfl rfl (c_X8_isThrown_ hs (d := d - 1) (Nat.le_trans (by decide) hdm) (w := w) (n := n) (mv := mv) (rw := rw) (nx := nx) (b := b) (bt := bt) (kn := kn) (en := en) (dn := dn) (rf := rf) (kk := kk) (th := th) ⟨h19, h20, h21, h22, hbb, hbl, hb3⟩ hn1 hn2 gm gr gx 1 (by first | assumption | omega) (kc := 0) (ks := 0)) hdp (st := []) (Nat.le_of_ble_eq_true rfl) rfl (kr_I fun v2 w2 hv2 hw2 => ?_) kx_I
    obtain ⟨hR2, hFc2⟩ := hw2
    obtain ⟨h19_2, h20_2, h21_2, h22_2, hbb_2, hbl_2, hb3_2⟩ := hR2
    have hF2 := hF.tr hFc2
    subst hv2
    show J X mX8_order d kc ks 16 [some (.ref 19), some (.int a)] [.int (nI 1)] w2 _
    refine J_if_eqN (pc := 16) (tgt := 23) dX8_order_16 (by decide) (by decide) (fun h => absurd h (by decide)) (fun _ => ?_)
    refine J_iconst (pc := 19) (v := nI 0) dX8_order_19 (by decide) ?_
    refine J_goto (pc := 20) (tgt := 35) dX8_order_20 (by decide) ?_
    exact J_iret (pc := 35) dX8_order_35 rfl (⟨nI (tW 1 0), ⟨h19_2, h20_2, h21_2, h22_2, hbb_2, hbl_2, hb3_2⟩, hF2, (by first | exact Or.inl ⟨rfl, fun g => (by first | exact ne_isN (by assumption) g | exact ne_isN (by assumption) g.1 | exact ne_isN (by assumption) g.2)⟩ | exact Or.inr ⟨rfl, ⟨_, rfl, (by omega), (by exact congrArg nI hoc)⟩⟩)⟩)
  · refine J_if_neN (pc := 5) (tgt := 12) dX8_order_5 (by decide) (by decide) (fun _ => ?_) (fun h => absurd h (by decide))
    refine J_iconst (pc := 12) (v := nI 0) dX8_order_12 (by decide) ?_
    refine J_callV0 (pc := 13) (M := mX8_order) (as := [.int (nI 0)]) dX8_order_13 fw_X8_isThrown_ fl_X8_105 fm_X8_isThrown_ fe_X8_isThrown_ h19 (by decide) rfl rfl rfl (c_X8_isThrown_ hs (d := d - 1) (Nat.le_trans (by decide) hdm) (w := w) (n := n) (mv := mv) (rw := rw) (nx := nx) (b := b) (bt := bt) (kn := kn) (en := en) (dn := dn) (rf := rf) (kk := kk) (th := th) ⟨h19, h20, h21, h22, hbb, hbl, hb3⟩ hn1 hn2 gm gr gx 0 (by first | assumption | omega) (kc := 0) (ks := 0)) hdp (st := []) (Nat.le_of_ble_eq_true rfl) rfl (kr_I fun v3 w3 hv3 hw3 => ?_) kx_I
    obtain ⟨hR3, hFc3⟩ := hw3
    obtain ⟨h19_3, h20_3, h21_3, h22_3, hbb_3, hbl_3, hb3_3⟩ := hR3
    have hF3 := hF.tr hFc3
    subst hv3
    show J X mX8_order d kc ks 16 [some (.ref 19), some (.int (nI q1))] [.int (nI 0)] w3 _
    refine J_if_eqN (pc := 16) (tgt := 23) dX8_order_16 (by decide) (by decide) (fun _ => ?_) (fun h => absurd h (by decide))
    refine J_aload_n (pc := 23) dX8_order_23 rfl rfl rfl ?_
    refine J_aload_n (pc := 24) dX8_order_24 rfl rfl rfl ?_
    refine J_get (pc := 25) (k := 1) dX8_order_25 kC9 (by decide) ff_X8_13 h19_3 rfl ?_
    refine J_iload_n (pc := 28) dX8_order_28 rfl rfl ?_
    refine J_bipush (pc := 29) (v := nI 7) dX8_order_29 (by decide) ?_
    refine J_imulN (pc := 31) dX8_order_31 ?_
    refine J_callV0 (pc := 32) (M := mX8_order) (as := [.ref 20, .int (nI (q1 * 7))]) dX8_order_32 fw_X8_orderOf fl_X8_172 fm_X8_orderOf fe_X8_orderOf h19_3 (by decide) rfl rfl rfl (c_X8_orderOf_at20x hs (d := d - 1) (Nat.le_trans (by decide) hdm) (w := w3) (n := n) (mv := mv) (rw := rw) (nx := nx) (b := b) (bt := bt) (kn := kn) (en := en) (dn := dn) (rf := rf) (kk := kk) (th := nI (tW 0 0)) ⟨h19_3, h20_3, h21_3, h22_3, hbb_3, hbl_3, hb3_3⟩ hn1 hn2 gm gr gx (q1 * 7) (by first | assumption | omega) (by exact hy0 _ (by assumption)) (kc := 0) (ks := 0)) hdp (st := []) (Nat.le_of_ble_eq_true rfl) rfl (kr_P fun v4 hv4 => ?_) kx_I
    obtain ⟨k4, rfl, hk4⟩ := hv4
    have hoc := hk4.1
    exact J_iret (pc := 35) dX8_order_35 rfl (⟨nI (tW 0 0), ⟨h19_3, h20_3, h21_3, h22_3, hbb_3, hbl_3, hb3_3⟩, hF3, (by first | exact Or.inl ⟨rfl, fun g => (by first | exact ne_isN (by assumption) g | exact ne_isN (by assumption) g.1 | exact ne_isN (by assumption) g.2)⟩ | exact Or.inr ⟨rfl, ⟨_, rfl, (by omega), (by exact congrArg nI hoc)⟩⟩)⟩)
set_option maxRecDepth 100000 in
set_option maxHeartbeats 4000000 in
theorem c_X8_sign_ate {X : jX} (hs : X.1.stackTraces = false) {d : Nat} (hd : 2 ≤ d) {n : Nat} {mv rw nx : Nat → Nat} {b : Nat} {bt : List Int32} {kn en dn rf kk th : Int32} {w : List jC} (hR : RM n mv rw nx b bt kn en dn rf kk th w) (hn1 : 2 ≤ n) (hn2 : n ≤ 7) (gm : ∀ i, mv i < 7) (gr : ∀ i, rw i < 7) (gx : ∀ i, nx i < 7) (a : Int32) {kc ks : Nat} : jMet X mX8_sign d kc ks [.ref 19, .int a] w (pJ (fun v w' => ∃ (th' : Int32), RM n mv rw nx b bt kn en dn rf kk th' w' ∧ FR b b w w' ∧ ((th' = nI 1 ∧ ¬ (isN a 6)) ∨ (th' = nI 0 ∧ ∃ a1 : Nat, a = nI a1 ∧ a1 < 6 ∧ v = sgv (iv mv (a1 * 7) n))))) := by
  refine jMet_of hs (by decide +kernel) (Nat.le_of_ble_eq_true rfl) (L := [some (.ref 19), some (.int a)]) rfl ?_
  have hdm : 1 ≤ d - 1 := by omega
  have hdp : d - 1 + 1 ≤ d := by omega
  have hfc := fc_7 hn2
  have hfp := fc_pos n
  obtain ⟨h19, h20, h21, h22, hbb, hbl, hb3⟩ := hR
  have hF : FR b b w w := FR.rf
  refine J_aload_n (pc := 0) dX8_sign_0 rfl rfl rfl ?_
  refine J_iload_n (pc := 1) dX8_sign_1 rfl rfl ?_
  refine J_callS0 (pc := 2) (M := mX8_sign) (as := [.int a]) dX8_sign_2 fw_X8_isCell fl_X8_108 fs_X8_isCell rfl (c_X8_isCell hs (d := d - 1) (Nat.le_trans (by decide) hdm) (w := w) a (kc := 0) (ks := 0)) hdp (st := [.ref 19]) (Nat.le_of_ble_eq_true rfl) rfl (kr_P fun v1 hv1 => ?_) kx_I
  rcases hv1 with ⟨rfl, hk1_0⟩ | ⟨q1, rfl, hk1_0, rfl⟩
  · refine J_if_neN (pc := 5) (tgt := 12) dX8_sign_5 (by decide) (by decide) (fun h => absurd h (by decide)) (fun _ => ?_)
    refine J_iconst (pc := 8) (v := nI 1) dX8_sign_8 (by decide) ?_
    refine J_goto (pc := 9) (tgt := 13) dX8_sign_9 (by decide) ?_
    refine J_callV0 (pc := 13) (M := mX8_sign) (as := [.int (nI 1)]) dX8_sign_13 fw_X8_isThrown_ fl_X8_105 fm_X8_isThrown_ fe_X8_isThrown_ h19 (by decide) rfl rfl rfl (c_X8_isThrown_ hs (d := d - 1) (Nat.le_trans (by decide) hdm) (w := w) (n := n) (mv := mv) (rw := rw) (nx := nx) (b := b) (bt := bt) (kn := kn) (en := en) (dn := dn) (rf := rf) (kk := kk) (th := th) ⟨h19, h20, h21, h22, hbb, hbl, hb3⟩ hn1 hn2 gm gr gx 1 (by first | assumption | omega) (kc := 0) (ks := 0)) hdp (st := []) (Nat.le_of_ble_eq_true rfl) rfl (kr_I fun v2 w2 hv2 hw2 => ?_) kx_I
    obtain ⟨hR2, hFc2⟩ := hw2
    obtain ⟨h19_2, h20_2, h21_2, h22_2, hbb_2, hbl_2, hb3_2⟩ := hR2
    have hF2 := hF.tr hFc2
    subst hv2
    show J X mX8_sign d kc ks 16 [some (.ref 19), some (.int a)] [.int (nI 1)] w2 _
    refine J_if_eqN (pc := 16) (tgt := 23) dX8_sign_16 (by decide) (by decide) (fun h => absurd h (by decide)) (fun _ => ?_)
    refine J_iconst (pc := 19) (v := nI 0) dX8_sign_19 (by decide) ?_
    refine J_goto (pc := 20) (tgt := 35) dX8_sign_20 (by decide) ?_
    exact J_iret (pc := 35) dX8_sign_35 rfl (⟨nI (tW 1 0), ⟨h19_2, h20_2, h21_2, h22_2, hbb_2, hbl_2, hb3_2⟩, hF2, (by first | exact Or.inl ⟨rfl, fun g => (by first | exact ne_isN (by assumption) g | exact ne_isN (by assumption) g.1 | exact ne_isN (by assumption) g.2)⟩ | exact Or.inr ⟨rfl, ⟨_, rfl, (by omega), (by exact hsv)⟩⟩)⟩)
  · refine J_if_neN (pc := 5) (tgt := 12) dX8_sign_5 (by decide) (by decide) (fun _ => ?_) (fun h => absurd h (by decide))
    refine J_iconst (pc := 12) (v := nI 0) dX8_sign_12 (by decide) ?_
    refine J_callV0 (pc := 13) (M := mX8_sign) (as := [.int (nI 0)]) dX8_sign_13 fw_X8_isThrown_ fl_X8_105 fm_X8_isThrown_ fe_X8_isThrown_ h19 (by decide) rfl rfl rfl (c_X8_isThrown_ hs (d := d - 1) (Nat.le_trans (by decide) hdm) (w := w) (n := n) (mv := mv) (rw := rw) (nx := nx) (b := b) (bt := bt) (kn := kn) (en := en) (dn := dn) (rf := rf) (kk := kk) (th := th) ⟨h19, h20, h21, h22, hbb, hbl, hb3⟩ hn1 hn2 gm gr gx 0 (by first | assumption | omega) (kc := 0) (ks := 0)) hdp (st := []) (Nat.le_of_ble_eq_true rfl) rfl (kr_I fun v3 w3 hv3 hw3 => ?_) kx_I
    obtain ⟨hR3, hFc3⟩ := hw3
    obtain ⟨h19_3, h20_3, h21_3, h22_3, hbb_3, hbl_3, hb3_3⟩ := hR3
    have hF3 := hF.tr hFc3
    subst hv3
    show J X mX8_sign d kc ks 16 [some (.ref 19), some (.int (nI q1))] [.int (nI 0)] w3 _
    refine J_if_eqN (pc := 16) (tgt := 23) dX8_sign_16 (by decide) (by decide) (fun _ => ?_) (fun h => absurd h (by decide))
    refine J_aload_n (pc := 23) dX8_sign_23 rfl rfl rfl ?_
    refine J_aload_n (pc := 24) dX8_sign_24 rfl rfl rfl ?_
    refine J_get (pc := 25) (k := 1) dX8_sign_25 kC9 (by decide) ff_X8_13 h19_3 rfl ?_
    refine J_iload_n (pc := 28) dX8_sign_28 rfl rfl ?_
    refine J_bipush (pc := 29) (v := nI 7) dX8_sign_29 (by decide) ?_
    refine J_imulN (pc := 31) dX8_sign_31 ?_
    refine J_callV0 (pc := 32) (M := mX8_sign) (as := [.ref 20, .int (nI (q1 * 7))]) dX8_sign_32 fw_X8_signOf fl_X8_115 fm_X8_signOf fe_X8_signOf h19_3 (by decide) rfl rfl rfl (c_X8_signOf_at20x hs (d := d - 1) (Nat.le_trans (by decide) hdm) (w := w3) (n := n) (mv := mv) (rw := rw) (nx := nx) (b := b) (bt := bt) (kn := kn) (en := en) (dn := dn) (rf := rf) (kk := kk) (th := nI (tW 0 0)) ⟨h19_3, h20_3, h21_3, h22_3, hbb_3, hbl_3, hb3_3⟩ hn1 hn2 gm gr gx (q1 * 7) (by first | assumption | omega) (kc := 0) (ks := 0)) hdp (st := []) (Nat.le_of_ble_eq_true rfl) rfl (kr_P fun v4 hv4 => ?_) kx_I
    have hsv := hv4
    exact J_iret (pc := 35) dX8_sign_35 rfl (⟨nI (tW 0 0), ⟨h19_3, h20_3, h21_3, h22_3, hbb_3, hbl_3, hb3_3⟩, hF3, (by first | exact Or.inl ⟨rfl, fun g => (by first | exact ne_isN (by assumption) g | exact ne_isN (by assumption) g.1 | exact ne_isN (by assumption) g.2)⟩ | exact Or.inr ⟨rfl, ⟨_, rfl, (by omega), (by exact hsv)⟩⟩)⟩)
set_option maxRecDepth 100000 in
set_option maxHeartbeats 4000000 in
theorem c_X8_stays_ate {X : jX} (hs : X.1.stackTraces = false) {d : Nat} (hd : 2 ≤ d) {n : Nat} {mv rw nx : Nat → Nat} {b : Nat} {bt : List Int32} {kn en dn rf kk th : Int32} {w : List jC} (hR : RM n mv rw nx b bt kn en dn rf kk th w) (hn1 : 2 ≤ n) (hn2 : n ≤ 7) (gm : ∀ i, mv i < 7) (gr : ∀ i, rw i < 7) (gx : ∀ i, nx i < 7) (a : Int32) {kc ks : Nat} : jMet X mX8_stays d kc ks [.ref 19, .int a] w (pJ (fun v w' => ∃ (th' : Int32), RM n mv rw nx b bt kn en dn rf kk th' w' ∧ FR b b w w' ∧ ((th' = nI 1 ∧ ¬ (isN a 6)) ∨ (th' = nI 0 ∧ ∃ a1 : Nat, a = nI a1 ∧ a1 < 6 ∧ v = nI (stF (fun p => mv (a1 * 7 + p)) n))))) := by
  refine jMet_of hs (by decide +kernel) (Nat.le_of_ble_eq_true rfl) (L := [some (.ref 19), some (.int a)]) rfl ?_
  have hdm : 1 ≤ d - 1 := by omega
  have hdp : d - 1 + 1 ≤ d := by omega
  have hfc := fc_7 hn2
  have hfp := fc_pos n
  obtain ⟨h19, h20, h21, h22, hbb, hbl, hb3⟩ := hR
  have hF : FR b b w w := FR.rf
  refine J_aload_n (pc := 0) dX8_stays_0 rfl rfl rfl ?_
  refine J_iload_n (pc := 1) dX8_stays_1 rfl rfl ?_
  refine J_callS0 (pc := 2) (M := mX8_stays) (as := [.int a]) dX8_stays_2 fw_X8_isCell fl_X8_108 fs_X8_isCell rfl (c_X8_isCell hs (d := d - 1) (Nat.le_trans (by decide) hdm) (w := w) a (kc := 0) (ks := 0)) hdp (st := [.ref 19]) (Nat.le_of_ble_eq_true rfl) rfl (kr_P fun v1 hv1 => ?_) kx_I
  rcases hv1 with ⟨rfl, hk1_0⟩ | ⟨q1, rfl, hk1_0, rfl⟩
  · refine J_if_neN (pc := 5) (tgt := 12) dX8_stays_5 (by decide) (by decide) (fun h => absurd h (by decide)) (fun _ => ?_)
    refine J_iconst (pc := 8) (v := nI 1) dX8_stays_8 (by decide) ?_
    refine J_goto (pc := 9) (tgt := 13) dX8_stays_9 (by decide) ?_
    refine J_callV0 (pc := 13) (M := mX8_stays) (as := [.int (nI 1)]) dX8_stays_13 fw_X8_isThrown_ fl_X8_105 fm_X8_isThrown_ fe_X8_isThrown_ h19 (by decide) rfl rfl rfl (c_X8_isThrown_ hs (d := d - 1) (Nat.le_trans (by decide) hdm) (w := w) (n := n) (mv := mv) (rw := rw) (nx := nx) (b := b) (bt := bt) (kn := kn) (en := en) (dn := dn) (rf := rf) (kk := kk) (th := th) ⟨h19, h20, h21, h22, hbb, hbl, hb3⟩ hn1 hn2 gm gr gx 1 (by first | assumption | omega) (kc := 0) (ks := 0)) hdp (st := []) (Nat.le_of_ble_eq_true rfl) rfl (kr_I fun v2 w2 hv2 hw2 => ?_) kx_I
    obtain ⟨hR2, hFc2⟩ := hw2
    obtain ⟨h19_2, h20_2, h21_2, h22_2, hbb_2, hbl_2, hb3_2⟩ := hR2
    have hF2 := hF.tr hFc2
    subst hv2
    show J X mX8_stays d kc ks 16 [some (.ref 19), some (.int a)] [.int (nI 1)] w2 _
    refine J_if_eqN (pc := 16) (tgt := 23) dX8_stays_16 (by decide) (by decide) (fun h => absurd h (by decide)) (fun _ => ?_)
    refine J_iconst (pc := 19) (v := nI 0) dX8_stays_19 (by decide) ?_
    refine J_goto (pc := 20) (tgt := 28) dX8_stays_20 (by decide) ?_
    exact J_iret (pc := 28) dX8_stays_28 rfl (⟨nI (tW 1 0), ⟨h19_2, h20_2, h21_2, h22_2, hbb_2, hbl_2, hb3_2⟩, hF2, (by first | exact Or.inl ⟨rfl, fun g => (by first | exact ne_isN (by assumption) g | exact ne_isN (by assumption) g.1 | exact ne_isN (by assumption) g.2)⟩ | exact Or.inr ⟨rfl, ⟨_, rfl, (by omega), (by rfl)⟩⟩)⟩)
  · refine J_if_neN (pc := 5) (tgt := 12) dX8_stays_5 (by decide) (by decide) (fun _ => ?_) (fun h => absurd h (by decide))
    refine J_iconst (pc := 12) (v := nI 0) dX8_stays_12 (by decide) ?_
    refine J_callV0 (pc := 13) (M := mX8_stays) (as := [.int (nI 0)]) dX8_stays_13 fw_X8_isThrown_ fl_X8_105 fm_X8_isThrown_ fe_X8_isThrown_ h19 (by decide) rfl rfl rfl (c_X8_isThrown_ hs (d := d - 1) (Nat.le_trans (by decide) hdm) (w := w) (n := n) (mv := mv) (rw := rw) (nx := nx) (b := b) (bt := bt) (kn := kn) (en := en) (dn := dn) (rf := rf) (kk := kk) (th := th) ⟨h19, h20, h21, h22, hbb, hbl, hb3⟩ hn1 hn2 gm gr gx 0 (by first | assumption | omega) (kc := 0) (ks := 0)) hdp (st := []) (Nat.le_of_ble_eq_true rfl) rfl (kr_I fun v3 w3 hv3 hw3 => ?_) kx_I
    obtain ⟨hR3, hFc3⟩ := hw3
    obtain ⟨h19_3, h20_3, h21_3, h22_3, hbb_3, hbl_3, hb3_3⟩ := hR3
    have hF3 := hF.tr hFc3
    subst hv3
    show J X mX8_stays d kc ks 16 [some (.ref 19), some (.int (nI q1))] [.int (nI 0)] w3 _
    refine J_if_eqN (pc := 16) (tgt := 23) dX8_stays_16 (by decide) (by decide) (fun _ => ?_) (fun h => absurd h (by decide))
    refine J_aload_n (pc := 23) dX8_stays_23 rfl rfl rfl ?_
    refine J_iload_n (pc := 24) dX8_stays_24 rfl rfl ?_
    refine J_callV0 (pc := 25) (M := mX8_stays) (as := [.int (nI q1)]) dX8_stays_25 fw_X8_staysNow fl_X8_175 fm_X8_staysNow fe_X8_staysNow h19_3 (by decide) rfl rfl rfl (c_X8_staysNow_atx hs (d := d - 1) (Nat.le_trans (by decide) hdm) (w := w3) (n := n) (mv := mv) (rw := rw) (nx := nx) (b := b) (bt := bt) (kn := kn) (en := en) (dn := dn) (rf := rf) (kk := kk) (th := nI (tW 0 0)) ⟨h19_3, h20_3, h21_3, h22_3, hbb_3, hbl_3, hb3_3⟩ hn1 hn2 gm gr gx q1 (by first | assumption | omega) (kc := 0) (ks := 0)) hdp (st := []) (Nat.le_of_ble_eq_true rfl) rfl (kr_P fun v4 hv4 => ?_) kx_I
    subst hv4
    exact J_iret (pc := 28) dX8_stays_28 rfl (⟨nI (tW 0 0), ⟨h19_3, h20_3, h21_3, h22_3, hbb_3, hbl_3, hb3_3⟩, hF3, (by first | exact Or.inl ⟨rfl, fun g => (by first | exact ne_isN (by assumption) g | exact ne_isN (by assumption) g.1 | exact ne_isN (by assumption) g.2)⟩ | exact Or.inr ⟨rfl, ⟨_, rfl, (by omega), (by rfl)⟩⟩)⟩)
set_option maxRecDepth 100000 in
set_option maxHeartbeats 4000000 in
theorem c_X8_areAlike_ate {X : jX} (hs : X.1.stackTraces = false) {d : Nat} (hd : 2 ≤ d) {n : Nat} {mv rw nx : Nat → Nat} {b : Nat} {bt : List Int32} {kn en dn rf kk th : Int32} {w : List jC} (hR : RM n mv rw nx b bt kn en dn rf kk th w) (hn1 : 2 ≤ n) (hn2 : n ≤ 7) (gm : ∀ i, mv i < 7) (gr : ∀ i, rw i < 7) (gx : ∀ i, nx i < 7) (a : Int32) (c : Int32) (hy0 : PM n mv) {kc ks : Nat} : jMet X mX8_areAlike d kc ks [.ref 19, .int a, .int c] w (pJ (fun v w' => ∃ (th' : Int32), RM n mv rw nx b bt kn en dn rf kk th' w' ∧ FR b b w w' ∧ ((th' = nI 1 ∧ ¬ (isN a 6 ∧ isN c 6)) ∨ (th' = nI 0 ∧ ∃ a1 b1 : Nat, a = nI a1 ∧ c = nI b1 ∧ a1 < 6 ∧ b1 < 6 ∧ ((v = nI 1 ∧ ∀ L, 1 ≤ L → L ≤ n → lo (fun p => mv (a1 * 7 + p)) n L n / L = lo (fun p => mv (b1 * 7 + p)) n L n / L) ∨ (v = nI 0 ∧ ¬ ∀ L, 1 ≤ L → L ≤ n → lo (fun p => mv (a1 * 7 + p)) n L n / L = lo (fun p => mv (b1 * 7 + p)) n L n / L)))))) := by
  refine jMet_of hs (by decide +kernel) (Nat.le_of_ble_eq_true rfl) (L := [some (.ref 19), some (.int a), some (.int c), none, none]) rfl ?_
  have hdm : 1 ≤ d - 1 := by omega
  have hdp : d - 1 + 1 ≤ d := by omega
  have hfc := fc_7 hn2
  have hfp := fc_pos n
  obtain ⟨h19, h20, h21, h22, hbb, hbl, hb3⟩ := hR
  have hF : FR b b w w := FR.rf
  refine J_aload_n (pc := 0) dX8_areAlike_0 rfl rfl rfl ?_
  refine J_iload_n (pc := 1) dX8_areAlike_1 rfl rfl ?_
  refine J_callS0 (pc := 2) (M := mX8_areAlike) (as := [.int a]) dX8_areAlike_2 fw_X8_isCell fl_X8_108 fs_X8_isCell rfl (c_X8_isCell hs (d := d - 1) (Nat.le_trans (by decide) hdm) (w := w) a (kc := 0) (ks := 0)) hdp (st := [.ref 19]) (Nat.le_of_ble_eq_true rfl) rfl (kr_P fun v1 hv1 => ?_) kx_I
  rcases hv1 with ⟨rfl, hk1_0⟩ | ⟨q1, rfl, hk1_0, rfl⟩
  · refine J_if_eqN (pc := 5) (tgt := 15) dX8_areAlike_5 (by decide) (by decide) (fun _ => ?_) (fun h => absurd h (by decide))
    refine J_iconst (pc := 15) (v := nI 1) dX8_areAlike_15 (by decide) ?_
    refine J_goto (pc := 16) (tgt := 20) dX8_areAlike_16 (by decide) ?_
    refine J_callV0 (pc := 20) (M := mX8_areAlike) (as := [.int (nI 1)]) dX8_areAlike_20 fw_X8_isThrown_ fl_X8_105 fm_X8_isThrown_ fe_X8_isThrown_ h19 (by decide) rfl rfl rfl (c_X8_isThrown_ hs (d := d - 1) (Nat.le_trans (by decide) hdm) (w := w) (n := n) (mv := mv) (rw := rw) (nx := nx) (b := b) (bt := bt) (kn := kn) (en := en) (dn := dn) (rf := rf) (kk := kk) (th := th) ⟨h19, h20, h21, h22, hbb, hbl, hb3⟩ hn1 hn2 gm gr gx 1 (by first | assumption | omega) (kc := 0) (ks := 0)) hdp (st := []) (Nat.le_of_ble_eq_true rfl) rfl (kr_I fun v2 w2 hv2 hw2 => ?_) kx_I
    obtain ⟨hR2, hFc2⟩ := hw2
    obtain ⟨h19_2, h20_2, h21_2, h22_2, hbb_2, hbl_2, hb3_2⟩ := hR2
    have hF2 := hF.tr hFc2
    subst hv2
    show J X mX8_areAlike d kc ks 23 [some (.ref 19), some (.int a), some (.int c), none, none] [.int (nI 1)] w2 _
    refine J_if_eqN (pc := 23) (tgt := 28) dX8_areAlike_23 (by decide) (by decide) (fun h => absurd h (by decide)) (fun _ => ?_)
    refine J_iconst (pc := 26) (v := nI 0) dX8_areAlike_26 (by decide) ?_
    exact J_zret (pc := 27) dX8_areAlike_27 rfl (nar_b (by first | decide | omega)) (⟨nI (tW 1 0), ⟨h19_2, h20_2, h21_2, h22_2, hbb_2, hbl_2, hb3_2⟩, hF2, (by first | exact Or.inl ⟨rfl, fun g => (by first | exact ne_isN (by assumption) g | exact ne_isN (by assumption) g.1 | exact ne_isN (by assumption) g.2)⟩ | exact Or.inr ⟨rfl, ⟨_, _, rfl, rfl, (by omega), (by omega), (by first | exact al_end hv33_2 (by omega))⟩⟩)⟩)
  · refine J_if_eqN (pc := 5) (tgt := 15) dX8_areAlike_5 (by decide) (by decide) (fun h => absurd h (by decide)) (fun _ => ?_)
    refine J_iload_n (pc := 8) dX8_areAlike_8 rfl rfl ?_
    refine J_callS0 (pc := 9) (M := mX8_areAlike) (as := [.int c]) dX8_areAlike_9 fw_X8_isCell fl_X8_108 fs_X8_isCell rfl (c_X8_isCell hs (d := d - 1) (Nat.le_trans (by decide) hdm) (w := w) c (kc := 0) (ks := 0)) hdp (st := [.ref 19]) (Nat.le_of_ble_eq_true rfl) rfl (kr_P fun v3 hv3 => ?_) kx_I
    rcases hv3 with ⟨rfl, hk3_0⟩ | ⟨q3, rfl, hk3_0, rfl⟩
    · refine J_if_neN (pc := 12) (tgt := 19) dX8_areAlike_12 (by decide) (by decide) (fun h => absurd h (by decide)) (fun _ => ?_)
      refine J_iconst (pc := 15) (v := nI 1) dX8_areAlike_15 (by decide) ?_
      refine J_goto (pc := 16) (tgt := 20) dX8_areAlike_16 (by decide) ?_
      refine J_callV0 (pc := 20) (M := mX8_areAlike) (as := [.int (nI 1)]) dX8_areAlike_20 fw_X8_isThrown_ fl_X8_105 fm_X8_isThrown_ fe_X8_isThrown_ h19 (by decide) rfl rfl rfl (c_X8_isThrown_ hs (d := d - 1) (Nat.le_trans (by decide) hdm) (w := w) (n := n) (mv := mv) (rw := rw) (nx := nx) (b := b) (bt := bt) (kn := kn) (en := en) (dn := dn) (rf := rf) (kk := kk) (th := th) ⟨h19, h20, h21, h22, hbb, hbl, hb3⟩ hn1 hn2 gm gr gx 1 (by first | assumption | omega) (kc := 0) (ks := 0)) hdp (st := []) (Nat.le_of_ble_eq_true rfl) rfl (kr_I fun v4 w4 hv4 hw4 => ?_) kx_I
      obtain ⟨hR4, hFc4⟩ := hw4
      obtain ⟨h19_4, h20_4, h21_4, h22_4, hbb_4, hbl_4, hb3_4⟩ := hR4
      have hF4 := hF.tr hFc4
      subst hv4
      show J X mX8_areAlike d kc ks 23 [some (.ref 19), some (.int (nI q1)), some (.int c), none, none] [.int (nI 1)] w4 _
      refine J_if_eqN (pc := 23) (tgt := 28) dX8_areAlike_23 (by decide) (by decide) (fun h => absurd h (by decide)) (fun _ => ?_)
      refine J_iconst (pc := 26) (v := nI 0) dX8_areAlike_26 (by decide) ?_
      exact J_zret (pc := 27) dX8_areAlike_27 rfl (nar_b (by first | decide | omega)) (⟨nI (tW 1 0), ⟨h19_4, h20_4, h21_4, h22_4, hbb_4, hbl_4, hb3_4⟩, hF4, (by first | exact Or.inl ⟨rfl, fun g => (by first | exact ne_isN (by assumption) g | exact ne_isN (by assumption) g.1 | exact ne_isN (by assumption) g.2)⟩ | exact Or.inr ⟨rfl, ⟨_, _, rfl, rfl, (by omega), (by omega), (by first | exact al_end hv33_2 (by omega))⟩⟩)⟩)
    · refine J_if_neN (pc := 12) (tgt := 19) dX8_areAlike_12 (by decide) (by decide) (fun _ => ?_) (fun h => absurd h (by decide))
      refine J_iconst (pc := 19) (v := nI 0) dX8_areAlike_19 (by decide) ?_
      refine J_callV0 (pc := 20) (M := mX8_areAlike) (as := [.int (nI 0)]) dX8_areAlike_20 fw_X8_isThrown_ fl_X8_105 fm_X8_isThrown_ fe_X8_isThrown_ h19 (by decide) rfl rfl rfl (c_X8_isThrown_ hs (d := d - 1) (Nat.le_trans (by decide) hdm) (w := w) (n := n) (mv := mv) (rw := rw) (nx := nx) (b := b) (bt := bt) (kn := kn) (en := en) (dn := dn) (rf := rf) (kk := kk) (th := th) ⟨h19, h20, h21, h22, hbb, hbl, hb3⟩ hn1 hn2 gm gr gx 0 (by first | assumption | omega) (kc := 0) (ks := 0)) hdp (st := []) (Nat.le_of_ble_eq_true rfl) rfl (kr_I fun v5 w5 hv5 hw5 => ?_) kx_I
      obtain ⟨hR5, hFc5⟩ := hw5
      obtain ⟨h19_5, h20_5, h21_5, h22_5, hbb_5, hbl_5, hb3_5⟩ := hR5
      have hF5 := hF.tr hFc5
      subst hv5
      show J X mX8_areAlike d kc ks 23 [some (.ref 19), some (.int (nI q1)), some (.int (nI q3)), none, none] [.int (nI 0)] w5 _
      refine J_if_eqN (pc := 23) (tgt := 28) dX8_areAlike_23 (by decide) (by decide) (fun _ => ?_) (fun h => absurd h (by decide))
      refine J_iconst (pc := 28) (v := nI 1) dX8_areAlike_28 (by decide) ?_
      refine J_istore_n (pc := 29) dX8_areAlike_29 rfl (by decide) rfl ?_
      show J X mX8_areAlike d kc ks 30 [some (.ref 19), some (.int (nI q1)), some (.int (nI q3)), some (.int (nI 1)), none] [] w5 _
      refine J_iconst (pc := 30) (v := nI 1) dX8_areAlike_30 (by decide) ?_
      refine J_istore (pc := 31) dX8_areAlike_31 (by decide) rfl ?_
      show J X mX8_areAlike d kc ks 33 [some (.ref 19), some (.int (nI q1)), some (.int (nI q3)), some (.int (nI 1)), some (.int (nI 1))] [] w5 _
      have lp33_6 : ∀ (fuel : Nat) (y3 : Nat) (c4 : Nat), (y3 < 2) → (1 ≤ c4) → (AL n (fun p => mv (q1 * 7 + p)) (fun p => mv (q3 * 7 + p)) c4 y3) → (c4 ≤ n + 1) → (n + 1 - c4 < fuel) → J X mX8_areAlike d kc ks 33 [some (.ref 19), some (.int (nI q1)), some (.int (nI q3)), some (.int (nI y3)), some (.int (nI c4))] [] w5 (pJ (fun v w' => ∃ (th' : Int32), RM n mv rw nx b bt kn en dn rf kk th' w' ∧ FR b b w w' ∧ ((th' = nI 1 ∧ ¬ (isN (nI q1) 6 ∧ isN (nI q3) 6)) ∨ (th' = nI 0 ∧ ∃ a1 b1 : Nat, (nI q1) = nI a1 ∧ (nI q3) = nI b1 ∧ a1 < 6 ∧ b1 < 6 ∧ ((v = nI 1 ∧ ∀ L, 1 ≤ L → L ≤ n → lo (fun p => mv (a1 * 7 + p)) n L n / L = lo (fun p => mv (b1 * 7 + p)) n L n / L) ∨ (v = nI 0 ∧ ¬ ∀ L, 1 ≤ L → L ≤ n → lo (fun p => mv (a1 * 7 + p)) n L n / L = lo (fun p => mv (b1 * 7 + p)) n L n / L)))))) := by
        intro fuellp33_6
        induction fuellp33_6 with
        | zero => intros; omega
        | succ fuellp33_6 ihlp33_6 =>
          intro y3 c4 hv33_0 hv33_1 hv33_2 hv33_3 hf7
          refine J_iload (pc := 33) dX8_areAlike_33 rfl ?_
          refine J_aload_n (pc := 35) dX8_areAlike_35 rfl rfl rfl ?_
          refine J_get (pc := 36) (k := 0) dX8_areAlike_36 kC9 (by decide) ff_X8_7 h19_5 rfl ?_
          refine J_icmp_gtN (pc := 39) (tgt := 73) dX8_areAlike_39 (by decide) (by omega) (by omega) (fun ht8 => ?_) (fun hf9 => ?_)
          · refine J_iload_n (pc := 73) dX8_areAlike_73 rfl rfl ?_
            exact J_zret (pc := 74) dX8_areAlike_74 rfl (nar_b (by first | decide | omega)) (⟨nI (tW 0 0), ⟨h19_5, h20_5, h21_5, h22_5, hbb_5, hbl_5, hb3_5⟩, hF5, (by first | exact Or.inl ⟨rfl, fun g => (by first | exact ne_isN (by assumption) g | exact ne_isN (by assumption) g.1 | exact ne_isN (by assumption) g.2)⟩ | exact Or.inr ⟨rfl, ⟨_, _, rfl, rfl, (by omega), (by omega), (by first | exact al_end hv33_2 (by omega))⟩⟩)⟩)
          · refine J_iload_n (pc := 42) dX8_areAlike_42 rfl rfl ?_
            refine J_aload_n (pc := 43) dX8_areAlike_43 rfl rfl rfl ?_
            refine J_iload_n (pc := 44) dX8_areAlike_44 rfl rfl ?_
            refine J_iload (pc := 45) dX8_areAlike_45 rfl ?_
            refine J_callV0 (pc := 47) (M := mX8_areAlike) (as := [.int (nI q1), .int (nI c4)]) dX8_areAlike_47 fw_X8_longOnes fl_X8_162 fm_X8_longOnes fe_X8_longOnes h19_5 (by decide) rfl rfl rfl (c_X8_longOnes_atx hs (d := d - 1) (Nat.le_trans (by decide) hdm) (w := w5) (n := n) (mv := mv) (rw := rw) (nx := nx) (b := b) (bt := bt) (kn := kn) (en := en) (dn := dn) (rf := rf) (kk := kk) (th := nI (tW 0 0)) ⟨h19_5, h20_5, h21_5, h22_5, hbb_5, hbl_5, hb3_5⟩ hn1 hn2 gm gr gx q1 c4 (by first | assumption | omega) (by first | assumption | omega) (by first | assumption | omega) (by first | assumption | omega) (kc := 0) (ks := 0)) hdp (st := [.int (nI y3)]) (Nat.le_of_ble_eq_true rfl) rfl (kr_P fun v10 hv10 => ?_) kx_I
            subst hv10
            have hlo10 := Nat.lt_of_le_of_lt (Nat.le_trans (Nat.div_le_self (lo (fun p => mv (q1 * 7 + p)) n c4 n) c4) (lo_le (fun p => mv (q1 * 7 + p)) n c4 n)) (show n < 2 ^ 31 by omega)
            refine J_aload_n (pc := 50) dX8_areAlike_50 rfl rfl rfl ?_
            refine J_iload_n (pc := 51) dX8_areAlike_51 rfl rfl ?_
            refine J_iload (pc := 52) dX8_areAlike_52 rfl ?_
            refine J_callV0 (pc := 54) (M := mX8_areAlike) (as := [.int (nI q3), .int (nI c4)]) dX8_areAlike_54 fw_X8_longOnes fl_X8_162 fm_X8_longOnes fe_X8_longOnes h19_5 (by decide) rfl rfl rfl (c_X8_longOnes_atx hs (d := d - 1) (Nat.le_trans (by decide) hdm) (w := w5) (n := n) (mv := mv) (rw := rw) (nx := nx) (b := b) (bt := bt) (kn := kn) (en := en) (dn := dn) (rf := rf) (kk := kk) (th := nI (tW 0 0)) ⟨h19_5, h20_5, h21_5, h22_5, hbb_5, hbl_5, hb3_5⟩ hn1 hn2 gm gr gx q3 c4 (by first | assumption | omega) (by first | assumption | omega) (by first | assumption | omega) (by first | assumption | omega) (kc := 0) (ks := 0)) hdp (st := [.int (nI (lo (fun p => mv (q1 * 7 + p)) n c4 n / c4)), .int (nI y3)]) (Nat.le_of_ble_eq_true rfl) rfl (kr_P fun v11 hv11 => ?_) kx_I
            subst hv11
            have hlo11 := Nat.lt_of_le_of_lt (Nat.le_trans (Nat.div_le_self (lo (fun p => mv (q3 * 7 + p)) n c4 n) c4) (lo_le (fun p => mv (q3 * 7 + p)) n c4 n)) (show n < 2 ^ 31 by omega)
            refine J_icmp_neN (pc := 57) (tgt := 64) dX8_areAlike_57 (by decide) (by omega) (by omega) (fun ht12 => ?_) (fun hf13 => ?_)
            · refine J_iconst (pc := 64) (v := nI 0) dX8_areAlike_64 (by decide) ?_
              refine J_iand1 (pc := 65) dX8_areAlike_65 (by omega) (by omega) ?_
              refine J_istore_n (pc := 66) dX8_areAlike_66 rfl (by decide) rfl ?_
              show J X mX8_areAlike d kc ks 67 [some (.ref 19), some (.int (nI q1)), some (.int (nI q3)), some (.int (nI (y3 * 0))), some (.int (nI c4))] [] w5 _
              refine J_iincN (pc := 67) (b := 1) dX8_areAlike_67 rfl (by decide) (by decide) rfl ?_
              show J X mX8_areAlike d kc ks 70 [some (.ref 19), some (.int (nI q1)), some (.int (nI q3)), some (.int (nI (y3 * 0))), some (.int (nI (c4 + 1)))] [] w5 _
              refine J_goto (pc := 70) (tgt := 33) dX8_areAlike_70 (by decide) ?_
              exact J_sub (L' := [some (.ref 19), some (.int (nI q1)), some (.int (nI q3)), some (.int (nI (y3 * 0))), some (.int (nI (c4 + 1)))]) ⟨rfl, ⟨rfl, ⟨rfl, ⟨rfl, ⟨rfl, trivial⟩⟩⟩⟩⟩ (ihlp33_6 (y3 * 0) (c4 + 1) (by first | assumption | omega) (by first | assumption | omega) (by first | exact AL_s hv33_2 (by omega) (by omega) (by assumption) | exact AL_n hv33_2 (by omega) (by omega) (by assumption)) (by first | assumption | omega) (by omega))
            · refine J_iconst (pc := 60) (v := nI 1) dX8_areAlike_60 (by decide) ?_
              refine J_goto (pc := 61) (tgt := 65) dX8_areAlike_61 (by decide) ?_
              have hm14 := Nat.mod_lt y3 (show 0 < 2 ^ 1 by decide)
              refine J_iandN (pc := 65) 1 dX8_areAlike_65 (by omega) (by decide) ?_
              refine J_istore_n (pc := 66) dX8_areAlike_66 rfl (by decide) rfl ?_
              show J X mX8_areAlike d kc ks 67 [some (.ref 19), some (.int (nI q1)), some (.int (nI q3)), some (.int (nI (y3 % 2 ^ 1))), some (.int (nI c4))] [] w5 _
              refine J_iincN (pc := 67) (b := 1) dX8_areAlike_67 rfl (by decide) (by decide) rfl ?_
              show J X mX8_areAlike d kc ks 70 [some (.ref 19), some (.int (nI q1)), some (.int (nI q3)), some (.int (nI (y3 % 2 ^ 1))), some (.int (nI (c4 + 1)))] [] w5 _
              refine J_goto (pc := 70) (tgt := 33) dX8_areAlike_70 (by decide) ?_
              exact J_sub (L' := [some (.ref 19), some (.int (nI q1)), some (.int (nI q3)), some (.int (nI (y3 % 2 ^ 1))), some (.int (nI (c4 + 1)))]) ⟨rfl, ⟨rfl, ⟨rfl, ⟨rfl, ⟨rfl, trivial⟩⟩⟩⟩⟩ (ihlp33_6 (y3 % 2 ^ 1) (c4 + 1) (by first | assumption | omega) (by first | assumption | omega) (by first | exact AL_s hv33_2 (by omega) (by omega) (by assumption) | exact AL_n hv33_2 (by omega) (by omega) (by assumption)) (by first | assumption | omega) (by omega))
      exact J_sub (L' := [some (.ref 19), some (.int (nI q1)), some (.int (nI q3)), some (.int (nI 1)), some (.int (nI 1))]) ⟨rfl, ⟨rfl, ⟨rfl, ⟨rfl, ⟨rfl, trivial⟩⟩⟩⟩⟩ (lp33_6 _ 1 1 (by first | assumption | omega) (by first | assumption | omega) (by exact AL_1) (by first | assumption | omega) (Nat.lt_succ_self _))
set_option maxRecDepth 100000 in
set_option maxHeartbeats 4000000 in
theorem c_X8_commute_ate {X : jX} (hs : X.1.stackTraces = false) {d : Nat} (hd : 2 ≤ d) {n : Nat} {mv rw nx : Nat → Nat} {b : Nat} {bt : List Int32} {kn en dn rf kk th : Int32} {w : List jC} (hR : RM n mv rw nx b bt kn en dn rf kk th w) (hn1 : 2 ≤ n) (hn2 : n ≤ 7) (gm : ∀ i, mv i < 7) (gr : ∀ i, rw i < 7) (gx : ∀ i, nx i < 7) (a : Int32) (c : Int32) {kc ks : Nat} : jMet X mX8_commute d kc ks [.ref 19, .int a, .int c] w (pJ (fun v w' => ∃ (th' : Int32), RM n mv rw nx b bt kn en dn rf kk th' w' ∧ FR b b w w' ∧ ((th' = nI 1 ∧ ¬ (isN a 6 ∧ isN c 6)) ∨ (th' = nI 0 ∧ ∃ a1 b1 : Nat, a = nI a1 ∧ c = nI b1 ∧ a1 < 6 ∧ b1 < 6 ∧ ((v = nI 1 ∧ ∀ p, p < n → mv (b1 * 7 + mv (a1 * 7 + p)) = mv (a1 * 7 + mv (b1 * 7 + p))) ∨ (v = nI 0 ∧ ¬ ∀ p, p < n → mv (b1 * 7 + mv (a1 * 7 + p)) = mv (a1 * 7 + mv (b1 * 7 + p)))))))) := by
  refine jMet_of hs (by decide +kernel) (Nat.le_of_ble_eq_true rfl) (L := [some (.ref 19), some (.int a), some (.int c), none]) rfl ?_
  have hdm : 1 ≤ d - 1 := by omega
  have hdp : d - 1 + 1 ≤ d := by omega
  have hfc := fc_7 hn2
  have hfp := fc_pos n
  obtain ⟨h19, h20, h21, h22, hbb, hbl, hb3⟩ := hR
  have hF : FR b b w w := FR.rf
  refine J_aload_n (pc := 0) dX8_commute_0 rfl rfl rfl ?_
  refine J_iload_n (pc := 1) dX8_commute_1 rfl rfl ?_
  refine J_callS0 (pc := 2) (M := mX8_commute) (as := [.int a]) dX8_commute_2 fw_X8_isCell fl_X8_108 fs_X8_isCell rfl (c_X8_isCell hs (d := d - 1) (Nat.le_trans (by decide) hdm) (w := w) a (kc := 0) (ks := 0)) hdp (st := [.ref 19]) (Nat.le_of_ble_eq_true rfl) rfl (kr_P fun v1 hv1 => ?_) kx_I
  rcases hv1 with ⟨rfl, hk1_0⟩ | ⟨q1, rfl, hk1_0, rfl⟩
  · refine J_if_eqN (pc := 5) (tgt := 15) dX8_commute_5 (by decide) (by decide) (fun _ => ?_) (fun h => absurd h (by decide))
    refine J_iconst (pc := 15) (v := nI 1) dX8_commute_15 (by decide) ?_
    refine J_goto (pc := 16) (tgt := 20) dX8_commute_16 (by decide) ?_
    refine J_callV0 (pc := 20) (M := mX8_commute) (as := [.int (nI 1)]) dX8_commute_20 fw_X8_isThrown_ fl_X8_105 fm_X8_isThrown_ fe_X8_isThrown_ h19 (by decide) rfl rfl rfl (c_X8_isThrown_ hs (d := d - 1) (Nat.le_trans (by decide) hdm) (w := w) (n := n) (mv := mv) (rw := rw) (nx := nx) (b := b) (bt := bt) (kn := kn) (en := en) (dn := dn) (rf := rf) (kk := kk) (th := th) ⟨h19, h20, h21, h22, hbb, hbl, hb3⟩ hn1 hn2 gm gr gx 1 (by first | assumption | omega) (kc := 0) (ks := 0)) hdp (st := []) (Nat.le_of_ble_eq_true rfl) rfl (kr_I fun v2 w2 hv2 hw2 => ?_) kx_I
    obtain ⟨hR2, hFc2⟩ := hw2
    obtain ⟨h19_2, h20_2, h21_2, h22_2, hbb_2, hbl_2, hb3_2⟩ := hR2
    have hF2 := hF.tr hFc2
    subst hv2
    show J X mX8_commute d kc ks 23 [some (.ref 19), some (.int a), some (.int c), none] [.int (nI 1)] w2 _
    refine J_if_eqN (pc := 23) (tgt := 28) dX8_commute_23 (by decide) (by decide) (fun h => absurd h (by decide)) (fun _ => ?_)
    refine J_iconst (pc := 26) (v := nI 0) dX8_commute_26 (by decide) ?_
    exact J_zret (pc := 27) dX8_commute_27 rfl (nar_b (by first | decide | omega)) (⟨nI (tW 1 0), ⟨h19_2, h20_2, h21_2, h22_2, hbb_2, hbl_2, hb3_2⟩, hF2, (by first | exact Or.inl ⟨rfl, fun g => (by first | exact ne_isN (by assumption) g | exact ne_isN (by assumption) g.1 | exact ne_isN (by assumption) g.2)⟩ | exact Or.inr ⟨rfl, ⟨_, _, rfl, rfl, (by omega), (by omega), (by first | exact Or.inl ⟨rfl, fun p hp => hv30_0 p (by omega)⟩ | exact Or.inr ⟨rfl, fun h => absurd (h _ (by omega)) (by assumption)⟩)⟩⟩)⟩)
  · refine J_if_eqN (pc := 5) (tgt := 15) dX8_commute_5 (by decide) (by decide) (fun h => absurd h (by decide)) (fun _ => ?_)
    refine J_iload_n (pc := 8) dX8_commute_8 rfl rfl ?_
    refine J_callS0 (pc := 9) (M := mX8_commute) (as := [.int c]) dX8_commute_9 fw_X8_isCell fl_X8_108 fs_X8_isCell rfl (c_X8_isCell hs (d := d - 1) (Nat.le_trans (by decide) hdm) (w := w) c (kc := 0) (ks := 0)) hdp (st := [.ref 19]) (Nat.le_of_ble_eq_true rfl) rfl (kr_P fun v3 hv3 => ?_) kx_I
    rcases hv3 with ⟨rfl, hk3_0⟩ | ⟨q3, rfl, hk3_0, rfl⟩
    · refine J_if_neN (pc := 12) (tgt := 19) dX8_commute_12 (by decide) (by decide) (fun h => absurd h (by decide)) (fun _ => ?_)
      refine J_iconst (pc := 15) (v := nI 1) dX8_commute_15 (by decide) ?_
      refine J_goto (pc := 16) (tgt := 20) dX8_commute_16 (by decide) ?_
      refine J_callV0 (pc := 20) (M := mX8_commute) (as := [.int (nI 1)]) dX8_commute_20 fw_X8_isThrown_ fl_X8_105 fm_X8_isThrown_ fe_X8_isThrown_ h19 (by decide) rfl rfl rfl (c_X8_isThrown_ hs (d := d - 1) (Nat.le_trans (by decide) hdm) (w := w) (n := n) (mv := mv) (rw := rw) (nx := nx) (b := b) (bt := bt) (kn := kn) (en := en) (dn := dn) (rf := rf) (kk := kk) (th := th) ⟨h19, h20, h21, h22, hbb, hbl, hb3⟩ hn1 hn2 gm gr gx 1 (by first | assumption | omega) (kc := 0) (ks := 0)) hdp (st := []) (Nat.le_of_ble_eq_true rfl) rfl (kr_I fun v4 w4 hv4 hw4 => ?_) kx_I
      obtain ⟨hR4, hFc4⟩ := hw4
      obtain ⟨h19_4, h20_4, h21_4, h22_4, hbb_4, hbl_4, hb3_4⟩ := hR4
      have hF4 := hF.tr hFc4
      subst hv4
      show J X mX8_commute d kc ks 23 [some (.ref 19), some (.int (nI q1)), some (.int c), none] [.int (nI 1)] w4 _
      refine J_if_eqN (pc := 23) (tgt := 28) dX8_commute_23 (by decide) (by decide) (fun h => absurd h (by decide)) (fun _ => ?_)
      refine J_iconst (pc := 26) (v := nI 0) dX8_commute_26 (by decide) ?_
      exact J_zret (pc := 27) dX8_commute_27 rfl (nar_b (by first | decide | omega)) (⟨nI (tW 1 0), ⟨h19_4, h20_4, h21_4, h22_4, hbb_4, hbl_4, hb3_4⟩, hF4, (by first | exact Or.inl ⟨rfl, fun g => (by first | exact ne_isN (by assumption) g | exact ne_isN (by assumption) g.1 | exact ne_isN (by assumption) g.2)⟩ | exact Or.inr ⟨rfl, ⟨_, _, rfl, rfl, (by omega), (by omega), (by first | exact Or.inl ⟨rfl, fun p hp => hv30_0 p (by omega)⟩ | exact Or.inr ⟨rfl, fun h => absurd (h _ (by omega)) (by assumption)⟩)⟩⟩)⟩)
    · refine J_if_neN (pc := 12) (tgt := 19) dX8_commute_12 (by decide) (by decide) (fun _ => ?_) (fun h => absurd h (by decide))
      refine J_iconst (pc := 19) (v := nI 0) dX8_commute_19 (by decide) ?_
      refine J_callV0 (pc := 20) (M := mX8_commute) (as := [.int (nI 0)]) dX8_commute_20 fw_X8_isThrown_ fl_X8_105 fm_X8_isThrown_ fe_X8_isThrown_ h19 (by decide) rfl rfl rfl (c_X8_isThrown_ hs (d := d - 1) (Nat.le_trans (by decide) hdm) (w := w) (n := n) (mv := mv) (rw := rw) (nx := nx) (b := b) (bt := bt) (kn := kn) (en := en) (dn := dn) (rf := rf) (kk := kk) (th := th) ⟨h19, h20, h21, h22, hbb, hbl, hb3⟩ hn1 hn2 gm gr gx 0 (by first | assumption | omega) (kc := 0) (ks := 0)) hdp (st := []) (Nat.le_of_ble_eq_true rfl) rfl (kr_I fun v5 w5 hv5 hw5 => ?_) kx_I
      obtain ⟨hR5, hFc5⟩ := hw5
      obtain ⟨h19_5, h20_5, h21_5, h22_5, hbb_5, hbl_5, hb3_5⟩ := hR5
      have hF5 := hF.tr hFc5
      subst hv5
      show J X mX8_commute d kc ks 23 [some (.ref 19), some (.int (nI q1)), some (.int (nI q3)), none] [.int (nI 0)] w5 _
      refine J_if_eqN (pc := 23) (tgt := 28) dX8_commute_23 (by decide) (by decide) (fun _ => ?_) (fun h => absurd h (by decide))
      refine J_iconst (pc := 28) (v := nI 0) dX8_commute_28 (by decide) ?_
      refine J_istore_n (pc := 29) dX8_commute_29 rfl (by decide) rfl ?_
      show J X mX8_commute d kc ks 30 [some (.ref 19), some (.int (nI q1)), some (.int (nI q3)), some (.int (nI 0))] [] w5 _
      have lp30_6 : ∀ (fuel : Nat) (c3 : Nat), (∀ p, p < c3 → mv (q3 * 7 + mv (q1 * 7 + p)) = mv (q1 * 7 + mv (q3 * 7 + p))) → (c3 ≤ n) → (n - c3 < fuel) → J X mX8_commute d kc ks 30 [some (.ref 19), some (.int (nI q1)), some (.int (nI q3)), some (.int (nI c3))] [] w5 (pJ (fun v w' => ∃ (th' : Int32), RM n mv rw nx b bt kn en dn rf kk th' w' ∧ FR b b w w' ∧ ((th' = nI 1 ∧ ¬ (isN (nI q1) 6 ∧ isN (nI q3) 6)) ∨ (th' = nI 0 ∧ ∃ a1 b1 : Nat, (nI q1) = nI a1 ∧ (nI q3) = nI b1 ∧ a1 < 6 ∧ b1 < 6 ∧ ((v = nI 1 ∧ ∀ p, p < n → mv (b1 * 7 + mv (a1 * 7 + p)) = mv (a1 * 7 + mv (b1 * 7 + p))) ∨ (v = nI 0 ∧ ¬ ∀ p, p < n → mv (b1 * 7 + mv (a1 * 7 + p)) = mv (a1 * 7 + mv (b1 * 7 + p)))))))) := by
        intro fuellp30_6
        induction fuellp30_6 with
        | zero => intros; omega
        | succ fuellp30_6 ihlp30_6 =>
          intro c3 hv30_0 hv30_1 hf7
          refine J_iload_n (pc := 30) dX8_commute_30 rfl rfl ?_
          refine J_aload_n (pc := 31) dX8_commute_31 rfl rfl rfl ?_
          refine J_get (pc := 32) (k := 0) dX8_commute_32 kC9 (by decide) ff_X8_7 h19_5 rfl ?_
          refine J_icmp_geN (pc := 35) (tgt := 71) dX8_commute_35 (by decide) (by omega) (by omega) (fun ht8 => ?_) (fun hf9 => ?_)
          · refine J_iconst (pc := 71) (v := nI 1) dX8_commute_71 (by decide) ?_
            exact J_zret (pc := 72) dX8_commute_72 rfl (nar_b (by first | decide | omega)) (⟨nI (tW 0 0), ⟨h19_5, h20_5, h21_5, h22_5, hbb_5, hbl_5, hb3_5⟩, hF5, (by first | exact Or.inl ⟨rfl, fun g => (by first | exact ne_isN (by assumption) g | exact ne_isN (by assumption) g.1 | exact ne_isN (by assumption) g.2)⟩ | exact Or.inr ⟨rfl, ⟨_, _, rfl, rfl, (by omega), (by omega), (by first | exact Or.inl ⟨rfl, fun p hp => hv30_0 p (by omega)⟩ | exact Or.inr ⟨rfl, fun h => absurd (h _ (by omega)) (by assumption)⟩)⟩⟩)⟩)
          · refine J_aload_n (pc := 38) dX8_commute_38 rfl rfl rfl ?_
            refine J_iload_n (pc := 39) dX8_commute_39 rfl rfl ?_
            refine J_aload_n (pc := 40) dX8_commute_40 rfl rfl rfl ?_
            refine J_iload_n (pc := 41) dX8_commute_41 rfl rfl ?_
            refine J_iload_n (pc := 42) dX8_commute_42 rfl rfl ?_
            refine J_callV0 (pc := 43) (M := mX8_commute) (as := [.int (nI q1), .int (nI c3)]) dX8_commute_43 fw_X8_at fl_X8_82 fm_X8_at fe_X8_at h19_5 (by decide) rfl rfl rfl (c_X8_at hs (d := d - 1) (Nat.le_trans (by decide) hdm) (w := w5) (n := n) (mv := mv) (rw := rw) (nx := nx) (b := b) (bt := bt) (kn := kn) (en := en) (dn := dn) (rf := rf) (kk := kk) (th := nI (tW 0 0)) ⟨h19_5, h20_5, h21_5, h22_5, hbb_5, hbl_5, hb3_5⟩ hn1 hn2 gm gr gx q1 c3 (by first | assumption | omega) (by first | assumption | omega) (kc := 0) (ks := 0)) hdp (st := [.int (nI q3), .ref 19]) (Nat.le_of_ble_eq_true rfl) rfl (kr_P fun v10 hv10 => ?_) kx_I
            subst hv10
            have hq11 := gm (q1 * 7 + c3)
            refine J_callV0 (pc := 46) (M := mX8_commute) (as := [.int (nI q3), .int (nI (mv (q1 * 7 + c3)))]) dX8_commute_46 fw_X8_at fl_X8_82 fm_X8_at fe_X8_at h19_5 (by decide) rfl rfl rfl (c_X8_at hs (d := d - 1) (Nat.le_trans (by decide) hdm) (w := w5) (n := n) (mv := mv) (rw := rw) (nx := nx) (b := b) (bt := bt) (kn := kn) (en := en) (dn := dn) (rf := rf) (kk := kk) (th := nI (tW 0 0)) ⟨h19_5, h20_5, h21_5, h22_5, hbb_5, hbl_5, hb3_5⟩ hn1 hn2 gm gr gx q3 (mv (q1 * 7 + c3)) (by first | assumption | omega) (by first | assumption | omega) (kc := 0) (ks := 0)) hdp (st := []) (Nat.le_of_ble_eq_true rfl) rfl (kr_P fun v12 hv12 => ?_) kx_I
            subst hv12
            have hq13 := gm (q3 * 7 + (mv (q1 * 7 + c3)))
            refine J_aload_n (pc := 49) dX8_commute_49 rfl rfl rfl ?_
            refine J_iload_n (pc := 50) dX8_commute_50 rfl rfl ?_
            refine J_aload_n (pc := 51) dX8_commute_51 rfl rfl rfl ?_
            refine J_iload_n (pc := 52) dX8_commute_52 rfl rfl ?_
            refine J_iload_n (pc := 53) dX8_commute_53 rfl rfl ?_
            refine J_callV0 (pc := 54) (M := mX8_commute) (as := [.int (nI q3), .int (nI c3)]) dX8_commute_54 fw_X8_at fl_X8_82 fm_X8_at fe_X8_at h19_5 (by decide) rfl rfl rfl (c_X8_at hs (d := d - 1) (Nat.le_trans (by decide) hdm) (w := w5) (n := n) (mv := mv) (rw := rw) (nx := nx) (b := b) (bt := bt) (kn := kn) (en := en) (dn := dn) (rf := rf) (kk := kk) (th := nI (tW 0 0)) ⟨h19_5, h20_5, h21_5, h22_5, hbb_5, hbl_5, hb3_5⟩ hn1 hn2 gm gr gx q3 c3 (by first | assumption | omega) (by first | assumption | omega) (kc := 0) (ks := 0)) hdp (st := [.int (nI q1), .ref 19, .int (nI (mv (q3 * 7 + (mv (q1 * 7 + c3)))))]) (Nat.le_of_ble_eq_true rfl) rfl (kr_P fun v14 hv14 => ?_) kx_I
            subst hv14
            have hq15 := gm (q3 * 7 + c3)
            refine J_callV0 (pc := 57) (M := mX8_commute) (as := [.int (nI q1), .int (nI (mv (q3 * 7 + c3)))]) dX8_commute_57 fw_X8_at fl_X8_82 fm_X8_at fe_X8_at h19_5 (by decide) rfl rfl rfl (c_X8_at hs (d := d - 1) (Nat.le_trans (by decide) hdm) (w := w5) (n := n) (mv := mv) (rw := rw) (nx := nx) (b := b) (bt := bt) (kn := kn) (en := en) (dn := dn) (rf := rf) (kk := kk) (th := nI (tW 0 0)) ⟨h19_5, h20_5, h21_5, h22_5, hbb_5, hbl_5, hb3_5⟩ hn1 hn2 gm gr gx q1 (mv (q3 * 7 + c3)) (by first | assumption | omega) (by first | assumption | omega) (kc := 0) (ks := 0)) hdp (st := [.int (nI (mv (q3 * 7 + (mv (q1 * 7 + c3)))))]) (Nat.le_of_ble_eq_true rfl) rfl (kr_P fun v16 hv16 => ?_) kx_I
            subst hv16
            have hq17 := gm (q1 * 7 + (mv (q3 * 7 + c3)))
            refine J_icmp_eqN (pc := 60) (tgt := 65) dX8_commute_60 (by decide) (by omega) (by omega) (fun ht18 => ?_) (fun hf19 => ?_)
            · refine J_iincN (pc := 65) (b := 1) dX8_commute_65 rfl (by decide) (by decide) rfl ?_
              show J X mX8_commute d kc ks 68 [some (.ref 19), some (.int (nI q1)), some (.int (nI q3)), some (.int (nI (c3 + 1)))] [] w5 _
              refine J_goto (pc := 68) (tgt := 30) dX8_commute_68 (by decide) ?_
              exact J_sub (L' := [some (.ref 19), some (.int (nI q1)), some (.int (nI q3)), some (.int (nI (c3 + 1)))]) ⟨rfl, ⟨rfl, ⟨rfl, ⟨rfl, trivial⟩⟩⟩⟩ (ihlp30_6 (c3 + 1) (by intro p hp; by_cases e : p = c3; (rw [e]; assumption); (exact hv30_0 p (by omega))) (by first | assumption | omega) (by omega))
            · refine J_iconst (pc := 63) (v := nI 0) dX8_commute_63 (by decide) ?_
              exact J_zret (pc := 64) dX8_commute_64 rfl (nar_b (by first | decide | omega)) (⟨nI (tW 0 0), ⟨h19_5, h20_5, h21_5, h22_5, hbb_5, hbl_5, hb3_5⟩, hF5, (by first | exact Or.inl ⟨rfl, fun g => (by first | exact ne_isN (by assumption) g | exact ne_isN (by assumption) g.1 | exact ne_isN (by assumption) g.2)⟩ | exact Or.inr ⟨rfl, ⟨_, _, rfl, rfl, (by omega), (by omega), (by first | exact Or.inl ⟨rfl, fun p hp => hv30_0 p (by omega)⟩ | exact Or.inr ⟨rfl, fun h => absurd (h _ (by omega)) (by assumption)⟩)⟩⟩)⟩)
      exact J_sub (L' := [some (.ref 19), some (.int (nI q1)), some (.int (nI q3)), some (.int (nI 0))]) ⟨rfl, ⟨rfl, ⟨rfl, ⟨rfl, trivial⟩⟩⟩⟩ (lp30_6 _ 0 (by intro p hp; omega) (by first | assumption | omega) (Nat.lt_succ_self _))
set_option maxRecDepth 100000 in
set_option maxHeartbeats 40000000 in
theorem c_X8_houseNow_atq {X : jX} (hs : X.1.stackTraces = false) {d : Nat} (hd : 0 ≤ d) {n : Nat} {mv rw nx : Nat → Nat} {b : Nat} {bt : List Int32} {kn en dn rf kk th : Int32} {w : List jC} (hR : RM n mv rw nx b bt kn en dn rf kk th w) (hn1 : 2 ≤ n) (hn2 : n ≤ 7) (gm : ∀ i, mv i < 7) (gr : ∀ i, rw i < 7) (gx : ∀ i, nx i < 7) (a : Int32) {kc ks : Nat} : jMet X mX8_houseNow d kc ks [.ref 19, .int a] w (pI (fun v => v = (if a = nI 0 then dn else if a = nI 1 then rf else kk)) (fun w' => w' = w)) := by
  refine jMet_of hs (by decide +kernel) (Nat.le_of_ble_eq_true rfl) (L := [some (.ref 19), some (.int a)]) rfl ?_
  have hfc := fc_7 hn2
  have hfp := fc_pos n
  obtain ⟨h19, h20, h21, h22, hbb, hbl, hb3⟩ := hR
  have hF : FR b b w w := FR.rf
  refine J_iload_n (pc := 0) dX8_houseNow_0 rfl rfl ?_
  refine J_if_ne (pc := 1) (tgt := 11) dX8_houseNow_1 (by decide) (fun ht1 => ?_) (fun hf2 => ?_)
  · refine J_iload_n (pc := 11) dX8_houseNow_11 rfl rfl ?_
    refine J_iconst (pc := 12) (v := nI 1) dX8_houseNow_12 (by decide) ?_
    refine J_icmp_ne (pc := 13) (tgt := 23) dX8_houseNow_13 (by decide) (fun ht3 => ?_) (fun hf4 => ?_)
    · refine J_aload_n (pc := 23) dX8_houseNow_23 rfl rfl rfl ?_
      refine J_get (pc := 24) (k := 9) dX8_houseNow_24 kC9 (by decide) ff_X8_227 h19 rfl ?_
      exact J_iret (pc := 27) dX8_houseNow_27 rfl ⟨(by first | exact (if_pos ((show a = 0 by assumption).trans nI_0.symm)).symm | exact ((if_neg (fun e => absurd (e.trans nI_0) (by assumption))).trans (if_pos (by assumption))).symm | exact ((if_neg (fun e => absurd (e.trans nI_0) (by assumption))).trans (if_neg (by assumption))).symm), rfl⟩
    · refine J_aload_n (pc := 16) dX8_houseNow_16 rfl rfl rfl ?_
      refine J_get (pc := 17) (k := 8) dX8_houseNow_17 kC9 (by decide) ff_X8_42 h19 rfl ?_
      refine J_goto (pc := 20) (tgt := 27) dX8_houseNow_20 (by decide) ?_
      exact J_iret (pc := 27) dX8_houseNow_27 rfl ⟨(by first | exact (if_pos ((show a = 0 by assumption).trans nI_0.symm)).symm | exact ((if_neg (fun e => absurd (e.trans nI_0) (by assumption))).trans (if_pos (by assumption))).symm | exact ((if_neg (fun e => absurd (e.trans nI_0) (by assumption))).trans (if_neg (by assumption))).symm), rfl⟩
  · refine J_aload_n (pc := 4) dX8_houseNow_4 rfl rfl rfl ?_
    refine J_get (pc := 5) (k := 7) dX8_houseNow_5 kC9 (by decide) ff_X8_39 h19 rfl ?_
    refine J_goto (pc := 8) (tgt := 27) dX8_houseNow_8 (by decide) ?_
    exact J_iret (pc := 27) dX8_houseNow_27 rfl ⟨(by first | exact (if_pos ((show a = 0 by assumption).trans nI_0.symm)).symm | exact ((if_neg (fun e => absurd (e.trans nI_0) (by assumption))).trans (if_pos (by assumption))).symm | exact ((if_neg (fun e => absurd (e.trans nI_0) (by assumption))).trans (if_neg (by assumption))).symm), rfl⟩
set_option maxRecDepth 100000 in
set_option maxHeartbeats 40000000 in
theorem c_X8_house_ate {X : jX} (hs : X.1.stackTraces = false) {d : Nat} (hd : 2 ≤ d) {n : Nat} {mv rw nx : Nat → Nat} {b : Nat} {bt : List Int32} {kn en dn rf kk th : Int32} {w : List jC} (hR : RM n mv rw nx b bt kn en dn rf kk th w) (hn1 : 2 ≤ n) (hn2 : n ≤ 7) (gm : ∀ i, mv i < 7) (gr : ∀ i, rw i < 7) (gx : ∀ i, nx i < 7) (a : Int32) {kc ks : Nat} : jMet X mX8_house d kc ks [.ref 19, .int a] w (pJ (fun v w' => ∃ (th' : Int32), RM n mv rw nx b bt kn en dn rf kk th' w' ∧ FR b b w w' ∧ ((th' = nI 1 ∧ ¬ (isN a 3)) ∨ (th' = nI 0 ∧ isN a 3 ∧ v = (if a = nI 0 then dn else if a = nI 1 then rf else kk))))) := by
  refine jMet_of hs (by decide +kernel) (Nat.le_of_ble_eq_true rfl) (L := [some (.ref 19), some (.int a)]) rfl ?_
  have hdm : 1 ≤ d - 1 := by omega
  have hdp : d - 1 + 1 ≤ d := by omega
  have hfc := fc_7 hn2
  have hfp := fc_pos n
  obtain ⟨h19, h20, h21, h22, hbb, hbl, hb3⟩ := hR
  have hF : FR b b w w := FR.rf
  refine J_aload_n (pc := 0) dX8_house_0 rfl rfl rfl ?_
  refine J_iload_n (pc := 1) dX8_house_1 rfl rfl ?_
  refine J_if_lt (pc := 2) (tgt := 10) dX8_house_2 (by decide) (fun ht1 => ?_) (fun hf2 => ?_)
  · refine J_iconst (pc := 10) (v := nI 1) dX8_house_10 (by decide) ?_
    refine J_goto (pc := 11) (tgt := 15) dX8_house_11 (by decide) ?_
    refine J_callV0 (pc := 15) (M := mX8_house) (as := [.int (nI 1)]) dX8_house_15 fw_X8_isThrown_ fl_X8_105 fm_X8_isThrown_ fe_X8_isThrown_ h19 (by decide) rfl rfl rfl (c_X8_isThrown_ hs (d := d - 1) (Nat.le_trans (by decide) hdm) (w := w) (n := n) (mv := mv) (rw := rw) (nx := nx) (b := b) (bt := bt) (kn := kn) (en := en) (dn := dn) (rf := rf) (kk := kk) (th := th) ⟨h19, h20, h21, h22, hbb, hbl, hb3⟩ hn1 hn2 gm gr gx 1 (by first | assumption | omega) (kc := 0) (ks := 0)) hdp (st := []) (Nat.le_of_ble_eq_true rfl) rfl (kr_I fun v3 w3 hv3 hw3 => ?_) kx_I
    obtain ⟨hR3, hFc3⟩ := hw3
    obtain ⟨h19_3, h20_3, h21_3, h22_3, hbb_3, hbl_3, hb3_3⟩ := hR3
    have hF3 := hF.tr hFc3
    subst hv3
    show J X mX8_house d kc ks 18 [some (.ref 19), some (.int a)] [.int (nI 1)] w3 _
    refine J_if_eqN (pc := 18) (tgt := 25) dX8_house_18 (by decide) (by decide) (fun h => absurd h (by decide)) (fun _ => ?_)
    refine J_iconst (pc := 21) (v := nI 0) dX8_house_21 (by decide) ?_
    refine J_goto (pc := 22) (tgt := 30) dX8_house_22 (by decide) ?_
    exact J_iret (pc := 30) dX8_house_30 rfl (⟨nI (tW 1 0), ⟨h19_3, h20_3, h21_3, h22_3, hbb_3, hbl_3, hb3_3⟩, hF3, (by first | exact Or.inl ⟨rfl, fun g => (by obtain ⟨k, hk, e⟩ := g; subst e; first | exact absurd (by assumption) (nI_pos (n := k) (by omega)) | exact absurd ((nI_leI (a := k) (b := 2) (by omega) (by omega)).mpr (by omega)) (by assumption))⟩ | exact Or.inr ⟨rfl, isN_3 (by assumption) (by assumption), hPv⟩)⟩)
  · refine J_iload_n (pc := 5) dX8_house_5 rfl rfl ?_
    refine J_iconst (pc := 6) (v := nI 2) dX8_house_6 (by decide) ?_
    refine J_icmp_le (pc := 7) (tgt := 14) dX8_house_7 (by decide) (fun ht4 => ?_) (fun hf5 => ?_)
    · refine J_iconst (pc := 14) (v := nI 0) dX8_house_14 (by decide) ?_
      refine J_callV0 (pc := 15) (M := mX8_house) (as := [.int (nI 0)]) dX8_house_15 fw_X8_isThrown_ fl_X8_105 fm_X8_isThrown_ fe_X8_isThrown_ h19 (by decide) rfl rfl rfl (c_X8_isThrown_ hs (d := d - 1) (Nat.le_trans (by decide) hdm) (w := w) (n := n) (mv := mv) (rw := rw) (nx := nx) (b := b) (bt := bt) (kn := kn) (en := en) (dn := dn) (rf := rf) (kk := kk) (th := th) ⟨h19, h20, h21, h22, hbb, hbl, hb3⟩ hn1 hn2 gm gr gx 0 (by first | assumption | omega) (kc := 0) (ks := 0)) hdp (st := []) (Nat.le_of_ble_eq_true rfl) rfl (kr_I fun v6 w6 hv6 hw6 => ?_) kx_I
      obtain ⟨hR6, hFc6⟩ := hw6
      obtain ⟨h19_6, h20_6, h21_6, h22_6, hbb_6, hbl_6, hb3_6⟩ := hR6
      have hF6 := hF.tr hFc6
      subst hv6
      show J X mX8_house d kc ks 18 [some (.ref 19), some (.int a)] [.int (nI 0)] w6 _
      refine J_if_eqN (pc := 18) (tgt := 25) dX8_house_18 (by decide) (by decide) (fun _ => ?_) (fun h => absurd h (by decide))
      refine J_aload_n (pc := 25) dX8_house_25 rfl rfl rfl ?_
      refine J_iload_n (pc := 26) dX8_house_26 rfl rfl ?_
      refine J_callV0 (pc := 27) (M := mX8_house) (as := [.int a]) dX8_house_27 fw_X8_houseNow fl_X8_230 fm_X8_houseNow fe_X8_houseNow h19_6 (by decide) rfl rfl rfl (c_X8_houseNow_atq hs (d := d - 1) (Nat.le_trans (by decide) hdm) (w := w6) (n := n) (mv := mv) (rw := rw) (nx := nx) (b := b) (bt := bt) (kn := kn) (en := en) (dn := dn) (rf := rf) (kk := kk) (th := nI (tW 0 0)) ⟨h19_6, h20_6, h21_6, h22_6, hbb_6, hbl_6, hb3_6⟩ hn1 hn2 gm gr gx a (kc := 0) (ks := 0)) hdp (st := []) (Nat.le_of_ble_eq_true rfl) rfl (kr_P fun v7 hv7 => ?_) kx_I
      have hPv := hv7
      exact J_iret (pc := 30) dX8_house_30 rfl (⟨nI (tW 0 0), ⟨h19_6, h20_6, h21_6, h22_6, hbb_6, hbl_6, hb3_6⟩, hF6, (by first | exact Or.inl ⟨rfl, fun g => (by obtain ⟨k, hk, e⟩ := g; subst e; first | exact absurd (by assumption) (nI_pos (n := k) (by omega)) | exact absurd ((nI_leI (a := k) (b := 2) (by omega) (by omega)).mpr (by omega)) (by assumption))⟩ | exact Or.inr ⟨rfl, isN_3 (by assumption) (by assumption), hPv⟩)⟩)
    · refine J_iconst (pc := 10) (v := nI 1) dX8_house_10 (by decide) ?_
      refine J_goto (pc := 11) (tgt := 15) dX8_house_11 (by decide) ?_
      refine J_callV0 (pc := 15) (M := mX8_house) (as := [.int (nI 1)]) dX8_house_15 fw_X8_isThrown_ fl_X8_105 fm_X8_isThrown_ fe_X8_isThrown_ h19 (by decide) rfl rfl rfl (c_X8_isThrown_ hs (d := d - 1) (Nat.le_trans (by decide) hdm) (w := w) (n := n) (mv := mv) (rw := rw) (nx := nx) (b := b) (bt := bt) (kn := kn) (en := en) (dn := dn) (rf := rf) (kk := kk) (th := th) ⟨h19, h20, h21, h22, hbb, hbl, hb3⟩ hn1 hn2 gm gr gx 1 (by first | assumption | omega) (kc := 0) (ks := 0)) hdp (st := []) (Nat.le_of_ble_eq_true rfl) rfl (kr_I fun v8 w8 hv8 hw8 => ?_) kx_I
      obtain ⟨hR8, hFc8⟩ := hw8
      obtain ⟨h19_8, h20_8, h21_8, h22_8, hbb_8, hbl_8, hb3_8⟩ := hR8
      have hF8 := hF.tr hFc8
      subst hv8
      show J X mX8_house d kc ks 18 [some (.ref 19), some (.int a)] [.int (nI 1)] w8 _
      refine J_if_eqN (pc := 18) (tgt := 25) dX8_house_18 (by decide) (by decide) (fun h => absurd h (by decide)) (fun _ => ?_)
      refine J_iconst (pc := 21) (v := nI 0) dX8_house_21 (by decide) ?_
      refine J_goto (pc := 22) (tgt := 30) dX8_house_22 (by decide) ?_
      exact J_iret (pc := 30) dX8_house_30 rfl (⟨nI (tW 1 0), ⟨h19_8, h20_8, h21_8, h22_8, hbb_8, hbl_8, hb3_8⟩, hF8, (by first | exact Or.inl ⟨rfl, fun g => (by obtain ⟨k, hk, e⟩ := g; subst e; first | exact absurd (by assumption) (nI_pos (n := k) (by omega)) | exact absurd ((nI_leI (a := k) (b := 2) (by omega) (by omega)).mpr (by omega)) (by assumption))⟩ | exact Or.inr ⟨rfl, isN_3 (by assumption) (by assumption), hPv⟩)⟩)
end
section
/-! where points come to, parts: the reference, exactly -/
/-- the labels that were seen -/
def LBs (rw : Nat → Nat) (z c : Nat) : Prop := z < 2 ^ 7 ∧ ∀ v, z.testBit v = true ↔ ∃ p, p < c ∧ rw p = v
theorem LBs_0 {rw : Nat → Nat} : LBs rw 0 0 := ⟨by decide, fun v => by
  rw [Nat.zero_testBit]
  exact ⟨fun h => absurd h (by decide), fun ⟨p, hp, _⟩ => absurd hp (Nat.not_lt_zero p)⟩⟩
theorem LBs_s {rw : Nat → Nat} {z c : Nat} (h : LBs rw z c) (h7 : rw c < 7) : LBs rw (z ||| 2 ^ rw c) (c + 1) := ⟨Nat.or_lt_two_pow h.1 (Nat.pow_lt_pow_right (by decide) h7), fun v => by
  rw [set_bit, Bool.or_eq_true, h.2 v, decide_eq_true_eq]
  constructor
  · rintro (⟨p, hp, e⟩ | e)
    · exact ⟨p, by omega, e⟩
    · exact ⟨c, Nat.lt_succ_self c, e⟩
  · rintro ⟨p, hp, e⟩
    by_cases q : p = c
    · rw [q] at e; exact Or.inr e
    · exact Or.inl ⟨p, by omega, e⟩⟩
theorem blk_ct {n : Nat} {rw : Nat → Nat} {B : Nat → Nat → Prop} {z c : Nat} (h1 : 1 ≤ n) (hn : n ≤ 7) (hl : RLb n rw) (hr : ∀ p q, p < n → q < n → (rw p = rw q ↔ B p q)) (hz : LBs rw z c) (hc : c = n) : pc32 (nI z) = ct (fun p => ∀ q, q < p → ¬ B p q) n := by
  subst hc
  rw [pc32_nI (Nat.lt_trans hz.1 (by decide))]
  have hb : ∀ v, z.testBit v = true ↔ (v < c ∧ rw v = v) := fun v => (hz.2 v).trans ⟨fun ⟨p, hp, e⟩ => by rw [← e]; exact hl p hp, fun ⟨hv, e⟩ => ⟨v, hv, e⟩⟩
  have e1 : cnt (fun v => z.testBit v) 32 = cnt (fun v => z.testBit v) c := by
    have := cnt_ext (n := c) (P := fun v => z.testBit v) (fun i hi => bt_f (fun g => by have := ((hb i).mp g).1; omega)) (32 - c)
    rw [show c + (32 - c) = 32 by omega] at this
    exact this
  have e2 : ct (fun p => rw p = p) c = cnt (fun v => z.testBit v) c := ct_cnt c (fun p hp => ⟨fun e => (hb p).mpr ⟨hp, e⟩, fun e => ((hb p).mp e).2⟩)
  rw [e1, ← e2, rep_ct (E := fun p q => rw p = rw q) (F := fun p => rw p = p) (G := fun p => ∀ q, q < p → ¬ rw p = rw q) (fun p q e => e.symm) (fun p hp => ⟨rw p, (hl p hp).1, (hl p hp).2, (hl p hp).2.symm, fun w _ e1 e2 => (e2.trans e1).symm⟩) (fun p hp => by
    obtain ⟨m, m1, m2, m3⟩ := lst_ex (rw := rw) p p (Nat.le_refl p)
    refine ⟨m, by omega, m3, m2, fun w _ w1 w2 => ?_⟩
    by_cases q : w = m
    · exact q
    · by_cases q2 : w < m
      · exact absurd (m2.symm.trans w2) (m3 w q2)
      · exact absurd (w2.symm.trans m2) (w1 m (by omega)))]
  exact ct_iff (fun p hp => ⟨fun h q hq e => h q hq ((hr p q hp (by omega)).mpr e), fun h q hq e => h q hq ((hr p q hp (by omega)).mp e)⟩)
set_option maxRecDepth 100000 in
set_option maxHeartbeats 40000000 in
theorem c_X8_comesNow_atx {X : jX} (hs : X.1.stackTraces = false) {d : Nat} (hd : 1 ≤ d) {n : Nat} {mv rw nx : Nat → Nat} {b : Nat} {bt : List Int32} {kn en dn rf kk th : Int32} {w : List jC} (hR : RM n mv rw nx b bt kn en dn rf kk th w) (hn1 : 2 ≤ n) (hn2 : n ≤ 7) (gm : ∀ i, mv i < 7) (gr : ∀ i, rw i < 7) (gx : ∀ i, nx i < 7) (s : Nat) (a : Nat) (hy0 : s < 64) (hy1 : a < n) (hy2 : PM n mv) {kc ks : Nat} : jMet X mX8_comesNow d kc ks [.ref 19, .int (nI s), .int (nI a)] w (pI (fun v => v = nI (sBv (Omr n mv s a) n)) (fun w' => w' = w)) := by
  refine jMet_of hs (by decide +kernel) (Nat.le_of_ble_eq_true rfl) (L := [some (.ref 19), some (.int (nI s)), some (.int (nI a)), none, none, none, none]) rfl ?_
  have hdm : 0 ≤ d - 1 := by omega
  have hdp : d - 1 + 1 ≤ d := by omega
  have hfc := fc_7 hn2
  have hfp := fc_pos n
  obtain ⟨h19, h20, h21, h22, hbb, hbl, hb3⟩ := hR
  have hF : FR b b w w := FR.rf
  refine J_iconst (pc := 0) (v := nI 1) dX8_comesNow_0 (by decide) ?_
  refine J_iload_n (pc := 1) dX8_comesNow_1 rfl rfl ?_
  have h2a : 2 ^ a < 2 ^ 31 := Nat.pow_lt_pow_right (by decide) (by omega)
  refine J_shlOne (pc := 2) dX8_comesNow_2 (by omega) ?_
  refine J_istore_n (pc := 3) dX8_comesNow_3 rfl (by decide) rfl ?_
  show J X mX8_comesNow d kc ks 4 [some (.ref 19), some (.int (nI s)), some (.int (nI a)), some (.int (nI (2 ^ a))), none, none, none] [] w _
  refine J_iconst (pc := 4) (v := nI 0) dX8_comesNow_4 (by decide) ?_
  refine J_istore (pc := 5) dX8_comesNow_5 (by decide) rfl ?_
  show J X mX8_comesNow d kc ks 7 [some (.ref 19), some (.int (nI s)), some (.int (nI a)), some (.int (nI (2 ^ a))), some (.int (nI 0)), none, none] [] w _
  have lp7_1 : ∀ (fuel : Nat) (z3 : Nat) (c4 : Nat), (CW n mv s a z3 c4) → (c4 ≤ n) → (n - c4 < fuel) → J X mX8_comesNow d kc ks 7 [some (.ref 19), some (.int (nI s)), some (.int (nI a)), some (.int (nI z3)), some (.int (nI c4)), none, none] [] w (pI (fun v => v = nI (sBv (Omr n mv s a) n)) (fun w' => w' = w)) := by
    intro fuellp7_1
    induction fuellp7_1 with
    | zero => intros; omega
    | succ fuellp7_1 ihlp7_1 =>
      intro z3 c4 hv7_0 hv7_1 hf2
      refine J_iload (pc := 7) dX8_comesNow_7 rfl ?_
      refine J_aload_n (pc := 9) dX8_comesNow_9 rfl rfl rfl ?_
      refine J_get (pc := 10) (k := 0) dX8_comesNow_10 kC9 (by decide) ff_X8_7 h19 rfl ?_
      refine J_icmp_geN (pc := 13) (tgt := 91) dX8_comesNow_13 (by decide) (by omega) (by omega) (fun ht3 => ?_) (fun hf4 => ?_)
      · refine J_iload_n (pc := 91) dX8_comesNow_91 rfl rfl ?_
        exact J_iret (pc := 92) dX8_comesNow_92 rfl ⟨(congrArg nI (by exact CW_end hn2 hv7_0 (by omega))), rfl⟩
      · refine J_iconst (pc := 16) (v := nI 0) dX8_comesNow_16 (by decide) ?_
        refine J_istore (pc := 17) dX8_comesNow_17 (by decide) rfl ?_
        show J X mX8_comesNow d kc ks 19 [some (.ref 19), some (.int (nI s)), some (.int (nI a)), some (.int (nI z3)), some (.int (nI c4)), some (.int (nI 0)), none] [] w _
        have lp19_5 : ∀ (fuel : Nat) (y3 : Nat) (c5 : Nat), (CV n mv s a z3 y3 c5) → (c5 ≤ 6) → (6 - c5 < fuel) → J X mX8_comesNow d kc ks 19 [some (.ref 19), some (.int (nI s)), some (.int (nI a)), some (.int (nI y3)), some (.int (nI c4)), some (.int (nI c5)), none] [] w (pI (fun v => v = nI (sBv (Omr n mv s a) n)) (fun w' => w' = w)) := by
          intro fuellp19_5
          induction fuellp19_5 with
          | zero => intros; omega
          | succ fuellp19_5 ihlp19_5 =>
            intro y3 c5 hv19_0 hv19_1 hf6
            refine J_iload (pc := 19) dX8_comesNow_19 rfl ?_
            refine J_bipush (pc := 21) (v := nI 6) dX8_comesNow_21 (by decide) ?_
            refine J_icmp_geN (pc := 23) (tgt := 85) dX8_comesNow_23 (by decide) (by omega) (by omega) (fun ht7 => ?_) (fun hf8 => ?_)
            · refine J_iincN (pc := 85) (b := 1) dX8_comesNow_85 rfl (by decide) (by decide) rfl ?_
              show J X mX8_comesNow d kc ks 88 [some (.ref 19), some (.int (nI s)), some (.int (nI a)), some (.int (nI y3)), some (.int (nI (c4 + 1))), some (.int (nI c5)), none] [] w _
              refine J_goto (pc := 88) (tgt := 7) dX8_comesNow_88 (by decide) ?_
              exact J_sub (L' := [some (.ref 19), some (.int (nI s)), some (.int (nI a)), some (.int (nI y3)), some (.int (nI (c4 + 1))), none, none]) ⟨rfl, ⟨rfl, ⟨rfl, ⟨rfl, ⟨rfl, trivial⟩⟩⟩⟩⟩ (ihlp7_1 y3 (c4 + 1) (by exact CW_s hv7_0 hv19_0 (by omega)) (by first | assumption | omega) (by omega))
            · refine J_iload_n (pc := 26) dX8_comesNow_26 rfl rfl ?_
              refine J_iload (pc := 27) dX8_comesNow_27 rfl ?_
              refine J_ishrN (pc := 29) dX8_comesNow_29 (by omega) (by omega) ?_
              refine J_iconst (pc := 30) (v := nI 1) dX8_comesNow_30 (by decide) ?_
              have hm9 := Nat.mod_lt (s / 2 ^ c5) (show 0 < 2 ^ 1 by decide)
              have hm10 := Nat.div_le_self s (2 ^ c5)
              refine J_iandN (pc := 31) 1 dX8_comesNow_31 (by omega) (by decide) ?_
              refine J_if_neN (pc := 32) (tgt := 38) dX8_comesNow_32 (by decide) (by omega) (fun ht11 => ?_) (fun hf12 => ?_)
              · refine J_iconst (pc := 38) (v := nI 0) dX8_comesNow_38 (by decide) ?_
                refine J_istore (pc := 39) dX8_comesNow_39 (by decide) rfl ?_
                show J X mX8_comesNow d kc ks 41 [some (.ref 19), some (.int (nI s)), some (.int (nI a)), some (.int (nI y3)), some (.int (nI c4)), some (.int (nI c5)), some (.int (nI 0))] [] w _
                have lp41_13 : ∀ (fuel : Nat) (x3 : Nat) (c6 : Nat), (CU n mv s a z3 x3 c5 c6) → (c6 ≤ n) → (n - c6 < fuel) → J X mX8_comesNow d kc ks 41 [some (.ref 19), some (.int (nI s)), some (.int (nI a)), some (.int (nI x3)), some (.int (nI c4)), some (.int (nI c5)), some (.int (nI c6))] [] w (pI (fun v => v = nI (sBv (Omr n mv s a) n)) (fun w' => w' = w)) := by
                  intro fuellp41_13
                  induction fuellp41_13 with
                  | zero => intros; omega
                  | succ fuellp41_13 ihlp41_13 =>
                    intro x3 c6 hv41_0 hv41_1 hf14
                    refine J_iload (pc := 41) dX8_comesNow_41 rfl ?_
                    refine J_aload_n (pc := 43) dX8_comesNow_43 rfl rfl rfl ?_
                    refine J_get (pc := 44) (k := 0) dX8_comesNow_44 kC9 (by decide) ff_X8_7 h19 rfl ?_
                    refine J_icmp_geN (pc := 47) (tgt := 79) dX8_comesNow_47 (by decide) (by omega) (by omega) (fun ht15 => ?_) (fun hf16 => ?_)
                    · refine J_iincN (pc := 79) (b := 1) dX8_comesNow_79 rfl (by decide) (by decide) rfl ?_
                      show J X mX8_comesNow d kc ks 82 [some (.ref 19), some (.int (nI s)), some (.int (nI a)), some (.int (nI x3)), some (.int (nI c4)), some (.int (nI (c5 + 1))), some (.int (nI c6))] [] w _
                      refine J_goto (pc := 82) (tgt := 19) dX8_comesNow_82 (by decide) ?_
                      exact J_sub (L' := [some (.ref 19), some (.int (nI s)), some (.int (nI a)), some (.int (nI x3)), some (.int (nI c4)), some (.int (nI (c5 + 1))), none]) ⟨rfl, ⟨rfl, ⟨rfl, ⟨rfl, ⟨rfl, ⟨rfl, trivial⟩⟩⟩⟩⟩⟩ (ihlp19_5 x3 (c5 + 1) (by first | exact CV_s hv41_0 (by omega) | exact CV_n hv19_0 (tb_0 (by omega))) (by first | assumption | omega) (by omega))
                    · have hm7 := hv41_0.1.1
                      refine J_iload_n (pc := 50) dX8_comesNow_50 rfl rfl ?_
                      refine J_iload (pc := 51) dX8_comesNow_51 rfl ?_
                      refine J_ishrN (pc := 53) dX8_comesNow_53 (by omega) (by omega) ?_
                      refine J_iconst (pc := 54) (v := nI 1) dX8_comesNow_54 (by decide) ?_
                      have hm17 := Nat.mod_lt (x3 / 2 ^ c6) (show 0 < 2 ^ 1 by decide)
                      have hm18 := Nat.div_le_self x3 (2 ^ c6)
                      refine J_iandN (pc := 55) 1 dX8_comesNow_55 (by omega) (by decide) ?_
                      refine J_iconst (pc := 56) (v := nI 1) dX8_comesNow_56 (by decide) ?_
                      refine J_icmp_neN (pc := 57) (tgt := 73) dX8_comesNow_57 (by decide) (by omega) (by omega) (fun ht19 => ?_) (fun hf20 => ?_)
                      · refine J_iincN (pc := 73) (b := 1) dX8_comesNow_73 rfl (by decide) (by decide) rfl ?_
                        show J X mX8_comesNow d kc ks 76 [some (.ref 19), some (.int (nI s)), some (.int (nI a)), some (.int (nI x3)), some (.int (nI c4)), some (.int (nI c5)), some (.int (nI (c6 + 1)))] [] w _
                        refine J_goto (pc := 76) (tgt := 41) dX8_comesNow_76 (by decide) ?_
                        exact J_sub (L' := [some (.ref 19), some (.int (nI s)), some (.int (nI a)), some (.int (nI x3)), some (.int (nI c4)), some (.int (nI c5)), some (.int (nI (c6 + 1)))]) ⟨rfl, ⟨rfl, ⟨rfl, ⟨rfl, ⟨rfl, ⟨rfl, ⟨rfl, trivial⟩⟩⟩⟩⟩⟩⟩ (ihlp41_13 x3 (c6 + 1) (by first | exact CU_y hv41_0 (tb_1 (by assumption)) (by omega) (by omega) (tb_1 (by omega)) rfl hgn hn2 | exact CU_n hv41_0 (fun g => absurd g (bf (tb_0 (by assumption))))) (by first | assumption | omega) (by omega))
                      · refine J_iload_n (pc := 60) dX8_comesNow_60 rfl rfl ?_
                        refine J_iconst (pc := 61) (v := nI 1) dX8_comesNow_61 (by decide) ?_
                        refine J_aload_n (pc := 62) dX8_comesNow_62 rfl rfl rfl ?_
                        refine J_iload (pc := 63) dX8_comesNow_63 rfl ?_
                        refine J_iload (pc := 65) dX8_comesNow_65 rfl ?_
                        refine J_callV0 (pc := 67) (M := mX8_comesNow) (as := [.int (nI c5), .int (nI c6)]) dX8_comesNow_67 fw_X8_at fl_X8_82 fm_X8_at fe_X8_at h19 (by decide) rfl rfl rfl (c_X8_at hs (d := d - 1) (Nat.le_trans (by decide) hdm) (w := w) (n := n) (mv := mv) (rw := rw) (nx := nx) (b := b) (bt := bt) (kn := kn) (en := en) (dn := dn) (rf := rf) (kk := kk) (th := th) ⟨h19, h20, h21, h22, hbb, hbl, hb3⟩ hn1 hn2 gm gr gx c5 c6 (by first | assumption | omega) (by first | assumption | omega) (kc := 0) (ks := 0)) hdp (st := [.int (nI 1), .int (nI x3)]) (Nat.le_of_ble_eq_true rfl) rfl (kr_P fun v21 hv21 => ?_) kx_I
                        subst hv21
                        have hq22 := gm (c5 * 7 + c6)
                        have hgn := (hy2 c5 (by omega)).1 c6 (by omega)
                        have h2g : 2 ^ mv (c5 * 7 + c6) < 2 ^ 31 := Nat.pow_lt_pow_right (by decide) (by omega)
                        refine J_shlOne (pc := 70) dX8_comesNow_70 (by omega) ?_
                        refine J_iorN (pc := 71) dX8_comesNow_71 (by omega) (by omega) ?_
                        refine J_istore_n (pc := 72) dX8_comesNow_72 rfl (by decide) rfl ?_
                        show J X mX8_comesNow d kc ks 73 [some (.ref 19), some (.int (nI s)), some (.int (nI a)), some (.int (nI (x3 ||| (2 ^ (mv (c5 * 7 + c6)))))), some (.int (nI c4)), some (.int (nI c5)), some (.int (nI c6))] [] w _
                        refine J_iincN (pc := 73) (b := 1) dX8_comesNow_73 rfl (by decide) (by decide) rfl ?_
                        show J X mX8_comesNow d kc ks 76 [some (.ref 19), some (.int (nI s)), some (.int (nI a)), some (.int (nI (x3 ||| (2 ^ (mv (c5 * 7 + c6)))))), some (.int (nI c4)), some (.int (nI c5)), some (.int (nI (c6 + 1)))] [] w _
                        refine J_goto (pc := 76) (tgt := 41) dX8_comesNow_76 (by decide) ?_
                        exact J_sub (L' := [some (.ref 19), some (.int (nI s)), some (.int (nI a)), some (.int (nI (x3 ||| (2 ^ (mv (c5 * 7 + c6)))))), some (.int (nI c4)), some (.int (nI c5)), some (.int (nI (c6 + 1)))]) ⟨rfl, ⟨rfl, ⟨rfl, ⟨rfl, ⟨rfl, ⟨rfl, ⟨rfl, trivial⟩⟩⟩⟩⟩⟩⟩ (ihlp41_13 (x3 ||| (2 ^ (mv (c5 * 7 + c6)))) (c6 + 1) (by first | exact CU_y hv41_0 (tb_1 (by assumption)) (by omega) (by omega) (tb_1 (by omega)) rfl hgn hn2 | exact CU_n hv41_0 (fun g => absurd g (bf (tb_0 (by assumption))))) (by first | assumption | omega) (by omega))
                exact J_sub (L' := [some (.ref 19), some (.int (nI s)), some (.int (nI a)), some (.int (nI y3)), some (.int (nI c4)), some (.int (nI c5)), some (.int (nI 0))]) ⟨rfl, ⟨rfl, ⟨rfl, ⟨rfl, ⟨rfl, ⟨rfl, ⟨rfl, trivial⟩⟩⟩⟩⟩⟩⟩ (lp41_13 _ y3 0 (by exact CU_0 hv19_0) (by first | assumption | omega) (Nat.lt_succ_self _))
              · refine J_goto (pc := 35) (tgt := 79) dX8_comesNow_35 (by decide) ?_
                refine J_iincN (pc := 79) (b := 1) dX8_comesNow_79 rfl (by decide) (by decide) rfl ?_
                show J X mX8_comesNow d kc ks 82 [some (.ref 19), some (.int (nI s)), some (.int (nI a)), some (.int (nI y3)), some (.int (nI c4)), some (.int (nI (c5 + 1))), none] [] w _
                refine J_goto (pc := 82) (tgt := 19) dX8_comesNow_82 (by decide) ?_
                exact J_sub (L' := [some (.ref 19), some (.int (nI s)), some (.int (nI a)), some (.int (nI y3)), some (.int (nI c4)), some (.int (nI (c5 + 1))), none]) ⟨rfl, ⟨rfl, ⟨rfl, ⟨rfl, ⟨rfl, ⟨rfl, trivial⟩⟩⟩⟩⟩⟩ (ihlp19_5 y3 (c5 + 1) (by first | exact CV_s hv41_0 (by omega) | exact CV_n hv19_0 (tb_0 (by omega))) (by first | assumption | omega) (by omega))
        exact J_sub (L' := [some (.ref 19), some (.int (nI s)), some (.int (nI a)), some (.int (nI z3)), some (.int (nI c4)), some (.int (nI 0)), none]) ⟨rfl, ⟨rfl, ⟨rfl, ⟨rfl, ⟨rfl, ⟨rfl, trivial⟩⟩⟩⟩⟩⟩ (lp19_5 _ z3 0 (by exact CV_0 hv7_0) (by first | assumption | omega) (Nat.lt_succ_self _))
  exact J_sub (L' := [some (.ref 19), some (.int (nI s)), some (.int (nI a)), some (.int (nI (2 ^ a))), some (.int (nI 0)), none, none]) ⟨rfl, ⟨rfl, ⟨rfl, ⟨rfl, ⟨rfl, trivial⟩⟩⟩⟩⟩ (lp7_1 _ (2 ^ a) 0 (by exact CW_0 hn2 hy1) (by first | assumption | omega) (Nat.lt_succ_self _))
set_option maxRecDepth 100000 in
set_option maxHeartbeats 40000000 in
theorem c_X8_piecesNow_atx {X : jX} (hs : X.1.stackTraces = false) {d : Nat} (hd : 2 ≤ d) {n : Nat} {mv rw nx : Nat → Nat} {b : Nat} {bt : List Int32} {kn en dn rf kk th : Int32} {w : List jC} (hR : RM n mv rw nx b bt kn en dn rf kk th w) (hn1 : 2 ≤ n) (hn2 : n ≤ 7) (gm : ∀ i, mv i < 7) (gr : ∀ i, rw i < 7) (gx : ∀ i, nx i < 7) (s : Nat) (hy0 : s < 64) (hy1 : PM n mv) {kc ks : Nat} : jMet X mX8_piecesNow d kc ks [.ref 19, .int (nI s)] w (pI (fun v => v = nI (ct (fun p => ∀ q, q < p → ¬ Omr n mv s p q) n)) (fun w' => w' = w)) := by
  refine jMet_of hs (by decide +kernel) (Nat.le_of_ble_eq_true rfl) (L := [some (.ref 19), some (.int (nI s)), none, none]) rfl ?_
  have hdm : 1 ≤ d - 1 := by omega
  have hdp : d - 1 + 1 ≤ d := by omega
  have hfc := fc_7 hn2
  have hfp := fc_pos n
  obtain ⟨h19, h20, h21, h22, hbb, hbl, hb3⟩ := hR
  have hF : FR b b w w := FR.rf
  refine J_iconst (pc := 0) (v := nI 0) dX8_piecesNow_0 (by decide) ?_
  refine J_istore_n (pc := 1) dX8_piecesNow_1 rfl (by decide) rfl ?_
  show J X mX8_piecesNow d kc ks 2 [some (.ref 19), some (.int (nI s)), some (.int (nI 0)), none] [] w _
  refine J_iconst (pc := 2) (v := nI 0) dX8_piecesNow_2 (by decide) ?_
  refine J_istore_n (pc := 3) dX8_piecesNow_3 rfl (by decide) rfl ?_
  show J X mX8_piecesNow d kc ks 4 [some (.ref 19), some (.int (nI s)), some (.int (nI 0)), some (.int (nI 0))] [] w _
  have lp4_1 : ∀ (fuel : Nat) (y2 : Nat) (c3 : Nat), (y2 = ct (fun p => ∀ q, q < p → ¬ Omr n mv s p q) c3) → (c3 ≤ n) → (n - c3 < fuel) → J X mX8_piecesNow d kc ks 4 [some (.ref 19), some (.int (nI s)), some (.int (nI y2)), some (.int (nI c3))] [] w (pI (fun v => v = nI (ct (fun p => ∀ q, q < p → ¬ Omr n mv s p q) n)) (fun w' => w' = w)) := by
    intro fuellp4_1
    induction fuellp4_1 with
    | zero => intros; omega
    | succ fuellp4_1 ihlp4_1 =>
      intro y2 c3 hv4_0 hv4_1 hf2
      refine J_iload_n (pc := 4) dX8_piecesNow_4 rfl rfl ?_
      refine J_aload_n (pc := 5) dX8_piecesNow_5 rfl rfl rfl ?_
      refine J_get (pc := 6) (k := 0) dX8_piecesNow_6 kC9 (by decide) ff_X8_7 h19 rfl ?_
      refine J_icmp_geN (pc := 9) (tgt := 41) dX8_piecesNow_9 (by decide) (by omega) (by omega) (fun ht3 => ?_) (fun hf4 => ?_)
      · refine J_iload_n (pc := 41) dX8_piecesNow_41 rfl rfl ?_
        exact J_iret (pc := 42) dX8_piecesNow_42 rfl ⟨(congrArg nI (by rw [hv4_0, show c3 = n by omega])), rfl⟩
      · refine J_iload_n (pc := 12) dX8_piecesNow_12 rfl rfl ?_
        refine J_aload_n (pc := 13) dX8_piecesNow_13 rfl rfl rfl ?_
        refine J_iload_n (pc := 14) dX8_piecesNow_14 rfl rfl ?_
        refine J_iload_n (pc := 15) dX8_piecesNow_15 rfl rfl ?_
        refine J_callV0 (pc := 16) (M := mX8_piecesNow) (as := [.int (nI s), .int (nI c3)]) dX8_piecesNow_16 fw_X8_comesNow fl_X8_188 fm_X8_comesNow fe_X8_comesNow h19 (by decide) rfl rfl rfl (c_X8_comesNow_atx hs (d := d - 1) (Nat.le_trans (by decide) hdm) (w := w) (n := n) (mv := mv) (rw := rw) (nx := nx) (b := b) (bt := bt) (kn := kn) (en := en) (dn := dn) (rf := rf) (kk := kk) (th := th) ⟨h19, h20, h21, h22, hbb, hbl, hb3⟩ hn1 hn2 gm gr gx s c3 (by first | assumption | omega) (by first | assumption | omega) (by first | assumption | omega) (kc := 0) (ks := 0)) hdp (st := [.int (nI y2)]) (Nat.le_of_ble_eq_true rfl) rfl (kr_P fun v5 hv5 => ?_) kx_I
        subst hv5
        have h31 := sBv_31 (P := Omr n mv s c3) hn2
        have h1p : 1 ≤ 2 ^ c3 := Nat.one_le_two_pow
        refine J_iconst (pc := 19) (v := nI 1) dX8_piecesNow_19 (by decide) ?_
        refine J_iload_n (pc := 20) dX8_piecesNow_20 rfl rfl ?_
        refine J_shlOne (pc := 21) dX8_piecesNow_21 (by omega) ?_
        refine J_iconst (pc := 22) (v := nI 1) dX8_piecesNow_22 (by decide) ?_
        refine J_isubN (pc := 23) dX8_piecesNow_23 (by omega) ?_
        refine J_iandP (pc := 24) dX8_piecesNow_24 (by omega) (by omega) ?_
        have hml := Nat.mod_le (sBv (Omr n mv s c3) n) (2 ^ c3)
        refine J_if_neN (pc := 25) (tgt := 32) dX8_piecesNow_25 (by decide) (by omega) (fun ht6 => ?_) (fun hf7 => ?_)
        · refine J_iconst (pc := 32) (v := nI 0) dX8_piecesNow_32 (by decide) ?_
          refine J_iaddN (pc := 33) dX8_piecesNow_33 ?_
          refine J_istore_n (pc := 34) dX8_piecesNow_34 rfl (by decide) rfl ?_
          show J X mX8_piecesNow d kc ks 35 [some (.ref 19), some (.int (nI s)), some (.int (nI (y2 + 0))), some (.int (nI c3))] [] w _
          refine J_iincN (pc := 35) (b := 1) dX8_piecesNow_35 rfl (by decide) (by decide) rfl ?_
          show J X mX8_piecesNow d kc ks 38 [some (.ref 19), some (.int (nI s)), some (.int (nI (y2 + 0))), some (.int (nI (c3 + 1)))] [] w _
          refine J_goto (pc := 38) (tgt := 4) dX8_piecesNow_38 (by decide) ?_
          exact J_sub (L' := [some (.ref 19), some (.int (nI s)), some (.int (nI (y2 + 0))), some (.int (nI (c3 + 1)))]) ⟨rfl, ⟨rfl, ⟨rfl, ⟨rfl, trivial⟩⟩⟩⟩ (ihlp4_1 (y2 + 0) (c3 + 1) (by rw [hv4_0]; first | exact ct_y ((sBv_low (n := n) (by omega)).mp (by assumption)) | exact ct_n (fun e => absurd ((sBv_low (n := n) (by omega)).mpr e) (by assumption))) (by first | assumption | omega) (by omega))
        · refine J_iconst (pc := 28) (v := nI 1) dX8_piecesNow_28 (by decide) ?_
          refine J_goto (pc := 29) (tgt := 33) dX8_piecesNow_29 (by decide) ?_
          refine J_iaddN (pc := 33) dX8_piecesNow_33 ?_
          refine J_istore_n (pc := 34) dX8_piecesNow_34 rfl (by decide) rfl ?_
          show J X mX8_piecesNow d kc ks 35 [some (.ref 19), some (.int (nI s)), some (.int (nI (y2 + 1))), some (.int (nI c3))] [] w _
          refine J_iincN (pc := 35) (b := 1) dX8_piecesNow_35 rfl (by decide) (by decide) rfl ?_
          show J X mX8_piecesNow d kc ks 38 [some (.ref 19), some (.int (nI s)), some (.int (nI (y2 + 1))), some (.int (nI (c3 + 1)))] [] w _
          refine J_goto (pc := 38) (tgt := 4) dX8_piecesNow_38 (by decide) ?_
          exact J_sub (L' := [some (.ref 19), some (.int (nI s)), some (.int (nI (y2 + 1))), some (.int (nI (c3 + 1)))]) ⟨rfl, ⟨rfl, ⟨rfl, ⟨rfl, trivial⟩⟩⟩⟩ (ihlp4_1 (y2 + 1) (c3 + 1) (by rw [hv4_0]; first | exact ct_y ((sBv_low (n := n) (by omega)).mp (by assumption)) | exact ct_n (fun e => absurd ((sBv_low (n := n) (by omega)).mpr e) (by assumption))) (by first | assumption | omega) (by omega))
  exact J_sub (L' := [some (.ref 19), some (.int (nI s)), some (.int (nI 0)), some (.int (nI 0))]) ⟨rfl, ⟨rfl, ⟨rfl, ⟨rfl, trivial⟩⟩⟩⟩ (lp4_1 _ 0 0 (by rfl) (by first | assumption | omega) (Nat.lt_succ_self _))
set_option maxRecDepth 100000 in
set_option maxHeartbeats 40000000 in
theorem c_X8_pieces_ate {X : jX} (hs : X.1.stackTraces = false) {d : Nat} (hd : 3 ≤ d) {n : Nat} {mv rw nx : Nat → Nat} {b : Nat} {bt : List Int32} {kn en dn rf kk th : Int32} {w : List jC} (hR : RM n mv rw nx b bt kn en dn rf kk th w) (hn1 : 2 ≤ n) (hn2 : n ≤ 7) (gm : ∀ i, mv i < 7) (gr : ∀ i, rw i < 7) (gx : ∀ i, nx i < 7) (s : Int32) (hy0 : PM n mv) {kc ks : Nat} : jMet X mX8_pieces d kc ks [.ref 19, .int s] w (pJ (fun v w' => ∃ (th' : Int32), RM n mv rw nx b bt kn en dn rf kk th' w' ∧ FR b b w w' ∧ ((th' = nI 1 ∧ ¬ (isN s 64)) ∨ (th' = nI 0 ∧ ∃ a1 : Nat, s = nI a1 ∧ a1 < 64 ∧ v = nI (ct (fun p => ∀ q, q < p → ¬ Omr n mv a1 p q) n))))) := by
  refine jMet_of hs (by decide +kernel) (Nat.le_of_ble_eq_true rfl) (L := [some (.ref 19), some (.int s)]) rfl ?_
  have hdm : 2 ≤ d - 1 := by omega
  have hdp : d - 1 + 1 ≤ d := by omega
  have hfc := fc_7 hn2
  have hfp := fc_pos n
  obtain ⟨h19, h20, h21, h22, hbb, hbl, hb3⟩ := hR
  have hF : FR b b w w := FR.rf
  refine J_aload_n (pc := 0) dX8_pieces_0 rfl rfl rfl ?_
  refine J_iload_n (pc := 1) dX8_pieces_1 rfl rfl ?_
  refine J_callS0 (pc := 2) (M := mX8_pieces) (as := [.int s]) dX8_pieces_2 fw_X8_isSet fl_X8_134 fs_X8_isSet rfl (c_X8_isSet hs (d := d - 1) (Nat.le_trans (by decide) hdm) (w := w) s (kc := 0) (ks := 0)) hdp (st := [.ref 19]) (Nat.le_of_ble_eq_true rfl) rfl (kr_P fun v1 hv1 => ?_) kx_I
  rcases hv1 with ⟨rfl, hk1_0⟩ | ⟨q1, rfl, hk1_0, rfl⟩
  · refine J_if_neN (pc := 5) (tgt := 12) dX8_pieces_5 (by decide) (by decide) (fun h => absurd h (by decide)) (fun _ => ?_)
    refine J_iconst (pc := 8) (v := nI 1) dX8_pieces_8 (by decide) ?_
    refine J_goto (pc := 9) (tgt := 13) dX8_pieces_9 (by decide) ?_
    refine J_callV0 (pc := 13) (M := mX8_pieces) (as := [.int (nI 1)]) dX8_pieces_13 fw_X8_isThrown_ fl_X8_105 fm_X8_isThrown_ fe_X8_isThrown_ h19 (by decide) rfl rfl rfl (c_X8_isThrown_ hs (d := d - 1) (Nat.le_trans (by decide) hdm) (w := w) (n := n) (mv := mv) (rw := rw) (nx := nx) (b := b) (bt := bt) (kn := kn) (en := en) (dn := dn) (rf := rf) (kk := kk) (th := th) ⟨h19, h20, h21, h22, hbb, hbl, hb3⟩ hn1 hn2 gm gr gx 1 (by first | assumption | omega) (kc := 0) (ks := 0)) hdp (st := []) (Nat.le_of_ble_eq_true rfl) rfl (kr_I fun v2 w2 hv2 hw2 => ?_) kx_I
    obtain ⟨hR2, hFc2⟩ := hw2
    obtain ⟨h19_2, h20_2, h21_2, h22_2, hbb_2, hbl_2, hb3_2⟩ := hR2
    have hF2 := hF.tr hFc2
    subst hv2
    show J X mX8_pieces d kc ks 16 [some (.ref 19), some (.int s)] [.int (nI 1)] w2 _
    refine J_if_eqN (pc := 16) (tgt := 23) dX8_pieces_16 (by decide) (by decide) (fun h => absurd h (by decide)) (fun _ => ?_)
    refine J_iconst (pc := 19) (v := nI 0) dX8_pieces_19 (by decide) ?_
    refine J_goto (pc := 20) (tgt := 28) dX8_pieces_20 (by decide) ?_
    exact J_iret (pc := 28) dX8_pieces_28 rfl (⟨nI (tW 1 0), ⟨h19_2, h20_2, h21_2, h22_2, hbb_2, hbl_2, hb3_2⟩, hF2, (by first | exact Or.inl ⟨rfl, fun g => (by first | exact ne_isN (by assumption) g | exact ne_isN (by assumption) g.1 | exact ne_isN (by assumption) g.2)⟩ | exact Or.inr ⟨rfl, ⟨_, rfl, (by omega), (by rfl)⟩⟩)⟩)
  · refine J_if_neN (pc := 5) (tgt := 12) dX8_pieces_5 (by decide) (by decide) (fun _ => ?_) (fun h => absurd h (by decide))
    refine J_iconst (pc := 12) (v := nI 0) dX8_pieces_12 (by decide) ?_
    refine J_callV0 (pc := 13) (M := mX8_pieces) (as := [.int (nI 0)]) dX8_pieces_13 fw_X8_isThrown_ fl_X8_105 fm_X8_isThrown_ fe_X8_isThrown_ h19 (by decide) rfl rfl rfl (c_X8_isThrown_ hs (d := d - 1) (Nat.le_trans (by decide) hdm) (w := w) (n := n) (mv := mv) (rw := rw) (nx := nx) (b := b) (bt := bt) (kn := kn) (en := en) (dn := dn) (rf := rf) (kk := kk) (th := th) ⟨h19, h20, h21, h22, hbb, hbl, hb3⟩ hn1 hn2 gm gr gx 0 (by first | assumption | omega) (kc := 0) (ks := 0)) hdp (st := []) (Nat.le_of_ble_eq_true rfl) rfl (kr_I fun v3 w3 hv3 hw3 => ?_) kx_I
    obtain ⟨hR3, hFc3⟩ := hw3
    obtain ⟨h19_3, h20_3, h21_3, h22_3, hbb_3, hbl_3, hb3_3⟩ := hR3
    have hF3 := hF.tr hFc3
    subst hv3
    show J X mX8_pieces d kc ks 16 [some (.ref 19), some (.int (nI q1))] [.int (nI 0)] w3 _
    refine J_if_eqN (pc := 16) (tgt := 23) dX8_pieces_16 (by decide) (by decide) (fun _ => ?_) (fun h => absurd h (by decide))
    refine J_aload_n (pc := 23) dX8_pieces_23 rfl rfl rfl ?_
    refine J_iload_n (pc := 24) dX8_pieces_24 rfl rfl ?_
    refine J_callV0 (pc := 25) (M := mX8_pieces) (as := [.int (nI q1)]) dX8_pieces_25 fw_X8_piecesNow fl_X8_191 fm_X8_piecesNow fe_X8_piecesNow h19_3 (by decide) rfl rfl rfl (c_X8_piecesNow_atx hs (d := d - 1) (Nat.le_trans (by decide) hdm) (w := w3) (n := n) (mv := mv) (rw := rw) (nx := nx) (b := b) (bt := bt) (kn := kn) (en := en) (dn := dn) (rf := rf) (kk := kk) (th := nI (tW 0 0)) ⟨h19_3, h20_3, h21_3, h22_3, hbb_3, hbl_3, hb3_3⟩ hn1 hn2 gm gr gx q1 (by first | assumption | omega) (by first | assumption | omega) (kc := 0) (ks := 0)) hdp (st := []) (Nat.le_of_ble_eq_true rfl) rfl (kr_P fun v4 hv4 => ?_) kx_I
    subst hv4
    exact J_iret (pc := 28) dX8_pieces_28 rfl (⟨nI (tW 0 0), ⟨h19_3, h20_3, h21_3, h22_3, hbb_3, hbl_3, hb3_3⟩, hF3, (by first | exact Or.inl ⟨rfl, fun g => (by first | exact ne_isN (by assumption) g | exact ne_isN (by assumption) g.1 | exact ne_isN (by assumption) g.2)⟩ | exact Or.inr ⟨rfl, ⟨_, rfl, (by omega), (by rfl)⟩⟩)⟩)
end
section
/-! what is so between two calls, exactly; acts as relations -/
/-- the number of points, done, refused, knocks, the moves -/
abbrev StX : Type := Nat × Int32 × Int32 × Int32 × (Nat → Nat)
def LCx (S : StX) (w : List jC) : Prop := 2 ≤ S.1 ∧ S.1 ≤ 7 ∧ (∀ c, c < 6 → Mv S.1 (S.2.2.2.2 c)) ∧ HX S.1 S.2.1 S.2.2.1 S.2.2.2.1 S.2.2.2.2 w ∧ SH (rX S.1 S.2.1 S.2.2.1 S.2.2.2.1) w
def LRx (o : Nat) (S : StX) (t : Int32) (w : List jC) : Prop := ∃ (mv rw nx : Nat → Nat) (b : Nat) (bt : List Int32) (kn en : Int32), RM S.1 mv rw nx b bt kn en S.2.1 S.2.2.1 S.2.2.2.1 t w ∧ 2 ≤ S.1 ∧ S.1 ≤ 7 ∧ (∀ i, mv i < 7) ∧ (∀ i, rw i < 7) ∧ (∀ i, nx i < 7) ∧ PM S.1 mv ∧ KX S.1 mv kn bt ∧ RLx S.1 S.2.2.2.2 mv ∧ b ≠ o
def LO (o : Nat) (w : List jC) : Prop := 24 ≤ o ∧ ∃ fs : List Value, w[o]? = some (.inr (8, fs)) ∧ fs.length = 2
def LIx (o : Nat) (S S' : StX) (t : Int32) (w : List jC) : Prop := LCx S w ∧ LRx o S' t w ∧ LO o w
def LI (o : Nat) (S S' : StX) (w : List jC) : Prop := ∃ t, LIx o S S' t w
/-- what lies behind the house is kept -/
def F19 (w w' : List jC) : Prop := w.length ≤ w'.length ∧ ∀ i, 19 ≤ i → i < w.length → w'[i]? = w[i]?
theorem F19.of {w w' : List jC} (h : Fr kX w w') : F19 w w' := ⟨h.1, fun i hi hl => h.2 i (Or.inr hi) hl⟩
theorem F19.H {w w' : List jC} (h : FH w w') : F19 w w' := ⟨h.1, fun i hi hl => h.2 i (by omega) hl⟩
theorem F19.N {w w' : List jC} (h : FN w w') : F19 w w' := ⟨h.1, fun i hi hl => h.2 i (by omega) hl⟩
theorem F19.psh {w : List jC} {cs : List jC} : F19 w (w ++ cs) := ⟨by rw [List.length_append]; omega, fun _ _ hl => List.getElem?_append_left hl⟩
theorem LRx.fr {o : Nat} {S : StX} {t : Int32} {w w' : List jC} (h : LRx o S t w) (hF : F19 w w') : LRx o S t w' := by
  obtain ⟨mv, rw, nx, b, bt, kn, en, ⟨h1, h2, h3, h4, h5, h6, h7⟩, r⟩ := h
  exact ⟨mv, rw, nx, b, bt, kn, en, ⟨(hF.2 19 (by decide) (gl h1)).trans h1, (hF.2 20 (by decide) (gl h2)).trans h2, (hF.2 21 (by decide) (gl h3)).trans h3, (hF.2 22 (by decide) (gl h4)).trans h4, (hF.2 b (by omega) (gl h5)).trans h5, h6, h7⟩, r⟩
theorem LO.fr {o : Nat} {w w' : List jC} (h : LO o w) (hF : F19 w w') : LO o w' := by
  obtain ⟨h0, fs, h1, h2⟩ := h
  exact ⟨h0, fs, (hF.2 o (by omega) (gl h1)).trans h1, h2⟩
theorem LIx.c0 {o : Nat} {S S' : StX} {t : Int32} {w : List jC} (h : LIx o S S' t w) : ∃ fs : List Value, w[0]? = some (.inr (7, fs)) := ⟨_, h.1.2.2.2.1.1⟩
theorem LIx.c19 {o : Nat} {S S' : StX} {t : Int32} {w : List jC} (h : LIx o S S' t w) : ∃ fs : List Value, w[19]? = some (.inr (9, fs)) := by
  obtain ⟨_, ⟨mv, rw, nx, b, bt, kn, en, hR, _⟩, _⟩ := h
  exact ⟨_, hR.1⟩
theorem LI.c0 {o : Nat} {S S' : StX} {w : List jC} (h : LI o S S' w) : ∃ fs : List Value, w[0]? = some (.inr (7, fs)) := by
  obtain ⟨t, h⟩ := h
  exact h.c0
theorem LI.c19 {o : Nat} {S S' : StX} {w : List jC} (h : LI o S S' w) : ∃ fs : List Value, w[19]? = some (.inr (9, fs)) := by
  obtain ⟨t, h⟩ := h
  exact h.c19
/-! the class's side -/
theorem LCx.q {S : StX} {w w' : List jC} (h : LCx S w) (hS : SH (rX S.1 S.2.1 S.2.2.1 S.2.2.2.1) w') (hF : Fr kX w w') : LCx S w' := by
  obtain ⟨a1, a2, a3, ⟨a4, a5⟩, a6⟩ := h
  obtain ⟨_, hc, rfl⟩ := hS 0 _ rfl
  exact ⟨a1, a2, a3, ⟨hc, (hF.2 1 (Or.inl rfl) (gl a5)).trans a5⟩, hS⟩
theorem LI.q {o : Nat} {S S' : StX} {w w' : List jC} (h : LI o S S' w) (hS : SH (rX S.1 S.2.1 S.2.2.1 S.2.2.2.1) w') (hF : Fr kX w w') : LI o S S' w' := by
  obtain ⟨t, h1, h2, h3⟩ := h
  exact ⟨t, h1.q hS hF, h2.fr (F19.of hF), h3.fr (F19.of hF)⟩
theorem LCx.psh {S : StX} {w : List jC} {cs : List jC} (h : LCx S w) : LCx S (w ++ cs) := by
  obtain ⟨a1, a2, a3, ⟨a4, a5⟩, a6⟩ := h
  exact ⟨a1, a2, a3, ⟨(List.getElem?_append_left (gl a4)).trans a4, (List.getElem?_append_left (gl a5)).trans a5⟩, a6.push⟩
theorem LI.psh {o : Nat} {S S' : StX} {w w' : List jC} (h : LI o S S' w) (hw : w' = w ++ [.inr (99, [])]) : LI o S S' w' := by
  subst hw
  obtain ⟨t, h1, h2, h3⟩ := h
  exact ⟨t, h1.psh, h2.fr F19.psh, h3.fr F19.psh⟩
theorem LI.eq {o : Nat} {S S' : StX} {w w' : List jC} (h : LI o S S' w) (hw : w' = w) : LI o S S' w' := by
  obtain rfl := hw.symm
  exact h
/-- the moves' cell -/
theorem tA_aF {k : Nat} {f : Nat → Nat} : tA k (aF k f) := ⟨_, rfl, by rw [List.length_map, List.length_range]⟩
theorem LCx.act {S S2 : StX} {w w' : List jC} (h : LCx S w) (hH : HX S2.1 S2.2.1 S2.2.2.1 S2.2.2.2.1 S2.2.2.2.2 w') (hF : FH w w') (h1 : 2 ≤ S2.1) (h2 : S2.1 ≤ 7) (hM : ∀ c, c < 6 → Mv S2.1 (S2.2.2.2.2 c)) : LCx S2 w' := by
  obtain ⟨_, _, _, _, a6⟩ := h
  refine ⟨h1, h2, hM, hH, fun i p hp => ?_⟩
  match i, hp with
  | 0, hp =>
    cases hp
    exact ⟨_, hH.1, rfl⟩
  | 1, hp =>
    cases hp
    exact ⟨_, hH.2, tA_aF⟩
  | i + 2, hp =>
    obtain ⟨c, hc, h2⟩ := a6 (i + 2) p hp
    exact ⟨c, (hF.2 (i + 2) (by omega) (gl hc)).trans hc, h2⟩
theorem LI.act {o : Nat} {S S2 S' : StX} {w w' : List jC} (h : LI o S S' w) (hH : HX S2.1 S2.2.1 S2.2.2.1 S2.2.2.2.1 S2.2.2.2.2 w') (hF : FH w w') (h1 : 2 ≤ S2.1) (h2 : S2.1 ≤ 7) (hM : ∀ c, c < 6 → Mv S2.1 (S2.2.2.2.2 c)) : LI o S2 S' w' := by
  obtain ⟨t, a1, a2, a3⟩ := h
  exact ⟨t, a1.act hH hF h1 h2 hM, a2.fr (F19.H hF), a3.fr (F19.H hF)⟩
theorem LI.nth {o : Nat} {S S2 S' : StX} {w w' : List jC} {st sv rc sz kw : Nat → Nat} {ns tk ro nn : Nat} (h : LI o S S' w) (hH : HX S2.1 S2.2.1 S2.2.2.1 S2.2.2.2.1 S2.2.2.2.2 w') (hF : FN w w') (hC : CM st sv rc sz kw ns tk ro nn w') (hns : ns ≤ 21) (hnn : nn ≤ 7) (h1 : 2 ≤ S2.1) (h2 : S2.1 ≤ 7) (hM : ∀ c, c < 6 → Mv S2.1 (S2.2.2.2.2 c)) : LI o S2 S' w' := by
  obtain ⟨t, ⟨_, _, _, _, a6⟩, a2, a3⟩ := h
  refine ⟨t, ⟨h1, h2, hM, hH, fun i p hp => ?_⟩, a2.fr (F19.N hF), a3.fr (F19.N hF)⟩
  obtain ⟨c2, c3, c4, c5, c6, c7⟩ := hC
  match i, hp with
  | 0, hp =>
    cases hp
    exact ⟨_, hH.1, rfl⟩
  | 1, hp =>
    cases hp
    exact ⟨_, hH.2, tA_aF⟩
  | 2, hp =>
    cases hp
    exact ⟨_, c2, ns, nn, nI tk, nI ro, rfl, hns, hnn⟩
  | 3, hp =>
    cases hp
    exact ⟨_, c3, tA_aF⟩
  | 4, hp =>
    cases hp
    exact ⟨_, c4, tA_aF⟩
  | 5, hp =>
    cases hp
    exact ⟨_, c5, tA_aF⟩
  | 6, hp =>
    cases hp
    exact ⟨_, c6, tA_aF⟩
  | 7, hp =>
    cases hp
    exact ⟨_, c7, tA_aF⟩
  | i + 8, hp =>
    obtain ⟨c, hc, h2⟩ := a6 (i + 8) p hp
    exact ⟨c, (hF.2 (i + 8) (by omega) (gl hc)).trans hc, h2⟩
/-- a plain list of ints as a function -/
theorem aF_of {k : Nat} {xs : List Int32} (h : xs.length = k) : (.inl (0, xs) : jC) = aF k (fun i => (xs.getD i 0).toBitVec.toNat) := by
  unfold aF
  congr 2
  refine List.ext_getElem (by rw [List.length_map, List.length_range]; exact h) (fun i h1 h2 => ?_)
  rw [List.getElem_map, List.getElem_range, ← nI_self, List.getD_eq_getElem?_getD, List.getElem?_eq_getElem h1]
  rfl
/-- the chain's cells as functions -/
theorem CM_of {S : StX} {w : List jC} (h : LCx S w) : ∃ (st sv rc sz kw : Nat → Nat) (ns tk ro nn : Nat), CM st sv rc sz kw ns tk ro nn w := by
  obtain ⟨_, _, _, _, a6⟩ := h
  obtain ⟨_, c2, a, f, b, g, rfl, _, _⟩ := a6 2 _ rfl
  obtain ⟨_, c3, x3, rfl, l3⟩ := a6 3 _ rfl
  obtain ⟨_, c4, x4, rfl, l4⟩ := a6 4 _ rfl
  obtain ⟨_, c5, x5, rfl, l5⟩ := a6 5 _ rfl
  obtain ⟨_, c6, x6, rfl, l6⟩ := a6 6 _ rfl
  obtain ⟨_, c7, x7, rfl, l7⟩ := a6 7 _ rfl
  rw [aF_of l3] at c3
  rw [aF_of l4] at c4
  rw [aF_of l5] at c5
  rw [aF_of l6] at c6
  rw [aF_of l7] at c7
  rw [nI_self b, nI_self g] at c2
  exact ⟨_, _, _, _, _, _, _, _, _, c2, c3, c4, c5, c6, c7⟩
/-! the reference's side -/
theorem LIx.ref {o : Nat} {S S2 : StX} {t : Int32} {w w' : List jC} {b b' : Nat} {mv rw nx : Nat → Nat} {bt : List Int32} {kn en : Int32} (hC : LCx S w) (hO : LO o w) (h24 : b ≠ o) (hb : 23 ≤ b) (hF : FR b b' w w') (hR : RM S2.1 mv rw nx b' bt kn en S2.2.1 S2.2.2.1 S2.2.2.2.1 t w') (h1 : 2 ≤ S2.1) (h2 : S2.1 ≤ 7)
    (gm : ∀ i, mv i < 7) (gr : ∀ i, rw i < 7) (gx : ∀ i, nx i < 7) (hP : PM S2.1 mv) (hK : KX S2.1 mv kn bt) (hL : RLx S2.1 S2.2.2.2.2 mv) : LIx o S S2 t w' ∧ w'[o]? = w[o]? := by
  obtain ⟨a1, a2, a3, ⟨a4, a5⟩, a6⟩ := hC
  obtain ⟨o0, fs, o1, o2⟩ := hO
  have hl := gl o1
  have hk : ∀ i, i < 19 → w'[i]? = w[i]? := fun i hi => hF.2.2 i (Or.inl hi) (by omega) (by omega)
  have ho := hF.at o1 (by omega) (fun e => h24 e.symm)
  refine ⟨⟨⟨a1, a2, a3, ⟨(hk 0 (by decide)).trans a4, (hk 1 (by decide)).trans a5⟩, a6.keep (fun i hi => hk i hi)⟩, ⟨mv, rw, nx, b', bt, kn, en, hR, h1, h2, gm, gr, gx, hP, hK, hL, ?_⟩, ⟨o0, fs, ho, o2⟩⟩, ho.trans o1.symm⟩
  rcases hF.2.1 with e | e
  · rw [e]; exact h24
  · omega
theorem LI.out {o : Nat} {S S' : StX} {w w' : List jC} {k : Nat} {v : Value} {fs : List Value} (h : LI o S S' w) (hfs : fs.length = 2) (hw : w'[o]? = some (.inr (8, fs.set k v))) (hne : ∀ c, c ≠ o → w'[c]? = w[c]?) : LI o S S' w' := by
  obtain ⟨t, ⟨a1, a2, a3, ⟨a4, a5⟩, a6⟩, ⟨mv, rw, nx, b, bt, kn, en, ⟨b1, b2, b3, b4, b5, b6, b7⟩, c1, c2, c3, c4, c5, c6, c7, c8, c9⟩, ⟨o0, _⟩⟩ := h
  refine ⟨t, ⟨a1, a2, a3, ⟨(hne 0 (by omega)).trans a4, (hne 1 (by omega)).trans a5⟩, a6.keep (fun i hi => ?_)⟩, ⟨mv, rw, nx, b, bt, kn, en, ⟨(hne 19 (by omega)).trans b1, (hne 20 (by omega)).trans b2, (hne 21 (by omega)).trans b3, (hne 22 (by omega)).trans b4, (hne b c9).trans b5, b6, b7⟩, c1, c2, c3, c4, c5, c6, c7, c8, c9⟩, ⟨o0, _, hw, by rw [List.length_set]; exact hfs⟩⟩
  have h19 : i < 19 := hi
  exact hne i (by omega)
/-! acts -/
def AG (G1 G2 : Prop) (D : Int32 → StX → Prop) (S : StX) (k : Nat) (v : Int32) (S' : StX) : Prop := (k = 1 ∧ ¬ G1 ∧ S' = S) ∨ (k = 2 ∧ G1 ∧ ¬ G2 ∧ S' = S) ∨ (k = 0 ∧ G1 ∧ G2 ∧ D v S')
section ACTS
variable {G1 G2 : Prop} {D : Int32 → StX → Prop} {S : StX} {k k' : Nat} {v v' : Int32} {a b : StX}
theorem AG.same (hD : ∀ v v' a b, D v a → D v' b → a = b) (h : AG G1 G2 D S k v a) (h' : AG G1 G2 D S k' v' b) : a = b ∧ k = k' := by
  rcases h with ⟨e, g, s⟩ | ⟨e, g, g2, s⟩ | ⟨e, g, g2, s⟩ <;> rcases h' with ⟨e', g', s'⟩ | ⟨e', g', g2', s'⟩ | ⟨e', g', g2', s'⟩
  · exact ⟨s.trans s'.symm, e.trans e'.symm⟩
  · exact absurd g' g
  · exact absurd g' g
  · exact absurd g g'
  · exact ⟨s.trans s'.symm, e.trans e'.symm⟩
  · exact absurd g2' g2
  · exact absurd g g'
  · exact absurd g2 g2'
  · exact ⟨hD _ _ _ _ s s', e.trans e'.symm⟩
theorem AG.val (hV : ∀ v v' a b, D v a → D v' b → v = v') (h : AG G1 G2 D S k v a) (h' : AG G1 G2 D S k v' b) (h0 : k = 0) : v = v' := by
  rcases h with ⟨e, _⟩ | ⟨e, _⟩ | ⟨_, _, _, s⟩
  · omega
  · omega
  · rcases h' with ⟨e, _⟩ | ⟨e, _⟩ | ⟨_, _, _, s'⟩
    · omega
    · omega
    · exact hV _ _ _ _ s s'
theorem AG.k3 (h : AG G1 G2 D S k v a) : k < 3 := by
  rcases h with ⟨e, _⟩ | ⟨e, _⟩ | ⟨e, _⟩ <;> omega
end ACTS
def ES (S : StX) (a x : Nat) : StX := (S.1, S.2.1 + nI 1, S.2.2.1, S.2.2.2.1, up S.2.2.2.2 a x)
def NS (S : StX) : StX := (S.1, S.2.1, S.2.2.1 + nI 1, S.2.2.2.1, S.2.2.2.2)
def KS (S : StX) : StX := (S.1, S.2.1, S.2.2.1, S.2.2.2.1 + nI 1, S.2.2.2.2)
theorem nI_uq {x : Int32} {a b k : Nat} (ha : x = nI a) (hb : x = nI b) (h1 : a < k) (h2 : b < k) (hk : k ≤ 2 ^ 31 := by omega) : a = b := (nI_eq (by omega) (by omega)).mp (ha.symm.trans hb)
theorem ES_M {S : StX} {a x : Nat} (hM : ∀ c, c < 6 → Mv S.1 (S.2.2.2.2 c)) (hx : Mv S.1 x) : ∀ c, c < 6 → Mv (ES S a x).1 ((ES S a x).2.2.2.2 c) := fun c hc => by
  show Mv S.1 (up S.2.2.2.2 a x c)
  by_cases e : c = a
  · rw [e, up_s]; exact hx
  · rw [up_n e]; exact hM c hc
end
