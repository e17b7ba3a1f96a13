/-! what is asked of the reference's moves, exactly -/
theorem isN_3 {a : Int32} (h1 : ¬ a < 0) (h2 : a ≤ nI 2) : isN a 3 := by
  obtain ⟨k, hk, rfl⟩ := nI_nn (Int32.not_lt.mp h1)
  exact ⟨k, by have := (nI_leI hk (by omega)).mp h2; omega, rfl⟩
/-- rings of a length, one length behind the other -/
def AL (n : Nat) (f g : Nat → Nat) (c y : Nat) : Prop := (y = 1 ∧ ∀ L, 1 ≤ L → L < c → lo f n L n / L = lo g n L n / L) ∨ (y = 0 ∧ ∃ L, 1 ≤ L ∧ L ≤ n ∧ ¬ lo f n L n / L = lo g n L n / L)
theorem AL_1 {n : Nat} {f g : Nat → Nat} : AL n f g 1 1 := Or.inl ⟨rfl, fun L h1 h2 => by omega⟩
theorem AL_s {n c y : Nat} {f g : Nat → Nat} (h : AL n f g c y) (h1 : 1 ≤ c) (h2 : c ≤ n) (e : lo f n c n / c = lo g n c n / c) : AL n f g (c + 1) (y % 2 ^ 1) := by
  rcases h with ⟨rfl, h⟩ | ⟨rfl, h⟩
  · exact Or.inl ⟨rfl, fun L a b => by
      by_cases q : L = c
      · rw [q]; exact e
      · exact h L a (by omega)⟩
  · exact Or.inr ⟨rfl, h⟩
theorem AL_n {n c y : Nat} {f g : Nat → Nat} (h : AL n f g c y) (h1 : 1 ≤ c) (h2 : c ≤ n) (e : ¬ lo f n c n / c = lo g n c n / c) : AL n f g (c + 1) (y * 0) := Or.inr ⟨rfl, c, h1, h2, e⟩
theorem al_end {n c y : Nat} {f g : Nat → Nat} (h : AL n f g c y) (hc : n < c) : (nI y = nI 1 ∧ ∀ L, 1 ≤ L → L ≤ n → lo f n L n / L = lo g n L n / L) ∨ (nI y = nI 0 ∧ ¬ ∀ L, 1 ≤ L → L ≤ n → lo f n L n / L = lo g n L n / L) := by
  rcases h with ⟨rfl, h⟩ | ⟨rfl, L, h1, h2, h3⟩
  · exact Or.inl ⟨rfl, fun L a b => h L a (by omega)⟩
  · exact Or.inr ⟨rfl, fun q => h3 (q L h1 h2)⟩
set_option maxRecDepth 100000 in
set_option maxHeartbeats 4000000 in
theorem c_X8_number_ate {X : jX} (hs : X.1.stackTraces = false) {d : Nat} (hd : 2 ≤ d) {n : Nat} {mv rw nx : Nat → Nat} {b : Nat} {bt : List Int32} {kn en dn rf kk th : Int32} {w : List jC} (hR : RM n mv rw nx b bt kn en dn rf kk th w) (hn1 : 2 ≤ n) (hn2 : n ≤ 7) (gm : ∀ i, mv i < 7) (gr : ∀ i, rw i < 7) (gx : ∀ i, nx i < 7) (a : Int32) {kc ks : Nat} : jMet X mX8_number d kc ks [.ref 19, .int a] w (pJ (fun v w' => ∃ (th' : Int32), RM n mv rw nx b bt kn en dn rf kk th' w' ∧ FR b b w w' ∧ ((th' = nI 1 ∧ ¬ (isN a 6)) ∨ (th' = nI 0 ∧ ∃ a1 : Nat, a = nI a1 ∧ a1 < 6 ∧ v = nI (nuF mv (a1 * 7) n n))))) := by
  refine jMet_of hs (by decide +kernel) (Nat.le_of_ble_eq_true rfl) (L := [some (.ref 19), some (.int a)]) rfl ?_
  have hdm : 1 ≤ d - 1 := by omega
  have hdp : d - 1 + 1 ≤ d := by omega
  have hfc := fc_7 hn2
  have hfp := fc_pos n
  obtain ⟨h19, h20, h21, h22, hbb, hbl, hb3⟩ := hR
  have hF : FR b b w w := FR.rf
  refine J_aload_n (pc := 0) dX8_number_0 rfl rfl rfl ?_
  refine J_iload_n (pc := 1) dX8_number_1 rfl rfl ?_
  refine J_callS0 (pc := 2) (M := mX8_number) (as := [.int a]) dX8_number_2 fw_X8_isCell fl_X8_108 fs_X8_isCell rfl (c_X8_isCell hs (d := d - 1) (Nat.le_trans (by decide) hdm) (w := w) a (kc := 0) (ks := 0)) hdp (st := [.ref 19]) (Nat.le_of_ble_eq_true rfl) rfl (kr_P fun v1 hv1 => ?_) kx_I
  rcases hv1 with ⟨rfl, hk1_0⟩ | ⟨q1, rfl, hk1_0, rfl⟩
  · refine J_if_neN (pc := 5) (tgt := 12) dX8_number_5 (by decide) (by decide) (fun h => absurd h (by decide)) (fun _ => ?_)
    refine J_iconst (pc := 8) (v := nI 1) dX8_number_8 (by decide) ?_
    refine J_goto (pc := 9) (tgt := 13) dX8_number_9 (by decide) ?_
    refine J_callV0 (pc := 13) (M := mX8_number) (as := [.int (nI 1)]) dX8_number_13 fw_X8_isThrown_ fl_X8_105 fm_X8_isThrown_ fe_X8_isThrown_ h19 (by decide) rfl rfl rfl (c_X8_isThrown_ hs (d := d - 1) (Nat.le_trans (by decide) hdm) (w := w) (n := n) (mv := mv) (rw := rw) (nx := nx) (b := b) (bt := bt) (kn := kn) (en := en) (dn := dn) (rf := rf) (kk := kk) (th := th) ⟨h19, h20, h21, h22, hbb, hbl, hb3⟩ hn1 hn2 gm gr gx 1 (by first | assumption | omega) (kc := 0) (ks := 0)) hdp (st := []) (Nat.le_of_ble_eq_true rfl) rfl (kr_I fun v2 w2 hv2 hw2 => ?_) kx_I
    obtain ⟨hR2, hFc2⟩ := hw2
    obtain ⟨h19_2, h20_2, h21_2, h22_2, hbb_2, hbl_2, hb3_2⟩ := hR2
    have hF2 := hF.tr hFc2
    subst hv2
    show J X mX8_number d kc ks 16 [some (.ref 19), some (.int a)] [.int (nI 1)] w2 _
    refine J_if_eqN (pc := 16) (tgt := 23) dX8_number_16 (by decide) (by decide) (fun h => absurd h (by decide)) (fun _ => ?_)
    refine J_iconst (pc := 19) (v := nI 0) dX8_number_19 (by decide) ?_
    refine J_goto (pc := 20) (tgt := 35) dX8_number_20 (by decide) ?_
    exact J_iret (pc := 35) dX8_number_35 rfl (⟨nI (tW 1 0), ⟨h19_2, h20_2, h21_2, h22_2, hbb_2, hbl_2, hb3_2⟩, hF2, (by first | exact Or.inl ⟨rfl, fun g => (by first | exact ne_isN (by assumption) g | exact ne_isN (by assumption) g.1 | exact ne_isN (by assumption) g.2)⟩ | exact Or.inr ⟨rfl, ⟨_, rfl, (by omega), (by rfl)⟩⟩)⟩)
  · refine J_if_neN (pc := 5) (tgt := 12) dX8_number_5 (by decide) (by decide) (fun _ => ?_) (fun h => absurd h (by decide))
    refine J_iconst (pc := 12) (v := nI 0) dX8_number_12 (by decide) ?_
    refine J_callV0 (pc := 13) (M := mX8_number) (as := [.int (nI 0)]) dX8_number_13 fw_X8_isThrown_ fl_X8_105 fm_X8_isThrown_ fe_X8_isThrown_ h19 (by decide) rfl rfl rfl (c_X8_isThrown_ hs (d := d - 1) (Nat.le_trans (by decide) hdm) (w := w) (n := n) (mv := mv) (rw := rw) (nx := nx) (b := b) (bt := bt) (kn := kn) (en := en) (dn := dn) (rf := rf) (kk := kk) (th := th) ⟨h19, h20, h21, h22, hbb, hbl, hb3⟩ hn1 hn2 gm gr gx 0 (by first | assumption | omega) (kc := 0) (ks := 0)) hdp (st := []) (Nat.le_of_ble_eq_true rfl) rfl (kr_I fun v3 w3 hv3 hw3 => ?_) kx_I
    obtain ⟨hR3, hFc3⟩ := hw3
    obtain ⟨h19_3, h20_3, h21_3, h22_3, hbb_3, hbl_3, hb3_3⟩ := hR3
    have hF3 := hF.tr hFc3
    subst hv3
    show J X mX8_number d kc ks 16 [some (.ref 19), some (.int (nI q1))] [.int (nI 0)] w3 _
    refine J_if_eqN (pc := 16) (tgt := 23) dX8_number_16 (by decide) (by decide) (fun _ => ?_) (fun h => absurd h (by decide))
    refine J_aload_n (pc := 23) dX8_number_23 rfl rfl rfl ?_
    refine J_aload_n (pc := 24) dX8_number_24 rfl rfl rfl ?_
    refine J_get (pc := 25) (k := 1) dX8_number_25 kC9 (by decide) ff_X8_13 h19_3 rfl ?_
    refine J_iload_n (pc := 28) dX8_number_28 rfl rfl ?_
    refine J_bipush (pc := 29) (v := nI 7) dX8_number_29 (by decide) ?_
    refine J_imulN (pc := 31) dX8_number_31 ?_
    refine J_callV0 (pc := 32) (M := mX8_number) (as := [.ref 20, .int (nI (q1 * 7))]) dX8_number_32 fw_X8_numberOf fl_X8_45 fm_X8_numberOf fe_X8_numberOf h19_3 (by decide) rfl rfl rfl (c_X8_numberOf_at20 hs (d := d - 1) (Nat.le_trans (by decide) hdm) (w := w3) (n := n) (mv := mv) (rw := rw) (nx := nx) (b := b) (bt := bt) (kn := kn) (en := en) (dn := dn) (rf := rf) (kk := kk) (th := nI (tW 0 0)) ⟨h19_3, h20_3, h21_3, h22_3, hbb_3, hbl_3, hb3_3⟩ hn1 hn2 gm gr gx (q1 * 7) (by first | assumption | omega) (kc := 0) (ks := 0)) hdp (st := []) (Nat.le_of_ble_eq_true rfl) rfl (kr_P fun v4 hv4 => ?_) kx_I
    subst hv4
    have hq5 := nuF_b mv (q1 * 7) n
    exact J_iret (pc := 35) dX8_number_35 rfl (⟨nI (tW 0 0), ⟨h19_3, h20_3, h21_3, h22_3, hbb_3, hbl_3, hb3_3⟩, hF3, (by first | exact Or.inl ⟨rfl, fun g => (by first | exact ne_isN (by assumption) g | exact ne_isN (by assumption) g.1 | exact ne_isN (by assumption) g.2)⟩ | exact Or.inr ⟨rfl, ⟨_, rfl, (by omega), (by rfl)⟩⟩)⟩)
set_option maxRecDepth 100000 in
set_option maxHeartbeats 4000000 in
theorem c_X8_goes_ate {X : jX} (hs : X.1.stackTraces = false) {d : Nat} (hd : 2 ≤ d) {n : Nat} {mv rw nx : Nat → Nat} {b : Nat} {bt : List Int32} {kn en dn rf kk th : Int32} {w : List jC} (hR : RM n mv rw nx b bt kn en dn rf kk th w) (hn1 : 2 ≤ n) (hn2 : n ≤ 7) (gm : ∀ i, mv i < 7) (gr : ∀ i, rw i < 7) (gx : ∀ i, nx i < 7) (a : Int32) (c : Int32) {kc ks : Nat} : jMet X mX8_goes d kc ks [.ref 19, .int a, .int c] w (pJ (fun v w' => ∃ (th' : Int32), RM n mv rw nx b bt kn en dn rf kk th' w' ∧ FR b b w w' ∧ ((th' = nI 1 ∧ ¬ (isN a 6 ∧ isN c n)) ∨ (th' = nI 0 ∧ ∃ a1 b1 : Nat, a = nI a1 ∧ c = nI b1 ∧ a1 < 6 ∧ b1 < n ∧ v = nI (mv (a1 * 7 + b1)))))) := by
  refine jMet_of hs (by decide +kernel) (Nat.le_of_ble_eq_true rfl) (L := [some (.ref 19), some (.int a), some (.int c)]) rfl ?_
  have hdm : 1 ≤ d - 1 := by omega
  have hdp : d - 1 + 1 ≤ d := by omega
  have hfc := fc_7 hn2
  have hfp := fc_pos n
  obtain ⟨h19, h20, h21, h22, hbb, hbl, hb3⟩ := hR
  have hF : FR b b w w := FR.rf
  refine J_aload_n (pc := 0) dX8_goes_0 rfl rfl rfl ?_
  refine J_iload_n (pc := 1) dX8_goes_1 rfl rfl ?_
  refine J_callS0 (pc := 2) (M := mX8_goes) (as := [.int a]) dX8_goes_2 fw_X8_isCell fl_X8_108 fs_X8_isCell rfl (c_X8_isCell hs (d := d - 1) (Nat.le_trans (by decide) hdm) (w := w) a (kc := 0) (ks := 0)) hdp (st := [.ref 19]) (Nat.le_of_ble_eq_true rfl) rfl (kr_P fun v1 hv1 => ?_) kx_I
  rcases hv1 with ⟨rfl, hk1_0⟩ | ⟨q1, rfl, hk1_0, rfl⟩
  · refine J_if_eqN (pc := 5) (tgt := 16) dX8_goes_5 (by decide) (by decide) (fun _ => ?_) (fun h => absurd h (by decide))
    refine J_iconst (pc := 16) (v := nI 1) dX8_goes_16 (by decide) ?_
    refine J_goto (pc := 17) (tgt := 21) dX8_goes_17 (by decide) ?_
    refine J_callV0 (pc := 21) (M := mX8_goes) (as := [.int (nI 1)]) dX8_goes_21 fw_X8_isThrown_ fl_X8_105 fm_X8_isThrown_ fe_X8_isThrown_ h19 (by decide) rfl rfl rfl (c_X8_isThrown_ hs (d := d - 1) (Nat.le_trans (by decide) hdm) (w := w) (n := n) (mv := mv) (rw := rw) (nx := nx) (b := b) (bt := bt) (kn := kn) (en := en) (dn := dn) (rf := rf) (kk := kk) (th := th) ⟨h19, h20, h21, h22, hbb, hbl, hb3⟩ hn1 hn2 gm gr gx 1 (by first | assumption | omega) (kc := 0) (ks := 0)) hdp (st := []) (Nat.le_of_ble_eq_true rfl) rfl (kr_I fun v2 w2 hv2 hw2 => ?_) kx_I
    obtain ⟨hR2, hFc2⟩ := hw2
    obtain ⟨h19_2, h20_2, h21_2, h22_2, hbb_2, hbl_2, hb3_2⟩ := hR2
    have hF2 := hF.tr hFc2
    subst hv2
    show J X mX8_goes d kc ks 24 [some (.ref 19), some (.int a), some (.int c)] [.int (nI 1)] w2 _
    refine J_if_eqN (pc := 24) (tgt := 31) dX8_goes_24 (by decide) (by decide) (fun h => absurd h (by decide)) (fun _ => ?_)
    refine J_iconst (pc := 27) (v := nI 0) dX8_goes_27 (by decide) ?_
    refine J_goto (pc := 28) (tgt := 37) dX8_goes_28 (by decide) ?_
    exact J_iret (pc := 37) dX8_goes_37 rfl (⟨nI (tW 1 0), ⟨h19_2, h20_2, h21_2, h22_2, hbb_2, hbl_2, hb3_2⟩, hF2, (by first | exact Or.inl ⟨rfl, fun g => (by first | exact ne_isN (by assumption) g | exact ne_isN (by assumption) g.1 | exact ne_isN (by assumption) g.2)⟩ | exact Or.inr ⟨rfl, ⟨_, _, rfl, rfl, (by omega), (by omega), (by rfl)⟩⟩)⟩)
  · refine J_if_eqN (pc := 5) (tgt := 16) dX8_goes_5 (by decide) (by decide) (fun h => absurd h (by decide)) (fun _ => ?_)
    refine J_aload_n (pc := 8) dX8_goes_8 rfl rfl rfl ?_
    refine J_iload_n (pc := 9) dX8_goes_9 rfl rfl ?_
    refine J_callV0 (pc := 10) (M := mX8_goes) (as := [.int c]) dX8_goes_10 fw_X8_isPoint fl_X8_118 fm_X8_isPoint fe_X8_isPoint h19 (by decide) rfl rfl rfl (c_X8_isPoint hs (d := d - 1) (Nat.le_trans (by decide) hdm) (w := w) (n := n) (mv := mv) (rw := rw) (nx := nx) (b := b) (bt := bt) (kn := kn) (en := en) (dn := dn) (rf := rf) (kk := kk) (th := th) ⟨h19, h20, h21, h22, hbb, hbl, hb3⟩ hn1 hn2 gm gr gx c (kc := 0) (ks := 0)) hdp (st := [.ref 19]) (Nat.le_of_ble_eq_true rfl) rfl (kr_P fun v3 hv3 => ?_) kx_I
    rcases hv3 with ⟨rfl, hk3_0⟩ | ⟨q3, rfl, hk3_0, rfl⟩
    · refine J_if_neN (pc := 13) (tgt := 20) dX8_goes_13 (by decide) (by decide) (fun h => absurd h (by decide)) (fun _ => ?_)
      refine J_iconst (pc := 16) (v := nI 1) dX8_goes_16 (by decide) ?_
      refine J_goto (pc := 17) (tgt := 21) dX8_goes_17 (by decide) ?_
      refine J_callV0 (pc := 21) (M := mX8_goes) (as := [.int (nI 1)]) dX8_goes_21 fw_X8_isThrown_ fl_X8_105 fm_X8_isThrown_ fe_X8_isThrown_ h19 (by decide) rfl rfl rfl (c_X8_isThrown_ hs (d := d - 1) (Nat.le_trans (by decide) hdm) (w := w) (n := n) (mv := mv) (rw := rw) (nx := nx) (b := b) (bt := bt) (kn := kn) (en := en) (dn := dn) (rf := rf) (kk := kk) (th := th) ⟨h19, h20, h21, h22, hbb, hbl, hb3⟩ hn1 hn2 gm gr gx 1 (by first | assumption | omega) (kc := 0) (ks := 0)) hdp (st := []) (Nat.le_of_ble_eq_true rfl) rfl (kr_I fun v4 w4 hv4 hw4 => ?_) kx_I
      obtain ⟨hR4, hFc4⟩ := hw4
      obtain ⟨h19_4, h20_4, h21_4, h22_4, hbb_4, hbl_4, hb3_4⟩ := hR4
      have hF4 := hF.tr hFc4
      subst hv4
      show J X mX8_goes d kc ks 24 [some (.ref 19), some (.int (nI q1)), some (.int c)] [.int (nI 1)] w4 _
      refine J_if_eqN (pc := 24) (tgt := 31) dX8_goes_24 (by decide) (by decide) (fun h => absurd h (by decide)) (fun _ => ?_)
      refine J_iconst (pc := 27) (v := nI 0) dX8_goes_27 (by decide) ?_
      refine J_goto (pc := 28) (tgt := 37) dX8_goes_28 (by decide) ?_
      exact J_iret (pc := 37) dX8_goes_37 rfl (⟨nI (tW 1 0), ⟨h19_4, h20_4, h21_4, h22_4, hbb_4, hbl_4, hb3_4⟩, hF4, (by first | exact Or.inl ⟨rfl, fun g => (by first | exact ne_isN (by assumption) g | exact ne_isN (by assumption) g.1 | exact ne_isN (by assumption) g.2)⟩ | exact Or.inr ⟨rfl, ⟨_, _, rfl, rfl, (by omega), (by omega), (by rfl)⟩⟩)⟩)
    · refine J_if_neN (pc := 13) (tgt := 20) dX8_goes_13 (by decide) (by decide) (fun _ => ?_) (fun h => absurd h (by decide))
      refine J_iconst (pc := 20) (v := nI 0) dX8_goes_20 (by decide) ?_
      refine J_callV0 (pc := 21) (M := mX8_goes) (as := [.int (nI 0)]) dX8_goes_21 fw_X8_isThrown_ fl_X8_105 fm_X8_isThrown_ fe_X8_isThrown_ h19 (by decide) rfl rfl rfl (c_X8_isThrown_ hs (d := d - 1) (Nat.le_trans (by decide) hdm) (w := w) (n := n) (mv := mv) (rw := rw) (nx := nx) (b := b) (bt := bt) (kn := kn) (en := en) (dn := dn) (rf := rf) (kk := kk) (th := th) ⟨h19, h20, h21, h22, hbb, hbl, hb3⟩ hn1 hn2 gm gr gx 0 (by first | assumption | omega) (kc := 0) (ks := 0)) hdp (st := []) (Nat.le_of_ble_eq_true rfl) rfl (kr_I fun v5 w5 hv5 hw5 => ?_) kx_I
      obtain ⟨hR5, hFc5⟩ := hw5
      obtain ⟨h19_5, h20_5, h21_5, h22_5, hbb_5, hbl_5, hb3_5⟩ := hR5
      have hF5 := hF.tr hFc5
      subst hv5
      show J X mX8_goes d kc ks 24 [some (.ref 19), some (.int (nI q1)), some (.int (nI q3))] [.int (nI 0)] w5 _
      refine J_if_eqN (pc := 24) (tgt := 31) dX8_goes_24 (by decide) (by decide) (fun _ => ?_) (fun h => absurd h (by decide))
      refine J_aload_n (pc := 31) dX8_goes_31 rfl rfl rfl ?_
      refine J_iload_n (pc := 32) dX8_goes_32 rfl rfl ?_
      refine J_iload_n (pc := 33) dX8_goes_33 rfl rfl ?_
      refine J_callV0 (pc := 34) (M := mX8_goes) (as := [.int (nI q1), .int (nI q3)]) dX8_goes_34 fw_X8_at fl_X8_82 fm_X8_at fe_X8_at h19_5 (by decide) rfl rfl rfl (c_X8_at hs (d := d - 1) (Nat.le_trans (by decide) hdm) (w := w5) (n := n) (mv := mv) (rw := rw) (nx := nx) (b := b) (bt := bt) (kn := kn) (en := en) (dn := dn) (rf := rf) (kk := kk) (th := nI (tW 0 0)) ⟨h19_5, h20_5, h21_5, h22_5, hbb_5, hbl_5, hb3_5⟩ hn1 hn2 gm gr gx q1 q3 (by first | assumption | omega) (by first | assumption | omega) (kc := 0) (ks := 0)) hdp (st := []) (Nat.le_of_ble_eq_true rfl) rfl (kr_P fun v6 hv6 => ?_) kx_I
      subst hv6
      have hq7 := gm (q1 * 7 + q3)
      exact J_iret (pc := 37) dX8_goes_37 rfl (⟨nI (tW 0 0), ⟨h19_5, h20_5, h21_5, h22_5, hbb_5, hbl_5, hb3_5⟩, hF5, (by first | exact Or.inl ⟨rfl, fun g => (by first | exact ne_isN (by assumption) g | exact ne_isN (by assumption) g.1 | exact ne_isN (by assumption) g.2)⟩ | exact Or.inr ⟨rfl, ⟨_, _, rfl, rfl, (by omega), (by omega), (by rfl)⟩⟩)⟩)
set_option maxRecDepth 100000 in
set_option maxHeartbeats 4000000 in
theorem c_X8_order_ate {X : jX} (hs : X.1.stackTraces = false) {d : Nat} (hd : 10 ≤ d) {n : Nat} {mv rw nx : Nat → Nat} {b : Nat} {bt : List Int32} {kn en dn rf kk th : Int32} {w : List jC} (hR : RM n mv rw nx b bt kn en dn rf kk th w) (hn1 : 2 ≤ n) (hn2 : n ≤ 7) (gm : ∀ i, mv i < 7) (gr : ∀ i, rw i < 7) (gx : ∀ i, nx i < 7) (a : Int32) (hy0 : PM n mv) {kc ks : Nat} : jMet X mX8_order d kc ks [.ref 19, .int a] w (pJ (fun v w' => ∃ (th' : Int32), RM n mv rw nx b bt kn en dn rf kk th' w' ∧ FR b b w w' ∧ ((th' = nI 1 ∧ ¬ (isN a 6)) ∨ (th' = nI 0 ∧ ∃ a1 : Nat, a = nI a1 ∧ a1 < 6 ∧ v = nI (olc (lF (fun p => mv (a1 * 7 + p)) n) n))))) := by
  refine jMet_of hs (by decide +kernel) (Nat.le_of_ble_eq_true rfl) (L := [some (.ref 19), some (.int a)]) rfl ?_
  have hdm : 9 ≤ d - 1 := by omega
  have hdp : d - 1 + 1 ≤ d := by omega
  have hfc := fc_7 hn2
  have hfp := fc_pos n
  obtain ⟨h19, h20, h21, h22, hbb, hbl, hb3⟩ := hR
  have hF : FR b b w w := FR.rf
  refine J_aload_n (pc := 0) dX8_order_0 rfl rfl rfl ?_
  refine J_iload_n (pc := 1) dX8_order_1 rfl rfl ?_
  refine J_callS0 (pc := 2) (M := mX8_order) (as := [.int a]) dX8_order_2 fw_X8_isCell fl_X8_108 fs_X8_isCell rfl (c_X8_isCell hs (d := d - 1) (Nat.le_trans (by decide) hdm) (w := w) a (kc := 0) (ks := 0)) hdp (st := [.ref 19]) (Nat.le_of_ble_eq_true rfl) rfl (kr_P fun v1 hv1 => ?_) kx_I
  rcases hv1 with ⟨rfl, hk1_0⟩ | ⟨q1, rfl, hk1_0, rfl⟩
  · refine J_if_neN (pc := 5) (tgt := 12) dX8_order_5 (by decide) (by decide) (fun h => absurd h (by decide)) (fun _ => ?_)
    refine J_iconst (pc := 8) (v := nI 1) dX8_order_8 (by decide) ?_
    refine J_goto (pc := 9) (tgt := 13) dX8_order_9 (by decide) ?_
    refine J_callV0 (pc := 13) (M := mX8_order) (as := [.int (nI 1)]) dX8_order_13 fw_X8_isThrown_ fl_X8_105 fm_X8_isThrown_ fe_X8_isThrown_ h19 (by decide) rfl rfl rfl (c_X8_isThrown_ hs (d := d - 1) (Nat.le_trans (by decide) hdm) (w := w) (n := n) (mv := mv) (rw := rw) (nx := nx) (b := b) (bt := bt) (kn := kn) (en := en) (dn := dn) (rf := rf) (kk := kk) (th := th) ⟨h19, h20, h21, h22, hbb, hbl, hb3⟩ hn1 hn2 gm gr gx 1 (by first | assumption | omega) (kc := 0) (ks := 0)) hdp (st := []) (Nat.le_of_ble_eq_true rfl) rfl (kr_I fun v2 w2 hv2 hw2 => ?_) kx_I
    obtain ⟨hR2, hFc2⟩ := hw2
    obtain ⟨h19_2, h20_2, h21_2, h22_2, hbb_2, hbl_2, hb3_2⟩ := hR2
    have hF2 := hF.tr hFc2
    subst hv2
    show J X mX8_order d kc ks 16 [some (.ref 19), some (.int a)] [.int (nI 1)] w2 _
    refine J_if_eqN (pc := 16) (tgt := 23) dX8_order_16 (by decide) (by decide) (fun h => absurd h (by decide)) (fun _ => ?_)
    refine J_iconst (pc := 19) (v := nI 0) dX8_order_19 (by decide) ?_
    refine J_goto (pc := 20) (tgt := 35) dX8_order_20 (by decide) ?_
    exact J_iret (pc := 35) dX8_order_35 rfl (⟨nI (tW 1 0), ⟨h19_2, h20_2, h21_2, h22_2, hbb_2, hbl_2, hb3_2⟩, hF2, (by first | exact Or.inl ⟨rfl, fun g => (by first | exact ne_isN (by assumption) g | exact ne_isN (by assumption) g.1 | exact ne_isN (by assumption) g.2)⟩ | exact Or.inr ⟨rfl, ⟨_, rfl, (by omega), (by exact congrArg nI hoc)⟩⟩)⟩)
  · refine J_if_neN (pc := 5) (tgt := 12) dX8_order_5 (by decide) (by decide) (fun _ => ?_) (fun h => absurd h (by decide))
    refine J_iconst (pc := 12) (v := nI 0) dX8_order_12 (by decide) ?_
    refine J_callV0 (pc := 13) (M := mX8_order) (as := [.int (nI 0)]) dX8_order_13 fw_X8_isThrown_ fl_X8_105 fm_X8_isThrown_ fe_X8_isThrown_ h19 (by decide) rfl rfl rfl (c_X8_isThrown_ hs (d := d - 1) (Nat.le_trans (by decide) hdm) (w := w) (n := n) (mv := mv) (rw := rw) (nx := nx) (b := b) (bt := bt) (kn := kn) (en := en) (dn := dn) (rf := rf) (kk := kk) (th := th) ⟨h19, h20, h21, h22, hbb, hbl, hb3⟩ hn1 hn2 gm gr gx 0 (by first | assumption | omega) (kc := 0) (ks := 0)) hdp (st := []) (Nat.le_of_ble_eq_true rfl) rfl (kr_I fun v3 w3 hv3 hw3 => ?_) kx_I
    obtain ⟨hR3, hFc3⟩ := hw3
    obtain ⟨h19_3, h20_3, h21_3, h22_3, hbb_3, hbl_3, hb3_3⟩ := hR3
    have hF3 := hF.tr hFc3
    subst hv3
    show J X mX8_order d kc ks 16 [some (.ref 19), some (.int (nI q1))] [.int (nI 0)] w3 _
    refine J_if_eqN (pc := 16) (tgt := 23) dX8_order_16 (by decide) (by decide) (fun _ => ?_) (fun h => absurd h (by decide))
    refine J_aload_n (pc := 23) dX8_order_23 rfl rfl rfl ?_
    refine J_aload_n (pc := 24) dX8_order_24 rfl rfl rfl ?_
    refine J_get (pc := 25) (k := 1) dX8_order_25 kC9 (by decide) ff_X8_13 h19_3 rfl ?_
    refine J_iload_n (pc := 28) dX8_order_28 rfl rfl ?_
    refine J_bipush (pc := 29) (v := nI 7) dX8_order_29 (by decide) ?_
    refine J_imulN (pc := 31) dX8_order_31 ?_
    refine J_callV0 (pc := 32) (M := mX8_order) (as := [.ref 20, .int (nI (q1 * 7))]) dX8_order_32 fw_X8_orderOf fl_X8_172 fm_X8_orderOf fe_X8_orderOf h19_3 (by decide) rfl rfl rfl (c_X8_orderOf_at20x hs (d := d - 1) (Nat.le_trans (by decide) hdm) (w := w3) (n := n) (mv := mv) (rw := rw) (nx := nx) (b := b) (bt := bt) (kn := kn) (en := en) (dn := dn) (rf := rf) (kk := kk) (th := nI (tW 0 0)) ⟨h19_3, h20_3, h21_3, h22_3, hbb_3, hbl_3, hb3_3⟩ hn1 hn2 gm gr gx (q1 * 7) (by first | assumption | omega) (by exact hy0 _ (by assumption)) (kc := 0) (ks := 0)) hdp (st := []) (Nat.le_of_ble_eq_true rfl) rfl (kr_P fun v4 hv4 => ?_) kx_I
    obtain ⟨k4, rfl, hk4⟩ := hv4
    have hoc := hk4.1
    exact J_iret (pc := 35) dX8_order_35 rfl (⟨nI (tW 0 0), ⟨h19_3, h20_3, h21_3, h22_3, hbb_3, hbl_3, hb3_3⟩, hF3, (by first | exact Or.inl ⟨rfl, fun g => (by first | exact ne_isN (by assumption) g | exact ne_isN (by assumption) g.1 | exact ne_isN (by assumption) g.2)⟩ | exact Or.inr ⟨rfl, ⟨_, rfl, (by omega), (by exact congrArg nI hoc)⟩⟩)⟩)
set_option maxRecDepth 100000 in
set_option maxHeartbeats 4000000 in
theorem c_X8_sign_ate {X : jX} (hs : X.1.stackTraces = false) {d : Nat} (hd : 2 ≤ d) {n : Nat} {mv rw nx : Nat → Nat} {b : Nat} {bt : List Int32} {kn en dn rf kk th : Int32} {w : List jC} (hR : RM n mv rw nx b bt kn en dn rf kk th w) (hn1 : 2 ≤ n) (hn2 : n ≤ 7) (gm : ∀ i, mv i < 7) (gr : ∀ i, rw i < 7) (gx : ∀ i, nx i < 7) (a : Int32) {kc ks : Nat} : jMet X mX8_sign d kc ks [.ref 19, .int a] w (pJ (fun v w' => ∃ (th' : Int32), RM n mv rw nx b bt kn en dn rf kk th' w' ∧ FR b b w w' ∧ ((th' = nI 1 ∧ ¬ (isN a 6)) ∨ (th' = nI 0 ∧ ∃ a1 : Nat, a = nI a1 ∧ a1 < 6 ∧ v = sgv (iv mv (a1 * 7) n))))) := by
  refine jMet_of hs (by decide +kernel) (Nat.le_of_ble_eq_true rfl) (L := [some (.ref 19), some (.int a)]) rfl ?_
  have hdm : 1 ≤ d - 1 := by omega
  have hdp : d - 1 + 1 ≤ d := by omega
  have hfc := fc_7 hn2
  have hfp := fc_pos n
  obtain ⟨h19, h20, h21, h22, hbb, hbl, hb3⟩ := hR
  have hF : FR b b w w := FR.rf
  refine J_aload_n (pc := 0) dX8_sign_0 rfl rfl rfl ?_
  refine J_iload_n (pc := 1) dX8_sign_1 rfl rfl ?_
  refine J_callS0 (pc := 2) (M := mX8_sign) (as := [.int a]) dX8_sign_2 fw_X8_isCell fl_X8_108 fs_X8_isCell rfl (c_X8_isCell hs (d := d - 1) (Nat.le_trans (by decide) hdm) (w := w) a (kc := 0) (ks := 0)) hdp (st := [.ref 19]) (Nat.le_of_ble_eq_true rfl) rfl (kr_P fun v1 hv1 => ?_) kx_I
  rcases hv1 with ⟨rfl, hk1_0⟩ | ⟨q1, rfl, hk1_0, rfl⟩
  · refine J_if_neN (pc := 5) (tgt := 12) dX8_sign_5 (by decide) (by decide) (fun h => absurd h (by decide)) (fun _ => ?_)
    refine J_iconst (pc := 8) (v := nI 1) dX8_sign_8 (by decide) ?_
    refine J_goto (pc := 9) (tgt := 13) dX8_sign_9 (by decide) ?_
    refine J_callV0 (pc := 13) (M := mX8_sign) (as := [.int (nI 1)]) dX8_sign_13 fw_X8_isThrown_ fl_X8_105 fm_X8_isThrown_ fe_X8_isThrown_ h19 (by decide) rfl rfl rfl (c_X8_isThrown_ hs (d := d - 1) (Nat.le_trans (by decide) hdm) (w := w) (n := n) (mv := mv) (rw := rw) (nx := nx) (b := b) (bt := bt) (kn := kn) (en := en) (dn := dn) (rf := rf) (kk := kk) (th := th) ⟨h19, h20, h21, h22, hbb, hbl, hb3⟩ hn1 hn2 gm gr gx 1 (by first | assumption | omega) (kc := 0) (ks := 0)) hdp (st := []) (Nat.le_of_ble_eq_true rfl) rfl (kr_I fun v2 w2 hv2 hw2 => ?_) kx_I
    obtain ⟨hR2, hFc2⟩ := hw2
    obtain ⟨h19_2, h20_2, h21_2, h22_2, hbb_2, hbl_2, hb3_2⟩ := hR2
    have hF2 := hF.tr hFc2
    subst hv2
    show J X mX8_sign d kc ks 16 [some (.ref 19), some (.int a)] [.int (nI 1)] w2 _
    refine J_if_eqN (pc := 16) (tgt := 23) dX8_sign_16 (by decide) (by decide) (fun h => absurd h (by decide)) (fun _ => ?_)
    refine J_iconst (pc := 19) (v := nI 0) dX8_sign_19 (by decide) ?_
    refine J_goto (pc := 20) (tgt := 35) dX8_sign_20 (by decide) ?_
    exact J_iret (pc := 35) dX8_sign_35 rfl (⟨nI (tW 1 0), ⟨h19_2, h20_2, h21_2, h22_2, hbb_2, hbl_2, hb3_2⟩, hF2, (by first | exact Or.inl ⟨rfl, fun g => (by first | exact ne_isN (by assumption) g | exact ne_isN (by assumption) g.1 | exact ne_isN (by assumption) g.2)⟩ | exact Or.inr ⟨rfl, ⟨_, rfl, (by omega), (by exact hsv)⟩⟩)⟩)
  · refine J_if_neN (pc := 5) (tgt := 12) dX8_sign_5 (by decide) (by decide) (fun _ => ?_) (fun h => absurd h (by decide))
    refine J_iconst (pc := 12) (v := nI 0) dX8_sign_12 (by decide) ?_
    refine J_callV0 (pc := 13) (M := mX8_sign) (as := [.int (nI 0)]) dX8_sign_13 fw_X8_isThrown_ fl_X8_105 fm_X8_isThrown_ fe_X8_isThrown_ h19 (by decide) rfl rfl rfl (c_X8_isThrown_ hs (d := d - 1) (Nat.le_trans (by decide) hdm) (w := w) (n := n) (mv := mv) (rw := rw) (nx := nx) (b := b) (bt := bt) (kn := kn) (en := en) (dn := dn) (rf := rf) (kk := kk) (th := th) ⟨h19, h20, h21, h22, hbb, hbl, hb3⟩ hn1 hn2 gm gr gx 0 (by first | assumption | omega) (kc := 0) (ks := 0)) hdp (st := []) (Nat.le_of_ble_eq_true rfl) rfl (kr_I fun v3 w3 hv3 hw3 => ?_) kx_I
    obtain ⟨hR3, hFc3⟩ := hw3
    obtain ⟨h19_3, h20_3, h21_3, h22_3, hbb_3, hbl_3, hb3_3⟩ := hR3
    have hF3 := hF.tr hFc3
    subst hv3
    show J X mX8_sign d kc ks 16 [some (.ref 19), some (.int (nI q1))] [.int (nI 0)] w3 _
    refine J_if_eqN (pc := 16) (tgt := 23) dX8_sign_16 (by decide) (by decide) (fun _ => ?_) (fun h => absurd h (by decide))
    refine J_aload_n (pc := 23) dX8_sign_23 rfl rfl rfl ?_
    refine J_aload_n (pc := 24) dX8_sign_24 rfl rfl rfl ?_
    refine J_get (pc := 25) (k := 1) dX8_sign_25 kC9 (by decide) ff_X8_13 h19_3 rfl ?_
    refine J_iload_n (pc := 28) dX8_sign_28 rfl rfl ?_
    refine J_bipush (pc := 29) (v := nI 7) dX8_sign_29 (by decide) ?_
    refine J_imulN (pc := 31) dX8_sign_31 ?_
    refine J_callV0 (pc := 32) (M := mX8_sign) (as := [.ref 20, .int (nI (q1 * 7))]) dX8_sign_32 fw_X8_signOf fl_X8_115 fm_X8_signOf fe_X8_signOf h19_3 (by decide) rfl rfl rfl (c_X8_signOf_at20x hs (d := d - 1) (Nat.le_trans (by decide) hdm) (w := w3) (n := n) (mv := mv) (rw := rw) (nx := nx) (b := b) (bt := bt) (kn := kn) (en := en) (dn := dn) (rf := rf) (kk := kk) (th := nI (tW 0 0)) ⟨h19_3, h20_3, h21_3, h22_3, hbb_3, hbl_3, hb3_3⟩ hn1 hn2 gm gr gx (q1 * 7) (by first | assumption | omega) (kc := 0) (ks := 0)) hdp (st := []) (Nat.le_of_ble_eq_true rfl) rfl (kr_P fun v4 hv4 => ?_) kx_I
    have hsv := hv4
    exact J_iret (pc := 35) dX8_sign_35 rfl (⟨nI (tW 0 0), ⟨h19_3, h20_3, h21_3, h22_3, hbb_3, hbl_3, hb3_3⟩, hF3, (by first | exact Or.inl ⟨rfl, fun g => (by first | exact ne_isN (by assumption) g | exact ne_isN (by assumption) g.1 | exact ne_isN (by assumption) g.2)⟩ | exact Or.inr ⟨rfl, ⟨_, rfl, (by omega), (by exact hsv)⟩⟩)⟩)
set_option maxRecDepth 100000 in
set_option maxHeartbeats 4000000 in
theorem c_X8_stays_ate {X : jX} (hs : X.1.stackTraces = false) {d : Nat} (hd : 2 ≤ d) {n : Nat} {mv rw nx : Nat → Nat} {b : Nat} {bt : List Int32} {kn en dn rf kk th : Int32} {w : List jC} (hR : RM n mv rw nx b bt kn en dn rf kk th w) (hn1 : 2 ≤ n) (hn2 : n ≤ 7) (gm : ∀ i, mv i < 7) (gr : ∀ i, rw i < 7) (gx : ∀ i, nx i < 7) (a : Int32) {kc ks : Nat} : jMet X mX8_stays d kc ks [.ref 19, .int a] w (pJ (fun v w' => ∃ (th' : Int32), RM n mv rw nx b bt kn en dn rf kk th' w' ∧ FR b b w w' ∧ ((th' = nI 1 ∧ ¬ (isN a 6)) ∨ (th' = nI 0 ∧ ∃ a1 : Nat, a = nI a1 ∧ a1 < 6 ∧ v = nI (stF (fun p => mv (a1 * 7 + p)) n))))) := by
  refine jMet_of hs (by decide +kernel) (Nat.le_of_ble_eq_true rfl) (L := [some (.ref 19), some (.int a)]) rfl ?_
  have hdm : 1 ≤ d - 1 := by omega
  have hdp : d - 1 + 1 ≤ d := by omega
  have hfc := fc_7 hn2
  have hfp := fc_pos n
  obtain ⟨h19, h20, h21, h22, hbb, hbl, hb3⟩ := hR
  have hF : FR b b w w := FR.rf
  refine J_aload_n (pc := 0) dX8_stays_0 rfl rfl rfl ?_
  refine J_iload_n (pc := 1) dX8_stays_1 rfl rfl ?_
  refine J_callS0 (pc := 2) (M := mX8_stays) (as := [.int a]) dX8_stays_2 fw_X8_isCell fl_X8_108 fs_X8_isCell rfl (c_X8_isCell hs (d := d - 1) (Nat.le_trans (by decide) hdm) (w := w) a (kc := 0) (ks := 0)) hdp (st := [.ref 19]) (Nat.le_of_ble_eq_true rfl) rfl (kr_P fun v1 hv1 => ?_) kx_I
  rcases hv1 with ⟨rfl, hk1_0⟩ | ⟨q1, rfl, hk1_0, rfl⟩
  · refine J_if_neN (pc := 5) (tgt := 12) dX8_stays_5 (by decide) (by decide) (fun h => absurd h (by decide)) (fun _ => ?_)
    refine J_iconst (pc := 8) (v := nI 1) dX8_stays_8 (by decide) ?_
    refine J_goto (pc := 9) (tgt := 13) dX8_stays_9 (by decide) ?_
    refine J_callV0 (pc := 13) (M := mX8_stays) (as := [.int (nI 1)]) dX8_stays_13 fw_X8_isThrown_ fl_X8_105 fm_X8_isThrown_ fe_X8_isThrown_ h19 (by decide) rfl rfl rfl (c_X8_isThrown_ hs (d := d - 1) (Nat.le_trans (by decide) hdm) (w := w) (n := n) (mv := mv) (rw := rw) (nx := nx) (b := b) (bt := bt) (kn := kn) (en := en) (dn := dn) (rf := rf) (kk := kk) (th := th) ⟨h19, h20, h21, h22, hbb, hbl, hb3⟩ hn1 hn2 gm gr gx 1 (by first | assumption | omega) (kc := 0) (ks := 0)) hdp (st := []) (Nat.le_of_ble_eq_true rfl) rfl (kr_I fun v2 w2 hv2 hw2 => ?_) kx_I
    obtain ⟨hR2, hFc2⟩ := hw2
    obtain ⟨h19_2, h20_2, h21_2, h22_2, hbb_2, hbl_2, hb3_2⟩ := hR2
    have hF2 := hF.tr hFc2
    subst hv2
    show J X mX8_stays d kc ks 16 [some (.ref 19), some (.int a)] [.int (nI 1)] w2 _
    refine J_if_eqN (pc := 16) (tgt := 23) dX8_stays_16 (by decide) (by decide) (fun h => absurd h (by decide)) (fun _ => ?_)
    refine J_iconst (pc := 19) (v := nI 0) dX8_stays_19 (by decide) ?_
    refine J_goto (pc := 20) (tgt := 28) dX8_stays_20 (by decide) ?_
    exact J_iret (pc := 28) dX8_stays_28 rfl (⟨nI (tW 1 0), ⟨h19_2, h20_2, h21_2, h22_2, hbb_2, hbl_2, hb3_2⟩, hF2, (by first | exact Or.inl ⟨rfl, fun g => (by first | exact ne_isN (by assumption) g | exact ne_isN (by assumption) g.1 | exact ne_isN (by assumption) g.2)⟩ | exact Or.inr ⟨rfl, ⟨_, rfl, (by omega), (by rfl)⟩⟩)⟩)
  · refine J_if_neN (pc := 5) (tgt := 12) dX8_stays_5 (by decide) (by decide) (fun _ => ?_) (fun h => absurd h (by decide))
    refine J_iconst (pc := 12) (v := nI 0) dX8_stays_12 (by decide) ?_
    refine J_callV0 (pc := 13) (M := mX8_stays) (as := [.int (nI 0)]) dX8_stays_13 fw_X8_isThrown_ fl_X8_105 fm_X8_isThrown_ fe_X8_isThrown_ h19 (by decide) rfl rfl rfl (c_X8_isThrown_ hs (d := d - 1) (Nat.le_trans (by decide) hdm) (w := w) (n := n) (mv := mv) (rw := rw) (nx := nx) (b := b) (bt := bt) (kn := kn) (en := en) (dn := dn) (rf := rf) (kk := kk) (th := th) ⟨h19, h20, h21, h22, hbb, hbl, hb3⟩ hn1 hn2 gm gr gx 0 (by first | assumption | omega) (kc := 0) (ks := 0)) hdp (st := []) (Nat.le_of_ble_eq_true rfl) rfl (kr_I fun v3 w3 hv3 hw3 => ?_) kx_I
    obtain ⟨hR3, hFc3⟩ := hw3
    obtain ⟨h19_3, h20_3, h21_3, h22_3, hbb_3, hbl_3, hb3_3⟩ := hR3
    have hF3 := hF.tr hFc3
    subst hv3
    show J X mX8_stays d kc ks 16 [some (.ref 19), some (.int (nI q1))] [.int (nI 0)] w3 _
    refine J_if_eqN (pc := 16) (tgt := 23) dX8_stays_16 (by decide) (by decide) (fun _ => ?_) (fun h => absurd h (by decide))
    refine J_aload_n (pc := 23) dX8_stays_23 rfl rfl rfl ?_
    refine J_iload_n (pc := 24) dX8_stays_24 rfl rfl ?_
    refine J_callV0 (pc := 25) (M := mX8_stays) (as := [.int (nI q1)]) dX8_stays_25 fw_X8_staysNow fl_X8_175 fm_X8_staysNow fe_X8_staysNow h19_3 (by decide) rfl rfl rfl (c_X8_staysNow_atx hs (d := d - 1) (Nat.le_trans (by decide) hdm) (w := w3) (n := n) (mv := mv) (rw := rw) (nx := nx) (b := b) (bt := bt) (kn := kn) (en := en) (dn := dn) (rf := rf) (kk := kk) (th := nI (tW 0 0)) ⟨h19_3, h20_3, h21_3, h22_3, hbb_3, hbl_3, hb3_3⟩ hn1 hn2 gm gr gx q1 (by first | assumption | omega) (kc := 0) (ks := 0)) hdp (st := []) (Nat.le_of_ble_eq_true rfl) rfl (kr_P fun v4 hv4 => ?_) kx_I
    subst hv4
    exact J_iret (pc := 28) dX8_stays_28 rfl (⟨nI (tW 0 0), ⟨h19_3, h20_3, h21_3, h22_3, hbb_3, hbl_3, hb3_3⟩, hF3, (by first | exact Or.inl ⟨rfl, fun g => (by first | exact ne_isN (by assumption) g | exact ne_isN (by assumption) g.1 | exact ne_isN (by assumption) g.2)⟩ | exact Or.inr ⟨rfl, ⟨_, rfl, (by omega), (by rfl)⟩⟩)⟩)
set_option maxRecDepth 100000 in
set_option maxHeartbeats 4000000 in
theorem c_X8_areAlike_ate {X : jX} (hs : X.1.stackTraces = false) {d : Nat} (hd : 2 ≤ d) {n : Nat} {mv rw nx : Nat → Nat} {b : Nat} {bt : List Int32} {kn en dn rf kk th : Int32} {w : List jC} (hR : RM n mv rw nx b bt kn en dn rf kk th w) (hn1 : 2 ≤ n) (hn2 : n ≤ 7) (gm : ∀ i, mv i < 7) (gr : ∀ i, rw i < 7) (gx : ∀ i, nx i < 7) (a : Int32) (c : Int32) (hy0 : PM n mv) {kc ks : Nat} : jMet X mX8_areAlike d kc ks [.ref 19, .int a, .int c] w (pJ (fun v w' => ∃ (th' : Int32), RM n mv rw nx b bt kn en dn rf kk th' w' ∧ FR b b w w' ∧ ((th' = nI 1 ∧ ¬ (isN a 6 ∧ isN c 6)) ∨ (th' = nI 0 ∧ ∃ a1 b1 : Nat, a = nI a1 ∧ c = nI b1 ∧ a1 < 6 ∧ b1 < 6 ∧ ((v = nI 1 ∧ ∀ L, 1 ≤ L → L ≤ n → lo (fun p => mv (a1 * 7 + p)) n L n / L = lo (fun p => mv (b1 * 7 + p)) n L n / L) ∨ (v = nI 0 ∧ ¬ ∀ L, 1 ≤ L → L ≤ n → lo (fun p => mv (a1 * 7 + p)) n L n / L = lo (fun p => mv (b1 * 7 + p)) n L n / L)))))) := by
  refine jMet_of hs (by decide +kernel) (Nat.le_of_ble_eq_true rfl) (L := [some (.ref 19), some (.int a), some (.int c), none, none]) rfl ?_
  have hdm : 1 ≤ d - 1 := by omega
  have hdp : d - 1 + 1 ≤ d := by omega
  have hfc := fc_7 hn2
  have hfp := fc_pos n
  obtain ⟨h19, h20, h21, h22, hbb, hbl, hb3⟩ := hR
  have hF : FR b b w w := FR.rf
  refine J_aload_n (pc := 0) dX8_areAlike_0 rfl rfl rfl ?_
  refine J_iload_n (pc := 1) dX8_areAlike_1 rfl rfl ?_
  refine J_callS0 (pc := 2) (M := mX8_areAlike) (as := [.int a]) dX8_areAlike_2 fw_X8_isCell fl_X8_108 fs_X8_isCell rfl (c_X8_isCell hs (d := d - 1) (Nat.le_trans (by decide) hdm) (w := w) a (kc := 0) (ks := 0)) hdp (st := [.ref 19]) (Nat.le_of_ble_eq_true rfl) rfl (kr_P fun v1 hv1 => ?_) kx_I
  rcases hv1 with ⟨rfl, hk1_0⟩ | ⟨q1, rfl, hk1_0, rfl⟩
  · refine J_if_eqN (pc := 5) (tgt := 15) dX8_areAlike_5 (by decide) (by decide) (fun _ => ?_) (fun h => absurd h (by decide))
    refine J_iconst (pc := 15) (v := nI 1) dX8_areAlike_15 (by decide) ?_
    refine J_goto (pc := 16) (tgt := 20) dX8_areAlike_16 (by decide) ?_
    refine J_callV0 (pc := 20) (M := mX8_areAlike) (as := [.int (nI 1)]) dX8_areAlike_20 fw_X8_isThrown_ fl_X8_105 fm_X8_isThrown_ fe_X8_isThrown_ h19 (by decide) rfl rfl rfl (c_X8_isThrown_ hs (d := d - 1) (Nat.le_trans (by decide) hdm) (w := w) (n := n) (mv := mv) (rw := rw) (nx := nx) (b := b) (bt := bt) (kn := kn) (en := en) (dn := dn) (rf := rf) (kk := kk) (th := th) ⟨h19, h20, h21, h22, hbb, hbl, hb3⟩ hn1 hn2 gm gr gx 1 (by first | assumption | omega) (kc := 0) (ks := 0)) hdp (st := []) (Nat.le_of_ble_eq_true rfl) rfl (kr_I fun v2 w2 hv2 hw2 => ?_) kx_I
    obtain ⟨hR2, hFc2⟩ := hw2
    obtain ⟨h19_2, h20_2, h21_2, h22_2, hbb_2, hbl_2, hb3_2⟩ := hR2
    have hF2 := hF.tr hFc2
    subst hv2
    show J X mX8_areAlike d kc ks 23 [some (.ref 19), some (.int a), some (.int c), none, none] [.int (nI 1)] w2 _
    refine J_if_eqN (pc := 23) (tgt := 28) dX8_areAlike_23 (by decide) (by decide) (fun h => absurd h (by decide)) (fun _ => ?_)
    refine J_iconst (pc := 26) (v := nI 0) dX8_areAlike_26 (by decide) ?_
    exact J_zret (pc := 27) dX8_areAlike_27 rfl (nar_b (by first | decide | omega)) (⟨nI (tW 1 0), ⟨h19_2, h20_2, h21_2, h22_2, hbb_2, hbl_2, hb3_2⟩, hF2, (by first | exact Or.inl ⟨rfl, fun g => (by first | exact ne_isN (by assumption) g | exact ne_isN (by assumption) g.1 | exact ne_isN (by assumption) g.2)⟩ | exact Or.inr ⟨rfl, ⟨_, _, rfl, rfl, (by omega), (by omega), (by first | exact al_end hv33_2 (by omega))⟩⟩)⟩)
  · refine J_if_eqN (pc := 5) (tgt := 15) dX8_areAlike_5 (by decide) (by decide) (fun h => absurd h (by decide)) (fun _ => ?_)
    refine J_iload_n (pc := 8) dX8_areAlike_8 rfl rfl ?_
    refine J_callS0 (pc := 9) (M := mX8_areAlike) (as := [.int c]) dX8_areAlike_9 fw_X8_isCell fl_X8_108 fs_X8_isCell rfl (c_X8_isCell hs (d := d - 1) (Nat.le_trans (by decide) hdm) (w := w) c (kc := 0) (ks := 0)) hdp (st := [.ref 19]) (Nat.le_of_ble_eq_true rfl) rfl (kr_P fun v3 hv3 => ?_) kx_I
    rcases hv3 with ⟨rfl, hk3_0⟩ | ⟨q3, rfl, hk3_0, rfl⟩
    · refine J_if_neN (pc := 12) (tgt := 19) dX8_areAlike_12 (by decide) (by decide) (fun h => absurd h (by decide)) (fun _ => ?_)
      refine J_iconst (pc := 15) (v := nI 1) dX8_areAlike_15 (by decide) ?_
      refine J_goto (pc := 16) (tgt := 20) dX8_areAlike_16 (by decide) ?_
      refine J_callV0 (pc := 20) (M := mX8_areAlike) (as := [.int (nI 1)]) dX8_areAlike_20 fw_X8_isThrown_ fl_X8_105 fm_X8_isThrown_ fe_X8_isThrown_ h19 (by decide) rfl rfl rfl (c_X8_isThrown_ hs (d := d - 1) (Nat.le_trans (by decide) hdm) (w := w) (n := n) (mv := mv) (rw := rw) (nx := nx) (b := b) (bt := bt) (kn := kn) (en := en) (dn := dn) (rf := rf) (kk := kk) (th := th) ⟨h19, h20, h21, h22, hbb, hbl, hb3⟩ hn1 hn2 gm gr gx 1 (by first | assumption | omega) (kc := 0) (ks := 0)) hdp (st := []) (Nat.le_of_ble_eq_true rfl) rfl (kr_I fun v4 w4 hv4 hw4 => ?_) kx_I
      obtain ⟨hR4, hFc4⟩ := hw4
      obtain ⟨h19_4, h20_4, h21_4, h22_4, hbb_4, hbl_4, hb3_4⟩ := hR4
      have hF4 := hF.tr hFc4
      subst hv4
      show J X mX8_areAlike d kc ks 23 [some (.ref 19), some (.int (nI q1)), some (.int c), none, none] [.int (nI 1)] w4 _
      refine J_if_eqN (pc := 23) (tgt := 28) dX8_areAlike_23 (by decide) (by decide) (fun h => absurd h (by decide)) (fun _ => ?_)
      refine J_iconst (pc := 26) (v := nI 0) dX8_areAlike_26 (by decide) ?_
      exact J_zret (pc := 27) dX8_areAlike_27 rfl (nar_b (by first | decide | omega)) (⟨nI (tW 1 0), ⟨h19_4, h20_4, h21_4, h22_4, hbb_4, hbl_4, hb3_4⟩, hF4, (by first | exact Or.inl ⟨rfl, fun g => (by first | exact ne_isN (by assumption) g | exact ne_isN (by assumption) g.1 | exact ne_isN (by assumption) g.2)⟩ | exact Or.inr ⟨rfl, ⟨_, _, rfl, rfl, (by omega), (by omega), (by first | exact al_end hv33_2 (by omega))⟩⟩)⟩)
    · refine J_if_neN (pc := 12) (tgt := 19) dX8_areAlike_12 (by decide) (by decide) (fun _ => ?_) (fun h => absurd h (by decide))
      refine J_iconst (pc := 19) (v := nI 0) dX8_areAlike_19 (by decide) ?_
      refine J_callV0 (pc := 20) (M := mX8_areAlike) (as := [.int (nI 0)]) dX8_areAlike_20 fw_X8_isThrown_ fl_X8_105 fm_X8_isThrown_ fe_X8_isThrown_ h19 (by decide) rfl rfl rfl (c_X8_isThrown_ hs (d := d - 1) (Nat.le_trans (by decide) hdm) (w := w) (n := n) (mv := mv) (rw := rw) (nx := nx) (b := b) (bt := bt) (kn := kn) (en := en) (dn := dn) (rf := rf) (kk := kk) (th := th) ⟨h19, h20, h21, h22, hbb, hbl, hb3⟩ hn1 hn2 gm gr gx 0 (by first | assumption | omega) (kc := 0) (ks := 0)) hdp (st := []) (Nat.le_of_ble_eq_true rfl) rfl (kr_I fun v5 w5 hv5 hw5 => ?_) kx_I
      obtain ⟨hR5, hFc5⟩ := hw5
      obtain ⟨h19_5, h20_5, h21_5, h22_5, hbb_5, hbl_5, hb3_5⟩ := hR5
      have hF5 := hF.tr hFc5
      subst hv5
      show J X mX8_areAlike d kc ks 23 [some (.ref 19), some (.int (nI q1)), some (.int (nI q3)), none, none] [.int (nI 0)] w5 _
      refine J_if_eqN (pc := 23) (tgt := 28) dX8_areAlike_23 (by decide) (by decide) (fun _ => ?_) (fun h => absurd h (by decide))
      refine J_iconst (pc := 28) (v := nI 1) dX8_areAlike_28 (by decide) ?_
      refine J_istore_n (pc := 29) dX8_areAlike_29 rfl (by decide) rfl ?_
      show J X mX8_areAlike d kc ks 30 [some (.ref 19), some (.int (nI q1)), some (.int (nI q3)), some (.int (nI 1)), none] [] w5 _
      refine J_iconst (pc := 30) (v := nI 1) dX8_areAlike_30 (by decide) ?_
      refine J_istore (pc := 31) dX8_areAlike_31 (by decide) rfl ?_
      show J X mX8_areAlike d kc ks 33 [some (.ref 19), some (.int (nI q1)), some (.int (nI q3)), some (.int (nI 1)), some (.int (nI 1))] [] w5 _
      have lp33_6 : ∀ (fuel : Nat) (y3 : Nat) (c4 : Nat), (y3 < 2) → (1 ≤ c4) → (AL n (fun p => mv (q1 * 7 + p)) (fun p => mv (q3 * 7 + p)) c4 y3) → (c4 ≤ n + 1) → (n + 1 - c4 < fuel) → J X mX8_areAlike d kc ks 33 [some (.ref 19), some (.int (nI q1)), some (.int (nI q3)), some (.int (nI y3)), some (.int (nI c4))] [] w5 (pJ (fun v w' => ∃ (th' : Int32), RM n mv rw nx b bt kn en dn rf kk th' w' ∧ FR b b w w' ∧ ((th' = nI 1 ∧ ¬ (isN (nI q1) 6 ∧ isN (nI q3) 6)) ∨ (th' = nI 0 ∧ ∃ a1 b1 : Nat, (nI q1) = nI a1 ∧ (nI q3) = nI b1 ∧ a1 < 6 ∧ b1 < 6 ∧ ((v = nI 1 ∧ ∀ L, 1 ≤ L → L ≤ n → lo (fun p => mv (a1 * 7 + p)) n L n / L = lo (fun p => mv (b1 * 7 + p)) n L n / L) ∨ (v = nI 0 ∧ ¬ ∀ L, 1 ≤ L → L ≤ n → lo (fun p => mv (a1 * 7 + p)) n L n / L = lo (fun p => mv (b1 * 7 + p)) n L n / L)))))) := by
        intro fuellp33_6
        induction fuellp33_6 with
        | zero => intros; omega
        | succ fuellp33_6 ihlp33_6 =>
          intro y3 c4 hv33_0 hv33_1 hv33_2 hv33_3 hf7
          refine J_iload (pc := 33) dX8_areAlike_33 rfl ?_
          refine J_aload_n (pc := 35) dX8_areAlike_35 rfl rfl rfl ?_
          refine J_get (pc := 36) (k := 0) dX8_areAlike_36 kC9 (by decide) ff_X8_7 h19_5 rfl ?_
          refine J_icmp_gtN (pc := 39) (tgt := 73) dX8_areAlike_39 (by decide) (by omega) (by omega) (fun ht8 => ?_) (fun hf9 => ?_)
          · refine J_iload_n (pc := 73) dX8_areAlike_73 rfl rfl ?_
            exact J_zret (pc := 74) dX8_areAlike_74 rfl (nar_b (by first | decide | omega)) (⟨nI (tW 0 0), ⟨h19_5, h20_5, h21_5, h22_5, hbb_5, hbl_5, hb3_5⟩, hF5, (by first | exact Or.inl ⟨rfl, fun g => (by first | exact ne_isN (by assumption) g | exact ne_isN (by assumption) g.1 | exact ne_isN (by assumption) g.2)⟩ | exact Or.inr ⟨rfl, ⟨_, _, rfl, rfl, (by omega), (by omega), (by first | exact al_end hv33_2 (by omega))⟩⟩)⟩)
          · refine J_iload_n (pc := 42) dX8_areAlike_42 rfl rfl ?_
            refine J_aload_n (pc := 43) dX8_areAlike_43 rfl rfl rfl ?_
            refine J_iload_n (pc := 44) dX8_areAlike_44 rfl rfl ?_
            refine J_iload (pc := 45) dX8_areAlike_45 rfl ?_
            refine J_callV0 (pc := 47) (M := mX8_areAlike) (as := [.int (nI q1), .int (nI c4)]) dX8_areAlike_47 fw_X8_longOnes fl_X8_162 fm_X8_longOnes fe_X8_longOnes h19_5 (by decide) rfl rfl rfl (c_X8_longOnes_atx hs (d := d - 1) (Nat.le_trans (by decide) hdm) (w := w5) (n := n) (mv := mv) (rw := rw) (nx := nx) (b := b) (bt := bt) (kn := kn) (en := en) (dn := dn) (rf := rf) (kk := kk) (th := nI (tW 0 0)) ⟨h19_5, h20_5, h21_5, h22_5, hbb_5, hbl_5, hb3_5⟩ hn1 hn2 gm gr gx q1 c4 (by first | assumption | omega) (by first | assumption | omega) (by first | assumption | omega) (by first | assumption | omega) (kc := 0) (ks := 0)) hdp (st := [.int (nI y3)]) (Nat.le_of_ble_eq_true rfl) rfl (kr_P fun v10 hv10 => ?_) kx_I
            subst hv10
            have hlo10 := Nat.lt_of_le_of_lt (Nat.le_trans (Nat.div_le_self (lo (fun p => mv (q1 * 7 + p)) n c4 n) c4) (lo_le (fun p => mv (q1 * 7 + p)) n c4 n)) (show n < 2 ^ 31 by omega)
            refine J_aload_n (pc := 50) dX8_areAlike_50 rfl rfl rfl ?_
            refine J_iload_n (pc := 51) dX8_areAlike_51 rfl rfl ?_
            refine J_iload (pc := 52) dX8_areAlike_52 rfl ?_
            refine J_callV0 (pc := 54) (M := mX8_areAlike) (as := [.int (nI q3), .int (nI c4)]) dX8_areAlike_54 fw_X8_longOnes fl_X8_162 fm_X8_longOnes fe_X8_longOnes h19_5 (by decide) rfl rfl rfl (c_X8_longOnes_atx hs (d := d - 1) (Nat.le_trans (by decide) hdm) (w := w5) (n := n) (mv := mv) (rw := rw) (nx := nx) (b := b) (bt := bt) (kn := kn) (en := en) (dn := dn) (rf := rf) (kk := kk) (th := nI (tW 0 0)) ⟨h19_5, h20_5, h21_5, h22_5, hbb_5, hbl_5, hb3_5⟩ hn1 hn2 gm gr gx q3 c4 (by first | assumption | omega) (by first | assumption | omega) (by first | assumption | omega) (by first | assumption | omega) (kc := 0) (ks := 0)) hdp (st := [.int (nI (lo (fun p => mv (q1 * 7 + p)) n c4 n / c4)), .int (nI y3)]) (Nat.le_of_ble_eq_true rfl) rfl (kr_P fun v11 hv11 => ?_) kx_I
            subst hv11
            have hlo11 := Nat.lt_of_le_of_lt (Nat.le_trans (Nat.div_le_self (lo (fun p => mv (q3 * 7 + p)) n c4 n) c4) (lo_le (fun p => mv (q3 * 7 + p)) n c4 n)) (show n < 2 ^ 31 by omega)
            refine J_icmp_neN (pc := 57) (tgt := 64) dX8_areAlike_57 (by decide) (by omega) (by omega) (fun ht12 => ?_) (fun hf13 => ?_)
            · refine J_iconst (pc := 64) (v := nI 0) dX8_areAlike_64 (by decide) ?_
              refine J_iand1 (pc := 65) dX8_areAlike_65 (by omega) (by omega) ?_
              refine J_istore_n (pc := 66) dX8_areAlike_66 rfl (by decide) rfl ?_
              show J X mX8_areAlike d kc ks 67 [some (.ref 19), some (.int (nI q1)), some (.int (nI q3)), some (.int (nI (y3 * 0))), some (.int (nI c4))] [] w5 _
              refine J_iincN (pc := 67) (b := 1) dX8_areAlike_67 rfl (by decide) (by decide) rfl ?_
              show J X mX8_areAlike d kc ks 70 [some (.ref 19), some (.int (nI q1)), some (.int (nI q3)), some (.int (nI (y3 * 0))), some (.int (nI (c4 + 1)))] [] w5 _
              refine J_goto (pc := 70) (tgt := 33) dX8_areAlike_70 (by decide) ?_
              exact J_sub (L' := [some (.ref 19), some (.int (nI q1)), some (.int (nI q3)), some (.int (nI (y3 * 0))), some (.int (nI (c4 + 1)))]) ⟨rfl, ⟨rfl, ⟨rfl, ⟨rfl, ⟨rfl, trivial⟩⟩⟩⟩⟩ (ihlp33_6 (y3 * 0) (c4 + 1) (by first | assumption | omega) (by first | assumption | omega) (by first | exact AL_s hv33_2 (by omega) (by omega) (by assumption) | exact AL_n hv33_2 (by omega) (by omega) (by assumption)) (by first | assumption | omega) (by omega))
            · refine J_iconst (pc := 60) (v := nI 1) dX8_areAlike_60 (by decide) ?_
              refine J_goto (pc := 61) (tgt := 65) dX8_areAlike_61 (by decide) ?_
              have hm14 := Nat.mod_lt y3 (show 0 < 2 ^ 1 by decide)
              refine J_iandN (pc := 65) 1 dX8_areAlike_65 (by omega) (by decide) ?_
              refine J_istore_n (pc := 66) dX8_areAlike_66 rfl (by decide) rfl ?_
              show J X mX8_areAlike d kc ks 67 [some (.ref 19), some (.int (nI q1)), some (.int (nI q3)), some (.int (nI (y3 % 2 ^ 1))), some (.int (nI c4))] [] w5 _
              refine J_iincN (pc := 67) (b := 1) dX8_areAlike_67 rfl (by decide) (by decide) rfl ?_
              show J X mX8_areAlike d kc ks 70 [some (.ref 19), some (.int (nI q1)), some (.int (nI q3)), some (.int (nI (y3 % 2 ^ 1))), some (.int (nI (c4 + 1)))] [] w5 _
              refine J_goto (pc := 70) (tgt := 33) dX8_areAlike_70 (by decide) ?_
              exact J_sub (L' := [some (.ref 19), some (.int (nI q1)), some (.int (nI q3)), some (.int (nI (y3 % 2 ^ 1))), some (.int (nI (c4 + 1)))]) ⟨rfl, ⟨rfl, ⟨rfl, ⟨rfl, ⟨rfl, trivial⟩⟩⟩⟩⟩ (ihlp33_6 (y3 % 2 ^ 1) (c4 + 1) (by first | assumption | omega) (by first | assumption | omega) (by first | exact AL_s hv33_2 (by omega) (by omega) (by assumption) | exact AL_n hv33_2 (by omega) (by omega) (by assumption)) (by first | assumption | omega) (by omega))
      exact J_sub (L' := [some (.ref 19), some (.int (nI q1)), some (.int (nI q3)), some (.int (nI 1)), some (.int (nI 1))]) ⟨rfl, ⟨rfl, ⟨rfl, ⟨rfl, ⟨rfl, trivial⟩⟩⟩⟩⟩ (lp33_6 _ 1 1 (by first | assumption | omega) (by first | assumption | omega) (by exact AL_1) (by first | assumption | omega) (Nat.lt_succ_self _))
set_option maxRecDepth 100000 in
set_option maxHeartbeats 4000000 in
theorem c_X8_commute_ate {X : jX} (hs : X.1.stackTraces = false) {d : Nat} (hd : 2 ≤ d) {n : Nat} {mv rw nx : Nat → Nat} {b : Nat} {bt : List Int32} {kn en dn rf kk th : Int32} {w : List jC} (hR : RM n mv rw nx b bt kn en dn rf kk th w) (hn1 : 2 ≤ n) (hn2 : n ≤ 7) (gm : ∀ i, mv i < 7) (gr : ∀ i, rw i < 7) (gx : ∀ i, nx i < 7) (a : Int32) (c : Int32) {kc ks : Nat} : jMet X mX8_commute d kc ks [.ref 19, .int a, .int c] w (pJ (fun v w' => ∃ (th' : Int32), RM n mv rw nx b bt kn en dn rf kk th' w' ∧ FR b b w w' ∧ ((th' = nI 1 ∧ ¬ (isN a 6 ∧ isN c 6)) ∨ (th' = nI 0 ∧ ∃ a1 b1 : Nat, a = nI a1 ∧ c = nI b1 ∧ a1 < 6 ∧ b1 < 6 ∧ ((v = nI 1 ∧ ∀ p, p < n → mv (b1 * 7 + mv (a1 * 7 + p)) = mv (a1 * 7 + mv (b1 * 7 + p))) ∨ (v = nI 0 ∧ ¬ ∀ p, p < n → mv (b1 * 7 + mv (a1 * 7 + p)) = mv (a1 * 7 + mv (b1 * 7 + p)))))))) := by
  refine jMet_of hs (by decide +kernel) (Nat.le_of_ble_eq_true rfl) (L := [some (.ref 19), some (.int a), some (.int c), none]) rfl ?_
  have hdm : 1 ≤ d - 1 := by omega
  have hdp : d - 1 + 1 ≤ d := by omega
  have hfc := fc_7 hn2
  have hfp := fc_pos n
  obtain ⟨h19, h20, h21, h22, hbb, hbl, hb3⟩ := hR
  have hF : FR b b w w := FR.rf
  refine J_aload_n (pc := 0) dX8_commute_0 rfl rfl rfl ?_
  refine J_iload_n (pc := 1) dX8_commute_1 rfl rfl ?_
  refine J_callS0 (pc := 2) (M := mX8_commute) (as := [.int a]) dX8_commute_2 fw_X8_isCell fl_X8_108 fs_X8_isCell rfl (c_X8_isCell hs (d := d - 1) (Nat.le_trans (by decide) hdm) (w := w) a (kc := 0) (ks := 0)) hdp (st := [.ref 19]) (Nat.le_of_ble_eq_true rfl) rfl (kr_P fun v1 hv1 => ?_) kx_I
  rcases hv1 with ⟨rfl, hk1_0⟩ | ⟨q1, rfl, hk1_0, rfl⟩
  · refine J_if_eqN (pc := 5) (tgt := 15) dX8_commute_5 (by decide) (by decide) (fun _ => ?_) (fun h => absurd h (by decide))
    refine J_iconst (pc := 15) (v := nI 1) dX8_commute_15 (by decide) ?_
    refine J_goto (pc := 16) (tgt := 20) dX8_commute_16 (by decide) ?_
    refine J_callV0 (pc := 20) (M := mX8_commute) (as := [.int (nI 1)]) dX8_commute_20 fw_X8_isThrown_ fl_X8_105 fm_X8_isThrown_ fe_X8_isThrown_ h19 (by decide) rfl rfl rfl (c_X8_isThrown_ hs (d := d - 1) (Nat.le_trans (by decide) hdm) (w := w) (n := n) (mv := mv) (rw := rw) (nx := nx) (b := b) (bt := bt) (kn := kn) (en := en) (dn := dn) (rf := rf) (kk := kk) (th := th) ⟨h19, h20, h21, h22, hbb, hbl, hb3⟩ hn1 hn2 gm gr gx 1 (by first | assumption | omega) (kc := 0) (ks := 0)) hdp (st := []) (Nat.le_of_ble_eq_true rfl) rfl (kr_I fun v2 w2 hv2 hw2 => ?_) kx_I
    obtain ⟨hR2, hFc2⟩ := hw2
    obtain ⟨h19_2, h20_2, h21_2, h22_2, hbb_2, hbl_2, hb3_2⟩ := hR2
    have hF2 := hF.tr hFc2
    subst hv2
    show J X mX8_commute d kc ks 23 [some (.ref 19), some (.int a), some (.int c), none] [.int (nI 1)] w2 _
    refine J_if_eqN (pc := 23) (tgt := 28) dX8_commute_23 (by decide) (by decide) (fun h => absurd h (by decide)) (fun _ => ?_)
    refine J_iconst (pc := 26) (v := nI 0) dX8_commute_26 (by decide) ?_
    exact J_zret (pc := 27) dX8_commute_27 rfl (nar_b (by first | decide | omega)) (⟨nI (tW 1 0), ⟨h19_2, h20_2, h21_2, h22_2, hbb_2, hbl_2, hb3_2⟩, hF2, (by first | exact Or.inl ⟨rfl, fun g => (by first | exact ne_isN (by assumption) g | exact ne_isN (by assumption) g.1 | exact ne_isN (by assumption) g.2)⟩ | exact Or.inr ⟨rfl, ⟨_, _, rfl, rfl, (by omega), (by omega), (by first | exact Or.inl ⟨rfl, fun p hp => hv30_0 p (by omega)⟩ | exact Or.inr ⟨rfl, fun h => absurd (h _ (by omega)) (by assumption)⟩)⟩⟩)⟩)
  · refine J_if_eqN (pc := 5) (tgt := 15) dX8_commute_5 (by decide) (by decide) (fun h => absurd h (by decide)) (fun _ => ?_)
    refine J_iload_n (pc := 8) dX8_commute_8 rfl rfl ?_
    refine J_callS0 (pc := 9) (M := mX8_commute) (as := [.int c]) dX8_commute_9 fw_X8_isCell fl_X8_108 fs_X8_isCell rfl (c_X8_isCell hs (d := d - 1) (Nat.le_trans (by decide) hdm) (w := w) c (kc := 0) (ks := 0)) hdp (st := [.ref 19]) (Nat.le_of_ble_eq_true rfl) rfl (kr_P fun v3 hv3 => ?_) kx_I
    rcases hv3 with ⟨rfl, hk3_0⟩ | ⟨q3, rfl, hk3_0, rfl⟩
    · refine J_if_neN (pc := 12) (tgt := 19) dX8_commute_12 (by decide) (by decide) (fun h => absurd h (by decide)) (fun _ => ?_)
      refine J_iconst (pc := 15) (v := nI 1) dX8_commute_15 (by decide) ?_
      refine J_goto (pc := 16) (tgt := 20) dX8_commute_16 (by decide) ?_
      refine J_callV0 (pc := 20) (M := mX8_commute) (as := [.int (nI 1)]) dX8_commute_20 fw_X8_isThrown_ fl_X8_105 fm_X8_isThrown_ fe_X8_isThrown_ h19 (by decide) rfl rfl rfl (c_X8_isThrown_ hs (d := d - 1) (Nat.le_trans (by decide) hdm) (w := w) (n := n) (mv := mv) (rw := rw) (nx := nx) (b := b) (bt := bt) (kn := kn) (en := en) (dn := dn) (rf := rf) (kk := kk) (th := th) ⟨h19, h20, h21, h22, hbb, hbl, hb3⟩ hn1 hn2 gm gr gx 1 (by first | assumption | omega) (kc := 0) (ks := 0)) hdp (st := []) (Nat.le_of_ble_eq_true rfl) rfl (kr_I fun v4 w4 hv4 hw4 => ?_) kx_I
      obtain ⟨hR4, hFc4⟩ := hw4
      obtain ⟨h19_4, h20_4, h21_4, h22_4, hbb_4, hbl_4, hb3_4⟩ := hR4
      have hF4 := hF.tr hFc4
      subst hv4
      show J X mX8_commute d kc ks 23 [some (.ref 19), some (.int (nI q1)), some (.int c), none] [.int (nI 1)] w4 _
      refine J_if_eqN (pc := 23) (tgt := 28) dX8_commute_23 (by decide) (by decide) (fun h => absurd h (by decide)) (fun _ => ?_)
      refine J_iconst (pc := 26) (v := nI 0) dX8_commute_26 (by decide) ?_
      exact J_zret (pc := 27) dX8_commute_27 rfl (nar_b (by first | decide | omega)) (⟨nI (tW 1 0), ⟨h19_4, h20_4, h21_4, h22_4, hbb_4, hbl_4, hb3_4⟩, hF4, (by first | exact Or.inl ⟨rfl, fun g => (by first | exact ne_isN (by assumption) g | exact ne_isN (by assumption) g.1 | exact ne_isN (by assumption) g.2)⟩ | exact Or.inr ⟨rfl, ⟨_, _, rfl, rfl, (by omega), (by omega), (by first | exact Or.inl ⟨rfl, fun p hp => hv30_0 p (by omega)⟩ | exact Or.inr ⟨rfl, fun h => absurd (h _ (by omega)) (by assumption)⟩)⟩⟩)⟩)
    · refine J_if_neN (pc := 12) (tgt := 19) dX8_commute_12 (by decide) (by decide) (fun _ => ?_) (fun h => absurd h (by decide))
      refine J_iconst (pc := 19) (v := nI 0) dX8_commute_19 (by decide) ?_
      refine J_callV0 (pc := 20) (M := mX8_commute) (as := [.int (nI 0)]) dX8_commute_20 fw_X8_isThrown_ fl_X8_105 fm_X8_isThrown_ fe_X8_isThrown_ h19 (by decide) rfl rfl rfl (c_X8_isThrown_ hs (d := d - 1) (Nat.le_trans (by decide) hdm) (w := w) (n := n) (mv := mv) (rw := rw) (nx := nx) (b := b) (bt := bt) (kn := kn) (en := en) (dn := dn) (rf := rf) (kk := kk) (th := th) ⟨h19, h20, h21, h22, hbb, hbl, hb3⟩ hn1 hn2 gm gr gx 0 (by first | assumption | omega) (kc := 0) (ks := 0)) hdp (st := []) (Nat.le_of_ble_eq_true rfl) rfl (kr_I fun v5 w5 hv5 hw5 => ?_) kx_I
      obtain ⟨hR5, hFc5⟩ := hw5
      obtain ⟨h19_5, h20_5, h21_5, h22_5, hbb_5, hbl_5, hb3_5⟩ := hR5
      have hF5 := hF.tr hFc5
      subst hv5
      show J X mX8_commute d kc ks 23 [some (.ref 19), some (.int (nI q1)), some (.int (nI q3)), none] [.int (nI 0)] w5 _
      refine J_if_eqN (pc := 23) (tgt := 28) dX8_commute_23 (by decide) (by decide) (fun _ => ?_) (fun h => absurd h (by decide))
      refine J_iconst (pc := 28) (v := nI 0) dX8_commute_28 (by decide) ?_
      refine J_istore_n (pc := 29) dX8_commute_29 rfl (by decide) rfl ?_
      show J X mX8_commute d kc ks 30 [some (.ref 19), some (.int (nI q1)), some (.int (nI q3)), some (.int (nI 0))] [] w5 _
      have lp30_6 : ∀ (fuel : Nat) (c3 : Nat), (∀ p, p < c3 → mv (q3 * 7 + mv (q1 * 7 + p)) = mv (q1 * 7 + mv (q3 * 7 + p))) → (c3 ≤ n) → (n - c3 < fuel) → J X mX8_commute d kc ks 30 [some (.ref 19), some (.int (nI q1)), some (.int (nI q3)), some (.int (nI c3))] [] w5 (pJ (fun v w' => ∃ (th' : Int32), RM n mv rw nx b bt kn en dn rf kk th' w' ∧ FR b b w w' ∧ ((th' = nI 1 ∧ ¬ (isN (nI q1) 6 ∧ isN (nI q3) 6)) ∨ (th' = nI 0 ∧ ∃ a1 b1 : Nat, (nI q1) = nI a1 ∧ (nI q3) = nI b1 ∧ a1 < 6 ∧ b1 < 6 ∧ ((v = nI 1 ∧ ∀ p, p < n → mv (b1 * 7 + mv (a1 * 7 + p)) = mv (a1 * 7 + mv (b1 * 7 + p))) ∨ (v = nI 0 ∧ ¬ ∀ p, p < n → mv (b1 * 7 + mv (a1 * 7 + p)) = mv (a1 * 7 + mv (b1 * 7 + p)))))))) := by
        intro fuellp30_6
        induction fuellp30_6 with
        | zero => intros; omega
        | succ fuellp30_6 ihlp30_6 =>
          intro c3 hv30_0 hv30_1 hf7
          refine J_iload_n (pc := 30) dX8_commute_30 rfl rfl ?_
          refine J_aload_n (pc := 31) dX8_commute_31 rfl rfl rfl ?_
          refine J_get (pc := 32) (k := 0) dX8_commute_32 kC9 (by decide) ff_X8_7 h19_5 rfl ?_
          refine J_icmp_geN (pc := 35) (tgt := 71) dX8_commute_35 (by decide) (by omega) (by omega) (fun ht8 => ?_) (fun hf9 => ?_)
          · refine J_iconst (pc := 71) (v := nI 1) dX8_commute_71 (by decide) ?_
            exact J_zret (pc := 72) dX8_commute_72 rfl (nar_b (by first | decide | omega)) (⟨nI (tW 0 0), ⟨h19_5, h20_5, h21_5, h22_5, hbb_5, hbl_5, hb3_5⟩, hF5, (by first | exact Or.inl ⟨rfl, fun g => (by first | exact ne_isN (by assumption) g | exact ne_isN (by assumption) g.1 | exact ne_isN (by assumption) g.2)⟩ | exact Or.inr ⟨rfl, ⟨_, _, rfl, rfl, (by omega), (by omega), (by first | exact Or.inl ⟨rfl, fun p hp => hv30_0 p (by omega)⟩ | exact Or.inr ⟨rfl, fun h => absurd (h _ (by omega)) (by assumption)⟩)⟩⟩)⟩)
          · refine J_aload_n (pc := 38) dX8_commute_38 rfl rfl rfl ?_
            refine J_iload_n (pc := 39) dX8_commute_39 rfl rfl ?_
            refine J_aload_n (pc := 40) dX8_commute_40 rfl rfl rfl ?_
            refine J_iload_n (pc := 41) dX8_commute_41 rfl rfl ?_
            refine J_iload_n (pc := 42) dX8_commute_42 rfl rfl ?_
            refine J_callV0 (pc := 43) (M := mX8_commute) (as := [.int (nI q1), .int (nI c3)]) dX8_commute_43 fw_X8_at fl_X8_82 fm_X8_at fe_X8_at h19_5 (by decide) rfl rfl rfl (c_X8_at hs (d := d - 1) (Nat.le_trans (by decide) hdm) (w := w5) (n := n) (mv := mv) (rw := rw) (nx := nx) (b := b) (bt := bt) (kn := kn) (en := en) (dn := dn) (rf := rf) (kk := kk) (th := nI (tW 0 0)) ⟨h19_5, h20_5, h21_5, h22_5, hbb_5, hbl_5, hb3_5⟩ hn1 hn2 gm gr gx q1 c3 (by first | assumption | omega) (by first | assumption | omega) (kc := 0) (ks := 0)) hdp (st := [.int (nI q3), .ref 19]) (Nat.le_of_ble_eq_true rfl) rfl (kr_P fun v10 hv10 => ?_) kx_I
            subst hv10
            have hq11 := gm (q1 * 7 + c3)
            refine J_callV0 (pc := 46) (M := mX8_commute) (as := [.int (nI q3), .int (nI (mv (q1 * 7 + c3)))]) dX8_commute_46 fw_X8_at fl_X8_82 fm_X8_at fe_X8_at h19_5 (by decide) rfl rfl rfl (c_X8_at hs (d := d - 1) (Nat.le_trans (by decide) hdm) (w := w5) (n := n) (mv := mv) (rw := rw) (nx := nx) (b := b) (bt := bt) (kn := kn) (en := en) (dn := dn) (rf := rf) (kk := kk) (th := nI (tW 0 0)) ⟨h19_5, h20_5, h21_5, h22_5, hbb_5, hbl_5, hb3_5⟩ hn1 hn2 gm gr gx q3 (mv (q1 * 7 + c3)) (by first | assumption | omega) (by first | assumption | omega) (kc := 0) (ks := 0)) hdp (st := []) (Nat.le_of_ble_eq_true rfl) rfl (kr_P fun v12 hv12 => ?_) kx_I
            subst hv12
            have hq13 := gm (q3 * 7 + (mv (q1 * 7 + c3)))
            refine J_aload_n (pc := 49) dX8_commute_49 rfl rfl rfl ?_
            refine J_iload_n (pc := 50) dX8_commute_50 rfl rfl ?_
            refine J_aload_n (pc := 51) dX8_commute_51 rfl rfl rfl ?_
            refine J_iload_n (pc := 52) dX8_commute_52 rfl rfl ?_
            refine J_iload_n (pc := 53) dX8_commute_53 rfl rfl ?_
            refine J_callV0 (pc := 54) (M := mX8_commute) (as := [.int (nI q3), .int (nI c3)]) dX8_commute_54 fw_X8_at fl_X8_82 fm_X8_at fe_X8_at h19_5 (by decide) rfl rfl rfl (c_X8_at hs (d := d - 1) (Nat.le_trans (by decide) hdm) (w := w5) (n := n) (mv := mv) (rw := rw) (nx := nx) (b := b) (bt := bt) (kn := kn) (en := en) (dn := dn) (rf := rf) (kk := kk) (th := nI (tW 0 0)) ⟨h19_5, h20_5, h21_5, h22_5, hbb_5, hbl_5, hb3_5⟩ hn1 hn2 gm gr gx q3 c3 (by first | assumption | omega) (by first | assumption | omega) (kc := 0) (ks := 0)) hdp (st := [.int (nI q1), .ref 19, .int (nI (mv (q3 * 7 + (mv (q1 * 7 + c3)))))]) (Nat.le_of_ble_eq_true rfl) rfl (kr_P fun v14 hv14 => ?_) kx_I
            subst hv14
            have hq15 := gm (q3 * 7 + c3)
            refine J_callV0 (pc := 57) (M := mX8_commute) (as := [.int (nI q1), .int (nI (mv (q3 * 7 + c3)))]) dX8_commute_57 fw_X8_at fl_X8_82 fm_X8_at fe_X8_at h19_5 (by decide) rfl rfl rfl (c_X8_at hs (d := d - 1) (Nat.le_trans (by decide) hdm) (w := w5) (n := n) (mv := mv) (rw := rw) (nx := nx) (b := b) (bt := bt) (kn := kn) (en := en) (dn := dn) (rf := rf) (kk := kk) (th := nI (tW 0 0)) ⟨h19_5, h20_5, h21_5, h22_5, hbb_5, hbl_5, hb3_5⟩ hn1 hn2 gm gr gx q1 (mv (q3 * 7 + c3)) (by first | assumption | omega) (by first | assumption | omega) (kc := 0) (ks := 0)) hdp (st := [.int (nI (mv (q3 * 7 + (mv (q1 * 7 + c3)))))]) (Nat.le_of_ble_eq_true rfl) rfl (kr_P fun v16 hv16 => ?_) kx_I
            subst hv16
            have hq17 := gm (q1 * 7 + (mv (q3 * 7 + c3)))
            refine J_icmp_eqN (pc := 60) (tgt := 65) dX8_commute_60 (by decide) (by omega) (by omega) (fun ht18 => ?_) (fun hf19 => ?_)
            · refine J_iincN (pc := 65) (b := 1) dX8_commute_65 rfl (by decide) (by decide) rfl ?_
              show J X mX8_commute d kc ks 68 [some (.ref 19), some (.int (nI q1)), some (.int (nI q3)), some (.int (nI (c3 + 1)))] [] w5 _
              refine J_goto (pc := 68) (tgt := 30) dX8_commute_68 (by decide) ?_
              exact J_sub (L' := [some (.ref 19), some (.int (nI q1)), some (.int (nI q3)), some (.int (nI (c3 + 1)))]) ⟨rfl, ⟨rfl, ⟨rfl, ⟨rfl, trivial⟩⟩⟩⟩ (ihlp30_6 (c3 + 1) (by intro p hp; by_cases e : p = c3; (rw [e]; assumption); (exact hv30_0 p (by omega))) (by first | assumption | omega) (by omega))
            · refine J_iconst (pc := 63) (v := nI 0) dX8_commute_63 (by decide) ?_
              exact J_zret (pc := 64) dX8_commute_64 rfl (nar_b (by first | decide | omega)) (⟨nI (tW 0 0), ⟨h19_5, h20_5, h21_5, h22_5, hbb_5, hbl_5, hb3_5⟩, hF5, (by first | exact Or.inl ⟨rfl, fun g => (by first | exact ne_isN (by assumption) g | exact ne_isN (by assumption) g.1 | exact ne_isN (by assumption) g.2)⟩ | exact Or.inr ⟨rfl, ⟨_, _, rfl, rfl, (by omega), (by omega), (by first | exact Or.inl ⟨rfl, fun p hp => hv30_0 p (by omega)⟩ | exact Or.inr ⟨rfl, fun h => absurd (h _ (by omega)) (by assumption)⟩)⟩⟩)⟩)
      exact J_sub (L' := [some (.ref 19), some (.int (nI q1)), some (.int (nI q3)), some (.int (nI 0))]) ⟨rfl, ⟨rfl, ⟨rfl, ⟨rfl, trivial⟩⟩⟩⟩ (lp30_6 _ 0 (by intro p hp; omega) (by first | assumption | omega) (Nat.lt_succ_self _))
set_option maxRecDepth 100000 in
set_option maxHeartbeats 40000000 in
theorem c_X8_houseNow_atq {X : jX} (hs : X.1.stackTraces = false) {d : Nat} (hd : 0 ≤ d) {n : Nat} {mv rw nx : Nat → Nat} {b : Nat} {bt : List Int32} {kn en dn rf kk th : Int32} {w : List jC} (hR : RM n mv rw nx b bt kn en dn rf kk th w) (hn1 : 2 ≤ n) (hn2 : n ≤ 7) (gm : ∀ i, mv i < 7) (gr : ∀ i, rw i < 7) (gx : ∀ i, nx i < 7) (a : Int32) {kc ks : Nat} : jMet X mX8_houseNow d kc ks [.ref 19, .int a] w (pI (fun v => v = (if a = nI 0 then dn else if a = nI 1 then rf else kk)) (fun w' => w' = w)) := by
  refine jMet_of hs (by decide +kernel) (Nat.le_of_ble_eq_true rfl) (L := [some (.ref 19), some (.int a)]) rfl ?_
  have hfc := fc_7 hn2
  have hfp := fc_pos n
  obtain ⟨h19, h20, h21, h22, hbb, hbl, hb3⟩ := hR
  have hF : FR b b w w := FR.rf
  refine J_iload_n (pc := 0) dX8_houseNow_0 rfl rfl ?_
  refine J_if_ne (pc := 1) (tgt := 11) dX8_houseNow_1 (by decide) (fun ht1 => ?_) (fun hf2 => ?_)
  · refine J_iload_n (pc := 11) dX8_houseNow_11 rfl rfl ?_
    refine J_iconst (pc := 12) (v := nI 1) dX8_houseNow_12 (by decide) ?_
    refine J_icmp_ne (pc := 13) (tgt := 23) dX8_houseNow_13 (by decide) (fun ht3 => ?_) (fun hf4 => ?_)
    · refine J_aload_n (pc := 23) dX8_houseNow_23 rfl rfl rfl ?_
      refine J_get (pc := 24) (k := 9) dX8_houseNow_24 kC9 (by decide) ff_X8_227 h19 rfl ?_
      exact J_iret (pc := 27) dX8_houseNow_27 rfl ⟨(by first | exact (if_pos ((show a = 0 by assumption).trans nI_0.symm)).symm | exact ((if_neg (fun e => absurd (e.trans nI_0) (by assumption))).trans (if_pos (by assumption))).symm | exact ((if_neg (fun e => absurd (e.trans nI_0) (by assumption))).trans (if_neg (by assumption))).symm), rfl⟩
    · refine J_aload_n (pc := 16) dX8_houseNow_16 rfl rfl rfl ?_
      refine J_get (pc := 17) (k := 8) dX8_houseNow_17 kC9 (by decide) ff_X8_42 h19 rfl ?_
      refine J_goto (pc := 20) (tgt := 27) dX8_houseNow_20 (by decide) ?_
      exact J_iret (pc := 27) dX8_houseNow_27 rfl ⟨(by first | exact (if_pos ((show a = 0 by assumption).trans nI_0.symm)).symm | exact ((if_neg (fun e => absurd (e.trans nI_0) (by assumption))).trans (if_pos (by assumption))).symm | exact ((if_neg (fun e => absurd (e.trans nI_0) (by assumption))).trans (if_neg (by assumption))).symm), rfl⟩
  · refine J_aload_n (pc := 4) dX8_houseNow_4 rfl rfl rfl ?_
    refine J_get (pc := 5) (k := 7) dX8_houseNow_5 kC9 (by decide) ff_X8_39 h19 rfl ?_
    refine J_goto (pc := 8) (tgt := 27) dX8_houseNow_8 (by decide) ?_
    exact J_iret (pc := 27) dX8_houseNow_27 rfl ⟨(by first | exact (if_pos ((show a = 0 by assumption).trans nI_0.symm)).symm | exact ((if_neg (fun e => absurd (e.trans nI_0) (by assumption))).trans (if_pos (by assumption))).symm | exact ((if_neg (fun e => absurd (e.trans nI_0) (by assumption))).trans (if_neg (by assumption))).symm), rfl⟩
set_option maxRecDepth 100000 in
set_option maxHeartbeats 40000000 in
theorem c_X8_house_ate {X : jX} (hs : X.1.stackTraces = false) {d : Nat} (hd : 2 ≤ d) {n : Nat} {mv rw nx : Nat → Nat} {b : Nat} {bt : List Int32} {kn en dn rf kk th : Int32} {w : List jC} (hR : RM n mv rw nx b bt kn en dn rf kk th w) (hn1 : 2 ≤ n) (hn2 : n ≤ 7) (gm : ∀ i, mv i < 7) (gr : ∀ i, rw i < 7) (gx : ∀ i, nx i < 7) (a : Int32) {kc ks : Nat} : jMet X mX8_house d kc ks [.ref 19, .int a] w (pJ (fun v w' => ∃ (th' : Int32), RM n mv rw nx b bt kn en dn rf kk th' w' ∧ FR b b w w' ∧ ((th' = nI 1 ∧ ¬ (isN a 3)) ∨ (th' = nI 0 ∧ isN a 3 ∧ v = (if a = nI 0 then dn else if a = nI 1 then rf else kk))))) := by
  refine jMet_of hs (by decide +kernel) (Nat.le_of_ble_eq_true rfl) (L := [some (.ref 19), some (.int a)]) rfl ?_
  have hdm : 1 ≤ d - 1 := by omega
  have hdp : d - 1 + 1 ≤ d := by omega
  have hfc := fc_7 hn2
  have hfp := fc_pos n
  obtain ⟨h19, h20, h21, h22, hbb, hbl, hb3⟩ := hR
  have hF : FR b b w w := FR.rf
  refine J_aload_n (pc := 0) dX8_house_0 rfl rfl rfl ?_
  refine J_iload_n (pc := 1) dX8_house_1 rfl rfl ?_
  refine J_if_lt (pc := 2) (tgt := 10) dX8_house_2 (by decide) (fun ht1 => ?_) (fun hf2 => ?_)
  · refine J_iconst (pc := 10) (v := nI 1) dX8_house_10 (by decide) ?_
    refine J_goto (pc := 11) (tgt := 15) dX8_house_11 (by decide) ?_
    refine J_callV0 (pc := 15) (M := mX8_house) (as := [.int (nI 1)]) dX8_house_15 fw_X8_isThrown_ fl_X8_105 fm_X8_isThrown_ fe_X8_isThrown_ h19 (by decide) rfl rfl rfl (c_X8_isThrown_ hs (d := d - 1) (Nat.le_trans (by decide) hdm) (w := w) (n := n) (mv := mv) (rw := rw) (nx := nx) (b := b) (bt := bt) (kn := kn) (en := en) (dn := dn) (rf := rf) (kk := kk) (th := th) ⟨h19, h20, h21, h22, hbb, hbl, hb3⟩ hn1 hn2 gm gr gx 1 (by first | assumption | omega) (kc := 0) (ks := 0)) hdp (st := []) (Nat.le_of_ble_eq_true rfl) rfl (kr_I fun v3 w3 hv3 hw3 => ?_) kx_I
    obtain ⟨hR3, hFc3⟩ := hw3
    obtain ⟨h19_3, h20_3, h21_3, h22_3, hbb_3, hbl_3, hb3_3⟩ := hR3
    have hF3 := hF.tr hFc3
    subst hv3
    show J X mX8_house d kc ks 18 [some (.ref 19), some (.int a)] [.int (nI 1)] w3 _
    refine J_if_eqN (pc := 18) (tgt := 25) dX8_house_18 (by decide) (by decide) (fun h => absurd h (by decide)) (fun _ => ?_)
    refine J_iconst (pc := 21) (v := nI 0) dX8_house_21 (by decide) ?_
    refine J_goto (pc := 22) (tgt := 30) dX8_house_22 (by decide) ?_
    exact J_iret (pc := 30) dX8_house_30 rfl (⟨nI (tW 1 0), ⟨h19_3, h20_3, h21_3, h22_3, hbb_3, hbl_3, hb3_3⟩, hF3, (by first | exact Or.inl ⟨rfl, fun g => (by obtain ⟨k, hk, e⟩ := g; subst e; first | exact absurd (by assumption) (nI_pos (n := k) (by omega)) | exact absurd ((nI_leI (a := k) (b := 2) (by omega) (by omega)).mpr (by omega)) (by assumption))⟩ | exact Or.inr ⟨rfl, isN_3 (by assumption) (by assumption), hPv⟩)⟩)
  · refine J_iload_n (pc := 5) dX8_house_5 rfl rfl ?_
    refine J_iconst (pc := 6) (v := nI 2) dX8_house_6 (by decide) ?_
    refine J_icmp_le (pc := 7) (tgt := 14) dX8_house_7 (by decide) (fun ht4 => ?_) (fun hf5 => ?_)
    · refine J_iconst (pc := 14) (v := nI 0) dX8_house_14 (by decide) ?_
      refine J_callV0 (pc := 15) (M := mX8_house) (as := [.int (nI 0)]) dX8_house_15 fw_X8_isThrown_ fl_X8_105 fm_X8_isThrown_ fe_X8_isThrown_ h19 (by decide) rfl rfl rfl (c_X8_isThrown_ hs (d := d - 1) (Nat.le_trans (by decide) hdm) (w := w) (n := n) (mv := mv) (rw := rw) (nx := nx) (b := b) (bt := bt) (kn := kn) (en := en) (dn := dn) (rf := rf) (kk := kk) (th := th) ⟨h19, h20, h21, h22, hbb, hbl, hb3⟩ hn1 hn2 gm gr gx 0 (by first | assumption | omega) (kc := 0) (ks := 0)) hdp (st := []) (Nat.le_of_ble_eq_true rfl) rfl (kr_I fun v6 w6 hv6 hw6 => ?_) kx_I
      obtain ⟨hR6, hFc6⟩ := hw6
      obtain ⟨h19_6, h20_6, h21_6, h22_6, hbb_6, hbl_6, hb3_6⟩ := hR6
      have hF6 := hF.tr hFc6
      subst hv6
      show J X mX8_house d kc ks 18 [some (.ref 19), some (.int a)] [.int (nI 0)] w6 _
      refine J_if_eqN (pc := 18) (tgt := 25) dX8_house_18 (by decide) (by decide) (fun _ => ?_) (fun h => absurd h (by decide))
      refine J_aload_n (pc := 25) dX8_house_25 rfl rfl rfl ?_
      refine J_iload_n (pc := 26) dX8_house_26 rfl rfl ?_
      refine J_callV0 (pc := 27) (M := mX8_house) (as := [.int a]) dX8_house_27 fw_X8_houseNow fl_X8_230 fm_X8_houseNow fe_X8_houseNow h19_6 (by decide) rfl rfl rfl (c_X8_houseNow_atq hs (d := d - 1) (Nat.le_trans (by decide) hdm) (w := w6) (n := n) (mv := mv) (rw := rw) (nx := nx) (b := b) (bt := bt) (kn := kn) (en := en) (dn := dn) (rf := rf) (kk := kk) (th := nI (tW 0 0)) ⟨h19_6, h20_6, h21_6, h22_6, hbb_6, hbl_6, hb3_6⟩ hn1 hn2 gm gr gx a (kc := 0) (ks := 0)) hdp (st := []) (Nat.le_of_ble_eq_true rfl) rfl (kr_P fun v7 hv7 => ?_) kx_I
      have hPv := hv7
      exact J_iret (pc := 30) dX8_house_30 rfl (⟨nI (tW 0 0), ⟨h19_6, h20_6, h21_6, h22_6, hbb_6, hbl_6, hb3_6⟩, hF6, (by first | exact Or.inl ⟨rfl, fun g => (by obtain ⟨k, hk, e⟩ := g; subst e; first | exact absurd (by assumption) (nI_pos (n := k) (by omega)) | exact absurd ((nI_leI (a := k) (b := 2) (by omega) (by omega)).mpr (by omega)) (by assumption))⟩ | exact Or.inr ⟨rfl, isN_3 (by assumption) (by assumption), hPv⟩)⟩)
    · refine J_iconst (pc := 10) (v := nI 1) dX8_house_10 (by decide) ?_
      refine J_goto (pc := 11) (tgt := 15) dX8_house_11 (by decide) ?_
      refine J_callV0 (pc := 15) (M := mX8_house) (as := [.int (nI 1)]) dX8_house_15 fw_X8_isThrown_ fl_X8_105 fm_X8_isThrown_ fe_X8_isThrown_ h19 (by decide) rfl rfl rfl (c_X8_isThrown_ hs (d := d - 1) (Nat.le_trans (by decide) hdm) (w := w) (n := n) (mv := mv) (rw := rw) (nx := nx) (b := b) (bt := bt) (kn := kn) (en := en) (dn := dn) (rf := rf) (kk := kk) (th := th) ⟨h19, h20, h21, h22, hbb, hbl, hb3⟩ hn1 hn2 gm gr gx 1 (by first | assumption | omega) (kc := 0) (ks := 0)) hdp (st := []) (Nat.le_of_ble_eq_true rfl) rfl (kr_I fun v8 w8 hv8 hw8 => ?_) kx_I
      obtain ⟨hR8, hFc8⟩ := hw8
      obtain ⟨h19_8, h20_8, h21_8, h22_8, hbb_8, hbl_8, hb3_8⟩ := hR8
      have hF8 := hF.tr hFc8
      subst hv8
      show J X mX8_house d kc ks 18 [some (.ref 19), some (.int a)] [.int (nI 1)] w8 _
      refine J_if_eqN (pc := 18) (tgt := 25) dX8_house_18 (by decide) (by decide) (fun h => absurd h (by decide)) (fun _ => ?_)
      refine J_iconst (pc := 21) (v := nI 0) dX8_house_21 (by decide) ?_
      refine J_goto (pc := 22) (tgt := 30) dX8_house_22 (by decide) ?_
      exact J_iret (pc := 30) dX8_house_30 rfl (⟨nI (tW 1 0), ⟨h19_8, h20_8, h21_8, h22_8, hbb_8, hbl_8, hb3_8⟩, hF8, (by first | exact Or.inl ⟨rfl, fun g => (by obtain ⟨k, hk, e⟩ := g; subst e; first | exact absurd (by assumption) (nI_pos (n := k) (by omega)) | exact absurd ((nI_leI (a := k) (b := 2) (by omega) (by omega)).mpr (by omega)) (by assumption))⟩ | exact Or.inr ⟨rfl, isN_3 (by assumption) (by assumption), hPv⟩)⟩)
