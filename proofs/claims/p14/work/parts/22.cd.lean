/-! contracts of the reference: rspec3 -/
set_option maxRecDepth 100000 in
set_option maxHeartbeats 4000000 in
theorem c_X8_areUnlike {X : jX} (hs : X.1.stackTraces = false) {d : Nat} (hd : 1 ≤ d) {n : Nat} {mv rw nx : Nat → Nat} {b : Nat} {bt : List Int32} {kn en dn rf kk th : Int32} {w : List jC} (hR : RM n mv rw nx b bt kn en dn rf kk th w) (hn1 : 2 ≤ n) (hn2 : n ≤ 7) (gm : ∀ i, mv i < 7) (gr : ∀ i, rw i < 7) (gx : ∀ i, nx i < 7) (a : Nat) (c : Nat) (hy0 : a < 6) (hy1 : c < 6) {kc ks : Nat} : jMet X mX8_areUnlike d kc ks [.ref 19, .int (nI a), .int (nI c)] w (pI (fun v => ∃ k : Nat, v = nI k ∧ k < 2) (fun w' => w' = w)) := by
  refine jMet_of hs (by decide +kernel) (Nat.le_of_ble_eq_true rfl) (L := [some (.ref 19), some (.int (nI a)), some (.int (nI c)), none]) rfl ?_
  have hfc := fc_7 hn2
  have hfp := fc_pos n
  obtain ⟨h19, h20, h21, h22, hbb, hbl, hb3⟩ := hR
  have hF : FR b b w w := FR.rf
  refine J_iconst (pc := 0) (v := nI 0) dX8_areUnlike_0 (by decide) ?_
  refine J_istore_n (pc := 1) dX8_areUnlike_1 rfl (by decide) rfl ?_
  show J X mX8_areUnlike d kc ks 2 [some (.ref 19), some (.int (nI a)), some (.int (nI c)), some (.int (nI 0))] [] w _
  have lp2_1 : ∀ (fuel : Nat) (c3 : Nat), (c3 ≤ n) → (n - c3 < fuel) → J X mX8_areUnlike d kc ks 2 [some (.ref 19), some (.int (nI a)), some (.int (nI c)), some (.int (nI c3))] [] w (pI (fun v => ∃ k : Nat, v = nI k ∧ k < 2) (fun w' => w' = w)) := by
    intro fuellp2_1
    induction fuellp2_1 with
    | zero => intros; omega
    | succ fuellp2_1 ihlp2_1 =>
      intro c3 hv2_0 hf2
      refine J_iload_n (pc := 2) dX8_areUnlike_2 rfl rfl ?_
      refine J_aload_n (pc := 3) dX8_areUnlike_3 rfl rfl rfl ?_
      refine J_get (pc := 4) (k := 0) dX8_areUnlike_4 kC9 (by decide) ff_X8_7 h19 rfl ?_
      refine J_icmp_geN (pc := 7) (tgt := 33) dX8_areUnlike_7 (by decide) (by omega) (by omega) (fun ht3 => ?_) (fun hf4 => ?_)
      · refine J_iconst (pc := 33) (v := nI 0) dX8_areUnlike_33 (by decide) ?_
        exact J_zret (pc := 34) dX8_areUnlike_34 rfl (nar_b (by first | decide | omega)) ⟨⟨0, rfl, by omega⟩, rfl⟩
      · refine J_aload_n (pc := 10) dX8_areUnlike_10 rfl rfl rfl ?_
        refine J_iload_n (pc := 11) dX8_areUnlike_11 rfl rfl ?_
        refine J_iload_n (pc := 12) dX8_areUnlike_12 rfl rfl ?_
        refine J_callV0 (pc := 13) (M := mX8_areUnlike) (as := [.int (nI a), .int (nI c3)]) dX8_areUnlike_13 fw_X8_at fl_X8_82 fm_X8_at fe_X8_at h19 (by decide) rfl rfl rfl (c_X8_at hs (d := d - 1) (by omega) (w := w) (n := n) (mv := mv) (rw := rw) (nx := nx) (b := b) (bt := bt) (kn := kn) (en := en) (dn := dn) (rf := rf) (kk := kk) (th := th) ⟨h19, h20, h21, h22, hbb, hbl, hb3⟩ hn1 hn2 gm gr gx a c3 (by first | assumption | omega) (by first | assumption | omega) (kc := 0) (ks := 0)) (by omega) (st := []) (Nat.le_of_ble_eq_true rfl) rfl (kr_P fun v5 hv5 => ?_) kx_I
        subst hv5
        have hq6 := gm (a * 7 + c3)
        refine J_aload_n (pc := 16) dX8_areUnlike_16 rfl rfl rfl ?_
        refine J_iload_n (pc := 17) dX8_areUnlike_17 rfl rfl ?_
        refine J_iload_n (pc := 18) dX8_areUnlike_18 rfl rfl ?_
        refine J_callV0 (pc := 19) (M := mX8_areUnlike) (as := [.int (nI c), .int (nI c3)]) dX8_areUnlike_19 fw_X8_at fl_X8_82 fm_X8_at fe_X8_at h19 (by decide) rfl rfl rfl (c_X8_at hs (d := d - 1) (by omega) (w := w) (n := n) (mv := mv) (rw := rw) (nx := nx) (b := b) (bt := bt) (kn := kn) (en := en) (dn := dn) (rf := rf) (kk := kk) (th := th) ⟨h19, h20, h21, h22, hbb, hbl, hb3⟩ hn1 hn2 gm gr gx c c3 (by first | assumption | omega) (by first | assumption | omega) (kc := 0) (ks := 0)) (by omega) (st := [.int (nI (mv (a * 7 + c3)))]) (Nat.le_of_ble_eq_true rfl) rfl (kr_P fun v7 hv7 => ?_) kx_I
        subst hv7
        have hq8 := gm (c * 7 + c3)
        refine J_icmp_eqN (pc := 22) (tgt := 27) dX8_areUnlike_22 (by decide) (by omega) (by omega) (fun ht9 => ?_) (fun hf10 => ?_)
        · refine J_iincN (pc := 27) (b := 1) dX8_areUnlike_27 rfl (by decide) (by decide) rfl ?_
          show J X mX8_areUnlike d kc ks 30 [some (.ref 19), some (.int (nI a)), some (.int (nI c)), some (.int (nI (c3 + 1)))] [] w _
          refine J_goto (pc := 30) (tgt := 2) dX8_areUnlike_30 (by decide) ?_
          exact J_sub (L' := [some (.ref 19), some (.int (nI a)), some (.int (nI c)), some (.int (nI (c3 + 1)))]) ⟨rfl, ⟨rfl, ⟨rfl, ⟨rfl, trivial⟩⟩⟩⟩ (ihlp2_1 (c3 + 1) (by first | assumption | omega) (by omega))
        · refine J_iconst (pc := 25) (v := nI 1) dX8_areUnlike_25 (by decide) ?_
          exact J_zret (pc := 26) dX8_areUnlike_26 rfl (nar_b (by first | decide | omega)) ⟨⟨1, rfl, by omega⟩, rfl⟩
  exact J_sub (L' := [some (.ref 19), some (.int (nI a)), some (.int (nI c)), some (.int (nI 0))]) ⟨rfl, ⟨rfl, ⟨rfl, ⟨rfl, trivial⟩⟩⟩⟩ (lp2_1 _ 0 (by first | assumption | omega) (Nat.lt_succ_self _))
