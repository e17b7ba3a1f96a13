/-! contracts of the reference: rspec3 -/
set_option maxRecDepth 100000 in
set_option maxHeartbeats 4000000 in
theorem c_X8_stillRow {X : jX} (hs : X.1.stackTraces = false) {d : Nat} (hd : 0 ≤ d) {n : Nat} {mv rw nx : Nat → Nat} {b : Nat} {bt : List Int32} {kn en dn rf kk th : Int32} {w : List jC} (hR : RM n mv rw nx b bt kn en dn rf kk th w) (hn1 : 2 ≤ n) (hn2 : n ≤ 7) (gm : ∀ i, mv i < 7) (gr : ∀ i, rw i < 7) (gx : ∀ i, nx i < 7) {kc ks : Nat} : jMet X mX8_stillRow d kc ks [.ref 19] w (pV (fun w' => ∃ (rw' : Nat → Nat), RM n mv rw' nx b bt kn en dn rf kk th w' ∧ FR b b w w' ∧ (∀ i, rw' i < 7) ∧ ∀ p, p < n → rw' p = p)) := by
  refine jMet_of hs (by decide +kernel) (Nat.le_of_ble_eq_true rfl) (L := [some (.ref 19), none]) rfl ?_
  have hfc := fc_7 hn2
  have hfp := fc_pos n
  obtain ⟨h19, h20, h21, h22, hbb, hbl, hb3⟩ := hR
  have hF : FR b b w w := FR.rf
  refine J_iconst (pc := 0) (v := nI 0) dX8_stillRow_0 (by decide) ?_
  refine J_istore_n (pc := 1) dX8_stillRow_1 rfl (by decide) rfl ?_
  show J X mX8_stillRow d kc ks 2 [some (.ref 19), some (.int (nI 0))] [] w _
  have lp2_1 : ∀ (fuel : Nat) (w2 : List jC) (rw_2 : Nat → Nat) (c1 : Nat), (RM n mv rw_2 nx b bt kn en dn rf kk th w2) → (FR b b w w2) → (∀ i, rw_2 i < 7) → (∀ p, p < c1 → rw_2 p = p) → (c1 ≤ n) → (n - c1 < fuel) → J X mX8_stillRow d kc ks 2 [some (.ref 19), some (.int (nI c1))] [] w2 (pV (fun w' => ∃ (rw' : Nat → Nat), RM n mv rw' nx b bt kn en dn rf kk th w' ∧ FR b b w w' ∧ (∀ i, rw' i < 7) ∧ ∀ p, p < n → rw' p = p)) := by
    intro fuellp2_1
    induction fuellp2_1 with
    | zero => intros; omega
    | succ fuellp2_1 ihlp2_1 =>
      intro w2 rw_2 c1 hR3 hF4 gr5 hv2_0 hv2_1 hf6
      obtain ⟨h19_7, h20_7, h21_7, h22_7, hb_7, hbl_7, hb3_7⟩ := hR3
      refine J_iload_n (pc := 2) dX8_stillRow_2 rfl rfl ?_
      refine J_aload_n (pc := 3) dX8_stillRow_3 rfl rfl rfl ?_
      refine J_get (pc := 4) (k := 0) dX8_stillRow_4 kC9 (by decide) ff_X8_7 h19_7 rfl ?_
      refine J_icmp_geN (pc := 7) (tgt := 23) dX8_stillRow_7 (by decide) (by omega) (by omega) (fun ht8 => ?_) (fun hf9 => ?_)
      · exact J_vret (pc := 23) dX8_stillRow_23 rfl (⟨rw_2, ⟨h19_7, h20_7, h21_7, h22_7, hb_7, hbl_7, hb3_7⟩, hF4, gr5, (by intro p hp; exact hv2_0 p (by omega))⟩)
      · refine J_aload_n (pc := 10) dX8_stillRow_10 rfl rfl rfl ?_
        refine J_get (pc := 11) (k := 2) dX8_stillRow_11 kC9 (by decide) ff_X8_17 h19_7 rfl ?_
        refine J_iload_n (pc := 14) dX8_stillRow_14 rfl rfl ?_
        refine J_iload_n (pc := 15) dX8_stillRow_15 rfl rfl ?_
        refine J_iastF (pc := 16) dX8_stillRow_16 h21_7 (by omega) (by decide) (fun w10 hln10 hc10 hne10 => ?_)
        have hg10 : ∀ i, (up rw_2 c1 c1) i < 7 := up_b gr5 (by omega)
        have h19_10 := (hne10 19 (by omega)).trans h19_7
        have h20_10 := (hne10 20 (by omega)).trans h20_7
        have h22_10 := (hne10 22 (by omega)).trans h22_7
        have hb_10 := (hne10 _ (by omega)).trans hb_7
        have hF10 := hF4.st hln10 hne10 (Or.inl (by decide))
        refine J_iincN (pc := 17) (b := 1) dX8_stillRow_17 rfl (by decide) (by decide) rfl ?_
        show J X mX8_stillRow d kc ks 20 [some (.ref 19), some (.int (nI (c1 + 1)))] [] w10 _
        refine J_goto (pc := 20) (tgt := 2) dX8_stillRow_20 (by decide) ?_
        exact J_sub (L' := [some (.ref 19), some (.int (nI (c1 + 1)))]) ⟨rfl, ⟨rfl, trivial⟩⟩ (ihlp2_1 w10 (up rw_2 c1 c1) (c1 + 1) ⟨h19_10, h20_10, hc10, h22_10, hb_10, hbl_7, hb3_7⟩ hF10 hg10 (by intro p hp; by_cases e : p = c1; (subst e; exact up_s _ _ _); (rw [up_n e]; exact hv2_0 p (by omega))) (by first | assumption | omega) (by omega))
  exact J_sub (L' := [some (.ref 19), some (.int (nI 0))]) ⟨rfl, ⟨rfl, trivial⟩⟩ (lp2_1 _ w rw 0 ⟨h19, h20, h21, h22, hbb, hbl, hb3⟩ hF gr (by intro p hp; omega) (by first | assumption | omega) (Nat.lt_succ_self _))
