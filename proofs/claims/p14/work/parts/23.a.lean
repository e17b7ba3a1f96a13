/-! all moves laid still -/
set_option maxRecDepth 100000 in
set_option maxHeartbeats 4000000 in
theorem c_J7_fill_53178_ath {X : jX} (hs : X.1.stackTraces = false) {d : Nat} {w : List jC} {f : Nat → Nat} (hw : w[1]? = some (aF 6 f)) (a : Nat) {kc ks : Nat} : jMet X mJ7_fill_53178 d kc ks [.ref 1, .int (nI a)] w (pV (fun w' => w'.length = w.length ∧ w'[1]? = some (aF 6 (fun _ => a)) ∧ ∀ i, i ≠ 1 → w'[i]? = w[i]?)) := by
  refine jMet_of hs (by decide +kernel) (Nat.le_of_ble_eq_true rfl) (L := [some (.ref 1), some (.int (nI a)), none, none]) rfl ?_
  refine J_iconst (pc := 0) (v := nI 0) dJ7_fill_53178_0 (by decide) ?_
  refine J_istore_n (pc := 1) dJ7_fill_53178_1 rfl (by decide) rfl ?_
  show J X mJ7_fill_53178 d kc ks 2 [some (.ref 1), some (.int (nI a)), some (.int (nI 0)), none] [] w _
  refine J_aload_n (pc := 2) dJ7_fill_53178_2 rfl rfl rfl ?_
  refine J_alen (pc := 3) (n := nI 6) dJ7_fill_53178_3 hw (by decide) (by rw [List.length_map, List.length_range]; rfl) ?_
  refine J_istore_n (pc := 4) dJ7_fill_53178_4 rfl (by decide) rfl ?_
  show J X mJ7_fill_53178 d kc ks 5 [some (.ref 1), some (.int (nI a)), some (.int (nI 0)), some (.int (nI 6))] [] w _
  have lp : ∀ (fuel : Nat) (w3 : List jC) (g : Nat → Nat) (c2 : Nat), w3.length = w.length → w3[1]? = some (aF 6 g) → (∀ i, i < c2 → g i = a) → (∀ i, i ≠ 1 → w3[i]? = w[i]?) → c2 ≤ 6 → 6 - c2 < fuel → J X mJ7_fill_53178 d kc ks 5 [some (.ref 1), some (.int (nI a)), some (.int (nI c2)), some (.int (nI 6))] [] w3 (pV (fun w' => w'.length = w.length ∧ w'[1]? = some (aF 6 (fun _ => a)) ∧ ∀ i, i ≠ 1 → w'[i]? = w[i]?)) := by
    intro fuel
    induction fuel with
    | zero => intros; omega
    | succ fuel ih =>
      intro w3 g c2 h1 h2 h3 h4 h5 h6
      refine J_iload_n (pc := 5) dJ7_fill_53178_5 rfl rfl ?_
      refine J_iload_n (pc := 6) dJ7_fill_53178_6 rfl rfl ?_
      refine J_icmp_geN (pc := 7) (tgt := 20) dJ7_fill_53178_7 (by decide) (by omega) (by omega) (fun ht => ?_) (fun hf => ?_)
      · exact J_vret (pc := 20) dJ7_fill_53178_20 rfl ⟨h1, h2.trans (congrArg some (aF_congr (fun i hi => h3 i (by omega)))), h4⟩
      · refine J_aload_n (pc := 10) dJ7_fill_53178_10 rfl rfl rfl ?_
        refine J_iload_n (pc := 11) dJ7_fill_53178_11 rfl rfl ?_
        refine J_iload_n (pc := 12) dJ7_fill_53178_12 rfl rfl ?_
        refine J_iastF (pc := 13) dJ7_fill_53178_13 h2 (by omega) (by decide) (fun w4 hln hc hne => ?_)
        refine J_iincN (pc := 14) (b := 1) dJ7_fill_53178_14 rfl (by decide) (by decide) rfl ?_
        show J X mJ7_fill_53178 d kc ks 17 [some (.ref 1), some (.int (nI a)), some (.int (nI (c2 + 1))), some (.int (nI 6))] [] w4 _
        refine J_goto (pc := 17) (tgt := 5) dJ7_fill_53178_17 (by decide) ?_
        refine ih w4 _ (c2 + 1) (hln.trans h1) hc (fun i hi => ?_) (fun i hi => (hne i hi).trans (h4 i hi)) (by omega) (by omega)
        by_cases e : i = c2
        · rw [e]; exact up_s _ _ _
        · rw [up_n e]; exact h3 i (by omega)
  exact lp 7 w f 0 rfl hw (fun i hi => absurd hi (Nat.not_lt_zero i)) (fun _ _ => rfl) (by decide) (by decide)
