/-! contracts of the class -/
set_option maxRecDepth 100000 in
set_option maxHeartbeats 4000000 in
theorem c_X6_cannot {X : jX} (hs : X.1.stackTraces = false) {d : Nat} (hd : 0 ≤ d) {n : Nat} {e r q : Int32} (hn1 : 2 ≤ n) (hn2 : n ≤ 7) {w : List jC} (hS : SH (rX n e r q) w) {kc ks : Nat} : jMet X mX6_cannot d kc ks [.ref 0] w (pI (fun _ => True) (fun w' => rT n q w w')) := by
  refine jMet_of hs (by decide +kernel) (Nat.le_of_ble_eq_true rfl) (L := [some (.ref 0)]) rfl ?_
  have hG : Fr kX w w := Fr.rf
  refine J_aload_n (pc := 0) dX6_cannot_0 rfl rfl rfl ?_
  refine J_dup (pc := 1) dX6_cannot_1 rfl ?_
  obtain ⟨_, hc1, rfl⟩ := hS 0 _ rfl
  refine J_get (pc := 2) (k := 7) dX6_cannot_2 kC7 (by decide) ff_X6_48 hc1 rfl ?_
  refine J_iconst (pc := 5) (v := nI 1) dX6_cannot_5 (by decide) ?_
  refine J_iadd (pc := 6) dX6_cannot_6 (J_absI fun x2 => ?_)
  refine J_put0 (pc := 7) (n' := n) (e' := e) (r' := x2) (q' := q) (k := 7) dX6_cannot_7 kC7 (by decide) ff_X6_48 (Or.inl rfl) ⟨rfl, rfl⟩ hS (by decide) rfl (fun w3 hS3 hne3 hF3 => ?_)
  have hG3 := hG.tr hF3
  refine J_bipush (pc := 10) (v := (-9)) dX6_cannot_10 (by decide) ?_
  exact J_iret (pc := 12) dX6_cannot_12 rfl ⟨trivial, ⟨_, _, hS3, hG3⟩⟩
