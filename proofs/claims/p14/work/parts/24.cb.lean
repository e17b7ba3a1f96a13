section
/-! contracts of the JDK's builders of texts -/
set_option maxRecDepth 100000 in
set_option maxHeartbeats 4000000 in
theorem c_J6_getChars_ba4f3 {X : jX} (hs : X.1.stackTraces = false) {d : Nat} (hd : 0 ≤ d) (hXO : XO X) {w : List jC} (x : Nat) (idx : Nat) (p : Nat) (bs : List Int32) (hy0 : w[p]? = some (.inl (1, bs))) (hy1 : jFitB bs) (hy2 : x < 10000) (hy3 : dgs x ≤ idx) (hy4 : idx ≤ bs.length) (hy5 : bs.length ≤ 270) {kc ks : Nat} : jMet X mJ6_getChars_ba4f3 d kc ks [.int (nI x), .int (nI idx), .ref p] w (pI (fun _ => True) (fun w' => ∃ bs' : List Int32, FS p p w w' ∧ w'[p]? = some (.inl (1, bs')) ∧ bs'.length = bs.length ∧ jFitB bs')) := by
  refine jMet_of hs (by decide +kernel) (Nat.le_of_ble_eq_true rfl) (L := [some (.int (nI x)), some (.int (nI idx)), some (.ref p), none, none, none, none]) rfl ?_
  have hF : FS p p w w := FS.rf
  have hgp := gl hy0
  have hdg : (x < 10 ∧ 1 ≤ idx) ∨ (10 ≤ x ∧ x < 100 ∧ 2 ≤ idx) ∨ (100 ≤ x ∧ x < 1000 ∧ 3 ≤ idx) ∨ (1000 ≤ x ∧ 4 ≤ idx) := by
    unfold dgs at hy3
    (repeat' split at hy3) <;> omega
  refine J_iload_n (pc := 0) dJ6_getChars_ba4f3_0 rfl rfl ?_
  refine J_istore (pc := 1) dJ6_getChars_ba4f3_1 (by decide) rfl ?_
  show J X mJ6_getChars_ba4f3 d kc ks 3 [some (.int (nI x)), some (.int (nI idx)), some (.ref p), none, none, some (.int (nI idx)), none] [] w _
  refine J_iload_n (pc := 3) dJ6_getChars_ba4f3_3 rfl rfl ?_
  refine J_if_geN (pc := 4) (tgt := 11) dJ6_getChars_ba4f3_4 (by decide) (by omega) (fun ht1 => ?_) 
  refine J_iconst (pc := 11) (v := nI 0) dJ6_getChars_ba4f3_11 (by decide) ?_
  refine J_istore (pc := 12) dJ6_getChars_ba4f3_12 (by decide) rfl ?_
  show J X mJ6_getChars_ba4f3 d kc ks 14 [some (.int (nI x)), some (.int (nI idx)), some (.ref p), none, none, some (.int (nI idx)), some (.int (nI 0))] [] w _
  refine J_iload (pc := 14) dJ6_getChars_ba4f3_14 rfl ?_
  refine J_if_neN (pc := 16) (tgt := 22) dJ6_getChars_ba4f3_16 (by decide) (by decide) (fun h => absurd h (by decide)) (fun _ => ?_)
  refine J_iload_n (pc := 19) dJ6_getChars_ba4f3_19 rfl rfl ?_
  refine J_ineg (pc := 20) dJ6_getChars_ba4f3_20 ?_
  refine J_istore_n (pc := 21) dJ6_getChars_ba4f3_21 rfl (by decide) rfl ?_
  show J X mJ6_getChars_ba4f3 d kc ks 22 [some (.int (-nI x)), some (.int (nI idx)), some (.ref p), none, none, some (.int (nI idx)), some (.int (nI 0))] [] w _
  refine J_iload_n (pc := 22) dJ6_getChars_ba4f3_22 rfl rfl ?_
  refine J_bipush (pc := 23) (v := (-100)) dJ6_getChars_ba4f3_23 (by decide) ?_
  refine J_icmp_gtG (pc := 25) (tgt := 72) (P := 100) dJ6_getChars_ba4f3_25 (by decide) (by decide) (by omega) (by decide) (fun ht3 => ?_) (fun hf4 => ?_)
  · refine J_aload_n (pc := 72) dJ6_getChars_ba4f3_72 rfl rfl rfl ?_
    refine J_iincM (pc := 73) dJ6_getChars_ba4f3_73 rfl (by omega) (by decide) rfl ?_
    show J X mJ6_getChars_ba4f3 d kc ks 76 [some (.int (-nI x)), some (.int (nI idx)), some (.ref p), none, none, some (.int (nI (idx - 1))), some (.int (nI 0))] [.ref p] w _
    refine J_iload (pc := 76) dJ6_getChars_ba4f3_76 rfl ?_
    refine J_gets (pc := 78) (M := mJ6_getChars_ba4f3) (v := .retAddr 1) dJ6_getChars_ba4f3_78 (by simp [jStat]) ff_J6_83 ?_
    show J X mJ6_getChars_ba4f3 d kc ks 81 [some (.int (-nI x)), some (.int (nI idx)), some (.ref p), none, none, some (.int (nI (idx - 1))), some (.int (nI 0))] [.retAddr 1, .int (nI (idx - 1)), .ref p] w _
    refine J_iload_n (pc := 81) dJ6_getChars_ba4f3_81 rfl rfl ?_
    refine J_inegG (pc := 82) dJ6_getChars_ba4f3_82 ?_
    obtain ⟨ys6, hys6, hyl6⟩ := hXO.1
    refine J_baldO (pc := 83) dJ6_getChars_ba4f3_83 hys6 (by rw [hyl6]; exact nI_in (by omega) (by decide)) (J_absI fun x5 => ?_)
    refine J_bastS (pc := 84) dJ6_getChars_ba4f3_84 hy0 hy1 (by omega) (by omega) (fun w7 ys7 hln7 hc7 hyl7 hyf7 hne7 => ?_)
    have hF7 := hF.st hln7 hne7 (by omega)
    refine J_iload_n (pc := 85) dJ6_getChars_ba4f3_85 rfl rfl ?_
    refine J_bipush (pc := 86) (v := (-9)) dJ6_getChars_ba4f3_86 (by decide) ?_
    refine J_icmp_geG (pc := 88) (tgt := 104) (P := 9) dJ6_getChars_ba4f3_88 (by decide) (by decide) (by omega) (by decide) (fun ht8 => ?_) (fun hf9 => ?_)
    · refine J_iload (pc := 104) dJ6_getChars_ba4f3_104 rfl ?_
      refine J_if_eqN (pc := 106) (tgt := 118) dJ6_getChars_ba4f3_106 (by decide) (by decide) (fun _ => ?_) (fun h => absurd h (by decide))
      refine J_iload (pc := 118) dJ6_getChars_ba4f3_118 rfl ?_
      exact J_iret (pc := 120) dJ6_getChars_ba4f3_120 rfl ⟨trivial, ⟨ys7, hF7, hc7, by omega, hyf7⟩⟩
    · refine J_aload_n (pc := 91) dJ6_getChars_ba4f3_91 rfl rfl rfl ?_
      refine J_iincM (pc := 92) dJ6_getChars_ba4f3_92 rfl (by omega) (by decide) rfl ?_
      show J X mJ6_getChars_ba4f3 d kc ks 95 [some (.int (-nI x)), some (.int (nI idx)), some (.ref p), none, none, some (.int (nI (idx - 1 - 1))), some (.int (nI 0))] [.ref p] w7 _
      refine J_iload (pc := 95) dJ6_getChars_ba4f3_95 rfl ?_
      refine J_gets (pc := 97) (M := mJ6_getChars_ba4f3) (v := .retAddr 2) dJ6_getChars_ba4f3_97 (by simp [jStat]) ff_J6_87 ?_
      show J X mJ6_getChars_ba4f3 d kc ks 100 [some (.int (-nI x)), some (.int (nI idx)), some (.ref p), none, none, some (.int (nI (idx - 1 - 1))), some (.int (nI 0))] [.retAddr 2, .int (nI (idx - 1 - 1)), .ref p] w7 _
      refine J_iload_n (pc := 100) dJ6_getChars_ba4f3_100 rfl rfl ?_
      refine J_inegG (pc := 101) dJ6_getChars_ba4f3_101 ?_
      obtain ⟨ys11, hys11, hyl11⟩ := hXO.2.1
      refine J_baldO (pc := 102) dJ6_getChars_ba4f3_102 hys11 (by rw [hyl11]; exact nI_in (by omega) (by decide)) (J_absI fun x10 => ?_)
      refine J_bastS (pc := 103) dJ6_getChars_ba4f3_103 hc7 hyf7 (by omega) (by omega) (fun w12 ys12 hln12 hc12 hyl12 hyf12 hne12 => ?_)
      have hF12 := hF7.st hln12 hne12 (by omega)
      refine J_iload (pc := 104) dJ6_getChars_ba4f3_104 rfl ?_
      refine J_if_eqN (pc := 106) (tgt := 118) dJ6_getChars_ba4f3_106 (by decide) (by decide) (fun _ => ?_) (fun h => absurd h (by decide))
      refine J_iload (pc := 118) dJ6_getChars_ba4f3_118 rfl ?_
      exact J_iret (pc := 120) dJ6_getChars_ba4f3_120 rfl ⟨trivial, ⟨ys12, hF12, hc12, by omega, hyf12⟩⟩
  · refine J_iload_n (pc := 28) dJ6_getChars_ba4f3_28 rfl rfl ?_
    refine J_bipush (pc := 29) (v := nI 100) dJ6_getChars_ba4f3_29 (by decide) ?_
    refine J_idivG (pc := 31) dJ6_getChars_ba4f3_31 (by omega) ?_
    refine J_istore_n (pc := 32) dJ6_getChars_ba4f3_32 rfl (by decide) rfl ?_
    show J X mJ6_getChars_ba4f3 d kc ks 33 [some (.int (-nI x)), some (.int (nI idx)), some (.ref p), some (.int (-nI (x / 100))), none, some (.int (nI idx)), some (.int (nI 0))] [] w _
    refine J_iload_n (pc := 33) dJ6_getChars_ba4f3_33 rfl rfl ?_
    refine J_bipush (pc := 34) (v := nI 100) dJ6_getChars_ba4f3_34 (by decide) ?_
    refine J_imulG (pc := 36) dJ6_getChars_ba4f3_36 ?_
    refine J_iload_n (pc := 37) dJ6_getChars_ba4f3_37 rfl rfl ?_
    refine J_isubG (pc := 38) dJ6_getChars_ba4f3_38 (by omega) ?_
    refine J_istore (pc := 39) dJ6_getChars_ba4f3_39 (by decide) rfl ?_
    show J X mJ6_getChars_ba4f3 d kc ks 41 [some (.int (-nI x)), some (.int (nI idx)), some (.ref p), some (.int (-nI (x / 100))), some (.int (nI (x - ((x / 100) * 100)))), some (.int (nI idx)), some (.int (nI 0))] [] w _
    refine J_iload_n (pc := 41) dJ6_getChars_ba4f3_41 rfl rfl ?_
    refine J_istore_n (pc := 42) dJ6_getChars_ba4f3_42 rfl (by decide) rfl ?_
    show J X mJ6_getChars_ba4f3 d kc ks 43 [some (.int (-nI (x / 100))), some (.int (nI idx)), some (.ref p), some (.int (-nI (x / 100))), some (.int (nI (x - ((x / 100) * 100)))), some (.int (nI idx)), some (.int (nI 0))] [] w _
    refine J_aload_n (pc := 43) dJ6_getChars_ba4f3_43 rfl rfl rfl ?_
    refine J_iincM (pc := 44) dJ6_getChars_ba4f3_44 rfl (by omega) (by decide) rfl ?_
    show J X mJ6_getChars_ba4f3 d kc ks 47 [some (.int (-nI (x / 100))), some (.int (nI idx)), some (.ref p), some (.int (-nI (x / 100))), some (.int (nI (x - ((x / 100) * 100)))), some (.int (nI (idx - 1))), some (.int (nI 0))] [.ref p] w _
    refine J_iload (pc := 47) dJ6_getChars_ba4f3_47 rfl ?_
    refine J_gets (pc := 49) (M := mJ6_getChars_ba4f3) (v := .retAddr 1) dJ6_getChars_ba4f3_49 (by simp [jStat]) ff_J6_83 ?_
    show J X mJ6_getChars_ba4f3 d kc ks 52 [some (.int (-nI (x / 100))), some (.int (nI idx)), some (.ref p), some (.int (-nI (x / 100))), some (.int (nI (x - ((x / 100) * 100)))), some (.int (nI (idx - 1))), some (.int (nI 0))] [.retAddr 1, .int (nI (idx - 1)), .ref p] w _
    refine J_iload (pc := 52) dJ6_getChars_ba4f3_52 rfl ?_
    obtain ⟨ys14, hys14, hyl14⟩ := hXO.1
    refine J_baldO (pc := 54) dJ6_getChars_ba4f3_54 hys14 (by rw [hyl14]; exact nI_in (by omega) (by decide)) (J_absI fun x13 => ?_)
    refine J_bastS (pc := 55) dJ6_getChars_ba4f3_55 hy0 hy1 (by omega) (by omega) (fun w15 ys15 hln15 hc15 hyl15 hyf15 hne15 => ?_)
    have hF15 := hF.st hln15 hne15 (by omega)
    refine J_aload_n (pc := 56) dJ6_getChars_ba4f3_56 rfl rfl rfl ?_
    refine J_iincM (pc := 57) dJ6_getChars_ba4f3_57 rfl (by omega) (by decide) rfl ?_
    show J X mJ6_getChars_ba4f3 d kc ks 60 [some (.int (-nI (x / 100))), some (.int (nI idx)), some (.ref p), some (.int (-nI (x / 100))), some (.int (nI (x - ((x / 100) * 100)))), some (.int (nI (idx - 1 - 1))), some (.int (nI 0))] [.ref p] w15 _
    refine J_iload (pc := 60) dJ6_getChars_ba4f3_60 rfl ?_
    refine J_gets (pc := 62) (M := mJ6_getChars_ba4f3) (v := .retAddr 2) dJ6_getChars_ba4f3_62 (by simp [jStat]) ff_J6_87 ?_
    show J X mJ6_getChars_ba4f3 d kc ks 65 [some (.int (-nI (x / 100))), some (.int (nI idx)), some (.ref p), some (.int (-nI (x / 100))), some (.int (nI (x - ((x / 100) * 100)))), some (.int (nI (idx - 1 - 1))), some (.int (nI 0))] [.retAddr 2, .int (nI (idx - 1 - 1)), .ref p] w15 _
    refine J_iload (pc := 65) dJ6_getChars_ba4f3_65 rfl ?_
    obtain ⟨ys17, hys17, hyl17⟩ := hXO.2.1
    refine J_baldO (pc := 67) dJ6_getChars_ba4f3_67 hys17 (by rw [hyl17]; exact nI_in (by omega) (by decide)) (J_absI fun x16 => ?_)
    refine J_bastS (pc := 68) dJ6_getChars_ba4f3_68 hc15 hyf15 (by omega) (by omega) (fun w18 ys18 hln18 hc18 hyl18 hyf18 hne18 => ?_)
    have hF18 := hF15.st hln18 hne18 (by omega)
    refine J_goto (pc := 69) (tgt := 22) dJ6_getChars_ba4f3_69 (by decide) ?_
    refine J_iload_n (pc := 22) dJ6_getChars_ba4f3_22 rfl rfl ?_
    refine J_bipush (pc := 23) (v := (-100)) dJ6_getChars_ba4f3_23 (by decide) ?_
    refine J_icmp_gtG (pc := 25) (tgt := 72) (P := 100) dJ6_getChars_ba4f3_25 (by decide) (by decide) (by omega) (by decide) (fun ht19 => ?_) (fun hf20 => ?_)
    · refine J_aload_n (pc := 72) dJ6_getChars_ba4f3_72 rfl rfl rfl ?_
      refine J_iincM (pc := 73) dJ6_getChars_ba4f3_73 rfl (by omega) (by decide) rfl ?_
      show J X mJ6_getChars_ba4f3 d kc ks 76 [some (.int (-nI (x / 100))), some (.int (nI idx)), some (.ref p), some (.int (-nI (x / 100))), some (.int (nI (x - ((x / 100) * 100)))), some (.int (nI (idx - 1 - 1 - 1))), some (.int (nI 0))] [.ref p] w18 _
      refine J_iload (pc := 76) dJ6_getChars_ba4f3_76 rfl ?_
      refine J_gets (pc := 78) (M := mJ6_getChars_ba4f3) (v := .retAddr 1) dJ6_getChars_ba4f3_78 (by simp [jStat]) ff_J6_83 ?_
      show J X mJ6_getChars_ba4f3 d kc ks 81 [some (.int (-nI (x / 100))), some (.int (nI idx)), some (.ref p), some (.int (-nI (x / 100))), some (.int (nI (x - ((x / 100) * 100)))), some (.int (nI (idx - 1 - 1 - 1))), some (.int (nI 0))] [.retAddr 1, .int (nI (idx - 1 - 1 - 1)), .ref p] w18 _
      refine J_iload_n (pc := 81) dJ6_getChars_ba4f3_81 rfl rfl ?_
      refine J_inegG (pc := 82) dJ6_getChars_ba4f3_82 ?_
      obtain ⟨ys22, hys22, hyl22⟩ := hXO.1
      refine J_baldO (pc := 83) dJ6_getChars_ba4f3_83 hys22 (by rw [hyl22]; exact nI_in (by omega) (by decide)) (J_absI fun x21 => ?_)
      refine J_bastS (pc := 84) dJ6_getChars_ba4f3_84 hc18 hyf18 (by omega) (by omega) (fun w23 ys23 hln23 hc23 hyl23 hyf23 hne23 => ?_)
      have hF23 := hF18.st hln23 hne23 (by omega)
      refine J_iload_n (pc := 85) dJ6_getChars_ba4f3_85 rfl rfl ?_
      refine J_bipush (pc := 86) (v := (-9)) dJ6_getChars_ba4f3_86 (by decide) ?_
      refine J_icmp_geG (pc := 88) (tgt := 104) (P := 9) dJ6_getChars_ba4f3_88 (by decide) (by decide) (by omega) (by decide) (fun ht24 => ?_) (fun hf25 => ?_)
      · refine J_iload (pc := 104) dJ6_getChars_ba4f3_104 rfl ?_
        refine J_if_eqN (pc := 106) (tgt := 118) dJ6_getChars_ba4f3_106 (by decide) (by decide) (fun _ => ?_) (fun h => absurd h (by decide))
        refine J_iload (pc := 118) dJ6_getChars_ba4f3_118 rfl ?_
        exact J_iret (pc := 120) dJ6_getChars_ba4f3_120 rfl ⟨trivial, ⟨ys23, hF23, hc23, by omega, hyf23⟩⟩
      · refine J_aload_n (pc := 91) dJ6_getChars_ba4f3_91 rfl rfl rfl ?_
        refine J_iincM (pc := 92) dJ6_getChars_ba4f3_92 rfl (by omega) (by decide) rfl ?_
        show J X mJ6_getChars_ba4f3 d kc ks 95 [some (.int (-nI (x / 100))), some (.int (nI idx)), some (.ref p), some (.int (-nI (x / 100))), some (.int (nI (x - ((x / 100) * 100)))), some (.int (nI (idx - 1 - 1 - 1 - 1))), some (.int (nI 0))] [.ref p] w23 _
        refine J_iload (pc := 95) dJ6_getChars_ba4f3_95 rfl ?_
        refine J_gets (pc := 97) (M := mJ6_getChars_ba4f3) (v := .retAddr 2) dJ6_getChars_ba4f3_97 (by simp [jStat]) ff_J6_87 ?_
        show J X mJ6_getChars_ba4f3 d kc ks 100 [some (.int (-nI (x / 100))), some (.int (nI idx)), some (.ref p), some (.int (-nI (x / 100))), some (.int (nI (x - ((x / 100) * 100)))), some (.int (nI (idx - 1 - 1 - 1 - 1))), some (.int (nI 0))] [.retAddr 2, .int (nI (idx - 1 - 1 - 1 - 1)), .ref p] w23 _
        refine J_iload_n (pc := 100) dJ6_getChars_ba4f3_100 rfl rfl ?_
        refine J_inegG (pc := 101) dJ6_getChars_ba4f3_101 ?_
        obtain ⟨ys27, hys27, hyl27⟩ := hXO.2.1
        refine J_baldO (pc := 102) dJ6_getChars_ba4f3_102 hys27 (by rw [hyl27]; exact nI_in (by omega) (by decide)) (J_absI fun x26 => ?_)
        refine J_bastS (pc := 103) dJ6_getChars_ba4f3_103 hc23 hyf23 (by omega) (by omega) (fun w28 ys28 hln28 hc28 hyl28 hyf28 hne28 => ?_)
        have hF28 := hF23.st hln28 hne28 (by omega)
        refine J_iload (pc := 104) dJ6_getChars_ba4f3_104 rfl ?_
        refine J_if_eqN (pc := 106) (tgt := 118) dJ6_getChars_ba4f3_106 (by decide) (by decide) (fun _ => ?_) (fun h => absurd h (by decide))
        refine J_iload (pc := 118) dJ6_getChars_ba4f3_118 rfl ?_
        exact J_iret (pc := 120) dJ6_getChars_ba4f3_120 rfl ⟨trivial, ⟨ys28, hF28, hc28, by omega, hyf28⟩⟩
    · exact absurd hf20 (by omega)
set_option maxRecDepth 100000 in
set_option maxHeartbeats 4000000 in
theorem c_J5_append_c97b9 {X : jX} (hs : X.1.stackTraces = false) {d : Nat} (hd : 4 ≤ d) (hXO : XO X) {a v : Nat} {ml : Int32} {c : Nat} {bs : List Int32} {w : List jC} (hB : SBp a v ml c bs w) (x : Nat) (hy0 : x < 10000) (hy1 : c ≤ 128) {kc ks : Nat} (hkc : (gL (c + dgs x) bs.length - bs.length) / 18 ≤ kc) (hks : 2 * (gL (c + dgs x) bs.length - bs.length) ≤ ks) : jMet X mJ5_append_c97b9 d kc ks [.ref a, .int (nI x)] w (pA (fun r w' => r = a ∧ ∃ (v' : Nat) (bs' : List Int32), SBp a v' ml (c + dgs x) bs' w' ∧ FS a v w w' ∧ (v' = v ∨ w.length ≤ v') ∧ bs'.length = gL (c + dgs x) bs.length)) := by
  refine jMet_of hs (by decide +kernel) (Nat.le_of_ble_eq_true rfl) (L := [some (.ref a), some (.int (nI x)), none, none]) rfl ?_
  have hdm : 3 ≤ d - 1 := by omega
  have hdp : d - 1 + 1 ≤ d := by omega
  obtain ⟨h_a, h_v, hfit, hB1, hB2, hB3⟩ := hB
  have hav : a ≠ v := fun e => by subst e; rw [h_a] at h_v; cases h_v
  have hga := gl h_a
  have hgv := gl h_v
  have hF : FS a v w w := FS.rf
  have hdl := dgs_le x
  have hgd := gL_d (c + dgs x) bs.length
  refine J_aload_n (pc := 0) dJ5_append_c97b9_0 rfl rfl rfl ?_
  refine J_get (pc := 1) (k := 3) dJ5_append_c97b9_1 kC1 (by decide) ff_J5_79 h_a rfl ?_
  refine J_istore_n (pc := 4) dJ5_append_c97b9_4 rfl (by decide) rfl ?_
  show J X mJ5_append_c97b9 d kc ks 5 [some (.ref a), some (.int (nI x)), some (.int (nI c)), none] [] w _
  refine J_iload_n (pc := 5) dJ5_append_c97b9_5 rfl rfl ?_
  refine J_iload_n (pc := 6) dJ5_append_c97b9_6 rfl rfl ?_
  refine J_callS0 (pc := 7) (M := mJ5_append_c97b9) (as := [.int (nI x)]) dJ5_append_c97b9_7 fw_J6_stringSize_0f7a4 fl_J5_245 fs_J6_stringSize_0f7a4 rfl (c_J6_stringSize_0f7a4 hs (d := d - 1) (Nat.le_trans (by decide) hdm) (w := w) x (by first | assumption | omega) (kc := 0) (ks := 0)) hdp (st := [.int (nI c)]) (Nat.le_of_ble_eq_true rfl) rfl (kr_P fun v1 hv1 => ?_) kx_I
  subst hv1
  refine J_iaddN (pc := 10) dJ5_append_c97b9_10 ?_
  refine J_istore_n (pc := 11) dJ5_append_c97b9_11 rfl (by decide) rfl ?_
  show J X mJ5_append_c97b9 d kc ks 12 [some (.ref a), some (.int (nI x)), some (.int (nI c)), some (.int (nI (c + (dgs x))))] [] w _
  refine J_aload_n (pc := 12) dJ5_append_c97b9_12 rfl rfl rfl ?_
  refine J_iload_n (pc := 13) dJ5_append_c97b9_13 rfl rfl ?_
  refine J_callP (pc := 14) (M := mJ5_append_c97b9) (as := [.int (nI (c + (dgs x)))]) (q := (RJ4, TJ4, 4)) dJ5_append_c97b9_14 fw_J5_ensureCapacityInternal_d00df fl_J5_100 fq_J5_J5_ensureCapacityInternal_d00df fm_J5_ensureCapacityInternal_d00df fp_J5_ensure fe_J4_J5_isLatin1_aae02 rfl h_a (by decide) rfl rfl (c_J5_ensureCapacityInternal_d00df hs (d := d - 1) (by omega) (a := a) (v := v) (c := c) (bs := bs) (w := w) ⟨h_a, h_v, hfit, (by omega), (by omega), (by omega)⟩ (c + (dgs x)) (by first | assumption | omega) (kc := ((gL (c + (dgs x)) bs.length - bs.length) / 18)) (ks := (2 * (gL (c + (dgs x)) bs.length - bs.length))) (Nat.le_refl _) (Nat.le_refl _)) (by omega) (by omega) (by omega) (st := []) (Nat.le_of_ble_eq_true rfl) rfl (kr_V fun w2 hw2 => ?_) kx_V
  obtain ⟨v2', ys2, ⟨h_a2, h_v2, hfit2, hB12, hB22, hB32⟩, hFc2, hvv2, hp2_0⟩ := hw2
  have hav2 : a ≠ v2' := fun e => by rw [e] at h_a2; rw [h_a2] at h_v2; cases h_v2
  have hgl2 := hFc2.1
  have hgf3 := gL_d (c + (dgs x)) bs.length
  have hF2 := hF.tr hFc2 (by omega)
  refine J_aload_n (pc := 17) dJ5_append_c97b9_17 rfl rfl rfl ?_
  refine J_callU (pc := 18) (M := mJ5_append_c97b9) (as := []) (x := yJ5_isLatin1_aae02) (owner := RJ5) (q := (RJ4, TJ4, 4)) dJ5_append_c97b9_18 fw_J5_isLatin1_aae02 fl_J5_83 fq_J5_J5_isLatin1_aae02 fm_J5_isLatin1_aae02 fe_J4_J5_isLatin1_aae02 rfl h_a2 (by decide) rfl rfl (c_J5_isLatin1_aae02 hs (d := d - 1) (by omega) (a := a) (v := v2') (c := c) (bs := ys2) (w := w2) ⟨h_a2, h_v2, hfit2, (by omega), (by omega), (by omega)⟩  (kc := 0) (ks := 0)) (by omega) (by omega) (by omega) (st := []) (Nat.le_of_ble_eq_true rfl) rfl (kr_P fun v4 hv4 => ?_) kx_I
  subst hv4
  refine J_if_eqN (pc := 21) (tgt := 37) dJ5_append_c97b9_21 (by decide) (by decide) (fun h => absurd h (by decide)) (fun _ => ?_)
  refine J_iload_n (pc := 24) dJ5_append_c97b9_24 rfl rfl ?_
  refine J_iload_n (pc := 25) dJ5_append_c97b9_25 rfl rfl ?_
  refine J_aload_n (pc := 26) dJ5_append_c97b9_26 rfl rfl rfl ?_
  refine J_get (pc := 27) (k := 0) dJ5_append_c97b9_27 kC1 (by decide) ff_J5_15 h_a2 rfl ?_
  refine J_callS (pc := 30) (M := mJ5_append_c97b9) (as := [.int (nI x), .int (nI (c + (dgs x))), .ref v2']) dJ5_append_c97b9_30 fw_J6_getChars_ba4f3 fl_J5_248 fs_J6_getChars_ba4f3 rfl (c_J6_getChars_ba4f3 hs (d := d - 1) (by omega) hXO (w := w2) x (c + (dgs x)) v2' _ (by assumption) (by first | assumption | omega) (by first | assumption | omega) (by first | assumption | omega) (by first | assumption | omega) (by first | assumption | omega) (kc := 0) (ks := 0)) (by omega) (by omega) (by omega) (st := []) (Nat.le_of_ble_eq_true rfl) rfl (kr_I fun v5 w5 hv5 hw5 => ?_) kx_I
  obtain ⟨ys5, hFc5, hcn5, hyl5, hyf5⟩ := hw5
  have hoa_5 := (hFc5.2 a (by omega) (by omega) (gl h_a2)).trans h_a2
  have hF5 := hF2.tr2 hFc5 (by omega)
  refine J_pop (pc := 33) dJ5_append_c97b9_33 rfl ?_
  refine J_goto (pc := 34) (tgt := 48) dJ5_append_c97b9_34 (by decide) ?_
  refine J_aload_n (pc := 48) dJ5_append_c97b9_48 rfl rfl rfl ?_
  refine J_iload_n (pc := 49) dJ5_append_c97b9_49 rfl rfl ?_
  refine J_putW (pc := 50) (k := 3) dJ5_append_c97b9_50 kC1 (by decide) ff_J5_79 (Or.inl rfl) ⟨rfl, rfl⟩ hoa_5 (Nat.le_of_ble_eq_true rfl) (fun w6 hln6 hw6 hne6 => ?_)
  have hoa_6 : w6[a]? = some (.inr (1, [.ref v2', .int (nI 0), .int ml, .int (nI (c + (dgs x)))])) := hw6
  have hlv2'_6 := (hne6 v2' (by omega)).trans hcn5
  have hF6 := hF5.st hln6 hne6 (by omega)
  refine J_aload_n (pc := 53) dJ5_append_c97b9_53 rfl rfl rfl ?_
  exact J_aret (pc := 54) dJ5_append_c97b9_54 rfl rfl rfl ⟨rfl, ⟨v2', ys5, ⟨hoa_6, hlv2'_6, hyf5, (by omega), (by omega), (by omega)⟩, hF6, (by omega), (by omega)⟩⟩
set_option maxRecDepth 100000 in
set_option maxHeartbeats 4000000 in
theorem c_J4_append_bf812 {X : jX} (hs : X.1.stackTraces = false) {d : Nat} (hd : 5 ≤ d) (hXO : XO X) {a v : Nat} {ml : Int32} {c : Nat} {bs : List Int32} {w : List jC} (hB : SBp a v ml c bs w) (x : Nat) (hy0 : x < 10000) (hy1 : c ≤ 128) {kc ks : Nat} (hkc : (gL (c + dgs x) bs.length - bs.length) / 18 ≤ kc) (hks : 2 * (gL (c + dgs x) bs.length - bs.length) ≤ ks) : jMet X mJ4_append_bf812 d kc ks [.ref a, .int (nI x)] w (pA (fun r w' => r = a ∧ ∃ (v' : Nat) (bs' : List Int32), SBp a v' ml (c + dgs x) bs' w' ∧ FS a v w w' ∧ (v' = v ∨ w.length ≤ v') ∧ bs'.length = gL (c + dgs x) bs.length)) := by
  refine jMet_of hs (by decide +kernel) (Nat.le_of_ble_eq_true rfl) (L := [some (.ref a), some (.int (nI x))]) rfl ?_
  have hdm : 4 ≤ d - 1 := by omega
  have hdp : d - 1 + 1 ≤ d := by omega
  obtain ⟨h_a, h_v, hfit, hB1, hB2, hB3⟩ := hB
  have hav : a ≠ v := fun e => by subst e; rw [h_a] at h_v; cases h_v
  have hga := gl h_a
  have hgv := gl h_v
  have hF : FS a v w w := FS.rf
  have hdl := dgs_le x
  have hgd := gL_d (c + dgs x) bs.length
  refine J_aload_n (pc := 0) dJ4_append_bf812_0 rfl rfl rfl ?_
  refine J_iload_n (pc := 1) dJ4_append_bf812_1 rfl rfl ?_
  refine J_callSU (pc := 2) (M := mJ4_append_bf812) (as := [.int (nI x)]) (cj := 1) dJ4_append_bf812_2 fw_J5_append_c97b9 fl_J4_53 fq_J5_J5_append_c97b9 fsup_J4 fm_J5_append_c97b9 (by decide) ⟨rfl, rfl⟩ h_a (by decide) rfl rfl (c_J5_append_c97b9 hs (d := d - 1) (by omega) hXO (a := a) (v := v) (c := c) (bs := bs) (w := w) ⟨h_a, h_v, hfit, (by omega), (by omega), (by omega)⟩ x (by first | assumption | omega) (by first | assumption | omega) (kc := ((gL (c + dgs x) bs.length - bs.length) / 18)) (ks := (2 * (gL (c + dgs x) bs.length - bs.length))) (Nat.le_refl _) (Nat.le_refl _)) (by omega) (by omega) (by omega) (st := []) (Nat.le_of_ble_eq_true rfl) rfl (kr_A fun r1 w1 hw1 => ?_) kx_A
  obtain ⟨hra1, v1', ys1, ⟨h_a1, h_v1, hfit1, hB11, hB21, hB31⟩, hFc1, hvv1, hp1_0⟩ := hw1
  obtain rfl := hra1.symm
  have hav1 : a ≠ v1' := fun e => by rw [e] at h_a1; rw [h_a1] at h_v1; cases h_v1
  have hgl1 := hFc1.1
  have hgf2 := gL_d (c + dgs x) bs.length
  have hF1 := hF.tr hFc1 (by omega)
  refine J_pop (pc := 5) dJ4_append_bf812_5 rfl ?_
  refine J_aload_n (pc := 6) dJ4_append_bf812_6 rfl rfl rfl ?_
  exact J_aret (pc := 7) dJ4_append_bf812_7 rfl rfl rfl ⟨rfl, ⟨v1', ys1, ⟨h_a1, h_v1, hfit1, (by omega), (by omega), (by omega)⟩, hF1, (by omega), (by omega)⟩⟩
set_option maxRecDepth 100000 in
set_option maxHeartbeats 4000000 in
theorem c_J0_coder_7d493_ato {X : jX} (hs : X.1.stackTraces = false) {d : Nat} (hd : 0 ≤ d) {w : List jC} (s : Nat) (t : Nat) (z : List Value) (hy0 : X.2.2.2.2.2[s]? = some (.inr (0, .retAddr t :: z))) {kc ks : Nat} : jMet X mJ0_coder_7d493 d kc ks [.retAddr s] w (pI (fun v => v = nI 0) (fun w' => w' = w)) := by
  refine jMet_of hs (by decide +kernel) (Nat.le_of_ble_eq_true rfl) (L := [some (.retAddr s)]) rfl ?_
  have hold := hy0
  refine J_gets (pc := 0) (M := mJ0_coder_7d493) (v := .int 1) dJ0_coder_7d493_0 (by simp [jStat]) ff_J0_38 ?_
  show J X mJ0_coder_7d493 d kc ks 3 [some (.retAddr s)] [.int (nI 1)] w _
  refine J_if_eqN (pc := 3) (tgt := 13) dJ0_coder_7d493_3 (by decide) (by decide) (fun h => absurd h (by decide)) (fun _ => ?_)
  refine J_aload_n (pc := 6) dJ0_coder_7d493_6 rfl rfl rfl ?_
  refine J_getOc (pc := 7) (M := mJ0_coder_7d493) dJ0_coder_7d493_7 ff_J0_15 hold ?_
  show J X mJ0_coder_7d493 d kc ks 10 [some (.retAddr s)] [.int (nI 0)] w _
  refine J_goto (pc := 10) (tgt := 14) dJ0_coder_7d493_10 (by decide) ?_
  exact J_zret (pc := 14) dJ0_coder_7d493_14 rfl (by decide) ⟨rfl, rfl⟩
set_option maxRecDepth 100000 in
set_option maxHeartbeats 4000000 in
theorem c_J0_length_8abf5_ato {X : jX} (hs : X.1.stackTraces = false) {d : Nat} (hd : 1 ≤ d) {w : List jC} (s : Nat) (t : Nat) (z : List Value) (os : List Int32) (hy0 : X.2.2.2.2.2[s]? = some (.inr (0, .retAddr t :: z))) (hy1 : X.2.2.2.2.2[t]? = some (.inl (1, os))) (hy2 : jFitB os) (hy3 : os.length ≤ 100) {kc ks : Nat} : jMet X mJ0_length_8abf5 d kc ks [.retAddr s] w (pI (fun v => v = nI os.length) (fun w' => w' = w)) := by
  refine jMet_of hs (by decide +kernel) (Nat.le_of_ble_eq_true rfl) (L := [some (.retAddr s)]) rfl ?_
  have hdm : 0 ≤ d - 1 := by omega
  have hdp : d - 1 + 1 ≤ d := by omega
  have hold := hy0
  refine J_aload_n (pc := 0) dJ0_length_8abf5_0 rfl rfl rfl ?_
  refine J_getO (pc := 1) (M := mJ0_length_8abf5) dJ0_length_8abf5_1 ff_J0_9 hold ?_
  show J X mJ0_length_8abf5 d kc ks 4 [some (.retAddr s)] [.retAddr t] w _
  refine J_alenO (pc := 4) (n := nI os.length) dJ0_length_8abf5_4 hy1 (by rw [(rfl : os.length = os.length)]; rfl) ?_
  refine J_aload_n (pc := 5) dJ0_length_8abf5_5 rfl rfl rfl ?_
  refine J_callVO (pc := 6) (M := mJ0_length_8abf5) (as := []) dJ0_length_8abf5_6 fw_J0_coder_7d493 fl_J0_335 fm_J0_coder_7d493 fe_J0_coder_7d493 hold rfl rfl (c_J0_coder_7d493_ato hs (d := d - 1) (by omega) (w := w) s t z (by first | assumption | omega) (kc := 0) (ks := 0)) (by omega) (by omega) (by omega) (st := [.int (nI os.length)]) (Nat.le_of_ble_eq_true rfl) rfl (kr_P fun v1 hv1 => ?_) kx_I
  subst hv1
  refine J_ishr0 (pc := 9) dJ0_length_8abf5_9 (by omega) ?_
  exact J_iret (pc := 10) dJ0_length_8abf5_10 rfl ⟨rfl, rfl⟩
set_option maxRecDepth 100000 in
set_option maxHeartbeats 4000000 in
theorem c_J0_getBytes_840e7_ato {X : jX} (hs : X.1.stackTraces = false) {d : Nat} (hd : 2 ≤ d) {w : List jC} (s : Nat) (p : Nat) (idx : Nat) (e : Nat) (t : Nat) (z : List Value) (os : List Int32) (bs : List Int32) (hy0 : X.2.2.2.2.2[s]? = some (.inr (0, .retAddr t :: z))) (hy1 : X.2.2.2.2.2[t]? = some (.inl (1, os))) (hy2 : jFitB os) (hy3 : os.length ≤ 100) (hy4 : w[p]? = some (.inl (1, bs))) (hy5 : jFitB bs) (hy6 : idx + os.length ≤ bs.length) (hy7 : e = 0) (hy8 : bs.length ≤ 270) {kc ks : Nat} : jMet X mJ0_getBytes_840e7 d kc ks [.retAddr s, .ref p, .int (nI idx), .int (nI e)] w (pV (fun w' => ∃ bs' : List Int32, FS p p w w' ∧ w'[p]? = some (.inl (1, bs')) ∧ bs'.length = bs.length ∧ jFitB bs')) := by
  refine jMet_of hs (by decide +kernel) (Nat.le_of_ble_eq_true rfl) (L := [some (.retAddr s), some (.ref p), some (.int (nI idx)), some (.int (nI e))]) rfl ?_
  have hdm : 1 ≤ d - 1 := by omega
  have hdp : d - 1 + 1 ≤ d := by omega
  have hold := hy0
  subst hy7
  have hF : FS p p w w := FS.rf
  have hgp := gl hy4
  refine J_aload_n (pc := 0) dJ0_getBytes_840e7_0 rfl rfl rfl ?_
  refine J_callVO (pc := 1) (M := mJ0_getBytes_840e7) (as := []) dJ0_getBytes_840e7_1 fw_J0_coder_7d493 fl_J0_335 fm_J0_coder_7d493 fe_J0_coder_7d493 hold rfl rfl (c_J0_coder_7d493_ato hs (d := d - 1) (by omega) (w := w) s t z (by first | assumption | omega) (kc := 0) (ks := 0)) (by omega) (by omega) (by omega) (st := []) (Nat.le_of_ble_eq_true rfl) rfl (kr_P fun v1 hv1 => ?_) kx_I
  subst hv1
  refine J_iload_n (pc := 4) dJ0_getBytes_840e7_4 rfl rfl ?_
  refine J_icmp_neN (pc := 5) (tgt := 28) dJ0_getBytes_840e7_5 (by decide) (by decide) (by decide) (fun h => absurd h (by decide)) (fun _ => ?_)
  refine J_aload_n (pc := 8) dJ0_getBytes_840e7_8 rfl rfl rfl ?_
  refine J_getO (pc := 9) (M := mJ0_getBytes_840e7) dJ0_getBytes_840e7_9 ff_J0_9 hold ?_
  show J X mJ0_getBytes_840e7 d (kc - 0) (ks - 0) 12 [some (.retAddr s), some (.ref p), some (.int (nI idx)), some (.int (nI 0))] [.retAddr t] w _
  refine J_iconst (pc := 12) (v := nI 0) dJ0_getBytes_840e7_12 (by decide) ?_
  refine J_aload_n (pc := 13) dJ0_getBytes_840e7_13 rfl rfl rfl ?_
  refine J_iload_n (pc := 14) dJ0_getBytes_840e7_14 rfl rfl ?_
  refine J_iload_n (pc := 15) dJ0_getBytes_840e7_15 rfl rfl ?_
  refine J_ishl0 (pc := 16) dJ0_getBytes_840e7_16 (by omega) ?_
  refine J_aload_n (pc := 17) dJ0_getBytes_840e7_17 rfl rfl rfl ?_
  refine J_getO (pc := 18) (M := mJ0_getBytes_840e7) dJ0_getBytes_840e7_18 ff_J0_9 hold ?_
  show J X mJ0_getBytes_840e7 d (kc - 0) (ks - 0) 21 [some (.retAddr s), some (.ref p), some (.int (nI idx)), some (.int (nI 0))] [.retAddr t, .int (nI idx), .ref p, .int (nI 0), .retAddr t] w _
  refine J_alenO (pc := 21) (n := nI os.length) dJ0_getBytes_840e7_21 hy1 (by rw [(rfl : os.length = os.length)]; rfl) ?_
  refine J_copyOS (pc := 22) dJ0_getBytes_840e7_22 fl_J0_212 fnat_arraycopy fs_arraycopy fz_J10 hy1 hy2 hy4 hy5 (by omega) (by omega) (by omega) (by rw [(rfl : os.length = os.length)]; omega) (by omega) (by omega) (st := []) (Nat.le_of_ble_eq_true rfl) (fun w2 ys2 hln2 hc2 hyl2 hyf2 hne2 => ?_)
  have hF2 := hF.st hln2 hne2 (by omega)
  refine J_goto (pc := 25) (tgt := 43) dJ0_getBytes_840e7_25 (by decide) ?_
  exact J_vret (pc := 43) dJ0_getBytes_840e7_43 rfl (⟨ys2, hF2, hc2, by omega, hyf2⟩)
set_option maxRecDepth 100000 in
set_option maxHeartbeats 4000000 in
theorem c_J5_inflateIfNeededFor_a7421 {X : jX} (hs : X.1.stackTraces = false) {d : Nat} (hd : 1 ≤ d) {a v : Nat} {ml : Int32} {c : Nat} {bs : List Int32} {w : List jC} (hB : SBp a v ml c bs w) (s : Nat) (t : Nat) (z : List Value) (hy0 : X.2.2.2.2.2[s]? = some (.inr (0, .retAddr t :: z))) {kc ks : Nat} : jMet X mJ5_inflateIfNeededFor_a7421 d kc ks [.ref a, .retAddr s] w (pV (fun w' => w' = w)) := by
  refine jMet_of hs (by decide +kernel) (Nat.le_of_ble_eq_true rfl) (L := [some (.ref a), some (.retAddr s)]) rfl ?_
  have hdm : 0 ≤ d - 1 := by omega
  have hdp : d - 1 + 1 ≤ d := by omega
  obtain ⟨h_a, h_v, hfit, hB1, hB2, hB3⟩ := hB
  have hav : a ≠ v := fun e => by subst e; rw [h_a] at h_v; cases h_v
  have hga := gl h_a
  have hgv := gl h_v
  have hF : FS a v w w := FS.rf
  have hold := hy0
  refine J_gets (pc := 0) (M := mJ5_inflateIfNeededFor_a7421) (v := .int 1) dJ5_inflateIfNeededFor_a7421_0 (by simp [jStat]) ff_J5_18 ?_
  show J X mJ5_inflateIfNeededFor_a7421 d kc ks 3 [some (.ref a), some (.retAddr s)] [.int (nI 1)] w _
  refine J_if_eqN (pc := 3) (tgt := 21) dJ5_inflateIfNeededFor_a7421_3 (by decide) (by decide) (fun h => absurd h (by decide)) (fun _ => ?_)
  refine J_aload_n (pc := 6) dJ5_inflateIfNeededFor_a7421_6 rfl rfl rfl ?_
  refine J_get (pc := 7) (k := 1) dJ5_inflateIfNeededFor_a7421_7 kC1 (by decide) ff_J5_22 h_a rfl ?_
  show J X mJ5_inflateIfNeededFor_a7421 d kc ks 10 [some (.ref a), some (.retAddr s)] [.int (nI 0)] w _
  refine J_aload_n (pc := 10) dJ5_inflateIfNeededFor_a7421_10 rfl rfl rfl ?_
  refine J_callVO (pc := 11) (M := mJ5_inflateIfNeededFor_a7421) (as := []) dJ5_inflateIfNeededFor_a7421_11 fw_J0_coder_7d493 fl_J5_40 fm_J0_coder_7d493 fe_J0_coder_7d493 hold rfl rfl (c_J0_coder_7d493_ato hs (d := d - 1) (by omega) (w := w) s t z (by first | assumption | omega) (kc := 0) (ks := 0)) (by omega) (by omega) (by omega) (st := [.int (nI 0)]) (Nat.le_of_ble_eq_true rfl) rfl (kr_P fun v1 hv1 => ?_) kx_I
  subst hv1
  refine J_icmp_eqN (pc := 14) (tgt := 21) dJ5_inflateIfNeededFor_a7421_14 (by decide) (by decide) (by decide) (fun _ => ?_) (fun h => absurd h (by decide))
  exact J_vret (pc := 21) dJ5_inflateIfNeededFor_a7421_21 rfl (rfl)
set_option maxRecDepth 100000 in
set_option maxHeartbeats 4000000 in
theorem c_J5_putStringAt_47b60 {X : jX} (hs : X.1.stackTraces = false) {d : Nat} (hd : 3 ≤ d) {a v : Nat} {ml : Int32} {c : Nat} {bs : List Int32} {w : List jC} (hB : SBp a v ml c bs w) (idx : Nat) (s : Nat) (t : Nat) (z : List Value) (os : List Int32) (hy0 : X.2.2.2.2.2[s]? = some (.inr (0, .retAddr t :: z))) (hy1 : X.2.2.2.2.2[t]? = some (.inl (1, os))) (hy2 : jFitB os) (hy3 : os.length ≤ 100) (hy4 : idx + os.length ≤ bs.length) {kc ks : Nat} : jMet X mJ5_putStringAt_47b60 d kc ks [.ref a, .int (nI idx), .retAddr s] w (pV (fun w' => ∃ (v' : Nat) (bs' : List Int32), SBp a v' ml (c) bs' w' ∧ FS a v w w' ∧ (v' = v ∨ w.length ≤ v') ∧ bs'.length = bs.length)) := by
  refine jMet_of hs (by decide +kernel) (Nat.le_of_ble_eq_true rfl) (L := [some (.ref a), some (.int (nI idx)), some (.retAddr s)]) rfl ?_
  have hdm : 2 ≤ d - 1 := by omega
  have hdp : d - 1 + 1 ≤ d := by omega
  obtain ⟨h_a, h_v, hfit, hB1, hB2, hB3⟩ := hB
  have hav : a ≠ v := fun e => by subst e; rw [h_a] at h_v; cases h_v
  have hga := gl h_a
  have hgv := gl h_v
  have hF : FS a v w w := FS.rf
  have hold := hy0
  refine J_aload_n (pc := 0) dJ5_putStringAt_47b60_0 rfl rfl rfl ?_
  refine J_aload_n (pc := 1) dJ5_putStringAt_47b60_1 rfl rfl rfl ?_
  refine J_callP (pc := 2) (M := mJ5_putStringAt_47b60) (as := [.retAddr s]) (q := (RJ4, TJ4, 4)) dJ5_putStringAt_47b60_2 fw_J5_inflateIfNeededFor_a7421 fl_J5_397 fq_J5_J5_inflateIfNeededFor_a7421 fm_J5_inflateIfNeededFor_a7421 fp_J5_inflateIf fe_J4_J5_isLatin1_aae02 rfl h_a (by decide) rfl rfl (c_J5_inflateIfNeededFor_a7421 hs (d := d - 1) (by omega) (a := a) (v := v) (c := c) (bs := bs) (w := w) ⟨h_a, h_v, hfit, (by omega), (by omega), (by omega)⟩ s t z (by first | assumption | omega) (kc := 0) (ks := 0)) (by omega) (by omega) (by omega) (st := []) (Nat.le_of_ble_eq_true rfl) rfl (kr_V fun w1 hw1 => ?_) kx_V
  obtain rfl := hw1.symm
  refine J_aload_n (pc := 5) dJ5_putStringAt_47b60_5 rfl rfl rfl ?_
  refine J_aload_n (pc := 6) dJ5_putStringAt_47b60_6 rfl rfl rfl ?_
  refine J_get (pc := 7) (k := 0) dJ5_putStringAt_47b60_7 kC1 (by decide) ff_J5_15 h_a rfl ?_
  refine J_iload_n (pc := 10) dJ5_putStringAt_47b60_10 rfl rfl ?_
  refine J_aload_n (pc := 11) dJ5_putStringAt_47b60_11 rfl rfl rfl ?_
  refine J_get (pc := 12) (k := 1) dJ5_putStringAt_47b60_12 kC1 (by decide) ff_J5_22 h_a rfl ?_
  show J X mJ5_putStringAt_47b60 d (kc - 0) (ks - 0) 15 [some (.ref a), some (.int (nI idx)), some (.retAddr s)] [.int (nI 0), .int (nI idx), .ref v, .retAddr s] w _
  refine J_callVO (pc := 15) (M := mJ5_putStringAt_47b60) (as := [.ref v, .int (nI idx), .int (nI 0)]) dJ5_putStringAt_47b60_15 fw_J0_getBytes_840e7 fl_J5_399 fm_J0_getBytes_840e7 fe_J0_getBytes_840e7 hold rfl rfl (c_J0_getBytes_840e7_ato hs (d := d - 1) (by omega) (w := w) s v idx 0 t z os _ (by first | assumption | omega) (by first | assumption | omega) (by first | assumption | omega) (by first | assumption | omega) (by assumption) (by assumption) (by first | assumption | omega) (by first | assumption | omega) (by first | assumption | omega) (kc := 0) (ks := 0)) (by omega) (by omega) (by omega) (st := []) (Nat.le_of_ble_eq_true rfl) rfl (kr_V fun w2 hw2 => ?_) kx_V
  obtain ⟨ys2, hFc2, hcn2, hyl2, hyf2⟩ := hw2
  have hoa_2 := (hFc2.2 a (by omega) (by omega) (gl h_a)).trans h_a
  have hF2 := hF.tr2 hFc2 (by omega)
  exact J_vret (pc := 18) dJ5_putStringAt_47b60_18 rfl (⟨v, ys2, ⟨hoa_2, hcn2, hyf2, (by omega), (by omega), (by omega)⟩, hF2, (by omega), (by omega)⟩)
set_option maxRecDepth 100000 in
set_option maxHeartbeats 4000000 in
theorem c_J5_append_cf1ce {X : jX} (hs : X.1.stackTraces = false) {d : Nat} (hd : 4 ≤ d) {a v : Nat} {ml : Int32} {c : Nat} {bs : List Int32} {w : List jC} (hB : SBp a v ml c bs w) (s : Nat) (t : Nat) (z : List Value) (os : List Int32) (hy0 : X.2.2.2.2.2[s]? = some (.inr (0, .retAddr t :: z))) (hy1 : X.2.2.2.2.2[t]? = some (.inl (1, os))) (hy2 : jFitB os) (hy3 : os.length ≤ 1) (hy4 : c ≤ 128) {kc ks : Nat} (hkc : (gL (c + os.length) bs.length - bs.length) / 18 ≤ kc) (hks : 2 * (gL (c + os.length) bs.length - bs.length) ≤ ks) : jMet X mJ5_append_cf1ce d kc ks [.ref a, .retAddr s] w (pA (fun r w' => r = a ∧ ∃ (v' : Nat) (bs' : List Int32), SBp a v' ml (c + os.length) bs' w' ∧ FS a v w w' ∧ (v' = v ∨ w.length ≤ v') ∧ bs'.length = gL (c + os.length) bs.length)) := by
  refine jMet_of hs (by decide +kernel) (Nat.le_of_ble_eq_true rfl) (L := [some (.ref a), some (.retAddr s), none]) rfl ?_
  have hdm : 3 ≤ d - 1 := by omega
  have hdp : d - 1 + 1 ≤ d := by omega
  obtain ⟨h_a, h_v, hfit, hB1, hB2, hB3⟩ := hB
  have hav : a ≠ v := fun e => by subst e; rw [h_a] at h_v; cases h_v
  have hga := gl h_a
  have hgv := gl h_v
  have hF : FS a v w w := FS.rf
  have hold := hy0
  have hgd := gL_d (c + os.length) bs.length
  refine J_aload_n (pc := 0) dJ5_append_cf1ce_0 rfl rfl rfl ?_
  refine J_ifnonnull (pc := 1) (tgt := 9) dJ5_append_cf1ce_1 (by decide) rfl ?_
  refine J_aload_n (pc := 9) dJ5_append_cf1ce_9 rfl rfl rfl ?_
  refine J_callVO (pc := 10) (M := mJ5_append_cf1ce) (as := []) dJ5_append_cf1ce_10 fw_J0_length_8abf5 fl_J5_32 fm_J0_length_8abf5 fe_J0_length_8abf5 hold rfl rfl (c_J0_length_8abf5_ato hs (d := d - 1) (by omega) (w := w) s t z os (by first | assumption | omega) (by first | assumption | omega) (by first | assumption | omega) (by first | assumption | omega) (kc := 0) (ks := 0)) (by omega) (by omega) (by omega) (st := []) (Nat.le_of_ble_eq_true rfl) rfl (kr_P fun v1 hv1 => ?_) kx_I
  subst hv1
  refine J_istore_n (pc := 13) dJ5_append_cf1ce_13 rfl (by decide) rfl ?_
  show J X mJ5_append_cf1ce d (kc - 0) (ks - 0) 14 [some (.ref a), some (.retAddr s), some (.int (nI os.length))] [] w _
  refine J_aload_n (pc := 14) dJ5_append_cf1ce_14 rfl rfl rfl ?_
  refine J_aload_n (pc := 15) dJ5_append_cf1ce_15 rfl rfl rfl ?_
  refine J_get (pc := 16) (k := 3) dJ5_append_cf1ce_16 kC1 (by decide) ff_J5_79 h_a rfl ?_
  refine J_iload_n (pc := 19) dJ5_append_cf1ce_19 rfl rfl ?_
  refine J_iaddN (pc := 20) dJ5_append_cf1ce_20 ?_
  refine J_callP (pc := 21) (M := mJ5_append_cf1ce) (as := [.int (nI (c + os.length))]) (q := (RJ4, TJ4, 4)) dJ5_append_cf1ce_21 fw_J5_ensureCapacityInternal_d00df fl_J5_100 fq_J5_J5_ensureCapacityInternal_d00df fm_J5_ensureCapacityInternal_d00df fp_J5_ensure fe_J4_J5_isLatin1_aae02 rfl h_a (by decide) rfl rfl (c_J5_ensureCapacityInternal_d00df hs (d := d - 1) (by omega) (a := a) (v := v) (c := c) (bs := bs) (w := w) ⟨h_a, h_v, hfit, (by omega), (by omega), (by omega)⟩ (c + os.length) (by first | assumption | omega) (kc := ((gL (c + os.length) bs.length - bs.length) / 18)) (ks := (2 * (gL (c + os.length) bs.length - bs.length))) (Nat.le_refl _) (Nat.le_refl _)) (by omega) (by omega) (by omega) (st := []) (Nat.le_of_ble_eq_true rfl) rfl (kr_V fun w2 hw2 => ?_) kx_V
  obtain ⟨v2', ys2, ⟨h_a2, h_v2, hfit2, hB12, hB22, hB32⟩, hFc2, hvv2, hp2_0⟩ := hw2
  have hav2 : a ≠ v2' := fun e => by rw [e] at h_a2; rw [h_a2] at h_v2; cases h_v2
  have hgl2 := hFc2.1
  have hgf3 := gL_d (c + os.length) bs.length
  have hF2 := hF.tr hFc2 (by omega)
  refine J_aload_n (pc := 24) dJ5_append_cf1ce_24 rfl rfl rfl ?_
  refine J_aload_n (pc := 25) dJ5_append_cf1ce_25 rfl rfl rfl ?_
  refine J_get (pc := 26) (k := 3) dJ5_append_cf1ce_26 kC1 (by decide) ff_J5_79 h_a2 rfl ?_
  refine J_aload_n (pc := 29) dJ5_append_cf1ce_29 rfl rfl rfl ?_
  refine J_callP (pc := 30) (M := mJ5_append_cf1ce) (as := [.int (nI c), .retAddr s]) (q := (RJ4, TJ4, 4)) dJ5_append_cf1ce_30 fw_J5_putStringAt_47b60 fl_J5_208 fq_J5_J5_putStringAt_47b60 fm_J5_putStringAt_47b60 fp_J5_putStringAt fe_J4_J5_isLatin1_aae02 rfl h_a2 (by decide) rfl rfl (c_J5_putStringAt_47b60 hs (d := d - 1) (by omega) (a := a) (v := v2') (c := c) (bs := ys2) (w := w2) ⟨h_a2, h_v2, hfit2, (by omega), (by omega), (by omega)⟩ c s t z os (by first | assumption | omega) (by first | assumption | omega) (by first | assumption | omega) (by first | assumption | omega) (by first | assumption | omega) (kc := 0) (ks := 0)) (by omega) (by omega) (by omega) (st := []) (Nat.le_of_ble_eq_true rfl) rfl (kr_V fun w4 hw4 => ?_) kx_V
  obtain ⟨v4', ys4, ⟨h_a4, h_v4, hfit4, hB14, hB24, hB34⟩, hFc4, hvv4, hp4_0⟩ := hw4
  have hav4 : a ≠ v4' := fun e => by rw [e] at h_a4; rw [h_a4] at h_v4; cases h_v4
  have hgl4 := hFc4.1
  have hF4 := hF2.tr hFc4 (by omega)
  refine J_aload_n (pc := 33) dJ5_append_cf1ce_33 rfl rfl rfl ?_
  refine J_dup (pc := 34) dJ5_append_cf1ce_34 rfl ?_
  refine J_get (pc := 35) (k := 3) dJ5_append_cf1ce_35 kC1 (by decide) ff_J5_79 h_a4 rfl ?_
  refine J_iload_n (pc := 38) dJ5_append_cf1ce_38 rfl rfl ?_
  refine J_iaddN (pc := 39) dJ5_append_cf1ce_39 ?_
  refine J_putW (pc := 40) (k := 3) dJ5_append_cf1ce_40 kC1 (by decide) ff_J5_79 (Or.inl rfl) ⟨rfl, rfl⟩ h_a4 (Nat.le_of_ble_eq_true rfl) (fun w5 hln5 hw5 hne5 => ?_)
  have hoa_5 : w5[a]? = some (.inr (1, [.ref v4', .int (nI 0), .int ml, .int (nI (c + os.length))])) := hw5
  have hlv4'_5 := (hne5 v4' (by omega)).trans h_v4
  have hF5 := hF4.st hln5 hne5 (by omega)
  refine J_aload_n (pc := 43) dJ5_append_cf1ce_43 rfl rfl rfl ?_
  exact J_aret (pc := 44) dJ5_append_cf1ce_44 rfl rfl rfl ⟨rfl, ⟨v4', ys4, ⟨hoa_5, hlv4'_5, hfit4, (by omega), (by omega), (by omega)⟩, hF5, (by omega), (by omega)⟩⟩
set_option maxRecDepth 100000 in
set_option maxHeartbeats 4000000 in
theorem c_J4_append_15ec4 {X : jX} (hs : X.1.stackTraces = false) {d : Nat} (hd : 5 ≤ d) {a v : Nat} {ml : Int32} {c : Nat} {bs : List Int32} {w : List jC} (hB : SBp a v ml c bs w) (s : Nat) (t : Nat) (z : List Value) (os : List Int32) (hy0 : X.2.2.2.2.2[s]? = some (.inr (0, .retAddr t :: z))) (hy1 : X.2.2.2.2.2[t]? = some (.inl (1, os))) (hy2 : jFitB os) (hy3 : os.length ≤ 1) (hy4 : c ≤ 128) {kc ks : Nat} (hkc : (gL (c + os.length) bs.length - bs.length) / 18 ≤ kc) (hks : 2 * (gL (c + os.length) bs.length - bs.length) ≤ ks) : jMet X mJ4_append_15ec4 d kc ks [.ref a, .retAddr s] w (pA (fun r w' => r = a ∧ ∃ (v' : Nat) (bs' : List Int32), SBp a v' ml (c + os.length) bs' w' ∧ FS a v w w' ∧ (v' = v ∨ w.length ≤ v') ∧ bs'.length = gL (c + os.length) bs.length)) := by
  refine jMet_of hs (by decide +kernel) (Nat.le_of_ble_eq_true rfl) (L := [some (.ref a), some (.retAddr s)]) rfl ?_
  have hdm : 4 ≤ d - 1 := by omega
  have hdp : d - 1 + 1 ≤ d := by omega
  obtain ⟨h_a, h_v, hfit, hB1, hB2, hB3⟩ := hB
  have hav : a ≠ v := fun e => by subst e; rw [h_a] at h_v; cases h_v
  have hga := gl h_a
  have hgv := gl h_v
  have hF : FS a v w w := FS.rf
  have hold := hy0
  have hgd := gL_d (c + os.length) bs.length
  refine J_aload_n (pc := 0) dJ4_append_15ec4_0 rfl rfl rfl ?_
  refine J_aload_n (pc := 1) dJ4_append_15ec4_1 rfl rfl rfl ?_
  refine J_callSU (pc := 2) (M := mJ4_append_15ec4) (as := [.retAddr s]) (cj := 1) dJ4_append_15ec4_2 fw_J5_append_cf1ce fl_J4_29 fq_J5_J5_append_cf1ce fsup_J4 fm_J5_append_cf1ce (by decide) ⟨rfl, rfl⟩ h_a (by decide) rfl rfl (c_J5_append_cf1ce hs (d := d - 1) (by omega) (a := a) (v := v) (c := c) (bs := bs) (w := w) ⟨h_a, h_v, hfit, (by omega), (by omega), (by omega)⟩ s t z os (by first | assumption | omega) (by first | assumption | omega) (by first | assumption | omega) (by first | assumption | omega) (by first | assumption | omega) (kc := ((gL (c + os.length) bs.length - bs.length) / 18)) (ks := (2 * (gL (c + os.length) bs.length - bs.length))) (Nat.le_refl _) (Nat.le_refl _)) (by omega) (by omega) (by omega) (st := []) (Nat.le_of_ble_eq_true rfl) rfl (kr_A fun r1 w1 hw1 => ?_) kx_A
  obtain ⟨hra1, v1', ys1, ⟨h_a1, h_v1, hfit1, hB11, hB21, hB31⟩, hFc1, hvv1, hp1_0⟩ := hw1
  obtain rfl := hra1.symm
  have hav1 : a ≠ v1' := fun e => by rw [e] at h_a1; rw [h_a1] at h_v1; cases h_v1
  have hgl1 := hFc1.1
  have hgf2 := gL_d (c + os.length) bs.length
  have hF1 := hF.tr hFc1 (by omega)
  refine J_pop (pc := 5) dJ4_append_15ec4_5 rfl ?_
  refine J_aload_n (pc := 6) dJ4_append_15ec4_6 rfl rfl rfl ?_
  exact J_aret (pc := 7) dJ4_append_15ec4_7 rfl rfl rfl ⟨rfl, ⟨v1', ys1, ⟨h_a1, h_v1, hfit1, (by omega), (by omega), (by omega)⟩, hF1, (by omega), (by omega)⟩⟩
set_option maxRecDepth 100000 in
set_option maxHeartbeats 4000000 in
theorem c_J7_checkLength_df160 {X : jX} (hs : X.1.stackTraces = false) {d : Nat} (hd : 0 ≤ d) {w : List jC} (a : Nat) (c : Nat) (hy0 : a ≤ c) (hy1 : c < 1073741824) {kc ks : Nat} : jMet X mJ7_checkLength_df160 d kc ks [.int (nI a), .int (nI c)] w (pV (fun w' => w' = w)) := by
  refine jMet_of hs (by decide +kernel) (Nat.le_of_ble_eq_true rfl) (L := [some (.int (nI a)), some (.int (nI c))]) rfl ?_
  refine J_iload_n (pc := 0) dJ7_checkLength_df160_0 rfl rfl ?_
  refine J_iload_n (pc := 1) dJ7_checkLength_df160_1 rfl rfl ?_
  refine J_icmp_geN (pc := 2) (tgt := 37) dJ7_checkLength_df160_2 (by decide) (by omega) (by omega) (fun ht1 => ?_) (fun hf2 => ?_)
  · exact J_vret (pc := 37) dJ7_checkLength_df160_37 rfl (rfl)
  · exact absurd hf2 (by omega)
set_option maxRecDepth 100000 in
set_option maxHeartbeats 4000000 in
theorem c_J7_copyOfRangeByte_39247 {X : jX} (hs : X.1.stackTraces = false) {d : Nat} (hd : 2 ≤ d) {w : List jC} (p : Nat) (a : Nat) (N : Nat) (bs : List Int32) (hy0 : w[p]? = some (.inl (1, bs))) (hy1 : jFitB bs) (hy2 : a = 0) (hy3 : N < bs.length) (hy4 : bs.length ≤ 270) {kc ks : Nat} (hkc : 1 ≤ kc) (hks : N ≤ ks) : jMet X mJ7_copyOfRangeByte_39247 d kc ks [.ref p, .int (nI a), .int (nI N)] w (pA (fun r w' => ∃ bs' : List Int32, r = w.length ∧ w'.length = w.length + 1 ∧ (∀ i, i < w.length → w'[i]? = w[i]?) ∧ w'[r]? = some (.inl (1, bs')) ∧ bs'.length = N ∧ jFitB bs')) := by
  refine jMet_of hs (by decide +kernel) (Nat.le_of_ble_eq_true rfl) (L := [some (.ref p), some (.int (nI a)), some (.int (nI N)), none, none]) rfl ?_
  have hdm : 1 ≤ d - 1 := by omega
  have hdp : d - 1 + 1 ≤ d := by omega
  subst hy2
  have hF : FS w.length w.length w w := FS.rf
  have hgp := gl hy0
  refine J_iload_n (pc := 0) dJ7_copyOfRangeByte_39247_0 rfl rfl ?_
  refine J_iload_n (pc := 1) dJ7_copyOfRangeByte_39247_1 rfl rfl ?_
  refine J_callS0 (pc := 2) (M := mJ7_copyOfRangeByte_39247) (as := [.int (nI 0), .int (nI N)]) dJ7_copyOfRangeByte_39247_2 fw_J7_checkLength_df160 fl_J7_343 fs_J7_checkLength_df160 rfl (c_J7_checkLength_df160 hs (d := d - 1) (Nat.le_trans (by decide) hdm) (w := w) 0 N (by first | assumption | omega) (by first | assumption | omega) (kc := 0) (ks := 0)) hdp (st := []) (Nat.le_of_ble_eq_true rfl) rfl (kr_V fun w1 hw1 => ?_) kx_V
  obtain rfl := hw1.symm
  refine J_iload_n (pc := 5) dJ7_copyOfRangeByte_39247_5 rfl rfl ?_
  refine J_iload_n (pc := 6) dJ7_copyOfRangeByte_39247_6 rfl rfl ?_
  refine J_isubN (pc := 7) dJ7_copyOfRangeByte_39247_7 (by omega) ?_
  refine J_istore_n (pc := 8) dJ7_copyOfRangeByte_39247_8 rfl (by decide) rfl ?_
  show J X mJ7_copyOfRangeByte_39247 d kc ks 9 [some (.ref p), some (.int (nI 0)), some (.int (nI N)), some (.int (nI (N - 0))), none] [] w _
  refine J_iload_n (pc := 9) dJ7_copyOfRangeByte_39247_9 rfl rfl ?_
  have qgp2 := gl hy0
  refine J_newB (pc := 10) (M := mJ7_copyOfRangeByte_39247) (N := (N - 0)) dJ7_copyOfRangeByte_39247_10 rfl (by omega) (by omega) (by omega) (fun a10 w2 ys2 ha2 hln2 hc2 hyl2 hyf2 hne2 => ?_)
  have hlp_2 := (hne2 p (by omega)).trans hy0
  have qF2 := hF.1
  have hF2 := hF.pu ha2 hln2 hne2
  refine J_astore (pc := 12) dJ7_copyOfRangeByte_39247_12 (by decide) rfl rfl ?_
  show J X mJ7_copyOfRangeByte_39247 d (kc - 1) (ks - (N - 0)) 14 [some (.ref p), some (.int (nI 0)), some (.int (nI N)), some (.int (nI (N - 0))), some (.ref a10)] [] w2 _
  refine J_aload_n (pc := 14) dJ7_copyOfRangeByte_39247_14 rfl rfl rfl ?_
  refine J_iload_n (pc := 15) dJ7_copyOfRangeByte_39247_15 rfl rfl ?_
  refine J_aload (pc := 16) dJ7_copyOfRangeByte_39247_16 rfl rfl ?_
  refine J_iconst (pc := 18) (v := nI 0) dJ7_copyOfRangeByte_39247_18 (by decide) ?_
  refine J_aload_n (pc := 19) dJ7_copyOfRangeByte_39247_19 rfl rfl rfl ?_
  refine J_alen (pc := 20) (n := nI bs.length) dJ7_copyOfRangeByte_39247_20 hlp_2 (by decide) rfl ?_
  refine J_iload_n (pc := 21) dJ7_copyOfRangeByte_39247_21 rfl rfl ?_
  refine J_isubN (pc := 22) dJ7_copyOfRangeByte_39247_22 (by omega) ?_
  refine J_iload_n (pc := 23) dJ7_copyOfRangeByte_39247_23 rfl rfl ?_
  refine J_callS0 (pc := 24) (M := mJ7_copyOfRangeByte_39247) (as := [.int (nI (bs.length - 0)), .int (nI (N - 0))]) dJ7_copyOfRangeByte_39247_24 fw_J9_min_7cf53 fl_J7_304 fs_J9_min_7cf53 rfl (c_J9_min_7cf53_atn hs (d := d - 1) (Nat.le_trans (by decide) hdm) (w := w2) (bs.length - 0) (N - 0) (by first | assumption | omega) (by first | assumption | omega) (kc := 0) (ks := 0)) hdp (st := [.int (nI 0), .ref a10, .int (nI 0), .ref p]) (Nat.le_of_ble_eq_true rfl) rfl (kr_P fun v3 hv3 => ?_) kx_I
  obtain ⟨k3, rfl, hk3⟩ := hv3
  refine J_copyS (pc := 27) dJ7_copyOfRangeByte_39247_27 fl_J7_150 fnat_arraycopy fs_arraycopy fz_J10 hlp_2 hy1 hc2 hyf2 (by omega) (by omega) (by omega) (by omega) (by omega) (by omega) (st := []) (Nat.le_of_ble_eq_true rfl) (fun w4 ys4 hln4 hc4 hyl4 hyf4 hne4 => ?_)
  have hlp_4 := (hne4 p (by omega)).trans hlp_2
  have hF4 := hF2.st hln4 hne4 (by omega)
  refine J_aload (pc := 30) dJ7_copyOfRangeByte_39247_30 rfl rfl ?_
  exact J_aret (pc := 32) dJ7_copyOfRangeByte_39247_32 rfl rfl rfl ⟨ys4, by omega, by omega, fun i hi => hF4.2 i (by omega) (by omega) hi, hc4, by omega, hyf4⟩
set_option maxRecDepth 100000 in
set_option maxHeartbeats 4000000 in
theorem c_J7_copyOfRange_39247 {X : jX} (hs : X.1.stackTraces = false) {d : Nat} (hd : 3 ≤ d) {w : List jC} (p : Nat) (a : Nat) (N : Nat) (bs : List Int32) (hy0 : w[p]? = some (.inl (1, bs))) (hy1 : jFitB bs) (hy2 : a = 0) (hy3 : N ≤ bs.length) (hy4 : bs.length ≤ 270) {kc ks : Nat} (hkc : 1 ≤ kc) (hks : N ≤ ks) : jMet X mJ7_copyOfRange_39247 d kc ks [.ref p, .int (nI a), .int (nI N)] w (pA (fun r w' => ∃ bs' : List Int32, r = w.length ∧ w'.length = w.length + 1 ∧ (∀ i, i < w.length → w'[i]? = w[i]?) ∧ w'[r]? = some (.inl (1, bs')) ∧ bs'.length = N ∧ jFitB bs')) := by
  refine jMet_of hs (by decide +kernel) (Nat.le_of_ble_eq_true rfl) (L := [some (.ref p), some (.int (nI a)), some (.int (nI N))]) rfl ?_
  have hdm : 2 ≤ d - 1 := by omega
  have hdp : d - 1 + 1 ≤ d := by omega
  subst hy2
  have hF : FS w.length w.length w w := FS.rf
  have hgp := gl hy0
  refine J_iload_n (pc := 0) dJ7_copyOfRange_39247_0 rfl rfl ?_
  refine J_if_neN (pc := 1) (tgt := 10) dJ7_copyOfRange_39247_1 (by decide) (by decide) (fun h => absurd h (by decide)) (fun _ => ?_)
  refine J_iload_n (pc := 4) dJ7_copyOfRange_39247_4 rfl rfl ?_
  refine J_aload_n (pc := 5) dJ7_copyOfRange_39247_5 rfl rfl rfl ?_
  refine J_alen (pc := 6) (n := nI bs.length) dJ7_copyOfRange_39247_6 hy0 (by decide) rfl ?_
  refine J_icmp_eqN (pc := 7) (tgt := 17) dJ7_copyOfRange_39247_7 (by decide) (by omega) (by omega) (fun ht1 => ?_) (fun hf2 => ?_)
  · refine J_aload_n (pc := 17) dJ7_copyOfRange_39247_17 rfl rfl rfl ?_
    have qgp3 := gl hy0
    refine J_cloneS (pc := 18) dJ7_copyOfRange_39247_18 fl_clone fq_clone fnat_clone fm_clone fe_clone fcast_clone hy0 hy1 (by omega) (Nat.le_of_ble_eq_true rfl) (by omega) (by omega) (fun b18 w3 ha3 hln3 hc3 hne3 => ?_)
    have hlp_3 := (hne3 p (by omega)).trans hy0
    have qF3 := hF.1
    have hF3 := hF.pu ha3 hln3 hne3
    refine J_castB (pc := 21) dJ7_copyOfRange_39247_21 fc_J7_311 hc3 ?_
    exact J_aret (pc := 24) dJ7_copyOfRange_39247_24 rfl rfl rfl ⟨bs, by omega, by omega, fun i hi => hF3.2 i (by omega) (by omega) hi, hc3, by omega, hy1⟩
  · refine J_aload_n (pc := 10) dJ7_copyOfRange_39247_10 rfl rfl rfl ?_
    refine J_iload_n (pc := 11) dJ7_copyOfRange_39247_11 rfl rfl ?_
    refine J_iload_n (pc := 12) dJ7_copyOfRange_39247_12 rfl rfl ?_
    refine J_callS (pc := 13) (M := mJ7_copyOfRange_39247) (as := [.ref p, .int (nI 0), .int (nI N)]) dJ7_copyOfRange_39247_13 fw_J7_copyOfRangeByte_39247 fl_J7_339 fs_J7_copyOfRangeByte_39247 rfl (c_J7_copyOfRangeByte_39247 hs (d := d - 1) (by omega) (w := w) p 0 N _ (by assumption) (by first | assumption | omega) (by first | assumption | omega) (by first | assumption | omega) (by first | assumption | omega) (kc := 1) (ks := N) (Nat.le_refl _) (Nat.le_refl _)) (by omega) (by omega) (by omega) (st := []) (Nat.le_of_ble_eq_true rfl) rfl (kr_A fun r4 w4 hw4 => ?_) kx_A
    obtain ⟨ys4, hra4, hln4, hne4, hcn4, hyl4, hyf4⟩ := hw4
    have hggp4 := gl hy0
    have hlp_4 := (hne4 p (by omega)).trans hy0
    have hFq4 := hF.1
    have hF4 := hF.pu hra4 (by omega) (fun c hc => hne4 c (by omega))
    exact J_aret (pc := 16) dJ7_copyOfRange_39247_16 rfl rfl rfl ⟨ys4, by omega, by omega, fun i hi => hF4.2 i (by omega) (by omega) hi, hcn4, by omega, hyf4⟩
end
section
/-! contracts of the JDK's builders of texts -/
set_option maxRecDepth 100000 in
set_option maxHeartbeats 4000000 in
theorem c_J0_init_db425 {X : jX} (hs : X.1.stackTraces = false) {d : Nat} (hd : 4 ≤ d) {w : List jC} (o : Nat) (a : Nat) (v : Nat) (ml : Int32) (c : Nat) (bs : List Int32) (hy0 : w[o]? = some (.inr (0, [.null, .int (nI 0), .int (nI 0), .int (nI 0)]))) (hy1 : SBp a v ml c bs w) {kc ks : Nat} (hkc : 1 ≤ kc) (hks : c ≤ ks) : jMet X mJ0_init_db425 d kc ks [.ref o, .ref a, .null] w (pV (fun w' => FS o o w w' ∧ ∃ (vz : Nat) (zs : List Int32), w'[o]? = some (.inr (0, [.ref vz, .int (nI 0), .int (nI 0), .int (nI 0)])) ∧ w'[vz]? = some (.inl (1, zs)) ∧ zs.length = c ∧ jFitB zs)) := by
  refine jMet_of hs (by decide +kernel) (Nat.le_of_ble_eq_true rfl) (L := [some (.ref o), some (.ref a), some (.null), none, none]) rfl ?_
  have hdm : 3 ≤ d - 1 := by omega
  have hdp : d - 1 + 1 ≤ d := by omega
  obtain ⟨h_a, h_v, hfit, hB1, hB2, hB3⟩ := hy1
  have hav : a ≠ v := fun e => by subst e; rw [h_a] at h_v; cases h_v
  have hoa : o ≠ a := fun e => by subst e; rw [hy0] at h_a; cases h_a
  have hov : o ≠ v := fun e => by subst e; rw [hy0] at h_v; cases h_v
  have hga := gl h_a
  have hgv := gl h_v
  have hgo := gl hy0
  have hF : FS o o w w := FS.rf
  refine J_aload_n (pc := 0) dJ0_init_db425_0 rfl rfl rfl ?_
  refine J_objInit (pc := 1) (M := mJ0_init_db425) dJ0_init_db425_1 fl_J0_1 fm_objectInit fo_c rfl (by omega) (Nat.le_of_ble_eq_true rfl) ?_
  refine J_aload_n (pc := 4) dJ0_init_db425_4 rfl rfl rfl ?_
  refine J_callU (pc := 5) (M := mJ0_init_db425) (as := []) (x := yJ5_getValue_6d5f1) (owner := RJ5) (q := (RJ4, TJ4, 4)) dJ0_init_db425_5 fw_J5_getValue_6d5f1 fl_J0_552 fq_J5_J5_getValue_6d5f1 fm_J5_getValue_6d5f1 fe_J4_J5_getValue_6d5f1 rfl h_a (by decide) rfl rfl (c_J5_getValue_6d5f1 hs (d := d - 1) (by omega) (a := a) (v := v) (c := c) (bs := bs) (w := w) ⟨h_a, h_v, hfit, (by omega), (by omega), (by omega)⟩  (kc := 0) (ks := 0)) (by omega) (by omega) (by omega) (st := []) (Nat.le_of_ble_eq_true rfl) rfl (kr_A fun r1 w1 hw1 => ?_) kx_A
  obtain ⟨hr1, hww1⟩ := hw1
  obtain rfl := hww1.symm
  rw [hr1]
  refine J_astore_n (pc := 8) dJ0_init_db425_8 rfl (by decide) rfl rfl ?_
  show J X mJ0_init_db425 d (kc - 0) (ks - 0) 9 [some (.ref o), some (.ref a), some (.null), some (.ref v), none] [] w _
  refine J_aload_n (pc := 9) dJ0_init_db425_9 rfl rfl rfl ?_
  refine J_callOv (pc := 10) (M := mJ0_init_db425) (as := []) (q := (RJ4, TJ4, 4)) dJ0_init_db425_10 fw_J4_length_8abf5 fw_J5_length_8abf5 fl_J0_549 fq_J5_J5_length_8abf5 fm_J5_length_8abf5 fm_J4_length_8abf5 fe_J4_J4_length_8abf5 rfl h_a (by decide) rfl rfl (c_J4_length_8abf5 hs (d := d - 1) (by omega) (a := a) (v := v) (c := c) (bs := bs) (w := w) ⟨h_a, h_v, hfit, (by omega), (by omega), (by omega)⟩  (kc := 0) (ks := 0)) (by omega) (by omega) (by omega) (st := []) (Nat.le_of_ble_eq_true rfl) rfl (kr_P fun v2 hv2 => ?_) kx_I
  subst hv2
  refine J_istore (pc := 13) dJ0_init_db425_13 (by decide) rfl ?_
  show J X mJ0_init_db425 d (kc - 0 - 0) (ks - 0 - 0) 15 [some (.ref o), some (.ref a), some (.null), some (.ref v), some (.int (nI c))] [] w _
  refine J_aload_n (pc := 15) dJ0_init_db425_15 rfl rfl rfl ?_
  refine J_callU (pc := 16) (M := mJ0_init_db425) (as := []) (x := yJ5_isLatin1_aae02) (owner := RJ5) (q := (RJ4, TJ4, 4)) dJ0_init_db425_16 fw_J5_isLatin1_aae02 fl_J0_1047 fq_J5_J5_isLatin1_aae02 fm_J5_isLatin1_aae02 fe_J4_J5_isLatin1_aae02 rfl h_a (by decide) rfl rfl (c_J5_isLatin1_aae02 hs (d := d - 1) (by omega) (a := a) (v := v) (c := c) (bs := bs) (w := w) ⟨h_a, h_v, hfit, (by omega), (by omega), (by omega)⟩  (kc := 0) (ks := 0)) (by omega) (by omega) (by omega) (st := []) (Nat.le_of_ble_eq_true rfl) rfl (kr_P fun v3 hv3 => ?_) kx_I
  subst hv3
  refine J_if_eqN (pc := 19) (tgt := 41) dJ0_init_db425_19 (by decide) (by decide) (fun h => absurd h (by decide)) (fun _ => ?_)
  refine J_aload_n (pc := 22) dJ0_init_db425_22 rfl rfl rfl ?_
  refine J_iconst (pc := 23) (v := nI 0) dJ0_init_db425_23 (by decide) ?_
  refine J_putW (pc := 24) (k := 1) dJ0_init_db425_24 kC0 (by decide) ff_J0_15 (Or.inr ⟨rfl, rfl, rfl⟩) ⟨by decide, by decide⟩ hy0 (Nat.le_of_ble_eq_true rfl) (fun w4 hln4 hw4 hne4 => ?_)
  have hoo_4 : w4[o]? = some (.inr (0, [.null, .int (nI 0), .int (nI 0), .int (nI 0)])) := hw4
  have hoa_4 := (hne4 a (by omega)).trans h_a
  have hlv_4 := (hne4 v (by omega)).trans h_v
  have hF4 := hF.st hln4 hne4 (by omega)
  refine J_aload_n (pc := 27) dJ0_init_db425_27 rfl rfl rfl ?_
  refine J_aload_n (pc := 28) dJ0_init_db425_28 rfl rfl rfl ?_
  refine J_iconst (pc := 29) (v := nI 0) dJ0_init_db425_29 (by decide) ?_
  refine J_iload (pc := 30) dJ0_init_db425_30 rfl ?_
  refine J_callS (pc := 32) (M := mJ0_init_db425) (as := [.ref v, .int (nI 0), .int (nI c)]) dJ0_init_db425_32 fw_J7_copyOfRange_39247 fl_J0_54 fs_J7_copyOfRange_39247 rfl (c_J7_copyOfRange_39247 hs (d := d - 1) (by omega) (w := w4) v 0 c _ (by assumption) (by assumption) (by first | assumption | omega) (by first | assumption | omega) (by first | assumption | omega) (kc := 1) (ks := c) (Nat.le_refl _) (Nat.le_refl _)) (by omega) (by omega) (by omega) (st := [.ref o]) (Nat.le_of_ble_eq_true rfl) rfl (kr_A fun r5 w5 hw5 => ?_) kx_A
  obtain ⟨ys5, hra5, hln5, hne5, hcn5, hyl5, hyf5⟩ := hw5
  have hggo5 := gl hoo_4
  have hgga5 := gl hoa_4
  have hggv5 := gl hlv_4
  have hoo_5 := (hne5 o (by omega)).trans hoo_4
  have hoa_5 := (hne5 a (by omega)).trans hoa_4
  have hlv_5 := (hne5 v (by omega)).trans hlv_4
  have hFq5 := hF4.1
  have hF5 := hF4.pu hra5 (by omega) (fun c hc => hne5 c (by omega))
  refine J_putW (pc := 35) (k := 0) dJ0_init_db425_35 kC0 (by decide) ff_J0_9 (Or.inr ⟨rfl, rfl, rfl⟩) rfl hoo_5 (Nat.le_of_ble_eq_true rfl) (fun w6 hln6 hw6 hne6 => ?_)
  have hoo_6 : w6[o]? = some (.inr (0, [.ref r5, .int (nI 0), .int (nI 0), .int (nI 0)])) := hw6
  have hoa_6 := (hne6 a (by omega)).trans hoa_5
  have hlv_6 := (hne6 v (by omega)).trans hlv_5
  have hlr5_6 := (hne6 r5 (by omega)).trans hcn5
  have hF6 := hF5.st hln6 hne6 (by omega)
  refine J_goto (pc := 38) (tgt := 97) dJ0_init_db425_38 (by decide) ?_
  exact J_vret (pc := 97) dJ0_init_db425_97 rfl (⟨hF6, r5, ys5, hoo_6, hlr5_6, by omega, hyf5⟩)
set_option maxRecDepth 100000 in
set_option maxHeartbeats 4000000 in
theorem c_J0_init_81219 {X : jX} (hs : X.1.stackTraces = false) {d : Nat} (hd : 5 ≤ d) {w : List jC} (o : Nat) (a : Nat) (v : Nat) (ml : Int32) (c : Nat) (bs : List Int32) (hy0 : w[o]? = some (.inr (0, [.null, .int (nI 0), .int (nI 0), .int (nI 0)]))) (hy1 : SBp a v ml c bs w) {kc ks : Nat} (hkc : 1 ≤ kc) (hks : c ≤ ks) : jMet X mJ0_init_81219 d kc ks [.ref o, .ref a] w (pV (fun w' => FS o o w w' ∧ ∃ (vz : Nat) (zs : List Int32), w'[o]? = some (.inr (0, [.ref vz, .int (nI 0), .int (nI 0), .int (nI 0)])) ∧ w'[vz]? = some (.inl (1, zs)) ∧ zs.length = c ∧ jFitB zs)) := by
  refine jMet_of hs (by decide +kernel) (Nat.le_of_ble_eq_true rfl) (L := [some (.ref o), some (.ref a)]) rfl ?_
  have hdm : 4 ≤ d - 1 := by omega
  have hdp : d - 1 + 1 ≤ d := by omega
  obtain ⟨h_a, h_v, hfit, hB1, hB2, hB3⟩ := hy1
  have hav : a ≠ v := fun e => by subst e; rw [h_a] at h_v; cases h_v
  have hoa : o ≠ a := fun e => by subst e; rw [hy0] at h_a; cases h_a
  have hov : o ≠ v := fun e => by subst e; rw [hy0] at h_v; cases h_v
  have hga := gl h_a
  have hgv := gl h_v
  have hgo := gl hy0
  have hF : FS o o w w := FS.rf
  refine J_aload_n (pc := 0) dJ0_init_81219_0 rfl rfl rfl ?_
  refine J_aload_n (pc := 1) dJ0_init_81219_1 rfl rfl rfl ?_
  refine J_null (pc := 2) dJ0_init_81219_2 ?_
  refine J_callI (pc := 3) (M := mJ0_init_81219) (as := [.ref a, .null]) dJ0_init_81219_3 fw_J0_init_db425 fl_J0_489 fm_J0_init_db425 rfl rfl rfl (c_J0_init_db425 hs (d := d - 1) (by omega) (w := w) o a v ml c bs (by first | assumption | omega) ⟨h_a, h_v, hfit, (by omega), (by omega), (by omega)⟩ (kc := 1) (ks := c) (Nat.le_refl _) (Nat.le_refl _)) (by omega) (by omega) (by omega) (st := []) (Nat.le_of_ble_eq_true rfl) rfl (kr_V fun w1 hw1 => ?_) kx_V
  obtain ⟨hFc1, vz1, ys1, hco1, hcn1, hyl1, hyf1⟩ := hw1
  have hoa_1 := (hFc1.2 a (by omega) (by omega) (gl h_a)).trans h_a
  have hlv_1 := (hFc1.2 v (by omega) (by omega) (gl h_v)).trans h_v
  have hgl1 := hFc1.1
  have hF1 := hF.tr2 hFc1 (by omega)
  exact J_vret (pc := 6) dJ0_init_81219_6 rfl (⟨hF1, vz1, ys1, hco1, hcn1, by omega, hyf1⟩)
set_option maxRecDepth 100000 in
set_option maxHeartbeats 4000000 in
theorem c_J4_toString_0e30d {X : jX} (hs : X.1.stackTraces = false) {d : Nat} (hd : 6 ≤ d) {a v : Nat} {ml : Int32} {c : Nat} {bs : List Int32} {w : List jC} (hB : SBp a v ml c bs w) {kc ks : Nat} (hkc : 2 ≤ kc) (hks : c + 4 ≤ ks) : jMet X mJ4_toString_0e30d d kc ks [.ref a] w (pA (fun r w' => w.length ≤ r ∧ w.length ≤ w'.length ∧ (∀ i, i < w.length → w'[i]? = w[i]?) ∧ ∃ (vz : Nat) (zs : List Int32), w'[r]? = some (.inr (0, [.ref vz, .int (nI 0), .int (nI 0), .int (nI 0)])) ∧ w'[vz]? = some (.inl (1, zs)) ∧ zs.length = c)) := by
  refine jMet_of hs (by decide +kernel) (Nat.le_of_ble_eq_true rfl) (L := [some (.ref a)]) rfl ?_
  have hdm : 5 ≤ d - 1 := by omega
  have hdp : d - 1 + 1 ≤ d := by omega
  obtain ⟨h_a, h_v, hfit, hB1, hB2, hB3⟩ := hB
  have hav : a ≠ v := fun e => by subst e; rw [h_a] at h_v; cases h_v
  have hga := gl h_a
  have hgv := gl h_v
  have hF : FS a v w w := FS.rf
  have hF : FS w.length w.length w w := FS.rf
  have qga1 := gl h_a
  have qgv1 := gl h_v
  refine J_newO (pc := 0) (M := mJ4_toString_0e30d) (fs := [.null, .int (nI 0), .int (nI 0), .int (nI 0)]) dJ4_toString_0e30d_0 kC0 fc_J4_18 fi_J0 fz_J0 df_J0 (by omega) (by omega) (fun o0 w1 ha1 hln1 hc1 hne1 => ?_)
  have hoa_1 := (hne1 a (by omega)).trans h_a
  have hlv_1 := (hne1 v (by omega)).trans h_v
  have qF1 := hF.1
  have hF1 := hF.pu ha1 hln1 hne1
  refine J_dup (pc := 3) dJ4_toString_0e30d_3 rfl ?_
  refine J_aload_n (pc := 4) dJ4_toString_0e30d_4 rfl rfl rfl ?_
  refine J_callI (pc := 5) (M := mJ4_toString_0e30d) (as := [.ref a]) dJ4_toString_0e30d_5 fw_J0_init_81219 fl_J4_137 fm_J0_init_81219 rfl rfl rfl (c_J0_init_81219 hs (d := d - 1) (by omega) (w := w1) o0 a v ml c bs (by first | assumption | omega) ⟨hoa_1, hlv_1, hfit, (by omega), (by omega), (by omega)⟩ (kc := 1) (ks := c) (Nat.le_refl _) (Nat.le_refl _)) (by omega) (by omega) (by omega) (st := [.ref o0]) (Nat.le_of_ble_eq_true rfl) rfl (kr_V fun w2 hw2 => ?_) kx_V
  obtain ⟨hFc2, vz2, ys2, hco2, hcn2, hyl2, hyf2⟩ := hw2
  have hoa_2 := (hFc2.2 a (by omega) (by omega) (gl hoa_1)).trans hoa_1
  have hlv_2 := (hFc2.2 v (by omega) (by omega) (gl hlv_1)).trans hlv_1
  have hgl2 := hFc2.1
  have hF2 := hF1.tr2 hFc2 (by omega)
  exact J_aret (pc := 8) dJ4_toString_0e30d_8 rfl rfl rfl ⟨(by omega), (by omega), (fun i hi => hF2.2 i (by omega) (by omega) hi), vz2, ys2, hco2, hcn2, by omega⟩
set_option maxRecDepth 100000 in
set_option maxHeartbeats 4000000 in
theorem c_J5_init_d00df {X : jX} (hs : X.1.stackTraces = false) {d : Nat} (hd : 1 ≤ d) {w : List jC} (a : Nat) (N : Nat) (hy0 : w[a]? = some (.inr (1, [.null, .int (nI 0), .int (nI 0), .int (nI 0)]))) (hy1 : N = 16) {kc ks : Nat} (hkc : 1 ≤ kc) (hks : 16 ≤ ks) : jMet X mJ5_init_d00df d kc ks [.ref a, .int (nI N)] w (pV (fun w' => ∃ (v' : Nat) (bs' : List Int32), SBp a v' (nI 0) 0 bs' w' ∧ FS a a w w' ∧ w.length ≤ v')) := by
  refine jMet_of hs (by decide +kernel) (Nat.le_of_ble_eq_true rfl) (L := [some (.ref a), some (.int (nI N))]) rfl ?_
  have hdm : 0 ≤ d - 1 := by omega
  have hdp : d - 1 + 1 ≤ d := by omega
  have hF : FS a a w w := FS.rf
  have hga := gl hy0
  refine J_aload_n (pc := 0) dJ5_init_d00df_0 rfl rfl rfl ?_
  refine J_objInit (pc := 1) (M := mJ5_init_d00df) dJ5_init_d00df_1 fl_J5_3 fm_objectInit fo_c rfl (by omega) (Nat.le_of_ble_eq_true rfl) ?_
  refine J_gets (pc := 4) (M := mJ5_init_d00df) (v := .int 1) dJ5_init_d00df_4 (by simp [jStat]) ff_J5_18 ?_
  show J X mJ5_init_d00df d kc ks 7 [some (.ref a), some (.int (nI N))] [.int (nI 1)] w _
  refine J_if_eqN (pc := 7) (tgt := 25) dJ5_init_d00df_7 (by decide) (by decide) (fun h => absurd h (by decide)) (fun _ => ?_)
  refine J_aload_n (pc := 10) dJ5_init_d00df_10 rfl rfl rfl ?_
  refine J_iload_n (pc := 11) dJ5_init_d00df_11 rfl rfl ?_
  have qga1 := gl hy0
  refine J_newB (pc := 12) (M := mJ5_init_d00df) (N := N) dJ5_init_d00df_12 rfl (by omega) (by omega) (by omega) (fun a12 w1 ys1 ha1 hln1 hc1 hyl1 hyf1 hne1 => ?_)
  have hoa_1 := (hne1 a (by omega)).trans hy0
  have qF1 := hF.1
  have hF1 := hF.pu ha1 hln1 hne1
  refine J_putW (pc := 14) (k := 0) dJ5_init_d00df_14 kC1 (by decide) ff_J5_15 (Or.inl rfl) rfl hoa_1 (Nat.le_of_ble_eq_true rfl) (fun w2 hln2 hw2 hne2 => ?_)
  have hoa_2 : w2[a]? = some (.inr (1, [.ref a12, .int (nI 0), .int (nI 0), .int (nI 0)])) := hw2
  have hla12_2 := (hne2 a12 (by omega)).trans hc1
  have hF2 := hF1.st hln2 hne2 (by omega)
  refine J_aload_n (pc := 17) dJ5_init_d00df_17 rfl rfl rfl ?_
  refine J_iconst (pc := 18) (v := nI 0) dJ5_init_d00df_18 (by decide) ?_
  refine J_putW (pc := 19) (k := 1) dJ5_init_d00df_19 kC1 (by decide) ff_J5_22 (Or.inl rfl) ⟨by decide, by decide⟩ hoa_2 (Nat.le_of_ble_eq_true rfl) (fun w3 hln3 hw3 hne3 => ?_)
  have hoa_3 : w3[a]? = some (.inr (1, [.ref a12, .int (nI 0), .int (nI 0), .int (nI 0)])) := hw3
  have hla12_3 := (hne3 a12 (by omega)).trans hla12_2
  have hF3 := hF2.st hln3 hne3 (by omega)
  refine J_goto (pc := 22) (tgt := 38) dJ5_init_d00df_22 (by decide) ?_
  exact J_vret (pc := 38) dJ5_init_d00df_38 rfl (⟨a12, ys1, ⟨hoa_3, hla12_3, hyf1, (by omega), (by omega), (by omega)⟩, hF3, (by omega)⟩)
set_option maxRecDepth 100000 in
set_option maxHeartbeats 4000000 in
theorem c_J4_init_da8c8 {X : jX} (hs : X.1.stackTraces = false) {d : Nat} (hd : 2 ≤ d) {w : List jC} (a : Nat) (hy0 : w[a]? = some (.inr (1, [.null, .int (nI 0), .int (nI 0), .int (nI 0)]))) {kc ks : Nat} (hkc : 1 ≤ kc) (hks : 16 ≤ ks) : jMet X mJ4_init_da8c8 d kc ks [.ref a] w (pV (fun w' => ∃ (v' : Nat) (bs' : List Int32), SBp a v' (nI 0) 0 bs' w' ∧ FS a a w w' ∧ w.length ≤ v')) := by
  refine jMet_of hs (by decide +kernel) (Nat.le_of_ble_eq_true rfl) (L := [some (.ref a)]) rfl ?_
  have hdm : 1 ≤ d - 1 := by omega
  have hdp : d - 1 + 1 ≤ d := by omega
  have hF : FS a a w w := FS.rf
  have hga := gl hy0
  refine J_aload_n (pc := 0) dJ4_init_da8c8_0 rfl rfl rfl ?_
  refine J_bipush (pc := 1) (v := nI 16) dJ4_init_da8c8_1 (by decide) ?_
  refine J_callI (pc := 3) (M := mJ4_init_da8c8) (as := [.int (nI 16)]) dJ4_init_da8c8_3 fw_J5_init_d00df fl_J4_1 fm_J5_init_d00df rfl rfl rfl (c_J5_init_d00df hs (d := d - 1) (by omega) (w := w) a 16 (by first | assumption | omega) (by first | assumption | omega) (kc := 1) (ks := 16) (Nat.le_refl _) (Nat.le_refl _)) (by omega) (by omega) (by omega) (st := []) (Nat.le_of_ble_eq_true rfl) rfl (kr_V fun w1 hw1 => ?_) kx_V
  obtain ⟨v1', ys1, ⟨h_a1, h_v1, hfit1, hB11, hB21, hB31⟩, hFc1, hvv1⟩ := hw1
  have hgl1 := hFc1.1
  have hF1 := hF.tr2 hFc1 (by omega)
  exact J_vret (pc := 6) dJ4_init_da8c8_6 rfl (⟨v1', ys1, ⟨h_a1, h_v1, hfit1, (by omega), (by omega), (by omega)⟩, hF1, (by omega)⟩)
set_option maxRecDepth 100000 in
set_option maxHeartbeats 4000000 in
theorem c_X6_addWord {X : jX} (hs : X.1.stackTraces = false) {d : Nat} (hd : 6 ≤ d) (hXO : XO X) {a v : Nat} {ml : Int32} {c : Nat} {bs : List Int32} {w : List jC} (hB : SBp a v ml c bs w) (x : Nat) (hy0 : x < 10000) (hy1 : c ≤ 124) {kc ks : Nat} (hkc : (gw c x bs.length - bs.length) / 18 ≤ kc) (hks : 2 * (gw c x bs.length - bs.length) ≤ ks) : jMet X mX6_addWord d kc ks [.ref a, .int (nI x)] w (pV (fun w' => ∃ (c' : Nat) (v' : Nat) (bs' : List Int32), SBp a v' ml (c') bs' w' ∧ FS a v w w' ∧ (v' = v ∨ w.length ≤ v') ∧ c < c' ∧ c' ≤ c + 1 + dgs x ∧ bs'.length = gw c x bs.length)) := by
  refine jMet_of hs (by decide +kernel) (Nat.le_of_ble_eq_true rfl) (L := [some (.ref a), some (.int (nI x))]) rfl ?_
  have hdm : 5 ≤ d - 1 := by omega
  have hdp : d - 1 + 1 ≤ d := by omega
  obtain ⟨h_a, h_v, hfit, hB1, hB2, hB3⟩ := hB
  have hav : a ≠ v := fun e => by subst e; rw [h_a] at h_v; cases h_v
  have hga := gl h_a
  have hgv := gl h_v
  have hF : FS a v w w := FS.rf
  have hdl := dgs_le x
  have hgw := gw_d c x bs.length
  have hg1 := gL_d (c + 1) bs.length
  have hg2 := gL_d (c + 1 + dgs x) (gL (c + 1) bs.length)
  refine J_aload_n (pc := 0) dX6_addWord_0 rfl rfl rfl ?_
  refine J_callV (pc := 1) (M := mX6_addWord) (as := []) dX6_addWord_1 fw_J4_length_8abf5 fl_X6_301 fm_J4_length_8abf5 fe_J4_length_8abf5 h_a (by decide) rfl rfl rfl (c_J4_length_8abf5 hs (d := d - 1) (by omega) (a := a) (v := v) (c := c) (bs := bs) (w := w) ⟨h_a, h_v, hfit, (by omega), (by omega), (by omega)⟩  (kc := 0) (ks := 0)) (by omega) (by omega) (by omega) (st := []) (Nat.le_of_ble_eq_true rfl) rfl (kr_P fun v1 hv1 => ?_) kx_I
  subst hv1
  refine J_if_leN (pc := 4) (tgt := 14) dX6_addWord_4 (by decide) (by omega) (fun ht2 => ?_) (fun hf3 => ?_)
  · refine J_aload_n (pc := 14) dX6_addWord_14 rfl rfl rfl ?_
    refine J_iload_n (pc := 15) dX6_addWord_15 rfl rfl ?_
    refine J_callV (pc := 16) (M := mX6_addWord) (as := [.int (nI x)]) dX6_addWord_16 fw_J4_append_bf812 fl_X6_306 fm_J4_append_bf812 fe_J4_append_bf812 h_a (by decide) rfl rfl rfl (c_J4_append_bf812 hs (d := d - 1) (by omega) hXO (a := a) (v := v) (c := c) (bs := bs) (w := w) ⟨h_a, h_v, hfit, (by omega), (by omega), (by omega)⟩ x (by first | assumption | omega) (by first | assumption | omega) (kc := ((gL (c + dgs x) bs.length - bs.length) / 18)) (ks := (2 * (gL (c + dgs x) bs.length - bs.length))) (Nat.le_refl _) (Nat.le_refl _)) (by omega) (by omega) (by omega) (st := []) (Nat.le_of_ble_eq_true rfl) rfl (kr_A fun r4 w4 hw4 => ?_) kx_A
    obtain ⟨hra4, v4', ys4, ⟨h_a4, h_v4, hfit4, hB14, hB24, hB34⟩, hFc4, hvv4, hp4_0⟩ := hw4
    obtain rfl := hra4.symm
    have hav4 : a ≠ v4' := fun e => by rw [e] at h_a4; rw [h_a4] at h_v4; cases h_v4
    have hgl4 := hFc4.1
    have hgf5 := gL_d (c + dgs x) bs.length
    have hF4 := hF.tr hFc4 (by omega)
    refine J_pop (pc := 19) dX6_addWord_19 rfl ?_
    exact J_vret (pc := 20) dX6_addWord_20 rfl (⟨c + dgs x, v4', ys4, ⟨h_a4, h_v4, hfit4, (by omega), (by omega), (by omega)⟩, hF4, (by omega), (by omega), (by omega), (by omega)⟩)
  · refine J_aload_n (pc := 7) dX6_addWord_7 rfl rfl rfl ?_
    refine J_bipush (pc := 8) (v := nI 32) dX6_addWord_8 (by decide) ?_
    refine J_callV (pc := 10) (M := mX6_addWord) (as := [.int (nI 32)]) dX6_addWord_10 fw_J4_append_cf468 fl_X6_302 fm_J4_append_cf468 fe_J4_append_cf468 h_a (by decide) rfl rfl rfl (c_J4_append_cf468 hs (d := d - 1) (by omega) (a := a) (v := v) (c := c) (bs := bs) (w := w) ⟨h_a, h_v, hfit, (by omega), (by omega), (by omega)⟩ 32 (by first | assumption | omega) (by first | assumption | omega) (kc := ((gL (c + 1) bs.length - bs.length) / 18)) (ks := (2 * (gL (c + 1) bs.length - bs.length))) (Nat.le_refl _) (Nat.le_refl _)) (by omega) (by omega) (by omega) (st := []) (Nat.le_of_ble_eq_true rfl) rfl (kr_A fun r6 w6 hw6 => ?_) kx_A
    obtain ⟨hra6, v6', ys6, ⟨h_a6, h_v6, hfit6, hB16, hB26, hB36⟩, hFc6, hvv6, hp6_0⟩ := hw6
    obtain rfl := hra6.symm
    have hav6 : a ≠ v6' := fun e => by rw [e] at h_a6; rw [h_a6] at h_v6; cases h_v6
    have hgl6 := hFc6.1
    have hgf7 := gL_d (c + 1) bs.length
    have hF6 := hF.tr hFc6 (by omega)
    have hrw : gL (c + 1 + dgs x) (gL (c + 1) bs.length) = gL (c + 1 + dgs x) ys6.length := by rw [hp6_0]
    refine J_pop (pc := 13) dX6_addWord_13 rfl ?_
    refine J_aload_n (pc := 14) dX6_addWord_14 rfl rfl rfl ?_
    refine J_iload_n (pc := 15) dX6_addWord_15 rfl rfl ?_
    refine J_callV (pc := 16) (M := mX6_addWord) (as := [.int (nI x)]) dX6_addWord_16 fw_J4_append_bf812 fl_X6_306 fm_J4_append_bf812 fe_J4_append_bf812 h_a6 (by decide) rfl rfl rfl (c_J4_append_bf812 hs (d := d - 1) (by omega) hXO (a := a) (v := v6') (c := c + 1) (bs := ys6) (w := w6) ⟨h_a6, h_v6, hfit6, (by omega), (by omega), (by omega)⟩ x (by first | assumption | omega) (by first | assumption | omega) (kc := ((gL ((c + 1) + dgs x) ys6.length - ys6.length) / 18)) (ks := (2 * (gL ((c + 1) + dgs x) ys6.length - ys6.length))) (Nat.le_refl _) (Nat.le_refl _)) (by omega) (by omega) (by omega) (st := []) (Nat.le_of_ble_eq_true rfl) rfl (kr_A fun r8 w8 hw8 => ?_) kx_A
    obtain ⟨hra8, v8', ys8, ⟨h_a8, h_v8, hfit8, hB18, hB28, hB38⟩, hFc8, hvv8, hp8_0⟩ := hw8
    obtain rfl := hra8.symm
    have hav8 : a ≠ v8' := fun e => by rw [e] at h_a8; rw [h_a8] at h_v8; cases h_v8
    have hgl8 := hFc8.1
    have hgf9 := gL_d ((c + 1) + dgs x) ys6.length
    have hF8 := hF6.tr hFc8 (by omega)
    refine J_pop (pc := 19) dX6_addWord_19 rfl ?_
    exact J_vret (pc := 20) dX6_addWord_20 rfl (⟨(c + 1) + dgs x, v8', ys8, ⟨h_a8, h_v8, hfit8, (by omega), (by omega), (by omega)⟩, hF8, (by omega), (by omega), (by omega), (by omega)⟩)
set_option maxRecDepth 100000 in
set_option maxHeartbeats 4000000 in
theorem c_J0_coder_7d493_ats {X : jX} (hs : X.1.stackTraces = false) {d : Nat} (hd : 0 ≤ d) {w : List jC} (o : Nat) (vz : Nat) (hy0 : w[o]? = some (.inr (0, [.ref vz, .int (nI 0), .int (nI 0), .int (nI 0)]))) {kc ks : Nat} : jMet X mJ0_coder_7d493 d kc ks [.ref o] w (pI (fun v => v = nI 0) (fun w' => w' = w)) := by
  refine jMet_of hs (by decide +kernel) (Nat.le_of_ble_eq_true rfl) (L := [some (.ref o)]) rfl ?_
  refine J_gets (pc := 0) (M := mJ0_coder_7d493) (v := .int 1) dJ0_coder_7d493_0 (by simp [jStat]) ff_J0_38 ?_
  show J X mJ0_coder_7d493 d kc ks 3 [some (.ref o)] [.int (nI 1)] w _
  refine J_if_eqN (pc := 3) (tgt := 13) dJ0_coder_7d493_3 (by decide) (by decide) (fun h => absurd h (by decide)) (fun _ => ?_)
  refine J_aload_n (pc := 6) dJ0_coder_7d493_6 rfl rfl rfl ?_
  refine J_get (pc := 7) (k := 1) dJ0_coder_7d493_7 kC0 (by decide) ff_J0_15 hy0 rfl ?_
  show J X mJ0_coder_7d493 d kc ks 10 [some (.ref o)] [.int (nI 0)] w _
  refine J_goto (pc := 10) (tgt := 14) dJ0_coder_7d493_10 (by decide) ?_
  exact J_zret (pc := 14) dJ0_coder_7d493_14 rfl (by decide) ⟨rfl, rfl⟩
set_option maxRecDepth 100000 in
set_option maxHeartbeats 4000000 in
theorem c_J0_length_8abf5_ats {X : jX} (hs : X.1.stackTraces = false) {d : Nat} (hd : 1 ≤ d) {w : List jC} (o : Nat) (vz : Nat) (zs : List Int32) (hy0 : w[o]? = some (.inr (0, [.ref vz, .int (nI 0), .int (nI 0), .int (nI 0)]))) (hy1 : w[vz]? = some (.inl (1, zs))) (hy2 : zs.length ≤ 270) {kc ks : Nat} : jMet X mJ0_length_8abf5 d kc ks [.ref o] w (pI (fun v => v = nI zs.length) (fun w' => w' = w)) := by
  refine jMet_of hs (by decide +kernel) (Nat.le_of_ble_eq_true rfl) (L := [some (.ref o)]) rfl ?_
  have hdm : 0 ≤ d - 1 := by omega
  have hdp : d - 1 + 1 ≤ d := by omega
  refine J_aload_n (pc := 0) dJ0_length_8abf5_0 rfl rfl rfl ?_
  refine J_get (pc := 1) (k := 0) dJ0_length_8abf5_1 kC0 (by decide) ff_J0_9 hy0 rfl ?_
  refine J_alen (pc := 4) (n := nI zs.length) dJ0_length_8abf5_4 hy1 (by decide) rfl ?_
  refine J_aload_n (pc := 5) dJ0_length_8abf5_5 rfl rfl rfl ?_
  refine J_callV (pc := 6) (M := mJ0_length_8abf5) (as := []) dJ0_length_8abf5_6 fw_J0_coder_7d493 fl_J0_335 fm_J0_coder_7d493 fe_J0_coder_7d493 hy0 (by decide) rfl rfl rfl (c_J0_coder_7d493_ats hs (d := d - 1) (by omega) (w := w) o vz (by first | assumption | omega) (kc := 0) (ks := 0)) (by omega) (by omega) (by omega) (st := [.int (nI zs.length)]) (Nat.le_of_ble_eq_true rfl) rfl (kr_P fun v1 hv1 => ?_) kx_I
  subst hv1
  refine J_ishr0 (pc := 9) dJ0_length_8abf5_9 (by omega) ?_
  exact J_iret (pc := 10) dJ0_length_8abf5_10 rfl ⟨rfl, rfl⟩
end
