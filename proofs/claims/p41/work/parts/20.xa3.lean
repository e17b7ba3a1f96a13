/-! contracts: spec2 X1,X5,J7_fill -/
set_option maxRecDepth 100000 in
set_option maxHeartbeats 4000000 in
theorem c_J7_fill_53178_at11 {X : jX} (hs : X.1.stackTraces = false) {d : Nat} (hd : 0 ≤ d) {n : Nat} {e r q : Int32} {w : List jC} (hS : SH (rX n e r q) w) (a : Int32) {kc ks : Nat} : jMet X mJ7_fill_53178 d kc ks [.ref 11, .int a] w (pV (fun w' => rS n e r q w w')) := by
  refine jMet_of hs (by decide +kernel) (Nat.le_of_ble_eq_true rfl) (L := [some (.ref 11), some (.int a), none, none]) rfl ?_
  have hG : Fr kX w w := Fr.rf
  refine J_iconst (pc := 0) (v := nI 0) dJ7_fill_53178_0 (by decide) ?_
  refine J_istore_n (pc := 1) dJ7_fill_53178_1 rfl (by decide) rfl ?_
  show J X mJ7_fill_53178 d kc ks 2 [some (.ref 11), some (.int a), some (.int (nI 0)), none] [] w _
  refine J_aload_n (pc := 2) dJ7_fill_53178_2 rfl rfl rfl ?_
  obtain ⟨_, hc1, xs1, rfl, hl1⟩ := hS 11 _ rfl
  refine J_alen (pc := 3) (n := nI 158) dJ7_fill_53178_3 hc1 (by decide) (by rw [hl1]; rfl) ?_
  refine J_istore_n (pc := 4) dJ7_fill_53178_4 rfl (by decide) rfl ?_
  show J X mJ7_fill_53178 d kc ks 5 [some (.ref 11), some (.int a), some (.int (nI 0)), some (.int (nI 158))] [] w _
  have lp5_2 : ∀ (fuel : Nat) (w3 : List jC) (c2 : Nat), SH (rX n e r q) w3 → Fr kX w w3 → c2 < 2147483648 → 158 - c2 < fuel → J X mJ7_fill_53178 d kc ks 5 [some (.ref 11), some (.int a), some (.int (nI c2)), some (.int (nI 158))] [] w3 (pV (fun w' => rS n e r q w w')) := by
    intro fuellp5_2
    induction fuellp5_2 with
    | zero => intros; omega
    | succ fuellp5_2 ihlp5_2 =>
      intro w3 c2 hS4 hG5 hi6 hf7
      refine J_iload_n (pc := 5) dJ7_fill_53178_5 rfl rfl ?_
      refine J_iload_n (pc := 6) dJ7_fill_53178_6 rfl rfl ?_
      refine J_icmp_geN (pc := 7) (tgt := 20) dJ7_fill_53178_7 (by decide) (by omega) (by omega) (fun ht8 => ?_) (fun hf9 => ?_)
      · exact J_vret (pc := 20) dJ7_fill_53178_20 rfl (⟨hS4, hG5⟩)
      · refine J_aload_n (pc := 10) dJ7_fill_53178_10 rfl rfl rfl ?_
        refine J_iload_n (pc := 11) dJ7_fill_53178_11 rfl rfl ?_
        refine J_iload_n (pc := 12) dJ7_fill_53178_12 rfl rfl ?_
        obtain ⟨_, hc10, xs10, rfl, hl10⟩ := hS4 11 _ rfl
        refine J_iastS (pc := 13) kX dJ7_fill_53178_13 hS4 hc10 (nI_in (by omega) (by omega)) rfl ⟨_, rfl, by rw [List.length_set]; exact hl10⟩ (by decide) (fun w11 hS11 hc11 hne11 hF11 => ?_)
        have hG11 := hG5.tr hF11
        have hl11 : (List.set xs10 (nI c2).toNatClampNeg a).length = 158 := by rw [List.length_set]; exact hl10
        generalize List.set xs10 (nI c2).toNatClampNeg a = xs11 at hc11 hl11
        refine J_iincN (pc := 14) (b := 1) dJ7_fill_53178_14 rfl (by decide) (by decide) rfl ?_
        show J X mJ7_fill_53178 d kc ks 17 [some (.ref 11), some (.int a), some (.int (nI (c2 + 1))), some (.int (nI 158))] [] w11 _
        refine J_goto (pc := 17) (tgt := 5) dJ7_fill_53178_17 (by decide) ?_
        exact J_sub (L' := [some (.ref 11), some (.int a), some (.int (nI (c2 + 1))), some (.int (nI 158))]) ⟨rfl, ⟨rfl, ⟨rfl, ⟨rfl, trivial⟩⟩⟩⟩ (ihlp5_2 w11 (c2 + 1) hS11 hG11 (by first | assumption | omega) (by omega))
  exact J_sub (L' := [some (.ref 11), some (.int a), some (.int (nI 0)), some (.int (nI 158))]) ⟨rfl, ⟨rfl, ⟨rfl, ⟨rfl, trivial⟩⟩⟩⟩ (lp5_2 _ w 0 hS hG (by first | assumption | omega) (Nat.lt_succ_self _))
set_option maxRecDepth 100000 in
set_option maxHeartbeats 4000000 in
theorem c_X1_clear_at9 {X : jX} (hs : X.1.stackTraces = false) {d : Nat} (hd : 1 ≤ d) {n : Nat} {e r q : Int32} (hn1 : 2 ≤ n) (hn2 : n ≤ 7) {w : List jC} (hS : SH (rX n e r q) w) {kc ks : Nat} : jMet X mX1_clear d kc ks [.ref 9] w (pV (fun w' => rS n e r q w w')) := by
  refine jMet_of hs (by decide +kernel) (Nat.le_of_ble_eq_true rfl) (L := [some (.ref 9)]) rfl ?_
  have hG : Fr kX w w := Fr.rf
  refine J_aload_n (pc := 0) dX1_clear_0 rfl rfl rfl ?_
  refine J_iconst (pc := 1) (v := nI 0) dX1_clear_1 (by decide) ?_
  obtain ⟨_, hc1, ka1, rfl, hb1_0⟩ := hS 9 _ rfl
  refine J_putS (pc := 2) (k := 2) kX dX1_clear_2 kC3 (by decide) ff_X1_7 (Or.inl rfl) ⟨rfl, rfl⟩ hS hc1 (Nat.le_of_ble_eq_true rfl) rfl ⟨0, rfl, (by omega)⟩ (by decide) (fun w2 hS2 hc2 hne2 hF2 => ?_)
  have hG2 := hG.tr hF2
  refine J_aload_n (pc := 5) dX1_clear_5 rfl rfl rfl ?_
  refine J_get (pc := 6) (k := 1) dX1_clear_6 kC3 (by decide) ff_X1_23 hc2 rfl ?_
  refine J_iconst (pc := 9) (v := nI 0) dX1_clear_9 (by decide) ?_
  refine J_callS0 (pc := 10) (M := mX1_clear) (as := [.ref 11, .int (nI 0)]) dX1_clear_10 fw_J7_fill_53178 fl_X1_26 fs_J7_fill_53178 rfl (c_J7_fill_53178_at11 hs (d := d - 1) (by omega) (n := n) (e := e) (r := r) (q := q) hS2 (w := w2) (nI 0) (kc := 0) (ks := 0)) (by omega) (st := []) (Nat.le_of_ble_eq_true rfl) rfl (kr_V fun w3 hw3 => ?_) kx_V
  obtain ⟨hS3, hF3⟩ := hw3
  have hG3 := hG2.tr hF3
  exact J_vret (pc := 13) dX1_clear_13 rfl (⟨hS3, hG3⟩)
set_option maxRecDepth 100000 in
set_option maxHeartbeats 4000000 in
theorem c_X1_add_at9 {X : jX} (hs : X.1.stackTraces = false) {d : Nat} (hd : 1 ≤ d) {n : Nat} {e r q : Int32} (hn1 : 2 ≤ n) (hn2 : n ≤ 7) {w : List jC} (hS : SH (rX n e r q) w) (a : Int32) (b : Int32) {kc ks : Nat} : jMet X mX1_add d kc ks [.ref 9, .int a, .int b] w (pI (fun v => ∃ k : Nat, v = nI k ∧ k < 2) (fun w' => rS n e r q w w')) := by
  refine jMet_of hs (by decide +kernel) (Nat.le_of_ble_eq_true rfl) (L := [some (.ref 9), some (.int a), some (.int b), none, none]) rfl ?_
  have hG : Fr kX w w := Fr.rf
  refine J_iload_n (pc := 0) dX1_add_0 rfl rfl ?_
  refine J_if_lt (pc := 1) (tgt := 25) dX1_add_1 (by decide) (fun ht1 => ?_) (fun hf2 => ?_)
  · refine J_iconst (pc := 25) (v := nI 0) dX1_add_25 (by decide) ?_
    exact J_zret (pc := 26) dX1_add_26 rfl (nar_b (by omega)) ⟨⟨0, rfl, by omega⟩, ⟨hS, hG⟩⟩
  · refine J_iload_n (pc := 4) dX1_add_4 rfl rfl ?_
    refine J_aload_n (pc := 5) dX1_add_5 rfl rfl rfl ?_
    obtain ⟨_, hc3, ka3, rfl, hb3_0⟩ := hS 9 _ rfl
    refine J_get (pc := 6) (k := 0) dX1_add_6 kC3 (by decide) ff_X1_19 hc3 rfl ?_
    obtain ⟨_, hc4, xs4, rfl, hl4⟩ := hS 10 _ rfl
    refine J_alen (pc := 9) (n := nI 5040) dX1_add_9 hc4 (by decide) (by rw [hl4]; rfl) ?_
    refine J_icmp_ge (pc := 10) (tgt := 25) dX1_add_10 (by decide) (fun ht5 => ?_) (fun hf6 => ?_)
    · refine J_iconst (pc := 25) (v := nI 0) dX1_add_25 (by decide) ?_
      exact J_zret (pc := 26) dX1_add_26 rfl (nar_b (by omega)) ⟨⟨0, rfl, by omega⟩, ⟨hS, hG⟩⟩
    · refine J_aload_n (pc := 13) dX1_add_13 rfl rfl rfl ?_
      refine J_get (pc := 14) (k := 2) dX1_add_14 kC3 (by decide) ff_X1_7 hc3 rfl ?_
      refine J_aload_n (pc := 17) dX1_add_17 rfl rfl rfl ?_
      refine J_get (pc := 18) (k := 0) dX1_add_18 kC3 (by decide) ff_X1_19 hc3 rfl ?_
      refine J_alen (pc := 21) (n := nI 5040) dX1_add_21 hc4 (by decide) (by rw [hl4]; rfl) ?_
      refine J_icmp_ltN (pc := 22) (tgt := 27) dX1_add_22 (by decide) (by omega) (by omega) (fun ht7 => ?_) (fun hf8 => ?_)
      · obtain ⟨k9, hk9, rfl⟩ := nI_k1 hf6 (by omega) hf2
        refine J_iload_n (pc := 27) dX1_add_27 rfl rfl ?_
        refine J_bipush (pc := 28) (v := nI 32) dX1_add_28 (by decide) ?_
        refine J_idivN (pc := 30) dX1_add_30 (by omega) (by omega) (by omega) ?_
        refine J_istore_n (pc := 31) dX1_add_31 rfl (by decide) rfl ?_
        show J X mX1_add d kc ks 32 [some (.ref 9), some (.int a), some (.int (nI k9)), some (.int (nI (k9 / 32))), none] [] w _
        refine J_iload_n (pc := 32) dX1_add_32 rfl rfl ?_
        refine J_bipush (pc := 33) (v := nI 32) dX1_add_33 (by decide) ?_
        refine J_iremN (pc := 35) dX1_add_35 (by omega) (by omega) (by omega) ?_
        refine J_istore (pc := 36) dX1_add_36 (by decide) rfl ?_
        show J X mX1_add d kc ks 38 [some (.ref 9), some (.int a), some (.int (nI k9)), some (.int (nI (k9 / 32))), some (.int (nI (k9 % 32)))] [] w _
        refine J_aload_n (pc := 38) dX1_add_38 rfl rfl rfl ?_
        refine J_get (pc := 39) (k := 1) dX1_add_39 kC3 (by decide) ff_X1_23 hc3 rfl ?_
        refine J_iload_n (pc := 42) dX1_add_42 rfl rfl ?_
        obtain ⟨_, hc10, xs10, rfl, hl10⟩ := hS 11 _ rfl
        refine J_iald (pc := 43) dX1_add_43 hc10 (nI_in (by omega) (by omega)) (J_absI fun x11 => ?_)
        refine J_iload (pc := 44) dX1_add_44 rfl ?_
        refine J_callSN0 (pc := 46) (M := mX1_add) (as := [.int x11, .int (nI (k9 % 32))]) dX1_add_46 fw_X6_has fl_X1_32 fs_X6_has rfl (c_X6_has hs (d := d - 1) (by omega) (w := w) x11 (nI (k9 % 32)) (kc := 0) (ks := 0)) (by omega) (st := []) (Nat.le_of_ble_eq_true rfl) rfl (kr_P fun v12 hv12 => ?_) kx_I
        obtain ⟨k12, rfl, hk12⟩ := hv12
        refine J_if_eqN (pc := 49) (tgt := 54) dX1_add_49 (by decide) (by omega) (fun ht13 => ?_) (fun hf14 => ?_)
        · refine J_aload_n (pc := 54) dX1_add_54 rfl rfl rfl ?_
          refine J_get (pc := 55) (k := 1) dX1_add_55 kC3 (by decide) ff_X1_23 hc3 rfl ?_
          refine J_iload_n (pc := 58) dX1_add_58 rfl rfl ?_
          refine J_dup2 (pc := 59) dX1_add_59 rfl rfl ?_
          refine J_iald (pc := 60) dX1_add_60 hc10 (nI_in (by omega) (by omega)) (J_absI fun x15 => ?_)
          refine J_iconst (pc := 61) (v := nI 1) dX1_add_61 (by decide) ?_
          refine J_iload (pc := 62) dX1_add_62 rfl ?_
          refine J_ishl (pc := 64) dX1_add_64 (J_absI fun x16 => ?_)
          refine J_ior (pc := 65) dX1_add_65 (J_absI fun x17 => ?_)
          refine J_iastS (pc := 66) kX dX1_add_66 hS hc10 (nI_in (by omega) (by omega)) rfl ⟨_, rfl, by rw [List.length_set]; exact hl10⟩ (by decide) (fun w18 hS18 hc18 hne18 hF18 => ?_)
          have hG18 := hG.tr hF18
          have hl18 : (List.set xs10 (nI (k9 / 32)).toNatClampNeg x17).length = 158 := by rw [List.length_set]; exact hl10
          generalize List.set xs10 (nI (k9 / 32)).toNatClampNeg x17 = xs18 at hc18 hl18
          have hc3_v18 := (hne18 9 (by decide)).trans hc3
          have hc4_v18 := (hne18 10 (by decide)).trans hc4
          refine J_aload_n (pc := 67) dX1_add_67 rfl rfl rfl ?_
          refine J_get (pc := 68) (k := 0) dX1_add_68 kC3 (by decide) ff_X1_19 hc3_v18 rfl ?_
          refine J_aload_n (pc := 71) dX1_add_71 rfl rfl rfl ?_
          refine J_get (pc := 72) (k := 2) dX1_add_72 kC3 (by decide) ff_X1_7 hc3_v18 rfl ?_
          refine J_iload_n (pc := 75) dX1_add_75 rfl rfl ?_
          refine J_iastS (pc := 76) kX dX1_add_76 hS18 hc4_v18 (nI_in (by omega) (by omega)) rfl ⟨_, rfl, by rw [List.length_set]; exact hl4⟩ (by decide) (fun w19 hS19 hc19 hne19 hF19 => ?_)
          have hG19 := hG18.tr hF19
          have hl19 : (List.set xs4 (nI ka3).toNatClampNeg a).length = 5040 := by rw [List.length_set]; exact hl4
          generalize List.set xs4 (nI ka3).toNatClampNeg a = xs19 at hc19 hl19
          have hc3_v19 := (hne19 9 (by decide)).trans hc3_v18
          have hc18_v19 := (hne19 11 (by decide)).trans hc18
          refine J_aload_n (pc := 77) dX1_add_77 rfl rfl rfl ?_
          refine J_dup (pc := 78) dX1_add_78 rfl ?_
          refine J_get (pc := 79) (k := 2) dX1_add_79 kC3 (by decide) ff_X1_7 hc3_v19 rfl ?_
          refine J_iconst (pc := 82) (v := nI 1) dX1_add_82 (by decide) ?_
          refine J_iaddN (pc := 83) dX1_add_83 ?_
          refine J_putS (pc := 84) (k := 2) kX dX1_add_84 kC3 (by decide) ff_X1_7 (Or.inl rfl) ⟨rfl, rfl⟩ hS19 hc3_v19 (Nat.le_of_ble_eq_true rfl) rfl ⟨(ka3 + 1), rfl, (by omega)⟩ (by decide) (fun w20 hS20 hc20 hne20 hF20 => ?_)
          have hG20 := hG19.tr hF20
          have hc18_v20 := (hne20 11 (by decide)).trans hc18_v19
          have hc19_v20 := (hne20 10 (by decide)).trans hc19
          refine J_iconst (pc := 87) (v := nI 1) dX1_add_87 (by decide) ?_
          exact J_zret (pc := 88) dX1_add_88 rfl (nar_b (by omega)) ⟨⟨1, rfl, by omega⟩, ⟨hS20, hG20⟩⟩
        · refine J_iconst (pc := 52) (v := nI 0) dX1_add_52 (by decide) ?_
          exact J_zret (pc := 53) dX1_add_53 rfl (nar_b (by omega)) ⟨⟨0, rfl, by omega⟩, ⟨hS, hG⟩⟩
      · refine J_iconst (pc := 25) (v := nI 0) dX1_add_25 (by decide) ?_
        exact J_zret (pc := 26) dX1_add_26 rfl (nar_b (by omega)) ⟨⟨0, rfl, by omega⟩, ⟨hS, hG⟩⟩
set_option maxRecDepth 100000 in
set_option maxHeartbeats 4000000 in
theorem c_X1_isMarked_at9 {X : jX} (hs : X.1.stackTraces = false) {d : Nat} (hd : 1 ≤ d) {n : Nat} {e r q : Int32} (hn1 : 2 ≤ n) (hn2 : n ≤ 7) {w : List jC} (hS : SH (rX n e r q) w) (a : Int32) {kc ks : Nat} : jMet X mX1_isMarked d kc ks [.ref 9, .int a] w (pI (fun v => ∃ k : Nat, v = nI k ∧ k < 2) (fun w' => w' = w)) := by
  refine jMet_of hs (by decide +kernel) (Nat.le_of_ble_eq_true rfl) (L := [some (.ref 9), some (.int a)]) rfl ?_
  have hG : Fr kX w w := Fr.rf
  refine J_iload_n (pc := 0) dX1_isMarked_0 rfl rfl ?_
  refine J_if_lt (pc := 1) (tgt := 36) dX1_isMarked_1 (by decide) (fun ht1 => ?_) (fun hf2 => ?_)
  · refine J_iconst (pc := 36) (v := nI 0) dX1_isMarked_36 (by decide) ?_
    exact J_zret (pc := 37) dX1_isMarked_37 rfl (nar_b (by omega)) ⟨⟨0, rfl, by omega⟩, rfl⟩
  · refine J_iload_n (pc := 4) dX1_isMarked_4 rfl rfl ?_
    refine J_aload_n (pc := 5) dX1_isMarked_5 rfl rfl rfl ?_
    obtain ⟨_, hc3, ka3, rfl, hb3_0⟩ := hS 9 _ rfl
    refine J_get (pc := 6) (k := 0) dX1_isMarked_6 kC3 (by decide) ff_X1_19 hc3 rfl ?_
    obtain ⟨_, hc4, xs4, rfl, hl4⟩ := hS 10 _ rfl
    refine J_alen (pc := 9) (n := nI 5040) dX1_isMarked_9 hc4 (by decide) (by rw [hl4]; rfl) ?_
    refine J_icmp_ge (pc := 10) (tgt := 36) dX1_isMarked_10 (by decide) (fun ht5 => ?_) (fun hf6 => ?_)
    · refine J_iconst (pc := 36) (v := nI 0) dX1_isMarked_36 (by decide) ?_
      exact J_zret (pc := 37) dX1_isMarked_37 rfl (nar_b (by omega)) ⟨⟨0, rfl, by omega⟩, rfl⟩
    · obtain ⟨k7, hk7, rfl⟩ := nI_k1 hf6 (by omega) hf2
      refine J_aload_n (pc := 13) dX1_isMarked_13 rfl rfl rfl ?_
      refine J_get (pc := 14) (k := 1) dX1_isMarked_14 kC3 (by decide) ff_X1_23 hc3 rfl ?_
      refine J_iload_n (pc := 17) dX1_isMarked_17 rfl rfl ?_
      refine J_bipush (pc := 18) (v := nI 32) dX1_isMarked_18 (by decide) ?_
      refine J_idivN (pc := 20) dX1_isMarked_20 (by omega) (by omega) (by omega) ?_
      obtain ⟨_, hc8, xs8, rfl, hl8⟩ := hS 11 _ rfl
      refine J_iald (pc := 21) dX1_isMarked_21 hc8 (nI_in (by omega) (by omega)) (J_absI fun x9 => ?_)
      refine J_iload_n (pc := 22) dX1_isMarked_22 rfl rfl ?_
      refine J_bipush (pc := 23) (v := nI 32) dX1_isMarked_23 (by decide) ?_
      refine J_iremN (pc := 25) dX1_isMarked_25 (by omega) (by omega) (by omega) ?_
      refine J_callSN0 (pc := 26) (M := mX1_isMarked) (as := [.int x9, .int (nI (k7 % 32))]) dX1_isMarked_26 fw_X6_has fl_X1_32 fs_X6_has rfl (c_X6_has hs (d := d - 1) (by omega) (w := w) x9 (nI (k7 % 32)) (kc := 0) (ks := 0)) (by omega) (st := []) (Nat.le_of_ble_eq_true rfl) rfl (kr_P fun v10 hv10 => ?_) kx_I
      obtain ⟨k10, rfl, hk10⟩ := hv10
      refine J_if_eqN (pc := 29) (tgt := 36) dX1_isMarked_29 (by decide) (by omega) (fun ht11 => ?_) (fun hf12 => ?_)
      · refine J_iconst (pc := 36) (v := nI 0) dX1_isMarked_36 (by decide) ?_
        exact J_zret (pc := 37) dX1_isMarked_37 rfl (nar_b (by omega)) ⟨⟨0, rfl, by omega⟩, rfl⟩
      · refine J_iconst (pc := 32) (v := nI 1) dX1_isMarked_32 (by decide) ?_
        refine J_goto (pc := 33) (tgt := 37) dX1_isMarked_33 (by decide) ?_
        exact J_zret (pc := 37) dX1_isMarked_37 rfl (nar_b (by omega)) ⟨⟨1, rfl, by omega⟩, rfl⟩
set_option maxRecDepth 100000 in
set_option maxHeartbeats 4000000 in
theorem c_X1_thing_at9 {X : jX} (hs : X.1.stackTraces = false) {d : Nat} (hd : 0 ≤ d) {n : Nat} {e r q : Int32} (hn1 : 2 ≤ n) (hn2 : n ≤ 7) {w : List jC} (hS : SH (rX n e r q) w) (a : Int32) {kc ks : Nat} : jMet X mX1_thing d kc ks [.ref 9, .int a] w (pI (fun _ => True) (fun w' => w' = w)) := by
  refine jMet_of hs (by decide +kernel) (Nat.le_of_ble_eq_true rfl) (L := [some (.ref 9), some (.int a)]) rfl ?_
  have hG : Fr kX w w := Fr.rf
  refine J_iload_n (pc := 0) dX1_thing_0 rfl rfl ?_
  refine J_if_lt (pc := 1) (tgt := 13) dX1_thing_1 (by decide) (fun ht1 => ?_) (fun hf2 => ?_)
  · refine J_iconst (pc := 13) (v := nI 0) dX1_thing_13 (by decide) ?_
    refine J_goto (pc := 14) (tgt := 23) dX1_thing_14 (by decide) ?_
    exact J_iret (pc := 23) dX1_thing_23 rfl ⟨trivial, rfl⟩
  · refine J_iload_n (pc := 4) dX1_thing_4 rfl rfl ?_
    refine J_aload_n (pc := 5) dX1_thing_5 rfl rfl rfl ?_
    obtain ⟨_, hc3, ka3, rfl, hb3_0⟩ := hS 9 _ rfl
    refine J_get (pc := 6) (k := 0) dX1_thing_6 kC3 (by decide) ff_X1_19 hc3 rfl ?_
    obtain ⟨_, hc4, xs4, rfl, hl4⟩ := hS 10 _ rfl
    refine J_alen (pc := 9) (n := nI 5040) dX1_thing_9 hc4 (by decide) (by rw [hl4]; rfl) ?_
    refine J_icmp_lt (pc := 10) (tgt := 17) dX1_thing_10 (by decide) (fun ht5 => ?_) (fun hf6 => ?_)
    · refine J_aload_n (pc := 17) dX1_thing_17 rfl rfl rfl ?_
      refine J_get (pc := 18) (k := 0) dX1_thing_18 kC3 (by decide) ff_X1_19 hc3 rfl ?_
      refine J_iload_n (pc := 21) dX1_thing_21 rfl rfl ?_
      obtain ⟨k7, hk7, rfl⟩ := nI_k2 ht5 (by omega) hf2
      refine J_iald (pc := 22) dX1_thing_22 hc4 (nI_in (by omega) (by omega)) (J_absI fun x8 => ?_)
      exact J_iret (pc := 23) dX1_thing_23 rfl ⟨trivial, rfl⟩
    · refine J_iconst (pc := 13) (v := nI 0) dX1_thing_13 (by decide) ?_
      refine J_goto (pc := 14) (tgt := 23) dX1_thing_14 (by decide) ?_
      exact J_iret (pc := 23) dX1_thing_23 rfl ⟨trivial, rfl⟩
set_option maxRecDepth 100000 in
set_option maxHeartbeats 4000000 in
theorem c_X1_length_at9 {X : jX} (hs : X.1.stackTraces = false) {d : Nat} (hd : 0 ≤ d) {n : Nat} {e r q : Int32} (hn1 : 2 ≤ n) (hn2 : n ≤ 7) {w : List jC} (hS : SH (rX n e r q) w) {kc ks : Nat} : jMet X mX1_length d kc ks [.ref 9] w (pI (fun v => ∃ k : Nat, v = nI k ∧ k ≤ 5040) (fun w' => w' = w)) := by
  refine jMet_of hs (by decide +kernel) (Nat.le_of_ble_eq_true rfl) (L := [some (.ref 9)]) rfl ?_
  have hG : Fr kX w w := Fr.rf
  refine J_aload_n (pc := 0) dX1_length_0 rfl rfl rfl ?_
  obtain ⟨_, hc1, ka1, rfl, hb1_0⟩ := hS 9 _ rfl
  refine J_get (pc := 1) (k := 2) dX1_length_1 kC3 (by decide) ff_X1_7 hc1 rfl ?_
  exact J_iret (pc := 4) dX1_length_4 rfl ⟨⟨ka1, rfl, by omega⟩, rfl⟩
set_option maxRecDepth 100000 in
set_option maxHeartbeats 4000000 in
theorem c_J7_fill_53178_at17 {X : jX} (hs : X.1.stackTraces = false) {d : Nat} (hd : 0 ≤ d) {n : Nat} {e r q : Int32} {w : List jC} (hS : SH (rX n e r q) w) (a : Int32) {kc ks : Nat} : jMet X mJ7_fill_53178 d kc ks [.ref 17, .int a] w (pV (fun w' => rS n e r q w w')) := by
  refine jMet_of hs (by decide +kernel) (Nat.le_of_ble_eq_true rfl) (L := [some (.ref 17), some (.int a), none, none]) rfl ?_
  have hG : Fr kX w w := Fr.rf
  refine J_iconst (pc := 0) (v := nI 0) dJ7_fill_53178_0 (by decide) ?_
  refine J_istore_n (pc := 1) dJ7_fill_53178_1 rfl (by decide) rfl ?_
  show J X mJ7_fill_53178 d kc ks 2 [some (.ref 17), some (.int a), some (.int (nI 0)), none] [] w _
  refine J_aload_n (pc := 2) dJ7_fill_53178_2 rfl rfl rfl ?_
  obtain ⟨_, hc1, xs1, rfl, hl1⟩ := hS 17 _ rfl
  refine J_alen (pc := 3) (n := nI 69) dJ7_fill_53178_3 hc1 (by decide) (by rw [hl1]; rfl) ?_
  refine J_istore_n (pc := 4) dJ7_fill_53178_4 rfl (by decide) rfl ?_
  show J X mJ7_fill_53178 d kc ks 5 [some (.ref 17), some (.int a), some (.int (nI 0)), some (.int (nI 69))] [] w _
  have lp5_2 : ∀ (fuel : Nat) (w3 : List jC) (c2 : Nat), SH (rX n e r q) w3 → Fr kX w w3 → c2 < 2147483648 → 69 - c2 < fuel → J X mJ7_fill_53178 d kc ks 5 [some (.ref 17), some (.int a), some (.int (nI c2)), some (.int (nI 69))] [] w3 (pV (fun w' => rS n e r q w w')) := by
    intro fuellp5_2
    induction fuellp5_2 with
    | zero => intros; omega
    | succ fuellp5_2 ihlp5_2 =>
      intro w3 c2 hS4 hG5 hi6 hf7
      refine J_iload_n (pc := 5) dJ7_fill_53178_5 rfl rfl ?_
      refine J_iload_n (pc := 6) dJ7_fill_53178_6 rfl rfl ?_
      refine J_icmp_geN (pc := 7) (tgt := 20) dJ7_fill_53178_7 (by decide) (by omega) (by omega) (fun ht8 => ?_) (fun hf9 => ?_)
      · exact J_vret (pc := 20) dJ7_fill_53178_20 rfl (⟨hS4, hG5⟩)
      · refine J_aload_n (pc := 10) dJ7_fill_53178_10 rfl rfl rfl ?_
        refine J_iload_n (pc := 11) dJ7_fill_53178_11 rfl rfl ?_
        refine J_iload_n (pc := 12) dJ7_fill_53178_12 rfl rfl ?_
        obtain ⟨_, hc10, xs10, rfl, hl10⟩ := hS4 17 _ rfl
        refine J_iastS (pc := 13) kX dJ7_fill_53178_13 hS4 hc10 (nI_in (by omega) (by omega)) rfl ⟨_, rfl, by rw [List.length_set]; exact hl10⟩ (by decide) (fun w11 hS11 hc11 hne11 hF11 => ?_)
        have hG11 := hG5.tr hF11
        have hl11 : (List.set xs10 (nI c2).toNatClampNeg a).length = 69 := by rw [List.length_set]; exact hl10
        generalize List.set xs10 (nI c2).toNatClampNeg a = xs11 at hc11 hl11
        refine J_iincN (pc := 14) (b := 1) dJ7_fill_53178_14 rfl (by decide) (by decide) rfl ?_
        show J X mJ7_fill_53178 d kc ks 17 [some (.ref 17), some (.int a), some (.int (nI (c2 + 1))), some (.int (nI 69))] [] w11 _
        refine J_goto (pc := 17) (tgt := 5) dJ7_fill_53178_17 (by decide) ?_
        exact J_sub (L' := [some (.ref 17), some (.int a), some (.int (nI (c2 + 1))), some (.int (nI 69))]) ⟨rfl, ⟨rfl, ⟨rfl, ⟨rfl, trivial⟩⟩⟩⟩ (ihlp5_2 w11 (c2 + 1) hS11 hG11 (by first | assumption | omega) (by omega))
  exact J_sub (L' := [some (.ref 17), some (.int a), some (.int (nI 0)), some (.int (nI 69))]) ⟨rfl, ⟨rfl, ⟨rfl, ⟨rfl, trivial⟩⟩⟩⟩ (lp5_2 _ w 0 hS hG (by first | assumption | omega) (Nat.lt_succ_self _))
set_option maxRecDepth 100000 in
set_option maxHeartbeats 4000000 in
theorem c_X1_clear_at15 {X : jX} (hs : X.1.stackTraces = false) {d : Nat} (hd : 1 ≤ d) {n : Nat} {e r q : Int32} (hn1 : 2 ≤ n) (hn2 : n ≤ 7) {w : List jC} (hS : SH (rX n e r q) w) {kc ks : Nat} : jMet X mX1_clear d kc ks [.ref 15] w (pV (fun w' => rS n e r q w w')) := by
  refine jMet_of hs (by decide +kernel) (Nat.le_of_ble_eq_true rfl) (L := [some (.ref 15)]) rfl ?_
  have hG : Fr kX w w := Fr.rf
  refine J_aload_n (pc := 0) dX1_clear_0 rfl rfl rfl ?_
  refine J_iconst (pc := 1) (v := nI 0) dX1_clear_1 (by decide) ?_
  obtain ⟨_, hc1, ka1, rfl, hb1_0⟩ := hS 15 _ rfl
  refine J_putS (pc := 2) (k := 2) kX dX1_clear_2 kC3 (by decide) ff_X1_7 (Or.inl rfl) ⟨rfl, rfl⟩ hS hc1 (Nat.le_of_ble_eq_true rfl) rfl ⟨0, rfl, (by omega)⟩ (by decide) (fun w2 hS2 hc2 hne2 hF2 => ?_)
  have hG2 := hG.tr hF2
  refine J_aload_n (pc := 5) dX1_clear_5 rfl rfl rfl ?_
  refine J_get (pc := 6) (k := 1) dX1_clear_6 kC3 (by decide) ff_X1_23 hc2 rfl ?_
  refine J_iconst (pc := 9) (v := nI 0) dX1_clear_9 (by decide) ?_
  refine J_callS0 (pc := 10) (M := mX1_clear) (as := [.ref 17, .int (nI 0)]) dX1_clear_10 fw_J7_fill_53178 fl_X1_26 fs_J7_fill_53178 rfl (c_J7_fill_53178_at17 hs (d := d - 1) (by omega) (n := n) (e := e) (r := r) (q := q) hS2 (w := w2) (nI 0) (kc := 0) (ks := 0)) (by omega) (st := []) (Nat.le_of_ble_eq_true rfl) rfl (kr_V fun w3 hw3 => ?_) kx_V
  obtain ⟨hS3, hF3⟩ := hw3
  have hG3 := hG2.tr hF3
  exact J_vret (pc := 13) dX1_clear_13 rfl (⟨hS3, hG3⟩)
set_option maxRecDepth 100000 in
set_option maxHeartbeats 4000000 in
theorem c_X1_add_at15 {X : jX} (hs : X.1.stackTraces = false) {d : Nat} (hd : 1 ≤ d) {n : Nat} {e r q : Int32} (hn1 : 2 ≤ n) (hn2 : n ≤ 7) {w : List jC} (hS : SH (rX n e r q) w) (a : Int32) (b : Int32) {kc ks : Nat} : jMet X mX1_add d kc ks [.ref 15, .int a, .int b] w (pI (fun v => ∃ k : Nat, v = nI k ∧ k < 2) (fun w' => rS n e r q w w')) := by
  refine jMet_of hs (by decide +kernel) (Nat.le_of_ble_eq_true rfl) (L := [some (.ref 15), some (.int a), some (.int b), none, none]) rfl ?_
  have hG : Fr kX w w := Fr.rf
  refine J_iload_n (pc := 0) dX1_add_0 rfl rfl ?_
  refine J_if_lt (pc := 1) (tgt := 25) dX1_add_1 (by decide) (fun ht1 => ?_) (fun hf2 => ?_)
  · refine J_iconst (pc := 25) (v := nI 0) dX1_add_25 (by decide) ?_
    exact J_zret (pc := 26) dX1_add_26 rfl (nar_b (by omega)) ⟨⟨0, rfl, by omega⟩, ⟨hS, hG⟩⟩
  · refine J_iload_n (pc := 4) dX1_add_4 rfl rfl ?_
    refine J_aload_n (pc := 5) dX1_add_5 rfl rfl rfl ?_
    obtain ⟨_, hc3, ka3, rfl, hb3_0⟩ := hS 15 _ rfl
    refine J_get (pc := 6) (k := 0) dX1_add_6 kC3 (by decide) ff_X1_19 hc3 rfl ?_
    obtain ⟨_, hc4, xs4, rfl, hl4⟩ := hS 16 _ rfl
    refine J_alen (pc := 9) (n := nI 2187) dX1_add_9 hc4 (by decide) (by rw [hl4]; rfl) ?_
    refine J_icmp_ge (pc := 10) (tgt := 25) dX1_add_10 (by decide) (fun ht5 => ?_) (fun hf6 => ?_)
    · refine J_iconst (pc := 25) (v := nI 0) dX1_add_25 (by decide) ?_
      exact J_zret (pc := 26) dX1_add_26 rfl (nar_b (by omega)) ⟨⟨0, rfl, by omega⟩, ⟨hS, hG⟩⟩
    · refine J_aload_n (pc := 13) dX1_add_13 rfl rfl rfl ?_
      refine J_get (pc := 14) (k := 2) dX1_add_14 kC3 (by decide) ff_X1_7 hc3 rfl ?_
      refine J_aload_n (pc := 17) dX1_add_17 rfl rfl rfl ?_
      refine J_get (pc := 18) (k := 0) dX1_add_18 kC3 (by decide) ff_X1_19 hc3 rfl ?_
      refine J_alen (pc := 21) (n := nI 2187) dX1_add_21 hc4 (by decide) (by rw [hl4]; rfl) ?_
      refine J_icmp_ltN (pc := 22) (tgt := 27) dX1_add_22 (by decide) (by omega) (by omega) (fun ht7 => ?_) (fun hf8 => ?_)
      · obtain ⟨k9, hk9, rfl⟩ := nI_k1 hf6 (by omega) hf2
        refine J_iload_n (pc := 27) dX1_add_27 rfl rfl ?_
        refine J_bipush (pc := 28) (v := nI 32) dX1_add_28 (by decide) ?_
        refine J_idivN (pc := 30) dX1_add_30 (by omega) (by omega) (by omega) ?_
        refine J_istore_n (pc := 31) dX1_add_31 rfl (by decide) rfl ?_
        show J X mX1_add d kc ks 32 [some (.ref 15), some (.int a), some (.int (nI k9)), some (.int (nI (k9 / 32))), none] [] w _
        refine J_iload_n (pc := 32) dX1_add_32 rfl rfl ?_
        refine J_bipush (pc := 33) (v := nI 32) dX1_add_33 (by decide) ?_
        refine J_iremN (pc := 35) dX1_add_35 (by omega) (by omega) (by omega) ?_
        refine J_istore (pc := 36) dX1_add_36 (by decide) rfl ?_
        show J X mX1_add d kc ks 38 [some (.ref 15), some (.int a), some (.int (nI k9)), some (.int (nI (k9 / 32))), some (.int (nI (k9 % 32)))] [] w _
        refine J_aload_n (pc := 38) dX1_add_38 rfl rfl rfl ?_
        refine J_get (pc := 39) (k := 1) dX1_add_39 kC3 (by decide) ff_X1_23 hc3 rfl ?_
        refine J_iload_n (pc := 42) dX1_add_42 rfl rfl ?_
        obtain ⟨_, hc10, xs10, rfl, hl10⟩ := hS 17 _ rfl
        refine J_iald (pc := 43) dX1_add_43 hc10 (nI_in (by omega) (by omega)) (J_absI fun x11 => ?_)
        refine J_iload (pc := 44) dX1_add_44 rfl ?_
        refine J_callSN0 (pc := 46) (M := mX1_add) (as := [.int x11, .int (nI (k9 % 32))]) dX1_add_46 fw_X6_has fl_X1_32 fs_X6_has rfl (c_X6_has hs (d := d - 1) (by omega) (w := w) x11 (nI (k9 % 32)) (kc := 0) (ks := 0)) (by omega) (st := []) (Nat.le_of_ble_eq_true rfl) rfl (kr_P fun v12 hv12 => ?_) kx_I
        obtain ⟨k12, rfl, hk12⟩ := hv12
        refine J_if_eqN (pc := 49) (tgt := 54) dX1_add_49 (by decide) (by omega) (fun ht13 => ?_) (fun hf14 => ?_)
        · refine J_aload_n (pc := 54) dX1_add_54 rfl rfl rfl ?_
          refine J_get (pc := 55) (k := 1) dX1_add_55 kC3 (by decide) ff_X1_23 hc3 rfl ?_
          refine J_iload_n (pc := 58) dX1_add_58 rfl rfl ?_
          refine J_dup2 (pc := 59) dX1_add_59 rfl rfl ?_
          refine J_iald (pc := 60) dX1_add_60 hc10 (nI_in (by omega) (by omega)) (J_absI fun x15 => ?_)
          refine J_iconst (pc := 61) (v := nI 1) dX1_add_61 (by decide) ?_
          refine J_iload (pc := 62) dX1_add_62 rfl ?_
          refine J_ishl (pc := 64) dX1_add_64 (J_absI fun x16 => ?_)
          refine J_ior (pc := 65) dX1_add_65 (J_absI fun x17 => ?_)
          refine J_iastS (pc := 66) kX dX1_add_66 hS hc10 (nI_in (by omega) (by omega)) rfl ⟨_, rfl, by rw [List.length_set]; exact hl10⟩ (by decide) (fun w18 hS18 hc18 hne18 hF18 => ?_)
          have hG18 := hG.tr hF18
          have hl18 : (List.set xs10 (nI (k9 / 32)).toNatClampNeg x17).length = 69 := by rw [List.length_set]; exact hl10
          generalize List.set xs10 (nI (k9 / 32)).toNatClampNeg x17 = xs18 at hc18 hl18
          have hc3_v18 := (hne18 15 (by decide)).trans hc3
          have hc4_v18 := (hne18 16 (by decide)).trans hc4
          refine J_aload_n (pc := 67) dX1_add_67 rfl rfl rfl ?_
          refine J_get (pc := 68) (k := 0) dX1_add_68 kC3 (by decide) ff_X1_19 hc3_v18 rfl ?_
          refine J_aload_n (pc := 71) dX1_add_71 rfl rfl rfl ?_
          refine J_get (pc := 72) (k := 2) dX1_add_72 kC3 (by decide) ff_X1_7 hc3_v18 rfl ?_
          refine J_iload_n (pc := 75) dX1_add_75 rfl rfl ?_
          refine J_iastS (pc := 76) kX dX1_add_76 hS18 hc4_v18 (nI_in (by omega) (by omega)) rfl ⟨_, rfl, by rw [List.length_set]; exact hl4⟩ (by decide) (fun w19 hS19 hc19 hne19 hF19 => ?_)
          have hG19 := hG18.tr hF19
          have hl19 : (List.set xs4 (nI ka3).toNatClampNeg a).length = 2187 := by rw [List.length_set]; exact hl4
          generalize List.set xs4 (nI ka3).toNatClampNeg a = xs19 at hc19 hl19
          have hc3_v19 := (hne19 15 (by decide)).trans hc3_v18
          have hc18_v19 := (hne19 17 (by decide)).trans hc18
          refine J_aload_n (pc := 77) dX1_add_77 rfl rfl rfl ?_
          refine J_dup (pc := 78) dX1_add_78 rfl ?_
          refine J_get (pc := 79) (k := 2) dX1_add_79 kC3 (by decide) ff_X1_7 hc3_v19 rfl ?_
          refine J_iconst (pc := 82) (v := nI 1) dX1_add_82 (by decide) ?_
          refine J_iaddN (pc := 83) dX1_add_83 ?_
          refine J_putS (pc := 84) (k := 2) kX dX1_add_84 kC3 (by decide) ff_X1_7 (Or.inl rfl) ⟨rfl, rfl⟩ hS19 hc3_v19 (Nat.le_of_ble_eq_true rfl) rfl ⟨(ka3 + 1), rfl, (by omega)⟩ (by decide) (fun w20 hS20 hc20 hne20 hF20 => ?_)
          have hG20 := hG19.tr hF20
          have hc18_v20 := (hne20 17 (by decide)).trans hc18_v19
          have hc19_v20 := (hne20 16 (by decide)).trans hc19
          refine J_iconst (pc := 87) (v := nI 1) dX1_add_87 (by decide) ?_
          exact J_zret (pc := 88) dX1_add_88 rfl (nar_b (by omega)) ⟨⟨1, rfl, by omega⟩, ⟨hS20, hG20⟩⟩
        · refine J_iconst (pc := 52) (v := nI 0) dX1_add_52 (by decide) ?_
          exact J_zret (pc := 53) dX1_add_53 rfl (nar_b (by omega)) ⟨⟨0, rfl, by omega⟩, ⟨hS, hG⟩⟩
      · refine J_iconst (pc := 25) (v := nI 0) dX1_add_25 (by decide) ?_
        exact J_zret (pc := 26) dX1_add_26 rfl (nar_b (by omega)) ⟨⟨0, rfl, by omega⟩, ⟨hS, hG⟩⟩
set_option maxRecDepth 100000 in
set_option maxHeartbeats 4000000 in
theorem c_X1_isMarked_at15 {X : jX} (hs : X.1.stackTraces = false) {d : Nat} (hd : 1 ≤ d) {n : Nat} {e r q : Int32} (hn1 : 2 ≤ n) (hn2 : n ≤ 7) {w : List jC} (hS : SH (rX n e r q) w) (a : Int32) {kc ks : Nat} : jMet X mX1_isMarked d kc ks [.ref 15, .int a] w (pI (fun v => ∃ k : Nat, v = nI k ∧ k < 2) (fun w' => w' = w)) := by
  refine jMet_of hs (by decide +kernel) (Nat.le_of_ble_eq_true rfl) (L := [some (.ref 15), some (.int a)]) rfl ?_
  have hG : Fr kX w w := Fr.rf
  refine J_iload_n (pc := 0) dX1_isMarked_0 rfl rfl ?_
  refine J_if_lt (pc := 1) (tgt := 36) dX1_isMarked_1 (by decide) (fun ht1 => ?_) (fun hf2 => ?_)
  · refine J_iconst (pc := 36) (v := nI 0) dX1_isMarked_36 (by decide) ?_
    exact J_zret (pc := 37) dX1_isMarked_37 rfl (nar_b (by omega)) ⟨⟨0, rfl, by omega⟩, rfl⟩
  · refine J_iload_n (pc := 4) dX1_isMarked_4 rfl rfl ?_
    refine J_aload_n (pc := 5) dX1_isMarked_5 rfl rfl rfl ?_
    obtain ⟨_, hc3, ka3, rfl, hb3_0⟩ := hS 15 _ rfl
    refine J_get (pc := 6) (k := 0) dX1_isMarked_6 kC3 (by decide) ff_X1_19 hc3 rfl ?_
    obtain ⟨_, hc4, xs4, rfl, hl4⟩ := hS 16 _ rfl
    refine J_alen (pc := 9) (n := nI 2187) dX1_isMarked_9 hc4 (by decide) (by rw [hl4]; rfl) ?_
    refine J_icmp_ge (pc := 10) (tgt := 36) dX1_isMarked_10 (by decide) (fun ht5 => ?_) (fun hf6 => ?_)
    · refine J_iconst (pc := 36) (v := nI 0) dX1_isMarked_36 (by decide) ?_
      exact J_zret (pc := 37) dX1_isMarked_37 rfl (nar_b (by omega)) ⟨⟨0, rfl, by omega⟩, rfl⟩
    · obtain ⟨k7, hk7, rfl⟩ := nI_k1 hf6 (by omega) hf2
      refine J_aload_n (pc := 13) dX1_isMarked_13 rfl rfl rfl ?_
      refine J_get (pc := 14) (k := 1) dX1_isMarked_14 kC3 (by decide) ff_X1_23 hc3 rfl ?_
      refine J_iload_n (pc := 17) dX1_isMarked_17 rfl rfl ?_
      refine J_bipush (pc := 18) (v := nI 32) dX1_isMarked_18 (by decide) ?_
      refine J_idivN (pc := 20) dX1_isMarked_20 (by omega) (by omega) (by omega) ?_
      obtain ⟨_, hc8, xs8, rfl, hl8⟩ := hS 17 _ rfl
      refine J_iald (pc := 21) dX1_isMarked_21 hc8 (nI_in (by omega) (by omega)) (J_absI fun x9 => ?_)
      refine J_iload_n (pc := 22) dX1_isMarked_22 rfl rfl ?_
      refine J_bipush (pc := 23) (v := nI 32) dX1_isMarked_23 (by decide) ?_
      refine J_iremN (pc := 25) dX1_isMarked_25 (by omega) (by omega) (by omega) ?_
      refine J_callSN0 (pc := 26) (M := mX1_isMarked) (as := [.int x9, .int (nI (k7 % 32))]) dX1_isMarked_26 fw_X6_has fl_X1_32 fs_X6_has rfl (c_X6_has hs (d := d - 1) (by omega) (w := w) x9 (nI (k7 % 32)) (kc := 0) (ks := 0)) (by omega) (st := []) (Nat.le_of_ble_eq_true rfl) rfl (kr_P fun v10 hv10 => ?_) kx_I
      obtain ⟨k10, rfl, hk10⟩ := hv10
      refine J_if_eqN (pc := 29) (tgt := 36) dX1_isMarked_29 (by decide) (by omega) (fun ht11 => ?_) (fun hf12 => ?_)
      · refine J_iconst (pc := 36) (v := nI 0) dX1_isMarked_36 (by decide) ?_
        exact J_zret (pc := 37) dX1_isMarked_37 rfl (nar_b (by omega)) ⟨⟨0, rfl, by omega⟩, rfl⟩
      · refine J_iconst (pc := 32) (v := nI 1) dX1_isMarked_32 (by decide) ?_
        refine J_goto (pc := 33) (tgt := 37) dX1_isMarked_33 (by decide) ?_
        exact J_zret (pc := 37) dX1_isMarked_37 rfl (nar_b (by omega)) ⟨⟨1, rfl, by omega⟩, rfl⟩
set_option maxRecDepth 100000 in
set_option maxHeartbeats 4000000 in
theorem c_X1_thing_at15 {X : jX} (hs : X.1.stackTraces = false) {d : Nat} (hd : 0 ≤ d) {n : Nat} {e r q : Int32} (hn1 : 2 ≤ n) (hn2 : n ≤ 7) {w : List jC} (hS : SH (rX n e r q) w) (a : Int32) {kc ks : Nat} : jMet X mX1_thing d kc ks [.ref 15, .int a] w (pI (fun _ => True) (fun w' => w' = w)) := by
  refine jMet_of hs (by decide +kernel) (Nat.le_of_ble_eq_true rfl) (L := [some (.ref 15), some (.int a)]) rfl ?_
  have hG : Fr kX w w := Fr.rf
  refine J_iload_n (pc := 0) dX1_thing_0 rfl rfl ?_
  refine J_if_lt (pc := 1) (tgt := 13) dX1_thing_1 (by decide) (fun ht1 => ?_) (fun hf2 => ?_)
  · refine J_iconst (pc := 13) (v := nI 0) dX1_thing_13 (by decide) ?_
    refine J_goto (pc := 14) (tgt := 23) dX1_thing_14 (by decide) ?_
    exact J_iret (pc := 23) dX1_thing_23 rfl ⟨trivial, rfl⟩
  · refine J_iload_n (pc := 4) dX1_thing_4 rfl rfl ?_
    refine J_aload_n (pc := 5) dX1_thing_5 rfl rfl rfl ?_
    obtain ⟨_, hc3, ka3, rfl, hb3_0⟩ := hS 15 _ rfl
    refine J_get (pc := 6) (k := 0) dX1_thing_6 kC3 (by decide) ff_X1_19 hc3 rfl ?_
    obtain ⟨_, hc4, xs4, rfl, hl4⟩ := hS 16 _ rfl
    refine J_alen (pc := 9) (n := nI 2187) dX1_thing_9 hc4 (by decide) (by rw [hl4]; rfl) ?_
    refine J_icmp_lt (pc := 10) (tgt := 17) dX1_thing_10 (by decide) (fun ht5 => ?_) (fun hf6 => ?_)
    · refine J_aload_n (pc := 17) dX1_thing_17 rfl rfl rfl ?_
      refine J_get (pc := 18) (k := 0) dX1_thing_18 kC3 (by decide) ff_X1_19 hc3 rfl ?_
      refine J_iload_n (pc := 21) dX1_thing_21 rfl rfl ?_
      obtain ⟨k7, hk7, rfl⟩ := nI_k2 ht5 (by omega) hf2
      refine J_iald (pc := 22) dX1_thing_22 hc4 (nI_in (by omega) (by omega)) (J_absI fun x8 => ?_)
      exact J_iret (pc := 23) dX1_thing_23 rfl ⟨trivial, rfl⟩
    · refine J_iconst (pc := 13) (v := nI 0) dX1_thing_13 (by decide) ?_
      refine J_goto (pc := 14) (tgt := 23) dX1_thing_14 (by decide) ?_
      exact J_iret (pc := 23) dX1_thing_23 rfl ⟨trivial, rfl⟩
set_option maxRecDepth 100000 in
set_option maxHeartbeats 4000000 in
theorem c_X1_length_at15 {X : jX} (hs : X.1.stackTraces = false) {d : Nat} (hd : 0 ≤ d) {n : Nat} {e r q : Int32} (hn1 : 2 ≤ n) (hn2 : n ≤ 7) {w : List jC} (hS : SH (rX n e r q) w) {kc ks : Nat} : jMet X mX1_length d kc ks [.ref 15] w (pI (fun v => ∃ k : Nat, v = nI k ∧ k ≤ 2187) (fun w' => w' = w)) := by
  refine jMet_of hs (by decide +kernel) (Nat.le_of_ble_eq_true rfl) (L := [some (.ref 15)]) rfl ?_
  have hG : Fr kX w w := Fr.rf
  refine J_aload_n (pc := 0) dX1_length_0 rfl rfl rfl ?_
  obtain ⟨_, hc1, ka1, rfl, hb1_0⟩ := hS 15 _ rfl
  refine J_get (pc := 1) (k := 2) dX1_length_1 kC3 (by decide) ff_X1_7 hc1 rfl ?_
  exact J_iret (pc := 4) dX1_length_4 rfl ⟨⟨ka1, rfl, by omega⟩, rfl⟩
set_option maxRecDepth 100000 in
set_option maxHeartbeats 4000000 in
theorem c_X5_length {X : jX} (hs : X.1.stackTraces = false) {d : Nat} (hd : 1 ≤ d) {n : Nat} {e r q : Int32} (hn1 : 2 ≤ n) (hn2 : n ≤ 7) {w : List jC} (hS : SH (rX n e r q) w) {kc ks : Nat} : jMet X mX5_length d kc ks [.ref 8] w (pI (fun v => ∃ k : Nat, v = nI k ∧ k ≤ 5040) (fun w' => w' = w)) := by
  refine jMet_of hs (by decide +kernel) (Nat.le_of_ble_eq_true rfl) (L := [some (.ref 8)]) rfl ?_
  have hG : Fr kX w w := Fr.rf
  refine J_aload_n (pc := 0) dX5_length_0 rfl rfl rfl ?_
  obtain ⟨_, hc1, ka1, rfl, hb1_0⟩ := hS 8 _ rfl
  refine J_get (pc := 1) (k := 0) dX5_length_1 kC6 (by decide) ff_X5_14 hc1 rfl ?_
  obtain ⟨_, hc3, ka3, rfl, hb3_0⟩ := hS 9 _ rfl
  refine J_callV0 (pc := 4) (M := mX5_length) (as := []) dX5_length_4 fw_X1_length fl_X5_49 fm_X1_length fe_X1_length hc3 (by decide) rfl rfl rfl (c_X1_length_at9 hs (d := d - 1) (by omega) (e := e) (r := r) (q := q) hn1 hn2 hS (w := w)  (kc := 0) (ks := 0)) (by omega) (st := []) (Nat.le_of_ble_eq_true rfl) rfl (kr_P fun v2 hv2 => ?_) kx_I
  obtain ⟨k2, rfl, hk2⟩ := hv2
  exact J_iret (pc := 7) dX5_length_7 rfl ⟨⟨k2, rfl, by omega⟩, rfl⟩
set_option maxRecDepth 100000 in
set_option maxHeartbeats 4000000 in
theorem c_X5_meets {X : jX} (hs : X.1.stackTraces = false) {d : Nat} (hd : 1 ≤ d) {n : Nat} {e r q : Int32} (hn1 : 2 ≤ n) (hn2 : n ≤ 7) {w : List jC} (hS : SH (rX n e r q) w) (a : Int32) {kc ks : Nat} : jMet X mX5_meets d kc ks [.ref 8, .int a] w (pI (fun v => ∃ k : Nat, v = nI k ∧ k < 2) (fun w' => w' = w)) := by
  refine jMet_of hs (by decide +kernel) (Nat.le_of_ble_eq_true rfl) (L := [some (.ref 8), some (.int a), none]) rfl ?_
  have hG : Fr kX w w := Fr.rf
  refine J_iconst (pc := 0) (v := nI 0) dX5_meets_0 (by decide) ?_
  refine J_istore_n (pc := 1) dX5_meets_1 rfl (by decide) rfl ?_
  show J X mX5_meets d kc ks 2 [some (.ref 8), some (.int a), some (.int (nI 0))] [] w _
  have lp2_1 : ∀ (fuel : Nat) (c2 : Nat), c2 < 2147483648 → 5040 - c2 < fuel → J X mX5_meets d kc ks 2 [some (.ref 8), some (.int a), some (.int (nI c2))] [] w (pI (fun v => ∃ k : Nat, v = nI k ∧ k < 2) (fun w' => w' = w)) := by
    intro fuellp2_1
    induction fuellp2_1 with
    | zero => intros; omega
    | succ fuellp2_1 ihlp2_1 =>
      intro c2 hi2 hf3
      refine J_iload_n (pc := 2) dX5_meets_2 rfl rfl ?_
      refine J_aload_n (pc := 3) dX5_meets_3 rfl rfl rfl ?_
      obtain ⟨_, hc4, ka4, rfl, hb4_0⟩ := hS 8 _ rfl
      refine J_get (pc := 4) (k := 0) dX5_meets_4 kC6 (by decide) ff_X5_14 hc4 rfl ?_
      obtain ⟨_, hc6, ka6, rfl, hb6_0⟩ := hS 9 _ rfl
      refine J_callV0 (pc := 7) (M := mX5_meets) (as := []) dX5_meets_7 fw_X1_length fl_X5_49 fm_X1_length fe_X1_length hc6 (by decide) rfl rfl rfl (c_X1_length_at9 hs (d := d - 1) (by omega) (e := e) (r := r) (q := q) hn1 hn2 hS (w := w)  (kc := 0) (ks := 0)) (by omega) (st := [.int (nI c2)]) (Nat.le_of_ble_eq_true rfl) rfl (kr_P fun v5 hv5 => ?_) kx_I
      obtain ⟨k5, rfl, hk5⟩ := hv5
      refine J_icmp_geN (pc := 10) (tgt := 33) dX5_meets_10 (by decide) (by omega) (by omega) (fun ht7 => ?_) (fun hf8 => ?_)
      · refine J_iconst (pc := 33) (v := nI 0) dX5_meets_33 (by decide) ?_
        exact J_zret (pc := 34) dX5_meets_34 rfl (nar_b (by omega)) ⟨⟨0, rfl, by omega⟩, rfl⟩
      · refine J_aload_n (pc := 13) dX5_meets_13 rfl rfl rfl ?_
        refine J_get (pc := 14) (k := 0) dX5_meets_14 kC6 (by decide) ff_X5_14 hc4 rfl ?_
        refine J_iload_n (pc := 17) dX5_meets_17 rfl rfl ?_
        refine J_callV0 (pc := 18) (M := mX5_meets) (as := [.int (nI c2)]) dX5_meets_18 fw_X1_thing fl_X5_53 fm_X1_thing fe_X1_thing hc6 (by decide) rfl rfl rfl (c_X1_thing_at9 hs (d := d - 1) (by omega) (e := e) (r := r) (q := q) hn1 hn2 hS (w := w) (nI c2) (kc := 0) (ks := 0)) (by omega) (st := []) (Nat.le_of_ble_eq_true rfl) rfl (kr_P fun v9 hv9 => ?_) kx_I
        refine J_iload_n (pc := 21) dX5_meets_21 rfl rfl ?_
        refine J_icmp_ne (pc := 22) (tgt := 27) dX5_meets_22 (by decide) (fun ht10 => ?_) (fun hf11 => ?_)
        · refine J_iincN (pc := 27) (b := 1) dX5_meets_27 rfl (by decide) (by decide) rfl ?_
          show J X mX5_meets d kc ks 30 [some (.ref 8), some (.int a), some (.int (nI (c2 + 1)))] [] w _
          refine J_goto (pc := 30) (tgt := 2) dX5_meets_30 (by decide) ?_
          exact J_sub (L' := [some (.ref 8), some (.int a), some (.int (nI (c2 + 1)))]) ⟨rfl, ⟨rfl, ⟨rfl, trivial⟩⟩⟩ (ihlp2_1 (c2 + 1) (by first | assumption | omega) (by omega))
        · refine J_iconst (pc := 25) (v := nI 1) dX5_meets_25 (by decide) ?_
          exact J_zret (pc := 26) dX5_meets_26 rfl (nar_b (by omega)) ⟨⟨1, rfl, by omega⟩, rfl⟩
  exact J_sub (L' := [some (.ref 8), some (.int a), some (.int (nI 0))]) ⟨rfl, ⟨rfl, ⟨rfl, trivial⟩⟩⟩ (lp2_1 _ 0 (by first | assumption | omega) (Nat.lt_succ_self _))
set_option maxRecDepth 100000 in
set_option maxHeartbeats 4000000 in
theorem c_X5_howManyOfOrder {X : jX} (hs : X.1.stackTraces = false) {d : Nat} (hd : 2 ≤ d) {n : Nat} {e r q : Int32} (hn1 : 2 ≤ n) (hn2 : n ≤ 7) {w : List jC} (hS : SH (rX n e r q) w) (a : Int32) {kc ks : Nat} : jMet X mX5_howManyOfOrder d kc ks [.ref 8, .int a] w (pI (fun _ => True) (fun w' => w' = w)) := by
  refine jMet_of hs (by decide +kernel) (Nat.le_of_ble_eq_true rfl) (L := [some (.ref 8), some (.int a), none, none]) rfl ?_
  have hG : Fr kX w w := Fr.rf
  refine J_iconst (pc := 0) (v := nI 0) dX5_howManyOfOrder_0 (by decide) ?_
  refine J_istore_n (pc := 1) dX5_howManyOfOrder_1 rfl (by decide) rfl ?_
  show J X mX5_howManyOfOrder d kc ks 2 [some (.ref 8), some (.int a), some (.int (nI 0)), none] [] w _
  refine J_iconst (pc := 2) (v := nI 0) dX5_howManyOfOrder_2 (by decide) ?_
  refine J_istore_n (pc := 3) dX5_howManyOfOrder_3 rfl (by decide) rfl ?_
  show J X mX5_howManyOfOrder d kc ks 4 [some (.ref 8), some (.int a), some (.int (nI 0)), some (.int (nI 0))] [] w _
  have lp4_1 : ∀ (fuel : Nat) (b2 : Nat) (c3 : Nat), c3 < 2147483648 → b2 ≤ c3 → 5040 - c3 < fuel → J X mX5_howManyOfOrder d kc ks 4 [some (.ref 8), some (.int a), some (.int (nI b2)), some (.int (nI c3))] [] w (pI (fun _ => True) (fun w' => w' = w)) := by
    intro fuellp4_1
    induction fuellp4_1 with
    | zero => intros; omega
    | succ fuellp4_1 ihlp4_1 =>
      intro b2 c3 hi2 hi3 hf4
      refine J_iload_n (pc := 4) dX5_howManyOfOrder_4 rfl rfl ?_
      refine J_aload_n (pc := 5) dX5_howManyOfOrder_5 rfl rfl rfl ?_
      obtain ⟨_, hc5, ka5, rfl, hb5_0⟩ := hS 8 _ rfl
      refine J_get (pc := 6) (k := 0) dX5_howManyOfOrder_6 kC6 (by decide) ff_X5_14 hc5 rfl ?_
      obtain ⟨_, hc7, ka7, rfl, hb7_0⟩ := hS 9 _ rfl
      refine J_callV0 (pc := 9) (M := mX5_howManyOfOrder) (as := []) dX5_howManyOfOrder_9 fw_X1_length fl_X5_49 fm_X1_length fe_X1_length hc7 (by decide) rfl rfl rfl (c_X1_length_at9 hs (d := d - 1) (by omega) (e := e) (r := r) (q := q) hn1 hn2 hS (w := w)  (kc := 0) (ks := 0)) (by omega) (st := [.int (nI c3)]) (Nat.le_of_ble_eq_true rfl) rfl (kr_P fun v6 hv6 => ?_) kx_I
      obtain ⟨k6, rfl, hk6⟩ := hv6
      refine J_icmp_geN (pc := 12) (tgt := 39) dX5_howManyOfOrder_12 (by decide) (by omega) (by omega) (fun ht8 => ?_) (fun hf9 => ?_)
      · refine J_iload_n (pc := 39) dX5_howManyOfOrder_39 rfl rfl ?_
        exact J_iret (pc := 40) dX5_howManyOfOrder_40 rfl ⟨trivial, rfl⟩
      · refine J_aload_n (pc := 15) dX5_howManyOfOrder_15 rfl rfl rfl ?_
        refine J_get (pc := 16) (k := 0) dX5_howManyOfOrder_16 kC6 (by decide) ff_X5_14 hc5 rfl ?_
        refine J_iload_n (pc := 19) dX5_howManyOfOrder_19 rfl rfl ?_
        refine J_callV0 (pc := 20) (M := mX5_howManyOfOrder) (as := [.int (nI c3)]) dX5_howManyOfOrder_20 fw_X1_thing fl_X5_53 fm_X1_thing fe_X1_thing hc7 (by decide) rfl rfl rfl (c_X1_thing_at9 hs (d := d - 1) (by omega) (e := e) (r := r) (q := q) hn1 hn2 hS (w := w) (nI c3) (kc := 0) (ks := 0)) (by omega) (st := []) (Nat.le_of_ble_eq_true rfl) rfl (kr_P fun v10 hv10 => ?_) kx_I
        refine J_callS0 (pc := 23) (M := mX5_howManyOfOrder) (as := [.int v10]) dX5_howManyOfOrder_23 fw_X2_orderOf fl_X5_57 fs_X2_orderOf rfl (c_X2_orderOf hs (d := d - 1) (by omega) (w := w) v10 (kc := 0) (ks := 0)) (by omega) (st := []) (Nat.le_of_ble_eq_true rfl) rfl (kr_P fun v11 hv11 => ?_) kx_I
        obtain ⟨k11, rfl, hk11⟩ := hv11
        refine J_iload_n (pc := 26) dX5_howManyOfOrder_26 rfl rfl ?_
        refine J_icmp_ne (pc := 27) (tgt := 33) dX5_howManyOfOrder_27 (by decide) (fun ht12 => ?_) (fun hf13 => ?_)
        · refine J_iincN (pc := 33) (b := 1) dX5_howManyOfOrder_33 rfl (by decide) (by decide) rfl ?_
          show J X mX5_howManyOfOrder d kc ks 36 [some (.ref 8), some (.int a), some (.int (nI b2)), some (.int (nI (c3 + 1)))] [] w _
          refine J_goto (pc := 36) (tgt := 4) dX5_howManyOfOrder_36 (by decide) ?_
          exact J_sub (L' := [some (.ref 8), some (.int a), some (.int (nI b2)), some (.int (nI (c3 + 1)))]) ⟨rfl, ⟨rfl, ⟨rfl, ⟨rfl, trivial⟩⟩⟩⟩ (ihlp4_1 b2 (c3 + 1) (by first | assumption | omega) (by first | assumption | omega) (by omega))
        · refine J_iincN (pc := 30) (b := 1) dX5_howManyOfOrder_30 rfl (by decide) (by decide) rfl ?_
          show J X mX5_howManyOfOrder d kc ks 33 [some (.ref 8), some (.int a), some (.int (nI (b2 + 1))), some (.int (nI c3))] [] w _
          refine J_iincN (pc := 33) (b := 1) dX5_howManyOfOrder_33 rfl (by decide) (by decide) rfl ?_
          show J X mX5_howManyOfOrder d kc ks 36 [some (.ref 8), some (.int a), some (.int (nI (b2 + 1))), some (.int (nI (c3 + 1)))] [] w _
          refine J_goto (pc := 36) (tgt := 4) dX5_howManyOfOrder_36 (by decide) ?_
          exact J_sub (L' := [some (.ref 8), some (.int a), some (.int (nI (b2 + 1))), some (.int (nI (c3 + 1)))]) ⟨rfl, ⟨rfl, ⟨rfl, ⟨rfl, trivial⟩⟩⟩⟩ (ihlp4_1 (b2 + 1) (c3 + 1) (by first | assumption | omega) (by first | assumption | omega) (by omega))
  exact J_sub (L' := [some (.ref 8), some (.int a), some (.int (nI 0)), some (.int (nI 0))]) ⟨rfl, ⟨rfl, ⟨rfl, ⟨rfl, trivial⟩⟩⟩⟩ (lp4_1 _ 0 0 (by first | assumption | omega) (by first | assumption | omega) (Nat.lt_succ_self _))
set_option maxRecDepth 100000 in
set_option maxHeartbeats 4000000 in
theorem c_X5_howManyEven {X : jX} (hs : X.1.stackTraces = false) {d : Nat} (hd : 4 ≤ d) {n : Nat} {e r q : Int32} (hn1 : 2 ≤ n) (hn2 : n ≤ 7) {w : List jC} (hS : SH (rX n e r q) w) {kc ks : Nat} : jMet X mX5_howManyEven d kc ks [.ref 8] w (pI (fun _ => True) (fun w' => w' = w)) := by
  refine jMet_of hs (by decide +kernel) (Nat.le_of_ble_eq_true rfl) (L := [some (.ref 8), none, none]) rfl ?_
  have hG : Fr kX w w := Fr.rf
  refine J_iconst (pc := 0) (v := nI 0) dX5_howManyEven_0 (by decide) ?_
  refine J_istore_n (pc := 1) dX5_howManyEven_1 rfl (by decide) rfl ?_
  show J X mX5_howManyEven d kc ks 2 [some (.ref 8), some (.int (nI 0)), none] [] w _
  refine J_iconst (pc := 2) (v := nI 0) dX5_howManyEven_2 (by decide) ?_
  refine J_istore_n (pc := 3) dX5_howManyEven_3 rfl (by decide) rfl ?_
  show J X mX5_howManyEven d kc ks 4 [some (.ref 8), some (.int (nI 0)), some (.int (nI 0))] [] w _
  have lp4_1 : ∀ (fuel : Nat) (b1 : Nat) (c2 : Nat), c2 < 2147483648 → b1 ≤ c2 → 5040 - c2 < fuel → J X mX5_howManyEven d kc ks 4 [some (.ref 8), some (.int (nI b1)), some (.int (nI c2))] [] w (pI (fun _ => True) (fun w' => w' = w)) := by
    intro fuellp4_1
    induction fuellp4_1 with
    | zero => intros; omega
    | succ fuellp4_1 ihlp4_1 =>
      intro b1 c2 hi2 hi3 hf4
      refine J_iload_n (pc := 4) dX5_howManyEven_4 rfl rfl ?_
      refine J_aload_n (pc := 5) dX5_howManyEven_5 rfl rfl rfl ?_
      obtain ⟨_, hc5, ka5, rfl, hb5_0⟩ := hS 8 _ rfl
      refine J_get (pc := 6) (k := 0) dX5_howManyEven_6 kC6 (by decide) ff_X5_14 hc5 rfl ?_
      obtain ⟨_, hc7, ka7, rfl, hb7_0⟩ := hS 9 _ rfl
      refine J_callV0 (pc := 9) (M := mX5_howManyEven) (as := []) dX5_howManyEven_9 fw_X1_length fl_X5_49 fm_X1_length fe_X1_length hc7 (by decide) rfl rfl rfl (c_X1_length_at9 hs (d := d - 1) (by omega) (e := e) (r := r) (q := q) hn1 hn2 hS (w := w)  (kc := 0) (ks := 0)) (by omega) (st := [.int (nI c2)]) (Nat.le_of_ble_eq_true rfl) rfl (kr_P fun v6 hv6 => ?_) kx_I
      obtain ⟨k6, rfl, hk6⟩ := hv6
      refine J_icmp_geN (pc := 12) (tgt := 43) dX5_howManyEven_12 (by decide) (by omega) (by omega) (fun ht8 => ?_) (fun hf9 => ?_)
      · refine J_iload_n (pc := 43) dX5_howManyEven_43 rfl rfl ?_
        exact J_iret (pc := 44) dX5_howManyEven_44 rfl ⟨trivial, rfl⟩
      · refine J_aload_n (pc := 15) dX5_howManyEven_15 rfl rfl rfl ?_
        refine J_get (pc := 16) (k := 0) dX5_howManyEven_16 kC6 (by decide) ff_X5_14 hc5 rfl ?_
        refine J_iload_n (pc := 19) dX5_howManyEven_19 rfl rfl ?_
        refine J_callV0 (pc := 20) (M := mX5_howManyEven) (as := [.int (nI c2)]) dX5_howManyEven_20 fw_X1_thing fl_X5_53 fm_X1_thing fe_X1_thing hc7 (by decide) rfl rfl rfl (c_X1_thing_at9 hs (d := d - 1) (by omega) (e := e) (r := r) (q := q) hn1 hn2 hS (w := w) (nI c2) (kc := 0) (ks := 0)) (by omega) (st := []) (Nat.le_of_ble_eq_true rfl) rfl (kr_P fun v10 hv10 => ?_) kx_I
        refine J_aload_n (pc := 23) dX5_howManyEven_23 rfl rfl rfl ?_
        refine J_get (pc := 24) (k := 1) dX5_howManyEven_24 kC6 (by decide) ff_X5_20 hc5 rfl ?_
        refine J_callS0 (pc := 27) (M := mX5_howManyEven) (as := [.int v10, .int (nI ka5)]) dX5_howManyEven_27 fw_X2_signOf fl_X5_60 fs_X2_signOf rfl (c_X2_signOf hs (d := d - 1) (by omega) (w := w) v10 ka5 (by omega) (kc := 0) (ks := 0)) (by omega) (st := []) (Nat.le_of_ble_eq_true rfl) rfl (kr_P fun v11 hv11 => ?_) kx_I
        refine J_iconst (pc := 30) (v := nI 1) dX5_howManyEven_30 (by decide) ?_
        refine J_icmp_ne (pc := 31) (tgt := 37) dX5_howManyEven_31 (by decide) (fun ht12 => ?_) (fun hf13 => ?_)
        · refine J_iincN (pc := 37) (b := 1) dX5_howManyEven_37 rfl (by decide) (by decide) rfl ?_
          show J X mX5_howManyEven d kc ks 40 [some (.ref 8), some (.int (nI b1)), some (.int (nI (c2 + 1)))] [] w _
          refine J_goto (pc := 40) (tgt := 4) dX5_howManyEven_40 (by decide) ?_
          exact J_sub (L' := [some (.ref 8), some (.int (nI b1)), some (.int (nI (c2 + 1)))]) ⟨rfl, ⟨rfl, ⟨rfl, trivial⟩⟩⟩ (ihlp4_1 b1 (c2 + 1) (by first | assumption | omega) (by first | assumption | omega) (by omega))
        · refine J_iincN (pc := 34) (b := 1) dX5_howManyEven_34 rfl (by decide) (by decide) rfl ?_
          show J X mX5_howManyEven d kc ks 37 [some (.ref 8), some (.int (nI (b1 + 1))), some (.int (nI c2))] [] w _
          refine J_iincN (pc := 37) (b := 1) dX5_howManyEven_37 rfl (by decide) (by decide) rfl ?_
          show J X mX5_howManyEven d kc ks 40 [some (.ref 8), some (.int (nI (b1 + 1))), some (.int (nI (c2 + 1)))] [] w _
          refine J_goto (pc := 40) (tgt := 4) dX5_howManyEven_40 (by decide) ?_
          exact J_sub (L' := [some (.ref 8), some (.int (nI (b1 + 1))), some (.int (nI (c2 + 1)))]) ⟨rfl, ⟨rfl, ⟨rfl, trivial⟩⟩⟩ (ihlp4_1 (b1 + 1) (c2 + 1) (by first | assumption | omega) (by first | assumption | omega) (by omega))
  exact J_sub (L' := [some (.ref 8), some (.int (nI 0)), some (.int (nI 0))]) ⟨rfl, ⟨rfl, ⟨rfl, trivial⟩⟩⟩ (lp4_1 _ 0 0 (by first | assumption | omega) (by first | assumption | omega) (Nat.lt_succ_self _))
set_option maxRecDepth 100000 in
set_option maxHeartbeats 4000000 in
theorem c_X5_colouringsByMean {X : jX} (hs : X.1.stackTraces = false) {d : Nat} (hd : 3 ≤ d) {n : Nat} {e r q : Int32} (hn1 : 2 ≤ n) (hn2 : n ≤ 7) {w : List jC} (hS : SH (rX n e r q) w) (a : Int32) {kc ks : Nat} : jMet X mX5_colouringsByMean d kc ks [.ref 8, .int a] w (pI (fun _ => True) (fun w' => w' = w)) := by
  refine jMet_of hs (by decide +kernel) (Nat.le_of_ble_eq_true rfl) (L := [some (.ref 8), some (.int a), none, none, none, none]) rfl ?_
  have hG : Fr kX w w := Fr.rf
  refine J_iconst (pc := 0) (v := nI 0) dX5_colouringsByMean_0 (by decide) ?_
  refine J_istore_n (pc := 1) dX5_colouringsByMean_1 rfl (by decide) rfl ?_
  show J X mX5_colouringsByMean d kc ks 2 [some (.ref 8), some (.int a), some (.int (nI 0)), none, none, none] [] w _
  refine J_iconst (pc := 2) (v := nI 0) dX5_colouringsByMean_2 (by decide) ?_
  refine J_istore_n (pc := 3) dX5_colouringsByMean_3 rfl (by decide) rfl ?_
  show J X mX5_colouringsByMean d kc ks 4 [some (.ref 8), some (.int a), some (.int (nI 0)), some (.int (nI 0)), none, none] [] w _
  have lp4_1 : ∀ (fuel : Nat) (z2 : Int32) (c3 : Nat), c3 < 2147483648 → 5040 - c3 < fuel → J X mX5_colouringsByMean d kc ks 4 [some (.ref 8), some (.int a), some (.int z2), some (.int (nI c3)), none, none] [] w (pI (fun _ => True) (fun w' => w' = w)) := by
    intro fuellp4_1
    induction fuellp4_1 with
    | zero => intros; omega
    | succ fuellp4_1 ihlp4_1 =>
      intro z2 c3 hi2 hf3
      refine J_iload_n (pc := 4) dX5_colouringsByMean_4 rfl rfl ?_
      refine J_aload_n (pc := 5) dX5_colouringsByMean_5 rfl rfl rfl ?_
      obtain ⟨_, hc4, ka4, rfl, hb4_0⟩ := hS 8 _ rfl
      refine J_get (pc := 6) (k := 0) dX5_colouringsByMean_6 kC6 (by decide) ff_X5_14 hc4 rfl ?_
      obtain ⟨_, hc6, ka6, rfl, hb6_0⟩ := hS 9 _ rfl
      refine J_callV0 (pc := 9) (M := mX5_colouringsByMean) (as := []) dX5_colouringsByMean_9 fw_X1_length fl_X5_49 fm_X1_length fe_X1_length hc6 (by decide) rfl rfl rfl (c_X1_length_at9 hs (d := d - 1) (by omega) (e := e) (r := r) (q := q) hn1 hn2 hS (w := w)  (kc := 0) (ks := 0)) (by omega) (st := [.int (nI c3)]) (Nat.le_of_ble_eq_true rfl) rfl (kr_P fun v5 hv5 => ?_) kx_I
      obtain ⟨k5, rfl, hk5⟩ := hv5
      refine J_icmp_geN (pc := 12) (tgt := 63) dX5_colouringsByMean_12 (by decide) (by omega) (by omega) (fun ht7 => ?_) (fun hf8 => ?_)
      · refine J_iload_n (pc := 63) dX5_colouringsByMean_63 rfl rfl ?_
        refine J_aload_n (pc := 64) dX5_colouringsByMean_64 rfl rfl rfl ?_
        refine J_get (pc := 65) (k := 0) dX5_colouringsByMean_65 kC6 (by decide) ff_X5_14 hc4 rfl ?_
        refine J_callV0 (pc := 68) (M := mX5_colouringsByMean) (as := []) dX5_colouringsByMean_68 fw_X1_length fl_X5_49 fm_X1_length fe_X1_length hc6 (by decide) rfl rfl rfl (c_X1_length_at9 hs (d := d - 1) (by omega) (e := e) (r := r) (q := q) hn1 hn2 hS (w := w)  (kc := 0) (ks := 0)) (by omega) (st := [.int z2]) (Nat.le_of_ble_eq_true rfl) rfl (kr_P fun v9 hv9 => ?_) kx_I
        obtain ⟨k9, rfl, hk9⟩ := hv9
        refine J_callSN0 (pc := 71) (M := mX5_colouringsByMean) (as := [.int z2, .int (nI k9)]) dX5_colouringsByMean_71 fw_X6_quotient fl_X5_66 fs_X6_quotient rfl (c_X6_quotient hs (d := d - 1) (by omega) (w := w) z2 (nI k9) (kc := 0) (ks := 0)) (by omega) (st := []) (Nat.le_of_ble_eq_true rfl) rfl (kr_P fun v10 hv10 => ?_) kx_I
        exact J_iret (pc := 74) dX5_colouringsByMean_74 rfl ⟨trivial, rfl⟩
      · refine J_iconst (pc := 15) (v := nI 1) dX5_colouringsByMean_15 (by decide) ?_
        refine J_istore (pc := 16) dX5_colouringsByMean_16 (by decide) rfl ?_
        show J X mX5_colouringsByMean d kc ks 18 [some (.ref 8), some (.int a), some (.int z2), some (.int (nI c3)), some (.int (nI 1)), none] [] w _
        refine J_aload_n (pc := 18) dX5_colouringsByMean_18 rfl rfl rfl ?_
        refine J_get (pc := 19) (k := 0) dX5_colouringsByMean_19 kC6 (by decide) ff_X5_14 hc4 rfl ?_
        refine J_iload_n (pc := 22) dX5_colouringsByMean_22 rfl rfl ?_
        refine J_callV0 (pc := 23) (M := mX5_colouringsByMean) (as := [.int (nI c3)]) dX5_colouringsByMean_23 fw_X1_thing fl_X5_53 fm_X1_thing fe_X1_thing hc6 (by decide) rfl rfl rfl (c_X1_thing_at9 hs (d := d - 1) (by omega) (e := e) (r := r) (q := q) hn1 hn2 hS (w := w) (nI c3) (kc := 0) (ks := 0)) (by omega) (st := []) (Nat.le_of_ble_eq_true rfl) rfl (kr_P fun v11 hv11 => ?_) kx_I
        refine J_aload_n (pc := 26) dX5_colouringsByMean_26 rfl rfl rfl ?_
        refine J_get (pc := 27) (k := 1) dX5_colouringsByMean_27 kC6 (by decide) ff_X5_20 hc4 rfl ?_
        refine J_callS0 (pc := 30) (M := mX5_colouringsByMean) (as := [.int v11, .int (nI ka4)]) dX5_colouringsByMean_30 fw_X2_howManyRings fl_X5_63 fs_X2_howManyRings rfl (c_X2_howManyRings hs (d := d - 1) (by omega) (w := w) v11 ka4 (by omega) (kc := 0) (ks := 0)) (by omega) (st := []) (Nat.le_of_ble_eq_true rfl) rfl (kr_P fun v12 hv12 => ?_) kx_I
        obtain ⟨k12, rfl, hk12⟩ := hv12
        refine J_istore (pc := 33) dX5_colouringsByMean_33 (by decide) rfl ?_
        show J X mX5_colouringsByMean d kc ks 35 [some (.ref 8), some (.int a), some (.int z2), some (.int (nI c3)), some (.int (nI 1)), some (.int (nI k12))] [] w _
        have lp35_13 : ∀ (fuel : Nat) (z4 : Int32) (c5 : Nat), c5 < 2147483648 → c5 < fuel → J X mX5_colouringsByMean d kc ks 35 [some (.ref 8), some (.int a), some (.int z2), some (.int (nI c3)), some (.int z4), some (.int (nI c5))] [] w (pI (fun _ => True) (fun w' => w' = w)) := by
          intro fuellp35_13
          induction fuellp35_13 with
          | zero => intros; omega
          | succ fuellp35_13 ihlp35_13 =>
            intro z4 c5 hi14 hf15
            refine J_iload (pc := 35) dX5_colouringsByMean_35 rfl ?_
            refine J_if_leN (pc := 37) (tgt := 52) dX5_colouringsByMean_37 (by decide) (by omega) (fun ht16 => ?_) (fun hf17 => ?_)
            · refine J_iload_n (pc := 52) dX5_colouringsByMean_52 rfl rfl ?_
              refine J_iload (pc := 53) dX5_colouringsByMean_53 rfl ?_
              refine J_iadd (pc := 55) dX5_colouringsByMean_55 (J_absI fun x18 => ?_)
              refine J_istore_n (pc := 56) dX5_colouringsByMean_56 rfl (by decide) rfl ?_
              show J X mX5_colouringsByMean d kc ks 57 [some (.ref 8), some (.int a), some (.int x18), some (.int (nI c3)), some (.int z4), some (.int (nI c5))] [] w _
              refine J_iincN (pc := 57) (b := 1) dX5_colouringsByMean_57 rfl (by decide) (by decide) rfl ?_
              show J X mX5_colouringsByMean d kc ks 60 [some (.ref 8), some (.int a), some (.int x18), some (.int (nI (c3 + 1))), some (.int z4), some (.int (nI c5))] [] w _
              refine J_goto (pc := 60) (tgt := 4) dX5_colouringsByMean_60 (by decide) ?_
              exact J_sub (L' := [some (.ref 8), some (.int a), some (.int x18), some (.int (nI (c3 + 1))), none, none]) ⟨rfl, ⟨rfl, ⟨rfl, ⟨rfl, trivial⟩⟩⟩⟩ (ihlp4_1 x18 (c3 + 1) (by first | assumption | omega) (by omega))
            · refine J_iload (pc := 40) dX5_colouringsByMean_40 rfl ?_
              refine J_iload_n (pc := 42) dX5_colouringsByMean_42 rfl rfl ?_
              refine J_imul (pc := 43) dX5_colouringsByMean_43 (J_absI fun x19 => ?_)
              refine J_istore (pc := 44) dX5_colouringsByMean_44 (by decide) rfl ?_
              show J X mX5_colouringsByMean d kc ks 46 [some (.ref 8), some (.int a), some (.int z2), some (.int (nI c3)), some (.int x19), some (.int (nI c5))] [] w _
              refine J_iincM (pc := 46) dX5_colouringsByMean_46 rfl (by omega) (by decide) rfl ?_
              show J X mX5_colouringsByMean d kc ks 49 [some (.ref 8), some (.int a), some (.int z2), some (.int (nI c3)), some (.int x19), some (.int (nI (c5 - 1)))] [] w _
              refine J_goto (pc := 49) (tgt := 35) dX5_colouringsByMean_49 (by decide) ?_
              exact J_sub (L' := [some (.ref 8), some (.int a), some (.int z2), some (.int (nI c3)), some (.int x19), some (.int (nI (c5 - 1)))]) ⟨rfl, ⟨rfl, ⟨rfl, ⟨rfl, ⟨rfl, ⟨rfl, trivial⟩⟩⟩⟩⟩⟩ (ihlp35_13 x19 (c5 - 1) (by first | assumption | omega) (by omega))
        exact J_sub (L' := [some (.ref 8), some (.int a), some (.int z2), some (.int (nI c3)), some (.int (nI 1)), some (.int (nI k12))]) ⟨rfl, ⟨rfl, ⟨rfl, ⟨rfl, ⟨rfl, ⟨rfl, trivial⟩⟩⟩⟩⟩⟩ (lp35_13 _ (nI 1) k12 (by first | assumption | omega) (Nat.lt_succ_self _))
  exact J_sub (L' := [some (.ref 8), some (.int a), some (.int (nI 0)), some (.int (nI 0)), none, none]) ⟨rfl, ⟨rfl, ⟨rfl, ⟨rfl, trivial⟩⟩⟩⟩ (lp4_1 _ (nI 0) 0 (by first | assumption | omega) (Nat.lt_succ_self _))
set_option maxRecDepth 100000 in
set_option maxHeartbeats 4000000 in
theorem c_X5_spread {X : jX} (hs : X.1.stackTraces = false) {d : Nat} (hd : 3 ≤ d) {n : Nat} {e r q : Int32} (hn1 : 2 ≤ n) (hn2 : n ≤ 7) {w : List jC} (hS : SH (rX n e r q) w) (a : Int32) {kc ks : Nat} : jMet X mX5_spread d kc ks [.ref 8, .ref 1, .int a] w (pV (fun w' => rS n e r q w w')) := by
  refine jMet_of hs (by decide +kernel) (Nat.le_of_ble_eq_true rfl) (L := [some (.ref 8), some (.ref 1), some (.int a), none, none, none]) rfl ?_
  have hG : Fr kX w w := Fr.rf
  refine J_iconst (pc := 0) (v := nI 0) dX5_spread_0 (by decide) ?_
  refine J_istore_n (pc := 1) dX5_spread_1 rfl (by decide) rfl ?_
  show J X mX5_spread d kc ks 2 [some (.ref 8), some (.ref 1), some (.int a), some (.int (nI 0)), none, none] [] w _
  have lp2_1 : ∀ (fuel : Nat) (w2 : List jC) (c3 : Nat), SH (rX n e r q) w2 → Fr kX w w2 → c3 < 2147483648 → 5040 - c3 < fuel → J X mX5_spread d kc ks 2 [some (.ref 8), some (.ref 1), some (.int a), some (.int (nI c3)), none, none] [] w2 (pV (fun w' => rS n e r q w w')) := by
    intro fuellp2_1
    induction fuellp2_1 with
    | zero => intros; omega
    | succ fuellp2_1 ihlp2_1 =>
      intro w2 c3 hS3 hG4 hi5 hf6
      refine J_iload_n (pc := 2) dX5_spread_2 rfl rfl ?_
      refine J_sipush (pc := 3) (v := nI 5040) dX5_spread_3 (by decide) ?_
      refine J_icmp_geN (pc := 6) (tgt := 87) dX5_spread_6 (by decide) (by omega) (by omega) (fun ht7 => ?_) (fun hf8 => ?_)
      · exact J_vret (pc := 87) dX5_spread_87 rfl (⟨hS3, hG4⟩)
      · refine J_iload_n (pc := 9) dX5_spread_9 rfl rfl ?_
        refine J_aload_n (pc := 10) dX5_spread_10 rfl rfl rfl ?_
        obtain ⟨_, hc9, ka9, rfl, hb9_0⟩ := hS3 8 _ rfl
        refine J_get (pc := 11) (k := 0) dX5_spread_11 kC6 (by decide) ff_X5_14 hc9 rfl ?_
        obtain ⟨_, hc11, ka11, rfl, hb11_0⟩ := hS3 9 _ rfl
        refine J_callV0 (pc := 14) (M := mX5_spread) (as := []) dX5_spread_14 fw_X1_length fl_X5_49 fm_X1_length fe_X1_length hc11 (by decide) rfl rfl rfl (c_X1_length_at9 hs (d := d - 1) (by omega) (e := e) (r := r) (q := q) hn1 hn2 hS3 (w := w2)  (kc := 0) (ks := 0)) (by omega) (st := [.int (nI c3)]) (Nat.le_of_ble_eq_true rfl) rfl (kr_P fun v10 hv10 => ?_) kx_I
        obtain ⟨k10, rfl, hk10⟩ := hv10
        refine J_icmp_geN (pc := 17) (tgt := 87) dX5_spread_17 (by decide) (by omega) (by omega) (fun ht12 => ?_) (fun hf13 => ?_)
        · exact J_vret (pc := 87) dX5_spread_87 rfl (⟨hS3, hG4⟩)
        · refine J_iconst (pc := 20) (v := nI 0) dX5_spread_20 (by decide) ?_
          refine J_istore (pc := 21) dX5_spread_21 (by decide) rfl ?_
          show J X mX5_spread d kc ks 23 [some (.ref 8), some (.ref 1), some (.int a), some (.int (nI c3)), some (.int (nI 0)), none] [] w2 _
          have lp23_14 : ∀ (fuel : Nat) (w15 : List jC) (c4 : Nat), SH (rX n e r q) w15 → Fr kX w w15 → c4 < 2147483648 → 6 - c4 < fuel → J X mX5_spread d kc ks 23 [some (.ref 8), some (.ref 1), some (.int a), some (.int (nI c3)), some (.int (nI c4)), none] [] w15 (pV (fun w' => rS n e r q w w')) := by
            intro fuellp23_14
            induction fuellp23_14 with
            | zero => intros; omega
            | succ fuellp23_14 ihlp23_14 =>
              intro w15 c4 hS16 hG17 hi18 hf19
              refine J_iload (pc := 23) dX5_spread_23 rfl ?_
              refine J_aload_n (pc := 25) dX5_spread_25 rfl rfl rfl ?_
              obtain ⟨_, hc20, xs20, rfl, hl20⟩ := hS16 1 _ rfl
              refine J_alen (pc := 26) (n := nI 6) dX5_spread_26 hc20 (by decide) (by rw [hl20]; rfl) ?_
              refine J_icmp_geN (pc := 27) (tgt := 81) dX5_spread_27 (by decide) (by omega) (by omega) (fun ht21 => ?_) (fun hf22 => ?_)
              · refine J_iincN (pc := 81) (b := 1) dX5_spread_81 rfl (by decide) (by decide) rfl ?_
                show J X mX5_spread d kc ks 84 [some (.ref 8), some (.ref 1), some (.int a), some (.int (nI (c3 + 1))), some (.int (nI c4)), none] [] w15 _
                refine J_goto (pc := 84) (tgt := 2) dX5_spread_84 (by decide) ?_
                exact J_sub (L' := [some (.ref 8), some (.ref 1), some (.int a), some (.int (nI (c3 + 1))), none, none]) ⟨rfl, ⟨rfl, ⟨rfl, ⟨rfl, trivial⟩⟩⟩⟩ (ihlp2_1 w15 (c3 + 1) hS16 hG17 (by first | assumption | omega) (by omega))
              · refine J_iload_n (pc := 30) dX5_spread_30 rfl rfl ?_
                refine J_iload (pc := 31) dX5_spread_31 rfl ?_
                refine J_callSN0 (pc := 33) (M := mX5_spread) (as := [.int a, .int (nI c4)]) dX5_spread_33 fw_X6_has fl_X5_38 fs_X6_has rfl (c_X6_has hs (d := d - 1) (by omega) (w := w15) a (nI c4) (kc := 0) (ks := 0)) (by omega) (st := []) (Nat.le_of_ble_eq_true rfl) rfl (kr_P fun v23 hv23 => ?_) kx_I
                obtain ⟨k23, rfl, hk23⟩ := hv23
                refine J_if_eqN (pc := 36) (tgt := 75) dX5_spread_36 (by decide) (by omega) (fun ht24 => ?_) (fun hf25 => ?_)
                · refine J_iincN (pc := 75) (b := 1) dX5_spread_75 rfl (by decide) (by decide) rfl ?_
                  show J X mX5_spread d kc ks 78 [some (.ref 8), some (.ref 1), some (.int a), some (.int (nI c3)), some (.int (nI (c4 + 1))), none] [] w15 _
                  refine J_goto (pc := 78) (tgt := 23) dX5_spread_78 (by decide) ?_
                  exact J_sub (L' := [some (.ref 8), some (.ref 1), some (.int a), some (.int (nI c3)), some (.int (nI (c4 + 1))), none]) ⟨rfl, ⟨rfl, ⟨rfl, ⟨rfl, ⟨rfl, trivial⟩⟩⟩⟩⟩ (ihlp23_14 w15 (c4 + 1) hS16 hG17 (by first | assumption | omega) (by omega))
                · refine J_aload_n (pc := 39) dX5_spread_39 rfl rfl rfl ?_
                  obtain ⟨_, hc26, ka26, rfl, hb26_0⟩ := hS16 8 _ rfl
                  refine J_get (pc := 40) (k := 0) dX5_spread_40 kC6 (by decide) ff_X5_14 hc26 rfl ?_
                  refine J_iload_n (pc := 43) dX5_spread_43 rfl rfl ?_
                  obtain ⟨_, hc28, ka28, rfl, hb28_0⟩ := hS16 9 _ rfl
                  refine J_callV0 (pc := 44) (M := mX5_spread) (as := [.int (nI c3)]) dX5_spread_44 fw_X1_thing fl_X5_53 fm_X1_thing fe_X1_thing hc28 (by decide) rfl rfl rfl (c_X1_thing_at9 hs (d := d - 1) (by omega) (e := e) (r := r) (q := q) hn1 hn2 hS16 (w := w15) (nI c3) (kc := 0) (ks := 0)) (by omega) (st := []) (Nat.le_of_ble_eq_true rfl) rfl (kr_P fun v27 hv27 => ?_) kx_I
                  refine J_aload_n (pc := 47) dX5_spread_47 rfl rfl rfl ?_
                  refine J_iload (pc := 48) dX5_spread_48 rfl ?_
                  refine J_iald (pc := 50) dX5_spread_50 hc20 (nI_in (by omega) (by omega)) (J_absI fun x29 => ?_)
                  refine J_callS0 (pc := 51) (M := mX5_spread) (as := [.int v27, .int x29]) dX5_spread_51 fw_X2_both fl_X5_69 fs_X2_both rfl (c_X2_both hs (d := d - 1) (by omega) (w := w15) v27 x29 (kc := 0) (ks := 0)) (by omega) (st := []) (Nat.le_of_ble_eq_true rfl) rfl (kr_P fun v30 hv30 => ?_) kx_I
                  refine J_istore (pc := 54) dX5_spread_54 (by decide) rfl ?_
                  show J X mX5_spread d kc ks 56 [some (.ref 8), some (.ref 1), some (.int a), some (.int (nI c3)), some (.int (nI c4)), some (.int v30)] [] w15 _
                  refine J_aload_n (pc := 56) dX5_spread_56 rfl rfl rfl ?_
                  refine J_get (pc := 57) (k := 0) dX5_spread_57 kC6 (by decide) ff_X5_14 hc26 rfl ?_
                  refine J_iload (pc := 60) dX5_spread_60 rfl ?_
                  refine J_iload (pc := 62) dX5_spread_62 rfl ?_
                  refine J_aload_n (pc := 64) dX5_spread_64 rfl rfl rfl ?_
                  refine J_get (pc := 65) (k := 1) dX5_spread_65 kC6 (by decide) ff_X5_20 hc26 rfl ?_
                  refine J_callS0 (pc := 68) (M := mX5_spread) (as := [.int v30, .int (nI ka26)]) dX5_spread_68 fw_X2_numberOf fl_X5_30 fs_X2_numberOf rfl (c_X2_numberOf hs (d := d - 1) (by omega) (w := w15) v30 ka26 (by omega) (kc := 0) (ks := 0)) (by omega) (st := [.int v30, .ref 9]) (Nat.le_of_ble_eq_true rfl) rfl (kr_P fun v31 hv31 => ?_) kx_I
                  refine J_callV0 (pc := 71) (M := mX5_spread) (as := [.int v30, .int v31]) dX5_spread_71 fw_X1_add fl_X5_34 fm_X1_add fe_X1_add hc28 (by decide) rfl rfl rfl (c_X1_add_at9 hs (d := d - 1) (by omega) (e := e) (r := r) (q := q) hn1 hn2 hS16 (w := w15) v30 v31 (kc := 0) (ks := 0)) (by omega) (st := []) (Nat.le_of_ble_eq_true rfl) rfl (kr_I fun v32 w32 hv32 hw32 => ?_) kx_I
                  obtain ⟨k32, rfl, hk32⟩ := hv32
                  obtain ⟨hS32, hF32⟩ := hw32
                  have hG32 := hG17.tr hF32
                  refine J_pop (pc := 74) dX5_spread_74 rfl ?_
                  refine J_iincN (pc := 75) (b := 1) dX5_spread_75 rfl (by decide) (by decide) rfl ?_
                  show J X mX5_spread d kc ks 78 [some (.ref 8), some (.ref 1), some (.int a), some (.int (nI c3)), some (.int (nI (c4 + 1))), some (.int v30)] [] w32 _
                  refine J_goto (pc := 78) (tgt := 23) dX5_spread_78 (by decide) ?_
                  exact J_sub (L' := [some (.ref 8), some (.ref 1), some (.int a), some (.int (nI c3)), some (.int (nI (c4 + 1))), none]) ⟨rfl, ⟨rfl, ⟨rfl, ⟨rfl, ⟨rfl, trivial⟩⟩⟩⟩⟩ (ihlp23_14 w32 (c4 + 1) hS32 hG32 (by first | assumption | omega) (by omega))
          exact J_sub (L' := [some (.ref 8), some (.ref 1), some (.int a), some (.int (nI c3)), some (.int (nI 0)), none]) ⟨rfl, ⟨rfl, ⟨rfl, ⟨rfl, ⟨rfl, trivial⟩⟩⟩⟩⟩ (lp23_14 _ w2 0 hS3 hG4 (by first | assumption | omega) (Nat.lt_succ_self _))
  exact J_sub (L' := [some (.ref 8), some (.ref 1), some (.int a), some (.int (nI 0)), none, none]) ⟨rfl, ⟨rfl, ⟨rfl, ⟨rfl, trivial⟩⟩⟩⟩ (lp2_1 _ w 0 hS hG (by first | assumption | omega) (Nat.lt_succ_self _))
set_option maxRecDepth 100000 in
set_option maxHeartbeats 4000000 in
theorem c_X5_goThrough {X : jX} (hs : X.1.stackTraces = false) {d : Nat} (hd : 4 ≤ d) {n : Nat} {e r q : Int32} (hn1 : 2 ≤ n) (hn2 : n ≤ 7) {w : List jC} (hS : SH (rX n e r q) w) (a : Int32) {kc ks : Nat} : jMet X mX5_goThrough d kc ks [.ref 8, .ref 1, .int a, .int (nI n)] w (pV (fun w' => rS n e r q w w')) := by
  refine jMet_of hs (by decide +kernel) (Nat.le_of_ble_eq_true rfl) (L := [some (.ref 8), some (.ref 1), some (.int a), some (.int (nI n)), none, none]) rfl ?_
  have hG : Fr kX w w := Fr.rf
  refine J_aload_n (pc := 0) dX5_goThrough_0 rfl rfl rfl ?_
  refine J_iload_n (pc := 1) dX5_goThrough_1 rfl rfl ?_
  obtain ⟨_, hc1, ka1, rfl, hb1_0⟩ := hS 8 _ rfl
  refine J_putS (pc := 2) (k := 1) kX dX5_goThrough_2 kC6 (by decide) ff_X5_20 (Or.inl rfl) ⟨rfl, rfl⟩ hS hc1 (Nat.le_of_ble_eq_true rfl) rfl ⟨n, rfl, (by omega)⟩ (by decide) (fun w2 hS2 hc2 hne2 hF2 => ?_)
  have hG2 := hG.tr hF2
  refine J_aload_n (pc := 5) dX5_goThrough_5 rfl rfl rfl ?_
  refine J_get (pc := 6) (k := 0) dX5_goThrough_6 kC6 (by decide) ff_X5_14 hc2 rfl ?_
  obtain ⟨_, hc4, ka4, rfl, hb4_0⟩ := hS2 9 _ rfl
  refine J_callV0 (pc := 9) (M := mX5_goThrough) (as := []) dX5_goThrough_9 fw_X1_clear fl_X5_24 fm_X1_clear fe_X1_clear hc4 (by decide) rfl rfl rfl (c_X1_clear_at9 hs (d := d - 1) (by omega) (e := e) (r := r) (q := q) hn1 hn2 hS2 (w := w2)  (kc := 0) (ks := 0)) (by omega) (st := []) (Nat.le_of_ble_eq_true rfl) rfl (kr_V fun w3 hw3 => ?_) kx_V
  obtain ⟨hS3, hF3⟩ := hw3
  have hG3 := hG2.tr hF3
  refine J_aload_n (pc := 12) dX5_goThrough_12 rfl rfl rfl ?_
  obtain ⟨_, hc5, ka5, rfl, hb5_0⟩ := hS3 8 _ rfl
  refine J_get (pc := 13) (k := 0) dX5_goThrough_13 kC6 (by decide) ff_X5_14 hc5 rfl ?_
  refine J_ldc (pc := 16) (v := nI 1754760) dX5_goThrough_16 (by have := fk_X5_29; exact this) ?_
  refine J_ldc (pc := 18) (v := nI 1754760) dX5_goThrough_18 (by have := fk_X5_29; exact this) ?_
  refine J_aload_n (pc := 20) dX5_goThrough_20 rfl rfl rfl ?_
  refine J_get (pc := 21) (k := 1) dX5_goThrough_21 kC6 (by decide) ff_X5_20 hc5 rfl ?_
  refine J_callS0 (pc := 24) (M := mX5_goThrough) (as := [.int (nI 1754760), .int (nI ka5)]) dX5_goThrough_24 fw_X2_numberOf fl_X5_30 fs_X2_numberOf rfl (c_X2_numberOf hs (d := d - 1) (by omega) (w := w3) (nI 1754760) ka5 (by omega) (kc := 0) (ks := 0)) (by omega) (st := [.int (nI 1754760), .ref 9]) (Nat.le_of_ble_eq_true rfl) rfl (kr_P fun v6 hv6 => ?_) kx_I
  obtain ⟨_, hc8, ka8, rfl, hb8_0⟩ := hS3 9 _ rfl
  refine J_callV0 (pc := 27) (M := mX5_goThrough) (as := [.int (nI 1754760), .int v6]) dX5_goThrough_27 fw_X1_add fl_X5_34 fm_X1_add fe_X1_add hc8 (by decide) rfl rfl rfl (c_X1_add_at9 hs (d := d - 1) (by omega) (e := e) (r := r) (q := q) hn1 hn2 hS3 (w := w3) (nI 1754760) v6 (kc := 0) (ks := 0)) (by omega) (st := []) (Nat.le_of_ble_eq_true rfl) rfl (kr_I fun v7 w7 hv7 hw7 => ?_) kx_I
  obtain ⟨k7, rfl, hk7⟩ := hv7
  obtain ⟨hS7, hF7⟩ := hw7
  have hG7 := hG3.tr hF7
  refine J_pop (pc := 30) dX5_goThrough_30 rfl ?_
  refine J_iconst (pc := 31) (v := nI 0) dX5_goThrough_31 (by decide) ?_
  refine J_istore (pc := 32) dX5_goThrough_32 (by decide) rfl ?_
  show J X mX5_goThrough d kc ks 34 [some (.ref 8), some (.ref 1), some (.int a), some (.int (nI n)), some (.int (nI 0)), none] [] w7 _
  refine J_iconst (pc := 34) (v := nI 0) dX5_goThrough_34 (by decide) ?_
  refine J_istore (pc := 35) dX5_goThrough_35 (by decide) rfl ?_
  show J X mX5_goThrough d kc ks 37 [some (.ref 8), some (.ref 1), some (.int a), some (.int (nI n)), some (.int (nI 0)), some (.int (nI 0))] [] w7 _
  have lp37_9 : ∀ (fuel : Nat) (w10 : List jC) (z4 : Int32) (c5 : Nat), SH (rX n e r q) w10 → Fr kX w w10 → c5 < 2147483648 → 6 - c5 < fuel → J X mX5_goThrough d kc ks 37 [some (.ref 8), some (.ref 1), some (.int a), some (.int (nI n)), some (.int z4), some (.int (nI c5))] [] w10 (pV (fun w' => rS n e r q w w')) := by
    intro fuellp37_9
    induction fuellp37_9 with
    | zero => intros; omega
    | succ fuellp37_9 ihlp37_9 =>
      intro w10 z4 c5 hS11 hG12 hi13 hf14
      refine J_iload (pc := 37) dX5_goThrough_37 rfl ?_
      refine J_aload_n (pc := 39) dX5_goThrough_39 rfl rfl rfl ?_
      obtain ⟨_, hc15, xs15, rfl, hl15⟩ := hS11 1 _ rfl
      refine J_alen (pc := 40) (n := nI 6) dX5_goThrough_40 hc15 (by decide) (by rw [hl15]; rfl) ?_
      refine J_icmp_geN (pc := 41) (tgt := 96) dX5_goThrough_41 (by decide) (by omega) (by omega) (fun ht16 => ?_) (fun hf17 => ?_)
      · exact J_vret (pc := 96) dX5_goThrough_96 rfl (⟨hS11, hG12⟩)
      · refine J_iload_n (pc := 44) dX5_goThrough_44 rfl rfl ?_
        refine J_iload (pc := 45) dX5_goThrough_45 rfl ?_
        refine J_callSN0 (pc := 47) (M := mX5_goThrough) (as := [.int a, .int (nI c5)]) dX5_goThrough_47 fw_X6_has fl_X5_38 fs_X6_has rfl (c_X6_has hs (d := d - 1) (by omega) (w := w10) a (nI c5) (kc := 0) (ks := 0)) (by omega) (st := []) (Nat.le_of_ble_eq_true rfl) rfl (kr_P fun v18 hv18 => ?_) kx_I
        obtain ⟨k18, rfl, hk18⟩ := hv18
        refine J_if_eqN (pc := 50) (tgt := 90) dX5_goThrough_50 (by decide) (by omega) (fun ht19 => ?_) (fun hf20 => ?_)
        · refine J_iincN (pc := 90) (b := 1) dX5_goThrough_90 rfl (by decide) (by decide) rfl ?_
          show J X mX5_goThrough d kc ks 93 [some (.ref 8), some (.ref 1), some (.int a), some (.int (nI n)), some (.int z4), some (.int (nI (c5 + 1)))] [] w10 _
          refine J_goto (pc := 93) (tgt := 37) dX5_goThrough_93 (by decide) ?_
          exact J_sub (L' := [some (.ref 8), some (.ref 1), some (.int a), some (.int (nI n)), some (.int z4), some (.int (nI (c5 + 1)))]) ⟨rfl, ⟨rfl, ⟨rfl, ⟨rfl, ⟨rfl, ⟨rfl, trivial⟩⟩⟩⟩⟩⟩ (ihlp37_9 w10 z4 (c5 + 1) hS11 hG12 (by first | assumption | omega) (by omega))
        · refine J_aload_n (pc := 53) dX5_goThrough_53 rfl rfl rfl ?_
          obtain ⟨_, hc21, ka21, rfl, hb21_0⟩ := hS11 8 _ rfl
          refine J_get (pc := 54) (k := 0) dX5_goThrough_54 kC6 (by decide) ff_X5_14 hc21 rfl ?_
          refine J_aload_n (pc := 57) dX5_goThrough_57 rfl rfl rfl ?_
          refine J_iload (pc := 58) dX5_goThrough_58 rfl ?_
          refine J_iald (pc := 60) dX5_goThrough_60 hc15 (nI_in (by omega) (by omega)) (J_absI fun x22 => ?_)
          refine J_aload_n (pc := 61) dX5_goThrough_61 rfl rfl rfl ?_
          refine J_get (pc := 62) (k := 1) dX5_goThrough_62 kC6 (by decide) ff_X5_20 hc21 rfl ?_
          refine J_callS0 (pc := 65) (M := mX5_goThrough) (as := [.int x22, .int (nI ka21)]) dX5_goThrough_65 fw_X2_numberOf fl_X5_30 fs_X2_numberOf rfl (c_X2_numberOf hs (d := d - 1) (by omega) (w := w10) x22 ka21 (by omega) (kc := 0) (ks := 0)) (by omega) (st := [.ref 9]) (Nat.le_of_ble_eq_true rfl) rfl (kr_P fun v23 hv23 => ?_) kx_I
          obtain ⟨_, hc25, ka25, rfl, hb25_0⟩ := hS11 9 _ rfl
          refine J_callV0 (pc := 68) (M := mX5_goThrough) (as := [.int v23]) dX5_goThrough_68 fw_X1_isMarked fl_X5_41 fm_X1_isMarked fe_X1_isMarked hc25 (by decide) rfl rfl rfl (c_X1_isMarked_at9 hs (d := d - 1) (by omega) (e := e) (r := r) (q := q) hn1 hn2 hS11 (w := w10) v23 (kc := 0) (ks := 0)) (by omega) (st := []) (Nat.le_of_ble_eq_true rfl) rfl (kr_P fun v24 hv24 => ?_) kx_I
          obtain ⟨k24, rfl, hk24⟩ := hv24
          refine J_if_neN (pc := 71) (tgt := 90) dX5_goThrough_71 (by decide) (by omega) (fun ht26 => ?_) (fun hf27 => ?_)
          · refine J_iincN (pc := 90) (b := 1) dX5_goThrough_90 rfl (by decide) (by decide) rfl ?_
            show J X mX5_goThrough d kc ks 93 [some (.ref 8), some (.ref 1), some (.int a), some (.int (nI n)), some (.int z4), some (.int (nI (c5 + 1)))] [] w10 _
            refine J_goto (pc := 93) (tgt := 37) dX5_goThrough_93 (by decide) ?_
            exact J_sub (L' := [some (.ref 8), some (.ref 1), some (.int a), some (.int (nI n)), some (.int z4), some (.int (nI (c5 + 1)))]) ⟨rfl, ⟨rfl, ⟨rfl, ⟨rfl, ⟨rfl, ⟨rfl, trivial⟩⟩⟩⟩⟩⟩ (ihlp37_9 w10 z4 (c5 + 1) hS11 hG12 (by first | assumption | omega) (by omega))
          · refine J_iload (pc := 74) dX5_goThrough_74 rfl ?_
            refine J_iconst (pc := 76) (v := nI 1) dX5_goThrough_76 (by decide) ?_
            refine J_iload (pc := 77) dX5_goThrough_77 rfl ?_
            refine J_ishl (pc := 79) dX5_goThrough_79 (J_absI fun x28 => ?_)
            refine J_ior (pc := 80) dX5_goThrough_80 (J_absI fun x29 => ?_)
            refine J_istore (pc := 81) dX5_goThrough_81 (by decide) rfl ?_
            show J X mX5_goThrough d kc ks 83 [some (.ref 8), some (.ref 1), some (.int a), some (.int (nI n)), some (.int x29), some (.int (nI c5))] [] w10 _
            refine J_aload_n (pc := 83) dX5_goThrough_83 rfl rfl rfl ?_
            refine J_aload_n (pc := 84) dX5_goThrough_84 rfl rfl rfl ?_
            refine J_iload (pc := 85) dX5_goThrough_85 rfl ?_
            refine J_callV0 (pc := 87) (M := mX5_goThrough) (as := [.ref 1, .int x29]) dX5_goThrough_87 fw_X5_spread fl_X5_45 fm_X5_spread fe_X5_spread hc21 (by decide) rfl rfl rfl (c_X5_spread hs (d := d - 1) (by omega) (e := e) (r := r) (q := q) hn1 hn2 hS11 (w := w10) x29 (kc := 0) (ks := 0)) (by omega) (st := []) (Nat.le_of_ble_eq_true rfl) rfl (kr_V fun w30 hw30 => ?_) kx_V
            obtain ⟨hS30, hF30⟩ := hw30
            have hG30 := hG12.tr hF30
            refine J_iincN (pc := 90) (b := 1) dX5_goThrough_90 rfl (by decide) (by decide) rfl ?_
            show J X mX5_goThrough d kc ks 93 [some (.ref 8), some (.ref 1), some (.int a), some (.int (nI n)), some (.int x29), some (.int (nI (c5 + 1)))] [] w30 _
            refine J_goto (pc := 93) (tgt := 37) dX5_goThrough_93 (by decide) ?_
            exact J_sub (L' := [some (.ref 8), some (.ref 1), some (.int a), some (.int (nI n)), some (.int x29), some (.int (nI (c5 + 1)))]) ⟨rfl, ⟨rfl, ⟨rfl, ⟨rfl, ⟨rfl, ⟨rfl, trivial⟩⟩⟩⟩⟩⟩ (ihlp37_9 w30 x29 (c5 + 1) hS30 hG30 (by first | assumption | omega) (by omega))
  exact J_sub (L' := [some (.ref 8), some (.ref 1), some (.int a), some (.int (nI n)), some (.int (nI 0)), some (.int (nI 0))]) ⟨rfl, ⟨rfl, ⟨rfl, ⟨rfl, ⟨rfl, ⟨rfl, trivial⟩⟩⟩⟩⟩⟩ (lp37_9 _ w7 (nI 0) 0 hS7 hG7 (by first | assumption | omega) (Nat.lt_succ_self _))
