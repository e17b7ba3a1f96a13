/-! contracts of the JDK's builders of texts -/
set_option maxRecDepth 100000 in
set_option maxHeartbeats 4000000 in
theorem c_J0_init_db425 {X : jX} (hs : X.1.stackTraces = false) {d : Nat} (hd : 4 ≤ d) {w : List jC} (o : Nat) (a : Nat) (v : Nat) (ml : Int32) (c : Nat) (bs : List Int32) (hy0 : w[o]? = some (.inr (0, [.null, .int (nI 0), .int (nI 0), .int (nI 0)]))) (hy1 : SBp a v ml c bs w) {kc ks : Nat} (hkc : 1 ≤ kc) (hks : c ≤ ks) : jMet X mJ0_init_db425 d kc ks [.ref o, .ref a, .null] w (pV (fun w' => FS o o w w' ∧ ∃ (vz : Nat) (zs : List Int32), w'[o]? = some (.inr (0, [.ref vz, .int (nI 0), .int (nI 0), .int (nI 0)])) ∧ w'[vz]? = some (.inl (1, zs)) ∧ zs.length = c ∧ jFitB zs)) := by
  refine jMet_of hs (by decide +kernel) (Nat.le_of_ble_eq_true rfl) (L := [some (.ref o), some (.ref a), some (.null), none, none]) rfl ?_
  have hdm : 3 ≤ d - 1 := by omega
  have hdp : d - 1 + 1 ≤ d := by omega
  obtain ⟨h_a, h_v, hfit, hB1, hB2, hB3⟩ := hy1
  have hav : a ≠ v := fun e => by subst e; rw [h_a] at h_v; cases h_v
  have hoa : o ≠ a := fun e => by subst e; rw [hy0] at h_a; cases h_a
  have hov : o ≠ v := fun e => by subst e; rw [hy0] at h_v; cases h_v
  have hga := gl h_a
  have hgv := gl h_v
  have hgo := gl hy0
  have hF : FS o o w w := FS.rf
  refine J_aload_n (pc := 0) dJ0_init_db425_0 rfl rfl rfl ?_
  refine J_objInit (pc := 1) (M := mJ0_init_db425) dJ0_init_db425_1 fl_J0_1 fm_objectInit fo_c rfl (by omega) (Nat.le_of_ble_eq_true rfl) ?_
  refine J_aload_n (pc := 4) dJ0_init_db425_4 rfl rfl rfl ?_
  refine J_callU (pc := 5) (M := mJ0_init_db425) (as := []) (x := yJ5_getValue_6d5f1) (owner := RJ5) (q := (RJ4, TJ4, 4)) dJ0_init_db425_5 fw_J5_getValue_6d5f1 fl_J0_552 fq_J5_J5_getValue_6d5f1 fm_J5_getValue_6d5f1 fe_J4_J5_getValue_6d5f1 rfl h_a (by decide) rfl rfl (c_J5_getValue_6d5f1 hs (d := d - 1) (by omega) (a := a) (v := v) (c := c) (bs := bs) (w := w) ⟨h_a, h_v, hfit, (by omega), (by omega), (by omega)⟩  (kc := 0) (ks := 0)) (by omega) (by omega) (by omega) (st := []) (Nat.le_of_ble_eq_true rfl) rfl (kr_A fun r1 w1 hw1 => ?_) kx_A
  obtain ⟨hr1, hww1⟩ := hw1
  obtain rfl := hww1.symm
  rw [hr1]
  refine J_astore_n (pc := 8) dJ0_init_db425_8 rfl (by decide) rfl rfl ?_
  show J X mJ0_init_db425 d (kc - 0) (ks - 0) 9 [some (.ref o), some (.ref a), some (.null), some (.ref v), none] [] w _
  refine J_aload_n (pc := 9) dJ0_init_db425_9 rfl rfl rfl ?_
  refine J_callOv (pc := 10) (M := mJ0_init_db425) (as := []) (q := (RJ4, TJ4, 4)) dJ0_init_db425_10 fw_J4_length_8abf5 fw_J5_length_8abf5 fl_J0_549 fq_J5_J5_length_8abf5 fm_J5_length_8abf5 fm_J4_length_8abf5 fe_J4_J4_length_8abf5 rfl h_a (by decide) rfl rfl (c_J4_length_8abf5 hs (d := d - 1) (by omega) (a := a) (v := v) (c := c) (bs := bs) (w := w) ⟨h_a, h_v, hfit, (by omega), (by omega), (by omega)⟩  (kc := 0) (ks := 0)) (by omega) (by omega) (by omega) (st := []) (Nat.le_of_ble_eq_true rfl) rfl (kr_P fun v2 hv2 => ?_) kx_I
  subst hv2
  refine J_istore (pc := 13) dJ0_init_db425_13 (by decide) rfl ?_
  show J X mJ0_init_db425 d (kc - 0 - 0) (ks - 0 - 0) 15 [some (.ref o), some (.ref a), some (.null), some (.ref v), some (.int (nI c))] [] w _
  refine J_aload_n (pc := 15) dJ0_init_db425_15 rfl rfl rfl ?_
  refine J_callU (pc := 16) (M := mJ0_init_db425) (as := []) (x := yJ5_isLatin1_aae02) (owner := RJ5) (q := (RJ4, TJ4, 4)) dJ0_init_db425_16 fw_J5_isLatin1_aae02 fl_J0_1047 fq_J5_J5_isLatin1_aae02 fm_J5_isLatin1_aae02 fe_J4_J5_isLatin1_aae02 rfl h_a (by decide) rfl rfl (c_J5_isLatin1_aae02 hs (d := d - 1) (by omega) (a := a) (v := v) (c := c) (bs := bs) (w := w) ⟨h_a, h_v, hfit, (by omega), (by omega), (by omega)⟩  (kc := 0) (ks := 0)) (by omega) (by omega) (by omega) (st := []) (Nat.le_of_ble_eq_true rfl) rfl (kr_P fun v3 hv3 => ?_) kx_I
  subst hv3
  refine J_if_eqN (pc := 19) (tgt := 41) dJ0_init_db425_19 (by decide) (by decide) (fun h => absurd h (by decide)) (fun _ => ?_)
  refine J_aload_n (pc := 22) dJ0_init_db425_22 rfl rfl rfl ?_
  refine J_iconst (pc := 23) (v := nI 0) dJ0_init_db425_23 (by decide) ?_
  refine J_putW (pc := 24) (k := 1) dJ0_init_db425_24 kC0 (by decide) ff_J0_15 (Or.inr ⟨rfl, rfl, rfl⟩) ⟨by decide, by decide⟩ hy0 (Nat.le_of_ble_eq_true rfl) (fun w4 hln4 hw4 hne4 => ?_)
  have hoo_4 : w4[o]? = some (.inr (0, [.null, .int (nI 0), .int (nI 0), .int (nI 0)])) := hw4
  have hoa_4 := (hne4 a (by omega)).trans h_a
  have hlv_4 := (hne4 v (by omega)).trans h_v
  have hF4 := hF.st hln4 hne4 (by omega)
  refine J_aload_n (pc := 27) dJ0_init_db425_27 rfl rfl rfl ?_
  refine J_aload_n (pc := 28) dJ0_init_db425_28 rfl rfl rfl ?_
  refine J_iconst (pc := 29) (v := nI 0) dJ0_init_db425_29 (by decide) ?_
  refine J_iload (pc := 30) dJ0_init_db425_30 rfl ?_
  refine J_callS (pc := 32) (M := mJ0_init_db425) (as := [.ref v, .int (nI 0), .int (nI c)]) dJ0_init_db425_32 fw_J7_copyOfRange_39247 fl_J0_54 fs_J7_copyOfRange_39247 rfl (c_J7_copyOfRange_39247 hs (d := d - 1) (by omega) (w := w4) v 0 c _ (by assumption) (by assumption) (by first | assumption | omega) (by first | assumption | omega) (by first | assumption | omega) (kc := 1) (ks := c) (Nat.le_refl _) (Nat.le_refl _)) (by omega) (by omega) (by omega) (st := [.ref o]) (Nat.le_of_ble_eq_true rfl) rfl (kr_A fun r5 w5 hw5 => ?_) kx_A
  obtain ⟨ys5, hra5, hln5, hne5, hcn5, hyl5, hyf5⟩ := hw5
  have hggo5 := gl hoo_4
  have hgga5 := gl hoa_4
  have hggv5 := gl hlv_4
  have hoo_5 := (hne5 o (by omega)).trans hoo_4
  have hoa_5 := (hne5 a (by omega)).trans hoa_4
  have hlv_5 := (hne5 v (by omega)).trans hlv_4
  have hFq5 := hF4.1
  have hF5 := hF4.pu hra5 (by omega) (fun c hc => hne5 c (by omega))
  refine J_putW (pc := 35) (k := 0) dJ0_init_db425_35 kC0 (by decide) ff_J0_9 (Or.inr ⟨rfl, rfl, rfl⟩) rfl hoo_5 (Nat.le_of_ble_eq_true rfl) (fun w6 hln6 hw6 hne6 => ?_)
  have hoo_6 : w6[o]? = some (.inr (0, [.ref r5, .int (nI 0), .int (nI 0), .int (nI 0)])) := hw6
  have hoa_6 := (hne6 a (by omega)).trans hoa_5
  have hlv_6 := (hne6 v (by omega)).trans hlv_5
  have hlr5_6 := (hne6 r5 (by omega)).trans hcn5
  have hF6 := hF5.st hln6 hne6 (by omega)
  refine J_goto (pc := 38) (tgt := 97) dJ0_init_db425_38 (by decide) ?_
  exact J_vret (pc := 97) dJ0_init_db425_97 rfl (⟨hF6, r5, ys5, hoo_6, hlr5_6, by omega, hyf5⟩)
set_option maxRecDepth 100000 in
set_option maxHeartbeats 4000000 in
theorem c_J0_init_81219 {X : jX} (hs : X.1.stackTraces = false) {d : Nat} (hd : 5 ≤ d) {w : List jC} (o : Nat) (a : Nat) (v : Nat) (ml : Int32) (c : Nat) (bs : List Int32) (hy0 : w[o]? = some (.inr (0, [.null, .int (nI 0), .int (nI 0), .int (nI 0)]))) (hy1 : SBp a v ml c bs w) {kc ks : Nat} (hkc : 1 ≤ kc) (hks : c ≤ ks) : jMet X mJ0_init_81219 d kc ks [.ref o, .ref a] w (pV (fun w' => FS o o w w' ∧ ∃ (vz : Nat) (zs : List Int32), w'[o]? = some (.inr (0, [.ref vz, .int (nI 0), .int (nI 0), .int (nI 0)])) ∧ w'[vz]? = some (.inl (1, zs)) ∧ zs.length = c ∧ jFitB zs)) := by
  refine jMet_of hs (by decide +kernel) (Nat.le_of_ble_eq_true rfl) (L := [some (.ref o), some (.ref a)]) rfl ?_
  have hdm : 4 ≤ d - 1 := by omega
  have hdp : d - 1 + 1 ≤ d := by omega
  obtain ⟨h_a, h_v, hfit, hB1, hB2, hB3⟩ := hy1
  have hav : a ≠ v := fun e => by subst e; rw [h_a] at h_v; cases h_v
  have hoa : o ≠ a := fun e => by subst e; rw [hy0] at h_a; cases h_a
  have hov : o ≠ v := fun e => by subst e; rw [hy0] at h_v; cases h_v
  have hga := gl h_a
  have hgv := gl h_v
  have hgo := gl hy0
  have hF : FS o o w w := FS.rf
  refine J_aload_n (pc := 0) dJ0_init_81219_0 rfl rfl rfl ?_
  refine J_aload_n (pc := 1) dJ0_init_81219_1 rfl rfl rfl ?_
  refine J_null (pc := 2) dJ0_init_81219_2 ?_
  refine J_callI (pc := 3) (M := mJ0_init_81219) (as := [.ref a, .null]) dJ0_init_81219_3 fw_J0_init_db425 fl_J0_489 fm_J0_init_db425 rfl rfl rfl (c_J0_init_db425 hs (d := d - 1) (by omega) (w := w) o a v ml c bs (by first | assumption | omega) ⟨h_a, h_v, hfit, (by omega), (by omega), (by omega)⟩ (kc := 1) (ks := c) (Nat.le_refl _) (Nat.le_refl _)) (by omega) (by omega) (by omega) (st := []) (Nat.le_of_ble_eq_true rfl) rfl (kr_V fun w1 hw1 => ?_) kx_V
  obtain ⟨hFc1, vz1, ys1, hco1, hcn1, hyl1, hyf1⟩ := hw1
  have hoa_1 := (hFc1.2 a (by omega) (by omega) (gl h_a)).trans h_a
  have hlv_1 := (hFc1.2 v (by omega) (by omega) (gl h_v)).trans h_v
  have hgl1 := hFc1.1
  have hF1 := hF.tr2 hFc1 (by omega)
  exact J_vret (pc := 6) dJ0_init_81219_6 rfl (⟨hF1, vz1, ys1, hco1, hcn1, by omega, hyf1⟩)
set_option maxRecDepth 100000 in
set_option maxHeartbeats 4000000 in
theorem c_J4_toString_0e30d {X : jX} (hs : X.1.stackTraces = false) {d : Nat} (hd : 6 ≤ d) {a v : Nat} {ml : Int32} {c : Nat} {bs : List Int32} {w : List jC} (hB : SBp a v ml c bs w) {kc ks : Nat} (hkc : 2 ≤ kc) (hks : c + 4 ≤ ks) : jMet X mJ4_toString_0e30d d kc ks [.ref a] w (pA (fun r w' => w.length ≤ r ∧ w.length ≤ w'.length ∧ (∀ i, i < w.length → w'[i]? = w[i]?) ∧ ∃ (vz : Nat) (zs : List Int32), w'[r]? = some (.inr (0, [.ref vz, .int (nI 0), .int (nI 0), .int (nI 0)])) ∧ w'[vz]? = some (.inl (1, zs)) ∧ zs.length = c)) := by
  refine jMet_of hs (by decide +kernel) (Nat.le_of_ble_eq_true rfl) (L := [some (.ref a)]) rfl ?_
  have hdm : 5 ≤ d - 1 := by omega
  have hdp : d - 1 + 1 ≤ d := by omega
  obtain ⟨h_a, h_v, hfit, hB1, hB2, hB3⟩ := hB
  have hav : a ≠ v := fun e => by subst e; rw [h_a] at h_v; cases h_v
  have hga := gl h_a
  have hgv := gl h_v
  have hF : FS a v w w := FS.rf
  have hF : FS w.length w.length w w := FS.rf
  have qga1 := gl h_a
  have qgv1 := gl h_v
  refine J_newO (pc := 0) (M := mJ4_toString_0e30d) (fs := [.null, .int (nI 0), .int (nI 0), .int (nI 0)]) dJ4_toString_0e30d_0 kC0 fc_J4_18 fi_J0 fz_J0 df_J0 (by omega) (by omega) (fun o0 w1 ha1 hln1 hc1 hne1 => ?_)
  have hoa_1 := (hne1 a (by omega)).trans h_a
  have hlv_1 := (hne1 v (by omega)).trans h_v
  have qF1 := hF.1
  have hF1 := hF.pu ha1 hln1 hne1
  refine J_dup (pc := 3) dJ4_toString_0e30d_3 rfl ?_
  refine J_aload_n (pc := 4) dJ4_toString_0e30d_4 rfl rfl rfl ?_
  refine J_callI (pc := 5) (M := mJ4_toString_0e30d) (as := [.ref a]) dJ4_toString_0e30d_5 fw_J0_init_81219 fl_J4_137 fm_J0_init_81219 rfl rfl rfl (c_J0_init_81219 hs (d := d - 1) (by omega) (w := w1) o0 a v ml c bs (by first | assumption | omega) ⟨hoa_1, hlv_1, hfit, (by omega), (by omega), (by omega)⟩ (kc := 1) (ks := c) (Nat.le_refl _) (Nat.le_refl _)) (by omega) (by omega) (by omega) (st := [.ref o0]) (Nat.le_of_ble_eq_true rfl) rfl (kr_V fun w2 hw2 => ?_) kx_V
  obtain ⟨hFc2, vz2, ys2, hco2, hcn2, hyl2, hyf2⟩ := hw2
  have hoa_2 := (hFc2.2 a (by omega) (by omega) (gl hoa_1)).trans hoa_1
  have hlv_2 := (hFc2.2 v (by omega) (by omega) (gl hlv_1)).trans hlv_1
  have hgl2 := hFc2.1
  have hF2 := hF1.tr2 hFc2 (by omega)
  exact J_aret (pc := 8) dJ4_toString_0e30d_8 rfl rfl rfl ⟨(by omega), (by omega), (fun i hi => hF2.2 i (by omega) (by omega) hi), vz2, ys2, hco2, hcn2, by omega⟩
set_option maxRecDepth 100000 in
set_option maxHeartbeats 4000000 in
theorem c_J5_init_d00df {X : jX} (hs : X.1.stackTraces = false) {d : Nat} (hd : 1 ≤ d) {w : List jC} (a : Nat) (N : Nat) (hy0 : w[a]? = some (.inr (1, [.null, .int (nI 0), .int (nI 0), .int (nI 0)]))) (hy1 : N = 16) {kc ks : Nat} (hkc : 1 ≤ kc) (hks : 16 ≤ ks) : jMet X mJ5_init_d00df d kc ks [.ref a, .int (nI N)] w (pV (fun w' => ∃ (v' : Nat) (bs' : List Int32), SBp a v' (nI 0) 0 bs' w' ∧ FS a a w w' ∧ w.length ≤ v')) := by
  refine jMet_of hs (by decide +kernel) (Nat.le_of_ble_eq_true rfl) (L := [some (.ref a), some (.int (nI N))]) rfl ?_
  have hdm : 0 ≤ d - 1 := by omega
  have hdp : d - 1 + 1 ≤ d := by omega
  have hF : FS a a w w := FS.rf
  have hga := gl hy0
  refine J_aload_n (pc := 0) dJ5_init_d00df_0 rfl rfl rfl ?_
  refine J_objInit (pc := 1) (M := mJ5_init_d00df) dJ5_init_d00df_1 fl_J5_3 fm_objectInit fo_c rfl (by omega) (Nat.le_of_ble_eq_true rfl) ?_
  refine J_gets (pc := 4) (M := mJ5_init_d00df) (v := .int 1) dJ5_init_d00df_4 (by simp [jStat]) ff_J5_18 ?_
  show J X mJ5_init_d00df d kc ks 7 [some (.ref a), some (.int (nI N))] [.int (nI 1)] w _
  refine J_if_eqN (pc := 7) (tgt := 25) dJ5_init_d00df_7 (by decide) (by decide) (fun h => absurd h (by decide)) (fun _ => ?_)
  refine J_aload_n (pc := 10) dJ5_init_d00df_10 rfl rfl rfl ?_
  refine J_iload_n (pc := 11) dJ5_init_d00df_11 rfl rfl ?_
  have qga1 := gl hy0
  refine J_newB (pc := 12) (M := mJ5_init_d00df) (N := N) dJ5_init_d00df_12 rfl (by omega) (by omega) (by omega) (fun a12 w1 ys1 ha1 hln1 hc1 hyl1 hyf1 hne1 => ?_)
  have hoa_1 := (hne1 a (by omega)).trans hy0
  have qF1 := hF.1
  have hF1 := hF.pu ha1 hln1 hne1
  refine J_putW (pc := 14) (k := 0) dJ5_init_d00df_14 kC1 (by decide) ff_J5_15 (Or.inl rfl) rfl hoa_1 (Nat.le_of_ble_eq_true rfl) (fun w2 hln2 hw2 hne2 => ?_)
  have hoa_2 : w2[a]? = some (.inr (1, [.ref a12, .int (nI 0), .int (nI 0), .int (nI 0)])) := hw2
  have hla12_2 := (hne2 a12 (by omega)).trans hc1
  have hF2 := hF1.st hln2 hne2 (by omega)
  refine J_aload_n (pc := 17) dJ5_init_d00df_17 rfl rfl rfl ?_
  refine J_iconst (pc := 18) (v := nI 0) dJ5_init_d00df_18 (by decide) ?_
  refine J_putW (pc := 19) (k := 1) dJ5_init_d00df_19 kC1 (by decide) ff_J5_22 (Or.inl rfl) ⟨by decide, by decide⟩ hoa_2 (Nat.le_of_ble_eq_true rfl) (fun w3 hln3 hw3 hne3 => ?_)
  have hoa_3 : w3[a]? = some (.inr (1, [.ref a12, .int (nI 0), .int (nI 0), .int (nI 0)])) := hw3
  have hla12_3 := (hne3 a12 (by omega)).trans hla12_2
  have hF3 := hF2.st hln3 hne3 (by omega)
  refine J_goto (pc := 22) (tgt := 38) dJ5_init_d00df_22 (by decide) ?_
  exact J_vret (pc := 38) dJ5_init_d00df_38 rfl (⟨a12, ys1, ⟨hoa_3, hla12_3, hyf1, (by omega), (by omega), (by omega)⟩, hF3, (by omega)⟩)
set_option maxRecDepth 100000 in
set_option maxHeartbeats 4000000 in
theorem c_J4_init_da8c8 {X : jX} (hs : X.1.stackTraces = false) {d : Nat} (hd : 2 ≤ d) {w : List jC} (a : Nat) (hy0 : w[a]? = some (.inr (1, [.null, .int (nI 0), .int (nI 0), .int (nI 0)]))) {kc ks : Nat} (hkc : 1 ≤ kc) (hks : 16 ≤ ks) : jMet X mJ4_init_da8c8 d kc ks [.ref a] w (pV (fun w' => ∃ (v' : Nat) (bs' : List Int32), SBp a v' (nI 0) 0 bs' w' ∧ FS a a w w' ∧ w.length ≤ v')) := by
  refine jMet_of hs (by decide +kernel) (Nat.le_of_ble_eq_true rfl) (L := [some (.ref a)]) rfl ?_
  have hdm : 1 ≤ d - 1 := by omega
  have hdp : d - 1 + 1 ≤ d := by omega
  have hF : FS a a w w := FS.rf
  have hga := gl hy0
  refine J_aload_n (pc := 0) dJ4_init_da8c8_0 rfl rfl rfl ?_
  refine J_bipush (pc := 1) (v := nI 16) dJ4_init_da8c8_1 (by decide) ?_
  refine J_callI (pc := 3) (M := mJ4_init_da8c8) (as := [.int (nI 16)]) dJ4_init_da8c8_3 fw_J5_init_d00df fl_J4_1 fm_J5_init_d00df rfl rfl rfl (c_J5_init_d00df hs (d := d - 1) (by omega) (w := w) a 16 (by first | assumption | omega) (by first | assumption | omega) (kc := 1) (ks := 16) (Nat.le_refl _) (Nat.le_refl _)) (by omega) (by omega) (by omega) (st := []) (Nat.le_of_ble_eq_true rfl) rfl (kr_V fun w1 hw1 => ?_) kx_V
  obtain ⟨v1', ys1, ⟨h_a1, h_v1, hfit1, hB11, hB21, hB31⟩, hFc1, hvv1⟩ := hw1
  have hgl1 := hFc1.1
  have hF1 := hF.tr2 hFc1 (by omega)
  exact J_vret (pc := 6) dJ4_init_da8c8_6 rfl (⟨v1', ys1, ⟨h_a1, h_v1, hfit1, (by omega), (by omega), (by omega)⟩, hF1, (by omega)⟩)
set_option maxRecDepth 100000 in
set_option maxHeartbeats 4000000 in
theorem c_X6_addWord {X : jX} (hs : X.1.stackTraces = false) {d : Nat} (hd : 6 ≤ d) (hXO : XO X) {a v : Nat} {ml : Int32} {c : Nat} {bs : List Int32} {w : List jC} (hB : SBp a v ml c bs w) (x : Nat) (hy0 : x < 10000) (hy1 : c ≤ 124) {kc ks : Nat} (hkc : (gw c x bs.length - bs.length) / 18 ≤ kc) (hks : 2 * (gw c x bs.length - bs.length) ≤ ks) : jMet X mX6_addWord d kc ks [.ref a, .int (nI x)] w (pV (fun w' => ∃ (c' : Nat) (v' : Nat) (bs' : List Int32), SBp a v' ml (c') bs' w' ∧ FS a v w w' ∧ (v' = v ∨ w.length ≤ v') ∧ c < c' ∧ c' ≤ c + 1 + dgs x ∧ bs'.length = gw c x bs.length)) := by
  refine jMet_of hs (by decide +kernel) (Nat.le_of_ble_eq_true rfl) (L := [some (.ref a), some (.int (nI x))]) rfl ?_
  have hdm : 5 ≤ d - 1 := by omega
  have hdp : d - 1 + 1 ≤ d := by omega
  obtain ⟨h_a, h_v, hfit, hB1, hB2, hB3⟩ := hB
  have hav : a ≠ v := fun e => by subst e; rw [h_a] at h_v; cases h_v
  have hga := gl h_a
  have hgv := gl h_v
  have hF : FS a v w w := FS.rf
  have hdl := dgs_le x
  have hgw := gw_d c x bs.length
  have hg1 := gL_d (c + 1) bs.length
  have hg2 := gL_d (c + 1 + dgs x) (gL (c + 1) bs.length)
  refine J_aload_n (pc := 0) dX6_addWord_0 rfl rfl rfl ?_
  refine J_callV (pc := 1) (M := mX6_addWord) (as := []) dX6_addWord_1 fw_J4_length_8abf5 fl_X6_301 fm_J4_length_8abf5 fe_J4_length_8abf5 h_a (by decide) rfl rfl rfl (c_J4_length_8abf5 hs (d := d - 1) (by omega) (a := a) (v := v) (c := c) (bs := bs) (w := w) ⟨h_a, h_v, hfit, (by omega), (by omega), (by omega)⟩  (kc := 0) (ks := 0)) (by omega) (by omega) (by omega) (st := []) (Nat.le_of_ble_eq_true rfl) rfl (kr_P fun v1 hv1 => ?_) kx_I
  subst hv1
  refine J_if_leN (pc := 4) (tgt := 14) dX6_addWord_4 (by decide) (by omega) (fun ht2 => ?_) (fun hf3 => ?_)
  · refine J_aload_n (pc := 14) dX6_addWord_14 rfl rfl rfl ?_
    refine J_iload_n (pc := 15) dX6_addWord_15 rfl rfl ?_
    refine J_callV (pc := 16) (M := mX6_addWord) (as := [.int (nI x)]) dX6_addWord_16 fw_J4_append_bf812 fl_X6_306 fm_J4_append_bf812 fe_J4_append_bf812 h_a (by decide) rfl rfl rfl (c_J4_append_bf812 hs (d := d - 1) (by omega) hXO (a := a) (v := v) (c := c) (bs := bs) (w := w) ⟨h_a, h_v, hfit, (by omega), (by omega), (by omega)⟩ x (by first | assumption | omega) (by first | assumption | omega) (kc := ((gL (c + dgs x) bs.length - bs.length) / 18)) (ks := (2 * (gL (c + dgs x) bs.length - bs.length))) (Nat.le_refl _) (Nat.le_refl _)) (by omega) (by omega) (by omega) (st := []) (Nat.le_of_ble_eq_true rfl) rfl (kr_A fun r4 w4 hw4 => ?_) kx_A
    obtain ⟨hra4, v4', ys4, ⟨h_a4, h_v4, hfit4, hB14, hB24, hB34⟩, hFc4, hvv4, hp4_0⟩ := hw4
    obtain rfl := hra4.symm
    have hav4 : a ≠ v4' := fun e => by rw [e] at h_a4; rw [h_a4] at h_v4; cases h_v4
    have hgl4 := hFc4.1
    have hgf5 := gL_d (c + dgs x) bs.length
    have hF4 := hF.tr hFc4 (by omega)
    refine J_pop (pc := 19) dX6_addWord_19 rfl ?_
    exact J_vret (pc := 20) dX6_addWord_20 rfl (⟨c + dgs x, v4', ys4, ⟨h_a4, h_v4, hfit4, (by omega), (by omega), (by omega)⟩, hF4, (by omega), (by omega), (by omega), (by omega)⟩)
  · refine J_aload_n (pc := 7) dX6_addWord_7 rfl rfl rfl ?_
    refine J_bipush (pc := 8) (v := nI 32) dX6_addWord_8 (by decide) ?_
    refine J_callV (pc := 10) (M := mX6_addWord) (as := [.int (nI 32)]) dX6_addWord_10 fw_J4_append_cf468 fl_X6_302 fm_J4_append_cf468 fe_J4_append_cf468 h_a (by decide) rfl rfl rfl (c_J4_append_cf468 hs (d := d - 1) (by omega) (a := a) (v := v) (c := c) (bs := bs) (w := w) ⟨h_a, h_v, hfit, (by omega), (by omega), (by omega)⟩ 32 (by first | assumption | omega) (by first | assumption | omega) (kc := ((gL (c + 1) bs.length - bs.length) / 18)) (ks := (2 * (gL (c + 1) bs.length - bs.length))) (Nat.le_refl _) (Nat.le_refl _)) (by omega) (by omega) (by omega) (st := []) (Nat.le_of_ble_eq_true rfl) rfl (kr_A fun r6 w6 hw6 => ?_) kx_A
    obtain ⟨hra6, v6', ys6, ⟨h_a6, h_v6, hfit6, hB16, hB26, hB36⟩, hFc6, hvv6, hp6_0⟩ := hw6
    obtain rfl := hra6.symm
    have hav6 : a ≠ v6' := fun e => by rw [e] at h_a6; rw [h_a6] at h_v6; cases h_v6
    have hgl6 := hFc6.1
    have hgf7 := gL_d (c + 1) bs.length
    have hF6 := hF.tr hFc6 (by omega)
    have hrw : gL (c + 1 + dgs x) (gL (c + 1) bs.length) = gL (c + 1 + dgs x) ys6.length := by rw [hp6_0]
    refine J_pop (pc := 13) dX6_addWord_13 rfl ?_
    refine J_aload_n (pc := 14) dX6_addWord_14 rfl rfl rfl ?_
    refine J_iload_n (pc := 15) dX6_addWord_15 rfl rfl ?_
    refine J_callV (pc := 16) (M := mX6_addWord) (as := [.int (nI x)]) dX6_addWord_16 fw_J4_append_bf812 fl_X6_306 fm_J4_append_bf812 fe_J4_append_bf812 h_a6 (by decide) rfl rfl rfl (c_J4_append_bf812 hs (d := d - 1) (by omega) hXO (a := a) (v := v6') (c := c + 1) (bs := ys6) (w := w6) ⟨h_a6, h_v6, hfit6, (by omega), (by omega), (by omega)⟩ x (by first | assumption | omega) (by first | assumption | omega) (kc := ((gL ((c + 1) + dgs x) ys6.length - ys6.length) / 18)) (ks := (2 * (gL ((c + 1) + dgs x) ys6.length - ys6.length))) (Nat.le_refl _) (Nat.le_refl _)) (by omega) (by omega) (by omega) (st := []) (Nat.le_of_ble_eq_true rfl) rfl (kr_A fun r8 w8 hw8 => ?_) kx_A
    obtain ⟨hra8, v8', ys8, ⟨h_a8, h_v8, hfit8, hB18, hB28, hB38⟩, hFc8, hvv8, hp8_0⟩ := hw8
    obtain rfl := hra8.symm
    have hav8 : a ≠ v8' := fun e => by rw [e] at h_a8; rw [h_a8] at h_v8; cases h_v8
    have hgl8 := hFc8.1
    have hgf9 := gL_d ((c + 1) + dgs x) ys6.length
    have hF8 := hF6.tr hFc8 (by omega)
    refine J_pop (pc := 19) dX6_addWord_19 rfl ?_
    exact J_vret (pc := 20) dX6_addWord_20 rfl (⟨(c + 1) + dgs x, v8', ys8, ⟨h_a8, h_v8, hfit8, (by omega), (by omega), (by omega)⟩, hF8, (by omega), (by omega), (by omega), (by omega)⟩)
set_option maxRecDepth 100000 in
set_option maxHeartbeats 4000000 in
theorem c_J0_coder_7d493_ats {X : jX} (hs : X.1.stackTraces = false) {d : Nat} (hd : 0 ≤ d) {w : List jC} (o : Nat) (vz : Nat) (hy0 : w[o]? = some (.inr (0, [.ref vz, .int (nI 0), .int (nI 0), .int (nI 0)]))) {kc ks : Nat} : jMet X mJ0_coder_7d493 d kc ks [.ref o] w (pI (fun v => v = nI 0) (fun w' => w' = w)) := by
  refine jMet_of hs (by decide +kernel) (Nat.le_of_ble_eq_true rfl) (L := [some (.ref o)]) rfl ?_
  refine J_gets (pc := 0) (M := mJ0_coder_7d493) (v := .int 1) dJ0_coder_7d493_0 (by simp [jStat]) ff_J0_38 ?_
  show J X mJ0_coder_7d493 d kc ks 3 [some (.ref o)] [.int (nI 1)] w _
  refine J_if_eqN (pc := 3) (tgt := 13) dJ0_coder_7d493_3 (by decide) (by decide) (fun h => absurd h (by decide)) (fun _ => ?_)
  refine J_aload_n (pc := 6) dJ0_coder_7d493_6 rfl rfl rfl ?_
  refine J_get (pc := 7) (k := 1) dJ0_coder_7d493_7 kC0 (by decide) ff_J0_15 hy0 rfl ?_
  show J X mJ0_coder_7d493 d kc ks 10 [some (.ref o)] [.int (nI 0)] w _
  refine J_goto (pc := 10) (tgt := 14) dJ0_coder_7d493_10 (by decide) ?_
  exact J_zret (pc := 14) dJ0_coder_7d493_14 rfl (by decide) ⟨rfl, rfl⟩
set_option maxRecDepth 100000 in
set_option maxHeartbeats 4000000 in
theorem c_J0_length_8abf5_ats {X : jX} (hs : X.1.stackTraces = false) {d : Nat} (hd : 1 ≤ d) {w : List jC} (o : Nat) (vz : Nat) (zs : List Int32) (hy0 : w[o]? = some (.inr (0, [.ref vz, .int (nI 0), .int (nI 0), .int (nI 0)]))) (hy1 : w[vz]? = some (.inl (1, zs))) (hy2 : zs.length ≤ 270) {kc ks : Nat} : jMet X mJ0_length_8abf5 d kc ks [.ref o] w (pI (fun v => v = nI zs.length) (fun w' => w' = w)) := by
  refine jMet_of hs (by decide +kernel) (Nat.le_of_ble_eq_true rfl) (L := [some (.ref o)]) rfl ?_
  have hdm : 0 ≤ d - 1 := by omega
  have hdp : d - 1 + 1 ≤ d := by omega
  refine J_aload_n (pc := 0) dJ0_length_8abf5_0 rfl rfl rfl ?_
  refine J_get (pc := 1) (k := 0) dJ0_length_8abf5_1 kC0 (by decide) ff_J0_9 hy0 rfl ?_
  refine J_alen (pc := 4) (n := nI zs.length) dJ0_length_8abf5_4 hy1 (by decide) rfl ?_
  refine J_aload_n (pc := 5) dJ0_length_8abf5_5 rfl rfl rfl ?_
  refine J_callV (pc := 6) (M := mJ0_length_8abf5) (as := []) dJ0_length_8abf5_6 fw_J0_coder_7d493 fl_J0_335 fm_J0_coder_7d493 fe_J0_coder_7d493 hy0 (by decide) rfl rfl rfl (c_J0_coder_7d493_ats hs (d := d - 1) (by omega) (w := w) o vz (by first | assumption | omega) (kc := 0) (ks := 0)) (by omega) (by omega) (by omega) (st := [.int (nI zs.length)]) (Nat.le_of_ble_eq_true rfl) rfl (kr_P fun v1 hv1 => ?_) kx_I
  subst hv1
  refine J_ishr0 (pc := 9) dJ0_length_8abf5_9 (by omega) ?_
  exact J_iret (pc := 10) dJ0_length_8abf5_10 rfl ⟨rfl, rfl⟩
