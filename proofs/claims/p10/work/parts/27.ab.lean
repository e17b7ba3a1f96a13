/-! texts of the reference -/
/-- an end with an object or an old one -/
def pS (R : List jC → Prop) : jQ := fun o w => match o with
  | .inl (some v) => jRf v = true ∧ R w
  | _ => False
section JPS
variable {X : jX} {M : jM} {d kc ks pc : Nat} {L : List (Option Value)} {st as : List Value} {w : List jC} {Q : jQ}
theorem kr_S {R : List jC → Prop} (k : ∀ (v : Value) (w' : List jC), jRf v = true → R w' → J X M d kc ks pc L (v :: st) w' Q) : ∀ (r : Option Value) (w' : List jC), pS R (.inl r) w' → J X M d kc ks pc L (r.toList ++ st) w' Q := by
  intro r w' h
  match r, h with
  | some v, h => exact k v w' h.1 h.2
theorem kx_S {R : List jC → Prop} : ∀ (E : String) (w' : List jC), pS R (.inr E) w' → JX X M d kc ks pc L st w' E Q := fun _ _ h => h.elim
theorem uS0 {R R' : List jC → Prop} (h : jMet X M d kc ks as w (pS R)) (hR : ∀ w', R w' → R' w') : jMet X M d kc ks as w (pS R') := h.mono (fun o w' hq => by
  match o, hq with
  | .inl (some v), hq => exact ⟨hq.1, hR w' hq.2⟩)
end JPS
set_option maxRecDepth 100000 in
set_option maxHeartbeats 40000000 in
theorem c_X8_text {X : jX} (hs : X.1.stackTraces = false) {d : Nat} (hd : 14 ≤ d) (hXO : XO X) {n : Nat} {mv rw nx : Nat → Nat} {b : Nat} {bt : List Int32} {kn en dn rf kk th : Int32} {w : List jC} (hR : RM n mv rw nx b bt kn en dn rf kk th w) (hn1 : 2 ≤ n) (hn2 : n ≤ 7) (gm : ∀ i, mv i < 7) (gr : ∀ i, rw i < 7) (gx : ∀ i, nx i < 7) (a : Int32) {kc ks : Nat} (hkc : 40 ≤ kc) (hks : 1500 ≤ ks) : jMet X mX8_text d kc ks [.ref 19, .int a] w (pS (fun w' => ∃ (th' : Int32), RM n mv rw nx b bt kn en dn rf kk th' w' ∧ FR b b w w')) := by
  refine jMet_of hs (by decide +kernel) (Nat.le_of_ble_eq_true rfl) (L := [some (.ref 19), some (.int a), none, none]) rfl ?_
  have hdm : 13 ≤ d - 1 := by omega
  have hdp : d - 1 + 1 ≤ d := by omega
  have hfc := fc_7 hn2
  have hfp := fc_pos n
  obtain ⟨h19, h20, h21, h22, hbb, hbl, hb3⟩ := hR
  have hF : FR b b w w := FR.rf
  have qL0 := gl h22
  have qL1 := gl hbb
  refine J_aload_n (pc := 0) dX8_text_0 rfl rfl rfl ?_
  refine J_iload_n (pc := 1) dX8_text_1 rfl rfl ?_
  refine J_callS0 (pc := 2) (M := mX8_text) (as := [.int a]) dX8_text_2 fw_X8_isCell fl_X8_108 fs_X8_isCell rfl (c_X8_isCell hs (d := d - 1) (Nat.le_trans (by decide) hdm) (w := w) a (kc := 0) (ks := 0)) hdp (st := [.ref 19]) (Nat.le_of_ble_eq_true rfl) rfl (kr_P fun v1 hv1 => ?_) kx_I
  rcases hv1 with ⟨rfl, hk1_0⟩ | ⟨q1, rfl, hk1_0, rfl⟩
  · refine J_if_neN (pc := 5) (tgt := 12) dX8_text_5 (by decide) (by decide) (fun h => absurd h (by decide)) (fun _ => ?_)
    refine J_iconst (pc := 8) (v := nI 1) dX8_text_8 (by decide) ?_
    refine J_goto (pc := 9) (tgt := 13) dX8_text_9 (by decide) ?_
    refine J_callV0 (pc := 13) (M := mX8_text) (as := [.int (nI 1)]) dX8_text_13 fw_X8_isThrown_ fl_X8_105 fm_X8_isThrown_ fe_X8_isThrown_ h19 (by decide) rfl rfl rfl (c_X8_isThrown_ hs (d := d - 1) (Nat.le_trans (by decide) hdm) (w := w) (n := n) (mv := mv) (rw := rw) (nx := nx) (b := b) (bt := bt) (kn := kn) (en := en) (dn := dn) (rf := rf) (kk := kk) (th := th) ⟨h19, h20, h21, h22, hbb, hbl, hb3⟩ hn1 hn2 gm gr gx 1 (by first | assumption | omega) (kc := 0) (ks := 0)) hdp (st := []) (Nat.le_of_ble_eq_true rfl) rfl (kr_I fun v2 w2 hv2 hw2 => ?_) kx_I
    obtain ⟨hR2, hFc2⟩ := hw2
    obtain ⟨h19_2, h20_2, h21_2, h22_2, hbb_2, hbl_2, hb3_2⟩ := hR2
    have hF2 := hF.tr hFc2
    subst hv2
    show J X mX8_text d kc ks 16 [some (.ref 19), some (.int a), none, none] [.int (nI 1)] w2 _
    refine J_if_eqN (pc := 16) (tgt := 22) dX8_text_16 (by decide) (by decide) (fun h => absurd h (by decide)) (fun _ => ?_)
    refine J_ldcS (pc := 19) (M := mX8_text) (a := 5) (tx := "") dX8_text_19 List.mem_cons_self ?_
    exact J_aret (pc := 21) dX8_text_21 rfl rfl rfl ⟨rfl, nI (tW 1 0), ⟨h19_2, h20_2, h21_2, h22_2, hbb_2, hbl_2, hb3_2⟩, hF2⟩
  · refine J_if_neN (pc := 5) (tgt := 12) dX8_text_5 (by decide) (by decide) (fun _ => ?_) (fun h => absurd h (by decide))
    refine J_iconst (pc := 12) (v := nI 0) dX8_text_12 (by decide) ?_
    refine J_callV0 (pc := 13) (M := mX8_text) (as := [.int (nI 0)]) dX8_text_13 fw_X8_isThrown_ fl_X8_105 fm_X8_isThrown_ fe_X8_isThrown_ h19 (by decide) rfl rfl rfl (c_X8_isThrown_ hs (d := d - 1) (Nat.le_trans (by decide) hdm) (w := w) (n := n) (mv := mv) (rw := rw) (nx := nx) (b := b) (bt := bt) (kn := kn) (en := en) (dn := dn) (rf := rf) (kk := kk) (th := th) ⟨h19, h20, h21, h22, hbb, hbl, hb3⟩ hn1 hn2 gm gr gx 0 (by first | assumption | omega) (kc := 0) (ks := 0)) hdp (st := []) (Nat.le_of_ble_eq_true rfl) rfl (kr_I fun v3 w3 hv3 hw3 => ?_) kx_I
    obtain ⟨hR3, hFc3⟩ := hw3
    obtain ⟨h19_3, h20_3, h21_3, h22_3, hbb_3, hbl_3, hb3_3⟩ := hR3
    have hF3 := hF.tr hFc3
    subst hv3
    show J X mX8_text d kc ks 16 [some (.ref 19), some (.int (nI q1)), none, none] [.int (nI 0)] w3 _
    refine J_if_eqN (pc := 16) (tgt := 22) dX8_text_16 (by decide) (by decide) (fun _ => ?_) (fun h => absurd h (by decide))
    have q194 := gl h19_3
    have q204 := gl h20_3
    have q214 := gl h21_3
    have q224 := gl h22_3
    have qb4 := gl hbb_3
    have qF4 := hF3.1
    refine J_newO (pc := 22) (M := mX8_text) (fs := [.null, .int (nI 0), .int (nI 0), .int (nI 0)]) dX8_text_22 kC1 fc_X8_146 fi_J4 fz_J4 df_J4 (by omega) (by omega) (fun a22 w4 ha4 hln4 hc4 hne4 => ?_)
    have h19_4 := (hne4 19 (by omega)).trans h19_3
    have h20_4 := (hne4 20 (by omega)).trans h20_3
    have h21_4 := (hne4 21 (by omega)).trans h21_3
    have h22_4 := (hne4 22 (by omega)).trans h22_3
    have hb_4 := (hne4 _ (by omega)).trans hbb_3
    have hF4 := hF3.pu ha4 hln4 hne4
    have qa4 : 23 ≤ a22 := by omega
    have qb4 : a22 ≠ b := by omega
    have qw4 : w.length ≤ a22 := by omega
    refine J_dup (pc := 25) dX8_text_25 rfl ?_
    refine J_callI (pc := 26) (M := mX8_text) (as := []) dX8_text_26 fw_J4_init_da8c8 fl_X8_148 fm_J4_init_da8c8 rfl rfl rfl (c_J4_init_da8c8 hs (d := d - 1) (by omega) (w := w4) a22 hc4 (kc := 1) (ks := 16) (Nat.le_refl _) (Nat.le_refl _)) (by omega) (by omega) (by omega) (st := [.ref a22]) (Nat.le_of_ble_eq_true rfl) rfl (kr_V fun w5 hw5 => ?_) kx_V
    obtain ⟨v5', ys5, hB5, hFc5, hvv5⟩ := hw5
    have hgl5 := hFc5.1
    have hbl5 := hB5.2.2.2.2.1
    have h19_5 := (hFc5.2 19 (by omega) (by omega) (gl h19_4)).trans h19_4
    have h20_5 := (hFc5.2 20 (by omega) (by omega) (gl h20_4)).trans h20_4
    have h21_5 := (hFc5.2 21 (by omega) (by omega) (gl h21_4)).trans h21_4
    have h22_5 := (hFc5.2 22 (by omega) (by omega) (gl h22_4)).trans h22_4
    have hbb_5 := (hFc5.2 b (by omega) (by omega) (gl hb_4)).trans hb_4
    have hF5 := hF4.sb hFc5 (by omega) (by omega)
    refine J_astore_n (pc := 29) dX8_text_29 rfl (by decide) rfl rfl ?_
    show J X mX8_text d (kc - 1 - 1) (ks - 4 - 16) 30 [some (.ref 19), some (.int (nI q1)), some (.ref a22), none] [] w5 _
    refine J_iconst (pc := 30) (v := nI 0) dX8_text_30 (by decide) ?_
    refine J_istore_n (pc := 31) dX8_text_31 rfl (by decide) rfl ?_
    show J X mX8_text d (kc - 1 - 1) (ks - 4 - 16) 32 [some (.ref 19), some (.int (nI q1)), some (.ref a22), some (.int (nI 0))] [] w5 _
    have lp32_6 : ∀ (fuel : Nat) (kc7 ks8 : Nat) (w9 : List jC) (v_32 k_32 : Nat) (b_32 : List Int32) (c3 : Nat), (RM n mv rw nx b bt kn en dn rf kk (nI (tW 0 0)) w9) → (FR b b w w9) → (SBp a22 v_32 (nI 0) k_32 b_32 w9) → (w.length ≤ v_32) → ((620 - b_32.length) / 18 ≤ kc7) → (1240 - 2 * b_32.length ≤ ks8) → (c3 ≤ n) → (k_32 ≤ 2 * c3) → (n - c3 < fuel) → J X mX8_text d kc7 ks8 32 [some (.ref 19), some (.int (nI q1)), some (.ref a22), some (.int (nI c3))] [] w9 (pS (fun w' => ∃ (th' : Int32), RM n mv rw nx b bt kn en dn rf kk th' w' ∧ FR b b w w')) := by
      intro fuellp32_6
      induction fuellp32_6 with
      | zero => intros; omega
      | succ fuellp32_6 ihlp32_6 =>
        intro kc7 ks8 w9 v_32 k_32 b_32 c3 hR10 hF11 hB12 hv13 hr14 hr15 hv32_0 hv32_1 hf16
        obtain ⟨h19_17, h20_17, h21_17, h22_17, hb_17, hbl_17, hb3_17⟩ := hR10
        have qF18 := hF11.1
        refine J_iload_n (pc := 32) dX8_text_32 rfl rfl ?_
        refine J_aload_n (pc := 33) dX8_text_33 rfl rfl rfl ?_
        refine J_get (pc := 34) (k := 0) dX8_text_34 kC9 (by decide) ff_X8_7 h19_17 rfl ?_
        refine J_icmp_geN (pc := 37) (tgt := 71) dX8_text_37 (by decide) (by omega) (by omega) (fun ht19 => ?_) (fun hf20 => ?_)
        · refine J_aload_n (pc := 71) dX8_text_71 rfl rfl rfl ?_
          have hB121 := hB12.2.2.2.1
          have hB321 := hB12.2.2.2.2.2
          refine J_callV (pc := 72) (M := mX8_text) (as := []) dX8_text_72 fw_J4_toString_0e30d fl_X8_158 fm_J4_toString_0e30d fe_J4_toString_0e30d hB12.1 (by decide) rfl rfl rfl (c_J4_toString_0e30d hs (d := d - 1) (by omega) (a := a22) (v := v_32) (c := k_32) (bs := b_32) (w := w9) hB12 (kc := 2) (ks := k_32 + 4) (Nat.le_refl _) (Nat.le_refl _)) (by omega) (by omega) (by omega) (st := []) (Nat.le_of_ble_eq_true rfl) rfl (kr_A fun r21 w21 hw21 => ?_) kx_A
          obtain ⟨hra21, hln21, hne21, vz21, zs21, hco21, hcn21, hyl21⟩ := hw21
          have h19_21 := (hne21 19 (gl h19_17)).trans h19_17
          have h20_21 := (hne21 20 (gl h20_17)).trans h20_17
          have h21_21 := (hne21 21 (gl h21_17)).trans h21_17
          have h22_21 := (hne21 22 (gl h22_17)).trans h22_17
          have hbb_21 := (hne21 b (gl hb_17)).trans hb_17
          have hF21 := hF11.gr hln21 hne21
          exact J_aret (pc := 75) dX8_text_75 rfl rfl rfl ⟨rfl, nI (tW 0 0), ⟨h19_21, h20_21, h21_21, h22_21, hbb_21, hbl_17, hb3_17⟩, hF21⟩
        · refine J_aload_n (pc := 40) dX8_text_40 rfl rfl rfl ?_
          refine J_iload_n (pc := 41) dX8_text_41 rfl rfl ?_
          refine J_if_neN (pc := 42) (tgt := 50) dX8_text_42 (by decide) (by omega) (fun ht22 => ?_) (fun hf23 => ?_)
          · refine J_ldcS (pc := 50) (M := mX8_text) (a := 6) (tx := " ") dX8_text_50 (List.mem_cons_of_mem _ List.mem_cons_self) ?_
            obtain ⟨os24, t24, z24, ho124, ho224, ho324, ho424⟩ := hXO.2.2.2
            have hgf26 := gL_d (k_32 + os24.length) b_32.length
            have hB125 := hB12.2.2.2.1
            have hB225 := hB12.2.2.2.2.1
            have hB325 := hB12.2.2.2.2.2
            refine J_callV (pc := 52) (M := mX8_text) (as := [.retAddr 6]) dX8_text_52 fw_J4_append_15ec4 fl_X8_151 fm_J4_append_15ec4 fe_J4_append_15ec4 hB12.1 (by decide) rfl rfl rfl (c_J4_append_15ec4 hs (d := d - 1) (by omega) (a := a22) (v := v_32) (c := k_32) (bs := b_32) (w := w9) hB12 6 t24 z24 os24 ho124 ho224 ho424 (by omega) (by omega) (kc := ((gL (k_32 + os24.length) b_32.length - b_32.length) / 18)) (ks := (2 * (gL (k_32 + os24.length) b_32.length - b_32.length))) (Nat.le_refl _) (Nat.le_refl _)) (by omega) (by omega) (by omega) (st := []) (Nat.le_of_ble_eq_true rfl) rfl (kr_A fun r25 w25 hw25 => ?_) kx_A
            obtain ⟨hra25, v25', ys25, hB25, hFc25, hvv25, hp25⟩ := hw25
            obtain rfl := hra25.symm
            have hgl25 := hFc25.1
            have hB425 := hB25.2.2.2.1
            have hB525 := hB25.2.2.2.2.2
            have hB625 := hB25.2.2.2.2.1
            have h19_25 := (hFc25.2 19 (by omega) (by omega) (gl h19_17)).trans h19_17
            have h20_25 := (hFc25.2 20 (by omega) (by omega) (gl h20_17)).trans h20_17
            have h21_25 := (hFc25.2 21 (by omega) (by omega) (gl h21_17)).trans h21_17
            have h22_25 := (hFc25.2 22 (by omega) (by omega) (gl h22_17)).trans h22_17
            have hbb_25 := (hFc25.2 b (by omega) (by omega) (gl hb_17)).trans hb_17
            have hF25 := hF11.sb hFc25 (by omega) (by omega)
            refine J_aload_n (pc := 55) dX8_text_55 rfl rfl rfl ?_
            refine J_iload_n (pc := 56) dX8_text_56 rfl rfl ?_
            refine J_iload_n (pc := 57) dX8_text_57 rfl rfl ?_
            refine J_callV0 (pc := 58) (M := mX8_text) (as := [.int (nI q1), .int (nI c3)]) dX8_text_58 fw_X8_at fl_X8_82 fm_X8_at fe_X8_at h19_25 (by decide) rfl rfl rfl (c_X8_at hs (d := d - 1) (Nat.le_trans (by decide) hdm) (w := w25) (n := n) (mv := mv) (rw := rw) (nx := nx) (b := b) (bt := bt) (kn := kn) (en := en) (dn := dn) (rf := rf) (kk := kk) (th := nI (tW 0 0)) ⟨h19_25, h20_25, h21_25, h22_25, hbb_25, hbl_17, hb3_17⟩ hn1 hn2 gm gr gx q1 c3 (by first | assumption | omega) (by first | assumption | omega) (kc := 0) (ks := 0)) hdp (st := [.ref a22]) (Nat.le_of_ble_eq_true rfl) rfl (kr_P fun v27 hv27 => ?_) kx_I
            subst hv27
            have hq28 := gm (q1 * 7 + c3)
            have hgf30 := gL_d ((k_32 + os24.length) + dgs (mv (q1 * 7 + c3))) ys25.length
            have hgf31 := dgs_le (mv (q1 * 7 + c3))
            have hgf32 := dgs_1 (x := mv (q1 * 7 + c3)) (by omega)
            have hB129 := hB25.2.2.2.1
            have hB229 := hB25.2.2.2.2.1
            have hB329 := hB25.2.2.2.2.2
            refine J_callV (pc := 61) (M := mX8_text) (as := [.int (nI (mv (q1 * 7 + c3)))]) dX8_text_61 fw_J4_append_bf812 fl_X8_155 fm_J4_append_bf812 fe_J4_append_bf812 hB25.1 (by decide) rfl rfl rfl (c_J4_append_bf812 hs (d := d - 1) (by omega) hXO (a := a22) (v := v25') (c := k_32 + os24.length) (bs := ys25) (w := w25) hB25 (mv (q1 * 7 + c3)) (by omega) (by omega) (kc := ((gL ((k_32 + os24.length) + dgs (mv (q1 * 7 + c3))) ys25.length - ys25.length) / 18)) (ks := (2 * (gL ((k_32 + os24.length) + dgs (mv (q1 * 7 + c3))) ys25.length - ys25.length))) (Nat.le_refl _) (Nat.le_refl _)) (by omega) (by omega) (by omega) (st := []) (Nat.le_of_ble_eq_true rfl) rfl (kr_A fun r29 w29 hw29 => ?_) kx_A
            obtain ⟨hra29, v29', ys29, hB29, hFc29, hvv29, hp29⟩ := hw29
            obtain rfl := hra29.symm
            have hgl29 := hFc29.1
            have hB429 := hB29.2.2.2.1
            have hB529 := hB29.2.2.2.2.2
            have hB629 := hB29.2.2.2.2.1
            have h19_29 := (hFc29.2 19 (by omega) (by omega) (gl h19_25)).trans h19_25
            have h20_29 := (hFc29.2 20 (by omega) (by omega) (gl h20_25)).trans h20_25
            have h21_29 := (hFc29.2 21 (by omega) (by omega) (gl h21_25)).trans h21_25
            have h22_29 := (hFc29.2 22 (by omega) (by omega) (gl h22_25)).trans h22_25
            have hbb_29 := (hFc29.2 b (by omega) (by omega) (gl hbb_25)).trans hbb_25
            have hF29 := hF25.sb hFc29 (by omega) (by omega)
            refine J_pop (pc := 64) dX8_text_64 rfl ?_
            refine J_iincN (pc := 65) (b := 1) dX8_text_65 rfl (by decide) (by decide) rfl ?_
            show J X mX8_text d (kc7 - ((gL (k_32 + os24.length) b_32.length - b_32.length) / 18) - ((gL ((k_32 + os24.length) + dgs (mv (q1 * 7 + c3))) ys25.length - ys25.length) / 18)) (ks8 - (2 * (gL (k_32 + os24.length) b_32.length - b_32.length)) - (2 * (gL ((k_32 + os24.length) + dgs (mv (q1 * 7 + c3))) ys25.length - ys25.length))) 68 [some (.ref 19), some (.int (nI q1)), some (.ref a22), some (.int (nI (c3 + 1)))] [] w29 _
            refine J_goto (pc := 68) (tgt := 32) dX8_text_68 (by decide) ?_
            exact J_sub (L' := [some (.ref 19), some (.int (nI q1)), some (.ref a22), some (.int (nI (c3 + 1)))]) ⟨rfl, ⟨rfl, ⟨rfl, ⟨rfl, trivial⟩⟩⟩⟩ (ihlp32_6 _ _ w29 v29' (k_32 + os24.length + dgs (mv (q1 * 7 + c3))) ys29 (c3 + 1) ⟨h19_29, h20_29, h21_29, h22_29, hbb_29, hbl_17, hb3_17⟩ hF29 hB29 (by omega) (by first | exact pot_k2 (by assumption) (by assumption) (by assumption) | exact pot_k1 (by assumption) (by assumption) | assumption | omega) (by first | exact pot_s2 (by assumption) (by assumption) (by assumption) | exact pot_s1 (by assumption) (by assumption) | assumption | omega) (by first | assumption | omega) (by first | assumption | omega) (by omega))
          · refine J_ldcS (pc := 45) (M := mX8_text) (a := 5) (tx := "") dX8_text_45 List.mem_cons_self ?_
            refine J_goto (pc := 47) (tgt := 52) dX8_text_47 (by decide) ?_
            obtain ⟨os33, t33, z33, ho133, ho233, ho333, ho433⟩ := hXO.2.2.1
            have hgf35 := gL_d (k_32 + os33.length) b_32.length
            have hB134 := hB12.2.2.2.1
            have hB234 := hB12.2.2.2.2.1
            have hB334 := hB12.2.2.2.2.2
            refine J_callV (pc := 52) (M := mX8_text) (as := [.retAddr 5]) dX8_text_52 fw_J4_append_15ec4 fl_X8_151 fm_J4_append_15ec4 fe_J4_append_15ec4 hB12.1 (by decide) rfl rfl rfl (c_J4_append_15ec4 hs (d := d - 1) (by omega) (a := a22) (v := v_32) (c := k_32) (bs := b_32) (w := w9) hB12 5 t33 z33 os33 ho133 ho233 ho433 (by omega) (by omega) (kc := ((gL (k_32 + os33.length) b_32.length - b_32.length) / 18)) (ks := (2 * (gL (k_32 + os33.length) b_32.length - b_32.length))) (Nat.le_refl _) (Nat.le_refl _)) (by omega) (by omega) (by omega) (st := []) (Nat.le_of_ble_eq_true rfl) rfl (kr_A fun r34 w34 hw34 => ?_) kx_A
            obtain ⟨hra34, v34', ys34, hB34, hFc34, hvv34, hp34⟩ := hw34
            obtain rfl := hra34.symm
            have hgl34 := hFc34.1
            have hB434 := hB34.2.2.2.1
            have hB534 := hB34.2.2.2.2.2
            have hB634 := hB34.2.2.2.2.1
            have h19_34 := (hFc34.2 19 (by omega) (by omega) (gl h19_17)).trans h19_17
            have h20_34 := (hFc34.2 20 (by omega) (by omega) (gl h20_17)).trans h20_17
            have h21_34 := (hFc34.2 21 (by omega) (by omega) (gl h21_17)).trans h21_17
            have h22_34 := (hFc34.2 22 (by omega) (by omega) (gl h22_17)).trans h22_17
            have hbb_34 := (hFc34.2 b (by omega) (by omega) (gl hb_17)).trans hb_17
            have hF34 := hF11.sb hFc34 (by omega) (by omega)
            refine J_aload_n (pc := 55) dX8_text_55 rfl rfl rfl ?_
            refine J_iload_n (pc := 56) dX8_text_56 rfl rfl ?_
            refine J_iload_n (pc := 57) dX8_text_57 rfl rfl ?_
            refine J_callV0 (pc := 58) (M := mX8_text) (as := [.int (nI q1), .int (nI c3)]) dX8_text_58 fw_X8_at fl_X8_82 fm_X8_at fe_X8_at h19_34 (by decide) rfl rfl rfl (c_X8_at hs (d := d - 1) (Nat.le_trans (by decide) hdm) (w := w34) (n := n) (mv := mv) (rw := rw) (nx := nx) (b := b) (bt := bt) (kn := kn) (en := en) (dn := dn) (rf := rf) (kk := kk) (th := nI (tW 0 0)) ⟨h19_34, h20_34, h21_34, h22_34, hbb_34, hbl_17, hb3_17⟩ hn1 hn2 gm gr gx q1 c3 (by first | assumption | omega) (by first | assumption | omega) (kc := 0) (ks := 0)) hdp (st := [.ref a22]) (Nat.le_of_ble_eq_true rfl) rfl (kr_P fun v36 hv36 => ?_) kx_I
            subst hv36
            have hq37 := gm (q1 * 7 + c3)
            have hgf39 := gL_d ((k_32 + os33.length) + dgs (mv (q1 * 7 + c3))) ys34.length
            have hgf40 := dgs_le (mv (q1 * 7 + c3))
            have hgf41 := dgs_1 (x := mv (q1 * 7 + c3)) (by omega)
            have hB138 := hB34.2.2.2.1
            have hB238 := hB34.2.2.2.2.1
            have hB338 := hB34.2.2.2.2.2
            refine J_callV (pc := 61) (M := mX8_text) (as := [.int (nI (mv (q1 * 7 + c3)))]) dX8_text_61 fw_J4_append_bf812 fl_X8_155 fm_J4_append_bf812 fe_J4_append_bf812 hB34.1 (by decide) rfl rfl rfl (c_J4_append_bf812 hs (d := d - 1) (by omega) hXO (a := a22) (v := v34') (c := k_32 + os33.length) (bs := ys34) (w := w34) hB34 (mv (q1 * 7 + c3)) (by omega) (by omega) (kc := ((gL ((k_32 + os33.length) + dgs (mv (q1 * 7 + c3))) ys34.length - ys34.length) / 18)) (ks := (2 * (gL ((k_32 + os33.length) + dgs (mv (q1 * 7 + c3))) ys34.length - ys34.length))) (Nat.le_refl _) (Nat.le_refl _)) (by omega) (by omega) (by omega) (st := []) (Nat.le_of_ble_eq_true rfl) rfl (kr_A fun r38 w38 hw38 => ?_) kx_A
            obtain ⟨hra38, v38', ys38, hB38, hFc38, hvv38, hp38⟩ := hw38
            obtain rfl := hra38.symm
            have hgl38 := hFc38.1
            have hB438 := hB38.2.2.2.1
            have hB538 := hB38.2.2.2.2.2
            have hB638 := hB38.2.2.2.2.1
            have h19_38 := (hFc38.2 19 (by omega) (by omega) (gl h19_34)).trans h19_34
            have h20_38 := (hFc38.2 20 (by omega) (by omega) (gl h20_34)).trans h20_34
            have h21_38 := (hFc38.2 21 (by omega) (by omega) (gl h21_34)).trans h21_34
            have h22_38 := (hFc38.2 22 (by omega) (by omega) (gl h22_34)).trans h22_34
            have hbb_38 := (hFc38.2 b (by omega) (by omega) (gl hbb_34)).trans hbb_34
            have hF38 := hF34.sb hFc38 (by omega) (by omega)
            refine J_pop (pc := 64) dX8_text_64 rfl ?_
            refine J_iincN (pc := 65) (b := 1) dX8_text_65 rfl (by decide) (by decide) rfl ?_
            show J X mX8_text d (kc7 - ((gL (k_32 + os33.length) b_32.length - b_32.length) / 18) - ((gL ((k_32 + os33.length) + dgs (mv (q1 * 7 + c3))) ys34.length - ys34.length) / 18)) (ks8 - (2 * (gL (k_32 + os33.length) b_32.length - b_32.length)) - (2 * (gL ((k_32 + os33.length) + dgs (mv (q1 * 7 + c3))) ys34.length - ys34.length))) 68 [some (.ref 19), some (.int (nI q1)), some (.ref a22), some (.int (nI (c3 + 1)))] [] w38 _
            refine J_goto (pc := 68) (tgt := 32) dX8_text_68 (by decide) ?_
            exact J_sub (L' := [some (.ref 19), some (.int (nI q1)), some (.ref a22), some (.int (nI (c3 + 1)))]) ⟨rfl, ⟨rfl, ⟨rfl, ⟨rfl, trivial⟩⟩⟩⟩ (ihlp32_6 _ _ w38 v38' (k_32 + os33.length + dgs (mv (q1 * 7 + c3))) ys38 (c3 + 1) ⟨h19_38, h20_38, h21_38, h22_38, hbb_38, hbl_17, hb3_17⟩ hF38 hB38 (by omega) (by first | exact pot_k2 (by assumption) (by assumption) (by assumption) | exact pot_k1 (by assumption) (by assumption) | assumption | omega) (by first | exact pot_s2 (by assumption) (by assumption) (by assumption) | exact pot_s1 (by assumption) (by assumption) | assumption | omega) (by first | assumption | omega) (by first | assumption | omega) (by omega))
    exact J_sub (L' := [some (.ref 19), some (.int (nI q1)), some (.ref a22), some (.int (nI 0))]) ⟨rfl, ⟨rfl, ⟨rfl, ⟨rfl, trivial⟩⟩⟩⟩ (lp32_6 _ _ _ w5 v5' 0 ys5 0 ⟨h19_5, h20_5, h21_5, h22_5, hbb_5, hbl_3, hb3_3⟩ hF5 hB5 (by omega) (by omega) (by omega) (by first | assumption | omega) (by first | assumption | omega) (Nat.lt_succ_self _))
set_option maxRecDepth 100000 in
set_option maxHeartbeats 40000000 in
theorem c_X8_rings {X : jX} (hs : X.1.stackTraces = false) {d : Nat} (hd : 15 ≤ d) (hXO : XO X) {n : Nat} {mv rw nx : Nat → Nat} {b : Nat} {bt : List Int32} {kn en dn rf kk th : Int32} {w : List jC} (hR : RM n mv rw nx b bt kn en dn rf kk th w) (hn1 : 2 ≤ n) (hn2 : n ≤ 7) (gm : ∀ i, mv i < 7) (gr : ∀ i, rw i < 7) (gx : ∀ i, nx i < 7) (a : Int32) (hy0 : PM n mv) {kc ks : Nat} (hkc : 40 ≤ kc) (hks : 1500 ≤ ks) : jMet X mX8_rings d kc ks [.ref 19, .int a] w (pS (fun w' => ∃ (th' : Int32), RM n mv rw nx b bt kn en dn rf kk th' w' ∧ FR b b w w')) := by
  refine jMet_of hs (by decide +kernel) (Nat.le_of_ble_eq_true rfl) (L := [some (.ref 19), some (.int a)]) rfl ?_
  have hdm : 14 ≤ d - 1 := by omega
  have hdp : d - 1 + 1 ≤ d := by omega
  have hfc := fc_7 hn2
  have hfp := fc_pos n
  obtain ⟨h19, h20, h21, h22, hbb, hbl, hb3⟩ := hR
  have hF : FR b b w w := FR.rf
  have qL0 := gl h22
  have qL1 := gl hbb
  refine J_aload_n (pc := 0) dX8_rings_0 rfl rfl rfl ?_
  refine J_iload_n (pc := 1) dX8_rings_1 rfl rfl ?_
  refine J_callS0 (pc := 2) (M := mX8_rings) (as := [.int a]) dX8_rings_2 fw_X8_isCell fl_X8_108 fs_X8_isCell rfl (c_X8_isCell hs (d := d - 1) (Nat.le_trans (by decide) hdm) (w := w) a (kc := 0) (ks := 0)) hdp (st := [.ref 19]) (Nat.le_of_ble_eq_true rfl) rfl (kr_P fun v1 hv1 => ?_) kx_I
  rcases hv1 with ⟨rfl, hk1_0⟩ | ⟨q1, rfl, hk1_0, rfl⟩
  · refine J_if_neN (pc := 5) (tgt := 12) dX8_rings_5 (by decide) (by decide) (fun h => absurd h (by decide)) (fun _ => ?_)
    refine J_iconst (pc := 8) (v := nI 1) dX8_rings_8 (by decide) ?_
    refine J_goto (pc := 9) (tgt := 13) dX8_rings_9 (by decide) ?_
    refine J_callV0 (pc := 13) (M := mX8_rings) (as := [.int (nI 1)]) dX8_rings_13 fw_X8_isThrown_ fl_X8_105 fm_X8_isThrown_ fe_X8_isThrown_ h19 (by decide) rfl rfl rfl (c_X8_isThrown_ hs (d := d - 1) (Nat.le_trans (by decide) hdm) (w := w) (n := n) (mv := mv) (rw := rw) (nx := nx) (b := b) (bt := bt) (kn := kn) (en := en) (dn := dn) (rf := rf) (kk := kk) (th := th) ⟨h19, h20, h21, h22, hbb, hbl, hb3⟩ hn1 hn2 gm gr gx 1 (by first | assumption | omega) (kc := 0) (ks := 0)) hdp (st := []) (Nat.le_of_ble_eq_true rfl) rfl (kr_I fun v2 w2 hv2 hw2 => ?_) kx_I
    obtain ⟨hR2, hFc2⟩ := hw2
    obtain ⟨h19_2, h20_2, h21_2, h22_2, hbb_2, hbl_2, hb3_2⟩ := hR2
    have hF2 := hF.tr hFc2
    subst hv2
    show J X mX8_rings d kc ks 16 [some (.ref 19), some (.int a)] [.int (nI 1)] w2 _
    refine J_if_eqN (pc := 16) (tgt := 24) dX8_rings_16 (by decide) (by decide) (fun h => absurd h (by decide)) (fun _ => ?_)
    refine J_ldcS (pc := 19) (M := mX8_rings) (a := 5) (tx := "") dX8_rings_19 List.mem_cons_self ?_
    refine J_goto (pc := 21) (tgt := 29) dX8_rings_21 (by decide) ?_
    exact J_aret (pc := 29) dX8_rings_29 rfl rfl rfl ⟨rfl, nI (tW 1 0), ⟨h19_2, h20_2, h21_2, h22_2, hbb_2, hbl_2, hb3_2⟩, hF2⟩
  · refine J_if_neN (pc := 5) (tgt := 12) dX8_rings_5 (by decide) (by decide) (fun _ => ?_) (fun h => absurd h (by decide))
    refine J_iconst (pc := 12) (v := nI 0) dX8_rings_12 (by decide) ?_
    refine J_callV0 (pc := 13) (M := mX8_rings) (as := [.int (nI 0)]) dX8_rings_13 fw_X8_isThrown_ fl_X8_105 fm_X8_isThrown_ fe_X8_isThrown_ h19 (by decide) rfl rfl rfl (c_X8_isThrown_ hs (d := d - 1) (Nat.le_trans (by decide) hdm) (w := w) (n := n) (mv := mv) (rw := rw) (nx := nx) (b := b) (bt := bt) (kn := kn) (en := en) (dn := dn) (rf := rf) (kk := kk) (th := th) ⟨h19, h20, h21, h22, hbb, hbl, hb3⟩ hn1 hn2 gm gr gx 0 (by first | assumption | omega) (kc := 0) (ks := 0)) hdp (st := []) (Nat.le_of_ble_eq_true rfl) rfl (kr_I fun v3 w3 hv3 hw3 => ?_) kx_I
    obtain ⟨hR3, hFc3⟩ := hw3
    obtain ⟨h19_3, h20_3, h21_3, h22_3, hbb_3, hbl_3, hb3_3⟩ := hR3
    have hF3 := hF.tr hFc3
    subst hv3
    show J X mX8_rings d kc ks 16 [some (.ref 19), some (.int (nI q1))] [.int (nI 0)] w3 _
    refine J_if_eqN (pc := 16) (tgt := 24) dX8_rings_16 (by decide) (by decide) (fun _ => ?_) (fun h => absurd h (by decide))
    refine J_aload_n (pc := 24) dX8_rings_24 rfl rfl rfl ?_
    refine J_iload_n (pc := 25) dX8_rings_25 rfl rfl ?_
    refine J_callV (pc := 26) (M := mX8_rings) (as := [.int (nI q1)]) dX8_rings_26 fw_X8_ringsNow fl_X8_168 fm_X8_ringsNow fe_X8_ringsNow h19_3 (by decide) rfl rfl rfl (c_X8_ringsNow hs (d := d - 1) (by omega) hXO (w := w3) (n := n) (mv := mv) (rw := rw) (nx := nx) (b := b) (bt := bt) (kn := kn) (en := en) (dn := dn) (rf := rf) (kk := kk) (th := nI (tW 0 0)) ⟨h19_3, h20_3, h21_3, h22_3, hbb_3, hbl_3, hb3_3⟩ hn1 hn2 gm gr gx q1 (by omega) (by assumption) (kc := 40) (ks := 1500) (Nat.le_refl _) (Nat.le_refl _)) (by omega) (by omega) (by omega) (st := []) (Nat.le_of_ble_eq_true rfl) rfl (kr_A fun r4 w4 hw4 => ?_) kx_A
    obtain ⟨hR4, hFc4, vz4, zs4, hco4, hcn4, hyl4⟩ := hw4
    obtain ⟨h19_4, h20_4, h21_4, h22_4, hbb_4, hbl_4, hb3_4⟩ := hR4
    have hF4 := hF3.tr hFc4
    exact J_aret (pc := 29) dX8_rings_29 rfl rfl rfl ⟨rfl, nI (tW 0 0), ⟨h19_4, h20_4, h21_4, h22_4, hbb_4, hbl_4, hb3_4⟩, hF4⟩
