/-! texts of the reference -/
set_option maxRecDepth 100000 in
set_option maxHeartbeats 40000000 in
theorem c_X8_digest {X : jX} (hs : X.1.stackTraces = false) {d : Nat} (hd : 16 ≤ d) (hXO : XO X) {n : Nat} {mv rw nx : Nat → Nat} {b : Nat} {bt : List Int32} {kn en dn rf kk th : Int32} {w : List jC} (hR : RM n mv rw nx b bt kn en dn rf kk th w) (hn1 : 2 ≤ n) (hn2 : n ≤ 7) (gm : ∀ i, mv i < 7) (gr : ∀ i, rw i < 7) (gx : ∀ i, nx i < 7) (hy0 : PM n mv) (hy1 : KX n mv kn bt) {kc ks : Nat} (hkc : 330 ≤ kc) (hks : 26000 ≤ ks) : jMet X mX8_digest d kc ks [.ref 19] w (pL (fun _ => True) (fun w' => ∃ (rw' : Nat → Nat), ∃ (nx' : Nat → Nat), ∃ (b' : Nat), ∃ (bt' : List Int32), ∃ (kn' : Int32), ∃ (en' : Int32), ∃ (th' : Int32), RM n mv rw' nx' b' bt' kn' en' dn rf kk th' w' ∧ FR b b' w w' ∧ (∀ i, rw' i < 7) ∧ (∀ i, nx' i < 7) ∧ KX n mv kn' bt')) := by
  refine jMet_of hs (by decide +kernel) (Nat.le_of_ble_eq_true rfl) (L := [some (.ref 19), none, none, none]) rfl ?_
  have hdm : 15 ≤ d - 1 := by omega
  have hdp : d - 1 + 1 ≤ d := by omega
  have hfc := fc_7 hn2
  have hfp := fc_pos n
  obtain ⟨h19, h20, h21, h22, hbb, hbl, hb3⟩ := hR
  have hF : FR b b w w := FR.rf
  refine J_aload_n (pc := 0) dX8_digest_0 rfl rfl rfl ?_
  refine J_iconst (pc := 1) (v := nI 0) dX8_digest_1 (by decide) ?_
  refine J_putW (pc := 2) (k := 10) dX8_digest_2 kC9 (by decide) ff_X8_32 (Or.inl rfl) ⟨rfl, rfl⟩ h19 (by show 10 < 11; decide) (fun w1 hln1 hw1 hne1 => ?_)
  have h19_1 : w1[19]? = some (.inr (9, [.int (nI n), .ref 20, .ref 21, .ref 22, .ref b, .int kn, .int en, .int dn, .int rf, .int kk, .int (nI 0)])) := hw1
  have h20_1 := (hne1 20 (by decide)).trans h20
  have h21_1 := (hne1 21 (by decide)).trans h21
  have h22_1 := (hne1 22 (by decide)).trans h22
  have hb_1 := (hne1 _ (Nat.ne_of_gt (Nat.lt_of_lt_of_le (by decide) hb3))).trans hbb
  have hF1 := hF.st hln1 hne1 (Or.inl (by decide))
  refine J_ldc2 (pc := 5) dX8_digest_5 fk_X8_237 (J_absL fun y2 => ?_)
  refine J_aload_n (pc := 8) dX8_digest_8 rfl rfl rfl ?_
  refine J_get (pc := 9) (k := 0) dX8_digest_9 kC9 (by decide) ff_X8_7 h19_1 rfl ?_
  refine J_i2l (pc := 12) dX8_digest_12 (J_absL fun y3 => ?_)
  refine J_ladd (pc := 13) dX8_digest_13 (J_absL fun y4 => ?_)
  refine J_lstore_n (pc := 14) dX8_digest_14 rfl (by decide) rfl ?_
  show J X mX8_digest d kc ks 15 [some (.ref 19), some (.long y4), none, none] [] w1 _
  refine J_iconst (pc := 15) (v := nI 0) dX8_digest_15 (by decide) ?_
  refine J_istore_n (pc := 16) dX8_digest_16 rfl (by decide) rfl ?_
  show J X mX8_digest d kc ks 17 [some (.ref 19), some (.long y4), none, some (.int (nI 0))] [] w1 _
  have lp17_5 : ∀ (fuel : Nat) (kc6 ks7 : Nat) (w8 : List jC) (y1 : Int64) (c3 : Nat), (RM n mv rw nx b bt kn en dn rf kk (nI 0) w8) → (FR b b w w8) → ((6 - c3) * 40 + 80 ≤ kc6) → ((6 - c3) * 1500 + 16700 ≤ ks7) → (c3 ≤ 6) → (6 - c3 < fuel) → J X mX8_digest d kc6 ks7 17 [some (.ref 19), some (.long y1), none, some (.int (nI c3))] [] w8 (pL (fun _ => True) (fun w' => ∃ (rw' : Nat → Nat), ∃ (nx' : Nat → Nat), ∃ (b' : Nat), ∃ (bt' : List Int32), ∃ (kn' : Int32), ∃ (en' : Int32), ∃ (th' : Int32), RM n mv rw' nx' b' bt' kn' en' dn rf kk th' w' ∧ FR b b' w w' ∧ (∀ i, rw' i < 7) ∧ (∀ i, nx' i < 7) ∧ KX n mv kn' bt')) := by
    intro fuellp17_5
    induction fuellp17_5 with
    | zero => intros; omega
    | succ fuellp17_5 ihlp17_5 =>
      intro kc6 ks7 w8 y1 c3 hR9 hF10 hr11 hr12 hv17_0 hf13
      obtain ⟨h19_14, h20_14, h21_14, h22_14, hb_14, hbl_14, hb3_14⟩ := hR9
      refine J_iload_n (pc := 17) dX8_digest_17 rfl rfl ?_
      refine J_bipush (pc := 18) (v := nI 6) dX8_digest_18 (by decide) ?_
      refine J_icmp_geN (pc := 20) (tgt := 112) dX8_digest_20 (by decide) (by omega) (by omega) (fun ht15 => ?_) (fun hf16 => ?_)
      · refine J_lload_n (pc := 112) dX8_digest_112 rfl rfl ?_
        refine J_ldc2 (pc := 113) dX8_digest_113 fk_X8_239 (J_absL fun y17 => ?_)
        refine J_lmul (pc := 116) dX8_digest_116 (J_absL fun y18 => ?_)
        refine J_aload_n (pc := 117) dX8_digest_117 rfl rfl rfl ?_
        refine J_bipush (pc := 118) (v := nI 63) dX8_digest_118 (by decide) ?_
        refine J_callV (pc := 120) (M := mX8_digest) (as := [.int (nI 63)]) dX8_digest_120 fw_X8_sizeOf fl_X8_178 fm_X8_sizeOf fe_X8_sizeOf h19_14 (by decide) rfl rfl rfl (c_X8_sizeOf hs (d := d - 1) (Nat.le_trans (by decide) hdm) (w := w8) (n := n) (mv := mv) (rw := rw) (nx := nx) (b := b) (bt := bt) (kn := kn) (en := en) (dn := dn) (rf := rf) (kk := kk) (th := nI 0) ⟨h19_14, h20_14, h21_14, h22_14, hb_14, hbl_14, hb3_14⟩ hn1 hn2 gm gr gx 63 (by first | assumption | omega) (by first | assumption | omega) (by first | assumption | omega) (kc := 13) (ks := 2054) (Nat.le_refl _) (Nat.le_refl _)) hdp (by omega) (by omega) (st := [.long y18]) (Nat.le_of_ble_eq_true rfl) rfl (kr_I fun v19 w19 hv19 hw19 => ?_) kx_I
        obtain ⟨rw19, nx19, b19, bt19, kn19, en19, hR19, hFc19, hgrw19, hgnx19, hp19_0, hp19_1⟩ := hw19
        obtain ⟨h19_19, h20_19, h21_19, h22_19, hbb_19, hbl_19, hb3_19⟩ := hR19
        have qd19 := hFc19.2.1
        have hF19 := hF10.tr hFc19
        obtain ⟨k19, rfl, hk19⟩ := hv19
        refine J_i2l (pc := 123) dX8_digest_123 (J_absL fun y20 => ?_)
        refine J_ladd (pc := 124) dX8_digest_124 (J_absL fun y21 => ?_)
        refine J_ldc2 (pc := 125) dX8_digest_125 fk_X8_239 (J_absL fun y22 => ?_)
        refine J_lmul (pc := 128) dX8_digest_128 (J_absL fun y23 => ?_)
        refine J_aload_n (pc := 129) dX8_digest_129 rfl rfl rfl ?_
        refine J_bipush (pc := 130) (v := nI 63) dX8_digest_130 (by decide) ?_
        refine J_callV0 (pc := 132) (M := mX8_digest) (as := [.int (nI 63)]) dX8_digest_132 fw_X8_piecesNow fl_X8_191 fm_X8_piecesNow fe_X8_piecesNow h19_19 (by decide) rfl rfl rfl (c_X8_piecesNow hs (d := d - 1) (Nat.le_trans (by decide) hdm) (w := w19) (n := n) (mv := mv) (rw := rw19) (nx := nx19) (b := b19) (bt := bt19) (kn := kn19) (en := en19) (dn := dn) (rf := rf) (kk := kk) (th := nI 0) ⟨h19_19, h20_19, h21_19, h22_19, hbb_19, hbl_19, hb3_19⟩ hn1 hn2 gm hgrw19 hgnx19 63 (by first | assumption | omega) (kc := 0) (ks := 0)) hdp (st := [.long y23]) (Nat.le_of_ble_eq_true rfl) rfl (kr_P fun v24 hv24 => ?_) kx_I
        obtain ⟨k24, rfl, hk24⟩ := hv24
        refine J_i2l (pc := 135) dX8_digest_135 (J_absL fun y25 => ?_)
        refine J_ladd (pc := 136) dX8_digest_136 (J_absL fun y26 => ?_)
        refine J_ldc2 (pc := 137) dX8_digest_137 fk_X8_239 (J_absL fun y27 => ?_)
        refine J_lmul (pc := 140) dX8_digest_140 (J_absL fun y28 => ?_)
        refine J_aload_n (pc := 141) dX8_digest_141 rfl rfl rfl ?_
        refine J_bipush (pc := 142) (v := nI 63) dX8_digest_142 (by decide) ?_
        refine J_callV0 (pc := 144) (M := mX8_digest) (as := [.int (nI 63)]) dX8_digest_144 fw_X8_evenNow fl_X8_194 fm_X8_evenNow fe_X8_evenNow h19_19 (by decide) rfl rfl rfl (c_X8_evenNow_atk hs (d := d - 1) (Nat.le_trans (by decide) hdm) (w := w19) (n := n) (mv := mv) (rw := rw19) (nx := nx19) (b := b19) (bt := bt19) (kn := kn19) (en := en19) (dn := dn) (rf := rf) (kk := kk) (th := nI 0) ⟨h19_19, h20_19, h21_19, h22_19, hbb_19, hbl_19, hb3_19⟩ hn1 hn2 gm hgrw19 hgnx19 63 (by first | assumption | omega) (by first | assumption | omega) (by first | assumption | omega) (by first | assumption | omega) (kc := 0) (ks := 0)) hdp (st := [.long y28]) (Nat.le_of_ble_eq_true rfl) rfl (kr_I fun v29 w29 hv29 hw29 => ?_) kx_I
        obtain ⟨rw29, hR29, hFc29, hgrw29⟩ := hw29
        obtain ⟨h19_29, h20_29, h21_29, h22_29, hbb_29, hbl_29, hb3_29⟩ := hR29
        have hF29 := hF19.tr hFc29
        refine J_i2l (pc := 147) dX8_digest_147 (J_absL fun y30 => ?_)
        refine J_ladd (pc := 148) dX8_digest_148 (J_absL fun y31 => ?_)
        refine J_lstore_n (pc := 149) dX8_digest_149 rfl (by decide) rfl ?_
        show J X mX8_digest d (kc6 - 13) (ks7 - 2054) 150 [some (.ref 19), some (.long y31), none, some (.int (nI c3))] [] w29 _
        refine J_lload_n (pc := 150) dX8_digest_150 rfl rfl ?_
        refine J_ldc2 (pc := 151) dX8_digest_151 fk_X8_239 (J_absL fun y32 => ?_)
        refine J_lmul (pc := 154) dX8_digest_154 (J_absL fun y33 => ?_)
        refine J_aload_n (pc := 155) dX8_digest_155 rfl rfl rfl ?_
        refine J_bipush (pc := 156) (v := nI 63) dX8_digest_156 (by decide) ?_
        refine J_callV (pc := 158) (M := mX8_digest) (as := [.int (nI 63)]) dX8_digest_158 fw_X8_enoughNow fl_X8_224 fm_X8_enoughNow fe_X8_enoughNow h19_29 (by decide) rfl rfl rfl (c_X8_enoughNow hs (d := d - 1) (Nat.le_trans (by decide) hdm) (w := w29) (n := n) (mv := mv) (rw := rw29) (nx := nx19) (b := b19) (bt := bt19) (kn := kn19) (en := en19) (dn := dn) (rf := rf) (kk := kk) (th := nI 0) ⟨h19_29, h20_29, h21_29, h22_29, hbb_29, hbl_29, hb3_29⟩ hn1 hn2 gm hgrw29 hgnx19 63 (by first | assumption | omega) (by first | assumption | omega) (by exact KX_i (by assumption) (by omega) (by first | rfl | assumption)) (kc := 13) (ks := 2054) (Nat.le_refl _) (Nat.le_refl _)) hdp (by omega) (by omega) (st := [.long y33]) (Nat.le_of_ble_eq_true rfl) rfl (kr_I fun v34 w34 hv34 hw34 => ?_) kx_I
        obtain ⟨rw34, nx34, b34, bt34, kn34, en34, hR34, hFc34, hgrw34, hgnx34, hp34_0, hp34_1⟩ := hw34
        obtain ⟨h19_34, h20_34, h21_34, h22_34, hbb_34, hbl_34, hb3_34⟩ := hR34
        have qd34 := hFc34.2.1
        have hF34 := hF29.tr hFc34
        refine J_i2l (pc := 161) dX8_digest_161 (J_absL fun y35 => ?_)
        refine J_ladd (pc := 162) dX8_digest_162 (J_absL fun y36 => ?_)
        refine J_lstore_n (pc := 163) dX8_digest_163 rfl (by decide) rfl ?_
        show J X mX8_digest d (kc6 - 13 - 13) (ks7 - 2054 - 2054) 164 [some (.ref 19), some (.long y36), none, some (.int (nI c3))] [] w34 _
        refine J_iconst (pc := 164) (v := nI 0) dX8_digest_164 (by decide) ?_
        refine J_istore_n (pc := 165) dX8_digest_165 rfl (by decide) rfl ?_
        show J X mX8_digest d (kc6 - 13 - 13) (ks7 - 2054 - 2054) 166 [some (.ref 19), some (.long y36), none, some (.int (nI 0))] [] w34 _
        have lp166_37 : ∀ (fuel : Nat) (w38 : List jC) (rw_166 : Nat → Nat) (y1 : Int64) (c3 : Nat), (RM n mv rw_166 nx34 b34 bt34 kn34 en34 dn rf kk (nI 0) w38) → (FR b b34 w w38) → (∀ i, rw_166 i < 7) → (c3 ≤ n) → (n - c3 < fuel) → J X mX8_digest d (kc6 - 13 - 13) (ks7 - 2054 - 2054) 166 [some (.ref 19), some (.long y1), none, some (.int (nI c3))] [] w38 (pL (fun _ => True) (fun w' => ∃ (rw' : Nat → Nat), ∃ (nx' : Nat → Nat), ∃ (b' : Nat), ∃ (bt' : List Int32), ∃ (kn' : Int32), ∃ (en' : Int32), ∃ (th' : Int32), RM n mv rw' nx' b' bt' kn' en' dn rf kk th' w' ∧ FR b b' w w' ∧ (∀ i, rw' i < 7) ∧ (∀ i, nx' i < 7) ∧ KX n mv kn' bt')) := by
          intro fuellp166_37
          induction fuellp166_37 with
          | zero => intros; omega
          | succ fuellp166_37 ihlp166_37 =>
            intro w38 rw_166 y1 c3 hR39 hF40 gr41 hv166_0 hf42
            obtain ⟨h19_43, h20_43, h21_43, h22_43, hb_43, hbl_43, hb3_43⟩ := hR39
            refine J_iload_n (pc := 166) dX8_digest_166 rfl rfl ?_
            refine J_aload_n (pc := 167) dX8_digest_167 rfl rfl rfl ?_
            refine J_get (pc := 168) (k := 0) dX8_digest_168 kC9 (by decide) ff_X8_7 h19_43 rfl ?_
            refine J_icmp_geN (pc := 171) (tgt := 196) dX8_digest_171 (by decide) (by omega) (by omega) (fun ht44 => ?_) (fun hf45 => ?_)
            · refine J_iconst (pc := 196) (v := nI 0) dX8_digest_196 (by decide) ?_
              refine J_istore_n (pc := 197) dX8_digest_197 rfl (by decide) rfl ?_
              show J X mX8_digest d (kc6 - 13 - 13) (ks7 - 2054 - 2054) 198 [some (.ref 19), some (.long y1), none, some (.int (nI 0))] [] w38 _
              have lp198_46 : ∀ (fuel : Nat) (y1 : Int64) (c3 : Nat), (c3 ≤ 3) → (3 - c3 < fuel) → J X mX8_digest d (kc6 - 13 - 13) (ks7 - 2054 - 2054) 198 [some (.ref 19), some (.long y1), none, some (.int (nI c3))] [] w38 (pL (fun _ => True) (fun w' => ∃ (rw' : Nat → Nat), ∃ (nx' : Nat → Nat), ∃ (b' : Nat), ∃ (bt' : List Int32), ∃ (kn' : Int32), ∃ (en' : Int32), ∃ (th' : Int32), RM n mv rw' nx' b' bt' kn' en' dn rf kk th' w' ∧ FR b b' w w' ∧ (∀ i, rw' i < 7) ∧ (∀ i, nx' i < 7) ∧ KX n mv kn' bt')) := by
                intro fuellp198_46
                induction fuellp198_46 with
                | zero => intros; omega
                | succ fuellp198_46 ihlp198_46 =>
                  intro y1 c3 hv198_0 hf47
                  refine J_iload_n (pc := 198) dX8_digest_198 rfl rfl ?_
                  refine J_iconst (pc := 199) (v := nI 3) dX8_digest_199 (by decide) ?_
                  refine J_icmp_geN (pc := 200) (tgt := 222) dX8_digest_200 (by decide) (by omega) (by omega) (fun ht48 => ?_) (fun hf49 => ?_)
                  · refine J_lload_n (pc := 222) dX8_digest_222 rfl rfl ?_
                    refine J_ldc2 (pc := 223) dX8_digest_223 fk_X8_239 (J_absL fun y50 => ?_)
                    refine J_lmul (pc := 226) dX8_digest_226 (J_absL fun y51 => ?_)
                    refine J_aload_n (pc := 227) dX8_digest_227 rfl rfl rfl ?_
                    refine J_callV (pc := 228) (M := mX8_digest) (as := []) dX8_digest_228 fw_X8_isSoundNow fl_X8_233 fm_X8_isSoundNow fe_X8_isSoundNow h19_43 (by decide) rfl rfl rfl (c_X8_isSoundNow hs (d := d - 1) (Nat.le_trans (by decide) hdm) (w := w38) (n := n) (mv := mv) (rw := rw_166) (nx := nx34) (b := b34) (bt := bt34) (kn := kn34) (en := en34) (dn := dn) (rf := rf) (kk := kk) (th := nI 0) ⟨h19_43, h20_43, h21_43, h22_43, hb_43, hbl_43, hb3_43⟩ hn1 hn2 gm gr41 hgnx34 (by first | assumption | omega) (by exact KX_i (by assumption) (by omega) (by first | rfl | assumption)) (kc := 15) (ks := 6428) (Nat.le_refl _) (Nat.le_refl _)) hdp (by omega) (by omega) (st := [.long y51]) (Nat.le_of_ble_eq_true rfl) rfl (kr_I fun v52 w52 hv52 hw52 => ?_) kx_I
                    obtain ⟨rw52, nx52, b52, bt52, kn52, en52, hR52, hFc52, hgrw52, hgnx52, hp52_0⟩ := hw52
                    obtain ⟨h19_52, h20_52, h21_52, h22_52, hbb_52, hbl_52, hb3_52⟩ := hR52
                    have qd52 := hFc52.2.1
                    have hF52 := hF40.tr hFc52
                    obtain ⟨k52, rfl, hk52⟩ := hv52
                    refine J_if_eqN (pc := 231) (tgt := 238) dX8_digest_231 (by decide) (by omega) (fun ht53 => ?_) (fun hf54 => ?_)
                    · refine J_iconst (pc := 238) (v := nI 0) dX8_digest_238 (by decide) ?_
                      refine J_i2l (pc := 239) dX8_digest_239 (J_absL fun y55 => ?_)
                      refine J_ladd (pc := 240) dX8_digest_240 (J_absL fun y56 => ?_)
                      exact J_lret (pc := 241) dX8_digest_241 rfl ⟨trivial, ⟨rw52, nx52, b52, bt52, kn52, en52, nI 0, ⟨h19_52, h20_52, h21_52, h22_52, hbb_52, hbl_52, hb3_52⟩, hF52, hgrw52, hgnx52, (by first | assumption | exact KX_i (by assumption) (by omega) (by first | rfl | assumption))⟩⟩
                    · refine J_iconst (pc := 234) (v := nI 1) dX8_digest_234 (by decide) ?_
                      refine J_goto (pc := 235) (tgt := 239) dX8_digest_235 (by decide) ?_
                      refine J_i2l (pc := 239) dX8_digest_239 (J_absL fun y57 => ?_)
                      refine J_ladd (pc := 240) dX8_digest_240 (J_absL fun y58 => ?_)
                      exact J_lret (pc := 241) dX8_digest_241 rfl ⟨trivial, ⟨rw52, nx52, b52, bt52, kn52, en52, nI 0, ⟨h19_52, h20_52, h21_52, h22_52, hbb_52, hbl_52, hb3_52⟩, hF52, hgrw52, hgnx52, (by first | assumption | exact KX_i (by assumption) (by omega) (by first | rfl | assumption))⟩⟩
                  · refine J_lload_n (pc := 203) dX8_digest_203 rfl rfl ?_
                    refine J_ldc2 (pc := 204) dX8_digest_204 fk_X8_239 (J_absL fun y59 => ?_)
                    refine J_lmul (pc := 207) dX8_digest_207 (J_absL fun y60 => ?_)
                    refine J_aload_n (pc := 208) dX8_digest_208 rfl rfl rfl ?_
                    refine J_iload_n (pc := 209) dX8_digest_209 rfl rfl ?_
                    refine J_callV0 (pc := 210) (M := mX8_digest) (as := [.int (nI c3)]) dX8_digest_210 fw_X8_houseNow fl_X8_230 fm_X8_houseNow fe_X8_houseNow h19_43 (by decide) rfl rfl rfl (c_X8_houseNow hs (d := d - 1) (Nat.le_trans (by decide) hdm) (w := w38) (n := n) (mv := mv) (rw := rw_166) (nx := nx34) (b := b34) (bt := bt34) (kn := kn34) (en := en34) (dn := dn) (rf := rf) (kk := kk) (th := nI 0) ⟨h19_43, h20_43, h21_43, h22_43, hb_43, hbl_43, hb3_43⟩ hn1 hn2 gm gr41 hgnx34 (nI c3) (kc := 0) (ks := 0)) hdp (st := [.long y60]) (Nat.le_of_ble_eq_true rfl) rfl (kr_P fun v61 hv61 => ?_) kx_I
                    refine J_i2l (pc := 213) dX8_digest_213 (J_absL fun y62 => ?_)
                    refine J_ladd (pc := 214) dX8_digest_214 (J_absL fun y63 => ?_)
                    refine J_lstore_n (pc := 215) dX8_digest_215 rfl (by decide) rfl ?_
                    show J X mX8_digest d (kc6 - 13 - 13) (ks7 - 2054 - 2054) 216 [some (.ref 19), some (.long y63), none, some (.int (nI c3))] [] w38 _
                    refine J_iincN (pc := 216) (b := 1) dX8_digest_216 rfl (by decide) (by decide) rfl ?_
                    show J X mX8_digest d (kc6 - 13 - 13) (ks7 - 2054 - 2054) 219 [some (.ref 19), some (.long y63), none, some (.int (nI (c3 + 1)))] [] w38 _
                    refine J_goto (pc := 219) (tgt := 198) dX8_digest_219 (by decide) ?_
                    exact J_sub (L' := [some (.ref 19), some (.long y63), none, some (.int (nI (c3 + 1)))]) ⟨rfl, ⟨rfl, ⟨rfl, trivial⟩⟩⟩ (ihlp198_46 y63 (c3 + 1) (by first | assumption | omega) (by omega))
              exact J_sub (L' := [some (.ref 19), some (.long y1), none, some (.int (nI 0))]) ⟨rfl, ⟨rfl, ⟨rfl, trivial⟩⟩⟩ (lp198_46 _ y1 0 (by first | assumption | omega) (Nat.lt_succ_self _))
            · refine J_lload_n (pc := 174) dX8_digest_174 rfl rfl ?_
              refine J_ldc2 (pc := 175) dX8_digest_175 fk_X8_239 (J_absL fun y64 => ?_)
              refine J_lmul (pc := 178) dX8_digest_178 (J_absL fun y65 => ?_)
              refine J_aload_n (pc := 179) dX8_digest_179 rfl rfl rfl ?_
              refine J_bipush (pc := 180) (v := nI 63) dX8_digest_180 (by decide) ?_
              refine J_iconst (pc := 182) (v := nI 0) dX8_digest_182 (by decide) ?_
              refine J_iload_n (pc := 183) dX8_digest_183 rfl rfl ?_
              refine J_callV0 (pc := 184) (M := mX8_digest) (as := [.int (nI 63), .int (nI 0), .int (nI c3)]) dX8_digest_184 fw_X8_reachNow fl_X8_181 fm_X8_reachNow fe_X8_reachNow h19_43 (by decide) rfl rfl rfl (c_X8_reachNow_atk hs (d := d - 1) (Nat.le_trans (by decide) hdm) (w := w38) (n := n) (mv := mv) (rw := rw_166) (nx := nx34) (b := b34) (bt := bt34) (kn := kn34) (en := en34) (dn := dn) (rf := rf) (kk := kk) (th := nI 0) ⟨h19_43, h20_43, h21_43, h22_43, hb_43, hbl_43, hb3_43⟩ hn1 hn2 gm gr41 hgnx34 63 0 c3 (by first | assumption | omega) (by first | assumption | omega) (by first | assumption | omega) (by first | assumption | omega) (by first | assumption | omega) (by first | assumption | omega) (kc := 0) (ks := 0)) hdp (st := [.long y65]) (Nat.le_of_ble_eq_true rfl) rfl (kr_I fun v66 w66 hv66 hw66 => ?_) kx_I
              obtain ⟨rw66, hR66, hFc66, hgrw66⟩ := hw66
              obtain ⟨h19_66, h20_66, h21_66, h22_66, hbb_66, hbl_66, hb3_66⟩ := hR66
              have hF66 := hF40.tr hFc66
              refine J_i2l (pc := 187) dX8_digest_187 (J_absL fun y67 => ?_)
              refine J_ladd (pc := 188) dX8_digest_188 (J_absL fun y68 => ?_)
              refine J_lstore_n (pc := 189) dX8_digest_189 rfl (by decide) rfl ?_
              show J X mX8_digest d (kc6 - 13 - 13) (ks7 - 2054 - 2054) 190 [some (.ref 19), some (.long y68), none, some (.int (nI c3))] [] w66 _
              refine J_iincN (pc := 190) (b := 1) dX8_digest_190 rfl (by decide) (by decide) rfl ?_
              show J X mX8_digest d (kc6 - 13 - 13) (ks7 - 2054 - 2054) 193 [some (.ref 19), some (.long y68), none, some (.int (nI (c3 + 1)))] [] w66 _
              refine J_goto (pc := 193) (tgt := 166) dX8_digest_193 (by decide) ?_
              exact J_sub (L' := [some (.ref 19), some (.long y68), none, some (.int (nI (c3 + 1)))]) ⟨rfl, ⟨rfl, ⟨rfl, trivial⟩⟩⟩ (ihlp166_37 w66 rw66 y68 (c3 + 1) ⟨h19_66, h20_66, h21_66, h22_66, hbb_66, hbl_66, hb3_66⟩ hF66 hgrw66 (by first | assumption | omega) (by omega))
        exact J_sub (L' := [some (.ref 19), some (.long y36), none, some (.int (nI 0))]) ⟨rfl, ⟨rfl, ⟨rfl, trivial⟩⟩⟩ (lp166_37 _ w34 rw34 y36 0 ⟨h19_34, h20_34, h21_34, h22_34, hbb_34, hbl_34, hb3_34⟩ hF34 hgrw34 (by first | assumption | omega) (Nat.lt_succ_self _))
      · refine J_lload_n (pc := 23) dX8_digest_23 rfl rfl ?_
        refine J_ldc2 (pc := 24) dX8_digest_24 fk_X8_239 (J_absL fun y69 => ?_)
        refine J_lmul (pc := 27) dX8_digest_27 (J_absL fun y70 => ?_)
        refine J_aload_n (pc := 28) dX8_digest_28 rfl rfl rfl ?_
        refine J_aload_n (pc := 29) dX8_digest_29 rfl rfl rfl ?_
        refine J_get (pc := 30) (k := 1) dX8_digest_30 kC9 (by decide) ff_X8_13 h19_14 rfl ?_
        refine J_iload_n (pc := 33) dX8_digest_33 rfl rfl ?_
        refine J_bipush (pc := 34) (v := nI 7) dX8_digest_34 (by decide) ?_
        refine J_imulN (pc := 36) dX8_digest_36 ?_
        refine J_callV0 (pc := 37) (M := mX8_digest) (as := [.ref 20, .int (nI (c3 * 7))]) dX8_digest_37 fw_X8_numberOf fl_X8_45 fm_X8_numberOf fe_X8_numberOf h19_14 (by decide) rfl rfl rfl (c_X8_numberOf_at20 hs (d := d - 1) (Nat.le_trans (by decide) hdm) (w := w8) (n := n) (mv := mv) (rw := rw) (nx := nx) (b := b) (bt := bt) (kn := kn) (en := en) (dn := dn) (rf := rf) (kk := kk) (th := nI 0) ⟨h19_14, h20_14, h21_14, h22_14, hb_14, hbl_14, hb3_14⟩ hn1 hn2 gm gr gx (c3 * 7) (by first | assumption | omega) (kc := 0) (ks := 0)) hdp (st := [.long y70]) (Nat.le_of_ble_eq_true rfl) rfl (kr_P fun v71 hv71 => ?_) kx_I
        subst hv71
        have hq72 := nuF_b mv (c3 * 7) n
        refine J_i2l (pc := 40) dX8_digest_40 (J_absL fun y73 => ?_)
        refine J_ladd (pc := 41) dX8_digest_41 (J_absL fun y74 => ?_)
        refine J_ldc2 (pc := 42) dX8_digest_42 fk_X8_239 (J_absL fun y75 => ?_)
        refine J_lmul (pc := 45) dX8_digest_45 (J_absL fun y76 => ?_)
        refine J_aload_n (pc := 46) dX8_digest_46 rfl rfl rfl ?_
        refine J_aload_n (pc := 47) dX8_digest_47 rfl rfl rfl ?_
        refine J_get (pc := 48) (k := 1) dX8_digest_48 kC9 (by decide) ff_X8_13 h19_14 rfl ?_
        refine J_iload_n (pc := 51) dX8_digest_51 rfl rfl ?_
        refine J_bipush (pc := 52) (v := nI 7) dX8_digest_52 (by decide) ?_
        refine J_imulN (pc := 54) dX8_digest_54 ?_
        refine J_callV0 (pc := 55) (M := mX8_digest) (as := [.ref 20, .int (nI (c3 * 7))]) dX8_digest_55 fw_X8_orderOf fl_X8_172 fm_X8_orderOf fe_X8_orderOf h19_14 (by decide) rfl rfl rfl (c_X8_orderOf_at20 hs (d := d - 1) (Nat.le_trans (by decide) hdm) (w := w8) (n := n) (mv := mv) (rw := rw) (nx := nx) (b := b) (bt := bt) (kn := kn) (en := en) (dn := dn) (rf := rf) (kk := kk) (th := nI 0) ⟨h19_14, h20_14, h21_14, h22_14, hb_14, hbl_14, hb3_14⟩ hn1 hn2 gm gr gx (c3 * 7) (by first | assumption | omega) (by exact hy0 c3 (by omega)) (kc := 0) (ks := 0)) hdp (st := [.long y76]) (Nat.le_of_ble_eq_true rfl) rfl (kr_P fun v77 hv77 => ?_) kx_I
        obtain ⟨k77, rfl, hk77⟩ := hv77
        refine J_i2l (pc := 58) dX8_digest_58 (J_absL fun y78 => ?_)
        refine J_ladd (pc := 59) dX8_digest_59 (J_absL fun y79 => ?_)
        refine J_lstore_n (pc := 60) dX8_digest_60 rfl (by decide) rfl ?_
        show J X mX8_digest d kc6 ks7 61 [some (.ref 19), some (.long y79), none, some (.int (nI c3))] [] w8 _
        refine J_lload_n (pc := 61) dX8_digest_61 rfl rfl ?_
        refine J_ldc2 (pc := 62) dX8_digest_62 fk_X8_239 (J_absL fun y80 => ?_)
        refine J_lmul (pc := 65) dX8_digest_65 (J_absL fun y81 => ?_)
        refine J_aload_n (pc := 66) dX8_digest_66 rfl rfl rfl ?_
        refine J_aload_n (pc := 67) dX8_digest_67 rfl rfl rfl ?_
        refine J_get (pc := 68) (k := 1) dX8_digest_68 kC9 (by decide) ff_X8_13 h19_14 rfl ?_
        refine J_iload_n (pc := 71) dX8_digest_71 rfl rfl ?_
        refine J_bipush (pc := 72) (v := nI 7) dX8_digest_72 (by decide) ?_
        refine J_imulN (pc := 74) dX8_digest_74 ?_
        refine J_callV0 (pc := 75) (M := mX8_digest) (as := [.ref 20, .int (nI (c3 * 7))]) dX8_digest_75 fw_X8_signOf fl_X8_115 fm_X8_signOf fe_X8_signOf h19_14 (by decide) rfl rfl rfl (c_X8_signOf_at20 hs (d := d - 1) (Nat.le_trans (by decide) hdm) (w := w8) (n := n) (mv := mv) (rw := rw) (nx := nx) (b := b) (bt := bt) (kn := kn) (en := en) (dn := dn) (rf := rf) (kk := kk) (th := nI 0) ⟨h19_14, h20_14, h21_14, h22_14, hb_14, hbl_14, hb3_14⟩ hn1 hn2 gm gr gx (c3 * 7) (by first | assumption | omega) (kc := 0) (ks := 0)) hdp (st := [.long y81]) (Nat.le_of_ble_eq_true rfl) rfl (kr_P fun v82 hv82 => ?_) kx_I
        refine J_i2l (pc := 78) dX8_digest_78 (J_absL fun y83 => ?_)
        refine J_ladd (pc := 79) dX8_digest_79 (J_absL fun y84 => ?_)
        refine J_ldc2 (pc := 80) dX8_digest_80 fk_X8_239 (J_absL fun y85 => ?_)
        refine J_lmul (pc := 83) dX8_digest_83 (J_absL fun y86 => ?_)
        refine J_aload_n (pc := 84) dX8_digest_84 rfl rfl rfl ?_
        refine J_iload_n (pc := 85) dX8_digest_85 rfl rfl ?_
        refine J_callV0 (pc := 86) (M := mX8_digest) (as := [.int (nI c3)]) dX8_digest_86 fw_X8_staysNow fl_X8_175 fm_X8_staysNow fe_X8_staysNow h19_14 (by decide) rfl rfl rfl (c_X8_staysNow hs (d := d - 1) (Nat.le_trans (by decide) hdm) (w := w8) (n := n) (mv := mv) (rw := rw) (nx := nx) (b := b) (bt := bt) (kn := kn) (en := en) (dn := dn) (rf := rf) (kk := kk) (th := nI 0) ⟨h19_14, h20_14, h21_14, h22_14, hb_14, hbl_14, hb3_14⟩ hn1 hn2 gm gr gx c3 (by first | assumption | omega) (kc := 0) (ks := 0)) hdp (st := [.long y86]) (Nat.le_of_ble_eq_true rfl) rfl (kr_P fun v87 hv87 => ?_) kx_I
        refine J_i2l (pc := 89) dX8_digest_89 (J_absL fun y88 => ?_)
        refine J_ladd (pc := 90) dX8_digest_90 (J_absL fun y89 => ?_)
        refine J_ldc2 (pc := 91) dX8_digest_91 fk_X8_239 (J_absL fun y90 => ?_)
        refine J_lmul (pc := 94) dX8_digest_94 (J_absL fun y91 => ?_)
        refine J_aload_n (pc := 95) dX8_digest_95 rfl rfl rfl ?_
        refine J_iload_n (pc := 96) dX8_digest_96 rfl rfl ?_
        refine J_callV (pc := 97) (M := mX8_digest) (as := [.int (nI c3)]) dX8_digest_97 fw_X8_ringsNow fl_X8_168 fm_X8_ringsNow fe_X8_ringsNow h19_14 (by decide) rfl rfl rfl (c_X8_ringsNow hs (d := d - 1) (by omega) hXO (w := w8) (n := n) (mv := mv) (rw := rw) (nx := nx) (b := b) (bt := bt) (kn := kn) (en := en) (dn := dn) (rf := rf) (kk := kk) (th := nI 0) ⟨h19_14, h20_14, h21_14, h22_14, hb_14, hbl_14, hb3_14⟩ hn1 hn2 gm gr gx c3 (by omega) (by assumption) (kc := 40) (ks := 1500) (Nat.le_refl _) (Nat.le_refl _)) (by omega) (by omega) (by omega) (st := [.long y91]) (Nat.le_of_ble_eq_true rfl) rfl (kr_A fun r92 w92 hw92 => ?_) kx_A
        obtain ⟨hR92, hFc92, vz92, zs92, hco92, hcn92, hyl92⟩ := hw92
        obtain ⟨h19_92, h20_92, h21_92, h22_92, hbb_92, hbl_92, hb3_92⟩ := hR92
        have hF92 := hF10.tr hFc92
        refine J_callV0 (pc := 100) (M := mX8_digest) (as := []) dX8_digest_100 fw_J0_length_8abf5 fl_X8_241 fm_J0_length_8abf5 fe_J0_length_8abf5 hco92 (by decide) rfl rfl rfl (c_J0_length_8abf5_ats hs (d := d - 1) (by omega) (w := w92) r92 vz92 zs92 hco92 hcn92 (by omega) (kc := 0) (ks := 0)) (by omega) (st := [.long y91]) (Nat.le_of_ble_eq_true rfl) rfl (kr_P fun v93 hv93 => ?_) kx_I
        refine J_i2l (pc := 103) dX8_digest_103 (J_absL fun y94 => ?_)
        refine J_ladd (pc := 104) dX8_digest_104 (J_absL fun y95 => ?_)
        refine J_lstore_n (pc := 105) dX8_digest_105 rfl (by decide) rfl ?_
        show J X mX8_digest d (kc6 - 40) (ks7 - 1500) 106 [some (.ref 19), some (.long y95), none, some (.int (nI c3))] [] w92 _
        refine J_iincN (pc := 106) (b := 1) dX8_digest_106 rfl (by decide) (by decide) rfl ?_
        show J X mX8_digest d (kc6 - 40) (ks7 - 1500) 109 [some (.ref 19), some (.long y95), none, some (.int (nI (c3 + 1)))] [] w92 _
        refine J_goto (pc := 109) (tgt := 17) dX8_digest_109 (by decide) ?_
        exact J_sub (L' := [some (.ref 19), some (.long y95), none, some (.int (nI (c3 + 1)))]) ⟨rfl, ⟨rfl, ⟨rfl, trivial⟩⟩⟩ (ihlp17_5 _ _ w92 y95 (c3 + 1) ⟨h19_92, h20_92, h21_92, h22_92, hbb_92, hbl_92, hb3_92⟩ hF92 (by omega) (by omega) (by first | assumption | omega) (by omega))
  exact J_sub (L' := [some (.ref 19), some (.long y4), none, some (.int (nI 0))]) ⟨rfl, ⟨rfl, ⟨rfl, trivial⟩⟩⟩ (lp17_5 _ _ _ w1 y4 0 ⟨h19_1, h20_1, h21_1, h22_1, hb_1, hbl, hb3⟩ hF1 (by omega) (by omega) (by first | assumption | omega) (Nat.lt_succ_self _))
