/-! texts of the class -/
set_option maxRecDepth 100000 in
set_option maxHeartbeats 40000000 in
theorem c_X6_digest {X : jX} (hs : X.1.stackTraces = false) {d : Nat} (hd : 16 ≤ d) (hXO : XO X) {n : Nat} {e r q : Int32} (hn1 : 2 ≤ n) (hn2 : n ≤ 7) {w : List jC} (hS : SH (rX n e r q) w) {kc ks : Nat} (hkc : 250 ≤ kc) (hks : 9100 ≤ ks) : jMet X mX6_digest d kc ks [.ref 0] w (pL (fun _ => True) (fun w' => rS n e r q w w')) := by
  refine jMet_of hs (by decide +kernel) (Nat.le_of_ble_eq_true rfl) (L := [some (.ref 0), none, none, none]) rfl ?_
  have hG : Fr kX w w := Fr.rf
  refine J_aload_n (pc := 0) dX6_digest_0 rfl rfl rfl ?_
  obtain ⟨_, hc2, rfl⟩ := hS 0 _ rfl
  refine J_callV0 (pc := 1) (M := mX6_digest) (as := []) dX6_digest_1 fw_X6_raiseAll fl_X6_228 fm_X6_raiseAll fe_X6_raiseAll hc2 (by decide) rfl rfl rfl (c_X6_raiseAll hs (d := d - 1) (by omega) (e := e) (r := r) (q := q) hn1 hn2 hS (w := w)  (kc := 0) (ks := 0)) (by omega) (st := []) (Nat.le_of_ble_eq_true rfl) rfl (kr_V fun w1 hw1 => ?_) kx_V
  obtain ⟨hS1, hF1⟩ := hw1
  have hG1 := hG.tr hF1
  refine J_ldc2 (pc := 4) dX6_digest_4 fk_X6_235 (J_absL fun y3 => ?_)
  refine J_aload_n (pc := 7) dX6_digest_7 rfl rfl rfl ?_
  obtain ⟨_, hc4, rfl⟩ := hS1 0 _ rfl
  refine J_get (pc := 8) (k := 5) dX6_digest_8 kC7 (by decide) ff_X6_41 hc4 rfl ?_
  refine J_i2l (pc := 11) dX6_digest_11 (J_absL fun y5 => ?_)
  refine J_callS0 (pc := 12) (M := mX6_digest) (as := [.long y3, .long y5]) dX6_digest_12 fw_X6_mix fl_X6_237 fs_X6_mix rfl (c_X6_mix hs (d := d - 1) (by omega) (w := w1) y3 y5 (kc := 0) (ks := 0)) (by omega) (st := []) (Nat.le_of_ble_eq_true rfl) rfl (kr_L fun v6 w6 hv6 hw6 => ?_) kx_L
  obtain rfl := hw6.symm
  refine J_lstore_n (pc := 15) dX6_digest_15 rfl (by decide) rfl ?_
  show J X mX6_digest d kc ks 16 [some (.ref 0), some (.long v6), none, none] [] w1 _
  refine J_iconst (pc := 16) (v := nI 0) dX6_digest_16 (by decide) ?_
  refine J_istore_n (pc := 17) dX6_digest_17 rfl (by decide) rfl ?_
  show J X mX6_digest d kc ks 18 [some (.ref 0), some (.long v6), none, some (.int (nI 0))] [] w1 _
  have lp18_15 : ∀ (fuel : Nat) (kc7 ks8 : Nat) (w9 : List jC) (y1 : Int64) (c3 : Nat), (SH (rX n e r q) w9) → (Fr kX w w9) → ((6 - c3) * 40 ≤ kc7) → ((6 - c3) * 1500 ≤ ks8) → (c3 ≤ 6) → (6 - c3 < fuel) → J X mX6_digest d kc7 ks8 18 [some (.ref 0), some (.long y1), none, some (.int (nI c3))] [] w9 (pL (fun _ => True) (fun w' => rS n e r q w w')) := by
    intro fuellp18_15
    induction fuellp18_15 with
    | zero => intros; omega
    | succ fuellp18_15 ihlp18_15 =>
      intro kc7 ks8 w9 y1 c3 hS10 hG11 hr12 hr13 hv18_0 hf14
      refine J_iload_n (pc := 18) dX6_digest_18 rfl rfl ?_
      refine J_bipush (pc := 19) (v := nI 6) dX6_digest_19 (by decide) ?_
      refine J_icmp_geN (pc := 21) (tgt := 88) dX6_digest_21 (by decide) (by omega) (by omega) (fun ht16 => ?_) (fun hf17 => ?_)
      · refine J_lload_n (pc := 88) dX6_digest_88 rfl rfl ?_
        refine J_aload_n (pc := 89) dX6_digest_89 rfl rfl rfl ?_
        obtain ⟨_, hc18, rfl⟩ := hS10 0 _ rfl
        refine J_get (pc := 90) (k := 1) dX6_digest_90 kC7 (by decide) ff_X6_16 hc18 rfl ?_
        obtain ⟨_, hc20, ka20, kf20, kb20, kg20, rfl, hb20_0, hb20_1⟩ := hS10 2 _ rfl
        refine J_callV0 (pc := 93) (M := mX6_digest) (as := []) dX6_digest_93 fw_X0_total fl_X6_138 fm_X0_total fe_X0_total hc20 (by decide) rfl rfl rfl (c_X0_total hs (d := d - 1) (by omega) (e := e) (r := r) (q := q) hn1 hn2 hS10 (w := w9)  (kc := 0) (ks := 0)) (by omega) (st := [.long y1]) (Nat.le_of_ble_eq_true rfl) rfl (kr_P fun v19 hv19 => ?_) kx_I
        refine J_i2l (pc := 96) dX6_digest_96 (J_absL fun y21 => ?_)
        refine J_callS0 (pc := 97) (M := mX6_digest) (as := [.long y1, .long y21]) dX6_digest_97 fw_X6_mix fl_X6_237 fs_X6_mix rfl (c_X6_mix hs (d := d - 1) (by omega) (w := w9) y1 y21 (kc := 0) (ks := 0)) (by omega) (st := []) (Nat.le_of_ble_eq_true rfl) rfl (kr_L fun v22 w22 hv22 hw22 => ?_) kx_L
        obtain rfl := hw22.symm
        refine J_lstore_n (pc := 100) dX6_digest_100 rfl (by decide) rfl ?_
        show J X mX6_digest d kc7 ks8 101 [some (.ref 0), some (.long v22), none, some (.int (nI c3))] [] w9 _
        refine J_lload_n (pc := 101) dX6_digest_101 rfl rfl ?_
        refine J_aload_n (pc := 102) dX6_digest_102 rfl rfl rfl ?_
        refine J_bipush (pc := 103) (v := nI 63) dX6_digest_103 (by decide) ?_
        refine J_callV0 (pc := 105) (M := mX6_digest) (as := [.int (nI 63)]) dX6_digest_105 fw_X6_pieces fl_X6_262 fm_X6_pieces fe_X6_pieces hc18 (by decide) rfl rfl rfl (c_X6_pieces_atok hs (d := d - 1) (by omega) (e := e) (r := r) (q := q) hn1 hn2 hS10 (w := w9) 63 (by omega) (kc := 0) (ks := 0)) (by omega) (st := [.long v22]) (Nat.le_of_ble_eq_true rfl) rfl (kr_I fun v23 w23 hv23 hw23 => ?_) kx_I
        obtain ⟨hS23, hF23⟩ := hw23
        have hG23 := hG11.tr hF23
        refine J_i2l (pc := 108) dX6_digest_108 (J_absL fun y24 => ?_)
        refine J_callS0 (pc := 109) (M := mX6_digest) (as := [.long v22, .long y24]) dX6_digest_109 fw_X6_mix fl_X6_237 fs_X6_mix rfl (c_X6_mix hs (d := d - 1) (by omega) (w := w23) v22 y24 (kc := 0) (ks := 0)) (by omega) (st := []) (Nat.le_of_ble_eq_true rfl) rfl (kr_L fun v25 w25 hv25 hw25 => ?_) kx_L
        obtain rfl := hw25.symm
        refine J_lstore_n (pc := 112) dX6_digest_112 rfl (by decide) rfl ?_
        show J X mX6_digest d kc7 ks8 113 [some (.ref 0), some (.long v25), none, some (.int (nI c3))] [] w23 _
        refine J_lload_n (pc := 113) dX6_digest_113 rfl rfl ?_
        refine J_aload_n (pc := 114) dX6_digest_114 rfl rfl rfl ?_
        obtain ⟨_, hc26, rfl⟩ := hS23 0 _ rfl
        refine J_get (pc := 115) (k := 2) dX6_digest_115 kC7 (by decide) ff_X6_23 hc26 rfl ?_
        obtain ⟨_, hc28, ka28, rfl, hb28_0⟩ := hS23 8 _ rfl
        refine J_callV0 (pc := 118) (M := mX6_digest) (as := []) dX6_digest_118 fw_X5_howManyEven fl_X6_199 fm_X5_howManyEven fe_X5_howManyEven hc28 (by decide) rfl rfl rfl (c_X5_howManyEven hs (d := d - 1) (by omega) (e := e) (r := r) (q := q) hn1 hn2 hS23 (w := w23)  (kc := 0) (ks := 0)) (by omega) (st := [.long v25]) (Nat.le_of_ble_eq_true rfl) rfl (kr_P fun v27 hv27 => ?_) kx_I
        refine J_i2l (pc := 121) dX6_digest_121 (J_absL fun y29 => ?_)
        refine J_callS0 (pc := 122) (M := mX6_digest) (as := [.long v25, .long y29]) dX6_digest_122 fw_X6_mix fl_X6_237 fs_X6_mix rfl (c_X6_mix hs (d := d - 1) (by omega) (w := w23) v25 y29 (kc := 0) (ks := 0)) (by omega) (st := []) (Nat.le_of_ble_eq_true rfl) rfl (kr_L fun v30 w30 hv30 hw30 => ?_) kx_L
        obtain rfl := hw30.symm
        refine J_lstore_n (pc := 125) dX6_digest_125 rfl (by decide) rfl ?_
        show J X mX6_digest d kc7 ks8 126 [some (.ref 0), some (.long v30), none, some (.int (nI c3))] [] w23 _
        refine J_lload_n (pc := 126) dX6_digest_126 rfl rfl ?_
        refine J_aload_n (pc := 127) dX6_digest_127 rfl rfl rfl ?_
        refine J_get (pc := 128) (k := 1) dX6_digest_128 kC7 (by decide) ff_X6_16 hc26 rfl ?_
        obtain ⟨_, hc32, ka32, kf32, kb32, kg32, rfl, hb32_0, hb32_1⟩ := hS23 2 _ rfl
        refine J_callV0 (pc := 131) (M := mX6_digest) (as := []) dX6_digest_131 fw_X0_takenCells fl_X6_225 fm_X0_takenCells fe_X0_takenCells hc32 (by decide) rfl rfl rfl (c_X0_takenCells hs (d := d - 1) (by omega) (e := e) (r := r) (q := q) hn1 hn2 hS23 (w := w23)  (kc := 0) (ks := 0)) (by omega) (st := [.long v30]) (Nat.le_of_ble_eq_true rfl) rfl (kr_P fun v31 hv31 => ?_) kx_I
        refine J_i2l (pc := 134) dX6_digest_134 (J_absL fun y33 => ?_)
        refine J_callS0 (pc := 135) (M := mX6_digest) (as := [.long v30, .long y33]) dX6_digest_135 fw_X6_mix fl_X6_237 fs_X6_mix rfl (c_X6_mix hs (d := d - 1) (by omega) (w := w23) v30 y33 (kc := 0) (ks := 0)) (by omega) (st := []) (Nat.le_of_ble_eq_true rfl) rfl (kr_L fun v34 w34 hv34 hw34 => ?_) kx_L
        obtain rfl := hw34.symm
        refine J_lstore_n (pc := 138) dX6_digest_138 rfl (by decide) rfl ?_
        show J X mX6_digest d kc7 ks8 139 [some (.ref 0), some (.long v34), none, some (.int (nI c3))] [] w23 _
        refine J_iconst (pc := 139) (v := nI 0) dX6_digest_139 (by decide) ?_
        refine J_istore_n (pc := 140) dX6_digest_140 rfl (by decide) rfl ?_
        show J X mX6_digest d kc7 ks8 141 [some (.ref 0), some (.long v34), none, some (.int (nI 0))] [] w23 _
        have lp141_36 : ∀ (fuel : Nat) (y1 : Int64) (c3 : Nat), (c3 ≤ n) → (n - c3 < fuel) → J X mX6_digest d kc7 ks8 141 [some (.ref 0), some (.long y1), none, some (.int (nI c3))] [] w23 (pL (fun _ => True) (fun w' => rS n e r q w w')) := by
          intro fuellp141_36
          induction fuellp141_36 with
          | zero => intros; omega
          | succ fuellp141_36 ihlp141_36 =>
            intro y1 c3 hv141_0 hf35
            refine J_iload_n (pc := 141) dX6_digest_141 rfl rfl ?_
            refine J_aload_n (pc := 142) dX6_digest_142 rfl rfl rfl ?_
            obtain ⟨_, hc37, rfl⟩ := hS23 0 _ rfl
            refine J_get (pc := 143) (k := 5) dX6_digest_143 kC7 (by decide) ff_X6_41 hc37 rfl ?_
            refine J_icmp_geN (pc := 146) (tgt := 169) dX6_digest_146 (by decide) (by omega) (by omega) (fun ht38 => ?_) (fun hf39 => ?_)
            · refine J_iconst (pc := 169) (v := nI 0) dX6_digest_169 (by decide) ?_
              refine J_istore_n (pc := 170) dX6_digest_170 rfl (by decide) rfl ?_
              show J X mX6_digest d kc7 ks8 171 [some (.ref 0), some (.long y1), none, some (.int (nI 0))] [] w23 _
              have lp171_41 : ∀ (fuel : Nat) (y1 : Int64) (c3 : Nat), (c3 ≤ 3) → (3 - c3 < fuel) → J X mX6_digest d kc7 ks8 171 [some (.ref 0), some (.long y1), none, some (.int (nI c3))] [] w23 (pL (fun _ => True) (fun w' => rS n e r q w w')) := by
                intro fuellp171_41
                induction fuellp171_41 with
                | zero => intros; omega
                | succ fuellp171_41 ihlp171_41 =>
                  intro y1 c3 hv171_0 hf40
                  refine J_iload_n (pc := 171) dX6_digest_171 rfl rfl ?_
                  refine J_iconst (pc := 172) (v := nI 2) dX6_digest_172 (by decide) ?_
                  refine J_icmp_gtN (pc := 173) (tgt := 193) dX6_digest_173 (by decide) (by omega) (by omega) (fun ht42 => ?_) (fun hf43 => ?_)
                  · refine J_lload_n (pc := 193) dX6_digest_193 rfl rfl ?_
                    refine J_aload_n (pc := 194) dX6_digest_194 rfl rfl rfl ?_
                    obtain ⟨_, hc45, rfl⟩ := hS23 0 _ rfl
                    refine J_callV0 (pc := 195) (M := mX6_digest) (as := []) dX6_digest_195 fw_X6_allAgrees fl_X6_231 fm_X6_allAgrees fe_X6_allAgrees hc45 (by decide) rfl rfl rfl (c_X6_allAgrees hs (d := d - 1) (by omega) (e := e) (r := r) (q := q) hn1 hn2 hS23 (w := w23)  (kc := 0) (ks := 0)) (by omega) (st := [.long y1]) (Nat.le_of_ble_eq_true rfl) rfl (kr_I fun v44 w44 hv44 hw44 => ?_) kx_I
                    obtain ⟨k44, rfl, hk44⟩ := hv44
                    obtain ⟨hS44, hF44⟩ := hw44
                    have hG44 := hG23.tr hF44
                    refine J_if_eqN (pc := 198) (tgt := 205) dX6_digest_198 (by decide) (by omega) (fun ht46 => ?_) (fun hf47 => ?_)
                    · refine J_lconst (pc := 205) dX6_digest_205 rfl (J_absL fun y48 => ?_)
                      refine J_callS0 (pc := 206) (M := mX6_digest) (as := [.long y1, .long y48]) dX6_digest_206 fw_X6_mix fl_X6_237 fs_X6_mix rfl (c_X6_mix hs (d := d - 1) (by omega) (w := w44) y1 y48 (kc := 0) (ks := 0)) (by omega) (st := []) (Nat.le_of_ble_eq_true rfl) rfl (kr_L fun v49 w49 hv49 hw49 => ?_) kx_L
                      obtain rfl := hw49.symm
                      exact J_lret (pc := 209) dX6_digest_209 rfl ⟨trivial, ⟨hS44, hG44⟩⟩
                    · refine J_lconst (pc := 201) dX6_digest_201 rfl (J_absL fun y50 => ?_)
                      refine J_goto (pc := 202) (tgt := 206) dX6_digest_202 (by decide) ?_
                      refine J_callS0 (pc := 206) (M := mX6_digest) (as := [.long y1, .long y50]) dX6_digest_206 fw_X6_mix fl_X6_237 fs_X6_mix rfl (c_X6_mix hs (d := d - 1) (by omega) (w := w44) y1 y50 (kc := 0) (ks := 0)) (by omega) (st := []) (Nat.le_of_ble_eq_true rfl) rfl (kr_L fun v51 w51 hv51 hw51 => ?_) kx_L
                      obtain rfl := hw51.symm
                      exact J_lret (pc := 209) dX6_digest_209 rfl ⟨trivial, ⟨hS44, hG44⟩⟩
                  · refine J_lload_n (pc := 176) dX6_digest_176 rfl rfl ?_
                    refine J_aload_n (pc := 177) dX6_digest_177 rfl rfl rfl ?_
                    refine J_iload_n (pc := 178) dX6_digest_178 rfl rfl ?_
                    obtain ⟨_, hc53, rfl⟩ := hS23 0 _ rfl
                    refine J_callV0 (pc := 179) (M := mX6_digest) (as := [.int (nI c3)]) dX6_digest_179 fw_X6_house fl_X6_265 fm_X6_house fe_X6_house hc53 (by decide) rfl rfl rfl (c_X6_house_atok hs (d := d - 1) (by omega) (e := e) (r := r) (q := q) hn1 hn2 hS23 (w := w23) c3 (by omega) (kc := 0) (ks := 0)) (by omega) (st := [.long y1]) (Nat.le_of_ble_eq_true rfl) rfl (kr_P fun v52 hv52 => ?_) kx_I
                    refine J_i2l (pc := 182) dX6_digest_182 (J_absL fun y54 => ?_)
                    refine J_callS0 (pc := 183) (M := mX6_digest) (as := [.long y1, .long y54]) dX6_digest_183 fw_X6_mix fl_X6_237 fs_X6_mix rfl (c_X6_mix hs (d := d - 1) (by omega) (w := w23) y1 y54 (kc := 0) (ks := 0)) (by omega) (st := []) (Nat.le_of_ble_eq_true rfl) rfl (kr_L fun v55 w55 hv55 hw55 => ?_) kx_L
                    obtain rfl := hw55.symm
                    refine J_lstore_n (pc := 186) dX6_digest_186 rfl (by decide) rfl ?_
                    show J X mX6_digest d kc7 ks8 187 [some (.ref 0), some (.long v55), none, some (.int (nI c3))] [] w23 _
                    refine J_iincN (pc := 187) (b := 1) dX6_digest_187 rfl (by decide) (by decide) rfl ?_
                    show J X mX6_digest d kc7 ks8 190 [some (.ref 0), some (.long v55), none, some (.int (nI (c3 + 1)))] [] w23 _
                    refine J_goto (pc := 190) (tgt := 171) dX6_digest_190 (by decide) ?_
                    exact J_sub (L' := [some (.ref 0), some (.long v55), none, some (.int (nI (c3 + 1)))]) ⟨rfl, ⟨rfl, ⟨rfl, trivial⟩⟩⟩ (ihlp171_41 v55 (c3 + 1) (by first | assumption | omega) (by omega))
              exact J_sub (L' := [some (.ref 0), some (.long y1), none, some (.int (nI 0))]) ⟨rfl, ⟨rfl, ⟨rfl, trivial⟩⟩⟩ (lp171_41 _ y1 0 (by first | assumption | omega) (Nat.lt_succ_self _))
            · refine J_lload_n (pc := 149) dX6_digest_149 rfl rfl ?_
              refine J_aload_n (pc := 150) dX6_digest_150 rfl rfl rfl ?_
              refine J_get (pc := 151) (k := 1) dX6_digest_151 kC7 (by decide) ff_X6_16 hc37 rfl ?_
              refine J_iload_n (pc := 154) dX6_digest_154 rfl rfl ?_
              obtain ⟨_, hc57, ka57, kf57, kb57, kg57, rfl, hb57_0, hb57_1⟩ := hS23 2 _ rfl
              refine J_callV0 (pc := 155) (M := mX6_digest) (as := [.int (nI c3)]) dX6_digest_155 fw_X0_reachAt fl_X6_170 fm_X0_reachAt fe_X0_reachAt hc57 (by decide) rfl rfl rfl (c_X0_reachAt hs (d := d - 1) (by omega) (e := e) (r := r) (q := q) hn1 hn2 hS23 (w := w23) (nI c3) (kc := 0) (ks := 0)) (by omega) (st := [.long y1]) (Nat.le_of_ble_eq_true rfl) rfl (kr_P fun v56 hv56 => ?_) kx_I
              refine J_i2l (pc := 158) dX6_digest_158 (J_absL fun y58 => ?_)
              refine J_callS0 (pc := 159) (M := mX6_digest) (as := [.long y1, .long y58]) dX6_digest_159 fw_X6_mix fl_X6_237 fs_X6_mix rfl (c_X6_mix hs (d := d - 1) (by omega) (w := w23) y1 y58 (kc := 0) (ks := 0)) (by omega) (st := []) (Nat.le_of_ble_eq_true rfl) rfl (kr_L fun v59 w59 hv59 hw59 => ?_) kx_L
              obtain rfl := hw59.symm
              refine J_lstore_n (pc := 162) dX6_digest_162 rfl (by decide) rfl ?_
              show J X mX6_digest d kc7 ks8 163 [some (.ref 0), some (.long v59), none, some (.int (nI c3))] [] w23 _
              refine J_iincN (pc := 163) (b := 1) dX6_digest_163 rfl (by decide) (by decide) rfl ?_
              show J X mX6_digest d kc7 ks8 166 [some (.ref 0), some (.long v59), none, some (.int (nI (c3 + 1)))] [] w23 _
              refine J_goto (pc := 166) (tgt := 141) dX6_digest_166 (by decide) ?_
              exact J_sub (L' := [some (.ref 0), some (.long v59), none, some (.int (nI (c3 + 1)))]) ⟨rfl, ⟨rfl, ⟨rfl, trivial⟩⟩⟩ (ihlp141_36 v59 (c3 + 1) (by first | assumption | omega) (by omega))
        exact J_sub (L' := [some (.ref 0), some (.long v34), none, some (.int (nI 0))]) ⟨rfl, ⟨rfl, ⟨rfl, trivial⟩⟩⟩ (lp141_36 _ v34 0 (by first | assumption | omega) (Nat.lt_succ_self _))
      · refine J_lload_n (pc := 24) dX6_digest_24 rfl rfl ?_
        refine J_aload_n (pc := 25) dX6_digest_25 rfl rfl rfl ?_
        refine J_iload_n (pc := 26) dX6_digest_26 rfl rfl ?_
        obtain ⟨_, hc61, rfl⟩ := hS10 0 _ rfl
        refine J_callV0 (pc := 27) (M := mX6_digest) (as := [.int (nI c3)]) dX6_digest_27 fw_X6_number fl_X6_241 fm_X6_number fe_X6_number hc61 (by decide) rfl rfl rfl (c_X6_number_atok hs (d := d - 1) (by omega) (e := e) (r := r) (q := q) hn1 hn2 hS10 (w := w9) c3 (by omega) (kc := 0) (ks := 0)) (by omega) (st := [.long y1]) (Nat.le_of_ble_eq_true rfl) rfl (kr_P fun v60 hv60 => ?_) kx_I
        refine J_i2l (pc := 30) dX6_digest_30 (J_absL fun y62 => ?_)
        refine J_callS0 (pc := 31) (M := mX6_digest) (as := [.long y1, .long y62]) dX6_digest_31 fw_X6_mix fl_X6_237 fs_X6_mix rfl (c_X6_mix hs (d := d - 1) (by omega) (w := w9) y1 y62 (kc := 0) (ks := 0)) (by omega) (st := []) (Nat.le_of_ble_eq_true rfl) rfl (kr_L fun v63 w63 hv63 hw63 => ?_) kx_L
        obtain rfl := hw63.symm
        refine J_lstore_n (pc := 34) dX6_digest_34 rfl (by decide) rfl ?_
        show J X mX6_digest d kc7 ks8 35 [some (.ref 0), some (.long v63), none, some (.int (nI c3))] [] w9 _
        refine J_lload_n (pc := 35) dX6_digest_35 rfl rfl ?_
        refine J_aload_n (pc := 36) dX6_digest_36 rfl rfl rfl ?_
        refine J_iload_n (pc := 37) dX6_digest_37 rfl rfl ?_
        refine J_callV0 (pc := 38) (M := mX6_digest) (as := [.int (nI c3)]) dX6_digest_38 fw_X6_order fl_X6_244 fm_X6_order fe_X6_order hc61 (by decide) rfl rfl rfl (c_X6_order_atok hs (d := d - 1) (by omega) (e := e) (r := r) (q := q) hn1 hn2 hS10 (w := w9) c3 (by omega) (kc := 0) (ks := 0)) (by omega) (st := [.long v63]) (Nat.le_of_ble_eq_true rfl) rfl (kr_P fun v64 hv64 => ?_) kx_I
        obtain ⟨k64, rfl, hk64⟩ := hv64
        refine J_i2l (pc := 41) dX6_digest_41 (J_absL fun y65 => ?_)
        refine J_callS0 (pc := 42) (M := mX6_digest) (as := [.long v63, .long y65]) dX6_digest_42 fw_X6_mix fl_X6_237 fs_X6_mix rfl (c_X6_mix hs (d := d - 1) (by omega) (w := w9) v63 y65 (kc := 0) (ks := 0)) (by omega) (st := []) (Nat.le_of_ble_eq_true rfl) rfl (kr_L fun v66 w66 hv66 hw66 => ?_) kx_L
        obtain rfl := hw66.symm
        refine J_lstore_n (pc := 45) dX6_digest_45 rfl (by decide) rfl ?_
        show J X mX6_digest d kc7 ks8 46 [some (.ref 0), some (.long v66), none, some (.int (nI c3))] [] w9 _
        refine J_lload_n (pc := 46) dX6_digest_46 rfl rfl ?_
        refine J_aload_n (pc := 47) dX6_digest_47 rfl rfl rfl ?_
        refine J_iload_n (pc := 48) dX6_digest_48 rfl rfl ?_
        refine J_callV0 (pc := 49) (M := mX6_digest) (as := [.int (nI c3)]) dX6_digest_49 fw_X6_sign fl_X6_247 fm_X6_sign fe_X6_sign hc61 (by decide) rfl rfl rfl (c_X6_sign_atok hs (d := d - 1) (by omega) (e := e) (r := r) (q := q) hn1 hn2 hS10 (w := w9) c3 (by omega) (kc := 0) (ks := 0)) (by omega) (st := [.long v66]) (Nat.le_of_ble_eq_true rfl) rfl (kr_P fun v67 hv67 => ?_) kx_I
        refine J_i2l (pc := 52) dX6_digest_52 (J_absL fun y68 => ?_)
        refine J_callS0 (pc := 53) (M := mX6_digest) (as := [.long v66, .long y68]) dX6_digest_53 fw_X6_mix fl_X6_237 fs_X6_mix rfl (c_X6_mix hs (d := d - 1) (by omega) (w := w9) v66 y68 (kc := 0) (ks := 0)) (by omega) (st := []) (Nat.le_of_ble_eq_true rfl) rfl (kr_L fun v69 w69 hv69 hw69 => ?_) kx_L
        obtain rfl := hw69.symm
        refine J_lstore_n (pc := 56) dX6_digest_56 rfl (by decide) rfl ?_
        show J X mX6_digest d kc7 ks8 57 [some (.ref 0), some (.long v69), none, some (.int (nI c3))] [] w9 _
        refine J_lload_n (pc := 57) dX6_digest_57 rfl rfl ?_
        refine J_aload_n (pc := 58) dX6_digest_58 rfl rfl rfl ?_
        refine J_iload_n (pc := 59) dX6_digest_59 rfl rfl ?_
        refine J_callV0 (pc := 60) (M := mX6_digest) (as := [.int (nI c3)]) dX6_digest_60 fw_X6_stays fl_X6_250 fm_X6_stays fe_X6_stays hc61 (by decide) rfl rfl rfl (c_X6_stays_atok hs (d := d - 1) (by omega) (e := e) (r := r) (q := q) hn1 hn2 hS10 (w := w9) c3 (by omega) (kc := 0) (ks := 0)) (by omega) (st := [.long v69]) (Nat.le_of_ble_eq_true rfl) rfl (kr_P fun v70 hv70 => ?_) kx_I
        refine J_i2l (pc := 63) dX6_digest_63 (J_absL fun y71 => ?_)
        refine J_callS0 (pc := 64) (M := mX6_digest) (as := [.long v69, .long y71]) dX6_digest_64 fw_X6_mix fl_X6_237 fs_X6_mix rfl (c_X6_mix hs (d := d - 1) (by omega) (w := w9) v69 y71 (kc := 0) (ks := 0)) (by omega) (st := []) (Nat.le_of_ble_eq_true rfl) rfl (kr_L fun v72 w72 hv72 hw72 => ?_) kx_L
        obtain rfl := hw72.symm
        refine J_lstore_n (pc := 67) dX6_digest_67 rfl (by decide) rfl ?_
        show J X mX6_digest d kc7 ks8 68 [some (.ref 0), some (.long v72), none, some (.int (nI c3))] [] w9 _
        refine J_lload_n (pc := 68) dX6_digest_68 rfl rfl ?_
        refine J_aload_n (pc := 69) dX6_digest_69 rfl rfl rfl ?_
        refine J_iload_n (pc := 70) dX6_digest_70 rfl rfl ?_
        refine J_callV (pc := 71) (M := mX6_digest) (as := [.int (nI c3)]) dX6_digest_71 fw_X6_rings fl_X6_253 fm_X6_rings fe_X6_rings hc61 (by decide) rfl rfl rfl (c_X6_rings_atok hs (d := d - 1) (by omega) hXO (e := e) (r := r) (q := q) hn1 hn2 (w := w9) hS10 c3 (by omega) (kc := 40) (ks := 1500) (Nat.le_refl _) (Nat.le_refl _)) (by omega) (by omega) (by omega) (st := [.long v72]) (Nat.le_of_ble_eq_true rfl) rfl (kr_A fun r73 w73 hw73 => ?_) kx_A
        obtain ⟨hS73, hFq73, vz73, zs73, hco73, hcn73, hyl73⟩ := hw73
        have hG73 := hG11.tr hFq73
        refine J_callV0 (pc := 74) (M := mX6_digest) (as := []) dX6_digest_74 fw_J0_length_8abf5 fl_X6_257 fm_J0_length_8abf5 fe_J0_length_8abf5 hco73 (by decide) rfl rfl rfl (c_J0_length_8abf5_ats hs (d := d - 1) (by omega) (w := w73) r73 vz73 zs73 hco73 hcn73 (by omega) (kc := 0) (ks := 0)) (by omega) (st := [.long v72]) (Nat.le_of_ble_eq_true rfl) rfl (kr_P fun v74 hv74 => ?_) kx_I
        refine J_i2l (pc := 77) dX6_digest_77 (J_absL fun y75 => ?_)
        refine J_callS0 (pc := 78) (M := mX6_digest) (as := [.long v72, .long y75]) dX6_digest_78 fw_X6_mix fl_X6_237 fs_X6_mix rfl (c_X6_mix hs (d := d - 1) (by omega) (w := w73) v72 y75 (kc := 0) (ks := 0)) (by omega) (st := []) (Nat.le_of_ble_eq_true rfl) rfl (kr_L fun v76 w76 hv76 hw76 => ?_) kx_L
        obtain rfl := hw76.symm
        refine J_lstore_n (pc := 81) dX6_digest_81 rfl (by decide) rfl ?_
        show J X mX6_digest d (kc7 - 40) (ks8 - 1500) 82 [some (.ref 0), some (.long v76), none, some (.int (nI c3))] [] w73 _
        refine J_iincN (pc := 82) (b := 1) dX6_digest_82 rfl (by decide) (by decide) rfl ?_
        show J X mX6_digest d (kc7 - 40) (ks8 - 1500) 85 [some (.ref 0), some (.long v76), none, some (.int (nI (c3 + 1)))] [] w73 _
        refine J_goto (pc := 85) (tgt := 18) dX6_digest_85 (by decide) ?_
        exact J_sub (L' := [some (.ref 0), some (.long v76), none, some (.int (nI (c3 + 1)))]) ⟨rfl, ⟨rfl, ⟨rfl, trivial⟩⟩⟩ (ihlp18_15 _ _ w73 v76 (c3 + 1) hS73 hG73 (by omega) (by omega) (by first | assumption | omega) (by omega))
  exact J_sub (L' := [some (.ref 0), some (.long v6), none, some (.int (nI 0))]) ⟨rfl, ⟨rfl, ⟨rfl, trivial⟩⟩⟩ (lp18_15 _ _ _ w1 v6 0 hS1 hG1 (by omega) (by omega) (by first | assumption | omega) (Nat.lt_succ_self _))
