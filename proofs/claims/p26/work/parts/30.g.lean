section
/-! the law's cases -/
set_option maxRecDepth 100000 in
set_option maxHeartbeats 4000000 in
theorem s_23 {X : jX} (hs : X.1.stackTraces = false) (hXO : XO X) {xs : List Int32} (hX0 : X.2.2.2.2.2[0]? = some (.inl (0, xs))) (hX1 : xs.length ≤ 320) {d : Nat} (hd : 45 ≤ d) {o : Nat} {S : StX} {w : List jC} (hI : LI o S S w) {i : Nat} (hi : i + 5 ≤ xs.length) {kc ks : Nat} (hkc : 700 ≤ kc) (hks : 40000 ≤ ks) {Q : jQ} (ih : ∀ (S' : StX) (w' : List jC), LI o S' S' w' → J X mL_law d (kc - 700) (ks - 40000) 2032 [some (.retAddr 0), some (.ref 0), some (.ref 19), some (.ref o), some (.int (nI i)), none, none] [] w' Q) : J X mL_law d kc ks 1145 [some (.retAddr 0), some (.ref 0), some (.ref 19), some (.ref o), some (.int (nI i)), none, none] [] w Q := by
  refine J_aload_n (pc := 1145) dL_law_1145 rfl rfl rfl ?_
  refine J_aload_n (pc := 1146) dL_law_1146 rfl rfl rfl ?_
  refine J_iload (pc := 1147) dL_law_1147 rfl ?_
  refine J_iconst (pc := 1149) (v := nI 1) dL_law_1149 (by decide) ?_
  refine J_iaddN (pc := 1150) dL_law_1150 ?_
  refine J_ialdO (pc := 1151) dL_law_1151 hX0 (nI_in (by omega) (by omega)) ?_
  refine J_aload_n (pc := 1152) dL_law_1152 rfl rfl rfl ?_
  refine J_iload (pc := 1153) dL_law_1153 rfl ?_
  refine J_iconst (pc := 1155) (v := nI 2) dL_law_1155 (by decide) ?_
  refine J_iaddN (pc := 1156) dL_law_1156 ?_
  refine J_ialdO (pc := 1157) dL_law_1157 hX0 (nI_in (by omega) (by omega)) ?_
  refine J_aload_n (pc := 1158) dL_law_1158 rfl rfl rfl ?_
  refine J_callSX (pc := 1159) (M := mL_law) (as := [.ref 0, .int (xs.getD (nI (i + 1)).toNatClampNeg 0), .int (xs.getD (nI (i + 2)).toNatClampNeg 0), .ref o]) dL_law_1159 fw_L_areAlike fl_L_240 fs_L_areAlike rfl (c_L_areAlike hs (d := d - 1) (by omega) hI (xs.getD (nI (i + 1)).toNatClampNeg 0) (xs.getD (nI (i + 2)).toNatClampNeg 0) (kc := 2) (ks := 12) (Nat.le_refl _) (Nat.le_refl _)) (by omega) (by omega) (by omega) (st := []) (Nat.le_of_ble_eq_true rfl) rfl (kr_J fun v1 w1 hv1 => ?_) kx_J
  obtain ⟨k1, x1, S1, hA1, hv1, hI1, hO1⟩ := hv1
  subst hv1
  refine J_istore (pc := 1162) dL_law_1162 (by decide) rfl ?_
  show J X mL_law d (kc - 2) (ks - 12) 1164 [some (.retAddr 0), some (.ref 0), some (.ref 19), some (.ref o), some (.int (nI i)), some (.int (nI k1)), none] [] w1 Q
  refine J_aload_n (pc := 1164) dL_law_1164 rfl rfl rfl ?_
  refine J_aload_n (pc := 1165) dL_law_1165 rfl rfl rfl ?_
  refine J_iload (pc := 1166) dL_law_1166 rfl ?_
  refine J_iconst (pc := 1168) (v := nI 1) dL_law_1168 (by decide) ?_
  refine J_iaddN (pc := 1169) dL_law_1169 ?_
  refine J_ialdO (pc := 1170) dL_law_1170 hX0 (nI_in (by omega) (by omega)) ?_
  refine J_aload_n (pc := 1171) dL_law_1171 rfl rfl rfl ?_
  refine J_iload (pc := 1172) dL_law_1172 rfl ?_
  refine J_iconst (pc := 1174) (v := nI 2) dL_law_1174 (by decide) ?_
  refine J_iaddN (pc := 1175) dL_law_1175 ?_
  refine J_ialdO (pc := 1176) dL_law_1176 hX0 (nI_in (by omega) (by omega)) ?_
  obtain ⟨f26, h26⟩ := hI1.c19
  refine J_callV0 (pc := 1177) (M := mL_law) (as := [.int (xs.getD (nI (i + 1)).toNatClampNeg 0), .int (xs.getD (nI (i + 2)).toNatClampNeg 0)]) dL_law_1177 fw_X8_areAlike fl_L_242 fm_X8_areAlike fe_X8_areAlike h26 (by decide) rfl rfl rfl (vv_areAlike hs (d := d - 1) (by omega) hI1 (xs.getD (nI (i + 1)).toNatClampNeg 0) (xs.getD (nI (i + 2)).toNatClampNeg 0) (kc := 0) (ks := 0)) (by omega) (st := []) (Nat.le_of_ble_eq_true rfl) rfl (kr_J fun v2 w2 hv2 => ?_) kx_J
  obtain ⟨k2, S2, hA2, hI2, hO2⟩ := hv2
  obtain ⟨h1, h7, hM⟩ := hI.bd
  obtain ⟨rfl, rfl⟩ := AG.same (fun v v' x y h h' => (fD_areAlike h1 h7 hM (xs.getD (nI (i + 1)).toNatClampNeg 0) (xs.getD (nI (i + 2)).toNatClampNeg 0) v v' x y h h').1) hA1 hA2
  have hI3 : LI o S1 S1 w2 := ⟨_, hI2⟩
  refine J_istore (pc := 1180) dL_law_1180 (by decide) rfl ?_
  show J X mL_law d (kc - 2) (ks - 12) 1182 [some (.retAddr 0), some (.ref 0), some (.ref 19), some (.ref o), some (.int (nI i)), some (.int (nI k1)), some (.int v2)] [] w2 Q
  refine J_goto (pc := 1182) (tgt := 2032) dL_law_1182 (by decide) ?_
  exact J_sub (L' := [some (.retAddr 0), some (.ref 0), some (.ref 19), some (.ref o), some (.int (nI i)), none, none]) ⟨rfl, rfl, rfl, rfl, rfl, trivial⟩ ((ih _ _ hI3).mono (by omega) (by omega) (fun _ _ h => h))
set_option maxRecDepth 100000 in
set_option maxHeartbeats 4000000 in
theorem s_24 {X : jX} (hs : X.1.stackTraces = false) (hXO : XO X) {xs : List Int32} (hX0 : X.2.2.2.2.2[0]? = some (.inl (0, xs))) (hX1 : xs.length ≤ 320) {d : Nat} (hd : 45 ≤ d) {o : Nat} {S : StX} {w : List jC} (hI : LI o S S w) {i : Nat} (hi : i + 5 ≤ xs.length) {kc ks : Nat} (hkc : 700 ≤ kc) (hks : 40000 ≤ ks) {Q : jQ} (ih : ∀ (S' : StX) (w' : List jC), LI o S' S' w' → J X mL_law d (kc - 700) (ks - 40000) 2032 [some (.retAddr 0), some (.ref 0), some (.ref 19), some (.ref o), some (.int (nI i)), none, none] [] w' Q) : J X mL_law d kc ks 1185 [some (.retAddr 0), some (.ref 0), some (.ref 19), some (.ref o), some (.int (nI i)), none, none] [] w Q := by
  refine J_aload_n (pc := 1185) dL_law_1185 rfl rfl rfl ?_
  refine J_aload_n (pc := 1186) dL_law_1186 rfl rfl rfl ?_
  refine J_iload (pc := 1187) dL_law_1187 rfl ?_
  refine J_iconst (pc := 1189) (v := nI 1) dL_law_1189 (by decide) ?_
  refine J_iaddN (pc := 1190) dL_law_1190 ?_
  refine J_ialdO (pc := 1191) dL_law_1191 hX0 (nI_in (by omega) (by omega)) ?_
  refine J_aload_n (pc := 1192) dL_law_1192 rfl rfl rfl ?_
  refine J_iload (pc := 1193) dL_law_1193 rfl ?_
  refine J_iconst (pc := 1195) (v := nI 2) dL_law_1195 (by decide) ?_
  refine J_iaddN (pc := 1196) dL_law_1196 ?_
  refine J_ialdO (pc := 1197) dL_law_1197 hX0 (nI_in (by omega) (by omega)) ?_
  refine J_aload_n (pc := 1198) dL_law_1198 rfl rfl rfl ?_
  refine J_callSX (pc := 1199) (M := mL_law) (as := [.ref 0, .int (xs.getD (nI (i + 1)).toNatClampNeg 0), .int (xs.getD (nI (i + 2)).toNatClampNeg 0), .ref o]) dL_law_1199 fw_L_commute fl_L_243 fs_L_commute rfl (c_L_commute hs (d := d - 1) (by omega) hI (xs.getD (nI (i + 1)).toNatClampNeg 0) (xs.getD (nI (i + 2)).toNatClampNeg 0) (kc := 2) (ks := 12) (Nat.le_refl _) (Nat.le_refl _)) (by omega) (by omega) (by omega) (st := []) (Nat.le_of_ble_eq_true rfl) rfl (kr_J fun v1 w1 hv1 => ?_) kx_J
  obtain ⟨k1, x1, S1, hA1, hv1, hI1, hO1⟩ := hv1
  subst hv1
  refine J_istore (pc := 1202) dL_law_1202 (by decide) rfl ?_
  show J X mL_law d (kc - 2) (ks - 12) 1204 [some (.retAddr 0), some (.ref 0), some (.ref 19), some (.ref o), some (.int (nI i)), some (.int (nI k1)), none] [] w1 Q
  refine J_aload_n (pc := 1204) dL_law_1204 rfl rfl rfl ?_
  refine J_aload_n (pc := 1205) dL_law_1205 rfl rfl rfl ?_
  refine J_iload (pc := 1206) dL_law_1206 rfl ?_
  refine J_iconst (pc := 1208) (v := nI 1) dL_law_1208 (by decide) ?_
  refine J_iaddN (pc := 1209) dL_law_1209 ?_
  refine J_ialdO (pc := 1210) dL_law_1210 hX0 (nI_in (by omega) (by omega)) ?_
  refine J_aload_n (pc := 1211) dL_law_1211 rfl rfl rfl ?_
  refine J_iload (pc := 1212) dL_law_1212 rfl ?_
  refine J_iconst (pc := 1214) (v := nI 2) dL_law_1214 (by decide) ?_
  refine J_iaddN (pc := 1215) dL_law_1215 ?_
  refine J_ialdO (pc := 1216) dL_law_1216 hX0 (nI_in (by omega) (by omega)) ?_
  obtain ⟨f26, h26⟩ := hI1.c19
  refine J_callV0 (pc := 1217) (M := mL_law) (as := [.int (xs.getD (nI (i + 1)).toNatClampNeg 0), .int (xs.getD (nI (i + 2)).toNatClampNeg 0)]) dL_law_1217 fw_X8_commute fl_L_245 fm_X8_commute fe_X8_commute h26 (by decide) rfl rfl rfl (vv_commute hs (d := d - 1) (by omega) hI1 (xs.getD (nI (i + 1)).toNatClampNeg 0) (xs.getD (nI (i + 2)).toNatClampNeg 0) (kc := 0) (ks := 0)) (by omega) (st := []) (Nat.le_of_ble_eq_true rfl) rfl (kr_J fun v2 w2 hv2 => ?_) kx_J
  obtain ⟨k2, S2, hA2, hI2, hO2⟩ := hv2
  obtain ⟨h1, h7, hM⟩ := hI.bd
  obtain ⟨rfl, rfl⟩ := AG.same (fun v v' x y h h' => (fD_commute h1 h7 hM (xs.getD (nI (i + 1)).toNatClampNeg 0) (xs.getD (nI (i + 2)).toNatClampNeg 0) v v' x y h h').1) hA1 hA2
  have hsm := AG.val (fun v v' x y h h' => (fD_commute h1 h7 hM (xs.getD (nI (i + 1)).toNatClampNeg 0) (xs.getD (nI (i + 2)).toNatClampNeg 0) v v' x y h h').2) hA1 hA2
  have hk3 := AG.k3 hA1
  have hO : k1 = 0 → ∃ s, w2[o]? = some (.inr (8, [.long x1.toInt64, s])) := fun h => by obtain ⟨s, hs⟩ := hO1 h; exact ⟨s, hO2.trans hs⟩
  have hB := fun h0 : k1 = 0 => bD_commute (xs.getD (nI (i + 1)).toNatClampNeg 0) (xs.getD (nI (i + 2)).toNatClampNeg 0) v2 _ (AG.D1 hA2 h0)
  have hI3 : LI o S1 S1 w2 := ⟨_, hI2⟩
  refine J_istore (pc := 1220) dL_law_1220 (by decide) rfl ?_
  show J X mL_law d (kc - 2) (ks - 12) 1222 [some (.retAddr 0), some (.ref 0), some (.ref 19), some (.ref o), some (.int (nI i)), some (.int (nI k1)), some (.int v2)] [] w2 Q
  refine J_aload_n (pc := 1222) dL_law_1222 rfl rfl rfl ?_
  obtain ⟨f3, h3⟩ := hI2.c19
  refine J_callV0 (pc := 1223) (M := mL_law) (as := []) dL_law_1223 fw_X8_thrown fl_L_246 fm_X8_thrown fe_X8_thrown h3 (by decide) rfl rfl rfl (vv_thrown hs (d := d - 1) hI2 (kc := 0) (ks := 0)) (by omega) (st := []) (Nat.le_of_ble_eq_true rfl) rfl (kr_P fun v3 hv3 => ?_) kx_I
  subst hv3
  refine J_iload (pc := 1226) dL_law_1226 rfl ?_
  refine J_icmp_eq (pc := 1228) (tgt := 1233) dL_law_1228 (by decide) (fun _ => ?_) (fun h => absurd rfl h)
  refine J_iload (pc := 1233) dL_law_1233 rfl ?_
  have hend : J X mL_law d (kc - 2) (ks - 12) 1258 [some (.retAddr 0), some (.ref 0), some (.ref 19), some (.ref o), some (.int (nI i)), some (.int (nI k1)), some (.int v2)] [] w2 Q := by
    refine J_goto (pc := 1258) (tgt := 2032) dL_law_1258 (by decide) ?_
    exact J_sub (L' := [some (.retAddr 0), some (.ref 0), some (.ref 19), some (.ref o), some (.int (nI i)), none, none]) ⟨rfl, rfl, rfl, rfl, rfl, trivial⟩ ((ih _ _ hI3).mono (by omega) (by omega) (fun _ _ h => h))
  refine J_if_neN (pc := 1235) (tgt := 1258) dL_law_1235 (by decide) (by omega) (fun _ => hend) (fun h0 => ?_)
  obtain ⟨s4, hO4⟩ := hO h0
  refine J_aload_n (pc := 1238) dL_law_1238 rfl rfl rfl ?_
  refine J_getN (pc := 1239) (k := 0) dL_law_1239 kC8 (by decide) ff_L_13 hO4 rfl ?_
  refine J_iload (pc := 1242) dL_law_1242 rfl ?_
  have hx1 := hsm h0
  rcases hB h0 with hb | hb
  · subst hb
    subst hx1
    refine J_if_eq (pc := 1244) (tgt := 1251) dL_law_1244 (by decide) (fun _ => ?_) (fun h => absurd rfl h)
    refine J_lconst (pc := 1251) (v := (nI 0).toInt64) dL_law_1251 (by decide) ?_
    refine J_lcmp (pc := 1252) dL_law_1252 ?_
    exact J_if_eq (pc := 1253) (tgt := 1258) dL_law_1253 (by decide) (fun _ => hend) (fun h => absurd (lg_same rfl) h)
  · subst hb
    subst hx1
    refine J_if_eq (pc := 1244) (tgt := 1251) dL_law_1244 (by decide) (fun h => absurd h (by decide)) (fun _ => ?_)
    refine J_lconst (pc := 1247) (v := (nI 1).toInt64) dL_law_1247 (by decide) ?_
    refine J_goto (pc := 1248) (tgt := 1252) dL_law_1248 (by decide) ?_
    refine J_lcmp (pc := 1252) dL_law_1252 ?_
    exact J_if_eq (pc := 1253) (tgt := 1258) dL_law_1253 (by decide) (fun _ => hend) (fun h => absurd (lg_same rfl) h)
set_option maxRecDepth 100000 in
set_option maxHeartbeats 4000000 in
theorem s_25 {X : jX} (hs : X.1.stackTraces = false) (hXO : XO X) {xs : List Int32} (hX0 : X.2.2.2.2.2[0]? = some (.inl (0, xs))) (hX1 : xs.length ≤ 320) {d : Nat} (hd : 45 ≤ d) {o : Nat} {S : StX} {w : List jC} (hI : LI o S S w) {i : Nat} (hi : i + 5 ≤ xs.length) {kc ks : Nat} (hkc : 700 ≤ kc) (hks : 40000 ≤ ks) {Q : jQ} (ih : ∀ (S' : StX) (w' : List jC), LI o S' S' w' → J X mL_law d (kc - 700) (ks - 40000) 2032 [some (.retAddr 0), some (.ref 0), some (.ref 19), some (.ref o), some (.int (nI i)), none, none] [] w' Q) : J X mL_law d kc ks 1261 [some (.retAddr 0), some (.ref 0), some (.ref 19), some (.ref o), some (.int (nI i)), none, none] [] w Q := by
  refine J_aload_n (pc := 1261) dL_law_1261 rfl rfl rfl ?_
  refine J_aload_n (pc := 1262) dL_law_1262 rfl rfl rfl ?_
  refine J_iload (pc := 1263) dL_law_1263 rfl ?_
  refine J_iconst (pc := 1265) (v := nI 1) dL_law_1265 (by decide) ?_
  refine J_iaddN (pc := 1266) dL_law_1266 ?_
  refine J_ialdO (pc := 1267) dL_law_1267 hX0 (nI_in (by omega) (by omega)) ?_
  refine J_aload_n (pc := 1268) dL_law_1268 rfl rfl rfl ?_
  refine J_iload (pc := 1269) dL_law_1269 rfl ?_
  refine J_iconst (pc := 1271) (v := nI 2) dL_law_1271 (by decide) ?_
  refine J_iaddN (pc := 1272) dL_law_1272 ?_
  refine J_ialdO (pc := 1273) dL_law_1273 hX0 (nI_in (by omega) (by omega)) ?_
  refine J_aload_n (pc := 1274) dL_law_1274 rfl rfl rfl ?_
  refine J_callSX (pc := 1275) (M := mL_law) (as := [.ref 0, .int (xs.getD (nI (i + 1)).toNatClampNeg 0), .int (xs.getD (nI (i + 2)).toNatClampNeg 0), .ref o]) dL_law_1275 fw_L_size fl_L_249 fs_L_size rfl (c_L_size hs (d := d - 1) (by omega) hI (xs.getD (nI (i + 1)).toNatClampNeg 0) (xs.getD (nI (i + 2)).toNatClampNeg 0) (kc := 2) (ks := 12) (Nat.le_refl _) (Nat.le_refl _)) (by omega) (by omega) (by omega) (st := []) (Nat.le_of_ble_eq_true rfl) rfl (kr_I fun v1 w1 _ hI1 => ?_) kx_I
  refine J_istore (pc := 1278) dL_law_1278 (by decide) rfl ?_
  show J X mL_law d (kc - 2) (ks - 12) 1280 [some (.retAddr 0), some (.ref 0), some (.ref 19), some (.ref o), some (.int (nI i)), some (.int v1), none] [] w1 Q
  refine J_aload_n (pc := 1280) dL_law_1280 rfl rfl rfl ?_
  refine J_aload_n (pc := 1281) dL_law_1281 rfl rfl rfl ?_
  refine J_iload (pc := 1282) dL_law_1282 rfl ?_
  refine J_iconst (pc := 1284) (v := nI 1) dL_law_1284 (by decide) ?_
  refine J_iaddN (pc := 1285) dL_law_1285 ?_
  refine J_ialdO (pc := 1286) dL_law_1286 hX0 (nI_in (by omega) (by omega)) ?_
  refine J_aload_n (pc := 1287) dL_law_1287 rfl rfl rfl ?_
  refine J_iload (pc := 1288) dL_law_1288 rfl ?_
  refine J_iconst (pc := 1290) (v := nI 2) dL_law_1290 (by decide) ?_
  refine J_iaddN (pc := 1291) dL_law_1291 ?_
  refine J_ialdO (pc := 1292) dL_law_1292 hX0 (nI_in (by omega) (by omega)) ?_
  obtain ⟨f26, h26⟩ := hI1.c19
  refine J_callV (pc := 1293) (M := mL_law) (as := [.int (xs.getD (nI (i + 1)).toNatClampNeg 0), .int (xs.getD (nI (i + 2)).toNatClampNeg 0)]) dL_law_1293 fw_X8_size fl_L_251 fm_X8_size fe_X8_size h26 (by decide) rfl rfl rfl (vv_size hs (d := d - 1) (by omega) hI1 (xs.getD (nI (i + 1)).toNatClampNeg 0) (xs.getD (nI (i + 2)).toNatClampNeg 0) (kc := 13) (ks := 2054) (Nat.le_refl _) (Nat.le_refl _)) (by omega) (by omega) (by omega) (st := []) (Nat.le_of_ble_eq_true rfl) rfl (kr_I fun v26 w26 _ hI26 => ?_) kx_I
  refine J_istore (pc := 1296) dL_law_1296 (by decide) rfl ?_
  show J X mL_law d (kc - 2 - 13) (ks - 12 - 2054) 1298 [some (.retAddr 0), some (.ref 0), some (.ref 19), some (.ref o), some (.int (nI i)), some (.int v1), some (.int v26)] [] w26 Q
  refine J_goto (pc := 1298) (tgt := 2032) dL_law_1298 (by decide) ?_
  exact J_sub (L' := [some (.retAddr 0), some (.ref 0), some (.ref 19), some (.ref o), some (.int (nI i)), none, none]) ⟨rfl, rfl, rfl, rfl, rfl, trivial⟩ ((ih _ _ hI26).mono (by omega) (by omega) (fun _ _ h => h))
set_option maxRecDepth 100000 in
set_option maxHeartbeats 4000000 in
theorem s_26 {X : jX} (hs : X.1.stackTraces = false) (hXO : XO X) {xs : List Int32} (hX0 : X.2.2.2.2.2[0]? = some (.inl (0, xs))) (hX1 : xs.length ≤ 320) {d : Nat} (hd : 45 ≤ d) {o : Nat} {S : StX} {w : List jC} (hI : LI o S S w) {i : Nat} (hi : i + 5 ≤ xs.length) {kc ks : Nat} (hkc : 700 ≤ kc) (hks : 40000 ≤ ks) {Q : jQ} (ih : ∀ (S' : StX) (w' : List jC), LI o S' S' w' → J X mL_law d (kc - 700) (ks - 40000) 2032 [some (.retAddr 0), some (.ref 0), some (.ref 19), some (.ref o), some (.int (nI i)), none, none] [] w' Q) : J X mL_law d kc ks 1301 [some (.retAddr 0), some (.ref 0), some (.ref 19), some (.ref o), some (.int (nI i)), none, none] [] w Q := by
  refine J_aload_n (pc := 1301) dL_law_1301 rfl rfl rfl ?_
  refine J_aload_n (pc := 1302) dL_law_1302 rfl rfl rfl ?_
  refine J_iload (pc := 1303) dL_law_1303 rfl ?_
  refine J_iconst (pc := 1305) (v := nI 1) dL_law_1305 (by decide) ?_
  refine J_iaddN (pc := 1306) dL_law_1306 ?_
  refine J_ialdO (pc := 1307) dL_law_1307 hX0 (nI_in (by omega) (by omega)) ?_
  refine J_aload_n (pc := 1308) dL_law_1308 rfl rfl rfl ?_
  refine J_iload (pc := 1309) dL_law_1309 rfl ?_
  refine J_iconst (pc := 1311) (v := nI 2) dL_law_1311 (by decide) ?_
  refine J_iaddN (pc := 1312) dL_law_1312 ?_
  refine J_ialdO (pc := 1313) dL_law_1313 hX0 (nI_in (by omega) (by omega)) ?_
  refine J_aload_n (pc := 1314) dL_law_1314 rfl rfl rfl ?_
  refine J_iload (pc := 1315) dL_law_1315 rfl ?_
  refine J_iconst (pc := 1317) (v := nI 3) dL_law_1317 (by decide) ?_
  refine J_iaddN (pc := 1318) dL_law_1318 ?_
  refine J_ialdO (pc := 1319) dL_law_1319 hX0 (nI_in (by omega) (by omega)) ?_
  refine J_aload_n (pc := 1320) dL_law_1320 rfl rfl rfl ?_
  refine J_callSX (pc := 1321) (M := mL_law) (as := [.ref 0, .int (xs.getD (nI (i + 1)).toNatClampNeg 0), .int (xs.getD (nI (i + 2)).toNatClampNeg 0), .int (xs.getD (nI (i + 3)).toNatClampNeg 0), .ref o]) dL_law_1321 fw_L_reach fl_L_252 fs_L_reach rfl (c_L_reach hs (d := d - 1) (by omega) hI (xs.getD (nI (i + 1)).toNatClampNeg 0) (xs.getD (nI (i + 2)).toNatClampNeg 0) (xs.getD (nI (i + 3)).toNatClampNeg 0) (kc := 3) (ks := 18) (Nat.le_refl _) (Nat.le_refl _)) (by omega) (by omega) (by omega) (st := []) (Nat.le_of_ble_eq_true rfl) rfl (kr_I fun v1 w1 _ hI1 => ?_) kx_I
  refine J_istore (pc := 1324) dL_law_1324 (by decide) rfl ?_
  show J X mL_law d (kc - 3) (ks - 18) 1326 [some (.retAddr 0), some (.ref 0), some (.ref 19), some (.ref o), some (.int (nI i)), some (.int v1), none] [] w1 Q
  refine J_aload_n (pc := 1326) dL_law_1326 rfl rfl rfl ?_
  refine J_aload_n (pc := 1327) dL_law_1327 rfl rfl rfl ?_
  refine J_iload (pc := 1328) dL_law_1328 rfl ?_
  refine J_iconst (pc := 1330) (v := nI 1) dL_law_1330 (by decide) ?_
  refine J_iaddN (pc := 1331) dL_law_1331 ?_
  refine J_ialdO (pc := 1332) dL_law_1332 hX0 (nI_in (by omega) (by omega)) ?_
  refine J_aload_n (pc := 1333) dL_law_1333 rfl rfl rfl ?_
  refine J_iload (pc := 1334) dL_law_1334 rfl ?_
  refine J_iconst (pc := 1336) (v := nI 2) dL_law_1336 (by decide) ?_
  refine J_iaddN (pc := 1337) dL_law_1337 ?_
  refine J_ialdO (pc := 1338) dL_law_1338 hX0 (nI_in (by omega) (by omega)) ?_
  refine J_aload_n (pc := 1339) dL_law_1339 rfl rfl rfl ?_
  refine J_iload (pc := 1340) dL_law_1340 rfl ?_
  refine J_iconst (pc := 1342) (v := nI 3) dL_law_1342 (by decide) ?_
  refine J_iaddN (pc := 1343) dL_law_1343 ?_
  refine J_ialdO (pc := 1344) dL_law_1344 hX0 (nI_in (by omega) (by omega)) ?_
  obtain ⟨f36, h36⟩ := hI1.c19
  refine J_callV (pc := 1345) (M := mL_law) (as := [.int (xs.getD (nI (i + 1)).toNatClampNeg 0), .int (xs.getD (nI (i + 2)).toNatClampNeg 0), .int (xs.getD (nI (i + 3)).toNatClampNeg 0)]) dL_law_1345 fw_X8_reach fl_L_254 fm_X8_reach fe_X8_reach h36 (by decide) rfl rfl rfl (vv_reach hs (d := d - 1) (by omega) hI1 (xs.getD (nI (i + 1)).toNatClampNeg 0) (xs.getD (nI (i + 2)).toNatClampNeg 0) (xs.getD (nI (i + 3)).toNatClampNeg 0) (kc := 13) (ks := 2054) (Nat.le_refl _) (Nat.le_refl _)) (by omega) (by omega) (by omega) (st := []) (Nat.le_of_ble_eq_true rfl) rfl (kr_I fun v36 w36 _ hI36 => ?_) kx_I
  refine J_istore (pc := 1348) dL_law_1348 (by decide) rfl ?_
  show J X mL_law d (kc - 3 - 13) (ks - 18 - 2054) 1350 [some (.retAddr 0), some (.ref 0), some (.ref 19), some (.ref o), some (.int (nI i)), some (.int v1), some (.int v36)] [] w36 Q
  refine J_goto (pc := 1350) (tgt := 2032) dL_law_1350 (by decide) ?_
  exact J_sub (L' := [some (.retAddr 0), some (.ref 0), some (.ref 19), some (.ref o), some (.int (nI i)), none, none]) ⟨rfl, rfl, rfl, rfl, rfl, trivial⟩ ((ih _ _ hI36).mono (by omega) (by omega) (fun _ _ h => h))
set_option maxRecDepth 100000 in
set_option maxHeartbeats 4000000 in
theorem s_27 {X : jX} (hs : X.1.stackTraces = false) (hXO : XO X) {xs : List Int32} (hX0 : X.2.2.2.2.2[0]? = some (.inl (0, xs))) (hX1 : xs.length ≤ 320) {d : Nat} (hd : 45 ≤ d) {o : Nat} {S : StX} {w : List jC} (hI : LI o S S w) {i : Nat} (hi : i + 5 ≤ xs.length) {kc ks : Nat} (hkc : 700 ≤ kc) (hks : 40000 ≤ ks) {Q : jQ} (ih : ∀ (S' : StX) (w' : List jC), LI o S' S' w' → J X mL_law d (kc - 700) (ks - 40000) 2032 [some (.retAddr 0), some (.ref 0), some (.ref 19), some (.ref o), some (.int (nI i)), none, none] [] w' Q) : J X mL_law d kc ks 1353 [some (.retAddr 0), some (.ref 0), some (.ref 19), some (.ref o), some (.int (nI i)), none, none] [] w Q := by
  refine J_aload_n (pc := 1353) dL_law_1353 rfl rfl rfl ?_
  refine J_aload_n (pc := 1354) dL_law_1354 rfl rfl rfl ?_
  refine J_iload (pc := 1355) dL_law_1355 rfl ?_
  refine J_iconst (pc := 1357) (v := nI 1) dL_law_1357 (by decide) ?_
  refine J_iaddN (pc := 1358) dL_law_1358 ?_
  refine J_ialdO (pc := 1359) dL_law_1359 hX0 (nI_in (by omega) (by omega)) ?_
  refine J_aload_n (pc := 1360) dL_law_1360 rfl rfl rfl ?_
  refine J_iload (pc := 1361) dL_law_1361 rfl ?_
  refine J_iconst (pc := 1363) (v := nI 2) dL_law_1363 (by decide) ?_
  refine J_iaddN (pc := 1364) dL_law_1364 ?_
  refine J_ialdO (pc := 1365) dL_law_1365 hX0 (nI_in (by omega) (by omega)) ?_
  refine J_aload_n (pc := 1366) dL_law_1366 rfl rfl rfl ?_
  refine J_iload (pc := 1367) dL_law_1367 rfl ?_
  refine J_iconst (pc := 1369) (v := nI 3) dL_law_1369 (by decide) ?_
  refine J_iaddN (pc := 1370) dL_law_1370 ?_
  refine J_ialdO (pc := 1371) dL_law_1371 hX0 (nI_in (by omega) (by omega)) ?_
  refine J_aload_n (pc := 1372) dL_law_1372 rfl rfl rfl ?_
  refine J_callSX (pc := 1373) (M := mL_law) (as := [.ref 0, .int (xs.getD (nI (i + 1)).toNatClampNeg 0), .int (xs.getD (nI (i + 2)).toNatClampNeg 0), .int (xs.getD (nI (i + 3)).toNatClampNeg 0), .ref o]) dL_law_1373 fw_L_isIn fl_L_255 fs_L_isIn rfl (c_L_isIn hs (d := d - 1) (by omega) hI (xs.getD (nI (i + 1)).toNatClampNeg 0) (xs.getD (nI (i + 2)).toNatClampNeg 0) (xs.getD (nI (i + 3)).toNatClampNeg 0) (kc := 3) (ks := 18) (Nat.le_refl _) (Nat.le_refl _)) (by omega) (by omega) (by omega) (st := []) (Nat.le_of_ble_eq_true rfl) rfl (kr_I fun v1 w1 _ hI1 => ?_) kx_I
  refine J_istore (pc := 1376) dL_law_1376 (by decide) rfl ?_
  show J X mL_law d (kc - 3) (ks - 18) 1378 [some (.retAddr 0), some (.ref 0), some (.ref 19), some (.ref o), some (.int (nI i)), some (.int v1), none] [] w1 Q
  refine J_aload_n (pc := 1378) dL_law_1378 rfl rfl rfl ?_
  refine J_aload_n (pc := 1379) dL_law_1379 rfl rfl rfl ?_
  refine J_iload (pc := 1380) dL_law_1380 rfl ?_
  refine J_iconst (pc := 1382) (v := nI 1) dL_law_1382 (by decide) ?_
  refine J_iaddN (pc := 1383) dL_law_1383 ?_
  refine J_ialdO (pc := 1384) dL_law_1384 hX0 (nI_in (by omega) (by omega)) ?_
  refine J_aload_n (pc := 1385) dL_law_1385 rfl rfl rfl ?_
  refine J_iload (pc := 1386) dL_law_1386 rfl ?_
  refine J_iconst (pc := 1388) (v := nI 2) dL_law_1388 (by decide) ?_
  refine J_iaddN (pc := 1389) dL_law_1389 ?_
  refine J_ialdO (pc := 1390) dL_law_1390 hX0 (nI_in (by omega) (by omega)) ?_
  refine J_aload_n (pc := 1391) dL_law_1391 rfl rfl rfl ?_
  refine J_iload (pc := 1392) dL_law_1392 rfl ?_
  refine J_iconst (pc := 1394) (v := nI 3) dL_law_1394 (by decide) ?_
  refine J_iaddN (pc := 1395) dL_law_1395 ?_
  refine J_ialdO (pc := 1396) dL_law_1396 hX0 (nI_in (by omega) (by omega)) ?_
  obtain ⟨f36, h36⟩ := hI1.c19
  refine J_callV (pc := 1397) (M := mL_law) (as := [.int (xs.getD (nI (i + 1)).toNatClampNeg 0), .int (xs.getD (nI (i + 2)).toNatClampNeg 0), .int (xs.getD (nI (i + 3)).toNatClampNeg 0)]) dL_law_1397 fw_X8_isIn fl_L_257 fm_X8_isIn fe_X8_isIn h36 (by decide) rfl rfl rfl (vv_isIn hs (d := d - 1) (by omega) hI1 (xs.getD (nI (i + 1)).toNatClampNeg 0) (xs.getD (nI (i + 2)).toNatClampNeg 0) (xs.getD (nI (i + 3)).toNatClampNeg 0) (kc := 13) (ks := 2054) (Nat.le_refl _) (Nat.le_refl _)) (by omega) (by omega) (by omega) (st := []) (Nat.le_of_ble_eq_true rfl) rfl (kr_I fun v36 w36 _ hI36 => ?_) kx_I
  refine J_istore (pc := 1400) dL_law_1400 (by decide) rfl ?_
  show J X mL_law d (kc - 3 - 13) (ks - 18 - 2054) 1402 [some (.retAddr 0), some (.ref 0), some (.ref 19), some (.ref o), some (.int (nI i)), some (.int v1), some (.int v36)] [] w36 Q
  refine J_goto (pc := 1402) (tgt := 2032) dL_law_1402 (by decide) ?_
  exact J_sub (L' := [some (.retAddr 0), some (.ref 0), some (.ref 19), some (.ref o), some (.int (nI i)), none, none]) ⟨rfl, rfl, rfl, rfl, rfl, trivial⟩ ((ih _ _ hI36).mono (by omega) (by omega) (fun _ _ h => h))
set_option maxRecDepth 100000 in
set_option maxHeartbeats 4000000 in
theorem s_28 {X : jX} (hs : X.1.stackTraces = false) (hXO : XO X) {xs : List Int32} (hX0 : X.2.2.2.2.2[0]? = some (.inl (0, xs))) (hX1 : xs.length ≤ 320) {d : Nat} (hd : 45 ≤ d) {o : Nat} {S : StX} {w : List jC} (hI : LI o S S w) {i : Nat} (hi : i + 5 ≤ xs.length) {kc ks : Nat} (hkc : 700 ≤ kc) (hks : 40000 ≤ ks) {Q : jQ} (ih : ∀ (S' : StX) (w' : List jC), LI o S' S' w' → J X mL_law d (kc - 700) (ks - 40000) 2032 [some (.retAddr 0), some (.ref 0), some (.ref 19), some (.ref o), some (.int (nI i)), none, none] [] w' Q) : J X mL_law d kc ks 1405 [some (.retAddr 0), some (.ref 0), some (.ref 19), some (.ref o), some (.int (nI i)), none, none] [] w Q := by
  refine J_aload_n (pc := 1405) dL_law_1405 rfl rfl rfl ?_
  refine J_aload_n (pc := 1406) dL_law_1406 rfl rfl rfl ?_
  refine J_iload (pc := 1407) dL_law_1407 rfl ?_
  refine J_iconst (pc := 1409) (v := nI 1) dL_law_1409 (by decide) ?_
  refine J_iaddN (pc := 1410) dL_law_1410 ?_
  refine J_ialdO (pc := 1411) dL_law_1411 hX0 (nI_in (by omega) (by omega)) ?_
  refine J_aload_n (pc := 1412) dL_law_1412 rfl rfl rfl ?_
  refine J_iload (pc := 1413) dL_law_1413 rfl ?_
  refine J_iconst (pc := 1415) (v := nI 2) dL_law_1415 (by decide) ?_
  refine J_iaddN (pc := 1416) dL_law_1416 ?_
  refine J_ialdO (pc := 1417) dL_law_1417 hX0 (nI_in (by omega) (by omega)) ?_
  refine J_aload_n (pc := 1418) dL_law_1418 rfl rfl rfl ?_
  refine J_iload (pc := 1419) dL_law_1419 rfl ?_
  refine J_iconst (pc := 1421) (v := nI 3) dL_law_1421 (by decide) ?_
  refine J_iaddN (pc := 1422) dL_law_1422 ?_
  refine J_ialdO (pc := 1423) dL_law_1423 hX0 (nI_in (by omega) (by omega)) ?_
  refine J_aload_n (pc := 1424) dL_law_1424 rfl rfl rfl ?_
  refine J_callSX (pc := 1425) (M := mL_law) (as := [.ref 0, .int (xs.getD (nI (i + 1)).toNatClampNeg 0), .int (xs.getD (nI (i + 2)).toNatClampNeg 0), .int (xs.getD (nI (i + 3)).toNatClampNeg 0), .ref o]) dL_law_1425 fw_L_rank fl_L_258 fs_L_rank rfl (c_L_rank hs (d := d - 1) (by omega) hI (xs.getD (nI (i + 1)).toNatClampNeg 0) (xs.getD (nI (i + 2)).toNatClampNeg 0) (xs.getD (nI (i + 3)).toNatClampNeg 0) (kc := 3) (ks := 18) (Nat.le_refl _) (Nat.le_refl _)) (by omega) (by omega) (by omega) (st := []) (Nat.le_of_ble_eq_true rfl) rfl (kr_I fun v1 w1 _ hI1 => ?_) kx_I
  refine J_istore (pc := 1428) dL_law_1428 (by decide) rfl ?_
  show J X mL_law d (kc - 3) (ks - 18) 1430 [some (.retAddr 0), some (.ref 0), some (.ref 19), some (.ref o), some (.int (nI i)), some (.int v1), none] [] w1 Q
  refine J_aload_n (pc := 1430) dL_law_1430 rfl rfl rfl ?_
  refine J_aload_n (pc := 1431) dL_law_1431 rfl rfl rfl ?_
  refine J_iload (pc := 1432) dL_law_1432 rfl ?_
  refine J_iconst (pc := 1434) (v := nI 1) dL_law_1434 (by decide) ?_
  refine J_iaddN (pc := 1435) dL_law_1435 ?_
  refine J_ialdO (pc := 1436) dL_law_1436 hX0 (nI_in (by omega) (by omega)) ?_
  refine J_aload_n (pc := 1437) dL_law_1437 rfl rfl rfl ?_
  refine J_iload (pc := 1438) dL_law_1438 rfl ?_
  refine J_iconst (pc := 1440) (v := nI 2) dL_law_1440 (by decide) ?_
  refine J_iaddN (pc := 1441) dL_law_1441 ?_
  refine J_ialdO (pc := 1442) dL_law_1442 hX0 (nI_in (by omega) (by omega)) ?_
  refine J_aload_n (pc := 1443) dL_law_1443 rfl rfl rfl ?_
  refine J_iload (pc := 1444) dL_law_1444 rfl ?_
  refine J_iconst (pc := 1446) (v := nI 3) dL_law_1446 (by decide) ?_
  refine J_iaddN (pc := 1447) dL_law_1447 ?_
  refine J_ialdO (pc := 1448) dL_law_1448 hX0 (nI_in (by omega) (by omega)) ?_
  obtain ⟨f36, h36⟩ := hI1.c19
  refine J_callV (pc := 1449) (M := mL_law) (as := [.int (xs.getD (nI (i + 1)).toNatClampNeg 0), .int (xs.getD (nI (i + 2)).toNatClampNeg 0), .int (xs.getD (nI (i + 3)).toNatClampNeg 0)]) dL_law_1449 fw_X8_rank fl_L_260 fm_X8_rank fe_X8_rank h36 (by decide) rfl rfl rfl (vv_rank hs (d := d - 1) (by omega) hI1 (xs.getD (nI (i + 1)).toNatClampNeg 0) (xs.getD (nI (i + 2)).toNatClampNeg 0) (xs.getD (nI (i + 3)).toNatClampNeg 0) (kc := 13) (ks := 2054) (Nat.le_refl _) (Nat.le_refl _)) (by omega) (by omega) (by omega) (st := []) (Nat.le_of_ble_eq_true rfl) rfl (kr_I fun v36 w36 _ hI36 => ?_) kx_I
  refine J_istore (pc := 1452) dL_law_1452 (by decide) rfl ?_
  show J X mL_law d (kc - 3 - 13) (ks - 18 - 2054) 1454 [some (.retAddr 0), some (.ref 0), some (.ref 19), some (.ref o), some (.int (nI i)), some (.int v1), some (.int v36)] [] w36 Q
  refine J_goto (pc := 1454) (tgt := 2032) dL_law_1454 (by decide) ?_
  exact J_sub (L' := [some (.retAddr 0), some (.ref 0), some (.ref 19), some (.ref o), some (.int (nI i)), none, none]) ⟨rfl, rfl, rfl, rfl, rfl, trivial⟩ ((ih _ _ hI36).mono (by omega) (by omega) (fun _ _ h => h))
set_option maxRecDepth 100000 in
set_option maxHeartbeats 4000000 in
theorem s_29 {X : jX} (hs : X.1.stackTraces = false) (hXO : XO X) {xs : List Int32} (hX0 : X.2.2.2.2.2[0]? = some (.inl (0, xs))) (hX1 : xs.length ≤ 320) {d : Nat} (hd : 45 ≤ d) {o : Nat} {S : StX} {w : List jC} (hI : LI o S S w) {i : Nat} (hi : i + 5 ≤ xs.length) {kc ks : Nat} (hkc : 700 ≤ kc) (hks : 40000 ≤ ks) {Q : jQ} (ih : ∀ (S' : StX) (w' : List jC), LI o S' S' w' → J X mL_law d (kc - 700) (ks - 40000) 2032 [some (.retAddr 0), some (.ref 0), some (.ref 19), some (.ref o), some (.int (nI i)), none, none] [] w' Q) : J X mL_law d kc ks 1457 [some (.retAddr 0), some (.ref 0), some (.ref 19), some (.ref o), some (.int (nI i)), none, none] [] w Q := by
  refine J_aload_n (pc := 1457) dL_law_1457 rfl rfl rfl ?_
  refine J_aload_n (pc := 1458) dL_law_1458 rfl rfl rfl ?_
  refine J_iload (pc := 1459) dL_law_1459 rfl ?_
  refine J_iconst (pc := 1461) (v := nI 1) dL_law_1461 (by decide) ?_
  refine J_iaddN (pc := 1462) dL_law_1462 ?_
  refine J_ialdO (pc := 1463) dL_law_1463 hX0 (nI_in (by omega) (by omega)) ?_
  refine J_aload_n (pc := 1464) dL_law_1464 rfl rfl rfl ?_
  refine J_iload (pc := 1465) dL_law_1465 rfl ?_
  refine J_iconst (pc := 1467) (v := nI 2) dL_law_1467 (by decide) ?_
  refine J_iaddN (pc := 1468) dL_law_1468 ?_
  refine J_ialdO (pc := 1469) dL_law_1469 hX0 (nI_in (by omega) (by omega)) ?_
  refine J_aload_n (pc := 1470) dL_law_1470 rfl rfl rfl ?_
  refine J_callSX (pc := 1471) (M := mL_law) (as := [.ref 0, .int (xs.getD (nI (i + 1)).toNatClampNeg 0), .int (xs.getD (nI (i + 2)).toNatClampNeg 0), .ref o]) dL_law_1471 fw_L_list fl_L_261 fs_L_list rfl (c_L_list hs (d := d - 1) (by omega) hXO hI (xs.getD (nI (i + 1)).toNatClampNeg 0) (xs.getD (nI (i + 2)).toNatClampNeg 0) (kc := 40) (ks := 1500) (Nat.le_refl _) (Nat.le_refl _)) (by omega) (by omega) (by omega) (st := []) (Nat.le_of_ble_eq_true rfl) rfl (kr_I fun v1 w1 _ hI1 => ?_) kx_I
  refine J_istore (pc := 1474) dL_law_1474 (by decide) rfl ?_
  show J X mL_law d (kc - 40) (ks - 1500) 1476 [some (.retAddr 0), some (.ref 0), some (.ref 19), some (.ref o), some (.int (nI i)), some (.int v1), none] [] w1 Q
  refine J_aload_n (pc := 1476) dL_law_1476 rfl rfl rfl ?_
  refine J_aload_n (pc := 1477) dL_law_1477 rfl rfl rfl ?_
  refine J_iload (pc := 1478) dL_law_1478 rfl ?_
  refine J_iconst (pc := 1480) (v := nI 1) dL_law_1480 (by decide) ?_
  refine J_iaddN (pc := 1481) dL_law_1481 ?_
  refine J_ialdO (pc := 1482) dL_law_1482 hX0 (nI_in (by omega) (by omega)) ?_
  refine J_aload_n (pc := 1483) dL_law_1483 rfl rfl rfl ?_
  refine J_iload (pc := 1484) dL_law_1484 rfl ?_
  refine J_iconst (pc := 1486) (v := nI 2) dL_law_1486 (by decide) ?_
  refine J_iaddN (pc := 1487) dL_law_1487 ?_
  refine J_ialdO (pc := 1488) dL_law_1488 hX0 (nI_in (by omega) (by omega)) ?_
  obtain ⟨f26, h26⟩ := hI1.c19
  refine J_callV (pc := 1489) (M := mL_law) (as := [.int (xs.getD (nI (i + 1)).toNatClampNeg 0), .int (xs.getD (nI (i + 2)).toNatClampNeg 0)]) dL_law_1489 fw_X8_list fl_L_263 fm_X8_list fe_X8_list h26 (by decide) rfl rfl rfl (vv_list hs (d := d - 1) (by omega) hXO hI1 (xs.getD (nI (i + 1)).toNatClampNeg 0) (xs.getD (nI (i + 2)).toNatClampNeg 0) (kc := 55) (ks := 3600) (Nat.le_refl _) (Nat.le_refl _)) (by omega) (by omega) (by omega) (st := []) (Nat.le_of_ble_eq_true rfl) rfl (kr_S fun a26 w26 hj26 hI26 => ?_) kx_S
  refine J_astore (pc := 1492) dL_law_1492 (by decide) hj26 rfl ?_
  show J X mL_law d (kc - 40 - 55) (ks - 1500 - 3600) 1494 [some (.retAddr 0), some (.ref 0), some (.ref 19), some (.ref o), some (.int (nI i)), some (.int v1), some (a26)] [] w26 Q
  refine J_goto (pc := 1494) (tgt := 2032) dL_law_1494 (by decide) ?_
  exact J_sub (L' := [some (.retAddr 0), some (.ref 0), some (.ref 19), some (.ref o), some (.int (nI i)), none, none]) ⟨rfl, rfl, rfl, rfl, rfl, trivial⟩ ((ih _ _ hI26).mono (by omega) (by omega) (fun _ _ h => h))
set_option maxRecDepth 100000 in
set_option maxHeartbeats 4000000 in
theorem s_30 {X : jX} (hs : X.1.stackTraces = false) (hXO : XO X) {xs : List Int32} (hX0 : X.2.2.2.2.2[0]? = some (.inl (0, xs))) (hX1 : xs.length ≤ 320) {d : Nat} (hd : 45 ≤ d) {o : Nat} {S : StX} {w : List jC} (hI : LI o S S w) {i : Nat} (hi : i + 5 ≤ xs.length) {kc ks : Nat} (hkc : 700 ≤ kc) (hks : 40000 ≤ ks) {Q : jQ} (ih : ∀ (S' : StX) (w' : List jC), LI o S' S' w' → J X mL_law d (kc - 700) (ks - 40000) 2032 [some (.retAddr 0), some (.ref 0), some (.ref 19), some (.ref o), some (.int (nI i)), none, none] [] w' Q) : J X mL_law d kc ks 1497 [some (.retAddr 0), some (.ref 0), some (.ref 19), some (.ref o), some (.int (nI i)), none, none] [] w Q := by
  refine J_aload_n (pc := 1497) dL_law_1497 rfl rfl rfl ?_
  refine J_aload_n (pc := 1498) dL_law_1498 rfl rfl rfl ?_
  refine J_iload (pc := 1499) dL_law_1499 rfl ?_
  refine J_iconst (pc := 1501) (v := nI 1) dL_law_1501 (by decide) ?_
  refine J_iaddN (pc := 1502) dL_law_1502 ?_
  refine J_ialdO (pc := 1503) dL_law_1503 hX0 (nI_in (by omega) (by omega)) ?_
  refine J_aload_n (pc := 1504) dL_law_1504 rfl rfl rfl ?_
  refine J_iload (pc := 1505) dL_law_1505 rfl ?_
  refine J_iconst (pc := 1507) (v := nI 2) dL_law_1507 (by decide) ?_
  refine J_iaddN (pc := 1508) dL_law_1508 ?_
  refine J_ialdO (pc := 1509) dL_law_1509 hX0 (nI_in (by omega) (by omega)) ?_
  refine J_aload_n (pc := 1510) dL_law_1510 rfl rfl rfl ?_
  refine J_callSX (pc := 1511) (M := mL_law) (as := [.ref 0, .int (xs.getD (nI (i + 1)).toNatClampNeg 0), .int (xs.getD (nI (i + 2)).toNatClampNeg 0), .ref o]) dL_law_1511 fw_L_comes fl_L_264 fs_L_comes rfl (c_L_comes hs (d := d - 1) (by omega) hI (xs.getD (nI (i + 1)).toNatClampNeg 0) (xs.getD (nI (i + 2)).toNatClampNeg 0) (kc := 2) (ks := 12) (Nat.le_refl _) (Nat.le_refl _)) (by omega) (by omega) (by omega) (st := []) (Nat.le_of_ble_eq_true rfl) rfl (kr_I fun v1 w1 _ hI1 => ?_) kx_I
  refine J_istore (pc := 1514) dL_law_1514 (by decide) rfl ?_
  show J X mL_law d (kc - 2) (ks - 12) 1516 [some (.retAddr 0), some (.ref 0), some (.ref 19), some (.ref o), some (.int (nI i)), some (.int v1), none] [] w1 Q
  refine J_aload_n (pc := 1516) dL_law_1516 rfl rfl rfl ?_
  refine J_aload_n (pc := 1517) dL_law_1517 rfl rfl rfl ?_
  refine J_iload (pc := 1518) dL_law_1518 rfl ?_
  refine J_iconst (pc := 1520) (v := nI 1) dL_law_1520 (by decide) ?_
  refine J_iaddN (pc := 1521) dL_law_1521 ?_
  refine J_ialdO (pc := 1522) dL_law_1522 hX0 (nI_in (by omega) (by omega)) ?_
  refine J_aload_n (pc := 1523) dL_law_1523 rfl rfl rfl ?_
  refine J_iload (pc := 1524) dL_law_1524 rfl ?_
  refine J_iconst (pc := 1526) (v := nI 2) dL_law_1526 (by decide) ?_
  refine J_iaddN (pc := 1527) dL_law_1527 ?_
  refine J_ialdO (pc := 1528) dL_law_1528 hX0 (nI_in (by omega) (by omega)) ?_
  obtain ⟨f26, h26⟩ := hI1.c19
  refine J_callV0 (pc := 1529) (M := mL_law) (as := [.int (xs.getD (nI (i + 1)).toNatClampNeg 0), .int (xs.getD (nI (i + 2)).toNatClampNeg 0)]) dL_law_1529 fw_X8_comes fl_L_266 fm_X8_comes fe_X8_comes h26 (by decide) rfl rfl rfl (vv_comes hs (d := d - 1) (by omega) hI1 (xs.getD (nI (i + 1)).toNatClampNeg 0) (xs.getD (nI (i + 2)).toNatClampNeg 0) (kc := 0) (ks := 0)) (by omega) (st := []) (Nat.le_of_ble_eq_true rfl) rfl (kr_I fun v26 w26 _ hI26 => ?_) kx_I
  refine J_istore (pc := 1532) dL_law_1532 (by decide) rfl ?_
  show J X mL_law d (kc - 2) (ks - 12) 1534 [some (.retAddr 0), some (.ref 0), some (.ref 19), some (.ref o), some (.int (nI i)), some (.int v1), some (.int v26)] [] w26 Q
  refine J_goto (pc := 1534) (tgt := 2032) dL_law_1534 (by decide) ?_
  exact J_sub (L' := [some (.retAddr 0), some (.ref 0), some (.ref 19), some (.ref o), some (.int (nI i)), none, none]) ⟨rfl, rfl, rfl, rfl, rfl, trivial⟩ ((ih _ _ hI26).mono (by omega) (by omega) (fun _ _ h => h))
set_option maxRecDepth 100000 in
set_option maxHeartbeats 4000000 in
theorem s_31 {X : jX} (hs : X.1.stackTraces = false) (hXO : XO X) {xs : List Int32} (hX0 : X.2.2.2.2.2[0]? = some (.inl (0, xs))) (hX1 : xs.length ≤ 320) {d : Nat} (hd : 45 ≤ d) {o : Nat} {S : StX} {w : List jC} (hI : LI o S S w) {i : Nat} (hi : i + 5 ≤ xs.length) {kc ks : Nat} (hkc : 700 ≤ kc) (hks : 40000 ≤ ks) {Q : jQ} (ih : ∀ (S' : StX) (w' : List jC), LI o S' S' w' → J X mL_law d (kc - 700) (ks - 40000) 2032 [some (.retAddr 0), some (.ref 0), some (.ref 19), some (.ref o), some (.int (nI i)), none, none] [] w' Q) : J X mL_law d kc ks 1537 [some (.retAddr 0), some (.ref 0), some (.ref 19), some (.ref o), some (.int (nI i)), none, none] [] w Q := by
  refine J_aload_n (pc := 1537) dL_law_1537 rfl rfl rfl ?_
  refine J_aload_n (pc := 1538) dL_law_1538 rfl rfl rfl ?_
  refine J_iload (pc := 1539) dL_law_1539 rfl ?_
  refine J_iconst (pc := 1541) (v := nI 1) dL_law_1541 (by decide) ?_
  refine J_iaddN (pc := 1542) dL_law_1542 ?_
  refine J_ialdO (pc := 1543) dL_law_1543 hX0 (nI_in (by omega) (by omega)) ?_
  refine J_aload_n (pc := 1544) dL_law_1544 rfl rfl rfl ?_
  refine J_callSX (pc := 1545) (M := mL_law) (as := [.ref 0, .int (xs.getD (nI (i + 1)).toNatClampNeg 0), .ref o]) dL_law_1545 fw_L_pieces fl_L_267 fs_L_pieces rfl (c_L_pieces hs (d := d - 1) (by omega) hI (xs.getD (nI (i + 1)).toNatClampNeg 0) (kc := 1) (ks := 6) (Nat.le_refl _) (Nat.le_refl _)) (by omega) (by omega) (by omega) (st := []) (Nat.le_of_ble_eq_true rfl) rfl (kr_I fun v1 w1 _ hI1 => ?_) kx_I
  refine J_istore (pc := 1548) dL_law_1548 (by decide) rfl ?_
  show J X mL_law d (kc - 1) (ks - 6) 1550 [some (.retAddr 0), some (.ref 0), some (.ref 19), some (.ref o), some (.int (nI i)), some (.int v1), none] [] w1 Q
  refine J_aload_n (pc := 1550) dL_law_1550 rfl rfl rfl ?_
  refine J_aload_n (pc := 1551) dL_law_1551 rfl rfl rfl ?_
  refine J_iload (pc := 1552) dL_law_1552 rfl ?_
  refine J_iconst (pc := 1554) (v := nI 1) dL_law_1554 (by decide) ?_
  refine J_iaddN (pc := 1555) dL_law_1555 ?_
  refine J_ialdO (pc := 1556) dL_law_1556 hX0 (nI_in (by omega) (by omega)) ?_
  obtain ⟨f16, h16⟩ := hI1.c19
  refine J_callV0 (pc := 1557) (M := mL_law) (as := [.int (xs.getD (nI (i + 1)).toNatClampNeg 0)]) dL_law_1557 fw_X8_pieces fl_L_269 fm_X8_pieces fe_X8_pieces h16 (by decide) rfl rfl rfl (vv_pieces hs (d := d - 1) (by omega) hI1 (xs.getD (nI (i + 1)).toNatClampNeg 0) (kc := 0) (ks := 0)) (by omega) (st := []) (Nat.le_of_ble_eq_true rfl) rfl (kr_I fun v16 w16 _ hI16 => ?_) kx_I
  refine J_istore (pc := 1560) dL_law_1560 (by decide) rfl ?_
  show J X mL_law d (kc - 1) (ks - 6) 1562 [some (.retAddr 0), some (.ref 0), some (.ref 19), some (.ref o), some (.int (nI i)), some (.int v1), some (.int v16)] [] w16 Q
  refine J_goto (pc := 1562) (tgt := 2032) dL_law_1562 (by decide) ?_
  exact J_sub (L' := [some (.retAddr 0), some (.ref 0), some (.ref 19), some (.ref o), some (.int (nI i)), none, none]) ⟨rfl, rfl, rfl, rfl, rfl, trivial⟩ ((ih _ _ hI16).mono (by omega) (by omega) (fun _ _ h => h))
set_option maxRecDepth 100000 in
set_option maxHeartbeats 4000000 in
theorem s_32 {X : jX} (hs : X.1.stackTraces = false) (hXO : XO X) {xs : List Int32} (hX0 : X.2.2.2.2.2[0]? = some (.inl (0, xs))) (hX1 : xs.length ≤ 320) {d : Nat} (hd : 45 ≤ d) {o : Nat} {S : StX} {w : List jC} (hI : LI o S S w) {i : Nat} (hi : i + 5 ≤ xs.length) {kc ks : Nat} (hkc : 700 ≤ kc) (hks : 40000 ≤ ks) {Q : jQ} (ih : ∀ (S' : StX) (w' : List jC), LI o S' S' w' → J X mL_law d (kc - 700) (ks - 40000) 2032 [some (.retAddr 0), some (.ref 0), some (.ref 19), some (.ref o), some (.int (nI i)), none, none] [] w' Q) : J X mL_law d kc ks 1565 [some (.retAddr 0), some (.ref 0), some (.ref 19), some (.ref o), some (.int (nI i)), none, none] [] w Q := by
  refine J_aload_n (pc := 1565) dL_law_1565 rfl rfl rfl ?_
  refine J_aload_n (pc := 1566) dL_law_1566 rfl rfl rfl ?_
  refine J_iload (pc := 1567) dL_law_1567 rfl ?_
  refine J_iconst (pc := 1569) (v := nI 1) dL_law_1569 (by decide) ?_
  refine J_iaddN (pc := 1570) dL_law_1570 ?_
  refine J_ialdO (pc := 1571) dL_law_1571 hX0 (nI_in (by omega) (by omega)) ?_
  refine J_aload_n (pc := 1572) dL_law_1572 rfl rfl rfl ?_
  refine J_iload (pc := 1573) dL_law_1573 rfl ?_
  refine J_iconst (pc := 1575) (v := nI 2) dL_law_1575 (by decide) ?_
  refine J_iaddN (pc := 1576) dL_law_1576 ?_
  refine J_ialdO (pc := 1577) dL_law_1577 hX0 (nI_in (by omega) (by omega)) ?_
  refine J_aload_n (pc := 1578) dL_law_1578 rfl rfl rfl ?_
  refine J_callSX (pc := 1579) (M := mL_law) (as := [.ref 0, .int (xs.getD (nI (i + 1)).toNatClampNeg 0), .int (xs.getD (nI (i + 2)).toNatClampNeg 0), .ref o]) dL_law_1579 fw_L_withOrder fl_L_270 fs_L_withOrder rfl (c_L_withOrder hs (d := d - 1) (by omega) hI (xs.getD (nI (i + 1)).toNatClampNeg 0) (xs.getD (nI (i + 2)).toNatClampNeg 0) (kc := 2) (ks := 12) (Nat.le_refl _) (Nat.le_refl _)) (by omega) (by omega) (by omega) (st := []) (Nat.le_of_ble_eq_true rfl) rfl (kr_I fun v1 w1 _ hI1 => ?_) kx_I
  refine J_istore (pc := 1582) dL_law_1582 (by decide) rfl ?_
  show J X mL_law d (kc - 2) (ks - 12) 1584 [some (.retAddr 0), some (.ref 0), some (.ref 19), some (.ref o), some (.int (nI i)), some (.int v1), none] [] w1 Q
  refine J_aload_n (pc := 1584) dL_law_1584 rfl rfl rfl ?_
  refine J_aload_n (pc := 1585) dL_law_1585 rfl rfl rfl ?_
  refine J_iload (pc := 1586) dL_law_1586 rfl ?_
  refine J_iconst (pc := 1588) (v := nI 1) dL_law_1588 (by decide) ?_
  refine J_iaddN (pc := 1589) dL_law_1589 ?_
  refine J_ialdO (pc := 1590) dL_law_1590 hX0 (nI_in (by omega) (by omega)) ?_
  refine J_aload_n (pc := 1591) dL_law_1591 rfl rfl rfl ?_
  refine J_iload (pc := 1592) dL_law_1592 rfl ?_
  refine J_iconst (pc := 1594) (v := nI 2) dL_law_1594 (by decide) ?_
  refine J_iaddN (pc := 1595) dL_law_1595 ?_
  refine J_ialdO (pc := 1596) dL_law_1596 hX0 (nI_in (by omega) (by omega)) ?_
  obtain ⟨f26, h26⟩ := hI1.c19
  refine J_callV (pc := 1597) (M := mL_law) (as := [.int (xs.getD (nI (i + 1)).toNatClampNeg 0), .int (xs.getD (nI (i + 2)).toNatClampNeg 0)]) dL_law_1597 fw_X8_withOrder fl_L_272 fm_X8_withOrder fe_X8_withOrder h26 (by decide) rfl rfl rfl (vv_withOrder hs (d := d - 1) (by omega) hI1 (xs.getD (nI (i + 1)).toNatClampNeg 0) (xs.getD (nI (i + 2)).toNatClampNeg 0) (kc := 13) (ks := 2054) (Nat.le_refl _) (Nat.le_refl _)) (by omega) (by omega) (by omega) (st := []) (Nat.le_of_ble_eq_true rfl) rfl (kr_I fun v26 w26 _ hI26 => ?_) kx_I
  refine J_istore (pc := 1600) dL_law_1600 (by decide) rfl ?_
  show J X mL_law d (kc - 2 - 13) (ks - 12 - 2054) 1602 [some (.retAddr 0), some (.ref 0), some (.ref 19), some (.ref o), some (.int (nI i)), some (.int v1), some (.int v26)] [] w26 Q
  refine J_goto (pc := 1602) (tgt := 2032) dL_law_1602 (by decide) ?_
  exact J_sub (L' := [some (.retAddr 0), some (.ref 0), some (.ref 19), some (.ref o), some (.int (nI i)), none, none]) ⟨rfl, rfl, rfl, rfl, rfl, trivial⟩ ((ih _ _ hI26).mono (by omega) (by omega) (fun _ _ h => h))
set_option maxRecDepth 100000 in
set_option maxHeartbeats 4000000 in
theorem s_33 {X : jX} (hs : X.1.stackTraces = false) (hXO : XO X) {xs : List Int32} (hX0 : X.2.2.2.2.2[0]? = some (.inl (0, xs))) (hX1 : xs.length ≤ 320) {d : Nat} (hd : 45 ≤ d) {o : Nat} {S : StX} {w : List jC} (hI : LI o S S w) {i : Nat} (hi : i + 5 ≤ xs.length) {kc ks : Nat} (hkc : 700 ≤ kc) (hks : 40000 ≤ ks) {Q : jQ} (ih : ∀ (S' : StX) (w' : List jC), LI o S' S' w' → J X mL_law d (kc - 700) (ks - 40000) 2032 [some (.retAddr 0), some (.ref 0), some (.ref 19), some (.ref o), some (.int (nI i)), none, none] [] w' Q) : J X mL_law d kc ks 1605 [some (.retAddr 0), some (.ref 0), some (.ref 19), some (.ref o), some (.int (nI i)), none, none] [] w Q := by
  refine J_aload_n (pc := 1605) dL_law_1605 rfl rfl rfl ?_
  refine J_aload_n (pc := 1606) dL_law_1606 rfl rfl rfl ?_
  refine J_iload (pc := 1607) dL_law_1607 rfl ?_
  refine J_iconst (pc := 1609) (v := nI 1) dL_law_1609 (by decide) ?_
  refine J_iaddN (pc := 1610) dL_law_1610 ?_
  refine J_ialdO (pc := 1611) dL_law_1611 hX0 (nI_in (by omega) (by omega)) ?_
  refine J_aload_n (pc := 1612) dL_law_1612 rfl rfl rfl ?_
  refine J_callSX (pc := 1613) (M := mL_law) (as := [.ref 0, .int (xs.getD (nI (i + 1)).toNatClampNeg 0), .ref o]) dL_law_1613 fw_L_even fl_L_273 fs_L_even rfl (c_L_even hs (d := d - 1) (by omega) hI (xs.getD (nI (i + 1)).toNatClampNeg 0) (kc := 1) (ks := 6) (Nat.le_refl _) (Nat.le_refl _)) (by omega) (by omega) (by omega) (st := []) (Nat.le_of_ble_eq_true rfl) rfl (kr_I fun v1 w1 _ hI1 => ?_) kx_I
  refine J_istore (pc := 1616) dL_law_1616 (by decide) rfl ?_
  show J X mL_law d (kc - 1) (ks - 6) 1618 [some (.retAddr 0), some (.ref 0), some (.ref 19), some (.ref o), some (.int (nI i)), some (.int v1), none] [] w1 Q
  refine J_aload_n (pc := 1618) dL_law_1618 rfl rfl rfl ?_
  refine J_aload_n (pc := 1619) dL_law_1619 rfl rfl rfl ?_
  refine J_iload (pc := 1620) dL_law_1620 rfl ?_
  refine J_iconst (pc := 1622) (v := nI 1) dL_law_1622 (by decide) ?_
  refine J_iaddN (pc := 1623) dL_law_1623 ?_
  refine J_ialdO (pc := 1624) dL_law_1624 hX0 (nI_in (by omega) (by omega)) ?_
  obtain ⟨f16, h16⟩ := hI1.c19
  refine J_callV (pc := 1625) (M := mL_law) (as := [.int (xs.getD (nI (i + 1)).toNatClampNeg 0)]) dL_law_1625 fw_X8_even fl_L_275 fm_X8_even fe_X8_even h16 (by decide) rfl rfl rfl (vv_even hs (d := d - 1) (by omega) hI1 (xs.getD (nI (i + 1)).toNatClampNeg 0) (kc := 13) (ks := 2054) (Nat.le_refl _) (Nat.le_refl _)) (by omega) (by omega) (by omega) (st := []) (Nat.le_of_ble_eq_true rfl) rfl (kr_I fun v16 w16 _ hI16 => ?_) kx_I
  refine J_istore (pc := 1628) dL_law_1628 (by decide) rfl ?_
  show J X mL_law d (kc - 1 - 13) (ks - 6 - 2054) 1630 [some (.retAddr 0), some (.ref 0), some (.ref 19), some (.ref o), some (.int (nI i)), some (.int v1), some (.int v16)] [] w16 Q
  refine J_goto (pc := 1630) (tgt := 2032) dL_law_1630 (by decide) ?_
  exact J_sub (L' := [some (.retAddr 0), some (.ref 0), some (.ref 19), some (.ref o), some (.int (nI i)), none, none]) ⟨rfl, rfl, rfl, rfl, rfl, trivial⟩ ((ih _ _ hI16).mono (by omega) (by omega) (fun _ _ h => h))
set_option maxRecDepth 100000 in
set_option maxHeartbeats 4000000 in
theorem s_34 {X : jX} (hs : X.1.stackTraces = false) (hXO : XO X) {xs : List Int32} (hX0 : X.2.2.2.2.2[0]? = some (.inl (0, xs))) (hX1 : xs.length ≤ 320) {d : Nat} (hd : 45 ≤ d) {o : Nat} {S : StX} {w : List jC} (hI : LI o S S w) {i : Nat} (hi : i + 5 ≤ xs.length) {kc ks : Nat} (hkc : 700 ≤ kc) (hks : 40000 ≤ ks) {Q : jQ} (ih : ∀ (S' : StX) (w' : List jC), LI o S' S' w' → J X mL_law d (kc - 700) (ks - 40000) 2032 [some (.retAddr 0), some (.ref 0), some (.ref 19), some (.ref o), some (.int (nI i)), none, none] [] w' Q) : J X mL_law d kc ks 1633 [some (.retAddr 0), some (.ref 0), some (.ref 19), some (.ref o), some (.int (nI i)), none, none] [] w Q := by
  refine J_aload_n (pc := 1633) dL_law_1633 rfl rfl rfl ?_
  refine J_aload_n (pc := 1634) dL_law_1634 rfl rfl rfl ?_
  refine J_iload (pc := 1635) dL_law_1635 rfl ?_
  refine J_iconst (pc := 1637) (v := nI 1) dL_law_1637 (by decide) ?_
  refine J_iaddN (pc := 1638) dL_law_1638 ?_
  refine J_ialdO (pc := 1639) dL_law_1639 hX0 (nI_in (by omega) (by omega)) ?_
  refine J_aload_n (pc := 1640) dL_law_1640 rfl rfl rfl ?_
  refine J_iload (pc := 1641) dL_law_1641 rfl ?_
  refine J_iconst (pc := 1643) (v := nI 2) dL_law_1643 (by decide) ?_
  refine J_iaddN (pc := 1644) dL_law_1644 ?_
  refine J_ialdO (pc := 1645) dL_law_1645 hX0 (nI_in (by omega) (by omega)) ?_
  refine J_aload_n (pc := 1646) dL_law_1646 rfl rfl rfl ?_
  refine J_iload (pc := 1647) dL_law_1647 rfl ?_
  refine J_iconst (pc := 1649) (v := nI 3) dL_law_1649 (by decide) ?_
  refine J_iaddN (pc := 1650) dL_law_1650 ?_
  refine J_ialdO (pc := 1651) dL_law_1651 hX0 (nI_in (by omega) (by omega)) ?_
  refine J_aload_n (pc := 1652) dL_law_1652 rfl rfl rfl ?_
  refine J_callSX (pc := 1653) (M := mL_law) (as := [.ref 0, .int (xs.getD (nI (i + 1)).toNatClampNeg 0), .int (xs.getD (nI (i + 2)).toNatClampNeg 0), .int (xs.getD (nI (i + 3)).toNatClampNeg 0), .ref o]) dL_law_1653 fw_L_colourings fl_L_276 fs_L_colourings rfl (c_L_colourings hs (d := d - 1) (by omega) hI (xs.getD (nI (i + 1)).toNatClampNeg 0) (xs.getD (nI (i + 2)).toNatClampNeg 0) (xs.getD (nI (i + 3)).toNatClampNeg 0) (kc := 3) (ks := 18) (Nat.le_refl _) (Nat.le_refl _)) (by omega) (by omega) (by omega) (st := []) (Nat.le_of_ble_eq_true rfl) rfl (kr_I fun v1 w1 _ hI1 => ?_) kx_I
  refine J_istore (pc := 1656) dL_law_1656 (by decide) rfl ?_
  show J X mL_law d (kc - 3) (ks - 18) 1658 [some (.retAddr 0), some (.ref 0), some (.ref 19), some (.ref o), some (.int (nI i)), some (.int v1), none] [] w1 Q
  refine J_aload_n (pc := 1658) dL_law_1658 rfl rfl rfl ?_
  refine J_aload_n (pc := 1659) dL_law_1659 rfl rfl rfl ?_
  refine J_iload (pc := 1660) dL_law_1660 rfl ?_
  refine J_iconst (pc := 1662) (v := nI 1) dL_law_1662 (by decide) ?_
  refine J_iaddN (pc := 1663) dL_law_1663 ?_
  refine J_ialdO (pc := 1664) dL_law_1664 hX0 (nI_in (by omega) (by omega)) ?_
  refine J_aload_n (pc := 1665) dL_law_1665 rfl rfl rfl ?_
  refine J_iload (pc := 1666) dL_law_1666 rfl ?_
  refine J_iconst (pc := 1668) (v := nI 2) dL_law_1668 (by decide) ?_
  refine J_iaddN (pc := 1669) dL_law_1669 ?_
  refine J_ialdO (pc := 1670) dL_law_1670 hX0 (nI_in (by omega) (by omega)) ?_
  refine J_aload_n (pc := 1671) dL_law_1671 rfl rfl rfl ?_
  refine J_iload (pc := 1672) dL_law_1672 rfl ?_
  refine J_iconst (pc := 1674) (v := nI 3) dL_law_1674 (by decide) ?_
  refine J_iaddN (pc := 1675) dL_law_1675 ?_
  refine J_ialdO (pc := 1676) dL_law_1676 hX0 (nI_in (by omega) (by omega)) ?_
  obtain ⟨f36, h36⟩ := hI1.c19
  refine J_callV (pc := 1677) (M := mL_law) (as := [.int (xs.getD (nI (i + 1)).toNatClampNeg 0), .int (xs.getD (nI (i + 2)).toNatClampNeg 0), .int (xs.getD (nI (i + 3)).toNatClampNeg 0)]) dL_law_1677 fw_X8_colourings fl_L_278 fm_X8_colourings fe_X8_colourings h36 (by decide) rfl rfl rfl (vv_colourings hs (d := d - 1) (by omega) hI1 (xs.getD (nI (i + 1)).toNatClampNeg 0) (xs.getD (nI (i + 2)).toNatClampNeg 0) (xs.getD (nI (i + 3)).toNatClampNeg 0) (kc := 15) (ks := 6428) (Nat.le_refl _) (Nat.le_refl _)) (by omega) (by omega) (by omega) (st := []) (Nat.le_of_ble_eq_true rfl) rfl (kr_I fun v36 w36 _ hI36 => ?_) kx_I
  refine J_istore (pc := 1680) dL_law_1680 (by decide) rfl ?_
  show J X mL_law d (kc - 3 - 15) (ks - 18 - 6428) 1682 [some (.retAddr 0), some (.ref 0), some (.ref 19), some (.ref o), some (.int (nI i)), some (.int v1), some (.int v36)] [] w36 Q
  refine J_goto (pc := 1682) (tgt := 2032) dL_law_1682 (by decide) ?_
  exact J_sub (L' := [some (.retAddr 0), some (.ref 0), some (.ref 19), some (.ref o), some (.int (nI i)), none, none]) ⟨rfl, rfl, rfl, rfl, rfl, trivial⟩ ((ih _ _ hI36).mono (by omega) (by omega) (fun _ _ h => h))
set_option maxRecDepth 100000 in
set_option maxHeartbeats 4000000 in
theorem s_35 {X : jX} (hs : X.1.stackTraces = false) (hXO : XO X) {xs : List Int32} (hX0 : X.2.2.2.2.2[0]? = some (.inl (0, xs))) (hX1 : xs.length ≤ 320) {d : Nat} (hd : 45 ≤ d) {o : Nat} {S : StX} {w : List jC} (hI : LI o S S w) {i : Nat} (hi : i + 5 ≤ xs.length) {kc ks : Nat} (hkc : 700 ≤ kc) (hks : 40000 ≤ ks) {Q : jQ} (ih : ∀ (S' : StX) (w' : List jC), LI o S' S' w' → J X mL_law d (kc - 700) (ks - 40000) 2032 [some (.retAddr 0), some (.ref 0), some (.ref 19), some (.ref o), some (.int (nI i)), none, none] [] w' Q) : J X mL_law d kc ks 1685 [some (.retAddr 0), some (.ref 0), some (.ref 19), some (.ref o), some (.int (nI i)), none, none] [] w Q := by
  refine J_aload_n (pc := 1685) dL_law_1685 rfl rfl rfl ?_
  refine J_aload_n (pc := 1686) dL_law_1686 rfl rfl rfl ?_
  refine J_iload (pc := 1687) dL_law_1687 rfl ?_
  refine J_iconst (pc := 1689) (v := nI 1) dL_law_1689 (by decide) ?_
  refine J_iaddN (pc := 1690) dL_law_1690 ?_
  refine J_ialdO (pc := 1691) dL_law_1691 hX0 (nI_in (by omega) (by omega)) ?_
  refine J_aload_n (pc := 1692) dL_law_1692 rfl rfl rfl ?_
  refine J_iload (pc := 1693) dL_law_1693 rfl ?_
  refine J_iconst (pc := 1695) (v := nI 2) dL_law_1695 (by decide) ?_
  refine J_iaddN (pc := 1696) dL_law_1696 ?_
  refine J_ialdO (pc := 1697) dL_law_1697 hX0 (nI_in (by omega) (by omega)) ?_
  refine J_aload_n (pc := 1698) dL_law_1698 rfl rfl rfl ?_
  refine J_callSX (pc := 1699) (M := mL_law) (as := [.ref 0, .int (xs.getD (nI (i + 1)).toNatClampNeg 0), .int (xs.getD (nI (i + 2)).toNatClampNeg 0), .ref o]) dL_law_1699 fw_L_isPart fl_L_279 fs_L_isPart rfl (c_L_isPart hs (d := d - 1) (by omega) hI (xs.getD (nI (i + 1)).toNatClampNeg 0) (xs.getD (nI (i + 2)).toNatClampNeg 0) (kc := 2) (ks := 12) (Nat.le_refl _) (Nat.le_refl _)) (by omega) (by omega) (by omega) (st := []) (Nat.le_of_ble_eq_true rfl) rfl (kr_I fun v1 w1 _ hI1 => ?_) kx_I
  refine J_istore (pc := 1702) dL_law_1702 (by decide) rfl ?_
  show J X mL_law d (kc - 2) (ks - 12) 1704 [some (.retAddr 0), some (.ref 0), some (.ref 19), some (.ref o), some (.int (nI i)), some (.int v1), none] [] w1 Q
  refine J_aload_n (pc := 1704) dL_law_1704 rfl rfl rfl ?_
  refine J_aload_n (pc := 1705) dL_law_1705 rfl rfl rfl ?_
  refine J_iload (pc := 1706) dL_law_1706 rfl ?_
  refine J_iconst (pc := 1708) (v := nI 1) dL_law_1708 (by decide) ?_
  refine J_iaddN (pc := 1709) dL_law_1709 ?_
  refine J_ialdO (pc := 1710) dL_law_1710 hX0 (nI_in (by omega) (by omega)) ?_
  refine J_aload_n (pc := 1711) dL_law_1711 rfl rfl rfl ?_
  refine J_iload (pc := 1712) dL_law_1712 rfl ?_
  refine J_iconst (pc := 1714) (v := nI 2) dL_law_1714 (by decide) ?_
  refine J_iaddN (pc := 1715) dL_law_1715 ?_
  refine J_ialdO (pc := 1716) dL_law_1716 hX0 (nI_in (by omega) (by omega)) ?_
  obtain ⟨f26, h26⟩ := hI1.c19
  refine J_callV (pc := 1717) (M := mL_law) (as := [.int (xs.getD (nI (i + 1)).toNatClampNeg 0), .int (xs.getD (nI (i + 2)).toNatClampNeg 0)]) dL_law_1717 fw_X8_isPart fl_L_281 fm_X8_isPart fe_X8_isPart h26 (by decide) rfl rfl rfl (vv_isPart hs (d := d - 1) (by omega) hI1 (xs.getD (nI (i + 1)).toNatClampNeg 0) (xs.getD (nI (i + 2)).toNatClampNeg 0) (kc := 78) (ks := 12324) (Nat.le_refl _) (Nat.le_refl _)) (by omega) (by omega) (by omega) (st := []) (Nat.le_of_ble_eq_true rfl) rfl (kr_I fun v26 w26 _ hI26 => ?_) kx_I
  refine J_istore (pc := 1720) dL_law_1720 (by decide) rfl ?_
  show J X mL_law d (kc - 2 - 78) (ks - 12 - 12324) 1722 [some (.retAddr 0), some (.ref 0), some (.ref 19), some (.ref o), some (.int (nI i)), some (.int v1), some (.int v26)] [] w26 Q
  refine J_goto (pc := 1722) (tgt := 2032) dL_law_1722 (by decide) ?_
  exact J_sub (L' := [some (.retAddr 0), some (.ref 0), some (.ref 19), some (.ref o), some (.int (nI i)), none, none]) ⟨rfl, rfl, rfl, rfl, rfl, trivial⟩ ((ih _ _ hI26).mono (by omega) (by omega) (fun _ _ h => h))
set_option maxRecDepth 100000 in
set_option maxHeartbeats 4000000 in
theorem s_36 {X : jX} (hs : X.1.stackTraces = false) (hXO : XO X) {xs : List Int32} (hX0 : X.2.2.2.2.2[0]? = some (.inl (0, xs))) (hX1 : xs.length ≤ 320) {d : Nat} (hd : 45 ≤ d) {o : Nat} {S : StX} {w : List jC} (hI : LI o S S w) {i : Nat} (hi : i + 5 ≤ xs.length) {kc ks : Nat} (hkc : 700 ≤ kc) (hks : 40000 ≤ ks) {Q : jQ} (ih : ∀ (S' : StX) (w' : List jC), LI o S' S' w' → J X mL_law d (kc - 700) (ks - 40000) 2032 [some (.retAddr 0), some (.ref 0), some (.ref 19), some (.ref o), some (.int (nI i)), none, none] [] w' Q) : J X mL_law d kc ks 1725 [some (.retAddr 0), some (.ref 0), some (.ref 19), some (.ref o), some (.int (nI i)), none, none] [] w Q := by
  refine J_aload_n (pc := 1725) dL_law_1725 rfl rfl rfl ?_
  refine J_aload_n (pc := 1726) dL_law_1726 rfl rfl rfl ?_
  refine J_iload (pc := 1727) dL_law_1727 rfl ?_
  refine J_iconst (pc := 1729) (v := nI 1) dL_law_1729 (by decide) ?_
  refine J_iaddN (pc := 1730) dL_law_1730 ?_
  refine J_ialdO (pc := 1731) dL_law_1731 hX0 (nI_in (by omega) (by omega)) ?_
  refine J_aload_n (pc := 1732) dL_law_1732 rfl rfl rfl ?_
  refine J_iload (pc := 1733) dL_law_1733 rfl ?_
  refine J_iconst (pc := 1735) (v := nI 2) dL_law_1735 (by decide) ?_
  refine J_iaddN (pc := 1736) dL_law_1736 ?_
  refine J_ialdO (pc := 1737) dL_law_1737 hX0 (nI_in (by omega) (by omega)) ?_
  refine J_aload_n (pc := 1738) dL_law_1738 rfl rfl rfl ?_
  refine J_callSX (pc := 1739) (M := mL_law) (as := [.ref 0, .int (xs.getD (nI (i + 1)).toNatClampNeg 0), .int (xs.getD (nI (i + 2)).toNatClampNeg 0), .ref o]) dL_law_1739 fw_L_shares fl_L_282 fs_L_shares rfl (c_L_shares hs (d := d - 1) (by omega) hI (xs.getD (nI (i + 1)).toNatClampNeg 0) (xs.getD (nI (i + 2)).toNatClampNeg 0) (kc := 2) (ks := 12) (Nat.le_refl _) (Nat.le_refl _)) (by omega) (by omega) (by omega) (st := []) (Nat.le_of_ble_eq_true rfl) rfl (kr_I fun v1 w1 _ hI1 => ?_) kx_I
  refine J_istore (pc := 1742) dL_law_1742 (by decide) rfl ?_
  show J X mL_law d (kc - 2) (ks - 12) 1744 [some (.retAddr 0), some (.ref 0), some (.ref 19), some (.ref o), some (.int (nI i)), some (.int v1), none] [] w1 Q
  refine J_aload_n (pc := 1744) dL_law_1744 rfl rfl rfl ?_
  refine J_aload_n (pc := 1745) dL_law_1745 rfl rfl rfl ?_
  refine J_iload (pc := 1746) dL_law_1746 rfl ?_
  refine J_iconst (pc := 1748) (v := nI 1) dL_law_1748 (by decide) ?_
  refine J_iaddN (pc := 1749) dL_law_1749 ?_
  refine J_ialdO (pc := 1750) dL_law_1750 hX0 (nI_in (by omega) (by omega)) ?_
  refine J_aload_n (pc := 1751) dL_law_1751 rfl rfl rfl ?_
  refine J_iload (pc := 1752) dL_law_1752 rfl ?_
  refine J_iconst (pc := 1754) (v := nI 2) dL_law_1754 (by decide) ?_
  refine J_iaddN (pc := 1755) dL_law_1755 ?_
  refine J_ialdO (pc := 1756) dL_law_1756 hX0 (nI_in (by omega) (by omega)) ?_
  obtain ⟨f26, h26⟩ := hI1.c19
  refine J_callV (pc := 1757) (M := mL_law) (as := [.int (xs.getD (nI (i + 1)).toNatClampNeg 0), .int (xs.getD (nI (i + 2)).toNatClampNeg 0)]) dL_law_1757 fw_X8_shares fl_L_284 fm_X8_shares fe_X8_shares h26 (by decide) rfl rfl rfl (vv_shares hs (d := d - 1) (by omega) hI1 (xs.getD (nI (i + 1)).toNatClampNeg 0) (xs.getD (nI (i + 2)).toNatClampNeg 0) (kc := 104) (ks := 16432) (Nat.le_refl _) (Nat.le_refl _)) (by omega) (by omega) (by omega) (st := []) (Nat.le_of_ble_eq_true rfl) rfl (kr_I fun v26 w26 _ hI26 => ?_) kx_I
  refine J_istore (pc := 1760) dL_law_1760 (by decide) rfl ?_
  show J X mL_law d (kc - 2 - 104) (ks - 12 - 16432) 1762 [some (.retAddr 0), some (.ref 0), some (.ref 19), some (.ref o), some (.int (nI i)), some (.int v1), some (.int v26)] [] w26 Q
  refine J_goto (pc := 1762) (tgt := 2032) dL_law_1762 (by decide) ?_
  exact J_sub (L' := [some (.retAddr 0), some (.ref 0), some (.ref 19), some (.ref o), some (.int (nI i)), none, none]) ⟨rfl, rfl, rfl, rfl, rfl, trivial⟩ ((ih _ _ hI26).mono (by omega) (by omega) (fun _ _ h => h))
set_option maxRecDepth 100000 in
set_option maxHeartbeats 4000000 in
theorem s_37 {X : jX} (hs : X.1.stackTraces = false) (hXO : XO X) {xs : List Int32} (hX0 : X.2.2.2.2.2[0]? = some (.inl (0, xs))) (hX1 : xs.length ≤ 320) {d : Nat} (hd : 45 ≤ d) {o : Nat} {S : StX} {w : List jC} (hI : LI o S S w) {i : Nat} (hi : i + 5 ≤ xs.length) {kc ks : Nat} (hkc : 700 ≤ kc) (hks : 40000 ≤ ks) {Q : jQ} (ih : ∀ (S' : StX) (w' : List jC), LI o S' S' w' → J X mL_law d (kc - 700) (ks - 40000) 2032 [some (.retAddr 0), some (.ref 0), some (.ref 19), some (.ref o), some (.int (nI i)), none, none] [] w' Q) : J X mL_law d kc ks 1765 [some (.retAddr 0), some (.ref 0), some (.ref 19), some (.ref o), some (.int (nI i)), none, none] [] w Q := by
  refine J_aload_n (pc := 1765) dL_law_1765 rfl rfl rfl ?_
  refine J_aload_n (pc := 1766) dL_law_1766 rfl rfl rfl ?_
  refine J_iload (pc := 1767) dL_law_1767 rfl ?_
  refine J_iconst (pc := 1769) (v := nI 1) dL_law_1769 (by decide) ?_
  refine J_iaddN (pc := 1770) dL_law_1770 ?_
  refine J_ialdO (pc := 1771) dL_law_1771 hX0 (nI_in (by omega) (by omega)) ?_
  refine J_aload_n (pc := 1772) dL_law_1772 rfl rfl rfl ?_
  refine J_iload (pc := 1773) dL_law_1773 rfl ?_
  refine J_iconst (pc := 1775) (v := nI 2) dL_law_1775 (by decide) ?_
  refine J_iaddN (pc := 1776) dL_law_1776 ?_
  refine J_ialdO (pc := 1777) dL_law_1777 hX0 (nI_in (by omega) (by omega)) ?_
  refine J_aload_n (pc := 1778) dL_law_1778 rfl rfl rfl ?_
  refine J_callSX (pc := 1779) (M := mL_law) (as := [.ref 0, .int (xs.getD (nI (i + 1)).toNatClampNeg 0), .int (xs.getD (nI (i + 2)).toNatClampNeg 0), .ref o]) dL_law_1779 fw_L_share fl_L_285 fs_L_share rfl (c_L_share hs (d := d - 1) (by omega) hI (xs.getD (nI (i + 1)).toNatClampNeg 0) (xs.getD (nI (i + 2)).toNatClampNeg 0) (kc := 2) (ks := 12) (Nat.le_refl _) (Nat.le_refl _)) (by omega) (by omega) (by omega) (st := []) (Nat.le_of_ble_eq_true rfl) rfl (kr_I fun v1 w1 _ hI1 => ?_) kx_I
  refine J_istore (pc := 1782) dL_law_1782 (by decide) rfl ?_
  show J X mL_law d (kc - 2) (ks - 12) 1784 [some (.retAddr 0), some (.ref 0), some (.ref 19), some (.ref o), some (.int (nI i)), some (.int v1), none] [] w1 Q
  refine J_aload_n (pc := 1784) dL_law_1784 rfl rfl rfl ?_
  refine J_aload_n (pc := 1785) dL_law_1785 rfl rfl rfl ?_
  refine J_iload (pc := 1786) dL_law_1786 rfl ?_
  refine J_iconst (pc := 1788) (v := nI 1) dL_law_1788 (by decide) ?_
  refine J_iaddN (pc := 1789) dL_law_1789 ?_
  refine J_ialdO (pc := 1790) dL_law_1790 hX0 (nI_in (by omega) (by omega)) ?_
  refine J_aload_n (pc := 1791) dL_law_1791 rfl rfl rfl ?_
  refine J_iload (pc := 1792) dL_law_1792 rfl ?_
  refine J_iconst (pc := 1794) (v := nI 2) dL_law_1794 (by decide) ?_
  refine J_iaddN (pc := 1795) dL_law_1795 ?_
  refine J_ialdO (pc := 1796) dL_law_1796 hX0 (nI_in (by omega) (by omega)) ?_
  obtain ⟨f26, h26⟩ := hI1.c19
  refine J_callV (pc := 1797) (M := mL_law) (as := [.int (xs.getD (nI (i + 1)).toNatClampNeg 0), .int (xs.getD (nI (i + 2)).toNatClampNeg 0)]) dL_law_1797 fw_X8_share fl_L_287 fm_X8_share fe_X8_share h26 (by decide) rfl rfl rfl (vv_share hs (d := d - 1) (by omega) hI1 (xs.getD (nI (i + 1)).toNatClampNeg 0) (xs.getD (nI (i + 2)).toNatClampNeg 0) (kc := 13) (ks := 2054) (Nat.le_refl _) (Nat.le_refl _)) (by omega) (by omega) (by omega) (st := []) (Nat.le_of_ble_eq_true rfl) rfl (kr_I fun v26 w26 _ hI26 => ?_) kx_I
  refine J_istore (pc := 1800) dL_law_1800 (by decide) rfl ?_
  show J X mL_law d (kc - 2 - 13) (ks - 12 - 2054) 1802 [some (.retAddr 0), some (.ref 0), some (.ref 19), some (.ref o), some (.int (nI i)), some (.int v1), some (.int v26)] [] w26 Q
  refine J_goto (pc := 1802) (tgt := 2032) dL_law_1802 (by decide) ?_
  exact J_sub (L' := [some (.retAddr 0), some (.ref 0), some (.ref 19), some (.ref o), some (.int (nI i)), none, none]) ⟨rfl, rfl, rfl, rfl, rfl, trivial⟩ ((ih _ _ hI26).mono (by omega) (by omega) (fun _ _ h => h))
set_option maxRecDepth 100000 in
set_option maxHeartbeats 4000000 in
theorem s_38 {X : jX} (hs : X.1.stackTraces = false) (hXO : XO X) {xs : List Int32} (hX0 : X.2.2.2.2.2[0]? = some (.inl (0, xs))) (hX1 : xs.length ≤ 320) {d : Nat} (hd : 45 ≤ d) {o : Nat} {S : StX} {w : List jC} (hI : LI o S S w) {i : Nat} (hi : i + 5 ≤ xs.length) {kc ks : Nat} (hkc : 700 ≤ kc) (hks : 40000 ≤ ks) {Q : jQ} (ih : ∀ (S' : StX) (w' : List jC), LI o S' S' w' → J X mL_law d (kc - 700) (ks - 40000) 2032 [some (.retAddr 0), some (.ref 0), some (.ref 19), some (.ref o), some (.int (nI i)), none, none] [] w' Q) : J X mL_law d kc ks 1805 [some (.retAddr 0), some (.ref 0), some (.ref 19), some (.ref o), some (.int (nI i)), none, none] [] w Q := by
  refine J_aload_n (pc := 1805) dL_law_1805 rfl rfl rfl ?_
  refine J_aload_n (pc := 1806) dL_law_1806 rfl rfl rfl ?_
  refine J_iload (pc := 1807) dL_law_1807 rfl ?_
  refine J_iconst (pc := 1809) (v := nI 1) dL_law_1809 (by decide) ?_
  refine J_iaddN (pc := 1810) dL_law_1810 ?_
  refine J_ialdO (pc := 1811) dL_law_1811 hX0 (nI_in (by omega) (by omega)) ?_
  refine J_aload_n (pc := 1812) dL_law_1812 rfl rfl rfl ?_
  refine J_iload (pc := 1813) dL_law_1813 rfl ?_
  refine J_iconst (pc := 1815) (v := nI 2) dL_law_1815 (by decide) ?_
  refine J_iaddN (pc := 1816) dL_law_1816 ?_
  refine J_ialdO (pc := 1817) dL_law_1817 hX0 (nI_in (by omega) (by omega)) ?_
  refine J_aload_n (pc := 1818) dL_law_1818 rfl rfl rfl ?_
  refine J_iload (pc := 1819) dL_law_1819 rfl ?_
  refine J_iconst (pc := 1821) (v := nI 3) dL_law_1821 (by decide) ?_
  refine J_iaddN (pc := 1822) dL_law_1822 ?_
  refine J_ialdO (pc := 1823) dL_law_1823 hX0 (nI_in (by omega) (by omega)) ?_
  refine J_aload_n (pc := 1824) dL_law_1824 rfl rfl rfl ?_
  refine J_callSX (pc := 1825) (M := mL_law) (as := [.ref 0, .int (xs.getD (nI (i + 1)).toNatClampNeg 0), .int (xs.getD (nI (i + 2)).toNatClampNeg 0), .int (xs.getD (nI (i + 3)).toNatClampNeg 0), .ref o]) dL_law_1825 fw_L_together fl_L_288 fs_L_together rfl (c_L_together hs (d := d - 1) (by omega) hI (xs.getD (nI (i + 1)).toNatClampNeg 0) (xs.getD (nI (i + 2)).toNatClampNeg 0) (xs.getD (nI (i + 3)).toNatClampNeg 0) (kc := 3) (ks := 18) (Nat.le_refl _) (Nat.le_refl _)) (by omega) (by omega) (by omega) (st := []) (Nat.le_of_ble_eq_true rfl) rfl (kr_I fun v1 w1 _ hI1 => ?_) kx_I
  refine J_istore (pc := 1828) dL_law_1828 (by decide) rfl ?_
  show J X mL_law d (kc - 3) (ks - 18) 1830 [some (.retAddr 0), some (.ref 0), some (.ref 19), some (.ref o), some (.int (nI i)), some (.int v1), none] [] w1 Q
  refine J_aload_n (pc := 1830) dL_law_1830 rfl rfl rfl ?_
  refine J_aload_n (pc := 1831) dL_law_1831 rfl rfl rfl ?_
  refine J_iload (pc := 1832) dL_law_1832 rfl ?_
  refine J_iconst (pc := 1834) (v := nI 1) dL_law_1834 (by decide) ?_
  refine J_iaddN (pc := 1835) dL_law_1835 ?_
  refine J_ialdO (pc := 1836) dL_law_1836 hX0 (nI_in (by omega) (by omega)) ?_
  refine J_aload_n (pc := 1837) dL_law_1837 rfl rfl rfl ?_
  refine J_iload (pc := 1838) dL_law_1838 rfl ?_
  refine J_iconst (pc := 1840) (v := nI 2) dL_law_1840 (by decide) ?_
  refine J_iaddN (pc := 1841) dL_law_1841 ?_
  refine J_ialdO (pc := 1842) dL_law_1842 hX0 (nI_in (by omega) (by omega)) ?_
  refine J_aload_n (pc := 1843) dL_law_1843 rfl rfl rfl ?_
  refine J_iload (pc := 1844) dL_law_1844 rfl ?_
  refine J_iconst (pc := 1846) (v := nI 3) dL_law_1846 (by decide) ?_
  refine J_iaddN (pc := 1847) dL_law_1847 ?_
  refine J_ialdO (pc := 1848) dL_law_1848 hX0 (nI_in (by omega) (by omega)) ?_
  obtain ⟨f36, h36⟩ := hI1.c19
  refine J_callV0 (pc := 1849) (M := mL_law) (as := [.int (xs.getD (nI (i + 1)).toNatClampNeg 0), .int (xs.getD (nI (i + 2)).toNatClampNeg 0), .int (xs.getD (nI (i + 3)).toNatClampNeg 0)]) dL_law_1849 fw_X8_together fl_L_290 fm_X8_together fe_X8_together h36 (by decide) rfl rfl rfl (vv_together hs (d := d - 1) (by omega) hI1 (xs.getD (nI (i + 1)).toNatClampNeg 0) (xs.getD (nI (i + 2)).toNatClampNeg 0) (xs.getD (nI (i + 3)).toNatClampNeg 0) (kc := 0) (ks := 0)) (by omega) (st := []) (Nat.le_of_ble_eq_true rfl) rfl (kr_I fun v36 w36 _ hI36 => ?_) kx_I
  refine J_istore (pc := 1852) dL_law_1852 (by decide) rfl ?_
  show J X mL_law d (kc - 3) (ks - 18) 1854 [some (.retAddr 0), some (.ref 0), some (.ref 19), some (.ref o), some (.int (nI i)), some (.int v1), some (.int v36)] [] w36 Q
  refine J_goto (pc := 1854) (tgt := 2032) dL_law_1854 (by decide) ?_
  exact J_sub (L' := [some (.retAddr 0), some (.ref 0), some (.ref 19), some (.ref o), some (.int (nI i)), none, none]) ⟨rfl, rfl, rfl, rfl, rfl, trivial⟩ ((ih _ _ hI36).mono (by omega) (by omega) (fun _ _ h => h))
set_option maxRecDepth 100000 in
set_option maxHeartbeats 4000000 in
theorem s_39 {X : jX} (hs : X.1.stackTraces = false) (hXO : XO X) {xs : List Int32} (hX0 : X.2.2.2.2.2[0]? = some (.inl (0, xs))) (hX1 : xs.length ≤ 320) {d : Nat} (hd : 45 ≤ d) {o : Nat} {S : StX} {w : List jC} (hI : LI o S S w) {i : Nat} (hi : i + 5 ≤ xs.length) {kc ks : Nat} (hkc : 700 ≤ kc) (hks : 40000 ≤ ks) {Q : jQ} (ih : ∀ (S' : StX) (w' : List jC), LI o S' S' w' → J X mL_law d (kc - 700) (ks - 40000) 2032 [some (.retAddr 0), some (.ref 0), some (.ref 19), some (.ref o), some (.int (nI i)), none, none] [] w' Q) : J X mL_law d kc ks 1857 [some (.retAddr 0), some (.ref 0), some (.ref 19), some (.ref o), some (.int (nI i)), none, none] [] w Q := by
  refine J_aload_n (pc := 1857) dL_law_1857 rfl rfl rfl ?_
  refine J_aload_n (pc := 1858) dL_law_1858 rfl rfl rfl ?_
  refine J_iload (pc := 1859) dL_law_1859 rfl ?_
  refine J_iconst (pc := 1861) (v := nI 1) dL_law_1861 (by decide) ?_
  refine J_iaddN (pc := 1862) dL_law_1862 ?_
  refine J_ialdO (pc := 1863) dL_law_1863 hX0 (nI_in (by omega) (by omega)) ?_
  refine J_aload_n (pc := 1864) dL_law_1864 rfl rfl rfl ?_
  refine J_iload (pc := 1865) dL_law_1865 rfl ?_
  refine J_iconst (pc := 1867) (v := nI 2) dL_law_1867 (by decide) ?_
  refine J_iaddN (pc := 1868) dL_law_1868 ?_
  refine J_ialdO (pc := 1869) dL_law_1869 hX0 (nI_in (by omega) (by omega)) ?_
  refine J_aload_n (pc := 1870) dL_law_1870 rfl rfl rfl ?_
  refine J_iload (pc := 1871) dL_law_1871 rfl ?_
  refine J_iconst (pc := 1873) (v := nI 3) dL_law_1873 (by decide) ?_
  refine J_iaddN (pc := 1874) dL_law_1874 ?_
  refine J_ialdO (pc := 1875) dL_law_1875 hX0 (nI_in (by omega) (by omega)) ?_
  refine J_aload_n (pc := 1876) dL_law_1876 rfl rfl rfl ?_
  refine J_callSX (pc := 1877) (M := mL_law) (as := [.ref 0, .int (xs.getD (nI (i + 1)).toNatClampNeg 0), .int (xs.getD (nI (i + 2)).toNatClampNeg 0), .int (xs.getD (nI (i + 3)).toNatClampNeg 0), .ref o]) dL_law_1877 fw_L_blocks fl_L_291 fs_L_blocks rfl (c_L_blocks hs (d := d - 1) (by omega) hI (xs.getD (nI (i + 1)).toNatClampNeg 0) (xs.getD (nI (i + 2)).toNatClampNeg 0) (xs.getD (nI (i + 3)).toNatClampNeg 0) (kc := 3) (ks := 18) (Nat.le_refl _) (Nat.le_refl _)) (by omega) (by omega) (by omega) (st := []) (Nat.le_of_ble_eq_true rfl) rfl (kr_I fun v1 w1 _ hI1 => ?_) kx_I
  refine J_istore (pc := 1880) dL_law_1880 (by decide) rfl ?_
  show J X mL_law d (kc - 3) (ks - 18) 1882 [some (.retAddr 0), some (.ref 0), some (.ref 19), some (.ref o), some (.int (nI i)), some (.int v1), none] [] w1 Q
  refine J_aload_n (pc := 1882) dL_law_1882 rfl rfl rfl ?_
  refine J_aload_n (pc := 1883) dL_law_1883 rfl rfl rfl ?_
  refine J_iload (pc := 1884) dL_law_1884 rfl ?_
  refine J_iconst (pc := 1886) (v := nI 1) dL_law_1886 (by decide) ?_
  refine J_iaddN (pc := 1887) dL_law_1887 ?_
  refine J_ialdO (pc := 1888) dL_law_1888 hX0 (nI_in (by omega) (by omega)) ?_
  refine J_aload_n (pc := 1889) dL_law_1889 rfl rfl rfl ?_
  refine J_iload (pc := 1890) dL_law_1890 rfl ?_
  refine J_iconst (pc := 1892) (v := nI 2) dL_law_1892 (by decide) ?_
  refine J_iaddN (pc := 1893) dL_law_1893 ?_
  refine J_ialdO (pc := 1894) dL_law_1894 hX0 (nI_in (by omega) (by omega)) ?_
  refine J_aload_n (pc := 1895) dL_law_1895 rfl rfl rfl ?_
  refine J_iload (pc := 1896) dL_law_1896 rfl ?_
  refine J_iconst (pc := 1898) (v := nI 3) dL_law_1898 (by decide) ?_
  refine J_iaddN (pc := 1899) dL_law_1899 ?_
  refine J_ialdO (pc := 1900) dL_law_1900 hX0 (nI_in (by omega) (by omega)) ?_
  obtain ⟨f36, h36⟩ := hI1.c19
  refine J_callV0 (pc := 1901) (M := mL_law) (as := [.int (xs.getD (nI (i + 1)).toNatClampNeg 0), .int (xs.getD (nI (i + 2)).toNatClampNeg 0), .int (xs.getD (nI (i + 3)).toNatClampNeg 0)]) dL_law_1901 fw_X8_blocks fl_L_293 fm_X8_blocks fe_X8_blocks h36 (by decide) rfl rfl rfl (vv_blocks hs (d := d - 1) (by omega) hI1 (xs.getD (nI (i + 1)).toNatClampNeg 0) (xs.getD (nI (i + 2)).toNatClampNeg 0) (xs.getD (nI (i + 3)).toNatClampNeg 0) (kc := 0) (ks := 0)) (by omega) (st := []) (Nat.le_of_ble_eq_true rfl) rfl (kr_I fun v36 w36 _ hI36 => ?_) kx_I
  refine J_istore (pc := 1904) dL_law_1904 (by decide) rfl ?_
  show J X mL_law d (kc - 3) (ks - 18) 1906 [some (.retAddr 0), some (.ref 0), some (.ref 19), some (.ref o), some (.int (nI i)), some (.int v1), some (.int v36)] [] w36 Q
  refine J_goto (pc := 1906) (tgt := 2032) dL_law_1906 (by decide) ?_
  exact J_sub (L' := [some (.retAddr 0), some (.ref 0), some (.ref 19), some (.ref o), some (.int (nI i)), none, none]) ⟨rfl, rfl, rfl, rfl, rfl, trivial⟩ ((ih _ _ hI36).mono (by omega) (by omega) (fun _ _ h => h))
set_option maxRecDepth 100000 in
set_option maxHeartbeats 4000000 in
theorem s_40 {X : jX} (hs : X.1.stackTraces = false) (hXO : XO X) {xs : List Int32} (hX0 : X.2.2.2.2.2[0]? = some (.inl (0, xs))) (hX1 : xs.length ≤ 320) {d : Nat} (hd : 45 ≤ d) {o : Nat} {S : StX} {w : List jC} (hI : LI o S S w) {i : Nat} (hi : i + 5 ≤ xs.length) {kc ks : Nat} (hkc : 700 ≤ kc) (hks : 40000 ≤ ks) {Q : jQ} (ih : ∀ (S' : StX) (w' : List jC), LI o S' S' w' → J X mL_law d (kc - 700) (ks - 40000) 2032 [some (.retAddr 0), some (.ref 0), some (.ref 19), some (.ref o), some (.int (nI i)), none, none] [] w' Q) : J X mL_law d kc ks 1909 [some (.retAddr 0), some (.ref 0), some (.ref 19), some (.ref o), some (.int (nI i)), none, none] [] w Q := by
  refine J_aload_n (pc := 1909) dL_law_1909 rfl rfl rfl ?_
  refine J_aload_n (pc := 1910) dL_law_1910 rfl rfl rfl ?_
  refine J_iload (pc := 1911) dL_law_1911 rfl ?_
  refine J_iconst (pc := 1913) (v := nI 1) dL_law_1913 (by decide) ?_
  refine J_iaddN (pc := 1914) dL_law_1914 ?_
  refine J_ialdO (pc := 1915) dL_law_1915 hX0 (nI_in (by omega) (by omega)) ?_
  refine J_aload_n (pc := 1916) dL_law_1916 rfl rfl rfl ?_
  refine J_callSX (pc := 1917) (M := mL_law) (as := [.ref 0, .int (xs.getD (nI (i + 1)).toNatClampNeg 0), .ref o]) dL_law_1917 fw_L_isTwofold fl_L_294 fs_L_isTwofold rfl (c_L_isTwofold hs (d := d - 1) (by omega) hI (xs.getD (nI (i + 1)).toNatClampNeg 0) (kc := 1) (ks := 6) (Nat.le_refl _) (Nat.le_refl _)) (by omega) (by omega) (by omega) (st := []) (Nat.le_of_ble_eq_true rfl) rfl (kr_I fun v1 w1 _ hI1 => ?_) kx_I
  refine J_istore (pc := 1920) dL_law_1920 (by decide) rfl ?_
  show J X mL_law d (kc - 1) (ks - 6) 1922 [some (.retAddr 0), some (.ref 0), some (.ref 19), some (.ref o), some (.int (nI i)), some (.int v1), none] [] w1 Q
  refine J_aload_n (pc := 1922) dL_law_1922 rfl rfl rfl ?_
  refine J_aload_n (pc := 1923) dL_law_1923 rfl rfl rfl ?_
  refine J_iload (pc := 1924) dL_law_1924 rfl ?_
  refine J_iconst (pc := 1926) (v := nI 1) dL_law_1926 (by decide) ?_
  refine J_iaddN (pc := 1927) dL_law_1927 ?_
  refine J_ialdO (pc := 1928) dL_law_1928 hX0 (nI_in (by omega) (by omega)) ?_
  obtain ⟨f16, h16⟩ := hI1.c19
  refine J_callV (pc := 1929) (M := mL_law) (as := [.int (xs.getD (nI (i + 1)).toNatClampNeg 0)]) dL_law_1929 fw_X8_isTwofold fl_L_296 fm_X8_isTwofold fe_X8_isTwofold h16 (by decide) rfl rfl rfl (vv_isTwofold hs (d := d - 1) (by omega) hI1 (xs.getD (nI (i + 1)).toNatClampNeg 0) (kc := 1) (ks := 49) (Nat.le_refl _) (Nat.le_refl _)) (by omega) (by omega) (by omega) (st := []) (Nat.le_of_ble_eq_true rfl) rfl (kr_I fun v16 w16 _ hI16 => ?_) kx_I
  refine J_istore (pc := 1932) dL_law_1932 (by decide) rfl ?_
  show J X mL_law d (kc - 1 - 1) (ks - 6 - 49) 1934 [some (.retAddr 0), some (.ref 0), some (.ref 19), some (.ref o), some (.int (nI i)), some (.int v1), some (.int v16)] [] w16 Q
  refine J_goto (pc := 1934) (tgt := 2032) dL_law_1934 (by decide) ?_
  exact J_sub (L' := [some (.retAddr 0), some (.ref 0), some (.ref 19), some (.ref o), some (.int (nI i)), none, none]) ⟨rfl, rfl, rfl, rfl, rfl, trivial⟩ ((ih _ _ hI16).mono (by omega) (by omega) (fun _ _ h => h))
set_option maxRecDepth 100000 in
set_option maxHeartbeats 4000000 in
theorem s_41 {X : jX} (hs : X.1.stackTraces = false) (hXO : XO X) {xs : List Int32} (hX0 : X.2.2.2.2.2[0]? = some (.inl (0, xs))) (hX1 : xs.length ≤ 320) {d : Nat} (hd : 45 ≤ d) {o : Nat} {S : StX} {w : List jC} (hI : LI o S S w) {i : Nat} (hi : i + 5 ≤ xs.length) {kc ks : Nat} (hkc : 700 ≤ kc) (hks : 40000 ≤ ks) {Q : jQ} (ih : ∀ (S' : StX) (w' : List jC), LI o S' S' w' → J X mL_law d (kc - 700) (ks - 40000) 2032 [some (.retAddr 0), some (.ref 0), some (.ref 19), some (.ref o), some (.int (nI i)), none, none] [] w' Q) : J X mL_law d kc ks 1937 [some (.retAddr 0), some (.ref 0), some (.ref 19), some (.ref o), some (.int (nI i)), none, none] [] w Q := by
  refine J_aload_n (pc := 1937) dL_law_1937 rfl rfl rfl ?_
  refine J_aload_n (pc := 1938) dL_law_1938 rfl rfl rfl ?_
  refine J_iload (pc := 1939) dL_law_1939 rfl ?_
  refine J_iconst (pc := 1941) (v := nI 1) dL_law_1941 (by decide) ?_
  refine J_iaddN (pc := 1942) dL_law_1942 ?_
  refine J_ialdO (pc := 1943) dL_law_1943 hX0 (nI_in (by omega) (by omega)) ?_
  refine J_aload_n (pc := 1944) dL_law_1944 rfl rfl rfl ?_
  refine J_callSX (pc := 1945) (M := mL_law) (as := [.ref 0, .int (xs.getD (nI (i + 1)).toNatClampNeg 0), .ref o]) dL_law_1945 fw_L_enough fl_L_297 fs_L_enough rfl (c_L_enough hs (d := d - 1) (by omega) hI (xs.getD (nI (i + 1)).toNatClampNeg 0) (kc := 1) (ks := 6) (Nat.le_refl _) (Nat.le_refl _)) (by omega) (by omega) (by omega) (st := []) (Nat.le_of_ble_eq_true rfl) rfl (kr_I fun v1 w1 _ hI1 => ?_) kx_I
  refine J_istore (pc := 1948) dL_law_1948 (by decide) rfl ?_
  show J X mL_law d (kc - 1) (ks - 6) 1950 [some (.retAddr 0), some (.ref 0), some (.ref 19), some (.ref o), some (.int (nI i)), some (.int v1), none] [] w1 Q
  refine J_aload_n (pc := 1950) dL_law_1950 rfl rfl rfl ?_
  refine J_aload_n (pc := 1951) dL_law_1951 rfl rfl rfl ?_
  refine J_iload (pc := 1952) dL_law_1952 rfl ?_
  refine J_iconst (pc := 1954) (v := nI 1) dL_law_1954 (by decide) ?_
  refine J_iaddN (pc := 1955) dL_law_1955 ?_
  refine J_ialdO (pc := 1956) dL_law_1956 hX0 (nI_in (by omega) (by omega)) ?_
  obtain ⟨f16, h16⟩ := hI1.c19
  refine J_callV (pc := 1957) (M := mL_law) (as := [.int (xs.getD (nI (i + 1)).toNatClampNeg 0)]) dL_law_1957 fw_X8_enough fl_L_299 fm_X8_enough fe_X8_enough h16 (by decide) rfl rfl rfl (vv_enough hs (d := d - 1) (by omega) hI1 (xs.getD (nI (i + 1)).toNatClampNeg 0) (kc := 13) (ks := 2054) (Nat.le_refl _) (Nat.le_refl _)) (by omega) (by omega) (by omega) (st := []) (Nat.le_of_ble_eq_true rfl) rfl (kr_I fun v16 w16 _ hI16 => ?_) kx_I
  refine J_istore (pc := 1960) dL_law_1960 (by decide) rfl ?_
  show J X mL_law d (kc - 1 - 13) (ks - 6 - 2054) 1962 [some (.retAddr 0), some (.ref 0), some (.ref 19), some (.ref o), some (.int (nI i)), some (.int v1), some (.int v16)] [] w16 Q
  refine J_goto (pc := 1962) (tgt := 2032) dL_law_1962 (by decide) ?_
  exact J_sub (L' := [some (.retAddr 0), some (.ref 0), some (.ref 19), some (.ref o), some (.int (nI i)), none, none]) ⟨rfl, rfl, rfl, rfl, rfl, trivial⟩ ((ih _ _ hI16).mono (by omega) (by omega) (fun _ _ h => h))
set_option maxRecDepth 100000 in
set_option maxHeartbeats 4000000 in
theorem s_42 {X : jX} (hs : X.1.stackTraces = false) (hXO : XO X) {xs : List Int32} (hX0 : X.2.2.2.2.2[0]? = some (.inl (0, xs))) (hX1 : xs.length ≤ 320) {d : Nat} (hd : 45 ≤ d) {o : Nat} {S : StX} {w : List jC} (hI : LI o S S w) {i : Nat} (hi : i + 5 ≤ xs.length) {kc ks : Nat} (hkc : 700 ≤ kc) (hks : 40000 ≤ ks) {Q : jQ} (ih : ∀ (S' : StX) (w' : List jC), LI o S' S' w' → J X mL_law d (kc - 700) (ks - 40000) 2032 [some (.retAddr 0), some (.ref 0), some (.ref 19), some (.ref o), some (.int (nI i)), none, none] [] w' Q) : J X mL_law d kc ks 1965 [some (.retAddr 0), some (.ref 0), some (.ref 19), some (.ref o), some (.int (nI i)), none, none] [] w Q := by
  refine J_aload_n (pc := 1965) dL_law_1965 rfl rfl rfl ?_
  refine J_aload_n (pc := 1966) dL_law_1966 rfl rfl rfl ?_
  refine J_iload (pc := 1967) dL_law_1967 rfl ?_
  refine J_iconst (pc := 1969) (v := nI 1) dL_law_1969 (by decide) ?_
  refine J_iaddN (pc := 1970) dL_law_1970 ?_
  refine J_ialdO (pc := 1971) dL_law_1971 hX0 (nI_in (by omega) (by omega)) ?_
  refine J_aload_n (pc := 1972) dL_law_1972 rfl rfl rfl ?_
  refine J_callSX (pc := 1973) (M := mL_law) (as := [.ref 0, .int (xs.getD (nI (i + 1)).toNatClampNeg 0), .ref o]) dL_law_1973 fw_L_house fl_L_300 fs_L_house rfl (c_L_house hs (d := d - 1) (by omega) hI (xs.getD (nI (i + 1)).toNatClampNeg 0) (kc := 1) (ks := 6) (Nat.le_refl _) (Nat.le_refl _)) (by omega) (by omega) (by omega) (st := []) (Nat.le_of_ble_eq_true rfl) rfl (kr_J fun v1 w1 hv1 => ?_) kx_J
  obtain ⟨k1, x1, S1, hA1, hv1, hI1, hO1⟩ := hv1
  subst hv1
  refine J_istore (pc := 1976) dL_law_1976 (by decide) rfl ?_
  show J X mL_law d (kc - 1) (ks - 6) 1978 [some (.retAddr 0), some (.ref 0), some (.ref 19), some (.ref o), some (.int (nI i)), some (.int (nI k1)), none] [] w1 Q
  refine J_aload_n (pc := 1978) dL_law_1978 rfl rfl rfl ?_
  refine J_aload_n (pc := 1979) dL_law_1979 rfl rfl rfl ?_
  refine J_iload (pc := 1980) dL_law_1980 rfl ?_
  refine J_iconst (pc := 1982) (v := nI 1) dL_law_1982 (by decide) ?_
  refine J_iaddN (pc := 1983) dL_law_1983 ?_
  refine J_ialdO (pc := 1984) dL_law_1984 hX0 (nI_in (by omega) (by omega)) ?_
  obtain ⟨f16, h16⟩ := hI1.c19
  refine J_callV0 (pc := 1985) (M := mL_law) (as := [.int (xs.getD (nI (i + 1)).toNatClampNeg 0)]) dL_law_1985 fw_X8_house fl_L_302 fm_X8_house fe_X8_house h16 (by decide) rfl rfl rfl (vv_house hs (d := d - 1) (by omega) hI1 (xs.getD (nI (i + 1)).toNatClampNeg 0) (kc := 0) (ks := 0)) (by omega) (st := []) (Nat.le_of_ble_eq_true rfl) rfl (kr_J fun v2 w2 hv2 => ?_) kx_J
  obtain ⟨k2, S2, hA2, hI2, hO2⟩ := hv2
  obtain ⟨h1, h7, hM⟩ := hI.bd
  obtain ⟨rfl, rfl⟩ := AG.same (fun v v' x y h h' => (fD_house h1 h7 hM (xs.getD (nI (i + 1)).toNatClampNeg 0) v v' x y h h').1) hA1 hA2
  have hI3 : LI o S1 S1 w2 := ⟨_, hI2⟩
  refine J_istore (pc := 1988) dL_law_1988 (by decide) rfl ?_
  show J X mL_law d (kc - 1) (ks - 6) 1990 [some (.retAddr 0), some (.ref 0), some (.ref 19), some (.ref o), some (.int (nI i)), some (.int (nI k1)), some (.int v2)] [] w2 Q
  refine J_goto (pc := 1990) (tgt := 2032) dL_law_1990 (by decide) ?_
  exact J_sub (L' := [some (.retAddr 0), some (.ref 0), some (.ref 19), some (.ref o), some (.int (nI i)), none, none]) ⟨rfl, rfl, rfl, rfl, rfl, trivial⟩ ((ih _ _ hI3).mono (by omega) (by omega) (fun _ _ h => h))
set_option maxRecDepth 100000 in
set_option maxHeartbeats 4000000 in
theorem s_43 {X : jX} (hs : X.1.stackTraces = false) (hXO : XO X) {xs : List Int32} (hX0 : X.2.2.2.2.2[0]? = some (.inl (0, xs))) (hX1 : xs.length ≤ 320) {d : Nat} (hd : 45 ≤ d) {o : Nat} {S : StX} {w : List jC} (hI : LI o S S w) {i : Nat} (hi : i + 5 ≤ xs.length) {kc ks : Nat} (hkc : 700 ≤ kc) (hks : 40000 ≤ ks) {Q : jQ} (ih : ∀ (S' : StX) (w' : List jC), LI o S' S' w' → J X mL_law d (kc - 700) (ks - 40000) 2032 [some (.retAddr 0), some (.ref 0), some (.ref 19), some (.ref o), some (.int (nI i)), none, none] [] w' Q) : J X mL_law d kc ks 1993 [some (.retAddr 0), some (.ref 0), some (.ref 19), some (.ref o), some (.int (nI i)), none, none] [] w Q := by
  refine J_aload_n (pc := 1993) dL_law_1993 rfl rfl rfl ?_
  obtain ⟨f2, h2⟩ := hI.c0
  refine J_callV0 (pc := 1994) (M := mL_law) (as := []) dL_law_1994 fw_X6_knock fl_L_303 fm_X6_knock fe_X6_knock h2 (by decide) rfl rfl rfl (uu_knock hs (d := d - 1) (by omega) hI (kc := 0) (ks := 0)) (by omega) (st := []) (Nat.le_of_ble_eq_true rfl) rfl (kr_I fun v2 w2 _ hI2 => ?_) kx_I
  refine J_pop (pc := 1997) dL_law_1997 rfl ?_
  refine J_aload_n (pc := 1998) dL_law_1998 rfl rfl rfl ?_
  obtain ⟨f5, h5⟩ := hI2.c19
  refine J_callV0 (pc := 1999) (M := mL_law) (as := []) dL_law_1999 fw_X8_knock fl_L_306 fm_X8_knock fe_X8_knock h5 (by decide) rfl rfl rfl (vv_knock hs (d := d - 1) (by omega) hI2 (kc := 0) (ks := 0)) (by omega) (st := []) (Nat.le_of_ble_eq_true rfl) rfl (kr_I fun v5 w5 _ hI5 => ?_) kx_I
  refine J_pop (pc := 2002) dL_law_2002 rfl ?_
  refine J_goto (pc := 2003) (tgt := 2032) dL_law_2003 (by decide) ?_
  exact J_sub (L' := [some (.retAddr 0), some (.ref 0), some (.ref 19), some (.ref o), some (.int (nI i)), none, none]) ⟨rfl, rfl, rfl, rfl, rfl, trivial⟩ ((ih _ _ hI5).mono (by omega) (by omega) (fun _ _ h => h))
set_option maxRecDepth 100000 in
set_option maxHeartbeats 4000000 in
theorem s_44 {X : jX} (hs : X.1.stackTraces = false) (hXO : XO X) {xs : List Int32} (hX0 : X.2.2.2.2.2[0]? = some (.inl (0, xs))) (hX1 : xs.length ≤ 320) {d : Nat} (hd : 45 ≤ d) {o : Nat} {S : StX} {w : List jC} (hI : LI o S S w) {i : Nat} (hi : i + 5 ≤ xs.length) {kc ks : Nat} (hkc : 700 ≤ kc) (hks : 40000 ≤ ks) {Q : jQ} (ih : ∀ (S' : StX) (w' : List jC), LI o S' S' w' → J X mL_law d (kc - 700) (ks - 40000) 2032 [some (.retAddr 0), some (.ref 0), some (.ref 19), some (.ref o), some (.int (nI i)), none, none] [] w' Q) : J X mL_law d kc ks 2006 [some (.retAddr 0), some (.ref 0), some (.ref 19), some (.ref o), some (.int (nI i)), none, none] [] w Q := by
  refine J_aload_n (pc := 2006) dL_law_2006 rfl rfl rfl ?_
  obtain ⟨f2, h2⟩ := hI.c0
  refine J_callV0 (pc := 2007) (M := mL_law) (as := []) dL_law_2007 fw_X6_isSound fl_L_307 fm_X6_isSound fe_X6_isSound h2 (by decide) rfl rfl rfl (uu_isSound hs (d := d - 1) (by omega) hI (kc := 0) (ks := 0)) (by omega) (st := []) (Nat.le_of_ble_eq_true rfl) rfl (kr_I fun v2 w2 _ hI2 => ?_) kx_I
  refine J_pop (pc := 2010) dL_law_2010 rfl ?_
  refine J_aload_n (pc := 2011) dL_law_2011 rfl rfl rfl ?_
  obtain ⟨f5, h5⟩ := hI2.c19
  refine J_callV (pc := 2012) (M := mL_law) (as := []) dL_law_2012 fw_X8_isSound fl_L_311 fm_X8_isSound fe_X8_isSound h5 (by decide) rfl rfl rfl (vv_isSound hs (d := d - 1) (by omega) hI2 (kc := 15) (ks := 6428) (Nat.le_refl _) (Nat.le_refl _)) (by omega) (by omega) (by omega) (st := []) (Nat.le_of_ble_eq_true rfl) rfl (kr_I fun v5 w5 _ hI5 => ?_) kx_I
  refine J_pop (pc := 2015) dL_law_2015 rfl ?_
  refine J_goto (pc := 2016) (tgt := 2032) dL_law_2016 (by decide) ?_
  exact J_sub (L' := [some (.retAddr 0), some (.ref 0), some (.ref 19), some (.ref o), some (.int (nI i)), none, none]) ⟨rfl, rfl, rfl, rfl, rfl, trivial⟩ ((ih _ _ hI5).mono (by omega) (by omega) (fun _ _ h => h))
set_option maxRecDepth 100000 in
set_option maxHeartbeats 4000000 in
theorem s_45 {X : jX} (hs : X.1.stackTraces = false) (hXO : XO X) {xs : List Int32} (hX0 : X.2.2.2.2.2[0]? = some (.inl (0, xs))) (hX1 : xs.length ≤ 320) {d : Nat} (hd : 45 ≤ d) {o : Nat} {S : StX} {w : List jC} (hI : LI o S S w) {i : Nat} (hi : i + 5 ≤ xs.length) {kc ks : Nat} (hkc : 700 ≤ kc) (hks : 40000 ≤ ks) {Q : jQ} (ih : ∀ (S' : StX) (w' : List jC), LI o S' S' w' → J X mL_law d (kc - 700) (ks - 40000) 2032 [some (.retAddr 0), some (.ref 0), some (.ref 19), some (.ref o), some (.int (nI i)), none, none] [] w' Q) : J X mL_law d kc ks 2019 [some (.retAddr 0), some (.ref 0), some (.ref 19), some (.ref o), some (.int (nI i)), none, none] [] w Q := by
  refine J_aload_n (pc := 2019) dL_law_2019 rfl rfl rfl ?_
  obtain ⟨f2, h2⟩ := hI.c0
  refine J_callV (pc := 2020) (M := mL_law) (as := []) dL_law_2020 fw_X6_digest fl_L_312 fm_X6_digest fe_X6_digest h2 (by decide) rfl rfl rfl (uu_digest hs (d := d - 1) (by omega) hXO hI (kc := 250) (ks := 9100) (Nat.le_refl _) (Nat.le_refl _)) (by omega) (by omega) (by omega) (st := []) (Nat.le_of_ble_eq_true rfl) rfl (kr_L fun v2 w2 _ hI2 => ?_) kx_L
  refine J_pop2 (pc := 2023) dL_law_2023 rfl ?_
  refine J_aload_n (pc := 2024) dL_law_2024 rfl rfl rfl ?_
  obtain ⟨f5, h5⟩ := hI2.c19
  refine J_callV (pc := 2025) (M := mL_law) (as := []) dL_law_2025 fw_X8_digest fl_L_316 fm_X8_digest fe_X8_digest h5 (by decide) rfl rfl rfl (vv_digest hs (d := d - 1) (by omega) hXO hI2 (kc := 330) (ks := 26000) (Nat.le_refl _) (Nat.le_refl _)) (by omega) (by omega) (by omega) (st := []) (Nat.le_of_ble_eq_true rfl) rfl (kr_L fun v5 w5 _ hI5 => ?_) kx_L
  refine J_pop2 (pc := 2028) dL_law_2028 rfl ?_
  refine J_goto (pc := 2029) (tgt := 2032) dL_law_2029 (by decide) ?_
  exact J_sub (L' := [some (.retAddr 0), some (.ref 0), some (.ref 19), some (.ref o), some (.int (nI i)), none, none]) ⟨rfl, rfl, rfl, rfl, rfl, trivial⟩ ((ih _ _ hI5).mono (by omega) (by omega) (fun _ _ h => h))
end
section
/-! the law's loop -/
theorem df_X6 {X : jX} : ∀ j, j < 9 → defaultValue (tyX6 j) = vp_V (([.null, .null, .null, .null, .null, .int (nI 0), .int (nI 0), .int (nI 0), .int (nI 0)] : List Value).map (jT X)) j := by
  intro j hj
  match j with
  | 0 => rfl
  | 1 => rfl
  | 2 => rfl
  | 3 => rfl
  | 4 => rfl
  | 5 => rfl
  | 6 => rfl
  | 7 => rfl
  | 8 => rfl
  | j + 9 => omega
theorem df_X7 {X : jX} : ∀ j, j < 2 → defaultValue (tyX7 j) = vp_V (([.long 0, .null] : List Value).map (jT X)) j := by
  intro j hj
  match j with
  | 0 => rfl
  | 1 => rfl
  | j + 2 => omega
theorem df_X8 {X : jX} : ∀ j, j < 11 → defaultValue (tyX8 j) = vp_V (([.int (nI 0), .null, .null, .null, .null, .int (nI 0), .int (nI 0), .int (nI 0), .int (nI 0), .int (nI 0), .int (nI 0)] : List Value).map (jT X)) j := by
  intro j hj
  match j with
  | 0 => rfl
  | 1 => rfl
  | 2 => rfl
  | 3 => rfl
  | 4 => rfl
  | 5 => rfl
  | 6 => rfl
  | 7 => rfl
  | 8 => rfl
  | 9 => rfl
  | 10 => rfl
  | j + 11 => omega
set_option maxRecDepth 100000 in
set_option maxHeartbeats 4000000 in
theorem s_at {X : jX} (hs : X.1.stackTraces = false) (hXO : XO X) {xs : List Int32} (hX0 : X.2.2.2.2.2[0]? = some (.inl (0, xs))) (hX1 : xs.length ≤ 320) {d : Nat} (hd : 45 ≤ d) {o : Nat} {S : StX} {w : List jC} (hI : LI o S S w) {i j : Nat} (hi : i + 5 ≤ xs.length) (hj : j < 64) {kc ks : Nat} (hkc : 700 ≤ kc) (hks : 40000 ≤ ks) {Q : jQ} (ih : ∀ (S' : StX) (w' : List jC), LI o S' S' w' → J X mL_law d (kc - 700) (ks - 40000) 2032 [some (.retAddr 0), some (.ref 0), some (.ref 19), some (.ref o), some (.int (nI i)), none, none] [] w' Q) : J X mL_law d kc ks 43 [some (.retAddr 0), some (.ref 0), some (.ref 19), some (.ref o), some (.int (nI i)), none, none] [.int (nI j)] w Q := by
  match j, hj with
  | 0, _ => exact J_tableIn (pc := 43) (off := 197) (tgt := 240) dL_law_43 (by decide) (by decide) (by decide) (by decide) (s_0 hs hXO hX0 hX1 hd hI hi hkc hks ih)
  | 1, _ => exact J_tableIn (pc := 43) (off := 225) (tgt := 268) dL_law_43 (by decide) (by decide) (by decide) (by decide) (s_1 hs hXO hX0 hX1 hd hI hi hkc hks ih)
  | 2, _ => exact J_tableIn (pc := 43) (off := 265) (tgt := 308) dL_law_43 (by decide) (by decide) (by decide) (by decide) (s_2 hs hXO hX0 hX1 hd hI hi hkc hks ih)
  | 3, _ => exact J_tableIn (pc := 43) (off := 317) (tgt := 360) dL_law_43 (by decide) (by decide) (by decide) (by decide) (s_3 hs hXO hX0 hX1 hd hI hi hkc hks ih)
  | 4, _ => exact J_tableIn (pc := 43) (off := 381) (tgt := 424) dL_law_43 (by decide) (by decide) (by decide) (by decide) (s_4 hs hXO hX0 hX1 hd hI hi hkc hks ih)
  | 5, _ => exact J_tableIn (pc := 43) (off := 421) (tgt := 464) dL_law_43 (by decide) (by decide) (by decide) (by decide) (s_5 hs hXO hX0 hX1 hd hI hi hkc hks ih)
  | 6, _ => exact J_tableIn (pc := 43) (off := 449) (tgt := 492) dL_law_43 (by decide) (by decide) (by decide) (by decide) (s_6 hs hXO hX0 hX1 hd hI hi hkc hks ih)
  | 7, _ => exact J_tableIn (pc := 43) (off := 489) (tgt := 532) dL_law_43 (by decide) (by decide) (by decide) (by decide) (s_7 hs hXO hX0 hX1 hd hI hi hkc hks ih)
  | 8, _ => exact J_tableIn (pc := 43) (off := 529) (tgt := 572) dL_law_43 (by decide) (by decide) (by decide) (by decide) (s_8 hs hXO hX0 hX1 hd hI hi hkc hks ih)
  | 9, _ => exact J_tableIn (pc := 43) (off := 581) (tgt := 624) dL_law_43 (by decide) (by decide) (by decide) (by decide) (s_9 hs hXO hX0 hX1 hd hI hi hkc hks ih)
  | 10, _ => exact J_tableIn (pc := 43) (off := 621) (tgt := 664) dL_law_43 (by decide) (by decide) (by decide) (by decide) (s_10 hs hXO hX0 hX1 hd hI hi hkc hks ih)
  | 11, _ => exact J_tableIn (pc := 43) (off := 673) (tgt := 716) dL_law_43 (by decide) (by decide) (by decide) (by decide) (s_11 hs hXO hX0 hX1 hd hI hi hkc hks ih)
  | 12, _ => exact J_tableIn (pc := 43) (off := 725) (tgt := 768) dL_law_43 (by decide) (by decide) (by decide) (by decide) (s_12 hs hXO hX0 hX1 hd hI hi hkc hks ih)
  | 13, _ => exact J_tableIn (pc := 43) (off := 777) (tgt := 820) dL_law_43 (by decide) (by decide) (by decide) (by decide) (s_13 hs hXO hX0 hX1 hd hI hi hkc hks ih)
  | 14, _ => exact J_tableIn (pc := 43) (off := 841) (tgt := 884) dL_law_43 (by decide) (by decide) (by decide) (by decide) (s_14 hs hXO hX0 hX1 hd hI hi hkc hks ih)
  | 15, _ => exact J_tableIn (pc := 43) (off := 854) (tgt := 897) dL_law_43 (by decide) (by decide) (by decide) (by decide) (s_15 hs hXO hX0 hX1 hd hI hi hkc hks ih)
  | 16, _ => exact J_tableIn (pc := 43) (off := 882) (tgt := 925) dL_law_43 (by decide) (by decide) (by decide) (by decide) (s_16 hs hXO hX0 hX1 hd hI hi hkc hks ih)
  | 17, _ => exact J_tableIn (pc := 43) (off := 922) (tgt := 965) dL_law_43 (by decide) (by decide) (by decide) (by decide) (s_17 hs hXO hX0 hX1 hd hI hi hkc hks ih)
  | 18, _ => exact J_tableIn (pc := 43) (off := 950) (tgt := 993) dL_law_43 (by decide) (by decide) (by decide) (by decide) (s_18 hs hXO hX0 hX1 hd hI hi hkc hks ih)
  | 19, _ => exact J_tableIn (pc := 43) (off := 978) (tgt := 1021) dL_law_43 (by decide) (by decide) (by decide) (by decide) (s_19 hs hXO hX0 hX1 hd hI hi hkc hks ih)
  | 20, _ => exact J_tableIn (pc := 43) (off := 1018) (tgt := 1061) dL_law_43 (by decide) (by decide) (by decide) (by decide) (s_20 hs hXO hX0 hX1 hd hI hi hkc hks ih)
  | 21, _ => exact J_tableIn (pc := 43) (off := 1046) (tgt := 1089) dL_law_43 (by decide) (by decide) (by decide) (by decide) (s_21 hs hXO hX0 hX1 hd hI hi hkc hks ih)
  | 22, _ => exact J_tableIn (pc := 43) (off := 1074) (tgt := 1117) dL_law_43 (by decide) (by decide) (by decide) (by decide) (s_22 hs hXO hX0 hX1 hd hI hi hkc hks ih)
  | 23, _ => exact J_tableIn (pc := 43) (off := 1102) (tgt := 1145) dL_law_43 (by decide) (by decide) (by decide) (by decide) (s_23 hs hXO hX0 hX1 hd hI hi hkc hks ih)
  | 24, _ => exact J_tableIn (pc := 43) (off := 1142) (tgt := 1185) dL_law_43 (by decide) (by decide) (by decide) (by decide) (s_24 hs hXO hX0 hX1 hd hI hi hkc hks ih)
  | 25, _ => exact J_tableIn (pc := 43) (off := 1218) (tgt := 1261) dL_law_43 (by decide) (by decide) (by decide) (by decide) (s_25 hs hXO hX0 hX1 hd hI hi hkc hks ih)
  | 26, _ => exact J_tableIn (pc := 43) (off := 1258) (tgt := 1301) dL_law_43 (by decide) (by decide) (by decide) (by decide) (s_26 hs hXO hX0 hX1 hd hI hi hkc hks ih)
  | 27, _ => exact J_tableIn (pc := 43) (off := 1310) (tgt := 1353) dL_law_43 (by decide) (by decide) (by decide) (by decide) (s_27 hs hXO hX0 hX1 hd hI hi hkc hks ih)
  | 28, _ => exact J_tableIn (pc := 43) (off := 1362) (tgt := 1405) dL_law_43 (by decide) (by decide) (by decide) (by decide) (s_28 hs hXO hX0 hX1 hd hI hi hkc hks ih)
  | 29, _ => exact J_tableIn (pc := 43) (off := 1414) (tgt := 1457) dL_law_43 (by decide) (by decide) (by decide) (by decide) (s_29 hs hXO hX0 hX1 hd hI hi hkc hks ih)
  | 30, _ => exact J_tableIn (pc := 43) (off := 1454) (tgt := 1497) dL_law_43 (by decide) (by decide) (by decide) (by decide) (s_30 hs hXO hX0 hX1 hd hI hi hkc hks ih)
  | 31, _ => exact J_tableIn (pc := 43) (off := 1494) (tgt := 1537) dL_law_43 (by decide) (by decide) (by decide) (by decide) (s_31 hs hXO hX0 hX1 hd hI hi hkc hks ih)
  | 32, _ => exact J_tableIn (pc := 43) (off := 1522) (tgt := 1565) dL_law_43 (by decide) (by decide) (by decide) (by decide) (s_32 hs hXO hX0 hX1 hd hI hi hkc hks ih)
  | 33, _ => exact J_tableIn (pc := 43) (off := 1562) (tgt := 1605) dL_law_43 (by decide) (by decide) (by decide) (by decide) (s_33 hs hXO hX0 hX1 hd hI hi hkc hks ih)
  | 34, _ => exact J_tableIn (pc := 43) (off := 1590) (tgt := 1633) dL_law_43 (by decide) (by decide) (by decide) (by decide) (s_34 hs hXO hX0 hX1 hd hI hi hkc hks ih)
  | 35, _ => exact J_tableIn (pc := 43) (off := 1642) (tgt := 1685) dL_law_43 (by decide) (by decide) (by decide) (by decide) (s_35 hs hXO hX0 hX1 hd hI hi hkc hks ih)
  | 36, _ => exact J_tableIn (pc := 43) (off := 1682) (tgt := 1725) dL_law_43 (by decide) (by decide) (by decide) (by decide) (s_36 hs hXO hX0 hX1 hd hI hi hkc hks ih)
  | 37, _ => exact J_tableIn (pc := 43) (off := 1722) (tgt := 1765) dL_law_43 (by decide) (by decide) (by decide) (by decide) (s_37 hs hXO hX0 hX1 hd hI hi hkc hks ih)
  | 38, _ => exact J_tableIn (pc := 43) (off := 1762) (tgt := 1805) dL_law_43 (by decide) (by decide) (by decide) (by decide) (s_38 hs hXO hX0 hX1 hd hI hi hkc hks ih)
  | 39, _ => exact J_tableIn (pc := 43) (off := 1814) (tgt := 1857) dL_law_43 (by decide) (by decide) (by decide) (by decide) (s_39 hs hXO hX0 hX1 hd hI hi hkc hks ih)
  | 40, _ => exact J_tableIn (pc := 43) (off := 1866) (tgt := 1909) dL_law_43 (by decide) (by decide) (by decide) (by decide) (s_40 hs hXO hX0 hX1 hd hI hi hkc hks ih)
  | 41, _ => exact J_tableIn (pc := 43) (off := 1894) (tgt := 1937) dL_law_43 (by decide) (by decide) (by decide) (by decide) (s_41 hs hXO hX0 hX1 hd hI hi hkc hks ih)
  | 42, _ => exact J_tableIn (pc := 43) (off := 1922) (tgt := 1965) dL_law_43 (by decide) (by decide) (by decide) (by decide) (s_42 hs hXO hX0 hX1 hd hI hi hkc hks ih)
  | 43, _ => exact J_tableIn (pc := 43) (off := 1950) (tgt := 1993) dL_law_43 (by decide) (by decide) (by decide) (by decide) (s_43 hs hXO hX0 hX1 hd hI hi hkc hks ih)
  | 44, _ => exact J_tableIn (pc := 43) (off := 1963) (tgt := 2006) dL_law_43 (by decide) (by decide) (by decide) (by decide) (s_44 hs hXO hX0 hX1 hd hI hi hkc hks ih)
  | 45, _ => exact J_tableIn (pc := 43) (off := 1976) (tgt := 2019) dL_law_43 (by decide) (by decide) (by decide) (by decide) (s_45 hs hXO hX0 hX1 hd hI hi hkc hks ih)
  | j + 46, hj => exact J_tableOut (pc := 43) (tgt := 2032) dL_law_43 (Or.inr (by rw [nI_toInt (by omega)]; omega)) (by decide) ((ih _ _ hI).mono (by omega) (by omega) (fun _ _ h => h))
set_option maxRecDepth 100000 in
set_option maxHeartbeats 4000000 in
theorem s_loop {X : jX} {o : Nat} (hs : X.1.stackTraces = false) (hXO : XO X) {xs : List Int32} (hX0 : X.2.2.2.2.2[0]? = some (.inl (0, xs))) (hX1 : xs.length ≤ 320) {d : Nat} (hd : 45 ≤ d) {Q : jQ} (hQ : ∀ w' : List jC, Q (.inl (some (.int 1))) w') : ∀ (f : Nat) (S : StX) (w : List jC) (i kc ks : Nat), LI o S S w → i ≤ 400 → 330 - i ≤ 5 * f → f * 700 ≤ kc → f * 40000 ≤ ks → J X mL_law d kc ks 27 [some (.retAddr 0), some (.ref 0), some (.ref 19), some (.ref o), some (.int (nI i)), none, none] [] w Q := by
  intro f
  induction f with
  | zero =>
    intro S w i kc ks hI hi hf _ _
    refine J_iload (pc := 27) dL_law_27 rfl ?_
    refine J_aload_n (pc := 29) dL_law_29 rfl rfl rfl ?_
    refine J_alenO (pc := 30) (n := nI xs.length) dL_law_30 hX0 rfl ?_
    refine J_iconst (pc := 31) (v := nI 5) dL_law_31 (by decide) ?_
    refine J_isub (pc := 32) dL_law_32 ?_
    refine J_icmp_gt (pc := 33) (tgt := 2038) dL_law_33 (by decide) (fun _ => ?_) (fun hn => ?_)
    · refine J_iconst (pc := 2038) (v := nI 1) dL_law_2038 (by decide) ?_
      exact J_zret (pc := 2039) dL_law_2039 rfl (nar_b (by decide)) (hQ w)
    · have hi2 := law_i hX1 hi hn
      omega
  | succ f ih =>
    intro S w i kc ks hI hi hf hkc hks
    refine J_iload (pc := 27) dL_law_27 rfl ?_
    refine J_aload_n (pc := 29) dL_law_29 rfl rfl rfl ?_
    refine J_alenO (pc := 30) (n := nI xs.length) dL_law_30 hX0 rfl ?_
    refine J_iconst (pc := 31) (v := nI 5) dL_law_31 (by decide) ?_
    refine J_isub (pc := 32) dL_law_32 ?_
    refine J_icmp_gt (pc := 33) (tgt := 2038) dL_law_33 (by decide) (fun _ => ?_) (fun hn => ?_)
    · refine J_iconst (pc := 2038) (v := nI 1) dL_law_2038 (by decide) ?_
      exact J_zret (pc := 2039) dL_law_2039 rfl (nar_b (by decide)) (hQ w)
    · have hi2 := law_i hX1 hi hn
      refine J_aload_n (pc := 36) dL_law_36 rfl rfl rfl ?_
      refine J_iload (pc := 37) dL_law_37 rfl ?_
      refine J_ialdO (pc := 39) dL_law_39 hX0 (nI_in (by omega) (by omega)) (J_absI fun x => ?_)
      refine J_bipush (pc := 40) (v := nI 63) dL_law_40 (by decide) ?_
      refine J_iand (pc := 42) dL_law_42 (J_andE 6 63 (by decide) fun j hj => ?_)
      refine s_at hs hXO hX0 hX1 hd hI hi2 hj (by omega) (by omega) (fun S' w' hI' => ?_)
      refine J_iincN (pc := 2032) (b := 5) dL_law_2032 rfl (by decide) (by decide) rfl ?_
      show J X mL_law d _ _ 2035 [some (.retAddr 0), some (.ref 0), some (.ref 19), some (.ref o), some (.int (nI (i + 5))), none, none] [] w' Q
      refine J_goto (pc := 2035) (tgt := 27) dL_law_2035 (by decide) ?_
      exact ih S' w' (i + 5) _ _ hI' (by omega) (by omega) (by omega) (by omega)
set_option maxRecDepth 100000 in
set_option maxHeartbeats 4000000 in
theorem s_start {X : jX} (hs : X.1.stackTraces = false) (hXO : XO X) {xs : List Int32} (hX0 : X.2.2.2.2.2[0]? = some (.inl (0, xs))) (hX1 : xs.length ≤ 320) {d : Nat} (hd : 45 ≤ d) {kc ks : Nat} (hkc : 600000 ≤ kc) (hks : 7000000 ≤ ks) {Q : jQ} (hQ : ∀ w' : List jC, Q (.inl (some (.int 1))) w') : J X mL_law d kc ks 0 [some (.retAddr 0), none, none, none, none, none, none] [] [] Q := by
  refine J_newO (pc := 0) (M := mL_law) (fs := [.null, .null, .null, .null, .null, .int (nI 0), .int (nI 0), .int (nI 0), .int (nI 0)]) dL_law_0 kC7 fc_L_8 fi_X6 fz_X6 df_X6 (by omega) (by omega) (fun a w1 ha hln1 hc1 _ => ?_)
  obtain rfl : a = 0 := ha
  refine J_dup (pc := 3) dL_law_3 rfl ?_
  refine J_callI (pc := 4) (M := mL_law) (as := []) dL_law_4 fw_X6_init fl_L_158 fm_X6_init rfl rfl rfl (c_X6_init hs (d := d - 1) (by omega) (w := w1) hln1 hc1 (kc := 18) (ks := 7664) (Nat.le_refl _) (Nat.le_refl _)) (by omega) (by omega) (by omega) (st := [.ref 0]) (Nat.le_of_ble_eq_true rfl) rfl (kr_V fun w2 hw2 => ?_) kx_V
  obtain ⟨hln2, hS2, hm2⟩ := hw2
  refine J_astore_n (pc := 7) dL_law_7 rfl (by decide) rfl rfl ?_
  show J X mL_law d _ _ 8 [some (.retAddr 0), some (.ref 0), none, none, none, none, none] [] w2 Q
  refine J_newO (pc := 8) (M := mL_law) (fs := [.int (nI 0), .null, .null, .null, .null, .int (nI 0), .int (nI 0), .int (nI 0), .int (nI 0), .int (nI 0), .int (nI 0)]) dL_law_8 kC9 fc_L_159 fi_X8 fz_X8 df_X8 (by omega) (by omega) (fun a w3 ha hln3 hc3 hne3 => ?_)
  obtain rfl : a = 19 := by omega
  have hS3 := hS2.gr (fun i hi => hne3 i (by omega))
  refine J_dup (pc := 11) dL_law_11 rfl ?_
  refine J_callI (pc := 12) (M := mL_law) (as := []) dL_law_12 fw_X8_init fl_L_161 fm_X8_init rfl rfl rfl (c_X8_init hs (d := d - 1) (by omega) (w := w3) hln3 hc3 (kc := 4) (ks := 214) (Nat.le_refl _) (Nat.le_refl _)) (by omega) (by omega) (by omega) (st := [.ref 19]) (Nat.le_of_ble_eq_true rfl) rfl (kr_V fun w4 hw4 => ?_) kx_V
  obtain ⟨mv, hR4, gm, hP4, hid4, hne4⟩ := hw4
  have hS4 := hS3.keep (fun i hi => hne4 i hi)
  refine J_astore_n (pc := 15) dL_law_15 rfl (by decide) rfl rfl ?_
  show J X mL_law d _ _ 16 [some (.retAddr 0), some (.ref 0), some (.ref 19), none, none, none, none] [] w4 Q
  refine J_newO (pc := 16) (M := mL_law) (fs := [.long 0, .null]) dL_law_16 kC8 fc_L_14 fi_X7 fz_X7 df_X7 (by omega) (by omega) (fun a w5 ha hln5 hc5 hne5 => ?_)
  have hg4 := gl hR4.2.2.2.2.1
  have ho : 24 ≤ a := by omega
  have hS5 := hS4.gr (fun i hi => hne5 i (by omega))
  have hR5 : RM 4 mv (fun _ => 0) (fun _ => 0) 23 (List.replicate 158 0) (-1) (nI 0) (nI 0) (nI 0) (nI 0) (nI 0) w5 := ⟨(hne5 19 (by omega)).trans hR4.1, (hne5 20 (by omega)).trans hR4.2.1, (hne5 21 (by omega)).trans hR4.2.2.1, (hne5 22 (by omega)).trans hR4.2.2.2.1, (hne5 23 (by omega)).trans hR4.2.2.2.2.1, hR4.2.2.2.2.2⟩
  refine J_dup (pc := 19) dL_law_19 rfl ?_
  refine J_callIN (pc := 20) (M := mL_law) (as := []) dL_law_20 fw_X7_init fl_L_162 fm_X7_init rfl rfl rfl (c_X7_init hs (d := d - 1) (by omega) (w := w5) a (kc := 0) (ks := 0)) (by omega) (Nat.zero_le _) (Nat.zero_le _) (st := [.ref a]) (Nat.le_of_ble_eq_true rfl) rfl (kr_V fun w6 hw6 => ?_) kx_V
  obtain rfl := hw6.symm
  refine J_astore_n (pc := 23) dL_law_23 rfl (by decide) rfl rfl ?_
  refine J_iconst (pc := 24) (v := nI 0) dL_law_24 (by decide) ?_
  refine J_istore (pc := 25) dL_law_25 (by decide) rfl ?_
  show J X mL_law d _ _ 27 [some (.retAddr 0), some (.ref 0), some (.ref 19), some (.ref a), some (.int (nI 0)), none, none] [] w5 Q
  have hm5 : w5[1]? = some (aF 6 (fun _ => 1754760)) := (hne5 1 (by omega)).trans ((hne4 1 (by decide)).trans ((hne3 1 (by omega)).trans hm2))
  obtain ⟨_, hc0, rfl⟩ := hS5 0 _ rfl
  exact s_loop hs hXO hX0 hX1 hd hQ 66 (4, nI 0, nI 0, nI 0, fun _ => 1754760) w5 0 _ _ ⟨nI 0, ⟨by decide, by decide, fun c _ => (by show Mv 4 1754760; rw [e7_M (n := 4) (by decide)]; exact eM_Mv (by decide)), ⟨hc0, hm5⟩, hS5⟩, ⟨mv, _, _, 23, _, _, _, hR5, by decide, by decide, gm, fun _ => (by decide : (0 : Nat) < 7), fun _ => (by decide : (0 : Nat) < 7), hP4, Or.inl rfl, RL_points (by decide) hid4, by omega⟩, ⟨ho, _, hc5, rfl⟩⟩ (by decide) (by decide) (by omega) (by omega)
end
section
/-! from the premises to the walk's world -/
def FLs : List Cond := flatC (Jvm.Cond.and given_1 narrow_1)
def ysO : List Int32 := [48, 49, 50, 51, 52, 53, 54, 55, 56, 57, 48, 49, 50, 51, 52, 53, 54, 55, 56, 57, 48, 49, 50, 51, 52, 53, 54, 55, 56, 57, 48, 49, 50, 51, 52, 53, 54, 55, 56, 57, 48, 49, 50, 51, 52, 53, 54, 55, 56, 57, 48, 49, 50, 51, 52, 53, 54, 55, 56, 57, 48, 49, 50, 51, 52, 53, 54, 55, 56, 57, 48, 49, 50, 51, 52, 53, 54, 55, 56, 57, 48, 49, 50, 51, 52, 53, 54, 55, 56, 57, 48, 49, 50, 51, 52, 53, 54, 55, 56, 57]
theorem flOa : FLs[12]? = some (Cond.arrayOf (.static "java/lang/Integer" "DigitOnes" "[B") .byte) := by decide +kernel
theorem flOl : FLs[13]? = some (Cond.eq (.length (.static "java/lang/Integer" "DigitOnes" "[B")) (.int (Int32.ofNat ysO.length))) := by decide +kernel
theorem flOe : ∀ j, j < ysO.length → FLs[14 + j]? = some (Cond.eq (.elem (.static "java/lang/Integer" "DigitOnes" "[B") (.int (Int32.ofNat j))) (.int (ysO.getD j 0))) := by decide +kernel
def ysT : List Int32 := [48, 48, 48, 48, 48, 48, 48, 48, 48, 48, 49, 49, 49, 49, 49, 49, 49, 49, 49, 49, 50, 50, 50, 50, 50, 50, 50, 50, 50, 50, 51, 51, 51, 51, 51, 51, 51, 51, 51, 51, 52, 52, 52, 52, 52, 52, 52, 52, 52, 52, 53, 53, 53, 53, 53, 53, 53, 53, 53, 53, 54, 54, 54, 54, 54, 54, 54, 54, 54, 54, 55, 55, 55, 55, 55, 55, 55, 55, 55, 55, 56, 56, 56, 56, 56, 56, 56, 56, 56, 56, 57, 57, 57, 57, 57, 57, 57, 57, 57, 57]
theorem flTa : FLs[115]? = some (Cond.arrayOf (.static "java/lang/Integer" "DigitTens" "[B") .byte) := by decide +kernel
theorem flTl : FLs[116]? = some (Cond.eq (.length (.static "java/lang/Integer" "DigitTens" "[B")) (.int (Int32.ofNat ysT.length))) := by decide +kernel
theorem flTe : ∀ j, j < ysT.length → FLs[117 + j]? = some (Cond.eq (.elem (.static "java/lang/Integer" "DigitTens" "[B") (.int (Int32.ofNat j))) (.int (ysT.getD j 0))) := by decide +kernel
def bs144 : List Int32 := []
theorem fs144x : FLs[352]? = some (Cond.exactly (.string "SwaphouseModel" 144) "java/lang/String") := by decide +kernel
theorem fs144c : FLs[353]? = some (Cond.eq (.field (.string "SwaphouseModel" 144) "java/lang/String" "coder" "B") (.int 0)) := by decide +kernel
theorem fs144a : FLs[354]? = some (Cond.arrayOf (.field (.string "SwaphouseModel" 144) "java/lang/String" "value" "[B") .byte) := by decide +kernel
theorem fs144l : FLs[355]? = some (Cond.eq (.length (.field (.string "SwaphouseModel" 144) "java/lang/String" "value" "[B")) (.int (Int32.ofNat bs144.length))) := by decide +kernel
theorem fs144e : ∀ j, j < bs144.length → FLs[0 + j]? = some (Cond.eq (.elem (.field (.string "SwaphouseModel" 144) "java/lang/String" "value" "[B") (.int (Int32.ofNat j))) (.int (bs144.getD j 0))) := fun j hj => absurd hj (Nat.not_lt_zero j)
theorem fs144f : jFitB bs144 := by
  intro y hy
  have h : ∀ y ∈ bs144, fits .byte (.int y) = true := by decide +kernel
  exact h y hy
def bs149 : List Int32 := [32]
theorem fs149x : FLs[360]? = some (Cond.exactly (.string "SwaphouseModel" 149) "java/lang/String") := by decide +kernel
theorem fs149c : FLs[361]? = some (Cond.eq (.field (.string "SwaphouseModel" 149) "java/lang/String" "coder" "B") (.int 0)) := by decide +kernel
theorem fs149a : FLs[362]? = some (Cond.arrayOf (.field (.string "SwaphouseModel" 149) "java/lang/String" "value" "[B") .byte) := by decide +kernel
theorem fs149l : FLs[363]? = some (Cond.eq (.length (.field (.string "SwaphouseModel" 149) "java/lang/String" "value" "[B")) (.int (Int32.ofNat bs149.length))) := by decide +kernel
theorem fs149e : ∀ j, j < bs149.length → FLs[364 + j]? = some (Cond.eq (.elem (.field (.string "SwaphouseModel" 149) "java/lang/String" "value" "[B") (.int (Int32.ofNat j))) (.int (bs149.getD j 0))) := by decide +kernel
theorem fs149f : jFitB bs149 := by
  intro y hy
  have h : ∀ y ∈ bs149, fits .byte (.int y) = true := by decide +kernel
  exact h y hy
def bs289 : List Int32 := [116, 104, 101, 114, 101, 32, 105, 115, 32, 110, 111, 32, 115, 117, 99, 104, 32, 99, 101, 108, 108]
theorem fs289x : FLs[239]? = some (Cond.exactly (.string "Swaphouse" 289) "java/lang/String") := by decide +kernel
theorem fs289c : FLs[240]? = some (Cond.eq (.field (.string "Swaphouse" 289) "java/lang/String" "coder" "B") (.int 0)) := by decide +kernel
theorem fs289a : FLs[241]? = some (Cond.arrayOf (.field (.string "Swaphouse" 289) "java/lang/String" "value" "[B") .byte) := by decide +kernel
theorem fs289l : FLs[242]? = some (Cond.eq (.length (.field (.string "Swaphouse" 289) "java/lang/String" "value" "[B")) (.int (Int32.ofNat bs289.length))) := by decide +kernel
theorem fs289e : ∀ j, j < bs289.length → FLs[243 + j]? = some (Cond.eq (.elem (.field (.string "Swaphouse" 289) "java/lang/String" "value" "[B") (.int (Int32.ofNat j))) (.int (bs289.getD j 0))) := by decide +kernel
theorem fs289f : jFitB bs289 := by
  intro y hy
  have h : ∀ y ∈ bs289, fits .byte (.int y) = true := by decide +kernel
  exact h y hy
def bs294 : List Int32 := [116, 104, 101, 114, 101, 32, 105, 115, 32, 110, 111, 32, 115, 117, 99, 104, 32, 112, 111, 105, 110, 116]
theorem fs294x : FLs[323]? = some (Cond.exactly (.string "Swaphouse" 294) "java/lang/String") := by decide +kernel
theorem fs294c : FLs[324]? = some (Cond.eq (.field (.string "Swaphouse" 294) "java/lang/String" "coder" "B") (.int 0)) := by decide +kernel
theorem fs294a : FLs[325]? = some (Cond.arrayOf (.field (.string "Swaphouse" 294) "java/lang/String" "value" "[B") .byte) := by decide +kernel
theorem fs294l : FLs[326]? = some (Cond.eq (.length (.field (.string "Swaphouse" 294) "java/lang/String" "value" "[B")) (.int (Int32.ofNat bs294.length))) := by decide +kernel
theorem fs294e : ∀ j, j < bs294.length → FLs[327 + j]? = some (Cond.eq (.elem (.field (.string "Swaphouse" 294) "java/lang/String" "value" "[B") (.int (Int32.ofNat j))) (.int (bs294.getD j 0))) := by decide +kernel
theorem fs294f : jFitB bs294 := by
  intro y hy
  have h : ∀ y ∈ bs294, fits .byte (.int y) = true := by decide +kernel
  exact h y hy
def bs298 : List Int32 := [97, 110, 32, 97, 114, 103, 117, 109, 101, 110, 116, 32, 105, 115, 32, 111, 117, 116, 115, 105, 100, 101, 32, 119, 104, 97, 116, 32, 116, 104, 101, 32, 100, 111, 99, 117, 109, 101, 110, 116, 32, 108, 101, 116, 115]
theorem fs298x : FLs[272]? = some (Cond.exactly (.string "Swaphouse" 298) "java/lang/String") := by decide +kernel
theorem fs298c : FLs[273]? = some (Cond.eq (.field (.string "Swaphouse" 298) "java/lang/String" "coder" "B") (.int 0)) := by decide +kernel
theorem fs298a : FLs[274]? = some (Cond.arrayOf (.field (.string "Swaphouse" 298) "java/lang/String" "value" "[B") .byte) := by decide +kernel
theorem fs298l : FLs[275]? = some (Cond.eq (.length (.field (.string "Swaphouse" 298) "java/lang/String" "value" "[B")) (.int (Int32.ofNat bs298.length))) := by decide +kernel
theorem fs298e : ∀ j, j < bs298.length → FLs[276 + j]? = some (Cond.eq (.elem (.field (.string "Swaphouse" 298) "java/lang/String" "value" "[B") (.int (Int32.ofNat j))) (.int (bs298.getD j 0))) := by decide +kernel
theorem fs298f : jFitB bs298 := by
  intro y hy
  have h : ∀ y ∈ bs298, fits .byte (.int y) = true := by decide +kernel
  exact h y hy
theorem flC : FLs[6]? = some (Cond.eq (.static "java/lang/String" "COMPACT_STRINGS" "Z") (.int 1)) := by decide +kernel
theorem flU : FLs[4]? = some (Cond.isRef (.static Bundle.tN "UNASSIGNED_STACK" Bundle.steD)) := by decide +kernel
theorem flV : FLs[5]? = some (Cond.isRef (.static Bundle.tN "SUPPRESSED_SENTINEL" Bundle.listD)) := by decide +kernel
theorem flN : FLs[236]? = some (Cond.not (.castable "java/lang/IllegalArgumentException" "java/lang/IndexOutOfBoundsException")) := by decide +kernel
theorem lt_U : lw_tbl[498]? = some (Cond.laysStatic Bundle.tN "UNASSIGNED_STACK" Bundle.steD) := by decide +kernel
theorem lt_V : lw_tbl[500]? = some (Cond.laysStatic Bundle.tN "SUPPRESSED_SENTINEL" Bundle.listD) := by decide +kernel
theorem lt_C : lw_tbl[567]? = some (Cond.laysStatic "java/lang/String" "COMPACT_STRINGS" "Z") := by decide +kernel
theorem lt_O : lw_tbl[709]? = some (Cond.laysStatic "java/lang/Integer" "DigitOnes" "[B") := by decide +kernel
theorem lt_T : lw_tbl[711]? = some (Cond.laysStatic "java/lang/Integer" "DigitTens" "[B") := by decide +kernel
theorem lt_144 : lw_tbl[1476]? = some (Cond.stringRef "SwaphouseModel" 144 "") := by decide +kernel
theorem lt_149 : lw_tbl[1479]? = some (Cond.stringRef "SwaphouseModel" 149 " ") := by decide +kernel
theorem lt_289 : lw_tbl[511]? = some (Cond.stringRef "Swaphouse" 289 "there is no such cell") := by decide +kernel
theorem lt_294 : lw_tbl[937]? = some (Cond.stringRef "Swaphouse" 294 "there is no such point") := by decide +kernel
theorem lt_298 : lw_tbl[855]? = some (Cond.stringRef "Swaphouse" 298 "an argument is outside what the document lets") := by decide +kernel
theorem lt_W : lw_tbl[79]? = some (Cond.initialized Bundle.tN) := by decide +kernel
theorem lt_S : lw_tbl[89]? = some (Cond.initialized "java/lang/String") := by decide +kernel
theorem lt_I : lw_tbl[86]? = some (Cond.initialized "java/lang/Integer") := by decide +kernel
end
