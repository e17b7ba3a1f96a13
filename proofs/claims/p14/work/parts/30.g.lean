section
/-! the law's cases -/
set_option maxRecDepth 100000 in
set_option maxHeartbeats 4000000 in
theorem s_23 {X : jX} (hs : X.1.stackTraces = false) (hXO : XO X) {xs : List Int32} (hX0 : X.2.2.2.2.2[0]? = some (.inl (0, xs))) (hX1 : xs.length ≤ 320) {d : Nat} (hd : 45 ≤ d) {o : Nat} {S : StX} {w : List jC} (hI : LI o S S w) {i : Nat} (hi : i + 5 ≤ xs.length) {kc ks : Nat} (hkc : 700 ≤ kc) (hks : 40000 ≤ ks) {Q : jQ} (ih : ∀ (S' : StX) (w' : List jC), LI o S' S' w' → J X mL_law d (kc - 700) (ks - 40000) 2025 [some (.retAddr 0), some (.ref 0), some (.ref 19), some (.ref o), some (.int (nI i)), none, none] [] w' Q) : J X mL_law d kc ks 1174 [some (.retAddr 0), some (.ref 0), some (.ref 19), some (.ref o), some (.int (nI i)), none, none] [] w Q := by
  refine J_aload_n (pc := 1174) dL_law_1174 rfl rfl rfl ?_
  refine J_aload_n (pc := 1175) dL_law_1175 rfl rfl rfl ?_
  refine J_iload (pc := 1176) dL_law_1176 rfl ?_
  refine J_iconst (pc := 1178) (v := nI 1) dL_law_1178 (by decide) ?_
  refine J_iaddN (pc := 1179) dL_law_1179 ?_
  refine J_ialdO (pc := 1180) dL_law_1180 hX0 (nI_in (by omega) (by omega)) ?_
  refine J_aload_n (pc := 1181) dL_law_1181 rfl rfl rfl ?_
  refine J_iload (pc := 1182) dL_law_1182 rfl ?_
  refine J_iconst (pc := 1184) (v := nI 2) dL_law_1184 (by decide) ?_
  refine J_iaddN (pc := 1185) dL_law_1185 ?_
  refine J_ialdO (pc := 1186) dL_law_1186 hX0 (nI_in (by omega) (by omega)) ?_
  refine J_aload_n (pc := 1187) dL_law_1187 rfl rfl rfl ?_
  refine J_callSX (pc := 1188) (M := mL_law) (as := [.ref 0, .int (xs.getD (nI (i + 1)).toNatClampNeg 0), .int (xs.getD (nI (i + 2)).toNatClampNeg 0), .ref o]) dL_law_1188 fw_L_areAlike fl_L_243 fs_L_areAlike rfl (c_L_areAlike hs (d := d - 1) (by omega) hI (xs.getD (nI (i + 1)).toNatClampNeg 0) (xs.getD (nI (i + 2)).toNatClampNeg 0) (kc := 2) (ks := 12) (Nat.le_refl _) (Nat.le_refl _)) (by omega) (by omega) (by omega) (st := []) (Nat.le_of_ble_eq_true rfl) rfl (kr_J fun v1 w1 hv1 => ?_) kx_J
  obtain ⟨k1, x1, S1, hA1, hv1, hI1, hO1⟩ := hv1
  subst hv1
  refine J_istore (pc := 1191) dL_law_1191 (by decide) rfl ?_
  show J X mL_law d (kc - 2) (ks - 12) 1193 [some (.retAddr 0), some (.ref 0), some (.ref 19), some (.ref o), some (.int (nI i)), some (.int (nI k1)), none] [] w1 Q
  refine J_aload_n (pc := 1193) dL_law_1193 rfl rfl rfl ?_
  refine J_aload_n (pc := 1194) dL_law_1194 rfl rfl rfl ?_
  refine J_iload (pc := 1195) dL_law_1195 rfl ?_
  refine J_iconst (pc := 1197) (v := nI 1) dL_law_1197 (by decide) ?_
  refine J_iaddN (pc := 1198) dL_law_1198 ?_
  refine J_ialdO (pc := 1199) dL_law_1199 hX0 (nI_in (by omega) (by omega)) ?_
  refine J_aload_n (pc := 1200) dL_law_1200 rfl rfl rfl ?_
  refine J_iload (pc := 1201) dL_law_1201 rfl ?_
  refine J_iconst (pc := 1203) (v := nI 2) dL_law_1203 (by decide) ?_
  refine J_iaddN (pc := 1204) dL_law_1204 ?_
  refine J_ialdO (pc := 1205) dL_law_1205 hX0 (nI_in (by omega) (by omega)) ?_
  obtain ⟨f26, h26⟩ := hI1.c19
  refine J_callV0 (pc := 1206) (M := mL_law) (as := [.int (xs.getD (nI (i + 1)).toNatClampNeg 0), .int (xs.getD (nI (i + 2)).toNatClampNeg 0)]) dL_law_1206 fw_X8_areAlike fl_L_245 fm_X8_areAlike fe_X8_areAlike h26 (by decide) rfl rfl rfl (vv_areAlike hs (d := d - 1) (by omega) hI1 (xs.getD (nI (i + 1)).toNatClampNeg 0) (xs.getD (nI (i + 2)).toNatClampNeg 0) (kc := 0) (ks := 0)) (by omega) (st := []) (Nat.le_of_ble_eq_true rfl) rfl (kr_J fun v2 w2 hv2 => ?_) kx_J
  obtain ⟨k2, S2, hA2, hI2, hO2⟩ := hv2
  obtain ⟨h1, h7, hM⟩ := hI.bd
  obtain ⟨rfl, rfl⟩ := AG.same (fun v v' x y h h' => (fD_areAlike h1 h7 hM (xs.getD (nI (i + 1)).toNatClampNeg 0) (xs.getD (nI (i + 2)).toNatClampNeg 0) v v' x y h h').1) hA1 hA2
  have hI3 : LI o S1 S1 w2 := ⟨_, hI2⟩
  refine J_istore (pc := 1209) dL_law_1209 (by decide) rfl ?_
  show J X mL_law d (kc - 2) (ks - 12) 1211 [some (.retAddr 0), some (.ref 0), some (.ref 19), some (.ref o), some (.int (nI i)), some (.int (nI k1)), some (.int v2)] [] w2 Q
  refine J_goto (pc := 1211) (tgt := 2025) dL_law_1211 (by decide) ?_
  exact J_sub (L' := [some (.retAddr 0), some (.ref 0), some (.ref 19), some (.ref o), some (.int (nI i)), none, none]) ⟨rfl, rfl, rfl, rfl, rfl, trivial⟩ ((ih _ _ hI3).mono (by omega) (by omega) (fun _ _ h => h))
set_option maxRecDepth 100000 in
set_option maxHeartbeats 4000000 in
theorem s_24 {X : jX} (hs : X.1.stackTraces = false) (hXO : XO X) {xs : List Int32} (hX0 : X.2.2.2.2.2[0]? = some (.inl (0, xs))) (hX1 : xs.length ≤ 320) {d : Nat} (hd : 45 ≤ d) {o : Nat} {S : StX} {w : List jC} (hI : LI o S S w) {i : Nat} (hi : i + 5 ≤ xs.length) {kc ks : Nat} (hkc : 700 ≤ kc) (hks : 40000 ≤ ks) {Q : jQ} (ih : ∀ (S' : StX) (w' : List jC), LI o S' S' w' → J X mL_law d (kc - 700) (ks - 40000) 2025 [some (.retAddr 0), some (.ref 0), some (.ref 19), some (.ref o), some (.int (nI i)), none, none] [] w' Q) : J X mL_law d kc ks 1214 [some (.retAddr 0), some (.ref 0), some (.ref 19), some (.ref o), some (.int (nI i)), none, none] [] w Q := by
  refine J_aload_n (pc := 1214) dL_law_1214 rfl rfl rfl ?_
  refine J_aload_n (pc := 1215) dL_law_1215 rfl rfl rfl ?_
  refine J_iload (pc := 1216) dL_law_1216 rfl ?_
  refine J_iconst (pc := 1218) (v := nI 1) dL_law_1218 (by decide) ?_
  refine J_iaddN (pc := 1219) dL_law_1219 ?_
  refine J_ialdO (pc := 1220) dL_law_1220 hX0 (nI_in (by omega) (by omega)) ?_
  refine J_aload_n (pc := 1221) dL_law_1221 rfl rfl rfl ?_
  refine J_iload (pc := 1222) dL_law_1222 rfl ?_
  refine J_iconst (pc := 1224) (v := nI 2) dL_law_1224 (by decide) ?_
  refine J_iaddN (pc := 1225) dL_law_1225 ?_
  refine J_ialdO (pc := 1226) dL_law_1226 hX0 (nI_in (by omega) (by omega)) ?_
  refine J_aload_n (pc := 1227) dL_law_1227 rfl rfl rfl ?_
  refine J_callSX (pc := 1228) (M := mL_law) (as := [.ref 0, .int (xs.getD (nI (i + 1)).toNatClampNeg 0), .int (xs.getD (nI (i + 2)).toNatClampNeg 0), .ref o]) dL_law_1228 fw_L_commute fl_L_246 fs_L_commute rfl (c_L_commute hs (d := d - 1) (by omega) hI (xs.getD (nI (i + 1)).toNatClampNeg 0) (xs.getD (nI (i + 2)).toNatClampNeg 0) (kc := 2) (ks := 12) (Nat.le_refl _) (Nat.le_refl _)) (by omega) (by omega) (by omega) (st := []) (Nat.le_of_ble_eq_true rfl) rfl (kr_J fun v1 w1 hv1 => ?_) kx_J
  obtain ⟨k1, x1, S1, hA1, hv1, hI1, hO1⟩ := hv1
  subst hv1
  refine J_istore (pc := 1231) dL_law_1231 (by decide) rfl ?_
  show J X mL_law d (kc - 2) (ks - 12) 1233 [some (.retAddr 0), some (.ref 0), some (.ref 19), some (.ref o), some (.int (nI i)), some (.int (nI k1)), none] [] w1 Q
  refine J_aload_n (pc := 1233) dL_law_1233 rfl rfl rfl ?_
  refine J_aload_n (pc := 1234) dL_law_1234 rfl rfl rfl ?_
  refine J_iload (pc := 1235) dL_law_1235 rfl ?_
  refine J_iconst (pc := 1237) (v := nI 1) dL_law_1237 (by decide) ?_
  refine J_iaddN (pc := 1238) dL_law_1238 ?_
  refine J_ialdO (pc := 1239) dL_law_1239 hX0 (nI_in (by omega) (by omega)) ?_
  refine J_aload_n (pc := 1240) dL_law_1240 rfl rfl rfl ?_
  refine J_iload (pc := 1241) dL_law_1241 rfl ?_
  refine J_iconst (pc := 1243) (v := nI 2) dL_law_1243 (by decide) ?_
  refine J_iaddN (pc := 1244) dL_law_1244 ?_
  refine J_ialdO (pc := 1245) dL_law_1245 hX0 (nI_in (by omega) (by omega)) ?_
  obtain ⟨f26, h26⟩ := hI1.c19
  refine J_callV0 (pc := 1246) (M := mL_law) (as := [.int (xs.getD (nI (i + 1)).toNatClampNeg 0), .int (xs.getD (nI (i + 2)).toNatClampNeg 0)]) dL_law_1246 fw_X8_commute fl_L_248 fm_X8_commute fe_X8_commute h26 (by decide) rfl rfl rfl (vv_commute hs (d := d - 1) (by omega) hI1 (xs.getD (nI (i + 1)).toNatClampNeg 0) (xs.getD (nI (i + 2)).toNatClampNeg 0) (kc := 0) (ks := 0)) (by omega) (st := []) (Nat.le_of_ble_eq_true rfl) rfl (kr_J fun v2 w2 hv2 => ?_) kx_J
  obtain ⟨k2, S2, hA2, hI2, hO2⟩ := hv2
  obtain ⟨h1, h7, hM⟩ := hI.bd
  obtain ⟨rfl, rfl⟩ := AG.same (fun v v' x y h h' => (fD_commute h1 h7 hM (xs.getD (nI (i + 1)).toNatClampNeg 0) (xs.getD (nI (i + 2)).toNatClampNeg 0) v v' x y h h').1) hA1 hA2
  have hI3 : LI o S1 S1 w2 := ⟨_, hI2⟩
  refine J_istore (pc := 1249) dL_law_1249 (by decide) rfl ?_
  show J X mL_law d (kc - 2) (ks - 12) 1251 [some (.retAddr 0), some (.ref 0), some (.ref 19), some (.ref o), some (.int (nI i)), some (.int (nI k1)), some (.int v2)] [] w2 Q
  refine J_goto (pc := 1251) (tgt := 2025) dL_law_1251 (by decide) ?_
  exact J_sub (L' := [some (.retAddr 0), some (.ref 0), some (.ref 19), some (.ref o), some (.int (nI i)), none, none]) ⟨rfl, rfl, rfl, rfl, rfl, trivial⟩ ((ih _ _ hI3).mono (by omega) (by omega) (fun _ _ h => h))
set_option maxRecDepth 100000 in
set_option maxHeartbeats 4000000 in
theorem s_25 {X : jX} (hs : X.1.stackTraces = false) (hXO : XO X) {xs : List Int32} (hX0 : X.2.2.2.2.2[0]? = some (.inl (0, xs))) (hX1 : xs.length ≤ 320) {d : Nat} (hd : 45 ≤ d) {o : Nat} {S : StX} {w : List jC} (hI : LI o S S w) {i : Nat} (hi : i + 5 ≤ xs.length) {kc ks : Nat} (hkc : 700 ≤ kc) (hks : 40000 ≤ ks) {Q : jQ} (ih : ∀ (S' : StX) (w' : List jC), LI o S' S' w' → J X mL_law d (kc - 700) (ks - 40000) 2025 [some (.retAddr 0), some (.ref 0), some (.ref 19), some (.ref o), some (.int (nI i)), none, none] [] w' Q) : J X mL_law d kc ks 1254 [some (.retAddr 0), some (.ref 0), some (.ref 19), some (.ref o), some (.int (nI i)), none, none] [] w Q := by
  refine J_aload_n (pc := 1254) dL_law_1254 rfl rfl rfl ?_
  refine J_aload_n (pc := 1255) dL_law_1255 rfl rfl rfl ?_
  refine J_iload (pc := 1256) dL_law_1256 rfl ?_
  refine J_iconst (pc := 1258) (v := nI 1) dL_law_1258 (by decide) ?_
  refine J_iaddN (pc := 1259) dL_law_1259 ?_
  refine J_ialdO (pc := 1260) dL_law_1260 hX0 (nI_in (by omega) (by omega)) ?_
  refine J_aload_n (pc := 1261) dL_law_1261 rfl rfl rfl ?_
  refine J_iload (pc := 1262) dL_law_1262 rfl ?_
  refine J_iconst (pc := 1264) (v := nI 2) dL_law_1264 (by decide) ?_
  refine J_iaddN (pc := 1265) dL_law_1265 ?_
  refine J_ialdO (pc := 1266) dL_law_1266 hX0 (nI_in (by omega) (by omega)) ?_
  refine J_aload_n (pc := 1267) dL_law_1267 rfl rfl rfl ?_
  refine J_callSX (pc := 1268) (M := mL_law) (as := [.ref 0, .int (xs.getD (nI (i + 1)).toNatClampNeg 0), .int (xs.getD (nI (i + 2)).toNatClampNeg 0), .ref o]) dL_law_1268 fw_L_size fl_L_249 fs_L_size rfl (c_L_size hs (d := d - 1) (by omega) hI (xs.getD (nI (i + 1)).toNatClampNeg 0) (xs.getD (nI (i + 2)).toNatClampNeg 0) (kc := 2) (ks := 12) (Nat.le_refl _) (Nat.le_refl _)) (by omega) (by omega) (by omega) (st := []) (Nat.le_of_ble_eq_true rfl) rfl (kr_I fun v1 w1 _ hI1 => ?_) kx_I
  refine J_istore (pc := 1271) dL_law_1271 (by decide) rfl ?_
  show J X mL_law d (kc - 2) (ks - 12) 1273 [some (.retAddr 0), some (.ref 0), some (.ref 19), some (.ref o), some (.int (nI i)), some (.int v1), none] [] w1 Q
  refine J_aload_n (pc := 1273) dL_law_1273 rfl rfl rfl ?_
  refine J_aload_n (pc := 1274) dL_law_1274 rfl rfl rfl ?_
  refine J_iload (pc := 1275) dL_law_1275 rfl ?_
  refine J_iconst (pc := 1277) (v := nI 1) dL_law_1277 (by decide) ?_
  refine J_iaddN (pc := 1278) dL_law_1278 ?_
  refine J_ialdO (pc := 1279) dL_law_1279 hX0 (nI_in (by omega) (by omega)) ?_
  refine J_aload_n (pc := 1280) dL_law_1280 rfl rfl rfl ?_
  refine J_iload (pc := 1281) dL_law_1281 rfl ?_
  refine J_iconst (pc := 1283) (v := nI 2) dL_law_1283 (by decide) ?_
  refine J_iaddN (pc := 1284) dL_law_1284 ?_
  refine J_ialdO (pc := 1285) dL_law_1285 hX0 (nI_in (by omega) (by omega)) ?_
  obtain ⟨f26, h26⟩ := hI1.c19
  refine J_callV (pc := 1286) (M := mL_law) (as := [.int (xs.getD (nI (i + 1)).toNatClampNeg 0), .int (xs.getD (nI (i + 2)).toNatClampNeg 0)]) dL_law_1286 fw_X8_size fl_L_251 fm_X8_size fe_X8_size h26 (by decide) rfl rfl rfl (vv_size hs (d := d - 1) (by omega) hI1 (xs.getD (nI (i + 1)).toNatClampNeg 0) (xs.getD (nI (i + 2)).toNatClampNeg 0) (kc := 13) (ks := 2054) (Nat.le_refl _) (Nat.le_refl _)) (by omega) (by omega) (by omega) (st := []) (Nat.le_of_ble_eq_true rfl) rfl (kr_I fun v26 w26 _ hI26 => ?_) kx_I
  refine J_istore (pc := 1289) dL_law_1289 (by decide) rfl ?_
  show J X mL_law d (kc - 2 - 13) (ks - 12 - 2054) 1291 [some (.retAddr 0), some (.ref 0), some (.ref 19), some (.ref o), some (.int (nI i)), some (.int v1), some (.int v26)] [] w26 Q
  refine J_goto (pc := 1291) (tgt := 2025) dL_law_1291 (by decide) ?_
  exact J_sub (L' := [some (.retAddr 0), some (.ref 0), some (.ref 19), some (.ref o), some (.int (nI i)), none, none]) ⟨rfl, rfl, rfl, rfl, rfl, trivial⟩ ((ih _ _ hI26).mono (by omega) (by omega) (fun _ _ h => h))
set_option maxRecDepth 100000 in
set_option maxHeartbeats 4000000 in
theorem s_26 {X : jX} (hs : X.1.stackTraces = false) (hXO : XO X) {xs : List Int32} (hX0 : X.2.2.2.2.2[0]? = some (.inl (0, xs))) (hX1 : xs.length ≤ 320) {d : Nat} (hd : 45 ≤ d) {o : Nat} {S : StX} {w : List jC} (hI : LI o S S w) {i : Nat} (hi : i + 5 ≤ xs.length) {kc ks : Nat} (hkc : 700 ≤ kc) (hks : 40000 ≤ ks) {Q : jQ} (ih : ∀ (S' : StX) (w' : List jC), LI o S' S' w' → J X mL_law d (kc - 700) (ks - 40000) 2025 [some (.retAddr 0), some (.ref 0), some (.ref 19), some (.ref o), some (.int (nI i)), none, none] [] w' Q) : J X mL_law d kc ks 1294 [some (.retAddr 0), some (.ref 0), some (.ref 19), some (.ref o), some (.int (nI i)), none, none] [] w Q := by
  refine J_aload_n (pc := 1294) dL_law_1294 rfl rfl rfl ?_
  refine J_aload_n (pc := 1295) dL_law_1295 rfl rfl rfl ?_
  refine J_iload (pc := 1296) dL_law_1296 rfl ?_
  refine J_iconst (pc := 1298) (v := nI 1) dL_law_1298 (by decide) ?_
  refine J_iaddN (pc := 1299) dL_law_1299 ?_
  refine J_ialdO (pc := 1300) dL_law_1300 hX0 (nI_in (by omega) (by omega)) ?_
  refine J_aload_n (pc := 1301) dL_law_1301 rfl rfl rfl ?_
  refine J_iload (pc := 1302) dL_law_1302 rfl ?_
  refine J_iconst (pc := 1304) (v := nI 2) dL_law_1304 (by decide) ?_
  refine J_iaddN (pc := 1305) dL_law_1305 ?_
  refine J_ialdO (pc := 1306) dL_law_1306 hX0 (nI_in (by omega) (by omega)) ?_
  refine J_aload_n (pc := 1307) dL_law_1307 rfl rfl rfl ?_
  refine J_iload (pc := 1308) dL_law_1308 rfl ?_
  refine J_iconst (pc := 1310) (v := nI 3) dL_law_1310 (by decide) ?_
  refine J_iaddN (pc := 1311) dL_law_1311 ?_
  refine J_ialdO (pc := 1312) dL_law_1312 hX0 (nI_in (by omega) (by omega)) ?_
  refine J_aload_n (pc := 1313) dL_law_1313 rfl rfl rfl ?_
  refine J_callSX (pc := 1314) (M := mL_law) (as := [.ref 0, .int (xs.getD (nI (i + 1)).toNatClampNeg 0), .int (xs.getD (nI (i + 2)).toNatClampNeg 0), .int (xs.getD (nI (i + 3)).toNatClampNeg 0), .ref o]) dL_law_1314 fw_L_reach fl_L_252 fs_L_reach rfl (c_L_reach hs (d := d - 1) (by omega) hI (xs.getD (nI (i + 1)).toNatClampNeg 0) (xs.getD (nI (i + 2)).toNatClampNeg 0) (xs.getD (nI (i + 3)).toNatClampNeg 0) (kc := 3) (ks := 18) (Nat.le_refl _) (Nat.le_refl _)) (by omega) (by omega) (by omega) (st := []) (Nat.le_of_ble_eq_true rfl) rfl (kr_I fun v1 w1 _ hI1 => ?_) kx_I
  refine J_istore (pc := 1317) dL_law_1317 (by decide) rfl ?_
  show J X mL_law d (kc - 3) (ks - 18) 1319 [some (.retAddr 0), some (.ref 0), some (.ref 19), some (.ref o), some (.int (nI i)), some (.int v1), none] [] w1 Q
  refine J_aload_n (pc := 1319) dL_law_1319 rfl rfl rfl ?_
  refine J_aload_n (pc := 1320) dL_law_1320 rfl rfl rfl ?_
  refine J_iload (pc := 1321) dL_law_1321 rfl ?_
  refine J_iconst (pc := 1323) (v := nI 1) dL_law_1323 (by decide) ?_
  refine J_iaddN (pc := 1324) dL_law_1324 ?_
  refine J_ialdO (pc := 1325) dL_law_1325 hX0 (nI_in (by omega) (by omega)) ?_
  refine J_aload_n (pc := 1326) dL_law_1326 rfl rfl rfl ?_
  refine J_iload (pc := 1327) dL_law_1327 rfl ?_
  refine J_iconst (pc := 1329) (v := nI 2) dL_law_1329 (by decide) ?_
  refine J_iaddN (pc := 1330) dL_law_1330 ?_
  refine J_ialdO (pc := 1331) dL_law_1331 hX0 (nI_in (by omega) (by omega)) ?_
  refine J_aload_n (pc := 1332) dL_law_1332 rfl rfl rfl ?_
  refine J_iload (pc := 1333) dL_law_1333 rfl ?_
  refine J_iconst (pc := 1335) (v := nI 3) dL_law_1335 (by decide) ?_
  refine J_iaddN (pc := 1336) dL_law_1336 ?_
  refine J_ialdO (pc := 1337) dL_law_1337 hX0 (nI_in (by omega) (by omega)) ?_
  obtain ⟨f36, h36⟩ := hI1.c19
  refine J_callV (pc := 1338) (M := mL_law) (as := [.int (xs.getD (nI (i + 1)).toNatClampNeg 0), .int (xs.getD (nI (i + 2)).toNatClampNeg 0), .int (xs.getD (nI (i + 3)).toNatClampNeg 0)]) dL_law_1338 fw_X8_reach fl_L_254 fm_X8_reach fe_X8_reach h36 (by decide) rfl rfl rfl (vv_reach hs (d := d - 1) (by omega) hI1 (xs.getD (nI (i + 1)).toNatClampNeg 0) (xs.getD (nI (i + 2)).toNatClampNeg 0) (xs.getD (nI (i + 3)).toNatClampNeg 0) (kc := 13) (ks := 2054) (Nat.le_refl _) (Nat.le_refl _)) (by omega) (by omega) (by omega) (st := []) (Nat.le_of_ble_eq_true rfl) rfl (kr_I fun v36 w36 _ hI36 => ?_) kx_I
  refine J_istore (pc := 1341) dL_law_1341 (by decide) rfl ?_
  show J X mL_law d (kc - 3 - 13) (ks - 18 - 2054) 1343 [some (.retAddr 0), some (.ref 0), some (.ref 19), some (.ref o), some (.int (nI i)), some (.int v1), some (.int v36)] [] w36 Q
  refine J_goto (pc := 1343) (tgt := 2025) dL_law_1343 (by decide) ?_
  exact J_sub (L' := [some (.retAddr 0), some (.ref 0), some (.ref 19), some (.ref o), some (.int (nI i)), none, none]) ⟨rfl, rfl, rfl, rfl, rfl, trivial⟩ ((ih _ _ hI36).mono (by omega) (by omega) (fun _ _ h => h))
set_option maxRecDepth 100000 in
set_option maxHeartbeats 4000000 in
theorem s_27 {X : jX} (hs : X.1.stackTraces = false) (hXO : XO X) {xs : List Int32} (hX0 : X.2.2.2.2.2[0]? = some (.inl (0, xs))) (hX1 : xs.length ≤ 320) {d : Nat} (hd : 45 ≤ d) {o : Nat} {S : StX} {w : List jC} (hI : LI o S S w) {i : Nat} (hi : i + 5 ≤ xs.length) {kc ks : Nat} (hkc : 700 ≤ kc) (hks : 40000 ≤ ks) {Q : jQ} (ih : ∀ (S' : StX) (w' : List jC), LI o S' S' w' → J X mL_law d (kc - 700) (ks - 40000) 2025 [some (.retAddr 0), some (.ref 0), some (.ref 19), some (.ref o), some (.int (nI i)), none, none] [] w' Q) : J X mL_law d kc ks 1346 [some (.retAddr 0), some (.ref 0), some (.ref 19), some (.ref o), some (.int (nI i)), none, none] [] w Q := by
  refine J_aload_n (pc := 1346) dL_law_1346 rfl rfl rfl ?_
  refine J_aload_n (pc := 1347) dL_law_1347 rfl rfl rfl ?_
  refine J_iload (pc := 1348) dL_law_1348 rfl ?_
  refine J_iconst (pc := 1350) (v := nI 1) dL_law_1350 (by decide) ?_
  refine J_iaddN (pc := 1351) dL_law_1351 ?_
  refine J_ialdO (pc := 1352) dL_law_1352 hX0 (nI_in (by omega) (by omega)) ?_
  refine J_aload_n (pc := 1353) dL_law_1353 rfl rfl rfl ?_
  refine J_iload (pc := 1354) dL_law_1354 rfl ?_
  refine J_iconst (pc := 1356) (v := nI 2) dL_law_1356 (by decide) ?_
  refine J_iaddN (pc := 1357) dL_law_1357 ?_
  refine J_ialdO (pc := 1358) dL_law_1358 hX0 (nI_in (by omega) (by omega)) ?_
  refine J_aload_n (pc := 1359) dL_law_1359 rfl rfl rfl ?_
  refine J_iload (pc := 1360) dL_law_1360 rfl ?_
  refine J_iconst (pc := 1362) (v := nI 3) dL_law_1362 (by decide) ?_
  refine J_iaddN (pc := 1363) dL_law_1363 ?_
  refine J_ialdO (pc := 1364) dL_law_1364 hX0 (nI_in (by omega) (by omega)) ?_
  refine J_aload_n (pc := 1365) dL_law_1365 rfl rfl rfl ?_
  refine J_callSX (pc := 1366) (M := mL_law) (as := [.ref 0, .int (xs.getD (nI (i + 1)).toNatClampNeg 0), .int (xs.getD (nI (i + 2)).toNatClampNeg 0), .int (xs.getD (nI (i + 3)).toNatClampNeg 0), .ref o]) dL_law_1366 fw_L_isIn fl_L_255 fs_L_isIn rfl (c_L_isIn hs (d := d - 1) (by omega) hI (xs.getD (nI (i + 1)).toNatClampNeg 0) (xs.getD (nI (i + 2)).toNatClampNeg 0) (xs.getD (nI (i + 3)).toNatClampNeg 0) (kc := 3) (ks := 18) (Nat.le_refl _) (Nat.le_refl _)) (by omega) (by omega) (by omega) (st := []) (Nat.le_of_ble_eq_true rfl) rfl (kr_I fun v1 w1 _ hI1 => ?_) kx_I
  refine J_istore (pc := 1369) dL_law_1369 (by decide) rfl ?_
  show J X mL_law d (kc - 3) (ks - 18) 1371 [some (.retAddr 0), some (.ref 0), some (.ref 19), some (.ref o), some (.int (nI i)), some (.int v1), none] [] w1 Q
  refine J_aload_n (pc := 1371) dL_law_1371 rfl rfl rfl ?_
  refine J_aload_n (pc := 1372) dL_law_1372 rfl rfl rfl ?_
  refine J_iload (pc := 1373) dL_law_1373 rfl ?_
  refine J_iconst (pc := 1375) (v := nI 1) dL_law_1375 (by decide) ?_
  refine J_iaddN (pc := 1376) dL_law_1376 ?_
  refine J_ialdO (pc := 1377) dL_law_1377 hX0 (nI_in (by omega) (by omega)) ?_
  refine J_aload_n (pc := 1378) dL_law_1378 rfl rfl rfl ?_
  refine J_iload (pc := 1379) dL_law_1379 rfl ?_
  refine J_iconst (pc := 1381) (v := nI 2) dL_law_1381 (by decide) ?_
  refine J_iaddN (pc := 1382) dL_law_1382 ?_
  refine J_ialdO (pc := 1383) dL_law_1383 hX0 (nI_in (by omega) (by omega)) ?_
  refine J_aload_n (pc := 1384) dL_law_1384 rfl rfl rfl ?_
  refine J_iload (pc := 1385) dL_law_1385 rfl ?_
  refine J_iconst (pc := 1387) (v := nI 3) dL_law_1387 (by decide) ?_
  refine J_iaddN (pc := 1388) dL_law_1388 ?_
  refine J_ialdO (pc := 1389) dL_law_1389 hX0 (nI_in (by omega) (by omega)) ?_
  obtain ⟨f36, h36⟩ := hI1.c19
  refine J_callV (pc := 1390) (M := mL_law) (as := [.int (xs.getD (nI (i + 1)).toNatClampNeg 0), .int (xs.getD (nI (i + 2)).toNatClampNeg 0), .int (xs.getD (nI (i + 3)).toNatClampNeg 0)]) dL_law_1390 fw_X8_isIn fl_L_257 fm_X8_isIn fe_X8_isIn h36 (by decide) rfl rfl rfl (vv_isIn hs (d := d - 1) (by omega) hI1 (xs.getD (nI (i + 1)).toNatClampNeg 0) (xs.getD (nI (i + 2)).toNatClampNeg 0) (xs.getD (nI (i + 3)).toNatClampNeg 0) (kc := 13) (ks := 2054) (Nat.le_refl _) (Nat.le_refl _)) (by omega) (by omega) (by omega) (st := []) (Nat.le_of_ble_eq_true rfl) rfl (kr_I fun v36 w36 _ hI36 => ?_) kx_I
  refine J_istore (pc := 1393) dL_law_1393 (by decide) rfl ?_
  show J X mL_law d (kc - 3 - 13) (ks - 18 - 2054) 1395 [some (.retAddr 0), some (.ref 0), some (.ref 19), some (.ref o), some (.int (nI i)), some (.int v1), some (.int v36)] [] w36 Q
  refine J_goto (pc := 1395) (tgt := 2025) dL_law_1395 (by decide) ?_
  exact J_sub (L' := [some (.retAddr 0), some (.ref 0), some (.ref 19), some (.ref o), some (.int (nI i)), none, none]) ⟨rfl, rfl, rfl, rfl, rfl, trivial⟩ ((ih _ _ hI36).mono (by omega) (by omega) (fun _ _ h => h))
set_option maxRecDepth 100000 in
set_option maxHeartbeats 4000000 in
theorem s_28 {X : jX} (hs : X.1.stackTraces = false) (hXO : XO X) {xs : List Int32} (hX0 : X.2.2.2.2.2[0]? = some (.inl (0, xs))) (hX1 : xs.length ≤ 320) {d : Nat} (hd : 45 ≤ d) {o : Nat} {S : StX} {w : List jC} (hI : LI o S S w) {i : Nat} (hi : i + 5 ≤ xs.length) {kc ks : Nat} (hkc : 700 ≤ kc) (hks : 40000 ≤ ks) {Q : jQ} (ih : ∀ (S' : StX) (w' : List jC), LI o S' S' w' → J X mL_law d (kc - 700) (ks - 40000) 2025 [some (.retAddr 0), some (.ref 0), some (.ref 19), some (.ref o), some (.int (nI i)), none, none] [] w' Q) : J X mL_law d kc ks 1398 [some (.retAddr 0), some (.ref 0), some (.ref 19), some (.ref o), some (.int (nI i)), none, none] [] w Q := by
  refine J_aload_n (pc := 1398) dL_law_1398 rfl rfl rfl ?_
  refine J_aload_n (pc := 1399) dL_law_1399 rfl rfl rfl ?_
  refine J_iload (pc := 1400) dL_law_1400 rfl ?_
  refine J_iconst (pc := 1402) (v := nI 1) dL_law_1402 (by decide) ?_
  refine J_iaddN (pc := 1403) dL_law_1403 ?_
  refine J_ialdO (pc := 1404) dL_law_1404 hX0 (nI_in (by omega) (by omega)) ?_
  refine J_aload_n (pc := 1405) dL_law_1405 rfl rfl rfl ?_
  refine J_iload (pc := 1406) dL_law_1406 rfl ?_
  refine J_iconst (pc := 1408) (v := nI 2) dL_law_1408 (by decide) ?_
  refine J_iaddN (pc := 1409) dL_law_1409 ?_
  refine J_ialdO (pc := 1410) dL_law_1410 hX0 (nI_in (by omega) (by omega)) ?_
  refine J_aload_n (pc := 1411) dL_law_1411 rfl rfl rfl ?_
  refine J_iload (pc := 1412) dL_law_1412 rfl ?_
  refine J_iconst (pc := 1414) (v := nI 3) dL_law_1414 (by decide) ?_
  refine J_iaddN (pc := 1415) dL_law_1415 ?_
  refine J_ialdO (pc := 1416) dL_law_1416 hX0 (nI_in (by omega) (by omega)) ?_
  refine J_aload_n (pc := 1417) dL_law_1417 rfl rfl rfl ?_
  refine J_callSX (pc := 1418) (M := mL_law) (as := [.ref 0, .int (xs.getD (nI (i + 1)).toNatClampNeg 0), .int (xs.getD (nI (i + 2)).toNatClampNeg 0), .int (xs.getD (nI (i + 3)).toNatClampNeg 0), .ref o]) dL_law_1418 fw_L_rank fl_L_258 fs_L_rank rfl (c_L_rank hs (d := d - 1) (by omega) hI (xs.getD (nI (i + 1)).toNatClampNeg 0) (xs.getD (nI (i + 2)).toNatClampNeg 0) (xs.getD (nI (i + 3)).toNatClampNeg 0) (kc := 3) (ks := 18) (Nat.le_refl _) (Nat.le_refl _)) (by omega) (by omega) (by omega) (st := []) (Nat.le_of_ble_eq_true rfl) rfl (kr_I fun v1 w1 _ hI1 => ?_) kx_I
  refine J_istore (pc := 1421) dL_law_1421 (by decide) rfl ?_
  show J X mL_law d (kc - 3) (ks - 18) 1423 [some (.retAddr 0), some (.ref 0), some (.ref 19), some (.ref o), some (.int (nI i)), some (.int v1), none] [] w1 Q
  refine J_aload_n (pc := 1423) dL_law_1423 rfl rfl rfl ?_
  refine J_aload_n (pc := 1424) dL_law_1424 rfl rfl rfl ?_
  refine J_iload (pc := 1425) dL_law_1425 rfl ?_
  refine J_iconst (pc := 1427) (v := nI 1) dL_law_1427 (by decide) ?_
  refine J_iaddN (pc := 1428) dL_law_1428 ?_
  refine J_ialdO (pc := 1429) dL_law_1429 hX0 (nI_in (by omega) (by omega)) ?_
  refine J_aload_n (pc := 1430) dL_law_1430 rfl rfl rfl ?_
  refine J_iload (pc := 1431) dL_law_1431 rfl ?_
  refine J_iconst (pc := 1433) (v := nI 2) dL_law_1433 (by decide) ?_
  refine J_iaddN (pc := 1434) dL_law_1434 ?_
  refine J_ialdO (pc := 1435) dL_law_1435 hX0 (nI_in (by omega) (by omega)) ?_
  refine J_aload_n (pc := 1436) dL_law_1436 rfl rfl rfl ?_
  refine J_iload (pc := 1437) dL_law_1437 rfl ?_
  refine J_iconst (pc := 1439) (v := nI 3) dL_law_1439 (by decide) ?_
  refine J_iaddN (pc := 1440) dL_law_1440 ?_
  refine J_ialdO (pc := 1441) dL_law_1441 hX0 (nI_in (by omega) (by omega)) ?_
  obtain ⟨f36, h36⟩ := hI1.c19
  refine J_callV (pc := 1442) (M := mL_law) (as := [.int (xs.getD (nI (i + 1)).toNatClampNeg 0), .int (xs.getD (nI (i + 2)).toNatClampNeg 0), .int (xs.getD (nI (i + 3)).toNatClampNeg 0)]) dL_law_1442 fw_X8_rank fl_L_260 fm_X8_rank fe_X8_rank h36 (by decide) rfl rfl rfl (vv_rank hs (d := d - 1) (by omega) hI1 (xs.getD (nI (i + 1)).toNatClampNeg 0) (xs.getD (nI (i + 2)).toNatClampNeg 0) (xs.getD (nI (i + 3)).toNatClampNeg 0) (kc := 13) (ks := 2054) (Nat.le_refl _) (Nat.le_refl _)) (by omega) (by omega) (by omega) (st := []) (Nat.le_of_ble_eq_true rfl) rfl (kr_I fun v36 w36 _ hI36 => ?_) kx_I
  refine J_istore (pc := 1445) dL_law_1445 (by decide) rfl ?_
  show J X mL_law d (kc - 3 - 13) (ks - 18 - 2054) 1447 [some (.retAddr 0), some (.ref 0), some (.ref 19), some (.ref o), some (.int (nI i)), some (.int v1), some (.int v36)] [] w36 Q
  refine J_goto (pc := 1447) (tgt := 2025) dL_law_1447 (by decide) ?_
  exact J_sub (L' := [some (.retAddr 0), some (.ref 0), some (.ref 19), some (.ref o), some (.int (nI i)), none, none]) ⟨rfl, rfl, rfl, rfl, rfl, trivial⟩ ((ih _ _ hI36).mono (by omega) (by omega) (fun _ _ h => h))
set_option maxRecDepth 100000 in
set_option maxHeartbeats 4000000 in
theorem s_29 {X : jX} (hs : X.1.stackTraces = false) (hXO : XO X) {xs : List Int32} (hX0 : X.2.2.2.2.2[0]? = some (.inl (0, xs))) (hX1 : xs.length ≤ 320) {d : Nat} (hd : 45 ≤ d) {o : Nat} {S : StX} {w : List jC} (hI : LI o S S w) {i : Nat} (hi : i + 5 ≤ xs.length) {kc ks : Nat} (hkc : 700 ≤ kc) (hks : 40000 ≤ ks) {Q : jQ} (ih : ∀ (S' : StX) (w' : List jC), LI o S' S' w' → J X mL_law d (kc - 700) (ks - 40000) 2025 [some (.retAddr 0), some (.ref 0), some (.ref 19), some (.ref o), some (.int (nI i)), none, none] [] w' Q) : J X mL_law d kc ks 1450 [some (.retAddr 0), some (.ref 0), some (.ref 19), some (.ref o), some (.int (nI i)), none, none] [] w Q := by
  refine J_aload_n (pc := 1450) dL_law_1450 rfl rfl rfl ?_
  refine J_aload_n (pc := 1451) dL_law_1451 rfl rfl rfl ?_
  refine J_iload (pc := 1452) dL_law_1452 rfl ?_
  refine J_iconst (pc := 1454) (v := nI 1) dL_law_1454 (by decide) ?_
  refine J_iaddN (pc := 1455) dL_law_1455 ?_
  refine J_ialdO (pc := 1456) dL_law_1456 hX0 (nI_in (by omega) (by omega)) ?_
  refine J_aload_n (pc := 1457) dL_law_1457 rfl rfl rfl ?_
  refine J_iload (pc := 1458) dL_law_1458 rfl ?_
  refine J_iconst (pc := 1460) (v := nI 2) dL_law_1460 (by decide) ?_
  refine J_iaddN (pc := 1461) dL_law_1461 ?_
  refine J_ialdO (pc := 1462) dL_law_1462 hX0 (nI_in (by omega) (by omega)) ?_
  refine J_aload_n (pc := 1463) dL_law_1463 rfl rfl rfl ?_
  refine J_callSX (pc := 1464) (M := mL_law) (as := [.ref 0, .int (xs.getD (nI (i + 1)).toNatClampNeg 0), .int (xs.getD (nI (i + 2)).toNatClampNeg 0), .ref o]) dL_law_1464 fw_L_list fl_L_261 fs_L_list rfl (c_L_list hs (d := d - 1) (by omega) hXO hI (xs.getD (nI (i + 1)).toNatClampNeg 0) (xs.getD (nI (i + 2)).toNatClampNeg 0) (kc := 40) (ks := 1500) (Nat.le_refl _) (Nat.le_refl _)) (by omega) (by omega) (by omega) (st := []) (Nat.le_of_ble_eq_true rfl) rfl (kr_I fun v1 w1 _ hI1 => ?_) kx_I
  refine J_istore (pc := 1467) dL_law_1467 (by decide) rfl ?_
  show J X mL_law d (kc - 40) (ks - 1500) 1469 [some (.retAddr 0), some (.ref 0), some (.ref 19), some (.ref o), some (.int (nI i)), some (.int v1), none] [] w1 Q
  refine J_aload_n (pc := 1469) dL_law_1469 rfl rfl rfl ?_
  refine J_aload_n (pc := 1470) dL_law_1470 rfl rfl rfl ?_
  refine J_iload (pc := 1471) dL_law_1471 rfl ?_
  refine J_iconst (pc := 1473) (v := nI 1) dL_law_1473 (by decide) ?_
  refine J_iaddN (pc := 1474) dL_law_1474 ?_
  refine J_ialdO (pc := 1475) dL_law_1475 hX0 (nI_in (by omega) (by omega)) ?_
  refine J_aload_n (pc := 1476) dL_law_1476 rfl rfl rfl ?_
  refine J_iload (pc := 1477) dL_law_1477 rfl ?_
  refine J_iconst (pc := 1479) (v := nI 2) dL_law_1479 (by decide) ?_
  refine J_iaddN (pc := 1480) dL_law_1480 ?_
  refine J_ialdO (pc := 1481) dL_law_1481 hX0 (nI_in (by omega) (by omega)) ?_
  obtain ⟨f26, h26⟩ := hI1.c19
  refine J_callV (pc := 1482) (M := mL_law) (as := [.int (xs.getD (nI (i + 1)).toNatClampNeg 0), .int (xs.getD (nI (i + 2)).toNatClampNeg 0)]) dL_law_1482 fw_X8_list fl_L_263 fm_X8_list fe_X8_list h26 (by decide) rfl rfl rfl (vv_list hs (d := d - 1) (by omega) hXO hI1 (xs.getD (nI (i + 1)).toNatClampNeg 0) (xs.getD (nI (i + 2)).toNatClampNeg 0) (kc := 55) (ks := 3600) (Nat.le_refl _) (Nat.le_refl _)) (by omega) (by omega) (by omega) (st := []) (Nat.le_of_ble_eq_true rfl) rfl (kr_S fun a26 w26 hj26 hI26 => ?_) kx_S
  refine J_astore (pc := 1485) dL_law_1485 (by decide) hj26 rfl ?_
  show J X mL_law d (kc - 40 - 55) (ks - 1500 - 3600) 1487 [some (.retAddr 0), some (.ref 0), some (.ref 19), some (.ref o), some (.int (nI i)), some (.int v1), some (a26)] [] w26 Q
  refine J_goto (pc := 1487) (tgt := 2025) dL_law_1487 (by decide) ?_
  exact J_sub (L' := [some (.retAddr 0), some (.ref 0), some (.ref 19), some (.ref o), some (.int (nI i)), none, none]) ⟨rfl, rfl, rfl, rfl, rfl, trivial⟩ ((ih _ _ hI26).mono (by omega) (by omega) (fun _ _ h => h))
set_option maxRecDepth 100000 in
set_option maxHeartbeats 4000000 in
theorem s_30 {X : jX} (hs : X.1.stackTraces = false) (hXO : XO X) {xs : List Int32} (hX0 : X.2.2.2.2.2[0]? = some (.inl (0, xs))) (hX1 : xs.length ≤ 320) {d : Nat} (hd : 45 ≤ d) {o : Nat} {S : StX} {w : List jC} (hI : LI o S S w) {i : Nat} (hi : i + 5 ≤ xs.length) {kc ks : Nat} (hkc : 700 ≤ kc) (hks : 40000 ≤ ks) {Q : jQ} (ih : ∀ (S' : StX) (w' : List jC), LI o S' S' w' → J X mL_law d (kc - 700) (ks - 40000) 2025 [some (.retAddr 0), some (.ref 0), some (.ref 19), some (.ref o), some (.int (nI i)), none, none] [] w' Q) : J X mL_law d kc ks 1490 [some (.retAddr 0), some (.ref 0), some (.ref 19), some (.ref o), some (.int (nI i)), none, none] [] w Q := by
  refine J_aload_n (pc := 1490) dL_law_1490 rfl rfl rfl ?_
  refine J_aload_n (pc := 1491) dL_law_1491 rfl rfl rfl ?_
  refine J_iload (pc := 1492) dL_law_1492 rfl ?_
  refine J_iconst (pc := 1494) (v := nI 1) dL_law_1494 (by decide) ?_
  refine J_iaddN (pc := 1495) dL_law_1495 ?_
  refine J_ialdO (pc := 1496) dL_law_1496 hX0 (nI_in (by omega) (by omega)) ?_
  refine J_aload_n (pc := 1497) dL_law_1497 rfl rfl rfl ?_
  refine J_iload (pc := 1498) dL_law_1498 rfl ?_
  refine J_iconst (pc := 1500) (v := nI 2) dL_law_1500 (by decide) ?_
  refine J_iaddN (pc := 1501) dL_law_1501 ?_
  refine J_ialdO (pc := 1502) dL_law_1502 hX0 (nI_in (by omega) (by omega)) ?_
  refine J_aload_n (pc := 1503) dL_law_1503 rfl rfl rfl ?_
  refine J_callSX (pc := 1504) (M := mL_law) (as := [.ref 0, .int (xs.getD (nI (i + 1)).toNatClampNeg 0), .int (xs.getD (nI (i + 2)).toNatClampNeg 0), .ref o]) dL_law_1504 fw_L_comes fl_L_264 fs_L_comes rfl (c_L_comes hs (d := d - 1) (by omega) hI (xs.getD (nI (i + 1)).toNatClampNeg 0) (xs.getD (nI (i + 2)).toNatClampNeg 0) (kc := 2) (ks := 12) (Nat.le_refl _) (Nat.le_refl _)) (by omega) (by omega) (by omega) (st := []) (Nat.le_of_ble_eq_true rfl) rfl (kr_I fun v1 w1 _ hI1 => ?_) kx_I
  refine J_istore (pc := 1507) dL_law_1507 (by decide) rfl ?_
  show J X mL_law d (kc - 2) (ks - 12) 1509 [some (.retAddr 0), some (.ref 0), some (.ref 19), some (.ref o), some (.int (nI i)), some (.int v1), none] [] w1 Q
  refine J_aload_n (pc := 1509) dL_law_1509 rfl rfl rfl ?_
  refine J_aload_n (pc := 1510) dL_law_1510 rfl rfl rfl ?_
  refine J_iload (pc := 1511) dL_law_1511 rfl ?_
  refine J_iconst (pc := 1513) (v := nI 1) dL_law_1513 (by decide) ?_
  refine J_iaddN (pc := 1514) dL_law_1514 ?_
  refine J_ialdO (pc := 1515) dL_law_1515 hX0 (nI_in (by omega) (by omega)) ?_
  refine J_aload_n (pc := 1516) dL_law_1516 rfl rfl rfl ?_
  refine J_iload (pc := 1517) dL_law_1517 rfl ?_
  refine J_iconst (pc := 1519) (v := nI 2) dL_law_1519 (by decide) ?_
  refine J_iaddN (pc := 1520) dL_law_1520 ?_
  refine J_ialdO (pc := 1521) dL_law_1521 hX0 (nI_in (by omega) (by omega)) ?_
  obtain ⟨f26, h26⟩ := hI1.c19
  refine J_callV0 (pc := 1522) (M := mL_law) (as := [.int (xs.getD (nI (i + 1)).toNatClampNeg 0), .int (xs.getD (nI (i + 2)).toNatClampNeg 0)]) dL_law_1522 fw_X8_comes fl_L_266 fm_X8_comes fe_X8_comes h26 (by decide) rfl rfl rfl (vv_comes hs (d := d - 1) (by omega) hI1 (xs.getD (nI (i + 1)).toNatClampNeg 0) (xs.getD (nI (i + 2)).toNatClampNeg 0) (kc := 0) (ks := 0)) (by omega) (st := []) (Nat.le_of_ble_eq_true rfl) rfl (kr_I fun v26 w26 _ hI26 => ?_) kx_I
  refine J_istore (pc := 1525) dL_law_1525 (by decide) rfl ?_
  show J X mL_law d (kc - 2) (ks - 12) 1527 [some (.retAddr 0), some (.ref 0), some (.ref 19), some (.ref o), some (.int (nI i)), some (.int v1), some (.int v26)] [] w26 Q
  refine J_goto (pc := 1527) (tgt := 2025) dL_law_1527 (by decide) ?_
  exact J_sub (L' := [some (.retAddr 0), some (.ref 0), some (.ref 19), some (.ref o), some (.int (nI i)), none, none]) ⟨rfl, rfl, rfl, rfl, rfl, trivial⟩ ((ih _ _ hI26).mono (by omega) (by omega) (fun _ _ h => h))
set_option maxRecDepth 100000 in
set_option maxHeartbeats 4000000 in
theorem s_31 {X : jX} (hs : X.1.stackTraces = false) (hXO : XO X) {xs : List Int32} (hX0 : X.2.2.2.2.2[0]? = some (.inl (0, xs))) (hX1 : xs.length ≤ 320) {d : Nat} (hd : 45 ≤ d) {o : Nat} {S : StX} {w : List jC} (hI : LI o S S w) {i : Nat} (hi : i + 5 ≤ xs.length) {kc ks : Nat} (hkc : 700 ≤ kc) (hks : 40000 ≤ ks) {Q : jQ} (ih : ∀ (S' : StX) (w' : List jC), LI o S' S' w' → J X mL_law d (kc - 700) (ks - 40000) 2025 [some (.retAddr 0), some (.ref 0), some (.ref 19), some (.ref o), some (.int (nI i)), none, none] [] w' Q) : J X mL_law d kc ks 1530 [some (.retAddr 0), some (.ref 0), some (.ref 19), some (.ref o), some (.int (nI i)), none, none] [] w Q := by
  refine J_aload_n (pc := 1530) dL_law_1530 rfl rfl rfl ?_
  refine J_aload_n (pc := 1531) dL_law_1531 rfl rfl rfl ?_
  refine J_iload (pc := 1532) dL_law_1532 rfl ?_
  refine J_iconst (pc := 1534) (v := nI 1) dL_law_1534 (by decide) ?_
  refine J_iaddN (pc := 1535) dL_law_1535 ?_
  refine J_ialdO (pc := 1536) dL_law_1536 hX0 (nI_in (by omega) (by omega)) ?_
  refine J_aload_n (pc := 1537) dL_law_1537 rfl rfl rfl ?_
  refine J_callSX (pc := 1538) (M := mL_law) (as := [.ref 0, .int (xs.getD (nI (i + 1)).toNatClampNeg 0), .ref o]) dL_law_1538 fw_L_pieces fl_L_267 fs_L_pieces rfl (c_L_pieces hs (d := d - 1) (by omega) hI (xs.getD (nI (i + 1)).toNatClampNeg 0) (kc := 1) (ks := 6) (Nat.le_refl _) (Nat.le_refl _)) (by omega) (by omega) (by omega) (st := []) (Nat.le_of_ble_eq_true rfl) rfl (kr_I fun v1 w1 _ hI1 => ?_) kx_I
  refine J_istore (pc := 1541) dL_law_1541 (by decide) rfl ?_
  show J X mL_law d (kc - 1) (ks - 6) 1543 [some (.retAddr 0), some (.ref 0), some (.ref 19), some (.ref o), some (.int (nI i)), some (.int v1), none] [] w1 Q
  refine J_aload_n (pc := 1543) dL_law_1543 rfl rfl rfl ?_
  refine J_aload_n (pc := 1544) dL_law_1544 rfl rfl rfl ?_
  refine J_iload (pc := 1545) dL_law_1545 rfl ?_
  refine J_iconst (pc := 1547) (v := nI 1) dL_law_1547 (by decide) ?_
  refine J_iaddN (pc := 1548) dL_law_1548 ?_
  refine J_ialdO (pc := 1549) dL_law_1549 hX0 (nI_in (by omega) (by omega)) ?_
  obtain ⟨f16, h16⟩ := hI1.c19
  refine J_callV0 (pc := 1550) (M := mL_law) (as := [.int (xs.getD (nI (i + 1)).toNatClampNeg 0)]) dL_law_1550 fw_X8_pieces fl_L_269 fm_X8_pieces fe_X8_pieces h16 (by decide) rfl rfl rfl (vv_pieces hs (d := d - 1) (by omega) hI1 (xs.getD (nI (i + 1)).toNatClampNeg 0) (kc := 0) (ks := 0)) (by omega) (st := []) (Nat.le_of_ble_eq_true rfl) rfl (kr_I fun v16 w16 _ hI16 => ?_) kx_I
  refine J_istore (pc := 1553) dL_law_1553 (by decide) rfl ?_
  show J X mL_law d (kc - 1) (ks - 6) 1555 [some (.retAddr 0), some (.ref 0), some (.ref 19), some (.ref o), some (.int (nI i)), some (.int v1), some (.int v16)] [] w16 Q
  refine J_goto (pc := 1555) (tgt := 2025) dL_law_1555 (by decide) ?_
  exact J_sub (L' := [some (.retAddr 0), some (.ref 0), some (.ref 19), some (.ref o), some (.int (nI i)), none, none]) ⟨rfl, rfl, rfl, rfl, rfl, trivial⟩ ((ih _ _ hI16).mono (by omega) (by omega) (fun _ _ h => h))
set_option maxRecDepth 100000 in
set_option maxHeartbeats 4000000 in
theorem s_32 {X : jX} (hs : X.1.stackTraces = false) (hXO : XO X) {xs : List Int32} (hX0 : X.2.2.2.2.2[0]? = some (.inl (0, xs))) (hX1 : xs.length ≤ 320) {d : Nat} (hd : 45 ≤ d) {o : Nat} {S : StX} {w : List jC} (hI : LI o S S w) {i : Nat} (hi : i + 5 ≤ xs.length) {kc ks : Nat} (hkc : 700 ≤ kc) (hks : 40000 ≤ ks) {Q : jQ} (ih : ∀ (S' : StX) (w' : List jC), LI o S' S' w' → J X mL_law d (kc - 700) (ks - 40000) 2025 [some (.retAddr 0), some (.ref 0), some (.ref 19), some (.ref o), some (.int (nI i)), none, none] [] w' Q) : J X mL_law d kc ks 1558 [some (.retAddr 0), some (.ref 0), some (.ref 19), some (.ref o), some (.int (nI i)), none, none] [] w Q := by
  refine J_aload_n (pc := 1558) dL_law_1558 rfl rfl rfl ?_
  refine J_aload_n (pc := 1559) dL_law_1559 rfl rfl rfl ?_
  refine J_iload (pc := 1560) dL_law_1560 rfl ?_
  refine J_iconst (pc := 1562) (v := nI 1) dL_law_1562 (by decide) ?_
  refine J_iaddN (pc := 1563) dL_law_1563 ?_
  refine J_ialdO (pc := 1564) dL_law_1564 hX0 (nI_in (by omega) (by omega)) ?_
  refine J_aload_n (pc := 1565) dL_law_1565 rfl rfl rfl ?_
  refine J_iload (pc := 1566) dL_law_1566 rfl ?_
  refine J_iconst (pc := 1568) (v := nI 2) dL_law_1568 (by decide) ?_
  refine J_iaddN (pc := 1569) dL_law_1569 ?_
  refine J_ialdO (pc := 1570) dL_law_1570 hX0 (nI_in (by omega) (by omega)) ?_
  refine J_aload_n (pc := 1571) dL_law_1571 rfl rfl rfl ?_
  refine J_callSX (pc := 1572) (M := mL_law) (as := [.ref 0, .int (xs.getD (nI (i + 1)).toNatClampNeg 0), .int (xs.getD (nI (i + 2)).toNatClampNeg 0), .ref o]) dL_law_1572 fw_L_withOrder fl_L_270 fs_L_withOrder rfl (c_L_withOrder hs (d := d - 1) (by omega) hI (xs.getD (nI (i + 1)).toNatClampNeg 0) (xs.getD (nI (i + 2)).toNatClampNeg 0) (kc := 2) (ks := 12) (Nat.le_refl _) (Nat.le_refl _)) (by omega) (by omega) (by omega) (st := []) (Nat.le_of_ble_eq_true rfl) rfl (kr_I fun v1 w1 _ hI1 => ?_) kx_I
  refine J_istore (pc := 1575) dL_law_1575 (by decide) rfl ?_
  show J X mL_law d (kc - 2) (ks - 12) 1577 [some (.retAddr 0), some (.ref 0), some (.ref 19), some (.ref o), some (.int (nI i)), some (.int v1), none] [] w1 Q
  refine J_aload_n (pc := 1577) dL_law_1577 rfl rfl rfl ?_
  refine J_aload_n (pc := 1578) dL_law_1578 rfl rfl rfl ?_
  refine J_iload (pc := 1579) dL_law_1579 rfl ?_
  refine J_iconst (pc := 1581) (v := nI 1) dL_law_1581 (by decide) ?_
  refine J_iaddN (pc := 1582) dL_law_1582 ?_
  refine J_ialdO (pc := 1583) dL_law_1583 hX0 (nI_in (by omega) (by omega)) ?_
  refine J_aload_n (pc := 1584) dL_law_1584 rfl rfl rfl ?_
  refine J_iload (pc := 1585) dL_law_1585 rfl ?_
  refine J_iconst (pc := 1587) (v := nI 2) dL_law_1587 (by decide) ?_
  refine J_iaddN (pc := 1588) dL_law_1588 ?_
  refine J_ialdO (pc := 1589) dL_law_1589 hX0 (nI_in (by omega) (by omega)) ?_
  obtain ⟨f26, h26⟩ := hI1.c19
  refine J_callV (pc := 1590) (M := mL_law) (as := [.int (xs.getD (nI (i + 1)).toNatClampNeg 0), .int (xs.getD (nI (i + 2)).toNatClampNeg 0)]) dL_law_1590 fw_X8_withOrder fl_L_272 fm_X8_withOrder fe_X8_withOrder h26 (by decide) rfl rfl rfl (vv_withOrder hs (d := d - 1) (by omega) hI1 (xs.getD (nI (i + 1)).toNatClampNeg 0) (xs.getD (nI (i + 2)).toNatClampNeg 0) (kc := 13) (ks := 2054) (Nat.le_refl _) (Nat.le_refl _)) (by omega) (by omega) (by omega) (st := []) (Nat.le_of_ble_eq_true rfl) rfl (kr_I fun v26 w26 _ hI26 => ?_) kx_I
  refine J_istore (pc := 1593) dL_law_1593 (by decide) rfl ?_
  show J X mL_law d (kc - 2 - 13) (ks - 12 - 2054) 1595 [some (.retAddr 0), some (.ref 0), some (.ref 19), some (.ref o), some (.int (nI i)), some (.int v1), some (.int v26)] [] w26 Q
  refine J_goto (pc := 1595) (tgt := 2025) dL_law_1595 (by decide) ?_
  exact J_sub (L' := [some (.retAddr 0), some (.ref 0), some (.ref 19), some (.ref o), some (.int (nI i)), none, none]) ⟨rfl, rfl, rfl, rfl, rfl, trivial⟩ ((ih _ _ hI26).mono (by omega) (by omega) (fun _ _ h => h))
set_option maxRecDepth 100000 in
set_option maxHeartbeats 4000000 in
theorem s_33 {X : jX} (hs : X.1.stackTraces = false) (hXO : XO X) {xs : List Int32} (hX0 : X.2.2.2.2.2[0]? = some (.inl (0, xs))) (hX1 : xs.length ≤ 320) {d : Nat} (hd : 45 ≤ d) {o : Nat} {S : StX} {w : List jC} (hI : LI o S S w) {i : Nat} (hi : i + 5 ≤ xs.length) {kc ks : Nat} (hkc : 700 ≤ kc) (hks : 40000 ≤ ks) {Q : jQ} (ih : ∀ (S' : StX) (w' : List jC), LI o S' S' w' → J X mL_law d (kc - 700) (ks - 40000) 2025 [some (.retAddr 0), some (.ref 0), some (.ref 19), some (.ref o), some (.int (nI i)), none, none] [] w' Q) : J X mL_law d kc ks 1598 [some (.retAddr 0), some (.ref 0), some (.ref 19), some (.ref o), some (.int (nI i)), none, none] [] w Q := by
  refine J_aload_n (pc := 1598) dL_law_1598 rfl rfl rfl ?_
  refine J_aload_n (pc := 1599) dL_law_1599 rfl rfl rfl ?_
  refine J_iload (pc := 1600) dL_law_1600 rfl ?_
  refine J_iconst (pc := 1602) (v := nI 1) dL_law_1602 (by decide) ?_
  refine J_iaddN (pc := 1603) dL_law_1603 ?_
  refine J_ialdO (pc := 1604) dL_law_1604 hX0 (nI_in (by omega) (by omega)) ?_
  refine J_aload_n (pc := 1605) dL_law_1605 rfl rfl rfl ?_
  refine J_callSX (pc := 1606) (M := mL_law) (as := [.ref 0, .int (xs.getD (nI (i + 1)).toNatClampNeg 0), .ref o]) dL_law_1606 fw_L_even fl_L_273 fs_L_even rfl (c_L_even hs (d := d - 1) (by omega) hI (xs.getD (nI (i + 1)).toNatClampNeg 0) (kc := 1) (ks := 6) (Nat.le_refl _) (Nat.le_refl _)) (by omega) (by omega) (by omega) (st := []) (Nat.le_of_ble_eq_true rfl) rfl (kr_I fun v1 w1 _ hI1 => ?_) kx_I
  refine J_istore (pc := 1609) dL_law_1609 (by decide) rfl ?_
  show J X mL_law d (kc - 1) (ks - 6) 1611 [some (.retAddr 0), some (.ref 0), some (.ref 19), some (.ref o), some (.int (nI i)), some (.int v1), none] [] w1 Q
  refine J_aload_n (pc := 1611) dL_law_1611 rfl rfl rfl ?_
  refine J_aload_n (pc := 1612) dL_law_1612 rfl rfl rfl ?_
  refine J_iload (pc := 1613) dL_law_1613 rfl ?_
  refine J_iconst (pc := 1615) (v := nI 1) dL_law_1615 (by decide) ?_
  refine J_iaddN (pc := 1616) dL_law_1616 ?_
  refine J_ialdO (pc := 1617) dL_law_1617 hX0 (nI_in (by omega) (by omega)) ?_
  obtain ⟨f16, h16⟩ := hI1.c19
  refine J_callV (pc := 1618) (M := mL_law) (as := [.int (xs.getD (nI (i + 1)).toNatClampNeg 0)]) dL_law_1618 fw_X8_even fl_L_275 fm_X8_even fe_X8_even h16 (by decide) rfl rfl rfl (vv_even hs (d := d - 1) (by omega) hI1 (xs.getD (nI (i + 1)).toNatClampNeg 0) (kc := 13) (ks := 2054) (Nat.le_refl _) (Nat.le_refl _)) (by omega) (by omega) (by omega) (st := []) (Nat.le_of_ble_eq_true rfl) rfl (kr_I fun v16 w16 _ hI16 => ?_) kx_I
  refine J_istore (pc := 1621) dL_law_1621 (by decide) rfl ?_
  show J X mL_law d (kc - 1 - 13) (ks - 6 - 2054) 1623 [some (.retAddr 0), some (.ref 0), some (.ref 19), some (.ref o), some (.int (nI i)), some (.int v1), some (.int v16)] [] w16 Q
  refine J_goto (pc := 1623) (tgt := 2025) dL_law_1623 (by decide) ?_
  exact J_sub (L' := [some (.retAddr 0), some (.ref 0), some (.ref 19), some (.ref o), some (.int (nI i)), none, none]) ⟨rfl, rfl, rfl, rfl, rfl, trivial⟩ ((ih _ _ hI16).mono (by omega) (by omega) (fun _ _ h => h))
set_option maxRecDepth 100000 in
set_option maxHeartbeats 4000000 in
theorem s_34 {X : jX} (hs : X.1.stackTraces = false) (hXO : XO X) {xs : List Int32} (hX0 : X.2.2.2.2.2[0]? = some (.inl (0, xs))) (hX1 : xs.length ≤ 320) {d : Nat} (hd : 45 ≤ d) {o : Nat} {S : StX} {w : List jC} (hI : LI o S S w) {i : Nat} (hi : i + 5 ≤ xs.length) {kc ks : Nat} (hkc : 700 ≤ kc) (hks : 40000 ≤ ks) {Q : jQ} (ih : ∀ (S' : StX) (w' : List jC), LI o S' S' w' → J X mL_law d (kc - 700) (ks - 40000) 2025 [some (.retAddr 0), some (.ref 0), some (.ref 19), some (.ref o), some (.int (nI i)), none, none] [] w' Q) : J X mL_law d kc ks 1626 [some (.retAddr 0), some (.ref 0), some (.ref 19), some (.ref o), some (.int (nI i)), none, none] [] w Q := by
  refine J_aload_n (pc := 1626) dL_law_1626 rfl rfl rfl ?_
  refine J_aload_n (pc := 1627) dL_law_1627 rfl rfl rfl ?_
  refine J_iload (pc := 1628) dL_law_1628 rfl ?_
  refine J_iconst (pc := 1630) (v := nI 1) dL_law_1630 (by decide) ?_
  refine J_iaddN (pc := 1631) dL_law_1631 ?_
  refine J_ialdO (pc := 1632) dL_law_1632 hX0 (nI_in (by omega) (by omega)) ?_
  refine J_aload_n (pc := 1633) dL_law_1633 rfl rfl rfl ?_
  refine J_iload (pc := 1634) dL_law_1634 rfl ?_
  refine J_iconst (pc := 1636) (v := nI 2) dL_law_1636 (by decide) ?_
  refine J_iaddN (pc := 1637) dL_law_1637 ?_
  refine J_ialdO (pc := 1638) dL_law_1638 hX0 (nI_in (by omega) (by omega)) ?_
  refine J_aload_n (pc := 1639) dL_law_1639 rfl rfl rfl ?_
  refine J_iload (pc := 1640) dL_law_1640 rfl ?_
  refine J_iconst (pc := 1642) (v := nI 3) dL_law_1642 (by decide) ?_
  refine J_iaddN (pc := 1643) dL_law_1643 ?_
  refine J_ialdO (pc := 1644) dL_law_1644 hX0 (nI_in (by omega) (by omega)) ?_
  refine J_aload_n (pc := 1645) dL_law_1645 rfl rfl rfl ?_
  refine J_callSX (pc := 1646) (M := mL_law) (as := [.ref 0, .int (xs.getD (nI (i + 1)).toNatClampNeg 0), .int (xs.getD (nI (i + 2)).toNatClampNeg 0), .int (xs.getD (nI (i + 3)).toNatClampNeg 0), .ref o]) dL_law_1646 fw_L_colourings fl_L_276 fs_L_colourings rfl (c_L_colourings hs (d := d - 1) (by omega) hI (xs.getD (nI (i + 1)).toNatClampNeg 0) (xs.getD (nI (i + 2)).toNatClampNeg 0) (xs.getD (nI (i + 3)).toNatClampNeg 0) (kc := 3) (ks := 18) (Nat.le_refl _) (Nat.le_refl _)) (by omega) (by omega) (by omega) (st := []) (Nat.le_of_ble_eq_true rfl) rfl (kr_I fun v1 w1 _ hI1 => ?_) kx_I
  refine J_istore (pc := 1649) dL_law_1649 (by decide) rfl ?_
  show J X mL_law d (kc - 3) (ks - 18) 1651 [some (.retAddr 0), some (.ref 0), some (.ref 19), some (.ref o), some (.int (nI i)), some (.int v1), none] [] w1 Q
  refine J_aload_n (pc := 1651) dL_law_1651 rfl rfl rfl ?_
  refine J_aload_n (pc := 1652) dL_law_1652 rfl rfl rfl ?_
  refine J_iload (pc := 1653) dL_law_1653 rfl ?_
  refine J_iconst (pc := 1655) (v := nI 1) dL_law_1655 (by decide) ?_
  refine J_iaddN (pc := 1656) dL_law_1656 ?_
  refine J_ialdO (pc := 1657) dL_law_1657 hX0 (nI_in (by omega) (by omega)) ?_
  refine J_aload_n (pc := 1658) dL_law_1658 rfl rfl rfl ?_
  refine J_iload (pc := 1659) dL_law_1659 rfl ?_
  refine J_iconst (pc := 1661) (v := nI 2) dL_law_1661 (by decide) ?_
  refine J_iaddN (pc := 1662) dL_law_1662 ?_
  refine J_ialdO (pc := 1663) dL_law_1663 hX0 (nI_in (by omega) (by omega)) ?_
  refine J_aload_n (pc := 1664) dL_law_1664 rfl rfl rfl ?_
  refine J_iload (pc := 1665) dL_law_1665 rfl ?_
  refine J_iconst (pc := 1667) (v := nI 3) dL_law_1667 (by decide) ?_
  refine J_iaddN (pc := 1668) dL_law_1668 ?_
  refine J_ialdO (pc := 1669) dL_law_1669 hX0 (nI_in (by omega) (by omega)) ?_
  obtain ⟨f36, h36⟩ := hI1.c19
  refine J_callV (pc := 1670) (M := mL_law) (as := [.int (xs.getD (nI (i + 1)).toNatClampNeg 0), .int (xs.getD (nI (i + 2)).toNatClampNeg 0), .int (xs.getD (nI (i + 3)).toNatClampNeg 0)]) dL_law_1670 fw_X8_colourings fl_L_278 fm_X8_colourings fe_X8_colourings h36 (by decide) rfl rfl rfl (vv_colourings hs (d := d - 1) (by omega) hI1 (xs.getD (nI (i + 1)).toNatClampNeg 0) (xs.getD (nI (i + 2)).toNatClampNeg 0) (xs.getD (nI (i + 3)).toNatClampNeg 0) (kc := 15) (ks := 6428) (Nat.le_refl _) (Nat.le_refl _)) (by omega) (by omega) (by omega) (st := []) (Nat.le_of_ble_eq_true rfl) rfl (kr_I fun v36 w36 _ hI36 => ?_) kx_I
  refine J_istore (pc := 1673) dL_law_1673 (by decide) rfl ?_
  show J X mL_law d (kc - 3 - 15) (ks - 18 - 6428) 1675 [some (.retAddr 0), some (.ref 0), some (.ref 19), some (.ref o), some (.int (nI i)), some (.int v1), some (.int v36)] [] w36 Q
  refine J_goto (pc := 1675) (tgt := 2025) dL_law_1675 (by decide) ?_
  exact J_sub (L' := [some (.retAddr 0), some (.ref 0), some (.ref 19), some (.ref o), some (.int (nI i)), none, none]) ⟨rfl, rfl, rfl, rfl, rfl, trivial⟩ ((ih _ _ hI36).mono (by omega) (by omega) (fun _ _ h => h))
set_option maxRecDepth 100000 in
set_option maxHeartbeats 4000000 in
theorem s_35 {X : jX} (hs : X.1.stackTraces = false) (hXO : XO X) {xs : List Int32} (hX0 : X.2.2.2.2.2[0]? = some (.inl (0, xs))) (hX1 : xs.length ≤ 320) {d : Nat} (hd : 45 ≤ d) {o : Nat} {S : StX} {w : List jC} (hI : LI o S S w) {i : Nat} (hi : i + 5 ≤ xs.length) {kc ks : Nat} (hkc : 700 ≤ kc) (hks : 40000 ≤ ks) {Q : jQ} (ih : ∀ (S' : StX) (w' : List jC), LI o S' S' w' → J X mL_law d (kc - 700) (ks - 40000) 2025 [some (.retAddr 0), some (.ref 0), some (.ref 19), some (.ref o), some (.int (nI i)), none, none] [] w' Q) : J X mL_law d kc ks 1678 [some (.retAddr 0), some (.ref 0), some (.ref 19), some (.ref o), some (.int (nI i)), none, none] [] w Q := by
  refine J_aload_n (pc := 1678) dL_law_1678 rfl rfl rfl ?_
  refine J_aload_n (pc := 1679) dL_law_1679 rfl rfl rfl ?_
  refine J_iload (pc := 1680) dL_law_1680 rfl ?_
  refine J_iconst (pc := 1682) (v := nI 1) dL_law_1682 (by decide) ?_
  refine J_iaddN (pc := 1683) dL_law_1683 ?_
  refine J_ialdO (pc := 1684) dL_law_1684 hX0 (nI_in (by omega) (by omega)) ?_
  refine J_aload_n (pc := 1685) dL_law_1685 rfl rfl rfl ?_
  refine J_iload (pc := 1686) dL_law_1686 rfl ?_
  refine J_iconst (pc := 1688) (v := nI 2) dL_law_1688 (by decide) ?_
  refine J_iaddN (pc := 1689) dL_law_1689 ?_
  refine J_ialdO (pc := 1690) dL_law_1690 hX0 (nI_in (by omega) (by omega)) ?_
  refine J_aload_n (pc := 1691) dL_law_1691 rfl rfl rfl ?_
  refine J_callSX (pc := 1692) (M := mL_law) (as := [.ref 0, .int (xs.getD (nI (i + 1)).toNatClampNeg 0), .int (xs.getD (nI (i + 2)).toNatClampNeg 0), .ref o]) dL_law_1692 fw_L_isPart fl_L_279 fs_L_isPart rfl (c_L_isPart hs (d := d - 1) (by omega) hI (xs.getD (nI (i + 1)).toNatClampNeg 0) (xs.getD (nI (i + 2)).toNatClampNeg 0) (kc := 2) (ks := 12) (Nat.le_refl _) (Nat.le_refl _)) (by omega) (by omega) (by omega) (st := []) (Nat.le_of_ble_eq_true rfl) rfl (kr_I fun v1 w1 _ hI1 => ?_) kx_I
  refine J_istore (pc := 1695) dL_law_1695 (by decide) rfl ?_
  show J X mL_law d (kc - 2) (ks - 12) 1697 [some (.retAddr 0), some (.ref 0), some (.ref 19), some (.ref o), some (.int (nI i)), some (.int v1), none] [] w1 Q
  refine J_aload_n (pc := 1697) dL_law_1697 rfl rfl rfl ?_
  refine J_aload_n (pc := 1698) dL_law_1698 rfl rfl rfl ?_
  refine J_iload (pc := 1699) dL_law_1699 rfl ?_
  refine J_iconst (pc := 1701) (v := nI 1) dL_law_1701 (by decide) ?_
  refine J_iaddN (pc := 1702) dL_law_1702 ?_
  refine J_ialdO (pc := 1703) dL_law_1703 hX0 (nI_in (by omega) (by omega)) ?_
  refine J_aload_n (pc := 1704) dL_law_1704 rfl rfl rfl ?_
  refine J_iload (pc := 1705) dL_law_1705 rfl ?_
  refine J_iconst (pc := 1707) (v := nI 2) dL_law_1707 (by decide) ?_
  refine J_iaddN (pc := 1708) dL_law_1708 ?_
  refine J_ialdO (pc := 1709) dL_law_1709 hX0 (nI_in (by omega) (by omega)) ?_
  obtain ⟨f26, h26⟩ := hI1.c19
  refine J_callV (pc := 1710) (M := mL_law) (as := [.int (xs.getD (nI (i + 1)).toNatClampNeg 0), .int (xs.getD (nI (i + 2)).toNatClampNeg 0)]) dL_law_1710 fw_X8_isPart fl_L_281 fm_X8_isPart fe_X8_isPart h26 (by decide) rfl rfl rfl (vv_isPart hs (d := d - 1) (by omega) hI1 (xs.getD (nI (i + 1)).toNatClampNeg 0) (xs.getD (nI (i + 2)).toNatClampNeg 0) (kc := 78) (ks := 12324) (Nat.le_refl _) (Nat.le_refl _)) (by omega) (by omega) (by omega) (st := []) (Nat.le_of_ble_eq_true rfl) rfl (kr_I fun v26 w26 _ hI26 => ?_) kx_I
  refine J_istore (pc := 1713) dL_law_1713 (by decide) rfl ?_
  show J X mL_law d (kc - 2 - 78) (ks - 12 - 12324) 1715 [some (.retAddr 0), some (.ref 0), some (.ref 19), some (.ref o), some (.int (nI i)), some (.int v1), some (.int v26)] [] w26 Q
  refine J_goto (pc := 1715) (tgt := 2025) dL_law_1715 (by decide) ?_
  exact J_sub (L' := [some (.retAddr 0), some (.ref 0), some (.ref 19), some (.ref o), some (.int (nI i)), none, none]) ⟨rfl, rfl, rfl, rfl, rfl, trivial⟩ ((ih _ _ hI26).mono (by omega) (by omega) (fun _ _ h => h))
set_option maxRecDepth 100000 in
set_option maxHeartbeats 4000000 in
theorem s_36 {X : jX} (hs : X.1.stackTraces = false) (hXO : XO X) {xs : List Int32} (hX0 : X.2.2.2.2.2[0]? = some (.inl (0, xs))) (hX1 : xs.length ≤ 320) {d : Nat} (hd : 45 ≤ d) {o : Nat} {S : StX} {w : List jC} (hI : LI o S S w) {i : Nat} (hi : i + 5 ≤ xs.length) {kc ks : Nat} (hkc : 700 ≤ kc) (hks : 40000 ≤ ks) {Q : jQ} (ih : ∀ (S' : StX) (w' : List jC), LI o S' S' w' → J X mL_law d (kc - 700) (ks - 40000) 2025 [some (.retAddr 0), some (.ref 0), some (.ref 19), some (.ref o), some (.int (nI i)), none, none] [] w' Q) : J X mL_law d kc ks 1718 [some (.retAddr 0), some (.ref 0), some (.ref 19), some (.ref o), some (.int (nI i)), none, none] [] w Q := by
  refine J_aload_n (pc := 1718) dL_law_1718 rfl rfl rfl ?_
  refine J_aload_n (pc := 1719) dL_law_1719 rfl rfl rfl ?_
  refine J_iload (pc := 1720) dL_law_1720 rfl ?_
  refine J_iconst (pc := 1722) (v := nI 1) dL_law_1722 (by decide) ?_
  refine J_iaddN (pc := 1723) dL_law_1723 ?_
  refine J_ialdO (pc := 1724) dL_law_1724 hX0 (nI_in (by omega) (by omega)) ?_
  refine J_aload_n (pc := 1725) dL_law_1725 rfl rfl rfl ?_
  refine J_iload (pc := 1726) dL_law_1726 rfl ?_
  refine J_iconst (pc := 1728) (v := nI 2) dL_law_1728 (by decide) ?_
  refine J_iaddN (pc := 1729) dL_law_1729 ?_
  refine J_ialdO (pc := 1730) dL_law_1730 hX0 (nI_in (by omega) (by omega)) ?_
  refine J_aload_n (pc := 1731) dL_law_1731 rfl rfl rfl ?_
  refine J_callSX (pc := 1732) (M := mL_law) (as := [.ref 0, .int (xs.getD (nI (i + 1)).toNatClampNeg 0), .int (xs.getD (nI (i + 2)).toNatClampNeg 0), .ref o]) dL_law_1732 fw_L_shares fl_L_282 fs_L_shares rfl (c_L_shares hs (d := d - 1) (by omega) hI (xs.getD (nI (i + 1)).toNatClampNeg 0) (xs.getD (nI (i + 2)).toNatClampNeg 0) (kc := 2) (ks := 12) (Nat.le_refl _) (Nat.le_refl _)) (by omega) (by omega) (by omega) (st := []) (Nat.le_of_ble_eq_true rfl) rfl (kr_I fun v1 w1 _ hI1 => ?_) kx_I
  refine J_istore (pc := 1735) dL_law_1735 (by decide) rfl ?_
  show J X mL_law d (kc - 2) (ks - 12) 1737 [some (.retAddr 0), some (.ref 0), some (.ref 19), some (.ref o), some (.int (nI i)), some (.int v1), none] [] w1 Q
  refine J_aload_n (pc := 1737) dL_law_1737 rfl rfl rfl ?_
  refine J_aload_n (pc := 1738) dL_law_1738 rfl rfl rfl ?_
  refine J_iload (pc := 1739) dL_law_1739 rfl ?_
  refine J_iconst (pc := 1741) (v := nI 1) dL_law_1741 (by decide) ?_
  refine J_iaddN (pc := 1742) dL_law_1742 ?_
  refine J_ialdO (pc := 1743) dL_law_1743 hX0 (nI_in (by omega) (by omega)) ?_
  refine J_aload_n (pc := 1744) dL_law_1744 rfl rfl rfl ?_
  refine J_iload (pc := 1745) dL_law_1745 rfl ?_
  refine J_iconst (pc := 1747) (v := nI 2) dL_law_1747 (by decide) ?_
  refine J_iaddN (pc := 1748) dL_law_1748 ?_
  refine J_ialdO (pc := 1749) dL_law_1749 hX0 (nI_in (by omega) (by omega)) ?_
  obtain ⟨f26, h26⟩ := hI1.c19
  refine J_callV (pc := 1750) (M := mL_law) (as := [.int (xs.getD (nI (i + 1)).toNatClampNeg 0), .int (xs.getD (nI (i + 2)).toNatClampNeg 0)]) dL_law_1750 fw_X8_shares fl_L_284 fm_X8_shares fe_X8_shares h26 (by decide) rfl rfl rfl (vv_shares hs (d := d - 1) (by omega) hI1 (xs.getD (nI (i + 1)).toNatClampNeg 0) (xs.getD (nI (i + 2)).toNatClampNeg 0) (kc := 104) (ks := 16432) (Nat.le_refl _) (Nat.le_refl _)) (by omega) (by omega) (by omega) (st := []) (Nat.le_of_ble_eq_true rfl) rfl (kr_I fun v26 w26 _ hI26 => ?_) kx_I
  refine J_istore (pc := 1753) dL_law_1753 (by decide) rfl ?_
  show J X mL_law d (kc - 2 - 104) (ks - 12 - 16432) 1755 [some (.retAddr 0), some (.ref 0), some (.ref 19), some (.ref o), some (.int (nI i)), some (.int v1), some (.int v26)] [] w26 Q
  refine J_goto (pc := 1755) (tgt := 2025) dL_law_1755 (by decide) ?_
  exact J_sub (L' := [some (.retAddr 0), some (.ref 0), some (.ref 19), some (.ref o), some (.int (nI i)), none, none]) ⟨rfl, rfl, rfl, rfl, rfl, trivial⟩ ((ih _ _ hI26).mono (by omega) (by omega) (fun _ _ h => h))
set_option maxRecDepth 100000 in
set_option maxHeartbeats 4000000 in
theorem s_37 {X : jX} (hs : X.1.stackTraces = false) (hXO : XO X) {xs : List Int32} (hX0 : X.2.2.2.2.2[0]? = some (.inl (0, xs))) (hX1 : xs.length ≤ 320) {d : Nat} (hd : 45 ≤ d) {o : Nat} {S : StX} {w : List jC} (hI : LI o S S w) {i : Nat} (hi : i + 5 ≤ xs.length) {kc ks : Nat} (hkc : 700 ≤ kc) (hks : 40000 ≤ ks) {Q : jQ} (ih : ∀ (S' : StX) (w' : List jC), LI o S' S' w' → J X mL_law d (kc - 700) (ks - 40000) 2025 [some (.retAddr 0), some (.ref 0), some (.ref 19), some (.ref o), some (.int (nI i)), none, none] [] w' Q) : J X mL_law d kc ks 1758 [some (.retAddr 0), some (.ref 0), some (.ref 19), some (.ref o), some (.int (nI i)), none, none] [] w Q := by
  refine J_aload_n (pc := 1758) dL_law_1758 rfl rfl rfl ?_
  refine J_aload_n (pc := 1759) dL_law_1759 rfl rfl rfl ?_
  refine J_iload (pc := 1760) dL_law_1760 rfl ?_
  refine J_iconst (pc := 1762) (v := nI 1) dL_law_1762 (by decide) ?_
  refine J_iaddN (pc := 1763) dL_law_1763 ?_
  refine J_ialdO (pc := 1764) dL_law_1764 hX0 (nI_in (by omega) (by omega)) ?_
  refine J_aload_n (pc := 1765) dL_law_1765 rfl rfl rfl ?_
  refine J_iload (pc := 1766) dL_law_1766 rfl ?_
  refine J_iconst (pc := 1768) (v := nI 2) dL_law_1768 (by decide) ?_
  refine J_iaddN (pc := 1769) dL_law_1769 ?_
  refine J_ialdO (pc := 1770) dL_law_1770 hX0 (nI_in (by omega) (by omega)) ?_
  refine J_aload_n (pc := 1771) dL_law_1771 rfl rfl rfl ?_
  refine J_callSX (pc := 1772) (M := mL_law) (as := [.ref 0, .int (xs.getD (nI (i + 1)).toNatClampNeg 0), .int (xs.getD (nI (i + 2)).toNatClampNeg 0), .ref o]) dL_law_1772 fw_L_share fl_L_285 fs_L_share rfl (c_L_share hs (d := d - 1) (by omega) hI (xs.getD (nI (i + 1)).toNatClampNeg 0) (xs.getD (nI (i + 2)).toNatClampNeg 0) (kc := 2) (ks := 12) (Nat.le_refl _) (Nat.le_refl _)) (by omega) (by omega) (by omega) (st := []) (Nat.le_of_ble_eq_true rfl) rfl (kr_I fun v1 w1 _ hI1 => ?_) kx_I
  refine J_istore (pc := 1775) dL_law_1775 (by decide) rfl ?_
  show J X mL_law d (kc - 2) (ks - 12) 1777 [some (.retAddr 0), some (.ref 0), some (.ref 19), some (.ref o), some (.int (nI i)), some (.int v1), none] [] w1 Q
  refine J_aload_n (pc := 1777) dL_law_1777 rfl rfl rfl ?_
  refine J_aload_n (pc := 1778) dL_law_1778 rfl rfl rfl ?_
  refine J_iload (pc := 1779) dL_law_1779 rfl ?_
  refine J_iconst (pc := 1781) (v := nI 1) dL_law_1781 (by decide) ?_
  refine J_iaddN (pc := 1782) dL_law_1782 ?_
  refine J_ialdO (pc := 1783) dL_law_1783 hX0 (nI_in (by omega) (by omega)) ?_
  refine J_aload_n (pc := 1784) dL_law_1784 rfl rfl rfl ?_
  refine J_iload (pc := 1785) dL_law_1785 rfl ?_
  refine J_iconst (pc := 1787) (v := nI 2) dL_law_1787 (by decide) ?_
  refine J_iaddN (pc := 1788) dL_law_1788 ?_
  refine J_ialdO (pc := 1789) dL_law_1789 hX0 (nI_in (by omega) (by omega)) ?_
  obtain ⟨f26, h26⟩ := hI1.c19
  refine J_callV (pc := 1790) (M := mL_law) (as := [.int (xs.getD (nI (i + 1)).toNatClampNeg 0), .int (xs.getD (nI (i + 2)).toNatClampNeg 0)]) dL_law_1790 fw_X8_share fl_L_287 fm_X8_share fe_X8_share h26 (by decide) rfl rfl rfl (vv_share hs (d := d - 1) (by omega) hI1 (xs.getD (nI (i + 1)).toNatClampNeg 0) (xs.getD (nI (i + 2)).toNatClampNeg 0) (kc := 13) (ks := 2054) (Nat.le_refl _) (Nat.le_refl _)) (by omega) (by omega) (by omega) (st := []) (Nat.le_of_ble_eq_true rfl) rfl (kr_I fun v26 w26 _ hI26 => ?_) kx_I
  refine J_istore (pc := 1793) dL_law_1793 (by decide) rfl ?_
  show J X mL_law d (kc - 2 - 13) (ks - 12 - 2054) 1795 [some (.retAddr 0), some (.ref 0), some (.ref 19), some (.ref o), some (.int (nI i)), some (.int v1), some (.int v26)] [] w26 Q
  refine J_goto (pc := 1795) (tgt := 2025) dL_law_1795 (by decide) ?_
  exact J_sub (L' := [some (.retAddr 0), some (.ref 0), some (.ref 19), some (.ref o), some (.int (nI i)), none, none]) ⟨rfl, rfl, rfl, rfl, rfl, trivial⟩ ((ih _ _ hI26).mono (by omega) (by omega) (fun _ _ h => h))
set_option maxRecDepth 100000 in
set_option maxHeartbeats 4000000 in
theorem s_38 {X : jX} (hs : X.1.stackTraces = false) (hXO : XO X) {xs : List Int32} (hX0 : X.2.2.2.2.2[0]? = some (.inl (0, xs))) (hX1 : xs.length ≤ 320) {d : Nat} (hd : 45 ≤ d) {o : Nat} {S : StX} {w : List jC} (hI : LI o S S w) {i : Nat} (hi : i + 5 ≤ xs.length) {kc ks : Nat} (hkc : 700 ≤ kc) (hks : 40000 ≤ ks) {Q : jQ} (ih : ∀ (S' : StX) (w' : List jC), LI o S' S' w' → J X mL_law d (kc - 700) (ks - 40000) 2025 [some (.retAddr 0), some (.ref 0), some (.ref 19), some (.ref o), some (.int (nI i)), none, none] [] w' Q) : J X mL_law d kc ks 1798 [some (.retAddr 0), some (.ref 0), some (.ref 19), some (.ref o), some (.int (nI i)), none, none] [] w Q := by
  refine J_aload_n (pc := 1798) dL_law_1798 rfl rfl rfl ?_
  refine J_aload_n (pc := 1799) dL_law_1799 rfl rfl rfl ?_
  refine J_iload (pc := 1800) dL_law_1800 rfl ?_
  refine J_iconst (pc := 1802) (v := nI 1) dL_law_1802 (by decide) ?_
  refine J_iaddN (pc := 1803) dL_law_1803 ?_
  refine J_ialdO (pc := 1804) dL_law_1804 hX0 (nI_in (by omega) (by omega)) ?_
  refine J_aload_n (pc := 1805) dL_law_1805 rfl rfl rfl ?_
  refine J_iload (pc := 1806) dL_law_1806 rfl ?_
  refine J_iconst (pc := 1808) (v := nI 2) dL_law_1808 (by decide) ?_
  refine J_iaddN (pc := 1809) dL_law_1809 ?_
  refine J_ialdO (pc := 1810) dL_law_1810 hX0 (nI_in (by omega) (by omega)) ?_
  refine J_aload_n (pc := 1811) dL_law_1811 rfl rfl rfl ?_
  refine J_iload (pc := 1812) dL_law_1812 rfl ?_
  refine J_iconst (pc := 1814) (v := nI 3) dL_law_1814 (by decide) ?_
  refine J_iaddN (pc := 1815) dL_law_1815 ?_
  refine J_ialdO (pc := 1816) dL_law_1816 hX0 (nI_in (by omega) (by omega)) ?_
  refine J_aload_n (pc := 1817) dL_law_1817 rfl rfl rfl ?_
  refine J_callSX (pc := 1818) (M := mL_law) (as := [.ref 0, .int (xs.getD (nI (i + 1)).toNatClampNeg 0), .int (xs.getD (nI (i + 2)).toNatClampNeg 0), .int (xs.getD (nI (i + 3)).toNatClampNeg 0), .ref o]) dL_law_1818 fw_L_together fl_L_288 fs_L_together rfl (c_L_together hs (d := d - 1) (by omega) hI (xs.getD (nI (i + 1)).toNatClampNeg 0) (xs.getD (nI (i + 2)).toNatClampNeg 0) (xs.getD (nI (i + 3)).toNatClampNeg 0) (kc := 3) (ks := 18) (Nat.le_refl _) (Nat.le_refl _)) (by omega) (by omega) (by omega) (st := []) (Nat.le_of_ble_eq_true rfl) rfl (kr_I fun v1 w1 _ hI1 => ?_) kx_I
  refine J_istore (pc := 1821) dL_law_1821 (by decide) rfl ?_
  show J X mL_law d (kc - 3) (ks - 18) 1823 [some (.retAddr 0), some (.ref 0), some (.ref 19), some (.ref o), some (.int (nI i)), some (.int v1), none] [] w1 Q
  refine J_aload_n (pc := 1823) dL_law_1823 rfl rfl rfl ?_
  refine J_aload_n (pc := 1824) dL_law_1824 rfl rfl rfl ?_
  refine J_iload (pc := 1825) dL_law_1825 rfl ?_
  refine J_iconst (pc := 1827) (v := nI 1) dL_law_1827 (by decide) ?_
  refine J_iaddN (pc := 1828) dL_law_1828 ?_
  refine J_ialdO (pc := 1829) dL_law_1829 hX0 (nI_in (by omega) (by omega)) ?_
  refine J_aload_n (pc := 1830) dL_law_1830 rfl rfl rfl ?_
  refine J_iload (pc := 1831) dL_law_1831 rfl ?_
  refine J_iconst (pc := 1833) (v := nI 2) dL_law_1833 (by decide) ?_
  refine J_iaddN (pc := 1834) dL_law_1834 ?_
  refine J_ialdO (pc := 1835) dL_law_1835 hX0 (nI_in (by omega) (by omega)) ?_
  refine J_aload_n (pc := 1836) dL_law_1836 rfl rfl rfl ?_
  refine J_iload (pc := 1837) dL_law_1837 rfl ?_
  refine J_iconst (pc := 1839) (v := nI 3) dL_law_1839 (by decide) ?_
  refine J_iaddN (pc := 1840) dL_law_1840 ?_
  refine J_ialdO (pc := 1841) dL_law_1841 hX0 (nI_in (by omega) (by omega)) ?_
  obtain ⟨f36, h36⟩ := hI1.c19
  refine J_callV0 (pc := 1842) (M := mL_law) (as := [.int (xs.getD (nI (i + 1)).toNatClampNeg 0), .int (xs.getD (nI (i + 2)).toNatClampNeg 0), .int (xs.getD (nI (i + 3)).toNatClampNeg 0)]) dL_law_1842 fw_X8_together fl_L_290 fm_X8_together fe_X8_together h36 (by decide) rfl rfl rfl (vv_together hs (d := d - 1) (by omega) hI1 (xs.getD (nI (i + 1)).toNatClampNeg 0) (xs.getD (nI (i + 2)).toNatClampNeg 0) (xs.getD (nI (i + 3)).toNatClampNeg 0) (kc := 0) (ks := 0)) (by omega) (st := []) (Nat.le_of_ble_eq_true rfl) rfl (kr_I fun v36 w36 _ hI36 => ?_) kx_I
  refine J_istore (pc := 1845) dL_law_1845 (by decide) rfl ?_
  show J X mL_law d (kc - 3) (ks - 18) 1847 [some (.retAddr 0), some (.ref 0), some (.ref 19), some (.ref o), some (.int (nI i)), some (.int v1), some (.int v36)] [] w36 Q
  refine J_goto (pc := 1847) (tgt := 2025) dL_law_1847 (by decide) ?_
  exact J_sub (L' := [some (.retAddr 0), some (.ref 0), some (.ref 19), some (.ref o), some (.int (nI i)), none, none]) ⟨rfl, rfl, rfl, rfl, rfl, trivial⟩ ((ih _ _ hI36).mono (by omega) (by omega) (fun _ _ h => h))
set_option maxRecDepth 100000 in
set_option maxHeartbeats 4000000 in
theorem s_39 {X : jX} (hs : X.1.stackTraces = false) (hXO : XO X) {xs : List Int32} (hX0 : X.2.2.2.2.2[0]? = some (.inl (0, xs))) (hX1 : xs.length ≤ 320) {d : Nat} (hd : 45 ≤ d) {o : Nat} {S : StX} {w : List jC} (hI : LI o S S w) {i : Nat} (hi : i + 5 ≤ xs.length) {kc ks : Nat} (hkc : 700 ≤ kc) (hks : 40000 ≤ ks) {Q : jQ} (ih : ∀ (S' : StX) (w' : List jC), LI o S' S' w' → J X mL_law d (kc - 700) (ks - 40000) 2025 [some (.retAddr 0), some (.ref 0), some (.ref 19), some (.ref o), some (.int (nI i)), none, none] [] w' Q) : J X mL_law d kc ks 1850 [some (.retAddr 0), some (.ref 0), some (.ref 19), some (.ref o), some (.int (nI i)), none, none] [] w Q := by
  refine J_aload_n (pc := 1850) dL_law_1850 rfl rfl rfl ?_
  refine J_aload_n (pc := 1851) dL_law_1851 rfl rfl rfl ?_
  refine J_iload (pc := 1852) dL_law_1852 rfl ?_
  refine J_iconst (pc := 1854) (v := nI 1) dL_law_1854 (by decide) ?_
  refine J_iaddN (pc := 1855) dL_law_1855 ?_
  refine J_ialdO (pc := 1856) dL_law_1856 hX0 (nI_in (by omega) (by omega)) ?_
  refine J_aload_n (pc := 1857) dL_law_1857 rfl rfl rfl ?_
  refine J_iload (pc := 1858) dL_law_1858 rfl ?_
  refine J_iconst (pc := 1860) (v := nI 2) dL_law_1860 (by decide) ?_
  refine J_iaddN (pc := 1861) dL_law_1861 ?_
  refine J_ialdO (pc := 1862) dL_law_1862 hX0 (nI_in (by omega) (by omega)) ?_
  refine J_aload_n (pc := 1863) dL_law_1863 rfl rfl rfl ?_
  refine J_iload (pc := 1864) dL_law_1864 rfl ?_
  refine J_iconst (pc := 1866) (v := nI 3) dL_law_1866 (by decide) ?_
  refine J_iaddN (pc := 1867) dL_law_1867 ?_
  refine J_ialdO (pc := 1868) dL_law_1868 hX0 (nI_in (by omega) (by omega)) ?_
  refine J_aload_n (pc := 1869) dL_law_1869 rfl rfl rfl ?_
  refine J_callSX (pc := 1870) (M := mL_law) (as := [.ref 0, .int (xs.getD (nI (i + 1)).toNatClampNeg 0), .int (xs.getD (nI (i + 2)).toNatClampNeg 0), .int (xs.getD (nI (i + 3)).toNatClampNeg 0), .ref o]) dL_law_1870 fw_L_blocks fl_L_291 fs_L_blocks rfl (c_L_blocks hs (d := d - 1) (by omega) hI (xs.getD (nI (i + 1)).toNatClampNeg 0) (xs.getD (nI (i + 2)).toNatClampNeg 0) (xs.getD (nI (i + 3)).toNatClampNeg 0) (kc := 3) (ks := 18) (Nat.le_refl _) (Nat.le_refl _)) (by omega) (by omega) (by omega) (st := []) (Nat.le_of_ble_eq_true rfl) rfl (kr_I fun v1 w1 _ hI1 => ?_) kx_I
  refine J_istore (pc := 1873) dL_law_1873 (by decide) rfl ?_
  show J X mL_law d (kc - 3) (ks - 18) 1875 [some (.retAddr 0), some (.ref 0), some (.ref 19), some (.ref o), some (.int (nI i)), some (.int v1), none] [] w1 Q
  refine J_aload_n (pc := 1875) dL_law_1875 rfl rfl rfl ?_
  refine J_aload_n (pc := 1876) dL_law_1876 rfl rfl rfl ?_
  refine J_iload (pc := 1877) dL_law_1877 rfl ?_
  refine J_iconst (pc := 1879) (v := nI 1) dL_law_1879 (by decide) ?_
  refine J_iaddN (pc := 1880) dL_law_1880 ?_
  refine J_ialdO (pc := 1881) dL_law_1881 hX0 (nI_in (by omega) (by omega)) ?_
  refine J_aload_n (pc := 1882) dL_law_1882 rfl rfl rfl ?_
  refine J_iload (pc := 1883) dL_law_1883 rfl ?_
  refine J_iconst (pc := 1885) (v := nI 2) dL_law_1885 (by decide) ?_
  refine J_iaddN (pc := 1886) dL_law_1886 ?_
  refine J_ialdO (pc := 1887) dL_law_1887 hX0 (nI_in (by omega) (by omega)) ?_
  refine J_aload_n (pc := 1888) dL_law_1888 rfl rfl rfl ?_
  refine J_iload (pc := 1889) dL_law_1889 rfl ?_
  refine J_iconst (pc := 1891) (v := nI 3) dL_law_1891 (by decide) ?_
  refine J_iaddN (pc := 1892) dL_law_1892 ?_
  refine J_ialdO (pc := 1893) dL_law_1893 hX0 (nI_in (by omega) (by omega)) ?_
  obtain ⟨f36, h36⟩ := hI1.c19
  refine J_callV0 (pc := 1894) (M := mL_law) (as := [.int (xs.getD (nI (i + 1)).toNatClampNeg 0), .int (xs.getD (nI (i + 2)).toNatClampNeg 0), .int (xs.getD (nI (i + 3)).toNatClampNeg 0)]) dL_law_1894 fw_X8_blocks fl_L_293 fm_X8_blocks fe_X8_blocks h36 (by decide) rfl rfl rfl (vv_blocks hs (d := d - 1) (by omega) hI1 (xs.getD (nI (i + 1)).toNatClampNeg 0) (xs.getD (nI (i + 2)).toNatClampNeg 0) (xs.getD (nI (i + 3)).toNatClampNeg 0) (kc := 0) (ks := 0)) (by omega) (st := []) (Nat.le_of_ble_eq_true rfl) rfl (kr_I fun v36 w36 _ hI36 => ?_) kx_I
  refine J_istore (pc := 1897) dL_law_1897 (by decide) rfl ?_
  show J X mL_law d (kc - 3) (ks - 18) 1899 [some (.retAddr 0), some (.ref 0), some (.ref 19), some (.ref o), some (.int (nI i)), some (.int v1), some (.int v36)] [] w36 Q
  refine J_goto (pc := 1899) (tgt := 2025) dL_law_1899 (by decide) ?_
  exact J_sub (L' := [some (.retAddr 0), some (.ref 0), some (.ref 19), some (.ref o), some (.int (nI i)), none, none]) ⟨rfl, rfl, rfl, rfl, rfl, trivial⟩ ((ih _ _ hI36).mono (by omega) (by omega) (fun _ _ h => h))
set_option maxRecDepth 100000 in
set_option maxHeartbeats 4000000 in
theorem s_40 {X : jX} (hs : X.1.stackTraces = false) (hXO : XO X) {xs : List Int32} (hX0 : X.2.2.2.2.2[0]? = some (.inl (0, xs))) (hX1 : xs.length ≤ 320) {d : Nat} (hd : 45 ≤ d) {o : Nat} {S : StX} {w : List jC} (hI : LI o S S w) {i : Nat} (hi : i + 5 ≤ xs.length) {kc ks : Nat} (hkc : 700 ≤ kc) (hks : 40000 ≤ ks) {Q : jQ} (ih : ∀ (S' : StX) (w' : List jC), LI o S' S' w' → J X mL_law d (kc - 700) (ks - 40000) 2025 [some (.retAddr 0), some (.ref 0), some (.ref 19), some (.ref o), some (.int (nI i)), none, none] [] w' Q) : J X mL_law d kc ks 1902 [some (.retAddr 0), some (.ref 0), some (.ref 19), some (.ref o), some (.int (nI i)), none, none] [] w Q := by
  refine J_aload_n (pc := 1902) dL_law_1902 rfl rfl rfl ?_
  refine J_aload_n (pc := 1903) dL_law_1903 rfl rfl rfl ?_
  refine J_iload (pc := 1904) dL_law_1904 rfl ?_
  refine J_iconst (pc := 1906) (v := nI 1) dL_law_1906 (by decide) ?_
  refine J_iaddN (pc := 1907) dL_law_1907 ?_
  refine J_ialdO (pc := 1908) dL_law_1908 hX0 (nI_in (by omega) (by omega)) ?_
  refine J_aload_n (pc := 1909) dL_law_1909 rfl rfl rfl ?_
  refine J_callSX (pc := 1910) (M := mL_law) (as := [.ref 0, .int (xs.getD (nI (i + 1)).toNatClampNeg 0), .ref o]) dL_law_1910 fw_L_isTwofold fl_L_294 fs_L_isTwofold rfl (c_L_isTwofold hs (d := d - 1) (by omega) hI (xs.getD (nI (i + 1)).toNatClampNeg 0) (kc := 1) (ks := 6) (Nat.le_refl _) (Nat.le_refl _)) (by omega) (by omega) (by omega) (st := []) (Nat.le_of_ble_eq_true rfl) rfl (kr_I fun v1 w1 _ hI1 => ?_) kx_I
  refine J_istore (pc := 1913) dL_law_1913 (by decide) rfl ?_
  show J X mL_law d (kc - 1) (ks - 6) 1915 [some (.retAddr 0), some (.ref 0), some (.ref 19), some (.ref o), some (.int (nI i)), some (.int v1), none] [] w1 Q
  refine J_aload_n (pc := 1915) dL_law_1915 rfl rfl rfl ?_
  refine J_aload_n (pc := 1916) dL_law_1916 rfl rfl rfl ?_
  refine J_iload (pc := 1917) dL_law_1917 rfl ?_
  refine J_iconst (pc := 1919) (v := nI 1) dL_law_1919 (by decide) ?_
  refine J_iaddN (pc := 1920) dL_law_1920 ?_
  refine J_ialdO (pc := 1921) dL_law_1921 hX0 (nI_in (by omega) (by omega)) ?_
  obtain ⟨f16, h16⟩ := hI1.c19
  refine J_callV (pc := 1922) (M := mL_law) (as := [.int (xs.getD (nI (i + 1)).toNatClampNeg 0)]) dL_law_1922 fw_X8_isTwofold fl_L_296 fm_X8_isTwofold fe_X8_isTwofold h16 (by decide) rfl rfl rfl (vv_isTwofold hs (d := d - 1) (by omega) hI1 (xs.getD (nI (i + 1)).toNatClampNeg 0) (kc := 1) (ks := 49) (Nat.le_refl _) (Nat.le_refl _)) (by omega) (by omega) (by omega) (st := []) (Nat.le_of_ble_eq_true rfl) rfl (kr_I fun v16 w16 _ hI16 => ?_) kx_I
  refine J_istore (pc := 1925) dL_law_1925 (by decide) rfl ?_
  show J X mL_law d (kc - 1 - 1) (ks - 6 - 49) 1927 [some (.retAddr 0), some (.ref 0), some (.ref 19), some (.ref o), some (.int (nI i)), some (.int v1), some (.int v16)] [] w16 Q
  refine J_goto (pc := 1927) (tgt := 2025) dL_law_1927 (by decide) ?_
  exact J_sub (L' := [some (.retAddr 0), some (.ref 0), some (.ref 19), some (.ref o), some (.int (nI i)), none, none]) ⟨rfl, rfl, rfl, rfl, rfl, trivial⟩ ((ih _ _ hI16).mono (by omega) (by omega) (fun _ _ h => h))
set_option maxRecDepth 100000 in
set_option maxHeartbeats 4000000 in
theorem s_41 {X : jX} (hs : X.1.stackTraces = false) (hXO : XO X) {xs : List Int32} (hX0 : X.2.2.2.2.2[0]? = some (.inl (0, xs))) (hX1 : xs.length ≤ 320) {d : Nat} (hd : 45 ≤ d) {o : Nat} {S : StX} {w : List jC} (hI : LI o S S w) {i : Nat} (hi : i + 5 ≤ xs.length) {kc ks : Nat} (hkc : 700 ≤ kc) (hks : 40000 ≤ ks) {Q : jQ} (ih : ∀ (S' : StX) (w' : List jC), LI o S' S' w' → J X mL_law d (kc - 700) (ks - 40000) 2025 [some (.retAddr 0), some (.ref 0), some (.ref 19), some (.ref o), some (.int (nI i)), none, none] [] w' Q) : J X mL_law d kc ks 1930 [some (.retAddr 0), some (.ref 0), some (.ref 19), some (.ref o), some (.int (nI i)), none, none] [] w Q := by
  refine J_aload_n (pc := 1930) dL_law_1930 rfl rfl rfl ?_
  refine J_aload_n (pc := 1931) dL_law_1931 rfl rfl rfl ?_
  refine J_iload (pc := 1932) dL_law_1932 rfl ?_
  refine J_iconst (pc := 1934) (v := nI 1) dL_law_1934 (by decide) ?_
  refine J_iaddN (pc := 1935) dL_law_1935 ?_
  refine J_ialdO (pc := 1936) dL_law_1936 hX0 (nI_in (by omega) (by omega)) ?_
  refine J_aload_n (pc := 1937) dL_law_1937 rfl rfl rfl ?_
  refine J_callSX (pc := 1938) (M := mL_law) (as := [.ref 0, .int (xs.getD (nI (i + 1)).toNatClampNeg 0), .ref o]) dL_law_1938 fw_L_enough fl_L_297 fs_L_enough rfl (c_L_enough hs (d := d - 1) (by omega) hI (xs.getD (nI (i + 1)).toNatClampNeg 0) (kc := 1) (ks := 6) (Nat.le_refl _) (Nat.le_refl _)) (by omega) (by omega) (by omega) (st := []) (Nat.le_of_ble_eq_true rfl) rfl (kr_I fun v1 w1 _ hI1 => ?_) kx_I
  refine J_istore (pc := 1941) dL_law_1941 (by decide) rfl ?_
  show J X mL_law d (kc - 1) (ks - 6) 1943 [some (.retAddr 0), some (.ref 0), some (.ref 19), some (.ref o), some (.int (nI i)), some (.int v1), none] [] w1 Q
  refine J_aload_n (pc := 1943) dL_law_1943 rfl rfl rfl ?_
  refine J_aload_n (pc := 1944) dL_law_1944 rfl rfl rfl ?_
  refine J_iload (pc := 1945) dL_law_1945 rfl ?_
  refine J_iconst (pc := 1947) (v := nI 1) dL_law_1947 (by decide) ?_
  refine J_iaddN (pc := 1948) dL_law_1948 ?_
  refine J_ialdO (pc := 1949) dL_law_1949 hX0 (nI_in (by omega) (by omega)) ?_
  obtain ⟨f16, h16⟩ := hI1.c19
  refine J_callV (pc := 1950) (M := mL_law) (as := [.int (xs.getD (nI (i + 1)).toNatClampNeg 0)]) dL_law_1950 fw_X8_enough fl_L_299 fm_X8_enough fe_X8_enough h16 (by decide) rfl rfl rfl (vv_enough hs (d := d - 1) (by omega) hI1 (xs.getD (nI (i + 1)).toNatClampNeg 0) (kc := 13) (ks := 2054) (Nat.le_refl _) (Nat.le_refl _)) (by omega) (by omega) (by omega) (st := []) (Nat.le_of_ble_eq_true rfl) rfl (kr_I fun v16 w16 _ hI16 => ?_) kx_I
  refine J_istore (pc := 1953) dL_law_1953 (by decide) rfl ?_
  show J X mL_law d (kc - 1 - 13) (ks - 6 - 2054) 1955 [some (.retAddr 0), some (.ref 0), some (.ref 19), some (.ref o), some (.int (nI i)), some (.int v1), some (.int v16)] [] w16 Q
  refine J_goto (pc := 1955) (tgt := 2025) dL_law_1955 (by decide) ?_
  exact J_sub (L' := [some (.retAddr 0), some (.ref 0), some (.ref 19), some (.ref o), some (.int (nI i)), none, none]) ⟨rfl, rfl, rfl, rfl, rfl, trivial⟩ ((ih _ _ hI16).mono (by omega) (by omega) (fun _ _ h => h))
set_option maxRecDepth 100000 in
set_option maxHeartbeats 4000000 in
theorem s_42 {X : jX} (hs : X.1.stackTraces = false) (hXO : XO X) {xs : List Int32} (hX0 : X.2.2.2.2.2[0]? = some (.inl (0, xs))) (hX1 : xs.length ≤ 320) {d : Nat} (hd : 45 ≤ d) {o : Nat} {S : StX} {w : List jC} (hI : LI o S S w) {i : Nat} (hi : i + 5 ≤ xs.length) {kc ks : Nat} (hkc : 700 ≤ kc) (hks : 40000 ≤ ks) {Q : jQ} (ih : ∀ (S' : StX) (w' : List jC), LI o S' S' w' → J X mL_law d (kc - 700) (ks - 40000) 2025 [some (.retAddr 0), some (.ref 0), some (.ref 19), some (.ref o), some (.int (nI i)), none, none] [] w' Q) : J X mL_law d kc ks 1958 [some (.retAddr 0), some (.ref 0), some (.ref 19), some (.ref o), some (.int (nI i)), none, none] [] w Q := by
  refine J_aload_n (pc := 1958) dL_law_1958 rfl rfl rfl ?_
  refine J_aload_n (pc := 1959) dL_law_1959 rfl rfl rfl ?_
  refine J_iload (pc := 1960) dL_law_1960 rfl ?_
  refine J_iconst (pc := 1962) (v := nI 1) dL_law_1962 (by decide) ?_
  refine J_iaddN (pc := 1963) dL_law_1963 ?_
  refine J_ialdO (pc := 1964) dL_law_1964 hX0 (nI_in (by omega) (by omega)) ?_
  refine J_aload_n (pc := 1965) dL_law_1965 rfl rfl rfl ?_
  refine J_callSX (pc := 1966) (M := mL_law) (as := [.ref 0, .int (xs.getD (nI (i + 1)).toNatClampNeg 0), .ref o]) dL_law_1966 fw_L_house fl_L_300 fs_L_house rfl (c_L_house hs (d := d - 1) (by omega) hI (xs.getD (nI (i + 1)).toNatClampNeg 0) (kc := 1) (ks := 6) (Nat.le_refl _) (Nat.le_refl _)) (by omega) (by omega) (by omega) (st := []) (Nat.le_of_ble_eq_true rfl) rfl (kr_J fun v1 w1 hv1 => ?_) kx_J
  obtain ⟨k1, x1, S1, hA1, hv1, hI1, hO1⟩ := hv1
  subst hv1
  refine J_istore (pc := 1969) dL_law_1969 (by decide) rfl ?_
  show J X mL_law d (kc - 1) (ks - 6) 1971 [some (.retAddr 0), some (.ref 0), some (.ref 19), some (.ref o), some (.int (nI i)), some (.int (nI k1)), none] [] w1 Q
  refine J_aload_n (pc := 1971) dL_law_1971 rfl rfl rfl ?_
  refine J_aload_n (pc := 1972) dL_law_1972 rfl rfl rfl ?_
  refine J_iload (pc := 1973) dL_law_1973 rfl ?_
  refine J_iconst (pc := 1975) (v := nI 1) dL_law_1975 (by decide) ?_
  refine J_iaddN (pc := 1976) dL_law_1976 ?_
  refine J_ialdO (pc := 1977) dL_law_1977 hX0 (nI_in (by omega) (by omega)) ?_
  obtain ⟨f16, h16⟩ := hI1.c19
  refine J_callV0 (pc := 1978) (M := mL_law) (as := [.int (xs.getD (nI (i + 1)).toNatClampNeg 0)]) dL_law_1978 fw_X8_house fl_L_302 fm_X8_house fe_X8_house h16 (by decide) rfl rfl rfl (vv_house hs (d := d - 1) (by omega) hI1 (xs.getD (nI (i + 1)).toNatClampNeg 0) (kc := 0) (ks := 0)) (by omega) (st := []) (Nat.le_of_ble_eq_true rfl) rfl (kr_J fun v2 w2 hv2 => ?_) kx_J
  obtain ⟨k2, S2, hA2, hI2, hO2⟩ := hv2
  obtain ⟨h1, h7, hM⟩ := hI.bd
  obtain ⟨rfl, rfl⟩ := AG.same (fun v v' x y h h' => (fD_house h1 h7 hM (xs.getD (nI (i + 1)).toNatClampNeg 0) v v' x y h h').1) hA1 hA2
  have hI3 : LI o S1 S1 w2 := ⟨_, hI2⟩
  refine J_istore (pc := 1981) dL_law_1981 (by decide) rfl ?_
  show J X mL_law d (kc - 1) (ks - 6) 1983 [some (.retAddr 0), some (.ref 0), some (.ref 19), some (.ref o), some (.int (nI i)), some (.int (nI k1)), some (.int v2)] [] w2 Q
  refine J_goto (pc := 1983) (tgt := 2025) dL_law_1983 (by decide) ?_
  exact J_sub (L' := [some (.retAddr 0), some (.ref 0), some (.ref 19), some (.ref o), some (.int (nI i)), none, none]) ⟨rfl, rfl, rfl, rfl, rfl, trivial⟩ ((ih _ _ hI3).mono (by omega) (by omega) (fun _ _ h => h))
set_option maxRecDepth 100000 in
set_option maxHeartbeats 4000000 in
theorem s_43 {X : jX} (hs : X.1.stackTraces = false) (hXO : XO X) {xs : List Int32} (hX0 : X.2.2.2.2.2[0]? = some (.inl (0, xs))) (hX1 : xs.length ≤ 320) {d : Nat} (hd : 45 ≤ d) {o : Nat} {S : StX} {w : List jC} (hI : LI o S S w) {i : Nat} (hi : i + 5 ≤ xs.length) {kc ks : Nat} (hkc : 700 ≤ kc) (hks : 40000 ≤ ks) {Q : jQ} (ih : ∀ (S' : StX) (w' : List jC), LI o S' S' w' → J X mL_law d (kc - 700) (ks - 40000) 2025 [some (.retAddr 0), some (.ref 0), some (.ref 19), some (.ref o), some (.int (nI i)), none, none] [] w' Q) : J X mL_law d kc ks 1986 [some (.retAddr 0), some (.ref 0), some (.ref 19), some (.ref o), some (.int (nI i)), none, none] [] w Q := by
  refine J_aload_n (pc := 1986) dL_law_1986 rfl rfl rfl ?_
  obtain ⟨f2, h2⟩ := hI.c0
  refine J_callV0 (pc := 1987) (M := mL_law) (as := []) dL_law_1987 fw_X6_knock fl_L_303 fm_X6_knock fe_X6_knock h2 (by decide) rfl rfl rfl (uu_knock hs (d := d - 1) (by omega) hI (kc := 0) (ks := 0)) (by omega) (st := []) (Nat.le_of_ble_eq_true rfl) rfl (kr_I fun v2 w2 _ hI2 => ?_) kx_I
  refine J_pop (pc := 1990) dL_law_1990 rfl ?_
  refine J_aload_n (pc := 1991) dL_law_1991 rfl rfl rfl ?_
  obtain ⟨f5, h5⟩ := hI2.c19
  refine J_callV0 (pc := 1992) (M := mL_law) (as := []) dL_law_1992 fw_X8_knock fl_L_306 fm_X8_knock fe_X8_knock h5 (by decide) rfl rfl rfl (vv_knock hs (d := d - 1) (by omega) hI2 (kc := 0) (ks := 0)) (by omega) (st := []) (Nat.le_of_ble_eq_true rfl) rfl (kr_I fun v5 w5 _ hI5 => ?_) kx_I
  refine J_pop (pc := 1995) dL_law_1995 rfl ?_
  refine J_goto (pc := 1996) (tgt := 2025) dL_law_1996 (by decide) ?_
  exact J_sub (L' := [some (.retAddr 0), some (.ref 0), some (.ref 19), some (.ref o), some (.int (nI i)), none, none]) ⟨rfl, rfl, rfl, rfl, rfl, trivial⟩ ((ih _ _ hI5).mono (by omega) (by omega) (fun _ _ h => h))
set_option maxRecDepth 100000 in
set_option maxHeartbeats 4000000 in
theorem s_44 {X : jX} (hs : X.1.stackTraces = false) (hXO : XO X) {xs : List Int32} (hX0 : X.2.2.2.2.2[0]? = some (.inl (0, xs))) (hX1 : xs.length ≤ 320) {d : Nat} (hd : 45 ≤ d) {o : Nat} {S : StX} {w : List jC} (hI : LI o S S w) {i : Nat} (hi : i + 5 ≤ xs.length) {kc ks : Nat} (hkc : 700 ≤ kc) (hks : 40000 ≤ ks) {Q : jQ} (ih : ∀ (S' : StX) (w' : List jC), LI o S' S' w' → J X mL_law d (kc - 700) (ks - 40000) 2025 [some (.retAddr 0), some (.ref 0), some (.ref 19), some (.ref o), some (.int (nI i)), none, none] [] w' Q) : J X mL_law d kc ks 1999 [some (.retAddr 0), some (.ref 0), some (.ref 19), some (.ref o), some (.int (nI i)), none, none] [] w Q := by
  refine J_aload_n (pc := 1999) dL_law_1999 rfl rfl rfl ?_
  obtain ⟨f2, h2⟩ := hI.c0
  refine J_callV0 (pc := 2000) (M := mL_law) (as := []) dL_law_2000 fw_X6_isSound fl_L_307 fm_X6_isSound fe_X6_isSound h2 (by decide) rfl rfl rfl (uu_isSound hs (d := d - 1) (by omega) hI (kc := 0) (ks := 0)) (by omega) (st := []) (Nat.le_of_ble_eq_true rfl) rfl (kr_I fun v2 w2 _ hI2 => ?_) kx_I
  refine J_pop (pc := 2003) dL_law_2003 rfl ?_
  refine J_aload_n (pc := 2004) dL_law_2004 rfl rfl rfl ?_
  obtain ⟨f5, h5⟩ := hI2.c19
  refine J_callV (pc := 2005) (M := mL_law) (as := []) dL_law_2005 fw_X8_isSound fl_L_311 fm_X8_isSound fe_X8_isSound h5 (by decide) rfl rfl rfl (vv_isSound hs (d := d - 1) (by omega) hI2 (kc := 15) (ks := 6428) (Nat.le_refl _) (Nat.le_refl _)) (by omega) (by omega) (by omega) (st := []) (Nat.le_of_ble_eq_true rfl) rfl (kr_I fun v5 w5 _ hI5 => ?_) kx_I
  refine J_pop (pc := 2008) dL_law_2008 rfl ?_
  refine J_goto (pc := 2009) (tgt := 2025) dL_law_2009 (by decide) ?_
  exact J_sub (L' := [some (.retAddr 0), some (.ref 0), some (.ref 19), some (.ref o), some (.int (nI i)), none, none]) ⟨rfl, rfl, rfl, rfl, rfl, trivial⟩ ((ih _ _ hI5).mono (by omega) (by omega) (fun _ _ h => h))
set_option maxRecDepth 100000 in
set_option maxHeartbeats 4000000 in
theorem s_45 {X : jX} (hs : X.1.stackTraces = false) (hXO : XO X) {xs : List Int32} (hX0 : X.2.2.2.2.2[0]? = some (.inl (0, xs))) (hX1 : xs.length ≤ 320) {d : Nat} (hd : 45 ≤ d) {o : Nat} {S : StX} {w : List jC} (hI : LI o S S w) {i : Nat} (hi : i + 5 ≤ xs.length) {kc ks : Nat} (hkc : 700 ≤ kc) (hks : 40000 ≤ ks) {Q : jQ} (ih : ∀ (S' : StX) (w' : List jC), LI o S' S' w' → J X mL_law d (kc - 700) (ks - 40000) 2025 [some (.retAddr 0), some (.ref 0), some (.ref 19), some (.ref o), some (.int (nI i)), none, none] [] w' Q) : J X mL_law d kc ks 2012 [some (.retAddr 0), some (.ref 0), some (.ref 19), some (.ref o), some (.int (nI i)), none, none] [] w Q := by
  refine J_aload_n (pc := 2012) dL_law_2012 rfl rfl rfl ?_
  obtain ⟨f2, h2⟩ := hI.c0
  refine J_callV (pc := 2013) (M := mL_law) (as := []) dL_law_2013 fw_X6_digest fl_L_312 fm_X6_digest fe_X6_digest h2 (by decide) rfl rfl rfl (uu_digest hs (d := d - 1) (by omega) hXO hI (kc := 250) (ks := 9100) (Nat.le_refl _) (Nat.le_refl _)) (by omega) (by omega) (by omega) (st := []) (Nat.le_of_ble_eq_true rfl) rfl (kr_L fun v2 w2 _ hI2 => ?_) kx_L
  refine J_pop2 (pc := 2016) dL_law_2016 rfl ?_
  refine J_aload_n (pc := 2017) dL_law_2017 rfl rfl rfl ?_
  obtain ⟨f5, h5⟩ := hI2.c19
  refine J_callV (pc := 2018) (M := mL_law) (as := []) dL_law_2018 fw_X8_digest fl_L_316 fm_X8_digest fe_X8_digest h5 (by decide) rfl rfl rfl (vv_digest hs (d := d - 1) (by omega) hXO hI2 (kc := 330) (ks := 26000) (Nat.le_refl _) (Nat.le_refl _)) (by omega) (by omega) (by omega) (st := []) (Nat.le_of_ble_eq_true rfl) rfl (kr_L fun v5 w5 _ hI5 => ?_) kx_L
  refine J_pop2 (pc := 2021) dL_law_2021 rfl ?_
  refine J_goto (pc := 2022) (tgt := 2025) dL_law_2022 (by decide) ?_
  exact J_sub (L' := [some (.retAddr 0), some (.ref 0), some (.ref 19), some (.ref o), some (.int (nI i)), none, none]) ⟨rfl, rfl, rfl, rfl, rfl, trivial⟩ ((ih _ _ hI5).mono (by omega) (by omega) (fun _ _ h => h))
end
section
/-! the law's loop -/
theorem df_X6 {X : jX} : ∀ j, j < 9 → defaultValue (tyX6 j) = vp_V (([.null, .null, .null, .null, .null, .int (nI 0), .int (nI 0), .int (nI 0), .int (nI 0)] : List Value).map (jT X)) j := by
  intro j hj
  match j with
  | 0 => rfl
  | 1 => rfl
  | 2 => rfl
  | 3 => rfl
  | 4 => rfl
  | 5 => rfl
  | 6 => rfl
  | 7 => rfl
  | 8 => rfl
  | j + 9 => omega
theorem df_X7 {X : jX} : ∀ j, j < 2 → defaultValue (tyX7 j) = vp_V (([.long 0, .null] : List Value).map (jT X)) j := by
  intro j hj
  match j with
  | 0 => rfl
  | 1 => rfl
  | j + 2 => omega
theorem df_X8 {X : jX} : ∀ j, j < 11 → defaultValue (tyX8 j) = vp_V (([.int (nI 0), .null, .null, .null, .null, .int (nI 0), .int (nI 0), .int (nI 0), .int (nI 0), .int (nI 0), .int (nI 0)] : List Value).map (jT X)) j := by
  intro j hj
  match j with
  | 0 => rfl
  | 1 => rfl
  | 2 => rfl
  | 3 => rfl
  | 4 => rfl
  | 5 => rfl
  | 6 => rfl
  | 7 => rfl
  | 8 => rfl
  | 9 => rfl
  | 10 => rfl
  | j + 11 => omega
set_option maxRecDepth 100000 in
set_option maxHeartbeats 4000000 in
theorem s_at {X : jX} (hs : X.1.stackTraces = false) (hXO : XO X) {xs : List Int32} (hX0 : X.2.2.2.2.2[0]? = some (.inl (0, xs))) (hX1 : xs.length ≤ 320) {d : Nat} (hd : 45 ≤ d) {o : Nat} {S : StX} {w : List jC} (hI : LI o S S w) {i j : Nat} (hi : i + 5 ≤ xs.length) (hj : j < 64) {kc ks : Nat} (hkc : 700 ≤ kc) (hks : 40000 ≤ ks) {Q : jQ} (ih : ∀ (S' : StX) (w' : List jC), LI o S' S' w' → J X mL_law d (kc - 700) (ks - 40000) 2025 [some (.retAddr 0), some (.ref 0), some (.ref 19), some (.ref o), some (.int (nI i)), none, none] [] w' Q) : J X mL_law d kc ks 43 [some (.retAddr 0), some (.ref 0), some (.ref 19), some (.ref o), some (.int (nI i)), none, none] [.int (nI j)] w Q := by
  match j, hj with
  | 0, _ => exact J_tableIn (pc := 43) (off := 197) (tgt := 240) dL_law_43 (by decide) (by decide) (by decide) (by decide) (s_0 hs hXO hX0 hX1 hd hI hi hkc hks ih)
  | 1, _ => exact J_tableIn (pc := 43) (off := 225) (tgt := 268) dL_law_43 (by decide) (by decide) (by decide) (by decide) (s_1 hs hXO hX0 hX1 hd hI hi hkc hks ih)
  | 2, _ => exact J_tableIn (pc := 43) (off := 265) (tgt := 308) dL_law_43 (by decide) (by decide) (by decide) (by decide) (s_2 hs hXO hX0 hX1 hd hI hi hkc hks ih)
  | 3, _ => exact J_tableIn (pc := 43) (off := 317) (tgt := 360) dL_law_43 (by decide) (by decide) (by decide) (by decide) (s_3 hs hXO hX0 hX1 hd hI hi hkc hks ih)
  | 4, _ => exact J_tableIn (pc := 43) (off := 381) (tgt := 424) dL_law_43 (by decide) (by decide) (by decide) (by decide) (s_4 hs hXO hX0 hX1 hd hI hi hkc hks ih)
  | 5, _ => exact J_tableIn (pc := 43) (off := 421) (tgt := 464) dL_law_43 (by decide) (by decide) (by decide) (by decide) (s_5 hs hXO hX0 hX1 hd hI hi hkc hks ih)
  | 6, _ => exact J_tableIn (pc := 43) (off := 449) (tgt := 492) dL_law_43 (by decide) (by decide) (by decide) (by decide) (s_6 hs hXO hX0 hX1 hd hI hi hkc hks ih)
  | 7, _ => exact J_tableIn (pc := 43) (off := 489) (tgt := 532) dL_law_43 (by decide) (by decide) (by decide) (by decide) (s_7 hs hXO hX0 hX1 hd hI hi hkc hks ih)
  | 8, _ => exact J_tableIn (pc := 43) (off := 529) (tgt := 572) dL_law_43 (by decide) (by decide) (by decide) (by decide) (s_8 hs hXO hX0 hX1 hd hI hi hkc hks ih)
  | 9, _ => exact J_tableIn (pc := 43) (off := 581) (tgt := 624) dL_law_43 (by decide) (by decide) (by decide) (by decide) (s_9 hs hXO hX0 hX1 hd hI hi hkc hks ih)
  | 10, _ => exact J_tableIn (pc := 43) (off := 621) (tgt := 664) dL_law_43 (by decide) (by decide) (by decide) (by decide) (s_10 hs hXO hX0 hX1 hd hI hi hkc hks ih)
  | 11, _ => exact J_tableIn (pc := 43) (off := 673) (tgt := 716) dL_law_43 (by decide) (by decide) (by decide) (by decide) (s_11 hs hXO hX0 hX1 hd hI hi hkc hks ih)
  | 12, _ => exact J_tableIn (pc := 43) (off := 725) (tgt := 768) dL_law_43 (by decide) (by decide) (by decide) (by decide) (s_12 hs hXO hX0 hX1 hd hI hi hkc hks ih)
  | 13, _ => exact J_tableIn (pc := 43) (off := 806) (tgt := 849) dL_law_43 (by decide) (by decide) (by decide) (by decide) (s_13 hs hXO hX0 hX1 hd hI hi hkc hks ih)
  | 14, _ => exact J_tableIn (pc := 43) (off := 870) (tgt := 913) dL_law_43 (by decide) (by decide) (by decide) (by decide) (s_14 hs hXO hX0 hX1 hd hI hi hkc hks ih)
  | 15, _ => exact J_tableIn (pc := 43) (off := 883) (tgt := 926) dL_law_43 (by decide) (by decide) (by decide) (by decide) (s_15 hs hXO hX0 hX1 hd hI hi hkc hks ih)
  | 16, _ => exact J_tableIn (pc := 43) (off := 911) (tgt := 954) dL_law_43 (by decide) (by decide) (by decide) (by decide) (s_16 hs hXO hX0 hX1 hd hI hi hkc hks ih)
  | 17, _ => exact J_tableIn (pc := 43) (off := 951) (tgt := 994) dL_law_43 (by decide) (by decide) (by decide) (by decide) (s_17 hs hXO hX0 hX1 hd hI hi hkc hks ih)
  | 18, _ => exact J_tableIn (pc := 43) (off := 979) (tgt := 1022) dL_law_43 (by decide) (by decide) (by decide) (by decide) (s_18 hs hXO hX0 hX1 hd hI hi hkc hks ih)
  | 19, _ => exact J_tableIn (pc := 43) (off := 1007) (tgt := 1050) dL_law_43 (by decide) (by decide) (by decide) (by decide) (s_19 hs hXO hX0 hX1 hd hI hi hkc hks ih)
  | 20, _ => exact J_tableIn (pc := 43) (off := 1047) (tgt := 1090) dL_law_43 (by decide) (by decide) (by decide) (by decide) (s_20 hs hXO hX0 hX1 hd hI hi hkc hks ih)
  | 21, _ => exact J_tableIn (pc := 43) (off := 1075) (tgt := 1118) dL_law_43 (by decide) (by decide) (by decide) (by decide) (s_21 hs hXO hX0 hX1 hd hI hi hkc hks ih)
  | 22, _ => exact J_tableIn (pc := 43) (off := 1103) (tgt := 1146) dL_law_43 (by decide) (by decide) (by decide) (by decide) (s_22 hs hXO hX0 hX1 hd hI hi hkc hks ih)
  | 23, _ => exact J_tableIn (pc := 43) (off := 1131) (tgt := 1174) dL_law_43 (by decide) (by decide) (by decide) (by decide) (s_23 hs hXO hX0 hX1 hd hI hi hkc hks ih)
  | 24, _ => exact J_tableIn (pc := 43) (off := 1171) (tgt := 1214) dL_law_43 (by decide) (by decide) (by decide) (by decide) (s_24 hs hXO hX0 hX1 hd hI hi hkc hks ih)
  | 25, _ => exact J_tableIn (pc := 43) (off := 1211) (tgt := 1254) dL_law_43 (by decide) (by decide) (by decide) (by decide) (s_25 hs hXO hX0 hX1 hd hI hi hkc hks ih)
  | 26, _ => exact J_tableIn (pc := 43) (off := 1251) (tgt := 1294) dL_law_43 (by decide) (by decide) (by decide) (by decide) (s_26 hs hXO hX0 hX1 hd hI hi hkc hks ih)
  | 27, _ => exact J_tableIn (pc := 43) (off := 1303) (tgt := 1346) dL_law_43 (by decide) (by decide) (by decide) (by decide) (s_27 hs hXO hX0 hX1 hd hI hi hkc hks ih)
  | 28, _ => exact J_tableIn (pc := 43) (off := 1355) (tgt := 1398) dL_law_43 (by decide) (by decide) (by decide) (by decide) (s_28 hs hXO hX0 hX1 hd hI hi hkc hks ih)
  | 29, _ => exact J_tableIn (pc := 43) (off := 1407) (tgt := 1450) dL_law_43 (by decide) (by decide) (by decide) (by decide) (s_29 hs hXO hX0 hX1 hd hI hi hkc hks ih)
  | 30, _ => exact J_tableIn (pc := 43) (off := 1447) (tgt := 1490) dL_law_43 (by decide) (by decide) (by decide) (by decide) (s_30 hs hXO hX0 hX1 hd hI hi hkc hks ih)
  | 31, _ => exact J_tableIn (pc := 43) (off := 1487) (tgt := 1530) dL_law_43 (by decide) (by decide) (by decide) (by decide) (s_31 hs hXO hX0 hX1 hd hI hi hkc hks ih)
  | 32, _ => exact J_tableIn (pc := 43) (off := 1515) (tgt := 1558) dL_law_43 (by decide) (by decide) (by decide) (by decide) (s_32 hs hXO hX0 hX1 hd hI hi hkc hks ih)
  | 33, _ => exact J_tableIn (pc := 43) (off := 1555) (tgt := 1598) dL_law_43 (by decide) (by decide) (by decide) (by decide) (s_33 hs hXO hX0 hX1 hd hI hi hkc hks ih)
  | 34, _ => exact J_tableIn (pc := 43) (off := 1583) (tgt := 1626) dL_law_43 (by decide) (by decide) (by decide) (by decide) (s_34 hs hXO hX0 hX1 hd hI hi hkc hks ih)
  | 35, _ => exact J_tableIn (pc := 43) (off := 1635) (tgt := 1678) dL_law_43 (by decide) (by decide) (by decide) (by decide) (s_35 hs hXO hX0 hX1 hd hI hi hkc hks ih)
  | 36, _ => exact J_tableIn (pc := 43) (off := 1675) (tgt := 1718) dL_law_43 (by decide) (by decide) (by decide) (by decide) (s_36 hs hXO hX0 hX1 hd hI hi hkc hks ih)
  | 37, _ => exact J_tableIn (pc := 43) (off := 1715) (tgt := 1758) dL_law_43 (by decide) (by decide) (by decide) (by decide) (s_37 hs hXO hX0 hX1 hd hI hi hkc hks ih)
  | 38, _ => exact J_tableIn (pc := 43) (off := 1755) (tgt := 1798) dL_law_43 (by decide) (by decide) (by decide) (by decide) (s_38 hs hXO hX0 hX1 hd hI hi hkc hks ih)
  | 39, _ => exact J_tableIn (pc := 43) (off := 1807) (tgt := 1850) dL_law_43 (by decide) (by decide) (by decide) (by decide) (s_39 hs hXO hX0 hX1 hd hI hi hkc hks ih)
  | 40, _ => exact J_tableIn (pc := 43) (off := 1859) (tgt := 1902) dL_law_43 (by decide) (by decide) (by decide) (by decide) (s_40 hs hXO hX0 hX1 hd hI hi hkc hks ih)
  | 41, _ => exact J_tableIn (pc := 43) (off := 1887) (tgt := 1930) dL_law_43 (by decide) (by decide) (by decide) (by decide) (s_41 hs hXO hX0 hX1 hd hI hi hkc hks ih)
  | 42, _ => exact J_tableIn (pc := 43) (off := 1915) (tgt := 1958) dL_law_43 (by decide) (by decide) (by decide) (by decide) (s_42 hs hXO hX0 hX1 hd hI hi hkc hks ih)
  | 43, _ => exact J_tableIn (pc := 43) (off := 1943) (tgt := 1986) dL_law_43 (by decide) (by decide) (by decide) (by decide) (s_43 hs hXO hX0 hX1 hd hI hi hkc hks ih)
  | 44, _ => exact J_tableIn (pc := 43) (off := 1956) (tgt := 1999) dL_law_43 (by decide) (by decide) (by decide) (by decide) (s_44 hs hXO hX0 hX1 hd hI hi hkc hks ih)
  | 45, _ => exact J_tableIn (pc := 43) (off := 1969) (tgt := 2012) dL_law_43 (by decide) (by decide) (by decide) (by decide) (s_45 hs hXO hX0 hX1 hd hI hi hkc hks ih)
  | j + 46, hj => exact J_tableOut (pc := 43) (tgt := 2025) dL_law_43 (Or.inr (by rw [nI_toInt (by omega)]; omega)) (by decide) ((ih _ _ hI).mono (by omega) (by omega) (fun _ _ h => h))
set_option maxRecDepth 100000 in
set_option maxHeartbeats 4000000 in
theorem s_loop {X : jX} {o : Nat} (hs : X.1.stackTraces = false) (hXO : XO X) {xs : List Int32} (hX0 : X.2.2.2.2.2[0]? = some (.inl (0, xs))) (hX1 : xs.length ≤ 320) {d : Nat} (hd : 45 ≤ d) {Q : jQ} (hQ : ∀ w' : List jC, Q (.inl (some (.int 1))) w') : ∀ (f : Nat) (S : StX) (w : List jC) (i kc ks : Nat), LI o S S w → i ≤ 400 → 330 - i ≤ 5 * f → f * 700 ≤ kc → f * 40000 ≤ ks → J X mL_law d kc ks 27 [some (.retAddr 0), some (.ref 0), some (.ref 19), some (.ref o), some (.int (nI i)), none, none] [] w Q := by
  intro f
  induction f with
  | zero =>
    intro S w i kc ks hI hi hf _ _
    refine J_iload (pc := 27) dL_law_27 rfl ?_
    refine J_aload_n (pc := 29) dL_law_29 rfl rfl rfl ?_
    refine J_alenO (pc := 30) (n := nI xs.length) dL_law_30 hX0 rfl ?_
    refine J_iconst (pc := 31) (v := nI 5) dL_law_31 (by decide) ?_
    refine J_isub (pc := 32) dL_law_32 ?_
    refine J_icmp_gt (pc := 33) (tgt := 2031) dL_law_33 (by decide) (fun _ => ?_) (fun hn => ?_)
    · refine J_iconst (pc := 2031) (v := nI 1) dL_law_2031 (by decide) ?_
      exact J_zret (pc := 2032) dL_law_2032 rfl (nar_b (by decide)) (hQ w)
    · have hi2 := law_i hX1 hi hn
      omega
  | succ f ih =>
    intro S w i kc ks hI hi hf hkc hks
    refine J_iload (pc := 27) dL_law_27 rfl ?_
    refine J_aload_n (pc := 29) dL_law_29 rfl rfl rfl ?_
    refine J_alenO (pc := 30) (n := nI xs.length) dL_law_30 hX0 rfl ?_
    refine J_iconst (pc := 31) (v := nI 5) dL_law_31 (by decide) ?_
    refine J_isub (pc := 32) dL_law_32 ?_
    refine J_icmp_gt (pc := 33) (tgt := 2031) dL_law_33 (by decide) (fun _ => ?_) (fun hn => ?_)
    · refine J_iconst (pc := 2031) (v := nI 1) dL_law_2031 (by decide) ?_
      exact J_zret (pc := 2032) dL_law_2032 rfl (nar_b (by decide)) (hQ w)
    · have hi2 := law_i hX1 hi hn
      refine J_aload_n (pc := 36) dL_law_36 rfl rfl rfl ?_
      refine J_iload (pc := 37) dL_law_37 rfl ?_
      refine J_ialdO (pc := 39) dL_law_39 hX0 (nI_in (by omega) (by omega)) (J_absI fun x => ?_)
      refine J_bipush (pc := 40) (v := nI 63) dL_law_40 (by decide) ?_
      refine J_iand (pc := 42) dL_law_42 (J_andE 6 63 (by decide) fun j hj => ?_)
      refine s_at hs hXO hX0 hX1 hd hI hi2 hj (by omega) (by omega) (fun S' w' hI' => ?_)
      refine J_iincN (pc := 2025) (b := 5) dL_law_2025 rfl (by decide) (by decide) rfl ?_
      show J X mL_law d _ _ 2028 [some (.retAddr 0), some (.ref 0), some (.ref 19), some (.ref o), some (.int (nI (i + 5))), none, none] [] w' Q
      refine J_goto (pc := 2028) (tgt := 27) dL_law_2028 (by decide) ?_
      exact ih S' w' (i + 5) _ _ hI' (by omega) (by omega) (by omega) (by omega)
set_option maxRecDepth 100000 in
set_option maxHeartbeats 4000000 in
theorem s_start {X : jX} (hs : X.1.stackTraces = false) (hXO : XO X) {xs : List Int32} (hX0 : X.2.2.2.2.2[0]? = some (.inl (0, xs))) (hX1 : xs.length ≤ 320) {d : Nat} (hd : 45 ≤ d) {kc ks : Nat} (hkc : 600000 ≤ kc) (hks : 7000000 ≤ ks) {Q : jQ} (hQ : ∀ w' : List jC, Q (.inl (some (.int 1))) w') : J X mL_law d kc ks 0 [some (.retAddr 0), none, none, none, none, none, none] [] [] Q := by
  refine J_newO (pc := 0) (M := mL_law) (fs := [.null, .null, .null, .null, .null, .int (nI 0), .int (nI 0), .int (nI 0), .int (nI 0)]) dL_law_0 kC7 fc_L_8 fi_X6 fz_X6 df_X6 (by omega) (by omega) (fun a w1 ha hln1 hc1 _ => ?_)
  obtain rfl : a = 0 := ha
  refine J_dup (pc := 3) dL_law_3 rfl ?_
  refine J_callI (pc := 4) (M := mL_law) (as := []) dL_law_4 fw_X6_init fl_L_158 fm_X6_init rfl rfl rfl (c_X6_init hs (d := d - 1) (by omega) (w := w1) hln1 hc1 (kc := 18) (ks := 7664) (Nat.le_refl _) (Nat.le_refl _)) (by omega) (by omega) (by omega) (st := [.ref 0]) (Nat.le_of_ble_eq_true rfl) rfl (kr_V fun w2 hw2 => ?_) kx_V
  obtain ⟨hln2, hS2, hm2⟩ := hw2
  refine J_astore_n (pc := 7) dL_law_7 rfl (by decide) rfl rfl ?_
  show J X mL_law d _ _ 8 [some (.retAddr 0), some (.ref 0), none, none, none, none, none] [] w2 Q
  refine J_newO (pc := 8) (M := mL_law) (fs := [.int (nI 0), .null, .null, .null, .null, .int (nI 0), .int (nI 0), .int (nI 0), .int (nI 0), .int (nI 0), .int (nI 0)]) dL_law_8 kC9 fc_L_159 fi_X8 fz_X8 df_X8 (by omega) (by omega) (fun a w3 ha hln3 hc3 hne3 => ?_)
  obtain rfl : a = 19 := by omega
  have hS3 := hS2.gr (fun i hi => hne3 i (by omega))
  refine J_dup (pc := 11) dL_law_11 rfl ?_
  refine J_callI (pc := 12) (M := mL_law) (as := []) dL_law_12 fw_X8_init fl_L_161 fm_X8_init rfl rfl rfl (c_X8_init hs (d := d - 1) (by omega) (w := w3) hln3 hc3 (kc := 4) (ks := 214) (Nat.le_refl _) (Nat.le_refl _)) (by omega) (by omega) (by omega) (st := [.ref 19]) (Nat.le_of_ble_eq_true rfl) rfl (kr_V fun w4 hw4 => ?_) kx_V
  obtain ⟨mv, hR4, gm, hP4, hid4, hne4⟩ := hw4
  have hS4 := hS3.keep (fun i hi => hne4 i hi)
  refine J_astore_n (pc := 15) dL_law_15 rfl (by decide) rfl rfl ?_
  show J X mL_law d _ _ 16 [some (.retAddr 0), some (.ref 0), some (.ref 19), none, none, none, none] [] w4 Q
  refine J_newO (pc := 16) (M := mL_law) (fs := [.long 0, .null]) dL_law_16 kC8 fc_L_14 fi_X7 fz_X7 df_X7 (by omega) (by omega) (fun a w5 ha hln5 hc5 hne5 => ?_)
  have hg4 := gl hR4.2.2.2.2.1
  have ho : 24 ≤ a := by omega
  have hS5 := hS4.gr (fun i hi => hne5 i (by omega))
  have hR5 : RM 4 mv (fun _ => 0) (fun _ => 0) 23 (List.replicate 158 0) (-1) (nI 0) (nI 0) (nI 0) (nI 0) (nI 0) w5 := ⟨(hne5 19 (by omega)).trans hR4.1, (hne5 20 (by omega)).trans hR4.2.1, (hne5 21 (by omega)).trans hR4.2.2.1, (hne5 22 (by omega)).trans hR4.2.2.2.1, (hne5 23 (by omega)).trans hR4.2.2.2.2.1, hR4.2.2.2.2.2⟩
  refine J_dup (pc := 19) dL_law_19 rfl ?_
  refine J_callIN (pc := 20) (M := mL_law) (as := []) dL_law_20 fw_X7_init fl_L_162 fm_X7_init rfl rfl rfl (c_X7_init hs (d := d - 1) (by omega) (w := w5) a (kc := 0) (ks := 0)) (by omega) (Nat.zero_le _) (Nat.zero_le _) (st := [.ref a]) (Nat.le_of_ble_eq_true rfl) rfl (kr_V fun w6 hw6 => ?_) kx_V
  obtain rfl := hw6.symm
  refine J_astore_n (pc := 23) dL_law_23 rfl (by decide) rfl rfl ?_
  refine J_iconst (pc := 24) (v := nI 0) dL_law_24 (by decide) ?_
  refine J_istore (pc := 25) dL_law_25 (by decide) rfl ?_
  show J X mL_law d _ _ 27 [some (.retAddr 0), some (.ref 0), some (.ref 19), some (.ref a), some (.int (nI 0)), none, none] [] w5 Q
  have hm5 : w5[1]? = some (aF 6 (fun _ => 1754760)) := (hne5 1 (by omega)).trans ((hne4 1 (by decide)).trans ((hne3 1 (by omega)).trans hm2))
  obtain ⟨_, hc0, rfl⟩ := hS5 0 _ rfl
  exact s_loop hs hXO hX0 hX1 hd hQ 66 (4, nI 0, nI 0, nI 0, fun _ => 1754760) w5 0 _ _ ⟨nI 0, ⟨by decide, by decide, fun c _ => (by show Mv 4 1754760; rw [e7_M (n := 4) (by decide)]; exact eM_Mv (by decide)), ⟨hc0, hm5⟩, hS5⟩, ⟨mv, _, _, 23, _, _, _, hR5, by decide, by decide, gm, fun _ => (by decide : (0 : Nat) < 7), fun _ => (by decide : (0 : Nat) < 7), hP4, Or.inl rfl, RL_points (by decide) hid4, by omega⟩, ⟨ho, _, hc5, rfl⟩⟩ (by decide) (by decide) (by omega) (by omega)
end
section
/-! from the premises to the walk's world -/
def FLs : List Cond := flatC (Jvm.Cond.and given_1 narrow_1)
def ysO : List Int32 := [48, 49, 50, 51, 52, 53, 54, 55, 56, 57, 48, 49, 50, 51, 52, 53, 54, 55, 56, 57, 48, 49, 50, 51, 52, 53, 54, 55, 56, 57, 48, 49, 50, 51, 52, 53, 54, 55, 56, 57, 48, 49, 50, 51, 52, 53, 54, 55, 56, 57, 48, 49, 50, 51, 52, 53, 54, 55, 56, 57, 48, 49, 50, 51, 52, 53, 54, 55, 56, 57, 48, 49, 50, 51, 52, 53, 54, 55, 56, 57, 48, 49, 50, 51, 52, 53, 54, 55, 56, 57, 48, 49, 50, 51, 52, 53, 54, 55, 56, 57]
theorem flOa : FLs[12]? = some (Cond.arrayOf (.static "java/lang/Integer" "DigitOnes" "[B") .byte) := by decide +kernel
theorem flOl : FLs[13]? = some (Cond.eq (.length (.static "java/lang/Integer" "DigitOnes" "[B")) (.int (Int32.ofNat ysO.length))) := by decide +kernel
theorem flOe : ∀ j, j < ysO.length → FLs[14 + j]? = some (Cond.eq (.elem (.static "java/lang/Integer" "DigitOnes" "[B") (.int (Int32.ofNat j))) (.int (ysO.getD j 0))) := by decide +kernel
def ysT : List Int32 := [48, 48, 48, 48, 48, 48, 48, 48, 48, 48, 49, 49, 49, 49, 49, 49, 49, 49, 49, 49, 50, 50, 50, 50, 50, 50, 50, 50, 50, 50, 51, 51, 51, 51, 51, 51, 51, 51, 51, 51, 52, 52, 52, 52, 52, 52, 52, 52, 52, 52, 53, 53, 53, 53, 53, 53, 53, 53, 53, 53, 54, 54, 54, 54, 54, 54, 54, 54, 54, 54, 55, 55, 55, 55, 55, 55, 55, 55, 55, 55, 56, 56, 56, 56, 56, 56, 56, 56, 56, 56, 57, 57, 57, 57, 57, 57, 57, 57, 57, 57]
theorem flTa : FLs[115]? = some (Cond.arrayOf (.static "java/lang/Integer" "DigitTens" "[B") .byte) := by decide +kernel
theorem flTl : FLs[116]? = some (Cond.eq (.length (.static "java/lang/Integer" "DigitTens" "[B")) (.int (Int32.ofNat ysT.length))) := by decide +kernel
theorem flTe : ∀ j, j < ysT.length → FLs[117 + j]? = some (Cond.eq (.elem (.static "java/lang/Integer" "DigitTens" "[B") (.int (Int32.ofNat j))) (.int (ysT.getD j 0))) := by decide +kernel
def bs144 : List Int32 := []
theorem fs144x : FLs[352]? = some (Cond.exactly (.string "SwaphouseModel" 144) "java/lang/String") := by decide +kernel
theorem fs144c : FLs[353]? = some (Cond.eq (.field (.string "SwaphouseModel" 144) "java/lang/String" "coder" "B") (.int 0)) := by decide +kernel
theorem fs144a : FLs[354]? = some (Cond.arrayOf (.field (.string "SwaphouseModel" 144) "java/lang/String" "value" "[B") .byte) := by decide +kernel
theorem fs144l : FLs[355]? = some (Cond.eq (.length (.field (.string "SwaphouseModel" 144) "java/lang/String" "value" "[B")) (.int (Int32.ofNat bs144.length))) := by decide +kernel
theorem fs144e : ∀ j, j < bs144.length → FLs[0 + j]? = some (Cond.eq (.elem (.field (.string "SwaphouseModel" 144) "java/lang/String" "value" "[B") (.int (Int32.ofNat j))) (.int (bs144.getD j 0))) := fun j hj => absurd hj (Nat.not_lt_zero j)
theorem fs144f : jFitB bs144 := by
  intro y hy
  have h : ∀ y ∈ bs144, fits .byte (.int y) = true := by decide +kernel
  exact h y hy
def bs149 : List Int32 := [32]
theorem fs149x : FLs[360]? = some (Cond.exactly (.string "SwaphouseModel" 149) "java/lang/String") := by decide +kernel
theorem fs149c : FLs[361]? = some (Cond.eq (.field (.string "SwaphouseModel" 149) "java/lang/String" "coder" "B") (.int 0)) := by decide +kernel
theorem fs149a : FLs[362]? = some (Cond.arrayOf (.field (.string "SwaphouseModel" 149) "java/lang/String" "value" "[B") .byte) := by decide +kernel
theorem fs149l : FLs[363]? = some (Cond.eq (.length (.field (.string "SwaphouseModel" 149) "java/lang/String" "value" "[B")) (.int (Int32.ofNat bs149.length))) := by decide +kernel
theorem fs149e : ∀ j, j < bs149.length → FLs[364 + j]? = some (Cond.eq (.elem (.field (.string "SwaphouseModel" 149) "java/lang/String" "value" "[B") (.int (Int32.ofNat j))) (.int (bs149.getD j 0))) := by decide +kernel
theorem fs149f : jFitB bs149 := by
  intro y hy
  have h : ∀ y ∈ bs149, fits .byte (.int y) = true := by decide +kernel
  exact h y hy
def bs289 : List Int32 := [116, 104, 101, 114, 101, 32, 105, 115, 32, 110, 111, 32, 115, 117, 99, 104, 32, 99, 101, 108, 108]
theorem fs289x : FLs[239]? = some (Cond.exactly (.string "Swaphouse" 289) "java/lang/String") := by decide +kernel
theorem fs289c : FLs[240]? = some (Cond.eq (.field (.string "Swaphouse" 289) "java/lang/String" "coder" "B") (.int 0)) := by decide +kernel
theorem fs289a : FLs[241]? = some (Cond.arrayOf (.field (.string "Swaphouse" 289) "java/lang/String" "value" "[B") .byte) := by decide +kernel
theorem fs289l : FLs[242]? = some (Cond.eq (.length (.field (.string "Swaphouse" 289) "java/lang/String" "value" "[B")) (.int (Int32.ofNat bs289.length))) := by decide +kernel
theorem fs289e : ∀ j, j < bs289.length → FLs[243 + j]? = some (Cond.eq (.elem (.field (.string "Swaphouse" 289) "java/lang/String" "value" "[B") (.int (Int32.ofNat j))) (.int (bs289.getD j 0))) := by decide +kernel
theorem fs289f : jFitB bs289 := by
  intro y hy
  have h : ∀ y ∈ bs289, fits .byte (.int y) = true := by decide +kernel
  exact h y hy
def bs294 : List Int32 := [116, 104, 101, 114, 101, 32, 105, 115, 32, 110, 111, 32, 115, 117, 99, 104, 32, 112, 111, 105, 110, 116]
theorem fs294x : FLs[323]? = some (Cond.exactly (.string "Swaphouse" 294) "java/lang/String") := by decide +kernel
theorem fs294c : FLs[324]? = some (Cond.eq (.field (.string "Swaphouse" 294) "java/lang/String" "coder" "B") (.int 0)) := by decide +kernel
theorem fs294a : FLs[325]? = some (Cond.arrayOf (.field (.string "Swaphouse" 294) "java/lang/String" "value" "[B") .byte) := by decide +kernel
theorem fs294l : FLs[326]? = some (Cond.eq (.length (.field (.string "Swaphouse" 294) "java/lang/String" "value" "[B")) (.int (Int32.ofNat bs294.length))) := by decide +kernel
theorem fs294e : ∀ j, j < bs294.length → FLs[327 + j]? = some (Cond.eq (.elem (.field (.string "Swaphouse" 294) "java/lang/String" "value" "[B") (.int (Int32.ofNat j))) (.int (bs294.getD j 0))) := by decide +kernel
theorem fs294f : jFitB bs294 := by
  intro y hy
  have h : ∀ y ∈ bs294, fits .byte (.int y) = true := by decide +kernel
  exact h y hy
def bs298 : List Int32 := [97, 110, 32, 97, 114, 103, 117, 109, 101, 110, 116, 32, 105, 115, 32, 111, 117, 116, 115, 105, 100, 101, 32, 119, 104, 97, 116, 32, 116, 104, 101, 32, 100, 111, 99, 117, 109, 101, 110, 116, 32, 108, 101, 116, 115]
theorem fs298x : FLs[272]? = some (Cond.exactly (.string "Swaphouse" 298) "java/lang/String") := by decide +kernel
theorem fs298c : FLs[273]? = some (Cond.eq (.field (.string "Swaphouse" 298) "java/lang/String" "coder" "B") (.int 0)) := by decide +kernel
theorem fs298a : FLs[274]? = some (Cond.arrayOf (.field (.string "Swaphouse" 298) "java/lang/String" "value" "[B") .byte) := by decide +kernel
theorem fs298l : FLs[275]? = some (Cond.eq (.length (.field (.string "Swaphouse" 298) "java/lang/String" "value" "[B")) (.int (Int32.ofNat bs298.length))) := by decide +kernel
theorem fs298e : ∀ j, j < bs298.length → FLs[276 + j]? = some (Cond.eq (.elem (.field (.string "Swaphouse" 298) "java/lang/String" "value" "[B") (.int (Int32.ofNat j))) (.int (bs298.getD j 0))) := by decide +kernel
theorem fs298f : jFitB bs298 := by
  intro y hy
  have h : ∀ y ∈ bs298, fits .byte (.int y) = true := by decide +kernel
  exact h y hy
theorem flC : FLs[6]? = some (Cond.eq (.static "java/lang/String" "COMPACT_STRINGS" "Z") (.int 1)) := by decide +kernel
theorem flU : FLs[4]? = some (Cond.isRef (.static Bundle.tN "UNASSIGNED_STACK" Bundle.steD)) := by decide +kernel
theorem flV : FLs[5]? = some (Cond.isRef (.static Bundle.tN "SUPPRESSED_SENTINEL" Bundle.listD)) := by decide +kernel
theorem flN : FLs[236]? = some (Cond.not (.castable "java/lang/IllegalArgumentException" "java/lang/IndexOutOfBoundsException")) := by decide +kernel
theorem lt_U : lw_tbl[498]? = some (Cond.laysStatic Bundle.tN "UNASSIGNED_STACK" Bundle.steD) := by decide +kernel
theorem lt_V : lw_tbl[500]? = some (Cond.laysStatic Bundle.tN "SUPPRESSED_SENTINEL" Bundle.listD) := by decide +kernel
theorem lt_C : lw_tbl[567]? = some (Cond.laysStatic "java/lang/String" "COMPACT_STRINGS" "Z") := by decide +kernel
theorem lt_O : lw_tbl[709]? = some (Cond.laysStatic "java/lang/Integer" "DigitOnes" "[B") := by decide +kernel
theorem lt_T : lw_tbl[711]? = some (Cond.laysStatic "java/lang/Integer" "DigitTens" "[B") := by decide +kernel
theorem lt_144 : lw_tbl[1476]? = some (Cond.stringRef "SwaphouseModel" 144 "") := by decide +kernel
theorem lt_149 : lw_tbl[1479]? = some (Cond.stringRef "SwaphouseModel" 149 " ") := by decide +kernel
theorem lt_289 : lw_tbl[511]? = some (Cond.stringRef "Swaphouse" 289 "there is no such cell") := by decide +kernel
theorem lt_294 : lw_tbl[937]? = some (Cond.stringRef "Swaphouse" 294 "there is no such point") := by decide +kernel
theorem lt_298 : lw_tbl[855]? = some (Cond.stringRef "Swaphouse" 298 "an argument is outside what the document lets") := by decide +kernel
theorem lt_W : lw_tbl[79]? = some (Cond.initialized Bundle.tN) := by decide +kernel
theorem lt_S : lw_tbl[89]? = some (Cond.initialized "java/lang/String") := by decide +kernel
theorem lt_I : lw_tbl[86]? = some (Cond.initialized "java/lang/Integer") := by decide +kernel
end
