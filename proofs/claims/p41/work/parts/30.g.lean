section
/-! the law's cases -/
set_option maxRecDepth 100000 in
set_option maxHeartbeats 4000000 in
theorem s_23 {X : jX} (hs : X.1.stackTraces = false) (hXO : XO X) {xs : List Int32} (hX0 : X.2.2.2.2.2[0]? = some (.inl (0, xs))) (hX1 : xs.length ≤ 320) {d : Nat} (hd : 45 ≤ d) {o : Nat} {S : StX} {w : List jC} (hI : LI o S S w) {i : Nat} (hi : i + 5 ≤ xs.length) {kc ks : Nat} (hkc : 700 ≤ kc) (hks : 40000 ≤ ks) {Q : jQ} (ih : ∀ (S' : StX) (w' : List jC), LI o S' S' w' → J X mL_law d (kc - 700) (ks - 40000) 2025 [some (.retAddr 0), some (.ref 0), some (.ref 19), some (.ref o), some (.int (nI i)), none, none] [] w' Q) : J X mL_law d kc ks 1145 [some (.retAddr 0), some (.ref 0), some (.ref 19), some (.ref o), some (.int (nI i)), none, none] [] w Q := by
  refine J_aload_n (pc := 1145) dL_law_1145 rfl rfl rfl ?_
  refine J_aload_n (pc := 1146) dL_law_1146 rfl rfl rfl ?_
  refine J_iload (pc := 1147) dL_law_1147 rfl ?_
  refine J_iconst (pc := 1149) (v := nI 1) dL_law_1149 (by decide) ?_
  refine J_iaddN (pc := 1150) dL_law_1150 ?_
  refine J_ialdO (pc := 1151) dL_law_1151 hX0 (nI_in (by omega) (by omega)) ?_
  refine J_aload_n (pc := 1152) dL_law_1152 rfl rfl rfl ?_
  refine J_iload (pc := 1153) dL_law_1153 rfl ?_
  refine J_iconst (pc := 1155) (v := nI 2) dL_law_1155 (by decide) ?_
  refine J_iaddN (pc := 1156) dL_law_1156 ?_
  refine J_ialdO (pc := 1157) dL_law_1157 hX0 (nI_in (by omega) (by omega)) ?_
  refine J_aload_n (pc := 1158) dL_law_1158 rfl rfl rfl ?_
  refine J_callSX (pc := 1159) (M := mL_law) (as := [.ref 0, .int (xs.getD (nI (i + 1)).toNatClampNeg 0), .int (xs.getD (nI (i + 2)).toNatClampNeg 0), .ref o]) dL_law_1159 fw_L_areAlike fl_L_240 fs_L_areAlike rfl (c_L_areAlike hs (d := d - 1) (by omega) hI (xs.getD (nI (i + 1)).toNatClampNeg 0) (xs.getD (nI (i + 2)).toNatClampNeg 0) (kc := 2) (ks := 12) (Nat.le_refl _) (Nat.le_refl _)) (by omega) (by omega) (by omega) (st := []) (Nat.le_of_ble_eq_true rfl) rfl (kr_J fun v1 w1 hv1 => ?_) kx_J
  obtain ⟨k1, x1, S1, hA1, hv1, hI1, hO1⟩ := hv1
  subst hv1
  refine J_istore (pc := 1162) dL_law_1162 (by decide) rfl ?_
  show J X mL_law d (kc - 2) (ks - 12) 1164 [some (.retAddr 0), some (.ref 0), some (.ref 19), some (.ref o), some (.int (nI i)), some (.int (nI k1)), none] [] w1 Q
  refine J_aload_n (pc := 1164) dL_law_1164 rfl rfl rfl ?_
  refine J_aload_n (pc := 1165) dL_law_1165 rfl rfl rfl ?_
  refine J_iload (pc := 1166) dL_law_1166 rfl ?_
  refine J_iconst (pc := 1168) (v := nI 1) dL_law_1168 (by decide) ?_
  refine J_iaddN (pc := 1169) dL_law_1169 ?_
  refine J_ialdO (pc := 1170) dL_law_1170 hX0 (nI_in (by omega) (by omega)) ?_
  refine J_aload_n (pc := 1171) dL_law_1171 rfl rfl rfl ?_
  refine J_iload (pc := 1172) dL_law_1172 rfl ?_
  refine J_iconst (pc := 1174) (v := nI 2) dL_law_1174 (by decide) ?_
  refine J_iaddN (pc := 1175) dL_law_1175 ?_
  refine J_ialdO (pc := 1176) dL_law_1176 hX0 (nI_in (by omega) (by omega)) ?_
  obtain ⟨f26, h26⟩ := hI1.c19
  refine J_callV0 (pc := 1177) (M := mL_law) (as := [.int (xs.getD (nI (i + 1)).toNatClampNeg 0), .int (xs.getD (nI (i + 2)).toNatClampNeg 0)]) dL_law_1177 fw_X8_areAlike fl_L_242 fm_X8_areAlike fe_X8_areAlike h26 (by decide) rfl rfl rfl (vv_areAlike hs (d := d - 1) (by omega) hI1 (xs.getD (nI (i + 1)).toNatClampNeg 0) (xs.getD (nI (i + 2)).toNatClampNeg 0) (kc := 0) (ks := 0)) (by omega) (st := []) (Nat.le_of_ble_eq_true rfl) rfl (kr_J fun v2 w2 hv2 => ?_) kx_J
  obtain ⟨k2, S2, hA2, hI2, hO2⟩ := hv2
  obtain ⟨h1, h7, hM⟩ := hI.bd
  obtain ⟨rfl, rfl⟩ := AG.same (fun v v' x y h h' => (fD_areAlike h1 h7 hM (xs.getD (nI (i + 1)).toNatClampNeg 0) (xs.getD (nI (i + 2)).toNatClampNeg 0) v v' x y h h').1) hA1 hA2
  have hI3 : LI o S1 S1 w2 := ⟨_, hI2⟩
  refine J_istore (pc := 1180) dL_law_1180 (by decide) rfl ?_
  show J X mL_law d (kc - 2) (ks - 12) 1182 [some (.retAddr 0), some (.ref 0), some (.ref 19), some (.ref o), some (.int (nI i)), some (.int (nI k1)), some (.int v2)] [] w2 Q
  refine J_goto (pc := 1182) (tgt := 2025) dL_law_1182 (by decide) ?_
  exact J_sub (L' := [some (.retAddr 0), some (.ref 0), some (.ref 19), some (.ref o), some (.int (nI i)), none, none]) ⟨rfl, rfl, rfl, rfl, rfl, trivial⟩ ((ih _ _ hI3).mono (by omega) (by omega) (fun _ _ h => h))
set_option maxRecDepth 100000 in
set_option maxHeartbeats 4000000 in
theorem s_24 {X : jX} (hs : X.1.stackTraces = false) (hXO : XO X) {xs : List Int32} (hX0 : X.2.2.2.2.2[0]? = some (.inl (0, xs))) (hX1 : xs.length ≤ 320) {d : Nat} (hd : 45 ≤ d) {o : Nat} {S : StX} {w : List jC} (hI : LI o S S w) {i : Nat} (hi : i + 5 ≤ xs.length) {kc ks : Nat} (hkc : 700 ≤ kc) (hks : 40000 ≤ ks) {Q : jQ} (ih : ∀ (S' : StX) (w' : List jC), LI o S' S' w' → J X mL_law d (kc - 700) (ks - 40000) 2025 [some (.retAddr 0), some (.ref 0), some (.ref 19), some (.ref o), some (.int (nI i)), none, none] [] w' Q) : J X mL_law d kc ks 1185 [some (.retAddr 0), some (.ref 0), some (.ref 19), some (.ref o), some (.int (nI i)), none, none] [] w Q := by
  refine J_aload_n (pc := 1185) dL_law_1185 rfl rfl rfl ?_
  refine J_aload_n (pc := 1186) dL_law_1186 rfl rfl rfl ?_
  refine J_iload (pc := 1187) dL_law_1187 rfl ?_
  refine J_iconst (pc := 1189) (v := nI 1) dL_law_1189 (by decide) ?_
  refine J_iaddN (pc := 1190) dL_law_1190 ?_
  refine J_ialdO (pc := 1191) dL_law_1191 hX0 (nI_in (by omega) (by omega)) ?_
  refine J_aload_n (pc := 1192) dL_law_1192 rfl rfl rfl ?_
  refine J_iload (pc := 1193) dL_law_1193 rfl ?_
  refine J_iconst (pc := 1195) (v := nI 2) dL_law_1195 (by decide) ?_
  refine J_iaddN (pc := 1196) dL_law_1196 ?_
  refine J_ialdO (pc := 1197) dL_law_1197 hX0 (nI_in (by omega) (by omega)) ?_
  refine J_aload_n (pc := 1198) dL_law_1198 rfl rfl rfl ?_
  refine J_callSX (pc := 1199) (M := mL_law) (as := [.ref 0, .int (xs.getD (nI (i + 1)).toNatClampNeg 0), .int (xs.getD (nI (i + 2)).toNatClampNeg 0), .ref o]) dL_law_1199 fw_L_commute fl_L_243 fs_L_commute rfl (c_L_commute hs (d := d - 1) (by omega) hI (xs.getD (nI (i + 1)).toNatClampNeg 0) (xs.getD (nI (i + 2)).toNatClampNeg 0) (kc := 2) (ks := 12) (Nat.le_refl _) (Nat.le_refl _)) (by omega) (by omega) (by omega) (st := []) (Nat.le_of_ble_eq_true rfl) rfl (kr_J fun v1 w1 hv1 => ?_) kx_J
  obtain ⟨k1, x1, S1, hA1, hv1, hI1, hO1⟩ := hv1
  subst hv1
  refine J_istore (pc := 1202) dL_law_1202 (by decide) rfl ?_
  show J X mL_law d (kc - 2) (ks - 12) 1204 [some (.retAddr 0), some (.ref 0), some (.ref 19), some (.ref o), some (.int (nI i)), some (.int (nI k1)), none] [] w1 Q
  refine J_aload_n (pc := 1204) dL_law_1204 rfl rfl rfl ?_
  refine J_aload_n (pc := 1205) dL_law_1205 rfl rfl rfl ?_
  refine J_iload (pc := 1206) dL_law_1206 rfl ?_
  refine J_iconst (pc := 1208) (v := nI 1) dL_law_1208 (by decide) ?_
  refine J_iaddN (pc := 1209) dL_law_1209 ?_
  refine J_ialdO (pc := 1210) dL_law_1210 hX0 (nI_in (by omega) (by omega)) ?_
  refine J_aload_n (pc := 1211) dL_law_1211 rfl rfl rfl ?_
  refine J_iload (pc := 1212) dL_law_1212 rfl ?_
  refine J_iconst (pc := 1214) (v := nI 2) dL_law_1214 (by decide) ?_
  refine J_iaddN (pc := 1215) dL_law_1215 ?_
  refine J_ialdO (pc := 1216) dL_law_1216 hX0 (nI_in (by omega) (by omega)) ?_
  obtain ⟨f26, h26⟩ := hI1.c19
  refine J_callV0 (pc := 1217) (M := mL_law) (as := [.int (xs.getD (nI (i + 1)).toNatClampNeg 0), .int (xs.getD (nI (i + 2)).toNatClampNeg 0)]) dL_law_1217 fw_X8_commute fl_L_245 fm_X8_commute fe_X8_commute h26 (by decide) rfl rfl rfl (vv_commute hs (d := d - 1) (by omega) hI1 (xs.getD (nI (i + 1)).toNatClampNeg 0) (xs.getD (nI (i + 2)).toNatClampNeg 0) (kc := 0) (ks := 0)) (by omega) (st := []) (Nat.le_of_ble_eq_true rfl) rfl (kr_J fun v2 w2 hv2 => ?_) kx_J
  obtain ⟨k2, S2, hA2, hI2, hO2⟩ := hv2
  obtain ⟨h1, h7, hM⟩ := hI.bd
  obtain ⟨rfl, rfl⟩ := AG.same (fun v v' x y h h' => (fD_commute h1 h7 hM (xs.getD (nI (i + 1)).toNatClampNeg 0) (xs.getD (nI (i + 2)).toNatClampNeg 0) v v' x y h h').1) hA1 hA2
  have hI3 : LI o S1 S1 w2 := ⟨_, hI2⟩
  refine J_istore (pc := 1220) dL_law_1220 (by decide) rfl ?_
  show J X mL_law d (kc - 2) (ks - 12) 1222 [some (.retAddr 0), some (.ref 0), some (.ref 19), some (.ref o), some (.int (nI i)), some (.int (nI k1)), some (.int v2)] [] w2 Q
  refine J_goto (pc := 1222) (tgt := 2025) dL_law_1222 (by decide) ?_
  exact J_sub (L' := [some (.retAddr 0), some (.ref 0), some (.ref 19), some (.ref o), some (.int (nI i)), none, none]) ⟨rfl, rfl, rfl, rfl, rfl, trivial⟩ ((ih _ _ hI3).mono (by omega) (by omega) (fun _ _ h => h))
set_option maxRecDepth 100000 in
set_option maxHeartbeats 4000000 in
theorem s_25 {X : jX} (hs : X.1.stackTraces = false) (hXO : XO X) {xs : List Int32} (hX0 : X.2.2.2.2.2[0]? = some (.inl (0, xs))) (hX1 : xs.length ≤ 320) {d : Nat} (hd : 45 ≤ d) {o : Nat} {S : StX} {w : List jC} (hI : LI o S S w) {i : Nat} (hi : i + 5 ≤ xs.length) {kc ks : Nat} (hkc : 700 ≤ kc) (hks : 40000 ≤ ks) {Q : jQ} (ih : ∀ (S' : StX) (w' : List jC), LI o S' S' w' → J X mL_law d (kc - 700) (ks - 40000) 2025 [some (.retAddr 0), some (.ref 0), some (.ref 19), some (.ref o), some (.int (nI i)), none, none] [] w' Q) : J X mL_law d kc ks 1225 [some (.retAddr 0), some (.ref 0), some (.ref 19), some (.ref o), some (.int (nI i)), none, none] [] w Q := by
  refine J_aload_n (pc := 1225) dL_law_1225 rfl rfl rfl ?_
  refine J_aload_n (pc := 1226) dL_law_1226 rfl rfl rfl ?_
  refine J_iload (pc := 1227) dL_law_1227 rfl ?_
  refine J_iconst (pc := 1229) (v := nI 1) dL_law_1229 (by decide) ?_
  refine J_iaddN (pc := 1230) dL_law_1230 ?_
  refine J_ialdO (pc := 1231) dL_law_1231 hX0 (nI_in (by omega) (by omega)) ?_
  refine J_aload_n (pc := 1232) dL_law_1232 rfl rfl rfl ?_
  refine J_iload (pc := 1233) dL_law_1233 rfl ?_
  refine J_iconst (pc := 1235) (v := nI 2) dL_law_1235 (by decide) ?_
  refine J_iaddN (pc := 1236) dL_law_1236 ?_
  refine J_ialdO (pc := 1237) dL_law_1237 hX0 (nI_in (by omega) (by omega)) ?_
  refine J_aload_n (pc := 1238) dL_law_1238 rfl rfl rfl ?_
  refine J_callSX (pc := 1239) (M := mL_law) (as := [.ref 0, .int (xs.getD (nI (i + 1)).toNatClampNeg 0), .int (xs.getD (nI (i + 2)).toNatClampNeg 0), .ref o]) dL_law_1239 fw_L_size fl_L_246 fs_L_size rfl (c_L_size hs (d := d - 1) (by omega) hI (xs.getD (nI (i + 1)).toNatClampNeg 0) (xs.getD (nI (i + 2)).toNatClampNeg 0) (kc := 2) (ks := 12) (Nat.le_refl _) (Nat.le_refl _)) (by omega) (by omega) (by omega) (st := []) (Nat.le_of_ble_eq_true rfl) rfl (kr_I fun v1 w1 _ hI1 => ?_) kx_I
  refine J_istore (pc := 1242) dL_law_1242 (by decide) rfl ?_
  show J X mL_law d (kc - 2) (ks - 12) 1244 [some (.retAddr 0), some (.ref 0), some (.ref 19), some (.ref o), some (.int (nI i)), some (.int v1), none] [] w1 Q
  refine J_aload_n (pc := 1244) dL_law_1244 rfl rfl rfl ?_
  refine J_aload_n (pc := 1245) dL_law_1245 rfl rfl rfl ?_
  refine J_iload (pc := 1246) dL_law_1246 rfl ?_
  refine J_iconst (pc := 1248) (v := nI 1) dL_law_1248 (by decide) ?_
  refine J_iaddN (pc := 1249) dL_law_1249 ?_
  refine J_ialdO (pc := 1250) dL_law_1250 hX0 (nI_in (by omega) (by omega)) ?_
  refine J_aload_n (pc := 1251) dL_law_1251 rfl rfl rfl ?_
  refine J_iload (pc := 1252) dL_law_1252 rfl ?_
  refine J_iconst (pc := 1254) (v := nI 2) dL_law_1254 (by decide) ?_
  refine J_iaddN (pc := 1255) dL_law_1255 ?_
  refine J_ialdO (pc := 1256) dL_law_1256 hX0 (nI_in (by omega) (by omega)) ?_
  obtain ⟨f26, h26⟩ := hI1.c19
  refine J_callV (pc := 1257) (M := mL_law) (as := [.int (xs.getD (nI (i + 1)).toNatClampNeg 0), .int (xs.getD (nI (i + 2)).toNatClampNeg 0)]) dL_law_1257 fw_X8_size fl_L_248 fm_X8_size fe_X8_size h26 (by decide) rfl rfl rfl (vv_size hs (d := d - 1) (by omega) hI1 (xs.getD (nI (i + 1)).toNatClampNeg 0) (xs.getD (nI (i + 2)).toNatClampNeg 0) (kc := 13) (ks := 2054) (Nat.le_refl _) (Nat.le_refl _)) (by omega) (by omega) (by omega) (st := []) (Nat.le_of_ble_eq_true rfl) rfl (kr_I fun v26 w26 _ hI26 => ?_) kx_I
  refine J_istore (pc := 1260) dL_law_1260 (by decide) rfl ?_
  show J X mL_law d (kc - 2 - 13) (ks - 12 - 2054) 1262 [some (.retAddr 0), some (.ref 0), some (.ref 19), some (.ref o), some (.int (nI i)), some (.int v1), some (.int v26)] [] w26 Q
  refine J_goto (pc := 1262) (tgt := 2025) dL_law_1262 (by decide) ?_
  exact J_sub (L' := [some (.retAddr 0), some (.ref 0), some (.ref 19), some (.ref o), some (.int (nI i)), none, none]) ⟨rfl, rfl, rfl, rfl, rfl, trivial⟩ ((ih _ _ hI26).mono (by omega) (by omega) (fun _ _ h => h))
set_option maxRecDepth 100000 in
set_option maxHeartbeats 4000000 in
theorem s_26 {X : jX} (hs : X.1.stackTraces = false) (hXO : XO X) {xs : List Int32} (hX0 : X.2.2.2.2.2[0]? = some (.inl (0, xs))) (hX1 : xs.length ≤ 320) {d : Nat} (hd : 45 ≤ d) {o : Nat} {S : StX} {w : List jC} (hI : LI o S S w) {i : Nat} (hi : i + 5 ≤ xs.length) {kc ks : Nat} (hkc : 700 ≤ kc) (hks : 40000 ≤ ks) {Q : jQ} (ih : ∀ (S' : StX) (w' : List jC), LI o S' S' w' → J X mL_law d (kc - 700) (ks - 40000) 2025 [some (.retAddr 0), some (.ref 0), some (.ref 19), some (.ref o), some (.int (nI i)), none, none] [] w' Q) : J X mL_law d kc ks 1265 [some (.retAddr 0), some (.ref 0), some (.ref 19), some (.ref o), some (.int (nI i)), none, none] [] w Q := by
  refine J_aload_n (pc := 1265) dL_law_1265 rfl rfl rfl ?_
  refine J_aload_n (pc := 1266) dL_law_1266 rfl rfl rfl ?_
  refine J_iload (pc := 1267) dL_law_1267 rfl ?_
  refine J_iconst (pc := 1269) (v := nI 1) dL_law_1269 (by decide) ?_
  refine J_iaddN (pc := 1270) dL_law_1270 ?_
  refine J_ialdO (pc := 1271) dL_law_1271 hX0 (nI_in (by omega) (by omega)) ?_
  refine J_aload_n (pc := 1272) dL_law_1272 rfl rfl rfl ?_
  refine J_iload (pc := 1273) dL_law_1273 rfl ?_
  refine J_iconst (pc := 1275) (v := nI 2) dL_law_1275 (by decide) ?_
  refine J_iaddN (pc := 1276) dL_law_1276 ?_
  refine J_ialdO (pc := 1277) dL_law_1277 hX0 (nI_in (by omega) (by omega)) ?_
  refine J_aload_n (pc := 1278) dL_law_1278 rfl rfl rfl ?_
  refine J_iload (pc := 1279) dL_law_1279 rfl ?_
  refine J_iconst (pc := 1281) (v := nI 3) dL_law_1281 (by decide) ?_
  refine J_iaddN (pc := 1282) dL_law_1282 ?_
  refine J_ialdO (pc := 1283) dL_law_1283 hX0 (nI_in (by omega) (by omega)) ?_
  refine J_aload_n (pc := 1284) dL_law_1284 rfl rfl rfl ?_
  refine J_callSX (pc := 1285) (M := mL_law) (as := [.ref 0, .int (xs.getD (nI (i + 1)).toNatClampNeg 0), .int (xs.getD (nI (i + 2)).toNatClampNeg 0), .int (xs.getD (nI (i + 3)).toNatClampNeg 0), .ref o]) dL_law_1285 fw_L_reach fl_L_249 fs_L_reach rfl (c_L_reach hs (d := d - 1) (by omega) hI (xs.getD (nI (i + 1)).toNatClampNeg 0) (xs.getD (nI (i + 2)).toNatClampNeg 0) (xs.getD (nI (i + 3)).toNatClampNeg 0) (kc := 3) (ks := 18) (Nat.le_refl _) (Nat.le_refl _)) (by omega) (by omega) (by omega) (st := []) (Nat.le_of_ble_eq_true rfl) rfl (kr_I fun v1 w1 _ hI1 => ?_) kx_I
  refine J_istore (pc := 1288) dL_law_1288 (by decide) rfl ?_
  show J X mL_law d (kc - 3) (ks - 18) 1290 [some (.retAddr 0), some (.ref 0), some (.ref 19), some (.ref o), some (.int (nI i)), some (.int v1), none] [] w1 Q
  refine J_aload_n (pc := 1290) dL_law_1290 rfl rfl rfl ?_
  refine J_aload_n (pc := 1291) dL_law_1291 rfl rfl rfl ?_
  refine J_iload (pc := 1292) dL_law_1292 rfl ?_
  refine J_iconst (pc := 1294) (v := nI 1) dL_law_1294 (by decide) ?_
  refine J_iaddN (pc := 1295) dL_law_1295 ?_
  refine J_ialdO (pc := 1296) dL_law_1296 hX0 (nI_in (by omega) (by omega)) ?_
  refine J_aload_n (pc := 1297) dL_law_1297 rfl rfl rfl ?_
  refine J_iload (pc := 1298) dL_law_1298 rfl ?_
  refine J_iconst (pc := 1300) (v := nI 2) dL_law_1300 (by decide) ?_
  refine J_iaddN (pc := 1301) dL_law_1301 ?_
  refine J_ialdO (pc := 1302) dL_law_1302 hX0 (nI_in (by omega) (by omega)) ?_
  refine J_aload_n (pc := 1303) dL_law_1303 rfl rfl rfl ?_
  refine J_iload (pc := 1304) dL_law_1304 rfl ?_
  refine J_iconst (pc := 1306) (v := nI 3) dL_law_1306 (by decide) ?_
  refine J_iaddN (pc := 1307) dL_law_1307 ?_
  refine J_ialdO (pc := 1308) dL_law_1308 hX0 (nI_in (by omega) (by omega)) ?_
  obtain ⟨f36, h36⟩ := hI1.c19
  refine J_callV (pc := 1309) (M := mL_law) (as := [.int (xs.getD (nI (i + 1)).toNatClampNeg 0), .int (xs.getD (nI (i + 2)).toNatClampNeg 0), .int (xs.getD (nI (i + 3)).toNatClampNeg 0)]) dL_law_1309 fw_X8_reach fl_L_251 fm_X8_reach fe_X8_reach h36 (by decide) rfl rfl rfl (vv_reach hs (d := d - 1) (by omega) hI1 (xs.getD (nI (i + 1)).toNatClampNeg 0) (xs.getD (nI (i + 2)).toNatClampNeg 0) (xs.getD (nI (i + 3)).toNatClampNeg 0) (kc := 13) (ks := 2054) (Nat.le_refl _) (Nat.le_refl _)) (by omega) (by omega) (by omega) (st := []) (Nat.le_of_ble_eq_true rfl) rfl (kr_I fun v36 w36 _ hI36 => ?_) kx_I
  refine J_istore (pc := 1312) dL_law_1312 (by decide) rfl ?_
  show J X mL_law d (kc - 3 - 13) (ks - 18 - 2054) 1314 [some (.retAddr 0), some (.ref 0), some (.ref 19), some (.ref o), some (.int (nI i)), some (.int v1), some (.int v36)] [] w36 Q
  refine J_goto (pc := 1314) (tgt := 2025) dL_law_1314 (by decide) ?_
  exact J_sub (L' := [some (.retAddr 0), some (.ref 0), some (.ref 19), some (.ref o), some (.int (nI i)), none, none]) ⟨rfl, rfl, rfl, rfl, rfl, trivial⟩ ((ih _ _ hI36).mono (by omega) (by omega) (fun _ _ h => h))
set_option maxRecDepth 100000 in
set_option maxHeartbeats 4000000 in
theorem s_27 {X : jX} (hs : X.1.stackTraces = false) (hXO : XO X) {xs : List Int32} (hX0 : X.2.2.2.2.2[0]? = some (.inl (0, xs))) (hX1 : xs.length ≤ 320) {d : Nat} (hd : 45 ≤ d) {o : Nat} {S : StX} {w : List jC} (hI : LI o S S w) {i : Nat} (hi : i + 5 ≤ xs.length) {kc ks : Nat} (hkc : 700 ≤ kc) (hks : 40000 ≤ ks) {Q : jQ} (ih : ∀ (S' : StX) (w' : List jC), LI o S' S' w' → J X mL_law d (kc - 700) (ks - 40000) 2025 [some (.retAddr 0), some (.ref 0), some (.ref 19), some (.ref o), some (.int (nI i)), none, none] [] w' Q) : J X mL_law d kc ks 1317 [some (.retAddr 0), some (.ref 0), some (.ref 19), some (.ref o), some (.int (nI i)), none, none] [] w Q := by
  refine J_aload_n (pc := 1317) dL_law_1317 rfl rfl rfl ?_
  refine J_aload_n (pc := 1318) dL_law_1318 rfl rfl rfl ?_
  refine J_iload (pc := 1319) dL_law_1319 rfl ?_
  refine J_iconst (pc := 1321) (v := nI 1) dL_law_1321 (by decide) ?_
  refine J_iaddN (pc := 1322) dL_law_1322 ?_
  refine J_ialdO (pc := 1323) dL_law_1323 hX0 (nI_in (by omega) (by omega)) ?_
  refine J_aload_n (pc := 1324) dL_law_1324 rfl rfl rfl ?_
  refine J_iload (pc := 1325) dL_law_1325 rfl ?_
  refine J_iconst (pc := 1327) (v := nI 2) dL_law_1327 (by decide) ?_
  refine J_iaddN (pc := 1328) dL_law_1328 ?_
  refine J_ialdO (pc := 1329) dL_law_1329 hX0 (nI_in (by omega) (by omega)) ?_
  refine J_aload_n (pc := 1330) dL_law_1330 rfl rfl rfl ?_
  refine J_iload (pc := 1331) dL_law_1331 rfl ?_
  refine J_iconst (pc := 1333) (v := nI 3) dL_law_1333 (by decide) ?_
  refine J_iaddN (pc := 1334) dL_law_1334 ?_
  refine J_ialdO (pc := 1335) dL_law_1335 hX0 (nI_in (by omega) (by omega)) ?_
  refine J_aload_n (pc := 1336) dL_law_1336 rfl rfl rfl ?_
  refine J_callSX (pc := 1337) (M := mL_law) (as := [.ref 0, .int (xs.getD (nI (i + 1)).toNatClampNeg 0), .int (xs.getD (nI (i + 2)).toNatClampNeg 0), .int (xs.getD (nI (i + 3)).toNatClampNeg 0), .ref o]) dL_law_1337 fw_L_isIn fl_L_252 fs_L_isIn rfl (c_L_isIn hs (d := d - 1) (by omega) hI (xs.getD (nI (i + 1)).toNatClampNeg 0) (xs.getD (nI (i + 2)).toNatClampNeg 0) (xs.getD (nI (i + 3)).toNatClampNeg 0) (kc := 3) (ks := 18) (Nat.le_refl _) (Nat.le_refl _)) (by omega) (by omega) (by omega) (st := []) (Nat.le_of_ble_eq_true rfl) rfl (kr_I fun v1 w1 _ hI1 => ?_) kx_I
  refine J_istore (pc := 1340) dL_law_1340 (by decide) rfl ?_
  show J X mL_law d (kc - 3) (ks - 18) 1342 [some (.retAddr 0), some (.ref 0), some (.ref 19), some (.ref o), some (.int (nI i)), some (.int v1), none] [] w1 Q
  refine J_aload_n (pc := 1342) dL_law_1342 rfl rfl rfl ?_
  refine J_aload_n (pc := 1343) dL_law_1343 rfl rfl rfl ?_
  refine J_iload (pc := 1344) dL_law_1344 rfl ?_
  refine J_iconst (pc := 1346) (v := nI 1) dL_law_1346 (by decide) ?_
  refine J_iaddN (pc := 1347) dL_law_1347 ?_
  refine J_ialdO (pc := 1348) dL_law_1348 hX0 (nI_in (by omega) (by omega)) ?_
  refine J_aload_n (pc := 1349) dL_law_1349 rfl rfl rfl ?_
  refine J_iload (pc := 1350) dL_law_1350 rfl ?_
  refine J_iconst (pc := 1352) (v := nI 2) dL_law_1352 (by decide) ?_
  refine J_iaddN (pc := 1353) dL_law_1353 ?_
  refine J_ialdO (pc := 1354) dL_law_1354 hX0 (nI_in (by omega) (by omega)) ?_
  refine J_aload_n (pc := 1355) dL_law_1355 rfl rfl rfl ?_
  refine J_iload (pc := 1356) dL_law_1356 rfl ?_
  refine J_iconst (pc := 1358) (v := nI 3) dL_law_1358 (by decide) ?_
  refine J_iaddN (pc := 1359) dL_law_1359 ?_
  refine J_ialdO (pc := 1360) dL_law_1360 hX0 (nI_in (by omega) (by omega)) ?_
  obtain ⟨f36, h36⟩ := hI1.c19
  refine J_callV (pc := 1361) (M := mL_law) (as := [.int (xs.getD (nI (i + 1)).toNatClampNeg 0), .int (xs.getD (nI (i + 2)).toNatClampNeg 0), .int (xs.getD (nI (i + 3)).toNatClampNeg 0)]) dL_law_1361 fw_X8_isIn fl_L_254 fm_X8_isIn fe_X8_isIn h36 (by decide) rfl rfl rfl (vv_isIn hs (d := d - 1) (by omega) hI1 (xs.getD (nI (i + 1)).toNatClampNeg 0) (xs.getD (nI (i + 2)).toNatClampNeg 0) (xs.getD (nI (i + 3)).toNatClampNeg 0) (kc := 13) (ks := 2054) (Nat.le_refl _) (Nat.le_refl _)) (by omega) (by omega) (by omega) (st := []) (Nat.le_of_ble_eq_true rfl) rfl (kr_I fun v36 w36 _ hI36 => ?_) kx_I
  refine J_istore (pc := 1364) dL_law_1364 (by decide) rfl ?_
  show J X mL_law d (kc - 3 - 13) (ks - 18 - 2054) 1366 [some (.retAddr 0), some (.ref 0), some (.ref 19), some (.ref o), some (.int (nI i)), some (.int v1), some (.int v36)] [] w36 Q
  refine J_goto (pc := 1366) (tgt := 2025) dL_law_1366 (by decide) ?_
  exact J_sub (L' := [some (.retAddr 0), some (.ref 0), some (.ref 19), some (.ref o), some (.int (nI i)), none, none]) ⟨rfl, rfl, rfl, rfl, rfl, trivial⟩ ((ih _ _ hI36).mono (by omega) (by omega) (fun _ _ h => h))
set_option maxRecDepth 100000 in
set_option maxHeartbeats 4000000 in
theorem s_28 {X : jX} (hs : X.1.stackTraces = false) (hXO : XO X) {xs : List Int32} (hX0 : X.2.2.2.2.2[0]? = some (.inl (0, xs))) (hX1 : xs.length ≤ 320) {d : Nat} (hd : 45 ≤ d) {o : Nat} {S : StX} {w : List jC} (hI : LI o S S w) {i : Nat} (hi : i + 5 ≤ xs.length) {kc ks : Nat} (hkc : 700 ≤ kc) (hks : 40000 ≤ ks) {Q : jQ} (ih : ∀ (S' : StX) (w' : List jC), LI o S' S' w' → J X mL_law d (kc - 700) (ks - 40000) 2025 [some (.retAddr 0), some (.ref 0), some (.ref 19), some (.ref o), some (.int (nI i)), none, none] [] w' Q) : J X mL_law d kc ks 1369 [some (.retAddr 0), some (.ref 0), some (.ref 19), some (.ref o), some (.int (nI i)), none, none] [] w Q := by
  refine J_aload_n (pc := 1369) dL_law_1369 rfl rfl rfl ?_
  refine J_aload_n (pc := 1370) dL_law_1370 rfl rfl rfl ?_
  refine J_iload (pc := 1371) dL_law_1371 rfl ?_
  refine J_iconst (pc := 1373) (v := nI 1) dL_law_1373 (by decide) ?_
  refine J_iaddN (pc := 1374) dL_law_1374 ?_
  refine J_ialdO (pc := 1375) dL_law_1375 hX0 (nI_in (by omega) (by omega)) ?_
  refine J_aload_n (pc := 1376) dL_law_1376 rfl rfl rfl ?_
  refine J_iload (pc := 1377) dL_law_1377 rfl ?_
  refine J_iconst (pc := 1379) (v := nI 2) dL_law_1379 (by decide) ?_
  refine J_iaddN (pc := 1380) dL_law_1380 ?_
  refine J_ialdO (pc := 1381) dL_law_1381 hX0 (nI_in (by omega) (by omega)) ?_
  refine J_aload_n (pc := 1382) dL_law_1382 rfl rfl rfl ?_
  refine J_iload (pc := 1383) dL_law_1383 rfl ?_
  refine J_iconst (pc := 1385) (v := nI 3) dL_law_1385 (by decide) ?_
  refine J_iaddN (pc := 1386) dL_law_1386 ?_
  refine J_ialdO (pc := 1387) dL_law_1387 hX0 (nI_in (by omega) (by omega)) ?_
  refine J_aload_n (pc := 1388) dL_law_1388 rfl rfl rfl ?_
  refine J_callSX (pc := 1389) (M := mL_law) (as := [.ref 0, .int (xs.getD (nI (i + 1)).toNatClampNeg 0), .int (xs.getD (nI (i + 2)).toNatClampNeg 0), .int (xs.getD (nI (i + 3)).toNatClampNeg 0), .ref o]) dL_law_1389 fw_L_rank fl_L_255 fs_L_rank rfl (c_L_rank hs (d := d - 1) (by omega) hI (xs.getD (nI (i + 1)).toNatClampNeg 0) (xs.getD (nI (i + 2)).toNatClampNeg 0) (xs.getD (nI (i + 3)).toNatClampNeg 0) (kc := 3) (ks := 18) (Nat.le_refl _) (Nat.le_refl _)) (by omega) (by omega) (by omega) (st := []) (Nat.le_of_ble_eq_true rfl) rfl (kr_I fun v1 w1 _ hI1 => ?_) kx_I
  refine J_istore (pc := 1392) dL_law_1392 (by decide) rfl ?_
  show J X mL_law d (kc - 3) (ks - 18) 1394 [some (.retAddr 0), some (.ref 0), some (.ref 19), some (.ref o), some (.int (nI i)), some (.int v1), none] [] w1 Q
  refine J_aload_n (pc := 1394) dL_law_1394 rfl rfl rfl ?_
  refine J_aload_n (pc := 1395) dL_law_1395 rfl rfl rfl ?_
  refine J_iload (pc := 1396) dL_law_1396 rfl ?_
  refine J_iconst (pc := 1398) (v := nI 1) dL_law_1398 (by decide) ?_
  refine J_iaddN (pc := 1399) dL_law_1399 ?_
  refine J_ialdO (pc := 1400) dL_law_1400 hX0 (nI_in (by omega) (by omega)) ?_
  refine J_aload_n (pc := 1401) dL_law_1401 rfl rfl rfl ?_
  refine J_iload (pc := 1402) dL_law_1402 rfl ?_
  refine J_iconst (pc := 1404) (v := nI 2) dL_law_1404 (by decide) ?_
  refine J_iaddN (pc := 1405) dL_law_1405 ?_
  refine J_ialdO (pc := 1406) dL_law_1406 hX0 (nI_in (by omega) (by omega)) ?_
  refine J_aload_n (pc := 1407) dL_law_1407 rfl rfl rfl ?_
  refine J_iload (pc := 1408) dL_law_1408 rfl ?_
  refine J_iconst (pc := 1410) (v := nI 3) dL_law_1410 (by decide) ?_
  refine J_iaddN (pc := 1411) dL_law_1411 ?_
  refine J_ialdO (pc := 1412) dL_law_1412 hX0 (nI_in (by omega) (by omega)) ?_
  obtain ⟨f36, h36⟩ := hI1.c19
  refine J_callV (pc := 1413) (M := mL_law) (as := [.int (xs.getD (nI (i + 1)).toNatClampNeg 0), .int (xs.getD (nI (i + 2)).toNatClampNeg 0), .int (xs.getD (nI (i + 3)).toNatClampNeg 0)]) dL_law_1413 fw_X8_rank fl_L_257 fm_X8_rank fe_X8_rank h36 (by decide) rfl rfl rfl (vv_rank hs (d := d - 1) (by omega) hI1 (xs.getD (nI (i + 1)).toNatClampNeg 0) (xs.getD (nI (i + 2)).toNatClampNeg 0) (xs.getD (nI (i + 3)).toNatClampNeg 0) (kc := 13) (ks := 2054) (Nat.le_refl _) (Nat.le_refl _)) (by omega) (by omega) (by omega) (st := []) (Nat.le_of_ble_eq_true rfl) rfl (kr_I fun v36 w36 _ hI36 => ?_) kx_I
  refine J_istore (pc := 1416) dL_law_1416 (by decide) rfl ?_
  show J X mL_law d (kc - 3 - 13) (ks - 18 - 2054) 1418 [some (.retAddr 0), some (.ref 0), some (.ref 19), some (.ref o), some (.int (nI i)), some (.int v1), some (.int v36)] [] w36 Q
  refine J_goto (pc := 1418) (tgt := 2025) dL_law_1418 (by decide) ?_
  exact J_sub (L' := [some (.retAddr 0), some (.ref 0), some (.ref 19), some (.ref o), some (.int (nI i)), none, none]) ⟨rfl, rfl, rfl, rfl, rfl, trivial⟩ ((ih _ _ hI36).mono (by omega) (by omega) (fun _ _ h => h))
set_option maxRecDepth 100000 in
set_option maxHeartbeats 4000000 in
theorem s_29 {X : jX} (hs : X.1.stackTraces = false) (hXO : XO X) {xs : List Int32} (hX0 : X.2.2.2.2.2[0]? = some (.inl (0, xs))) (hX1 : xs.length ≤ 320) {d : Nat} (hd : 45 ≤ d) {o : Nat} {S : StX} {w : List jC} (hI : LI o S S w) {i : Nat} (hi : i + 5 ≤ xs.length) {kc ks : Nat} (hkc : 700 ≤ kc) (hks : 40000 ≤ ks) {Q : jQ} (ih : ∀ (S' : StX) (w' : List jC), LI o S' S' w' → J X mL_law d (kc - 700) (ks - 40000) 2025 [some (.retAddr 0), some (.ref 0), some (.ref 19), some (.ref o), some (.int (nI i)), none, none] [] w' Q) : J X mL_law d kc ks 1421 [some (.retAddr 0), some (.ref 0), some (.ref 19), some (.ref o), some (.int (nI i)), none, none] [] w Q := by
  refine J_aload_n (pc := 1421) dL_law_1421 rfl rfl rfl ?_
  refine J_aload_n (pc := 1422) dL_law_1422 rfl rfl rfl ?_
  refine J_iload (pc := 1423) dL_law_1423 rfl ?_
  refine J_iconst (pc := 1425) (v := nI 1) dL_law_1425 (by decide) ?_
  refine J_iaddN (pc := 1426) dL_law_1426 ?_
  refine J_ialdO (pc := 1427) dL_law_1427 hX0 (nI_in (by omega) (by omega)) ?_
  refine J_aload_n (pc := 1428) dL_law_1428 rfl rfl rfl ?_
  refine J_iload (pc := 1429) dL_law_1429 rfl ?_
  refine J_iconst (pc := 1431) (v := nI 2) dL_law_1431 (by decide) ?_
  refine J_iaddN (pc := 1432) dL_law_1432 ?_
  refine J_ialdO (pc := 1433) dL_law_1433 hX0 (nI_in (by omega) (by omega)) ?_
  refine J_aload_n (pc := 1434) dL_law_1434 rfl rfl rfl ?_
  refine J_callSX (pc := 1435) (M := mL_law) (as := [.ref 0, .int (xs.getD (nI (i + 1)).toNatClampNeg 0), .int (xs.getD (nI (i + 2)).toNatClampNeg 0), .ref o]) dL_law_1435 fw_L_list fl_L_258 fs_L_list rfl (c_L_list hs (d := d - 1) (by omega) hXO hI (xs.getD (nI (i + 1)).toNatClampNeg 0) (xs.getD (nI (i + 2)).toNatClampNeg 0) (kc := 40) (ks := 1500) (Nat.le_refl _) (Nat.le_refl _)) (by omega) (by omega) (by omega) (st := []) (Nat.le_of_ble_eq_true rfl) rfl (kr_I fun v1 w1 _ hI1 => ?_) kx_I
  refine J_istore (pc := 1438) dL_law_1438 (by decide) rfl ?_
  show J X mL_law d (kc - 40) (ks - 1500) 1440 [some (.retAddr 0), some (.ref 0), some (.ref 19), some (.ref o), some (.int (nI i)), some (.int v1), none] [] w1 Q
  refine J_aload_n (pc := 1440) dL_law_1440 rfl rfl rfl ?_
  refine J_aload_n (pc := 1441) dL_law_1441 rfl rfl rfl ?_
  refine J_iload (pc := 1442) dL_law_1442 rfl ?_
  refine J_iconst (pc := 1444) (v := nI 1) dL_law_1444 (by decide) ?_
  refine J_iaddN (pc := 1445) dL_law_1445 ?_
  refine J_ialdO (pc := 1446) dL_law_1446 hX0 (nI_in (by omega) (by omega)) ?_
  refine J_aload_n (pc := 1447) dL_law_1447 rfl rfl rfl ?_
  refine J_iload (pc := 1448) dL_law_1448 rfl ?_
  refine J_iconst (pc := 1450) (v := nI 2) dL_law_1450 (by decide) ?_
  refine J_iaddN (pc := 1451) dL_law_1451 ?_
  refine J_ialdO (pc := 1452) dL_law_1452 hX0 (nI_in (by omega) (by omega)) ?_
  obtain ⟨f26, h26⟩ := hI1.c19
  refine J_callV (pc := 1453) (M := mL_law) (as := [.int (xs.getD (nI (i + 1)).toNatClampNeg 0), .int (xs.getD (nI (i + 2)).toNatClampNeg 0)]) dL_law_1453 fw_X8_list fl_L_260 fm_X8_list fe_X8_list h26 (by decide) rfl rfl rfl (vv_list hs (d := d - 1) (by omega) hXO hI1 (xs.getD (nI (i + 1)).toNatClampNeg 0) (xs.getD (nI (i + 2)).toNatClampNeg 0) (kc := 55) (ks := 3600) (Nat.le_refl _) (Nat.le_refl _)) (by omega) (by omega) (by omega) (st := []) (Nat.le_of_ble_eq_true rfl) rfl (kr_S fun a26 w26 hj26 hI26 => ?_) kx_S
  refine J_astore (pc := 1456) dL_law_1456 (by decide) hj26 rfl ?_
  show J X mL_law d (kc - 40 - 55) (ks - 1500 - 3600) 1458 [some (.retAddr 0), some (.ref 0), some (.ref 19), some (.ref o), some (.int (nI i)), some (.int v1), some (a26)] [] w26 Q
  refine J_goto (pc := 1458) (tgt := 2025) dL_law_1458 (by decide) ?_
  exact J_sub (L' := [some (.retAddr 0), some (.ref 0), some (.ref 19), some (.ref o), some (.int (nI i)), none, none]) ⟨rfl, rfl, rfl, rfl, rfl, trivial⟩ ((ih _ _ hI26).mono (by omega) (by omega) (fun _ _ h => h))
set_option maxRecDepth 100000 in
set_option maxHeartbeats 4000000 in
theorem s_30 {X : jX} (hs : X.1.stackTraces = false) (hXO : XO X) {xs : List Int32} (hX0 : X.2.2.2.2.2[0]? = some (.inl (0, xs))) (hX1 : xs.length ≤ 320) {d : Nat} (hd : 45 ≤ d) {o : Nat} {S : StX} {w : List jC} (hI : LI o S S w) {i : Nat} (hi : i + 5 ≤ xs.length) {kc ks : Nat} (hkc : 700 ≤ kc) (hks : 40000 ≤ ks) {Q : jQ} (ih : ∀ (S' : StX) (w' : List jC), LI o S' S' w' → J X mL_law d (kc - 700) (ks - 40000) 2025 [some (.retAddr 0), some (.ref 0), some (.ref 19), some (.ref o), some (.int (nI i)), none, none] [] w' Q) : J X mL_law d kc ks 1461 [some (.retAddr 0), some (.ref 0), some (.ref 19), some (.ref o), some (.int (nI i)), none, none] [] w Q := by
  refine J_aload_n (pc := 1461) dL_law_1461 rfl rfl rfl ?_
  refine J_aload_n (pc := 1462) dL_law_1462 rfl rfl rfl ?_
  refine J_iload (pc := 1463) dL_law_1463 rfl ?_
  refine J_iconst (pc := 1465) (v := nI 1) dL_law_1465 (by decide) ?_
  refine J_iaddN (pc := 1466) dL_law_1466 ?_
  refine J_ialdO (pc := 1467) dL_law_1467 hX0 (nI_in (by omega) (by omega)) ?_
  refine J_aload_n (pc := 1468) dL_law_1468 rfl rfl rfl ?_
  refine J_iload (pc := 1469) dL_law_1469 rfl ?_
  refine J_iconst (pc := 1471) (v := nI 2) dL_law_1471 (by decide) ?_
  refine J_iaddN (pc := 1472) dL_law_1472 ?_
  refine J_ialdO (pc := 1473) dL_law_1473 hX0 (nI_in (by omega) (by omega)) ?_
  refine J_aload_n (pc := 1474) dL_law_1474 rfl rfl rfl ?_
  refine J_callSX (pc := 1475) (M := mL_law) (as := [.ref 0, .int (xs.getD (nI (i + 1)).toNatClampNeg 0), .int (xs.getD (nI (i + 2)).toNatClampNeg 0), .ref o]) dL_law_1475 fw_L_comes fl_L_261 fs_L_comes rfl (c_L_comes hs (d := d - 1) (by omega) hI (xs.getD (nI (i + 1)).toNatClampNeg 0) (xs.getD (nI (i + 2)).toNatClampNeg 0) (kc := 2) (ks := 12) (Nat.le_refl _) (Nat.le_refl _)) (by omega) (by omega) (by omega) (st := []) (Nat.le_of_ble_eq_true rfl) rfl (kr_I fun v1 w1 _ hI1 => ?_) kx_I
  refine J_istore (pc := 1478) dL_law_1478 (by decide) rfl ?_
  show J X mL_law d (kc - 2) (ks - 12) 1480 [some (.retAddr 0), some (.ref 0), some (.ref 19), some (.ref o), some (.int (nI i)), some (.int v1), none] [] w1 Q
  refine J_aload_n (pc := 1480) dL_law_1480 rfl rfl rfl ?_
  refine J_aload_n (pc := 1481) dL_law_1481 rfl rfl rfl ?_
  refine J_iload (pc := 1482) dL_law_1482 rfl ?_
  refine J_iconst (pc := 1484) (v := nI 1) dL_law_1484 (by decide) ?_
  refine J_iaddN (pc := 1485) dL_law_1485 ?_
  refine J_ialdO (pc := 1486) dL_law_1486 hX0 (nI_in (by omega) (by omega)) ?_
  refine J_aload_n (pc := 1487) dL_law_1487 rfl rfl rfl ?_
  refine J_iload (pc := 1488) dL_law_1488 rfl ?_
  refine J_iconst (pc := 1490) (v := nI 2) dL_law_1490 (by decide) ?_
  refine J_iaddN (pc := 1491) dL_law_1491 ?_
  refine J_ialdO (pc := 1492) dL_law_1492 hX0 (nI_in (by omega) (by omega)) ?_
  obtain ⟨f26, h26⟩ := hI1.c19
  refine J_callV0 (pc := 1493) (M := mL_law) (as := [.int (xs.getD (nI (i + 1)).toNatClampNeg 0), .int (xs.getD (nI (i + 2)).toNatClampNeg 0)]) dL_law_1493 fw_X8_comes fl_L_263 fm_X8_comes fe_X8_comes h26 (by decide) rfl rfl rfl (vv_comes hs (d := d - 1) (by omega) hI1 (xs.getD (nI (i + 1)).toNatClampNeg 0) (xs.getD (nI (i + 2)).toNatClampNeg 0) (kc := 0) (ks := 0)) (by omega) (st := []) (Nat.le_of_ble_eq_true rfl) rfl (kr_I fun v26 w26 _ hI26 => ?_) kx_I
  refine J_istore (pc := 1496) dL_law_1496 (by decide) rfl ?_
  show J X mL_law d (kc - 2) (ks - 12) 1498 [some (.retAddr 0), some (.ref 0), some (.ref 19), some (.ref o), some (.int (nI i)), some (.int v1), some (.int v26)] [] w26 Q
  refine J_goto (pc := 1498) (tgt := 2025) dL_law_1498 (by decide) ?_
  exact J_sub (L' := [some (.retAddr 0), some (.ref 0), some (.ref 19), some (.ref o), some (.int (nI i)), none, none]) ⟨rfl, rfl, rfl, rfl, rfl, trivial⟩ ((ih _ _ hI26).mono (by omega) (by omega) (fun _ _ h => h))
set_option maxRecDepth 100000 in
set_option maxHeartbeats 4000000 in
theorem s_31 {X : jX} (hs : X.1.stackTraces = false) (hXO : XO X) {xs : List Int32} (hX0 : X.2.2.2.2.2[0]? = some (.inl (0, xs))) (hX1 : xs.length ≤ 320) {d : Nat} (hd : 45 ≤ d) {o : Nat} {S : StX} {w : List jC} (hI : LI o S S w) {i : Nat} (hi : i + 5 ≤ xs.length) {kc ks : Nat} (hkc : 700 ≤ kc) (hks : 40000 ≤ ks) {Q : jQ} (ih : ∀ (S' : StX) (w' : List jC), LI o S' S' w' → J X mL_law d (kc - 700) (ks - 40000) 2025 [some (.retAddr 0), some (.ref 0), some (.ref 19), some (.ref o), some (.int (nI i)), none, none] [] w' Q) : J X mL_law d kc ks 1501 [some (.retAddr 0), some (.ref 0), some (.ref 19), some (.ref o), some (.int (nI i)), none, none] [] w Q := by
  refine J_aload_n (pc := 1501) dL_law_1501 rfl rfl rfl ?_
  refine J_aload_n (pc := 1502) dL_law_1502 rfl rfl rfl ?_
  refine J_iload (pc := 1503) dL_law_1503 rfl ?_
  refine J_iconst (pc := 1505) (v := nI 1) dL_law_1505 (by decide) ?_
  refine J_iaddN (pc := 1506) dL_law_1506 ?_
  refine J_ialdO (pc := 1507) dL_law_1507 hX0 (nI_in (by omega) (by omega)) ?_
  refine J_aload_n (pc := 1508) dL_law_1508 rfl rfl rfl ?_
  refine J_callSX (pc := 1509) (M := mL_law) (as := [.ref 0, .int (xs.getD (nI (i + 1)).toNatClampNeg 0), .ref o]) dL_law_1509 fw_L_pieces fl_L_264 fs_L_pieces rfl (c_L_pieces hs (d := d - 1) (by omega) hI (xs.getD (nI (i + 1)).toNatClampNeg 0) (kc := 1) (ks := 6) (Nat.le_refl _) (Nat.le_refl _)) (by omega) (by omega) (by omega) (st := []) (Nat.le_of_ble_eq_true rfl) rfl (kr_I fun v1 w1 _ hI1 => ?_) kx_I
  refine J_istore (pc := 1512) dL_law_1512 (by decide) rfl ?_
  show J X mL_law d (kc - 1) (ks - 6) 1514 [some (.retAddr 0), some (.ref 0), some (.ref 19), some (.ref o), some (.int (nI i)), some (.int v1), none] [] w1 Q
  refine J_aload_n (pc := 1514) dL_law_1514 rfl rfl rfl ?_
  refine J_aload_n (pc := 1515) dL_law_1515 rfl rfl rfl ?_
  refine J_iload (pc := 1516) dL_law_1516 rfl ?_
  refine J_iconst (pc := 1518) (v := nI 1) dL_law_1518 (by decide) ?_
  refine J_iaddN (pc := 1519) dL_law_1519 ?_
  refine J_ialdO (pc := 1520) dL_law_1520 hX0 (nI_in (by omega) (by omega)) ?_
  obtain ⟨f16, h16⟩ := hI1.c19
  refine J_callV0 (pc := 1521) (M := mL_law) (as := [.int (xs.getD (nI (i + 1)).toNatClampNeg 0)]) dL_law_1521 fw_X8_pieces fl_L_266 fm_X8_pieces fe_X8_pieces h16 (by decide) rfl rfl rfl (vv_pieces hs (d := d - 1) (by omega) hI1 (xs.getD (nI (i + 1)).toNatClampNeg 0) (kc := 0) (ks := 0)) (by omega) (st := []) (Nat.le_of_ble_eq_true rfl) rfl (kr_I fun v16 w16 _ hI16 => ?_) kx_I
  refine J_istore (pc := 1524) dL_law_1524 (by decide) rfl ?_
  show J X mL_law d (kc - 1) (ks - 6) 1526 [some (.retAddr 0), some (.ref 0), some (.ref 19), some (.ref o), some (.int (nI i)), some (.int v1), some (.int v16)] [] w16 Q
  refine J_goto (pc := 1526) (tgt := 2025) dL_law_1526 (by decide) ?_
  exact J_sub (L' := [some (.retAddr 0), some (.ref 0), some (.ref 19), some (.ref o), some (.int (nI i)), none, none]) ⟨rfl, rfl, rfl, rfl, rfl, trivial⟩ ((ih _ _ hI16).mono (by omega) (by omega) (fun _ _ h => h))
set_option maxRecDepth 100000 in
set_option maxHeartbeats 4000000 in
theorem s_32 {X : jX} (hs : X.1.stackTraces = false) (hXO : XO X) {xs : List Int32} (hX0 : X.2.2.2.2.2[0]? = some (.inl (0, xs))) (hX1 : xs.length ≤ 320) {d : Nat} (hd : 45 ≤ d) {o : Nat} {S : StX} {w : List jC} (hI : LI o S S w) {i : Nat} (hi : i + 5 ≤ xs.length) {kc ks : Nat} (hkc : 700 ≤ kc) (hks : 40000 ≤ ks) {Q : jQ} (ih : ∀ (S' : StX) (w' : List jC), LI o S' S' w' → J X mL_law d (kc - 700) (ks - 40000) 2025 [some (.retAddr 0), some (.ref 0), some (.ref 19), some (.ref o), some (.int (nI i)), none, none] [] w' Q) : J X mL_law d kc ks 1529 [some (.retAddr 0), some (.ref 0), some (.ref 19), some (.ref o), some (.int (nI i)), none, none] [] w Q := by
  refine J_aload_n (pc := 1529) dL_law_1529 rfl rfl rfl ?_
  refine J_aload_n (pc := 1530) dL_law_1530 rfl rfl rfl ?_
  refine J_iload (pc := 1531) dL_law_1531 rfl ?_
  refine J_iconst (pc := 1533) (v := nI 1) dL_law_1533 (by decide) ?_
  refine J_iaddN (pc := 1534) dL_law_1534 ?_
  refine J_ialdO (pc := 1535) dL_law_1535 hX0 (nI_in (by omega) (by omega)) ?_
  refine J_aload_n (pc := 1536) dL_law_1536 rfl rfl rfl ?_
  refine J_iload (pc := 1537) dL_law_1537 rfl ?_
  refine J_iconst (pc := 1539) (v := nI 2) dL_law_1539 (by decide) ?_
  refine J_iaddN (pc := 1540) dL_law_1540 ?_
  refine J_ialdO (pc := 1541) dL_law_1541 hX0 (nI_in (by omega) (by omega)) ?_
  refine J_aload_n (pc := 1542) dL_law_1542 rfl rfl rfl ?_
  refine J_callSX (pc := 1543) (M := mL_law) (as := [.ref 0, .int (xs.getD (nI (i + 1)).toNatClampNeg 0), .int (xs.getD (nI (i + 2)).toNatClampNeg 0), .ref o]) dL_law_1543 fw_L_withOrder fl_L_267 fs_L_withOrder rfl (c_L_withOrder hs (d := d - 1) (by omega) hI (xs.getD (nI (i + 1)).toNatClampNeg 0) (xs.getD (nI (i + 2)).toNatClampNeg 0) (kc := 2) (ks := 12) (Nat.le_refl _) (Nat.le_refl _)) (by omega) (by omega) (by omega) (st := []) (Nat.le_of_ble_eq_true rfl) rfl (kr_I fun v1 w1 _ hI1 => ?_) kx_I
  refine J_istore (pc := 1546) dL_law_1546 (by decide) rfl ?_
  show J X mL_law d (kc - 2) (ks - 12) 1548 [some (.retAddr 0), some (.ref 0), some (.ref 19), some (.ref o), some (.int (nI i)), some (.int v1), none] [] w1 Q
  refine J_aload_n (pc := 1548) dL_law_1548 rfl rfl rfl ?_
  refine J_aload_n (pc := 1549) dL_law_1549 rfl rfl rfl ?_
  refine J_iload (pc := 1550) dL_law_1550 rfl ?_
  refine J_iconst (pc := 1552) (v := nI 1) dL_law_1552 (by decide) ?_
  refine J_iaddN (pc := 1553) dL_law_1553 ?_
  refine J_ialdO (pc := 1554) dL_law_1554 hX0 (nI_in (by omega) (by omega)) ?_
  refine J_aload_n (pc := 1555) dL_law_1555 rfl rfl rfl ?_
  refine J_iload (pc := 1556) dL_law_1556 rfl ?_
  refine J_iconst (pc := 1558) (v := nI 2) dL_law_1558 (by decide) ?_
  refine J_iaddN (pc := 1559) dL_law_1559 ?_
  refine J_ialdO (pc := 1560) dL_law_1560 hX0 (nI_in (by omega) (by omega)) ?_
  obtain ⟨f26, h26⟩ := hI1.c19
  refine J_callV (pc := 1561) (M := mL_law) (as := [.int (xs.getD (nI (i + 1)).toNatClampNeg 0), .int (xs.getD (nI (i + 2)).toNatClampNeg 0)]) dL_law_1561 fw_X8_withOrder fl_L_269 fm_X8_withOrder fe_X8_withOrder h26 (by decide) rfl rfl rfl (vv_withOrder hs (d := d - 1) (by omega) hI1 (xs.getD (nI (i + 1)).toNatClampNeg 0) (xs.getD (nI (i + 2)).toNatClampNeg 0) (kc := 13) (ks := 2054) (Nat.le_refl _) (Nat.le_refl _)) (by omega) (by omega) (by omega) (st := []) (Nat.le_of_ble_eq_true rfl) rfl (kr_I fun v26 w26 _ hI26 => ?_) kx_I
  refine J_istore (pc := 1564) dL_law_1564 (by decide) rfl ?_
  show J X mL_law d (kc - 2 - 13) (ks - 12 - 2054) 1566 [some (.retAddr 0), some (.ref 0), some (.ref 19), some (.ref o), some (.int (nI i)), some (.int v1), some (.int v26)] [] w26 Q
  refine J_goto (pc := 1566) (tgt := 2025) dL_law_1566 (by decide) ?_
  exact J_sub (L' := [some (.retAddr 0), some (.ref 0), some (.ref 19), some (.ref o), some (.int (nI i)), none, none]) ⟨rfl, rfl, rfl, rfl, rfl, trivial⟩ ((ih _ _ hI26).mono (by omega) (by omega) (fun _ _ h => h))
set_option maxRecDepth 100000 in
set_option maxHeartbeats 4000000 in
theorem s_33 {X : jX} (hs : X.1.stackTraces = false) (hXO : XO X) {xs : List Int32} (hX0 : X.2.2.2.2.2[0]? = some (.inl (0, xs))) (hX1 : xs.length ≤ 320) {d : Nat} (hd : 45 ≤ d) {o : Nat} {S : StX} {w : List jC} (hI : LI o S S w) {i : Nat} (hi : i + 5 ≤ xs.length) {kc ks : Nat} (hkc : 700 ≤ kc) (hks : 40000 ≤ ks) {Q : jQ} (ih : ∀ (S' : StX) (w' : List jC), LI o S' S' w' → J X mL_law d (kc - 700) (ks - 40000) 2025 [some (.retAddr 0), some (.ref 0), some (.ref 19), some (.ref o), some (.int (nI i)), none, none] [] w' Q) : J X mL_law d kc ks 1569 [some (.retAddr 0), some (.ref 0), some (.ref 19), some (.ref o), some (.int (nI i)), none, none] [] w Q := by
  refine J_aload_n (pc := 1569) dL_law_1569 rfl rfl rfl ?_
  refine J_aload_n (pc := 1570) dL_law_1570 rfl rfl rfl ?_
  refine J_iload (pc := 1571) dL_law_1571 rfl ?_
  refine J_iconst (pc := 1573) (v := nI 1) dL_law_1573 (by decide) ?_
  refine J_iaddN (pc := 1574) dL_law_1574 ?_
  refine J_ialdO (pc := 1575) dL_law_1575 hX0 (nI_in (by omega) (by omega)) ?_
  refine J_aload_n (pc := 1576) dL_law_1576 rfl rfl rfl ?_
  refine J_callSX (pc := 1577) (M := mL_law) (as := [.ref 0, .int (xs.getD (nI (i + 1)).toNatClampNeg 0), .ref o]) dL_law_1577 fw_L_even fl_L_270 fs_L_even rfl (c_L_even hs (d := d - 1) (by omega) hI (xs.getD (nI (i + 1)).toNatClampNeg 0) (kc := 1) (ks := 6) (Nat.le_refl _) (Nat.le_refl _)) (by omega) (by omega) (by omega) (st := []) (Nat.le_of_ble_eq_true rfl) rfl (kr_I fun v1 w1 _ hI1 => ?_) kx_I
  refine J_istore (pc := 1580) dL_law_1580 (by decide) rfl ?_
  show J X mL_law d (kc - 1) (ks - 6) 1582 [some (.retAddr 0), some (.ref 0), some (.ref 19), some (.ref o), some (.int (nI i)), some (.int v1), none] [] w1 Q
  refine J_aload_n (pc := 1582) dL_law_1582 rfl rfl rfl ?_
  refine J_aload_n (pc := 1583) dL_law_1583 rfl rfl rfl ?_
  refine J_iload (pc := 1584) dL_law_1584 rfl ?_
  refine J_iconst (pc := 1586) (v := nI 1) dL_law_1586 (by decide) ?_
  refine J_iaddN (pc := 1587) dL_law_1587 ?_
  refine J_ialdO (pc := 1588) dL_law_1588 hX0 (nI_in (by omega) (by omega)) ?_
  obtain ⟨f16, h16⟩ := hI1.c19
  refine J_callV (pc := 1589) (M := mL_law) (as := [.int (xs.getD (nI (i + 1)).toNatClampNeg 0)]) dL_law_1589 fw_X8_even fl_L_272 fm_X8_even fe_X8_even h16 (by decide) rfl rfl rfl (vv_even hs (d := d - 1) (by omega) hI1 (xs.getD (nI (i + 1)).toNatClampNeg 0) (kc := 13) (ks := 2054) (Nat.le_refl _) (Nat.le_refl _)) (by omega) (by omega) (by omega) (st := []) (Nat.le_of_ble_eq_true rfl) rfl (kr_I fun v16 w16 _ hI16 => ?_) kx_I
  refine J_istore (pc := 1592) dL_law_1592 (by decide) rfl ?_
  show J X mL_law d (kc - 1 - 13) (ks - 6 - 2054) 1594 [some (.retAddr 0), some (.ref 0), some (.ref 19), some (.ref o), some (.int (nI i)), some (.int v1), some (.int v16)] [] w16 Q
  refine J_goto (pc := 1594) (tgt := 2025) dL_law_1594 (by decide) ?_
  exact J_sub (L' := [some (.retAddr 0), some (.ref 0), some (.ref 19), some (.ref o), some (.int (nI i)), none, none]) ⟨rfl, rfl, rfl, rfl, rfl, trivial⟩ ((ih _ _ hI16).mono (by omega) (by omega) (fun _ _ h => h))
set_option maxRecDepth 100000 in
set_option maxHeartbeats 4000000 in
theorem s_34 {X : jX} (hs : X.1.stackTraces = false) (hXO : XO X) {xs : List Int32} (hX0 : X.2.2.2.2.2[0]? = some (.inl (0, xs))) (hX1 : xs.length ≤ 320) {d : Nat} (hd : 45 ≤ d) {o : Nat} {S : StX} {w : List jC} (hI : LI o S S w) {i : Nat} (hi : i + 5 ≤ xs.length) {kc ks : Nat} (hkc : 700 ≤ kc) (hks : 40000 ≤ ks) {Q : jQ} (ih : ∀ (S' : StX) (w' : List jC), LI o S' S' w' → J X mL_law d (kc - 700) (ks - 40000) 2025 [some (.retAddr 0), some (.ref 0), some (.ref 19), some (.ref o), some (.int (nI i)), none, none] [] w' Q) : J X mL_law d kc ks 1597 [some (.retAddr 0), some (.ref 0), some (.ref 19), some (.ref o), some (.int (nI i)), none, none] [] w Q := by
  refine J_aload_n (pc := 1597) dL_law_1597 rfl rfl rfl ?_
  refine J_aload_n (pc := 1598) dL_law_1598 rfl rfl rfl ?_
  refine J_iload (pc := 1599) dL_law_1599 rfl ?_
  refine J_iconst (pc := 1601) (v := nI 1) dL_law_1601 (by decide) ?_
  refine J_iaddN (pc := 1602) dL_law_1602 ?_
  refine J_ialdO (pc := 1603) dL_law_1603 hX0 (nI_in (by omega) (by omega)) ?_
  refine J_aload_n (pc := 1604) dL_law_1604 rfl rfl rfl ?_
  refine J_iload (pc := 1605) dL_law_1605 rfl ?_
  refine J_iconst (pc := 1607) (v := nI 2) dL_law_1607 (by decide) ?_
  refine J_iaddN (pc := 1608) dL_law_1608 ?_
  refine J_ialdO (pc := 1609) dL_law_1609 hX0 (nI_in (by omega) (by omega)) ?_
  refine J_aload_n (pc := 1610) dL_law_1610 rfl rfl rfl ?_
  refine J_iload (pc := 1611) dL_law_1611 rfl ?_
  refine J_iconst (pc := 1613) (v := nI 3) dL_law_1613 (by decide) ?_
  refine J_iaddN (pc := 1614) dL_law_1614 ?_
  refine J_ialdO (pc := 1615) dL_law_1615 hX0 (nI_in (by omega) (by omega)) ?_
  refine J_aload_n (pc := 1616) dL_law_1616 rfl rfl rfl ?_
  refine J_callSX (pc := 1617) (M := mL_law) (as := [.ref 0, .int (xs.getD (nI (i + 1)).toNatClampNeg 0), .int (xs.getD (nI (i + 2)).toNatClampNeg 0), .int (xs.getD (nI (i + 3)).toNatClampNeg 0), .ref o]) dL_law_1617 fw_L_colourings fl_L_273 fs_L_colourings rfl (c_L_colourings hs (d := d - 1) (by omega) hI (xs.getD (nI (i + 1)).toNatClampNeg 0) (xs.getD (nI (i + 2)).toNatClampNeg 0) (xs.getD (nI (i + 3)).toNatClampNeg 0) (kc := 3) (ks := 18) (Nat.le_refl _) (Nat.le_refl _)) (by omega) (by omega) (by omega) (st := []) (Nat.le_of_ble_eq_true rfl) rfl (kr_I fun v1 w1 _ hI1 => ?_) kx_I
  refine J_istore (pc := 1620) dL_law_1620 (by decide) rfl ?_
  show J X mL_law d (kc - 3) (ks - 18) 1622 [some (.retAddr 0), some (.ref 0), some (.ref 19), some (.ref o), some (.int (nI i)), some (.int v1), none] [] w1 Q
  refine J_aload_n (pc := 1622) dL_law_1622 rfl rfl rfl ?_
  refine J_aload_n (pc := 1623) dL_law_1623 rfl rfl rfl ?_
  refine J_iload (pc := 1624) dL_law_1624 rfl ?_
  refine J_iconst (pc := 1626) (v := nI 1) dL_law_1626 (by decide) ?_
  refine J_iaddN (pc := 1627) dL_law_1627 ?_
  refine J_ialdO (pc := 1628) dL_law_1628 hX0 (nI_in (by omega) (by omega)) ?_
  refine J_aload_n (pc := 1629) dL_law_1629 rfl rfl rfl ?_
  refine J_iload (pc := 1630) dL_law_1630 rfl ?_
  refine J_iconst (pc := 1632) (v := nI 2) dL_law_1632 (by decide) ?_
  refine J_iaddN (pc := 1633) dL_law_1633 ?_
  refine J_ialdO (pc := 1634) dL_law_1634 hX0 (nI_in (by omega) (by omega)) ?_
  refine J_aload_n (pc := 1635) dL_law_1635 rfl rfl rfl ?_
  refine J_iload (pc := 1636) dL_law_1636 rfl ?_
  refine J_iconst (pc := 1638) (v := nI 3) dL_law_1638 (by decide) ?_
  refine J_iaddN (pc := 1639) dL_law_1639 ?_
  refine J_ialdO (pc := 1640) dL_law_1640 hX0 (nI_in (by omega) (by omega)) ?_
  obtain ⟨f36, h36⟩ := hI1.c19
  refine J_callV (pc := 1641) (M := mL_law) (as := [.int (xs.getD (nI (i + 1)).toNatClampNeg 0), .int (xs.getD (nI (i + 2)).toNatClampNeg 0), .int (xs.getD (nI (i + 3)).toNatClampNeg 0)]) dL_law_1641 fw_X8_colourings fl_L_275 fm_X8_colourings fe_X8_colourings h36 (by decide) rfl rfl rfl (vv_colourings hs (d := d - 1) (by omega) hI1 (xs.getD (nI (i + 1)).toNatClampNeg 0) (xs.getD (nI (i + 2)).toNatClampNeg 0) (xs.getD (nI (i + 3)).toNatClampNeg 0) (kc := 15) (ks := 6428) (Nat.le_refl _) (Nat.le_refl _)) (by omega) (by omega) (by omega) (st := []) (Nat.le_of_ble_eq_true rfl) rfl (kr_I fun v36 w36 _ hI36 => ?_) kx_I
  refine J_istore (pc := 1644) dL_law_1644 (by decide) rfl ?_
  show J X mL_law d (kc - 3 - 15) (ks - 18 - 6428) 1646 [some (.retAddr 0), some (.ref 0), some (.ref 19), some (.ref o), some (.int (nI i)), some (.int v1), some (.int v36)] [] w36 Q
  refine J_goto (pc := 1646) (tgt := 2025) dL_law_1646 (by decide) ?_
  exact J_sub (L' := [some (.retAddr 0), some (.ref 0), some (.ref 19), some (.ref o), some (.int (nI i)), none, none]) ⟨rfl, rfl, rfl, rfl, rfl, trivial⟩ ((ih _ _ hI36).mono (by omega) (by omega) (fun _ _ h => h))
set_option maxRecDepth 100000 in
set_option maxHeartbeats 4000000 in
theorem s_35 {X : jX} (hs : X.1.stackTraces = false) (hXO : XO X) {xs : List Int32} (hX0 : X.2.2.2.2.2[0]? = some (.inl (0, xs))) (hX1 : xs.length ≤ 320) {d : Nat} (hd : 45 ≤ d) {o : Nat} {S : StX} {w : List jC} (hI : LI o S S w) {i : Nat} (hi : i + 5 ≤ xs.length) {kc ks : Nat} (hkc : 700 ≤ kc) (hks : 40000 ≤ ks) {Q : jQ} (ih : ∀ (S' : StX) (w' : List jC), LI o S' S' w' → J X mL_law d (kc - 700) (ks - 40000) 2025 [some (.retAddr 0), some (.ref 0), some (.ref 19), some (.ref o), some (.int (nI i)), none, none] [] w' Q) : J X mL_law d kc ks 1649 [some (.retAddr 0), some (.ref 0), some (.ref 19), some (.ref o), some (.int (nI i)), none, none] [] w Q := by
  refine J_aload_n (pc := 1649) dL_law_1649 rfl rfl rfl ?_
  refine J_aload_n (pc := 1650) dL_law_1650 rfl rfl rfl ?_
  refine J_iload (pc := 1651) dL_law_1651 rfl ?_
  refine J_iconst (pc := 1653) (v := nI 1) dL_law_1653 (by decide) ?_
  refine J_iaddN (pc := 1654) dL_law_1654 ?_
  refine J_ialdO (pc := 1655) dL_law_1655 hX0 (nI_in (by omega) (by omega)) ?_
  refine J_aload_n (pc := 1656) dL_law_1656 rfl rfl rfl ?_
  refine J_iload (pc := 1657) dL_law_1657 rfl ?_
  refine J_iconst (pc := 1659) (v := nI 2) dL_law_1659 (by decide) ?_
  refine J_iaddN (pc := 1660) dL_law_1660 ?_
  refine J_ialdO (pc := 1661) dL_law_1661 hX0 (nI_in (by omega) (by omega)) ?_
  refine J_aload_n (pc := 1662) dL_law_1662 rfl rfl rfl ?_
  refine J_callSX (pc := 1663) (M := mL_law) (as := [.ref 0, .int (xs.getD (nI (i + 1)).toNatClampNeg 0), .int (xs.getD (nI (i + 2)).toNatClampNeg 0), .ref o]) dL_law_1663 fw_L_isPart fl_L_276 fs_L_isPart rfl (c_L_isPart hs (d := d - 1) (by omega) hI (xs.getD (nI (i + 1)).toNatClampNeg 0) (xs.getD (nI (i + 2)).toNatClampNeg 0) (kc := 2) (ks := 12) (Nat.le_refl _) (Nat.le_refl _)) (by omega) (by omega) (by omega) (st := []) (Nat.le_of_ble_eq_true rfl) rfl (kr_I fun v1 w1 _ hI1 => ?_) kx_I
  refine J_istore (pc := 1666) dL_law_1666 (by decide) rfl ?_
  show J X mL_law d (kc - 2) (ks - 12) 1668 [some (.retAddr 0), some (.ref 0), some (.ref 19), some (.ref o), some (.int (nI i)), some (.int v1), none] [] w1 Q
  refine J_aload_n (pc := 1668) dL_law_1668 rfl rfl rfl ?_
  refine J_aload_n (pc := 1669) dL_law_1669 rfl rfl rfl ?_
  refine J_iload (pc := 1670) dL_law_1670 rfl ?_
  refine J_iconst (pc := 1672) (v := nI 1) dL_law_1672 (by decide) ?_
  refine J_iaddN (pc := 1673) dL_law_1673 ?_
  refine J_ialdO (pc := 1674) dL_law_1674 hX0 (nI_in (by omega) (by omega)) ?_
  refine J_aload_n (pc := 1675) dL_law_1675 rfl rfl rfl ?_
  refine J_iload (pc := 1676) dL_law_1676 rfl ?_
  refine J_iconst (pc := 1678) (v := nI 2) dL_law_1678 (by decide) ?_
  refine J_iaddN (pc := 1679) dL_law_1679 ?_
  refine J_ialdO (pc := 1680) dL_law_1680 hX0 (nI_in (by omega) (by omega)) ?_
  obtain ⟨f26, h26⟩ := hI1.c19
  refine J_callV (pc := 1681) (M := mL_law) (as := [.int (xs.getD (nI (i + 1)).toNatClampNeg 0), .int (xs.getD (nI (i + 2)).toNatClampNeg 0)]) dL_law_1681 fw_X8_isPart fl_L_278 fm_X8_isPart fe_X8_isPart h26 (by decide) rfl rfl rfl (vv_isPart hs (d := d - 1) (by omega) hI1 (xs.getD (nI (i + 1)).toNatClampNeg 0) (xs.getD (nI (i + 2)).toNatClampNeg 0) (kc := 78) (ks := 12324) (Nat.le_refl _) (Nat.le_refl _)) (by omega) (by omega) (by omega) (st := []) (Nat.le_of_ble_eq_true rfl) rfl (kr_I fun v26 w26 _ hI26 => ?_) kx_I
  refine J_istore (pc := 1684) dL_law_1684 (by decide) rfl ?_
  show J X mL_law d (kc - 2 - 78) (ks - 12 - 12324) 1686 [some (.retAddr 0), some (.ref 0), some (.ref 19), some (.ref o), some (.int (nI i)), some (.int v1), some (.int v26)] [] w26 Q
  refine J_goto (pc := 1686) (tgt := 2025) dL_law_1686 (by decide) ?_
  exact J_sub (L' := [some (.retAddr 0), some (.ref 0), some (.ref 19), some (.ref o), some (.int (nI i)), none, none]) ⟨rfl, rfl, rfl, rfl, rfl, trivial⟩ ((ih _ _ hI26).mono (by omega) (by omega) (fun _ _ h => h))
set_option maxRecDepth 100000 in
set_option maxHeartbeats 4000000 in
theorem s_36 {X : jX} (hs : X.1.stackTraces = false) (hXO : XO X) {xs : List Int32} (hX0 : X.2.2.2.2.2[0]? = some (.inl (0, xs))) (hX1 : xs.length ≤ 320) {d : Nat} (hd : 45 ≤ d) {o : Nat} {S : StX} {w : List jC} (hI : LI o S S w) {i : Nat} (hi : i + 5 ≤ xs.length) {kc ks : Nat} (hkc : 700 ≤ kc) (hks : 40000 ≤ ks) {Q : jQ} (ih : ∀ (S' : StX) (w' : List jC), LI o S' S' w' → J X mL_law d (kc - 700) (ks - 40000) 2025 [some (.retAddr 0), some (.ref 0), some (.ref 19), some (.ref o), some (.int (nI i)), none, none] [] w' Q) : J X mL_law d kc ks 1689 [some (.retAddr 0), some (.ref 0), some (.ref 19), some (.ref o), some (.int (nI i)), none, none] [] w Q := by
  refine J_aload_n (pc := 1689) dL_law_1689 rfl rfl rfl ?_
  refine J_aload_n (pc := 1690) dL_law_1690 rfl rfl rfl ?_
  refine J_iload (pc := 1691) dL_law_1691 rfl ?_
  refine J_iconst (pc := 1693) (v := nI 1) dL_law_1693 (by decide) ?_
  refine J_iaddN (pc := 1694) dL_law_1694 ?_
  refine J_ialdO (pc := 1695) dL_law_1695 hX0 (nI_in (by omega) (by omega)) ?_
  refine J_aload_n (pc := 1696) dL_law_1696 rfl rfl rfl ?_
  refine J_iload (pc := 1697) dL_law_1697 rfl ?_
  refine J_iconst (pc := 1699) (v := nI 2) dL_law_1699 (by decide) ?_
  refine J_iaddN (pc := 1700) dL_law_1700 ?_
  refine J_ialdO (pc := 1701) dL_law_1701 hX0 (nI_in (by omega) (by omega)) ?_
  refine J_aload_n (pc := 1702) dL_law_1702 rfl rfl rfl ?_
  refine J_callSX (pc := 1703) (M := mL_law) (as := [.ref 0, .int (xs.getD (nI (i + 1)).toNatClampNeg 0), .int (xs.getD (nI (i + 2)).toNatClampNeg 0), .ref o]) dL_law_1703 fw_L_shares fl_L_279 fs_L_shares rfl (c_L_shares hs (d := d - 1) (by omega) hI (xs.getD (nI (i + 1)).toNatClampNeg 0) (xs.getD (nI (i + 2)).toNatClampNeg 0) (kc := 2) (ks := 12) (Nat.le_refl _) (Nat.le_refl _)) (by omega) (by omega) (by omega) (st := []) (Nat.le_of_ble_eq_true rfl) rfl (kr_I fun v1 w1 _ hI1 => ?_) kx_I
  refine J_istore (pc := 1706) dL_law_1706 (by decide) rfl ?_
  show J X mL_law d (kc - 2) (ks - 12) 1708 [some (.retAddr 0), some (.ref 0), some (.ref 19), some (.ref o), some (.int (nI i)), some (.int v1), none] [] w1 Q
  refine J_aload_n (pc := 1708) dL_law_1708 rfl rfl rfl ?_
  refine J_aload_n (pc := 1709) dL_law_1709 rfl rfl rfl ?_
  refine J_iload (pc := 1710) dL_law_1710 rfl ?_
  refine J_iconst (pc := 1712) (v := nI 1) dL_law_1712 (by decide) ?_
  refine J_iaddN (pc := 1713) dL_law_1713 ?_
  refine J_ialdO (pc := 1714) dL_law_1714 hX0 (nI_in (by omega) (by omega)) ?_
  refine J_aload_n (pc := 1715) dL_law_1715 rfl rfl rfl ?_
  refine J_iload (pc := 1716) dL_law_1716 rfl ?_
  refine J_iconst (pc := 1718) (v := nI 2) dL_law_1718 (by decide) ?_
  refine J_iaddN (pc := 1719) dL_law_1719 ?_
  refine J_ialdO (pc := 1720) dL_law_1720 hX0 (nI_in (by omega) (by omega)) ?_
  obtain ⟨f26, h26⟩ := hI1.c19
  refine J_callV (pc := 1721) (M := mL_law) (as := [.int (xs.getD (nI (i + 1)).toNatClampNeg 0), .int (xs.getD (nI (i + 2)).toNatClampNeg 0)]) dL_law_1721 fw_X8_shares fl_L_281 fm_X8_shares fe_X8_shares h26 (by decide) rfl rfl rfl (vv_shares hs (d := d - 1) (by omega) hI1 (xs.getD (nI (i + 1)).toNatClampNeg 0) (xs.getD (nI (i + 2)).toNatClampNeg 0) (kc := 104) (ks := 16432) (Nat.le_refl _) (Nat.le_refl _)) (by omega) (by omega) (by omega) (st := []) (Nat.le_of_ble_eq_true rfl) rfl (kr_I fun v26 w26 _ hI26 => ?_) kx_I
  refine J_istore (pc := 1724) dL_law_1724 (by decide) rfl ?_
  show J X mL_law d (kc - 2 - 104) (ks - 12 - 16432) 1726 [some (.retAddr 0), some (.ref 0), some (.ref 19), some (.ref o), some (.int (nI i)), some (.int v1), some (.int v26)] [] w26 Q
  refine J_goto (pc := 1726) (tgt := 2025) dL_law_1726 (by decide) ?_
  exact J_sub (L' := [some (.retAddr 0), some (.ref 0), some (.ref 19), some (.ref o), some (.int (nI i)), none, none]) ⟨rfl, rfl, rfl, rfl, rfl, trivial⟩ ((ih _ _ hI26).mono (by omega) (by omega) (fun _ _ h => h))
set_option maxRecDepth 100000 in
set_option maxHeartbeats 4000000 in
theorem s_37 {X : jX} (hs : X.1.stackTraces = false) (hXO : XO X) {xs : List Int32} (hX0 : X.2.2.2.2.2[0]? = some (.inl (0, xs))) (hX1 : xs.length ≤ 320) {d : Nat} (hd : 45 ≤ d) {o : Nat} {S : StX} {w : List jC} (hI : LI o S S w) {i : Nat} (hi : i + 5 ≤ xs.length) {kc ks : Nat} (hkc : 700 ≤ kc) (hks : 40000 ≤ ks) {Q : jQ} (ih : ∀ (S' : StX) (w' : List jC), LI o S' S' w' → J X mL_law d (kc - 700) (ks - 40000) 2025 [some (.retAddr 0), some (.ref 0), some (.ref 19), some (.ref o), some (.int (nI i)), none, none] [] w' Q) : J X mL_law d kc ks 1729 [some (.retAddr 0), some (.ref 0), some (.ref 19), some (.ref o), some (.int (nI i)), none, none] [] w Q := by
  refine J_aload_n (pc := 1729) dL_law_1729 rfl rfl rfl ?_
  refine J_aload_n (pc := 1730) dL_law_1730 rfl rfl rfl ?_
  refine J_iload (pc := 1731) dL_law_1731 rfl ?_
  refine J_iconst (pc := 1733) (v := nI 1) dL_law_1733 (by decide) ?_
  refine J_iaddN (pc := 1734) dL_law_1734 ?_
  refine J_ialdO (pc := 1735) dL_law_1735 hX0 (nI_in (by omega) (by omega)) ?_
  refine J_aload_n (pc := 1736) dL_law_1736 rfl rfl rfl ?_
  refine J_iload (pc := 1737) dL_law_1737 rfl ?_
  refine J_iconst (pc := 1739) (v := nI 2) dL_law_1739 (by decide) ?_
  refine J_iaddN (pc := 1740) dL_law_1740 ?_
  refine J_ialdO (pc := 1741) dL_law_1741 hX0 (nI_in (by omega) (by omega)) ?_
  refine J_aload_n (pc := 1742) dL_law_1742 rfl rfl rfl ?_
  refine J_callSX (pc := 1743) (M := mL_law) (as := [.ref 0, .int (xs.getD (nI (i + 1)).toNatClampNeg 0), .int (xs.getD (nI (i + 2)).toNatClampNeg 0), .ref o]) dL_law_1743 fw_L_share fl_L_282 fs_L_share rfl (c_L_share hs (d := d - 1) (by omega) hI (xs.getD (nI (i + 1)).toNatClampNeg 0) (xs.getD (nI (i + 2)).toNatClampNeg 0) (kc := 2) (ks := 12) (Nat.le_refl _) (Nat.le_refl _)) (by omega) (by omega) (by omega) (st := []) (Nat.le_of_ble_eq_true rfl) rfl (kr_I fun v1 w1 _ hI1 => ?_) kx_I
  refine J_istore (pc := 1746) dL_law_1746 (by decide) rfl ?_
  show J X mL_law d (kc - 2) (ks - 12) 1748 [some (.retAddr 0), some (.ref 0), some (.ref 19), some (.ref o), some (.int (nI i)), some (.int v1), none] [] w1 Q
  refine J_aload_n (pc := 1748) dL_law_1748 rfl rfl rfl ?_
  refine J_aload_n (pc := 1749) dL_law_1749 rfl rfl rfl ?_
  refine J_iload (pc := 1750) dL_law_1750 rfl ?_
  refine J_iconst (pc := 1752) (v := nI 1) dL_law_1752 (by decide) ?_
  refine J_iaddN (pc := 1753) dL_law_1753 ?_
  refine J_ialdO (pc := 1754) dL_law_1754 hX0 (nI_in (by omega) (by omega)) ?_
  refine J_aload_n (pc := 1755) dL_law_1755 rfl rfl rfl ?_
  refine J_iload (pc := 1756) dL_law_1756 rfl ?_
  refine J_iconst (pc := 1758) (v := nI 2) dL_law_1758 (by decide) ?_
  refine J_iaddN (pc := 1759) dL_law_1759 ?_
  refine J_ialdO (pc := 1760) dL_law_1760 hX0 (nI_in (by omega) (by omega)) ?_
  obtain ⟨f26, h26⟩ := hI1.c19
  refine J_callV (pc := 1761) (M := mL_law) (as := [.int (xs.getD (nI (i + 1)).toNatClampNeg 0), .int (xs.getD (nI (i + 2)).toNatClampNeg 0)]) dL_law_1761 fw_X8_share fl_L_284 fm_X8_share fe_X8_share h26 (by decide) rfl rfl rfl (vv_share hs (d := d - 1) (by omega) hI1 (xs.getD (nI (i + 1)).toNatClampNeg 0) (xs.getD (nI (i + 2)).toNatClampNeg 0) (kc := 13) (ks := 2054) (Nat.le_refl _) (Nat.le_refl _)) (by omega) (by omega) (by omega) (st := []) (Nat.le_of_ble_eq_true rfl) rfl (kr_I fun v26 w26 _ hI26 => ?_) kx_I
  refine J_istore (pc := 1764) dL_law_1764 (by decide) rfl ?_
  show J X mL_law d (kc - 2 - 13) (ks - 12 - 2054) 1766 [some (.retAddr 0), some (.ref 0), some (.ref 19), some (.ref o), some (.int (nI i)), some (.int v1), some (.int v26)] [] w26 Q
  refine J_goto (pc := 1766) (tgt := 2025) dL_law_1766 (by decide) ?_
  exact J_sub (L' := [some (.retAddr 0), some (.ref 0), some (.ref 19), some (.ref o), some (.int (nI i)), none, none]) ⟨rfl, rfl, rfl, rfl, rfl, trivial⟩ ((ih _ _ hI26).mono (by omega) (by omega) (fun _ _ h => h))
set_option maxRecDepth 100000 in
set_option maxHeartbeats 4000000 in
theorem s_38 {X : jX} (hs : X.1.stackTraces = false) (hXO : XO X) {xs : List Int32} (hX0 : X.2.2.2.2.2[0]? = some (.inl (0, xs))) (hX1 : xs.length ≤ 320) {d : Nat} (hd : 45 ≤ d) {o : Nat} {S : StX} {w : List jC} (hI : LI o S S w) {i : Nat} (hi : i + 5 ≤ xs.length) {kc ks : Nat} (hkc : 700 ≤ kc) (hks : 40000 ≤ ks) {Q : jQ} (ih : ∀ (S' : StX) (w' : List jC), LI o S' S' w' → J X mL_law d (kc - 700) (ks - 40000) 2025 [some (.retAddr 0), some (.ref 0), some (.ref 19), some (.ref o), some (.int (nI i)), none, none] [] w' Q) : J X mL_law d kc ks 1769 [some (.retAddr 0), some (.ref 0), some (.ref 19), some (.ref o), some (.int (nI i)), none, none] [] w Q := by
  refine J_aload_n (pc := 1769) dL_law_1769 rfl rfl rfl ?_
  refine J_aload_n (pc := 1770) dL_law_1770 rfl rfl rfl ?_
  refine J_iload (pc := 1771) dL_law_1771 rfl ?_
  refine J_iconst (pc := 1773) (v := nI 1) dL_law_1773 (by decide) ?_
  refine J_iaddN (pc := 1774) dL_law_1774 ?_
  refine J_ialdO (pc := 1775) dL_law_1775 hX0 (nI_in (by omega) (by omega)) ?_
  refine J_aload_n (pc := 1776) dL_law_1776 rfl rfl rfl ?_
  refine J_iload (pc := 1777) dL_law_1777 rfl ?_
  refine J_iconst (pc := 1779) (v := nI 2) dL_law_1779 (by decide) ?_
  refine J_iaddN (pc := 1780) dL_law_1780 ?_
  refine J_ialdO (pc := 1781) dL_law_1781 hX0 (nI_in (by omega) (by omega)) ?_
  refine J_aload_n (pc := 1782) dL_law_1782 rfl rfl rfl ?_
  refine J_iload (pc := 1783) dL_law_1783 rfl ?_
  refine J_iconst (pc := 1785) (v := nI 3) dL_law_1785 (by decide) ?_
  refine J_iaddN (pc := 1786) dL_law_1786 ?_
  refine J_ialdO (pc := 1787) dL_law_1787 hX0 (nI_in (by omega) (by omega)) ?_
  refine J_aload_n (pc := 1788) dL_law_1788 rfl rfl rfl ?_
  refine J_callSX (pc := 1789) (M := mL_law) (as := [.ref 0, .int (xs.getD (nI (i + 1)).toNatClampNeg 0), .int (xs.getD (nI (i + 2)).toNatClampNeg 0), .int (xs.getD (nI (i + 3)).toNatClampNeg 0), .ref o]) dL_law_1789 fw_L_together fl_L_285 fs_L_together rfl (c_L_together hs (d := d - 1) (by omega) hI (xs.getD (nI (i + 1)).toNatClampNeg 0) (xs.getD (nI (i + 2)).toNatClampNeg 0) (xs.getD (nI (i + 3)).toNatClampNeg 0) (kc := 3) (ks := 18) (Nat.le_refl _) (Nat.le_refl _)) (by omega) (by omega) (by omega) (st := []) (Nat.le_of_ble_eq_true rfl) rfl (kr_I fun v1 w1 _ hI1 => ?_) kx_I
  refine J_istore (pc := 1792) dL_law_1792 (by decide) rfl ?_
  show J X mL_law d (kc - 3) (ks - 18) 1794 [some (.retAddr 0), some (.ref 0), some (.ref 19), some (.ref o), some (.int (nI i)), some (.int v1), none] [] w1 Q
  refine J_aload_n (pc := 1794) dL_law_1794 rfl rfl rfl ?_
  refine J_aload_n (pc := 1795) dL_law_1795 rfl rfl rfl ?_
  refine J_iload (pc := 1796) dL_law_1796 rfl ?_
  refine J_iconst (pc := 1798) (v := nI 1) dL_law_1798 (by decide) ?_
  refine J_iaddN (pc := 1799) dL_law_1799 ?_
  refine J_ialdO (pc := 1800) dL_law_1800 hX0 (nI_in (by omega) (by omega)) ?_
  refine J_aload_n (pc := 1801) dL_law_1801 rfl rfl rfl ?_
  refine J_iload (pc := 1802) dL_law_1802 rfl ?_
  refine J_iconst (pc := 1804) (v := nI 2) dL_law_1804 (by decide) ?_
  refine J_iaddN (pc := 1805) dL_law_1805 ?_
  refine J_ialdO (pc := 1806) dL_law_1806 hX0 (nI_in (by omega) (by omega)) ?_
  refine J_aload_n (pc := 1807) dL_law_1807 rfl rfl rfl ?_
  refine J_iload (pc := 1808) dL_law_1808 rfl ?_
  refine J_iconst (pc := 1810) (v := nI 3) dL_law_1810 (by decide) ?_
  refine J_iaddN (pc := 1811) dL_law_1811 ?_
  refine J_ialdO (pc := 1812) dL_law_1812 hX0 (nI_in (by omega) (by omega)) ?_
  obtain ⟨f36, h36⟩ := hI1.c19
  refine J_callV0 (pc := 1813) (M := mL_law) (as := [.int (xs.getD (nI (i + 1)).toNatClampNeg 0), .int (xs.getD (nI (i + 2)).toNatClampNeg 0), .int (xs.getD (nI (i + 3)).toNatClampNeg 0)]) dL_law_1813 fw_X8_together fl_L_287 fm_X8_together fe_X8_together h36 (by decide) rfl rfl rfl (vv_together hs (d := d - 1) (by omega) hI1 (xs.getD (nI (i + 1)).toNatClampNeg 0) (xs.getD (nI (i + 2)).toNatClampNeg 0) (xs.getD (nI (i + 3)).toNatClampNeg 0) (kc := 0) (ks := 0)) (by omega) (st := []) (Nat.le_of_ble_eq_true rfl) rfl (kr_I fun v36 w36 _ hI36 => ?_) kx_I
  refine J_istore (pc := 1816) dL_law_1816 (by decide) rfl ?_
  show J X mL_law d (kc - 3) (ks - 18) 1818 [some (.retAddr 0), some (.ref 0), some (.ref 19), some (.ref o), some (.int (nI i)), some (.int v1), some (.int v36)] [] w36 Q
  refine J_goto (pc := 1818) (tgt := 2025) dL_law_1818 (by decide) ?_
  exact J_sub (L' := [some (.retAddr 0), some (.ref 0), some (.ref 19), some (.ref o), some (.int (nI i)), none, none]) ⟨rfl, rfl, rfl, rfl, rfl, trivial⟩ ((ih _ _ hI36).mono (by omega) (by omega) (fun _ _ h => h))
set_option maxRecDepth 100000 in
set_option maxHeartbeats 4000000 in
theorem s_39 {X : jX} (hs : X.1.stackTraces = false) (hXO : XO X) {xs : List Int32} (hX0 : X.2.2.2.2.2[0]? = some (.inl (0, xs))) (hX1 : xs.length ≤ 320) {d : Nat} (hd : 45 ≤ d) {o : Nat} {S : StX} {w : List jC} (hI : LI o S S w) {i : Nat} (hi : i + 5 ≤ xs.length) {kc ks : Nat} (hkc : 700 ≤ kc) (hks : 40000 ≤ ks) {Q : jQ} (ih : ∀ (S' : StX) (w' : List jC), LI o S' S' w' → J X mL_law d (kc - 700) (ks - 40000) 2025 [some (.retAddr 0), some (.ref 0), some (.ref 19), some (.ref o), some (.int (nI i)), none, none] [] w' Q) : J X mL_law d kc ks 1821 [some (.retAddr 0), some (.ref 0), some (.ref 19), some (.ref o), some (.int (nI i)), none, none] [] w Q := by
  refine J_aload_n (pc := 1821) dL_law_1821 rfl rfl rfl ?_
  refine J_aload_n (pc := 1822) dL_law_1822 rfl rfl rfl ?_
  refine J_iload (pc := 1823) dL_law_1823 rfl ?_
  refine J_iconst (pc := 1825) (v := nI 1) dL_law_1825 (by decide) ?_
  refine J_iaddN (pc := 1826) dL_law_1826 ?_
  refine J_ialdO (pc := 1827) dL_law_1827 hX0 (nI_in (by omega) (by omega)) ?_
  refine J_aload_n (pc := 1828) dL_law_1828 rfl rfl rfl ?_
  refine J_iload (pc := 1829) dL_law_1829 rfl ?_
  refine J_iconst (pc := 1831) (v := nI 2) dL_law_1831 (by decide) ?_
  refine J_iaddN (pc := 1832) dL_law_1832 ?_
  refine J_ialdO (pc := 1833) dL_law_1833 hX0 (nI_in (by omega) (by omega)) ?_
  refine J_aload_n (pc := 1834) dL_law_1834 rfl rfl rfl ?_
  refine J_iload (pc := 1835) dL_law_1835 rfl ?_
  refine J_iconst (pc := 1837) (v := nI 3) dL_law_1837 (by decide) ?_
  refine J_iaddN (pc := 1838) dL_law_1838 ?_
  refine J_ialdO (pc := 1839) dL_law_1839 hX0 (nI_in (by omega) (by omega)) ?_
  refine J_aload_n (pc := 1840) dL_law_1840 rfl rfl rfl ?_
  refine J_callSX (pc := 1841) (M := mL_law) (as := [.ref 0, .int (xs.getD (nI (i + 1)).toNatClampNeg 0), .int (xs.getD (nI (i + 2)).toNatClampNeg 0), .int (xs.getD (nI (i + 3)).toNatClampNeg 0), .ref o]) dL_law_1841 fw_L_blocks fl_L_288 fs_L_blocks rfl (c_L_blocks hs (d := d - 1) (by omega) hI (xs.getD (nI (i + 1)).toNatClampNeg 0) (xs.getD (nI (i + 2)).toNatClampNeg 0) (xs.getD (nI (i + 3)).toNatClampNeg 0) (kc := 3) (ks := 18) (Nat.le_refl _) (Nat.le_refl _)) (by omega) (by omega) (by omega) (st := []) (Nat.le_of_ble_eq_true rfl) rfl (kr_J fun v1 w1 hv1 => ?_) kx_J
  obtain ⟨k1, x1, S1, hA1, hv1, hI1, hO1⟩ := hv1
  subst hv1
  refine J_istore (pc := 1844) dL_law_1844 (by decide) rfl ?_
  show J X mL_law d (kc - 3) (ks - 18) 1846 [some (.retAddr 0), some (.ref 0), some (.ref 19), some (.ref o), some (.int (nI i)), some (.int (nI k1)), none] [] w1 Q
  refine J_aload_n (pc := 1846) dL_law_1846 rfl rfl rfl ?_
  refine J_aload_n (pc := 1847) dL_law_1847 rfl rfl rfl ?_
  refine J_iload (pc := 1848) dL_law_1848 rfl ?_
  refine J_iconst (pc := 1850) (v := nI 1) dL_law_1850 (by decide) ?_
  refine J_iaddN (pc := 1851) dL_law_1851 ?_
  refine J_ialdO (pc := 1852) dL_law_1852 hX0 (nI_in (by omega) (by omega)) ?_
  refine J_aload_n (pc := 1853) dL_law_1853 rfl rfl rfl ?_
  refine J_iload (pc := 1854) dL_law_1854 rfl ?_
  refine J_iconst (pc := 1856) (v := nI 2) dL_law_1856 (by decide) ?_
  refine J_iaddN (pc := 1857) dL_law_1857 ?_
  refine J_ialdO (pc := 1858) dL_law_1858 hX0 (nI_in (by omega) (by omega)) ?_
  refine J_aload_n (pc := 1859) dL_law_1859 rfl rfl rfl ?_
  refine J_iload (pc := 1860) dL_law_1860 rfl ?_
  refine J_iconst (pc := 1862) (v := nI 3) dL_law_1862 (by decide) ?_
  refine J_iaddN (pc := 1863) dL_law_1863 ?_
  refine J_ialdO (pc := 1864) dL_law_1864 hX0 (nI_in (by omega) (by omega)) ?_
  obtain ⟨f36, h36⟩ := hI1.c19
  refine J_callV0 (pc := 1865) (M := mL_law) (as := [.int (xs.getD (nI (i + 1)).toNatClampNeg 0), .int (xs.getD (nI (i + 2)).toNatClampNeg 0), .int (xs.getD (nI (i + 3)).toNatClampNeg 0)]) dL_law_1865 fw_X8_blocks fl_L_290 fm_X8_blocks fe_X8_blocks h36 (by decide) rfl rfl rfl (vv_blocks hs (d := d - 1) (by omega) hI1 (xs.getD (nI (i + 1)).toNatClampNeg 0) (xs.getD (nI (i + 2)).toNatClampNeg 0) (xs.getD (nI (i + 3)).toNatClampNeg 0) (kc := 0) (ks := 0)) (by omega) (st := []) (Nat.le_of_ble_eq_true rfl) rfl (kr_J fun v2 w2 hv2 => ?_) kx_J
  obtain ⟨k2, S2, hA2, hI2, hO2⟩ := hv2
  obtain ⟨h1, h7, hM⟩ := hI.bd
  obtain ⟨rfl, rfl⟩ := AG.same (fun v v' x y h h' => (fD_blocks h1 h7 hM (xs.getD (nI (i + 1)).toNatClampNeg 0) (xs.getD (nI (i + 2)).toNatClampNeg 0) (xs.getD (nI (i + 3)).toNatClampNeg 0) v v' x y h h').1) hA1 hA2
  have hsm := AG.val (fun v v' x y h h' => (fD_blocks h1 h7 hM (xs.getD (nI (i + 1)).toNatClampNeg 0) (xs.getD (nI (i + 2)).toNatClampNeg 0) (xs.getD (nI (i + 3)).toNatClampNeg 0) v v' x y h h').2) hA1 hA2
  have hk3 := AG.k3 hA1
  have hO : k1 = 0 → ∃ s, w2[o]? = some (.inr (8, [.long x1.toInt64, s])) := fun h => by obtain ⟨s, hs⟩ := hO1 h; exact ⟨s, hO2.trans hs⟩
  have hI3 : LI o S1 S1 w2 := ⟨_, hI2⟩
  refine J_istore (pc := 1868) dL_law_1868 (by decide) rfl ?_
  show J X mL_law d (kc - 3) (ks - 18) 1870 [some (.retAddr 0), some (.ref 0), some (.ref 19), some (.ref o), some (.int (nI i)), some (.int (nI k1)), some (.int v2)] [] w2 Q
  refine J_aload_n (pc := 1870) dL_law_1870 rfl rfl rfl ?_
  obtain ⟨f3, h3⟩ := hI2.c19
  refine J_callV0 (pc := 1871) (M := mL_law) (as := []) dL_law_1871 fw_X8_thrown fl_L_291 fm_X8_thrown fe_X8_thrown h3 (by decide) rfl rfl rfl (vv_thrown hs (d := d - 1) hI2 (kc := 0) (ks := 0)) (by omega) (st := []) (Nat.le_of_ble_eq_true rfl) rfl (kr_P fun v3 hv3 => ?_) kx_I
  subst hv3
  refine J_iload (pc := 1874) dL_law_1874 rfl ?_
  refine J_icmp_eq (pc := 1876) (tgt := 1881) dL_law_1876 (by decide) (fun _ => ?_) (fun h => absurd rfl h)
  refine J_iload (pc := 1881) dL_law_1881 rfl ?_
  have hend : J X mL_law d (kc - 3) (ks - 18) 1899 [some (.retAddr 0), some (.ref 0), some (.ref 19), some (.ref o), some (.int (nI i)), some (.int (nI k1)), some (.int v2)] [] w2 Q := by
    refine J_goto (pc := 1899) (tgt := 2025) dL_law_1899 (by decide) ?_
    exact J_sub (L' := [some (.retAddr 0), some (.ref 0), some (.ref 19), some (.ref o), some (.int (nI i)), none, none]) ⟨rfl, rfl, rfl, rfl, rfl, trivial⟩ ((ih _ _ hI3).mono (by omega) (by omega) (fun _ _ h => h))
  refine J_if_neN (pc := 1883) (tgt := 1899) dL_law_1883 (by decide) (by omega) (fun _ => hend) (fun h0 => ?_)
  obtain ⟨s4, hO4⟩ := hO h0
  refine J_aload_n (pc := 1886) dL_law_1886 rfl rfl rfl ?_
  refine J_getN (pc := 1887) (k := 0) dL_law_1887 kC8 (by decide) ff_L_13 hO4 rfl ?_
  refine J_iload (pc := 1890) dL_law_1890 rfl ?_
  refine J_i2l (pc := 1892) dL_law_1892 ?_
  refine J_lcmp (pc := 1893) dL_law_1893 ?_
  exact J_if_eq (pc := 1894) (tgt := 1899) dL_law_1894 (by decide) (fun _ => hend) (fun h => absurd (lg_same (by rw [hsm h0])) h)
set_option maxRecDepth 100000 in
set_option maxHeartbeats 4000000 in
theorem s_40 {X : jX} (hs : X.1.stackTraces = false) (hXO : XO X) {xs : List Int32} (hX0 : X.2.2.2.2.2[0]? = some (.inl (0, xs))) (hX1 : xs.length ≤ 320) {d : Nat} (hd : 45 ≤ d) {o : Nat} {S : StX} {w : List jC} (hI : LI o S S w) {i : Nat} (hi : i + 5 ≤ xs.length) {kc ks : Nat} (hkc : 700 ≤ kc) (hks : 40000 ≤ ks) {Q : jQ} (ih : ∀ (S' : StX) (w' : List jC), LI o S' S' w' → J X mL_law d (kc - 700) (ks - 40000) 2025 [some (.retAddr 0), some (.ref 0), some (.ref 19), some (.ref o), some (.int (nI i)), none, none] [] w' Q) : J X mL_law d kc ks 1902 [some (.retAddr 0), some (.ref 0), some (.ref 19), some (.ref o), some (.int (nI i)), none, none] [] w Q := by
  refine J_aload_n (pc := 1902) dL_law_1902 rfl rfl rfl ?_
  refine J_aload_n (pc := 1903) dL_law_1903 rfl rfl rfl ?_
  refine J_iload (pc := 1904) dL_law_1904 rfl ?_
  refine J_iconst (pc := 1906) (v := nI 1) dL_law_1906 (by decide) ?_
  refine J_iaddN (pc := 1907) dL_law_1907 ?_
  refine J_ialdO (pc := 1908) dL_law_1908 hX0 (nI_in (by omega) (by omega)) ?_
  refine J_aload_n (pc := 1909) dL_law_1909 rfl rfl rfl ?_
  refine J_callSX (pc := 1910) (M := mL_law) (as := [.ref 0, .int (xs.getD (nI (i + 1)).toNatClampNeg 0), .ref o]) dL_law_1910 fw_L_isTwofold fl_L_294 fs_L_isTwofold rfl (c_L_isTwofold hs (d := d - 1) (by omega) hI (xs.getD (nI (i + 1)).toNatClampNeg 0) (kc := 1) (ks := 6) (Nat.le_refl _) (Nat.le_refl _)) (by omega) (by omega) (by omega) (st := []) (Nat.le_of_ble_eq_true rfl) rfl (kr_I fun v1 w1 _ hI1 => ?_) kx_I
  refine J_istore (pc := 1913) dL_law_1913 (by decide) rfl ?_
  show J X mL_law d (kc - 1) (ks - 6) 1915 [some (.retAddr 0), some (.ref 0), some (.ref 19), some (.ref o), some (.int (nI i)), some (.int v1), none] [] w1 Q
  refine J_aload_n (pc := 1915) dL_law_1915 rfl rfl rfl ?_
  refine J_aload_n (pc := 1916) dL_law_1916 rfl rfl rfl ?_
  refine J_iload (pc := 1917) dL_law_1917 rfl ?_
  refine J_iconst (pc := 1919) (v := nI 1) dL_law_1919 (by decide) ?_
  refine J_iaddN (pc := 1920) dL_law_1920 ?_
  refine J_ialdO (pc := 1921) dL_law_1921 hX0 (nI_in (by omega) (by omega)) ?_
  obtain ⟨f16, h16⟩ := hI1.c19
  refine J_callV (pc := 1922) (M := mL_law) (as := [.int (xs.getD (nI (i + 1)).toNatClampNeg 0)]) dL_law_1922 fw_X8_isTwofold fl_L_296 fm_X8_isTwofold fe_X8_isTwofold h16 (by decide) rfl rfl rfl (vv_isTwofold hs (d := d - 1) (by omega) hI1 (xs.getD (nI (i + 1)).toNatClampNeg 0) (kc := 1) (ks := 49) (Nat.le_refl _) (Nat.le_refl _)) (by omega) (by omega) (by omega) (st := []) (Nat.le_of_ble_eq_true rfl) rfl (kr_I fun v16 w16 _ hI16 => ?_) kx_I
  refine J_istore (pc := 1925) dL_law_1925 (by decide) rfl ?_
  show J X mL_law d (kc - 1 - 1) (ks - 6 - 49) 1927 [some (.retAddr 0), some (.ref 0), some (.ref 19), some (.ref o), some (.int (nI i)), some (.int v1), some (.int v16)] [] w16 Q
  refine J_goto (pc := 1927) (tgt := 2025) dL_law_1927 (by decide) ?_
  exact J_sub (L' := [some (.retAddr 0), some (.ref 0), some (.ref 19), some (.ref o), some (.int (nI i)), none, none]) ⟨rfl, rfl, rfl, rfl, rfl, trivial⟩ ((ih _ _ hI16).mono (by omega) (by omega) (fun _ _ h => h))
set_option maxRecDepth 100000 in
set_option maxHeartbeats 4000000 in
theorem s_41 {X : jX} (hs : X.1.stackTraces = false) (hXO : XO X) {xs : List Int32} (hX0 : X.2.2.2.2.2[0]? = some (.inl (0, xs))) (hX1 : xs.length ≤ 320) {d : Nat} (hd : 45 ≤ d) {o : Nat} {S : StX} {w : List jC} (hI : LI o S S w) {i : Nat} (hi : i + 5 ≤ xs.length) {kc ks : Nat} (hkc : 700 ≤ kc) (hks : 40000 ≤ ks) {Q : jQ} (ih : ∀ (S' : StX) (w' : List jC), LI o S' S' w' → J X mL_law d (kc - 700) (ks - 40000) 2025 [some (.retAddr 0), some (.ref 0), some (.ref 19), some (.ref o), some (.int (nI i)), none, none] [] w' Q) : J X mL_law d kc ks 1930 [some (.retAddr 0), some (.ref 0), some (.ref 19), some (.ref o), some (.int (nI i)), none, none] [] w Q := by
  refine J_aload_n (pc := 1930) dL_law_1930 rfl rfl rfl ?_
  refine J_aload_n (pc := 1931) dL_law_1931 rfl rfl rfl ?_
  refine J_iload (pc := 1932) dL_law_1932 rfl ?_
  refine J_iconst (pc := 1934) (v := nI 1) dL_law_1934 (by decide) ?_
  refine J_iaddN (pc := 1935) dL_law_1935 ?_
  refine J_ialdO (pc := 1936) dL_law_1936 hX0 (nI_in (by omega) (by omega)) ?_
  refine J_aload_n (pc := 1937) dL_law_1937 rfl rfl rfl ?_
  refine J_callSX (pc := 1938) (M := mL_law) (as := [.ref 0, .int (xs.getD (nI (i + 1)).toNatClampNeg 0), .ref o]) dL_law_1938 fw_L_enough fl_L_297 fs_L_enough rfl (c_L_enough hs (d := d - 1) (by omega) hI (xs.getD (nI (i + 1)).toNatClampNeg 0) (kc := 1) (ks := 6) (Nat.le_refl _) (Nat.le_refl _)) (by omega) (by omega) (by omega) (st := []) (Nat.le_of_ble_eq_true rfl) rfl (kr_I fun v1 w1 _ hI1 => ?_) kx_I
  refine J_istore (pc := 1941) dL_law_1941 (by decide) rfl ?_
  show J X mL_law d (kc - 1) (ks - 6) 1943 [some (.retAddr 0), some (.ref 0), some (.ref 19), some (.ref o), some (.int (nI i)), some (.int v1), none] [] w1 Q
  refine J_aload_n (pc := 1943) dL_law_1943 rfl rfl rfl ?_
  refine J_aload_n (pc := 1944) dL_law_1944 rfl rfl rfl ?_
  refine J_iload (pc := 1945) dL_law_1945 rfl ?_
  refine J_iconst (pc := 1947) (v := nI 1) dL_law_1947 (by decide) ?_
  refine J_iaddN (pc := 1948) dL_law_1948 ?_
  refine J_ialdO (pc := 1949) dL_law_1949 hX0 (nI_in (by omega) (by omega)) ?_
  obtain ⟨f16, h16⟩ := hI1.c19
  refine J_callV (pc := 1950) (M := mL_law) (as := [.int (xs.getD (nI (i + 1)).toNatClampNeg 0)]) dL_law_1950 fw_X8_enough fl_L_299 fm_X8_enough fe_X8_enough h16 (by decide) rfl rfl rfl (vv_enough hs (d := d - 1) (by omega) hI1 (xs.getD (nI (i + 1)).toNatClampNeg 0) (kc := 13) (ks := 2054) (Nat.le_refl _) (Nat.le_refl _)) (by omega) (by omega) (by omega) (st := []) (Nat.le_of_ble_eq_true rfl) rfl (kr_I fun v16 w16 _ hI16 => ?_) kx_I
  refine J_istore (pc := 1953) dL_law_1953 (by decide) rfl ?_
  show J X mL_law d (kc - 1 - 13) (ks - 6 - 2054) 1955 [some (.retAddr 0), some (.ref 0), some (.ref 19), some (.ref o), some (.int (nI i)), some (.int v1), some (.int v16)] [] w16 Q
  refine J_goto (pc := 1955) (tgt := 2025) dL_law_1955 (by decide) ?_
  exact J_sub (L' := [some (.retAddr 0), some (.ref 0), some (.ref 19), some (.ref o), some (.int (nI i)), none, none]) ⟨rfl, rfl, rfl, rfl, rfl, trivial⟩ ((ih _ _ hI16).mono (by omega) (by omega) (fun _ _ h => h))
set_option maxRecDepth 100000 in
set_option maxHeartbeats 4000000 in
theorem s_42 {X : jX} (hs : X.1.stackTraces = false) (hXO : XO X) {xs : List Int32} (hX0 : X.2.2.2.2.2[0]? = some (.inl (0, xs))) (hX1 : xs.length ≤ 320) {d : Nat} (hd : 45 ≤ d) {o : Nat} {S : StX} {w : List jC} (hI : LI o S S w) {i : Nat} (hi : i + 5 ≤ xs.length) {kc ks : Nat} (hkc : 700 ≤ kc) (hks : 40000 ≤ ks) {Q : jQ} (ih : ∀ (S' : StX) (w' : List jC), LI o S' S' w' → J X mL_law d (kc - 700) (ks - 40000) 2025 [some (.retAddr 0), some (.ref 0), some (.ref 19), some (.ref o), some (.int (nI i)), none, none] [] w' Q) : J X mL_law d kc ks 1958 [some (.retAddr 0), some (.ref 0), some (.ref 19), some (.ref o), some (.int (nI i)), none, none] [] w Q := by
  refine J_aload_n (pc := 1958) dL_law_1958 rfl rfl rfl ?_
  refine J_aload_n (pc := 1959) dL_law_1959 rfl rfl rfl ?_
  refine J_iload (pc := 1960) dL_law_1960 rfl ?_
  refine J_iconst (pc := 1962) (v := nI 1) dL_law_1962 (by decide) ?_
  refine J_iaddN (pc := 1963) dL_law_1963 ?_
  refine J_ialdO (pc := 1964) dL_law_1964 hX0 (nI_in (by omega) (by omega)) ?_
  refine J_aload_n (pc := 1965) dL_law_1965 rfl rfl rfl ?_
  refine J_callSX (pc := 1966) (M := mL_law) (as := [.ref 0, .int (xs.getD (nI (i + 1)).toNatClampNeg 0), .ref o]) dL_law_1966 fw_L_house fl_L_300 fs_L_house rfl (c_L_house hs (d := d - 1) (by omega) hI (xs.getD (nI (i + 1)).toNatClampNeg 0) (kc := 1) (ks := 6) (Nat.le_refl _) (Nat.le_refl _)) (by omega) (by omega) (by omega) (st := []) (Nat.le_of_ble_eq_true rfl) rfl (kr_J fun v1 w1 hv1 => ?_) kx_J
  obtain ⟨k1, x1, S1, hA1, hv1, hI1, hO1⟩ := hv1
  subst hv1
  refine J_istore (pc := 1969) dL_law_1969 (by decide) rfl ?_
  show J X mL_law d (kc - 1) (ks - 6) 1971 [some (.retAddr 0), some (.ref 0), some (.ref 19), some (.ref o), some (.int (nI i)), some (.int (nI k1)), none] [] w1 Q
  refine J_aload_n (pc := 1971) dL_law_1971 rfl rfl rfl ?_
  refine J_aload_n (pc := 1972) dL_law_1972 rfl rfl rfl ?_
  refine J_iload (pc := 1973) dL_law_1973 rfl ?_
  refine J_iconst (pc := 1975) (v := nI 1) dL_law_1975 (by decide) ?_
  refine J_iaddN (pc := 1976) dL_law_1976 ?_
  refine J_ialdO (pc := 1977) dL_law_1977 hX0 (nI_in (by omega) (by omega)) ?_
  obtain ⟨f16, h16⟩ := hI1.c19
  refine J_callV0 (pc := 1978) (M := mL_law) (as := [.int (xs.getD (nI (i + 1)).toNatClampNeg 0)]) dL_law_1978 fw_X8_house fl_L_302 fm_X8_house fe_X8_house h16 (by decide) rfl rfl rfl (vv_house hs (d := d - 1) (by omega) hI1 (xs.getD (nI (i + 1)).toNatClampNeg 0) (kc := 0) (ks := 0)) (by omega) (st := []) (Nat.le_of_ble_eq_true rfl) rfl (kr_J fun v2 w2 hv2 => ?_) kx_J
  obtain ⟨k2, S2, hA2, hI2, hO2⟩ := hv2
  obtain ⟨h1, h7, hM⟩ := hI.bd
  obtain ⟨rfl, rfl⟩ := AG.same (fun v v' x y h h' => (fD_house h1 h7 hM (xs.getD (nI (i + 1)).toNatClampNeg 0) v v' x y h h').1) hA1 hA2
  have hI3 : LI o S1 S1 w2 := ⟨_, hI2⟩
  refine J_istore (pc := 1981) dL_law_1981 (by decide) rfl ?_
  show J X mL_law d (kc - 1) (ks - 6) 1983 [some (.retAddr 0), some (.ref 0), some (.ref 19), some (.ref o), some (.int (nI i)), some (.int (nI k1)), some (.int v2)] [] w2 Q
  refine J_goto (pc := 1983) (tgt := 2025) dL_law_1983 (by decide) ?_
  exact J_sub (L' := [some (.retAddr 0), some (.ref 0), some (.ref 19), some (.ref o), some (.int (nI i)), none, none]) ⟨rfl, rfl, rfl, rfl, rfl, trivial⟩ ((ih _ _ hI3).mono (by omega) (by omega) (fun _ _ h => h))
set_option maxRecDepth 100000 in
set_option maxHeartbeats 4000000 in
theorem s_43 {X : jX} (hs : X.1.stackTraces = false) (hXO : XO X) {xs : List Int32} (hX0 : X.2.2.2.2.2[0]? = some (.inl (0, xs))) (hX1 : xs.length ≤ 320) {d : Nat} (hd : 45 ≤ d) {o : Nat} {S : StX} {w : List jC} (hI : LI o S S w) {i : Nat} (hi : i + 5 ≤ xs.length) {kc ks : Nat} (hkc : 700 ≤ kc) (hks : 40000 ≤ ks) {Q : jQ} (ih : ∀ (S' : StX) (w' : List jC), LI o S' S' w' → J X mL_law d (kc - 700) (ks - 40000) 2025 [some (.retAddr 0), some (.ref 0), some (.ref 19), some (.ref o), some (.int (nI i)), none, none] [] w' Q) : J X mL_law d kc ks 1986 [some (.retAddr 0), some (.ref 0), some (.ref 19), some (.ref o), some (.int (nI i)), none, none] [] w Q := by
  refine J_aload_n (pc := 1986) dL_law_1986 rfl rfl rfl ?_
  obtain ⟨f2, h2⟩ := hI.c0
  refine J_callV0 (pc := 1987) (M := mL_law) (as := []) dL_law_1987 fw_X6_knock fl_L_303 fm_X6_knock fe_X6_knock h2 (by decide) rfl rfl rfl (uu_knock hs (d := d - 1) (by omega) hI (kc := 0) (ks := 0)) (by omega) (st := []) (Nat.le_of_ble_eq_true rfl) rfl (kr_I fun v2 w2 _ hI2 => ?_) kx_I
  refine J_pop (pc := 1990) dL_law_1990 rfl ?_
  refine J_aload_n (pc := 1991) dL_law_1991 rfl rfl rfl ?_
  obtain ⟨f5, h5⟩ := hI2.c19
  refine J_callV0 (pc := 1992) (M := mL_law) (as := []) dL_law_1992 fw_X8_knock fl_L_306 fm_X8_knock fe_X8_knock h5 (by decide) rfl rfl rfl (vv_knock hs (d := d - 1) (by omega) hI2 (kc := 0) (ks := 0)) (by omega) (st := []) (Nat.le_of_ble_eq_true rfl) rfl (kr_I fun v5 w5 _ hI5 => ?_) kx_I
  refine J_pop (pc := 1995) dL_law_1995 rfl ?_
  refine J_goto (pc := 1996) (tgt := 2025) dL_law_1996 (by decide) ?_
  exact J_sub (L' := [some (.retAddr 0), some (.ref 0), some (.ref 19), some (.ref o), some (.int (nI i)), none, none]) ⟨rfl, rfl, rfl, rfl, rfl, trivial⟩ ((ih _ _ hI5).mono (by omega) (by omega) (fun _ _ h => h))
set_option maxRecDepth 100000 in
set_option maxHeartbeats 4000000 in
theorem s_44 {X : jX} (hs : X.1.stackTraces = false) (hXO : XO X) {xs : List Int32} (hX0 : X.2.2.2.2.2[0]? = some (.inl (0, xs))) (hX1 : xs.length ≤ 320) {d : Nat} (hd : 45 ≤ d) {o : Nat} {S : StX} {w : List jC} (hI : LI o S S w) {i : Nat} (hi : i + 5 ≤ xs.length) {kc ks : Nat} (hkc : 700 ≤ kc) (hks : 40000 ≤ ks) {Q : jQ} (ih : ∀ (S' : StX) (w' : List jC), LI o S' S' w' → J X mL_law d (kc - 700) (ks - 40000) 2025 [some (.retAddr 0), some (.ref 0), some (.ref 19), some (.ref o), some (.int (nI i)), none, none] [] w' Q) : J X mL_law d kc ks 1999 [some (.retAddr 0), some (.ref 0), some (.ref 19), some (.ref o), some (.int (nI i)), none, none] [] w Q := by
  refine J_aload_n (pc := 1999) dL_law_1999 rfl rfl rfl ?_
  obtain ⟨f2, h2⟩ := hI.c0
  refine J_callV0 (pc := 2000) (M := mL_law) (as := []) dL_law_2000 fw_X6_isSound fl_L_307 fm_X6_isSound fe_X6_isSound h2 (by decide) rfl rfl rfl (uu_isSound hs (d := d - 1) (by omega) hI (kc := 0) (ks := 0)) (by omega) (st := []) (Nat.le_of_ble_eq_true rfl) rfl (kr_I fun v2 w2 _ hI2 => ?_) kx_I
  refine J_pop (pc := 2003) dL_law_2003 rfl ?_
  refine J_aload_n (pc := 2004) dL_law_2004 rfl rfl rfl ?_
  obtain ⟨f5, h5⟩ := hI2.c19
  refine J_callV (pc := 2005) (M := mL_law) (as := []) dL_law_2005 fw_X8_isSound fl_L_311 fm_X8_isSound fe_X8_isSound h5 (by decide) rfl rfl rfl (vv_isSound hs (d := d - 1) (by omega) hI2 (kc := 15) (ks := 6428) (Nat.le_refl _) (Nat.le_refl _)) (by omega) (by omega) (by omega) (st := []) (Nat.le_of_ble_eq_true rfl) rfl (kr_I fun v5 w5 _ hI5 => ?_) kx_I
  refine J_pop (pc := 2008) dL_law_2008 rfl ?_
  refine J_goto (pc := 2009) (tgt := 2025) dL_law_2009 (by decide) ?_
  exact J_sub (L' := [some (.retAddr 0), some (.ref 0), some (.ref 19), some (.ref o), some (.int (nI i)), none, none]) ⟨rfl, rfl, rfl, rfl, rfl, trivial⟩ ((ih _ _ hI5).mono (by omega) (by omega) (fun _ _ h => h))
set_option maxRecDepth 100000 in
set_option maxHeartbeats 4000000 in
theorem s_45 {X : jX} (hs : X.1.stackTraces = false) (hXO : XO X) {xs : List Int32} (hX0 : X.2.2.2.2.2[0]? = some (.inl (0, xs))) (hX1 : xs.length ≤ 320) {d : Nat} (hd : 45 ≤ d) {o : Nat} {S : StX} {w : List jC} (hI : LI o S S w) {i : Nat} (hi : i + 5 ≤ xs.length) {kc ks : Nat} (hkc : 700 ≤ kc) (hks : 40000 ≤ ks) {Q : jQ} (ih : ∀ (S' : StX) (w' : List jC), LI o S' S' w' → J X mL_law d (kc - 700) (ks - 40000) 2025 [some (.retAddr 0), some (.ref 0), some (.ref 19), some (.ref o), some (.int (nI i)), none, none] [] w' Q) : J X mL_law d kc ks 2012 [some (.retAddr 0), some (.ref 0), some (.ref 19), some (.ref o), some (.int (nI i)), none, none] [] w Q := by
  refine J_aload_n (pc := 2012) dL_law_2012 rfl rfl rfl ?_
  obtain ⟨f2, h2⟩ := hI.c0
  refine J_callV (pc := 2013) (M := mL_law) (as := []) dL_law_2013 fw_X6_digest fl_L_312 fm_X6_digest fe_X6_digest h2 (by decide) rfl rfl rfl (uu_digest hs (d := d - 1) (by omega) hXO hI (kc := 250) (ks := 9100) (Nat.le_refl _) (Nat.le_refl _)) (by omega) (by omega) (by omega) (st := []) (Nat.le_of_ble_eq_true rfl) rfl (kr_L fun v2 w2 _ hI2 => ?_) kx_L
  refine J_pop2 (pc := 2016) dL_law_2016 rfl ?_
  refine J_aload_n (pc := 2017) dL_law_2017 rfl rfl rfl ?_
  obtain ⟨f5, h5⟩ := hI2.c19
  refine J_callV (pc := 2018) (M := mL_law) (as := []) dL_law_2018 fw_X8_digest fl_L_316 fm_X8_digest fe_X8_digest h5 (by decide) rfl rfl rfl (vv_digest hs (d := d - 1) (by omega) hXO hI2 (kc := 330) (ks := 26000) (Nat.le_refl _) (Nat.le_refl _)) (by omega) (by omega) (by omega) (st := []) (Nat.le_of_ble_eq_true rfl) rfl (kr_L fun v5 w5 _ hI5 => ?_) kx_L
  refine J_pop2 (pc := 2021) dL_law_2021 rfl ?_
  refine J_goto (pc := 2022) (tgt := 2025) dL_law_2022 (by decide) ?_
  exact J_sub (L' := [some (.retAddr 0), some (.ref 0), some (.ref 19), some (.ref o), some (.int (nI i)), none, none]) ⟨rfl, rfl, rfl, rfl, rfl, trivial⟩ ((ih _ _ hI5).mono (by omega) (by omega) (fun _ _ h => h))
end
section
/-! the law's loop -/
theorem df_X6 {X : jX} : ∀ j, j < 9 → defaultValue (tyX6 j) = vp_V (([.null, .null, .null, .null, .null, .int (nI 0), .int (nI 0), .int (nI 0), .int (nI 0)] : List Value).map (jT X)) j := by
  intro j hj
  match j with
  | 0 => rfl
  | 1 => rfl
  | 2 => rfl
  | 3 => rfl
  | 4 => rfl
  | 5 => rfl
  | 6 => rfl
  | 7 => rfl
  | 8 => rfl
  | j + 9 => omega
theorem df_X7 {X : jX} : ∀ j, j < 2 → defaultValue (tyX7 j) = vp_V (([.long 0, .null] : List Value).map (jT X)) j := by
  intro j hj
  match j with
  | 0 => rfl
  | 1 => rfl
  | j + 2 => omega
theorem df_X8 {X : jX} : ∀ j, j < 11 → defaultValue (tyX8 j) = vp_V (([.int (nI 0), .null, .null, .null, .null, .int (nI 0), .int (nI 0), .int (nI 0), .int (nI 0), .int (nI 0), .int (nI 0)] : List Value).map (jT X)) j := by
  intro j hj
  match j with
  | 0 => rfl
  | 1 => rfl
  | 2 => rfl
  | 3 => rfl
  | 4 => rfl
  | 5 => rfl
  | 6 => rfl
  | 7 => rfl
  | 8 => rfl
  | 9 => rfl
  | 10 => rfl
  | j + 11 => omega
set_option maxRecDepth 100000 in
set_option maxHeartbeats 4000000 in
theorem s_at {X : jX} (hs : X.1.stackTraces = false) (hXO : XO X) {xs : List Int32} (hX0 : X.2.2.2.2.2[0]? = some (.inl (0, xs))) (hX1 : xs.length ≤ 320) {d : Nat} (hd : 45 ≤ d) {o : Nat} {S : StX} {w : List jC} (hI : LI o S S w) {i j : Nat} (hi : i + 5 ≤ xs.length) (hj : j < 64) {kc ks : Nat} (hkc : 700 ≤ kc) (hks : 40000 ≤ ks) {Q : jQ} (ih : ∀ (S' : StX) (w' : List jC), LI o S' S' w' → J X mL_law d (kc - 700) (ks - 40000) 2025 [some (.retAddr 0), some (.ref 0), some (.ref 19), some (.ref o), some (.int (nI i)), none, none] [] w' Q) : J X mL_law d kc ks 43 [some (.retAddr 0), some (.ref 0), some (.ref 19), some (.ref o), some (.int (nI i)), none, none] [.int (nI j)] w Q := by
  match j, hj with
  | 0, _ => exact J_tableIn (pc := 43) (off := 197) (tgt := 240) dL_law_43 (by decide) (by decide) (by decide) (by decide) (s_0 hs hXO hX0 hX1 hd hI hi hkc hks ih)
  | 1, _ => exact J_tableIn (pc := 43) (off := 225) (tgt := 268) dL_law_43 (by decide) (by decide) (by decide) (by decide) (s_1 hs hXO hX0 hX1 hd hI hi hkc hks ih)
  | 2, _ => exact J_tableIn (pc := 43) (off := 265) (tgt := 308) dL_law_43 (by decide) (by decide) (by decide) (by decide) (s_2 hs hXO hX0 hX1 hd hI hi hkc hks ih)
  | 3, _ => exact J_tableIn (pc := 43) (off := 317) (tgt := 360) dL_law_43 (by decide) (by decide) (by decide) (by decide) (s_3 hs hXO hX0 hX1 hd hI hi hkc hks ih)
  | 4, _ => exact J_tableIn (pc := 43) (off := 381) (tgt := 424) dL_law_43 (by decide) (by decide) (by decide) (by decide) (s_4 hs hXO hX0 hX1 hd hI hi hkc hks ih)
  | 5, _ => exact J_tableIn (pc := 43) (off := 421) (tgt := 464) dL_law_43 (by decide) (by decide) (by decide) (by decide) (s_5 hs hXO hX0 hX1 hd hI hi hkc hks ih)
  | 6, _ => exact J_tableIn (pc := 43) (off := 449) (tgt := 492) dL_law_43 (by decide) (by decide) (by decide) (by decide) (s_6 hs hXO hX0 hX1 hd hI hi hkc hks ih)
  | 7, _ => exact J_tableIn (pc := 43) (off := 489) (tgt := 532) dL_law_43 (by decide) (by decide) (by decide) (by decide) (s_7 hs hXO hX0 hX1 hd hI hi hkc hks ih)
  | 8, _ => exact J_tableIn (pc := 43) (off := 529) (tgt := 572) dL_law_43 (by decide) (by decide) (by decide) (by decide) (s_8 hs hXO hX0 hX1 hd hI hi hkc hks ih)
  | 9, _ => exact J_tableIn (pc := 43) (off := 581) (tgt := 624) dL_law_43 (by decide) (by decide) (by decide) (by decide) (s_9 hs hXO hX0 hX1 hd hI hi hkc hks ih)
  | 10, _ => exact J_tableIn (pc := 43) (off := 621) (tgt := 664) dL_law_43 (by decide) (by decide) (by decide) (by decide) (s_10 hs hXO hX0 hX1 hd hI hi hkc hks ih)
  | 11, _ => exact J_tableIn (pc := 43) (off := 673) (tgt := 716) dL_law_43 (by decide) (by decide) (by decide) (by decide) (s_11 hs hXO hX0 hX1 hd hI hi hkc hks ih)
  | 12, _ => exact J_tableIn (pc := 43) (off := 725) (tgt := 768) dL_law_43 (by decide) (by decide) (by decide) (by decide) (s_12 hs hXO hX0 hX1 hd hI hi hkc hks ih)
  | 13, _ => exact J_tableIn (pc := 43) (off := 777) (tgt := 820) dL_law_43 (by decide) (by decide) (by decide) (by decide) (s_13 hs hXO hX0 hX1 hd hI hi hkc hks ih)
  | 14, _ => exact J_tableIn (pc := 43) (off := 841) (tgt := 884) dL_law_43 (by decide) (by decide) (by decide) (by decide) (s_14 hs hXO hX0 hX1 hd hI hi hkc hks ih)
  | 15, _ => exact J_tableIn (pc := 43) (off := 854) (tgt := 897) dL_law_43 (by decide) (by decide) (by decide) (by decide) (s_15 hs hXO hX0 hX1 hd hI hi hkc hks ih)
  | 16, _ => exact J_tableIn (pc := 43) (off := 882) (tgt := 925) dL_law_43 (by decide) (by decide) (by decide) (by decide) (s_16 hs hXO hX0 hX1 hd hI hi hkc hks ih)
  | 17, _ => exact J_tableIn (pc := 43) (off := 922) (tgt := 965) dL_law_43 (by decide) (by decide) (by decide) (by decide) (s_17 hs hXO hX0 hX1 hd hI hi hkc hks ih)
  | 18, _ => exact J_tableIn (pc := 43) (off := 950) (tgt := 993) dL_law_43 (by decide) (by decide) (by decide) (by decide) (s_18 hs hXO hX0 hX1 hd hI hi hkc hks ih)
  | 19, _ => exact J_tableIn (pc := 43) (off := 978) (tgt := 1021) dL_law_43 (by decide) (by decide) (by decide) (by decide) (s_19 hs hXO hX0 hX1 hd hI hi hkc hks ih)
  | 20, _ => exact J_tableIn (pc := 43) (off := 1018) (tgt := 1061) dL_law_43 (by decide) (by decide) (by decide) (by decide) (s_20 hs hXO hX0 hX1 hd hI hi hkc hks ih)
  | 21, _ => exact J_tableIn (pc := 43) (off := 1046) (tgt := 1089) dL_law_43 (by decide) (by decide) (by decide) (by decide) (s_21 hs hXO hX0 hX1 hd hI hi hkc hks ih)
  | 22, _ => exact J_tableIn (pc := 43) (off := 1074) (tgt := 1117) dL_law_43 (by decide) (by decide) (by decide) (by decide) (s_22 hs hXO hX0 hX1 hd hI hi hkc hks ih)
  | 23, _ => exact J_tableIn (pc := 43) (off := 1102) (tgt := 1145) dL_law_43 (by decide) (by decide) (by decide) (by decide) (s_23 hs hXO hX0 hX1 hd hI hi hkc hks ih)
  | 24, _ => exact J_tableIn (pc := 43) (off := 1142) (tgt := 1185) dL_law_43 (by decide) (by decide) (by decide) (by decide) (s_24 hs hXO hX0 hX1 hd hI hi hkc hks ih)
  | 25, _ => exact J_tableIn (pc := 43) (off := 1182) (tgt := 1225) dL_law_43 (by decide) (by decide) (by decide) (by decide) (s_25 hs hXO hX0 hX1 hd hI hi hkc hks ih)
  | 26, _ => exact J_tableIn (pc := 43) (off := 1222) (tgt := 1265) dL_law_43 (by decide) (by decide) (by decide) (by decide) (s_26 hs hXO hX0 hX1 hd hI hi hkc hks ih)
  | 27, _ => exact J_tableIn (pc := 43) (off := 1274) (tgt := 1317) dL_law_43 (by decide) (by decide) (by decide) (by decide) (s_27 hs hXO hX0 hX1 hd hI hi hkc hks ih)
  | 28, _ => exact J_tableIn (pc := 43) (off := 1326) (tgt := 1369) dL_law_43 (by decide) (by decide) (by decide) (by decide) (s_28 hs hXO hX0 hX1 hd hI hi hkc hks ih)
  | 29, _ => exact J_tableIn (pc := 43) (off := 1378) (tgt := 1421) dL_law_43 (by decide) (by decide) (by decide) (by decide) (s_29 hs hXO hX0 hX1 hd hI hi hkc hks ih)
  | 30, _ => exact J_tableIn (pc := 43) (off := 1418) (tgt := 1461) dL_law_43 (by decide) (by decide) (by decide) (by decide) (s_30 hs hXO hX0 hX1 hd hI hi hkc hks ih)
  | 31, _ => exact J_tableIn (pc := 43) (off := 1458) (tgt := 1501) dL_law_43 (by decide) (by decide) (by decide) (by decide) (s_31 hs hXO hX0 hX1 hd hI hi hkc hks ih)
  | 32, _ => exact J_tableIn (pc := 43) (off := 1486) (tgt := 1529) dL_law_43 (by decide) (by decide) (by decide) (by decide) (s_32 hs hXO hX0 hX1 hd hI hi hkc hks ih)
  | 33, _ => exact J_tableIn (pc := 43) (off := 1526) (tgt := 1569) dL_law_43 (by decide) (by decide) (by decide) (by decide) (s_33 hs hXO hX0 hX1 hd hI hi hkc hks ih)
  | 34, _ => exact J_tableIn (pc := 43) (off := 1554) (tgt := 1597) dL_law_43 (by decide) (by decide) (by decide) (by decide) (s_34 hs hXO hX0 hX1 hd hI hi hkc hks ih)
  | 35, _ => exact J_tableIn (pc := 43) (off := 1606) (tgt := 1649) dL_law_43 (by decide) (by decide) (by decide) (by decide) (s_35 hs hXO hX0 hX1 hd hI hi hkc hks ih)
  | 36, _ => exact J_tableIn (pc := 43) (off := 1646) (tgt := 1689) dL_law_43 (by decide) (by decide) (by decide) (by decide) (s_36 hs hXO hX0 hX1 hd hI hi hkc hks ih)
  | 37, _ => exact J_tableIn (pc := 43) (off := 1686) (tgt := 1729) dL_law_43 (by decide) (by decide) (by decide) (by decide) (s_37 hs hXO hX0 hX1 hd hI hi hkc hks ih)
  | 38, _ => exact J_tableIn (pc := 43) (off := 1726) (tgt := 1769) dL_law_43 (by decide) (by decide) (by decide) (by decide) (s_38 hs hXO hX0 hX1 hd hI hi hkc hks ih)
  | 39, _ => exact J_tableIn (pc := 43) (off := 1778) (tgt := 1821) dL_law_43 (by decide) (by decide) (by decide) (by decide) (s_39 hs hXO hX0 hX1 hd hI hi hkc hks ih)
  | 40, _ => exact J_tableIn (pc := 43) (off := 1859) (tgt := 1902) dL_law_43 (by decide) (by decide) (by decide) (by decide) (s_40 hs hXO hX0 hX1 hd hI hi hkc hks ih)
  | 41, _ => exact J_tableIn (pc := 43) (off := 1887) (tgt := 1930) dL_law_43 (by decide) (by decide) (by decide) (by decide) (s_41 hs hXO hX0 hX1 hd hI hi hkc hks ih)
  | 42, _ => exact J_tableIn (pc := 43) (off := 1915) (tgt := 1958) dL_law_43 (by decide) (by decide) (by decide) (by decide) (s_42 hs hXO hX0 hX1 hd hI hi hkc hks ih)
  | 43, _ => exact J_tableIn (pc := 43) (off := 1943) (tgt := 1986) dL_law_43 (by decide) (by decide) (by decide) (by decide) (s_43 hs hXO hX0 hX1 hd hI hi hkc hks ih)
  | 44, _ => exact J_tableIn (pc := 43) (off := 1956) (tgt := 1999) dL_law_43 (by decide) (by decide) (by decide) (by decide) (s_44 hs hXO hX0 hX1 hd hI hi hkc hks ih)
  | 45, _ => exact J_tableIn (pc := 43) (off := 1969) (tgt := 2012) dL_law_43 (by decide) (by decide) (by decide) (by decide) (s_45 hs hXO hX0 hX1 hd hI hi hkc hks ih)
  | j + 46, hj => exact J_tableOut (pc := 43) (tgt := 2025) dL_law_43 (Or.inr (by rw [nI_toInt (by omega)]; omega)) (by decide) ((ih _ _ hI).mono (by omega) (by omega) (fun _ _ h => h))
set_option maxRecDepth 100000 in
set_option maxHeartbeats 4000000 in
theorem s_loop {X : jX} {o : Nat} (hs : X.1.stackTraces = false) (hXO : XO X) {xs : List Int32} (hX0 : X.2.2.2.2.2[0]? = some (.inl (0, xs))) (hX1 : xs.length ≤ 320) {d : Nat} (hd : 45 ≤ d) {Q : jQ} (hQ : ∀ w' : List jC, Q (.inl (some (.int 1))) w') : ∀ (f : Nat) (S : StX) (w : List jC) (i kc ks : Nat), LI o S S w → i ≤ 400 → 330 - i ≤ 5 * f → f * 700 ≤ kc → f * 40000 ≤ ks → J X mL_law d kc ks 27 [some (.retAddr 0), some (.ref 0), some (.ref 19), some (.ref o), some (.int (nI i)), none, none] [] w Q := by
  intro f
  induction f with
  | zero =>
    intro S w i kc ks hI hi hf _ _
    refine J_iload (pc := 27) dL_law_27 rfl ?_
    refine J_aload_n (pc := 29) dL_law_29 rfl rfl rfl ?_
    refine J_alenO (pc := 30) (n := nI xs.length) dL_law_30 hX0 rfl ?_
    refine J_iconst (pc := 31) (v := nI 5) dL_law_31 (by decide) ?_
    refine J_isub (pc := 32) dL_law_32 ?_
    refine J_icmp_gt (pc := 33) (tgt := 2031) dL_law_33 (by decide) (fun _ => ?_) (fun hn => ?_)
    · refine J_iconst (pc := 2031) (v := nI 1) dL_law_2031 (by decide) ?_
      exact J_zret (pc := 2032) dL_law_2032 rfl (nar_b (by decide)) (hQ w)
    · have hi2 := law_i hX1 hi hn
      omega
  | succ f ih =>
    intro S w i kc ks hI hi hf hkc hks
    refine J_iload (pc := 27) dL_law_27 rfl ?_
    refine J_aload_n (pc := 29) dL_law_29 rfl rfl rfl ?_
    refine J_alenO (pc := 30) (n := nI xs.length) dL_law_30 hX0 rfl ?_
    refine J_iconst (pc := 31) (v := nI 5) dL_law_31 (by decide) ?_
    refine J_isub (pc := 32) dL_law_32 ?_
    refine J_icmp_gt (pc := 33) (tgt := 2031) dL_law_33 (by decide) (fun _ => ?_) (fun hn => ?_)
    · refine J_iconst (pc := 2031) (v := nI 1) dL_law_2031 (by decide) ?_
      exact J_zret (pc := 2032) dL_law_2032 rfl (nar_b (by decide)) (hQ w)
    · have hi2 := law_i hX1 hi hn
      refine J_aload_n (pc := 36) dL_law_36 rfl rfl rfl ?_
      refine J_iload (pc := 37) dL_law_37 rfl ?_
      refine J_ialdO (pc := 39) dL_law_39 hX0 (nI_in (by omega) (by omega)) (J_absI fun x => ?_)
      refine J_bipush (pc := 40) (v := nI 63) dL_law_40 (by decide) ?_
      refine J_iand (pc := 42) dL_law_42 (J_andE 6 63 (by decide) fun j hj => ?_)
      refine s_at hs hXO hX0 hX1 hd hI hi2 hj (by omega) (by omega) (fun S' w' hI' => ?_)
      refine J_iincN (pc := 2025) (b := 5) dL_law_2025 rfl (by decide) (by decide) rfl ?_
      show J X mL_law d _ _ 2028 [some (.retAddr 0), some (.ref 0), some (.ref 19), some (.ref o), some (.int (nI (i + 5))), none, none] [] w' Q
      refine J_goto (pc := 2028) (tgt := 27) dL_law_2028 (by decide) ?_
      exact ih S' w' (i + 5) _ _ hI' (by omega) (by omega) (by omega) (by omega)
set_option maxRecDepth 100000 in
set_option maxHeartbeats 4000000 in
theorem s_start {X : jX} (hs : X.1.stackTraces = false) (hXO : XO X) {xs : List Int32} (hX0 : X.2.2.2.2.2[0]? = some (.inl (0, xs))) (hX1 : xs.length ≤ 320) {d : Nat} (hd : 45 ≤ d) {kc ks : Nat} (hkc : 600000 ≤ kc) (hks : 7000000 ≤ ks) {Q : jQ} (hQ : ∀ w' : List jC, Q (.inl (some (.int 1))) w') : J X mL_law d kc ks 0 [some (.retAddr 0), none, none, none, none, none, none] [] [] Q := by
  refine J_newO (pc := 0) (M := mL_law) (fs := [.null, .null, .null, .null, .null, .int (nI 0), .int (nI 0), .int (nI 0), .int (nI 0)]) dL_law_0 kC7 fc_L_8 fi_X6 fz_X6 df_X6 (by omega) (by omega) (fun a w1 ha hln1 hc1 _ => ?_)
  obtain rfl : a = 0 := ha
  refine J_dup (pc := 3) dL_law_3 rfl ?_
  refine J_callI (pc := 4) (M := mL_law) (as := []) dL_law_4 fw_X6_init fl_L_158 fm_X6_init rfl rfl rfl (c_X6_init hs (d := d - 1) (by omega) (w := w1) hln1 hc1 (kc := 18) (ks := 7664) (Nat.le_refl _) (Nat.le_refl _)) (by omega) (by omega) (by omega) (st := [.ref 0]) (Nat.le_of_ble_eq_true rfl) rfl (kr_V fun w2 hw2 => ?_) kx_V
  obtain ⟨hln2, hS2, hm2⟩ := hw2
  refine J_astore_n (pc := 7) dL_law_7 rfl (by decide) rfl rfl ?_
  show J X mL_law d _ _ 8 [some (.retAddr 0), some (.ref 0), none, none, none, none, none] [] w2 Q
  refine J_newO (pc := 8) (M := mL_law) (fs := [.int (nI 0), .null, .null, .null, .null, .int (nI 0), .int (nI 0), .int (nI 0), .int (nI 0), .int (nI 0), .int (nI 0)]) dL_law_8 kC9 fc_L_159 fi_X8 fz_X8 df_X8 (by omega) (by omega) (fun a w3 ha hln3 hc3 hne3 => ?_)
  obtain rfl : a = 19 := by omega
  have hS3 := hS2.gr (fun i hi => hne3 i (by omega))
  refine J_dup (pc := 11) dL_law_11 rfl ?_
  refine J_callI (pc := 12) (M := mL_law) (as := []) dL_law_12 fw_X8_init fl_L_161 fm_X8_init rfl rfl rfl (c_X8_init hs (d := d - 1) (by omega) (w := w3) hln3 hc3 (kc := 4) (ks := 214) (Nat.le_refl _) (Nat.le_refl _)) (by omega) (by omega) (by omega) (st := [.ref 19]) (Nat.le_of_ble_eq_true rfl) rfl (kr_V fun w4 hw4 => ?_) kx_V
  obtain ⟨mv, hR4, gm, hP4, hid4, hne4⟩ := hw4
  have hS4 := hS3.keep (fun i hi => hne4 i hi)
  refine J_astore_n (pc := 15) dL_law_15 rfl (by decide) rfl rfl ?_
  show J X mL_law d _ _ 16 [some (.retAddr 0), some (.ref 0), some (.ref 19), none, none, none, none] [] w4 Q
  refine J_newO (pc := 16) (M := mL_law) (fs := [.long 0, .null]) dL_law_16 kC8 fc_L_14 fi_X7 fz_X7 df_X7 (by omega) (by omega) (fun a w5 ha hln5 hc5 hne5 => ?_)
  have hg4 := gl hR4.2.2.2.2.1
  have ho : 24 ≤ a := by omega
  have hS5 := hS4.gr (fun i hi => hne5 i (by omega))
  have hR5 : RM 4 mv (fun _ => 0) (fun _ => 0) 23 (List.replicate 158 0) (-1) (nI 0) (nI 0) (nI 0) (nI 0) (nI 0) w5 := ⟨(hne5 19 (by omega)).trans hR4.1, (hne5 20 (by omega)).trans hR4.2.1, (hne5 21 (by omega)).trans hR4.2.2.1, (hne5 22 (by omega)).trans hR4.2.2.2.1, (hne5 23 (by omega)).trans hR4.2.2.2.2.1, hR4.2.2.2.2.2⟩
  refine J_dup (pc := 19) dL_law_19 rfl ?_
  refine J_callIN (pc := 20) (M := mL_law) (as := []) dL_law_20 fw_X7_init fl_L_162 fm_X7_init rfl rfl rfl (c_X7_init hs (d := d - 1) (by omega) (w := w5) a (kc := 0) (ks := 0)) (by omega) (Nat.zero_le _) (Nat.zero_le _) (st := [.ref a]) (Nat.le_of_ble_eq_true rfl) rfl (kr_V fun w6 hw6 => ?_) kx_V
  obtain rfl := hw6.symm
  refine J_astore_n (pc := 23) dL_law_23 rfl (by decide) rfl rfl ?_
  refine J_iconst (pc := 24) (v := nI 0) dL_law_24 (by decide) ?_
  refine J_istore (pc := 25) dL_law_25 (by decide) rfl ?_
  show J X mL_law d _ _ 27 [some (.retAddr 0), some (.ref 0), some (.ref 19), some (.ref a), some (.int (nI 0)), none, none] [] w5 Q
  have hm5 : w5[1]? = some (aF 6 (fun _ => 1754760)) := (hne5 1 (by omega)).trans ((hne4 1 (by decide)).trans ((hne3 1 (by omega)).trans hm2))
  obtain ⟨_, hc0, rfl⟩ := hS5 0 _ rfl
  exact s_loop hs hXO hX0 hX1 hd hQ 66 (4, nI 0, nI 0, nI 0, fun _ => 1754760) w5 0 _ _ ⟨nI 0, ⟨by decide, by decide, fun c _ => (by show Mv 4 1754760; rw [e7_M (n := 4) (by decide)]; exact eM_Mv (by decide)), ⟨hc0, hm5⟩, hS5⟩, ⟨mv, _, _, 23, _, _, _, hR5, by decide, by decide, gm, fun _ => (by decide : (0 : Nat) < 7), fun _ => (by decide : (0 : Nat) < 7), hP4, Or.inl rfl, RL_points (by decide) hid4, by omega⟩, ⟨ho, _, hc5, rfl⟩⟩ (by decide) (by decide) (by omega) (by omega)
end
section
/-! from the premises to the walk's world -/
def FLs : List Cond := flatC (Jvm.Cond.and given_1 narrow_1)
def ysO : List Int32 := [48, 49, 50, 51, 52, 53, 54, 55, 56, 57, 48, 49, 50, 51, 52, 53, 54, 55, 56, 57, 48, 49, 50, 51, 52, 53, 54, 55, 56, 57, 48, 49, 50, 51, 52, 53, 54, 55, 56, 57, 48, 49, 50, 51, 52, 53, 54, 55, 56, 57, 48, 49, 50, 51, 52, 53, 54, 55, 56, 57, 48, 49, 50, 51, 52, 53, 54, 55, 56, 57, 48, 49, 50, 51, 52, 53, 54, 55, 56, 57, 48, 49, 50, 51, 52, 53, 54, 55, 56, 57, 48, 49, 50, 51, 52, 53, 54, 55, 56, 57]
theorem flOa : FLs[12]? = some (Cond.arrayOf (.static "java/lang/Integer" "DigitOnes" "[B") .byte) := by decide +kernel
theorem flOl : FLs[13]? = some (Cond.eq (.length (.static "java/lang/Integer" "DigitOnes" "[B")) (.int (Int32.ofNat ysO.length))) := by decide +kernel
theorem flOe : ∀ j, j < ysO.length → FLs[14 + j]? = some (Cond.eq (.elem (.static "java/lang/Integer" "DigitOnes" "[B") (.int (Int32.ofNat j))) (.int (ysO.getD j 0))) := by decide +kernel
def ysT : List Int32 := [48, 48, 48, 48, 48, 48, 48, 48, 48, 48, 49, 49, 49, 49, 49, 49, 49, 49, 49, 49, 50, 50, 50, 50, 50, 50, 50, 50, 50, 50, 51, 51, 51, 51, 51, 51, 51, 51, 51, 51, 52, 52, 52, 52, 52, 52, 52, 52, 52, 52, 53, 53, 53, 53, 53, 53, 53, 53, 53, 53, 54, 54, 54, 54, 54, 54, 54, 54, 54, 54, 55, 55, 55, 55, 55, 55, 55, 55, 55, 55, 56, 56, 56, 56, 56, 56, 56, 56, 56, 56, 57, 57, 57, 57, 57, 57, 57, 57, 57, 57]
theorem flTa : FLs[115]? = some (Cond.arrayOf (.static "java/lang/Integer" "DigitTens" "[B") .byte) := by decide +kernel
theorem flTl : FLs[116]? = some (Cond.eq (.length (.static "java/lang/Integer" "DigitTens" "[B")) (.int (Int32.ofNat ysT.length))) := by decide +kernel
theorem flTe : ∀ j, j < ysT.length → FLs[117 + j]? = some (Cond.eq (.elem (.static "java/lang/Integer" "DigitTens" "[B") (.int (Int32.ofNat j))) (.int (ysT.getD j 0))) := by decide +kernel
def bs144 : List Int32 := []
theorem fs144x : FLs[352]? = some (Cond.exactly (.string "SwaphouseModel" 144) "java/lang/String") := by decide +kernel
theorem fs144c : FLs[353]? = some (Cond.eq (.field (.string "SwaphouseModel" 144) "java/lang/String" "coder" "B") (.int 0)) := by decide +kernel
theorem fs144a : FLs[354]? = some (Cond.arrayOf (.field (.string "SwaphouseModel" 144) "java/lang/String" "value" "[B") .byte) := by decide +kernel
theorem fs144l : FLs[355]? = some (Cond.eq (.length (.field (.string "SwaphouseModel" 144) "java/lang/String" "value" "[B")) (.int (Int32.ofNat bs144.length))) := by decide +kernel
theorem fs144e : ∀ j, j < bs144.length → FLs[0 + j]? = some (Cond.eq (.elem (.field (.string "SwaphouseModel" 144) "java/lang/String" "value" "[B") (.int (Int32.ofNat j))) (.int (bs144.getD j 0))) := fun j hj => absurd hj (Nat.not_lt_zero j)
theorem fs144f : jFitB bs144 := by
  intro y hy
  have h : ∀ y ∈ bs144, fits .byte (.int y) = true := by decide +kernel
  exact h y hy
def bs149 : List Int32 := [32]
theorem fs149x : FLs[360]? = some (Cond.exactly (.string "SwaphouseModel" 149) "java/lang/String") := by decide +kernel
theorem fs149c : FLs[361]? = some (Cond.eq (.field (.string "SwaphouseModel" 149) "java/lang/String" "coder" "B") (.int 0)) := by decide +kernel
theorem fs149a : FLs[362]? = some (Cond.arrayOf (.field (.string "SwaphouseModel" 149) "java/lang/String" "value" "[B") .byte) := by decide +kernel
theorem fs149l : FLs[363]? = some (Cond.eq (.length (.field (.string "SwaphouseModel" 149) "java/lang/String" "value" "[B")) (.int (Int32.ofNat bs149.length))) := by decide +kernel
theorem fs149e : ∀ j, j < bs149.length → FLs[364 + j]? = some (Cond.eq (.elem (.field (.string "SwaphouseModel" 149) "java/lang/String" "value" "[B") (.int (Int32.ofNat j))) (.int (bs149.getD j 0))) := by decide +kernel
theorem fs149f : jFitB bs149 := by
  intro y hy
  have h : ∀ y ∈ bs149, fits .byte (.int y) = true := by decide +kernel
  exact h y hy
def bs289 : List Int32 := [116, 104, 101, 114, 101, 32, 105, 115, 32, 110, 111, 32, 115, 117, 99, 104, 32, 99, 101, 108, 108]
theorem fs289x : FLs[239]? = some (Cond.exactly (.string "Swaphouse" 289) "java/lang/String") := by decide +kernel
theorem fs289c : FLs[240]? = some (Cond.eq (.field (.string "Swaphouse" 289) "java/lang/String" "coder" "B") (.int 0)) := by decide +kernel
theorem fs289a : FLs[241]? = some (Cond.arrayOf (.field (.string "Swaphouse" 289) "java/lang/String" "value" "[B") .byte) := by decide +kernel
theorem fs289l : FLs[242]? = some (Cond.eq (.length (.field (.string "Swaphouse" 289) "java/lang/String" "value" "[B")) (.int (Int32.ofNat bs289.length))) := by decide +kernel
theorem fs289e : ∀ j, j < bs289.length → FLs[243 + j]? = some (Cond.eq (.elem (.field (.string "Swaphouse" 289) "java/lang/String" "value" "[B") (.int (Int32.ofNat j))) (.int (bs289.getD j 0))) := by decide +kernel
theorem fs289f : jFitB bs289 := by
  intro y hy
  have h : ∀ y ∈ bs289, fits .byte (.int y) = true := by decide +kernel
  exact h y hy
def bs294 : List Int32 := [116, 104, 101, 114, 101, 32, 105, 115, 32, 110, 111, 32, 115, 117, 99, 104, 32, 112, 111, 105, 110, 116]
theorem fs294x : FLs[323]? = some (Cond.exactly (.string "Swaphouse" 294) "java/lang/String") := by decide +kernel
theorem fs294c : FLs[324]? = some (Cond.eq (.field (.string "Swaphouse" 294) "java/lang/String" "coder" "B") (.int 0)) := by decide +kernel
theorem fs294a : FLs[325]? = some (Cond.arrayOf (.field (.string "Swaphouse" 294) "java/lang/String" "value" "[B") .byte) := by decide +kernel
theorem fs294l : FLs[326]? = some (Cond.eq (.length (.field (.string "Swaphouse" 294) "java/lang/String" "value" "[B")) (.int (Int32.ofNat bs294.length))) := by decide +kernel
theorem fs294e : ∀ j, j < bs294.length → FLs[327 + j]? = some (Cond.eq (.elem (.field (.string "Swaphouse" 294) "java/lang/String" "value" "[B") (.int (Int32.ofNat j))) (.int (bs294.getD j 0))) := by decide +kernel
theorem fs294f : jFitB bs294 := by
  intro y hy
  have h : ∀ y ∈ bs294, fits .byte (.int y) = true := by decide +kernel
  exact h y hy
def bs298 : List Int32 := [97, 110, 32, 97, 114, 103, 117, 109, 101, 110, 116, 32, 105, 115, 32, 111, 117, 116, 115, 105, 100, 101, 32, 119, 104, 97, 116, 32, 116, 104, 101, 32, 100, 111, 99, 117, 109, 101, 110, 116, 32, 108, 101, 116, 115]
theorem fs298x : FLs[272]? = some (Cond.exactly (.string "Swaphouse" 298) "java/lang/String") := by decide +kernel
theorem fs298c : FLs[273]? = some (Cond.eq (.field (.string "Swaphouse" 298) "java/lang/String" "coder" "B") (.int 0)) := by decide +kernel
theorem fs298a : FLs[274]? = some (Cond.arrayOf (.field (.string "Swaphouse" 298) "java/lang/String" "value" "[B") .byte) := by decide +kernel
theorem fs298l : FLs[275]? = some (Cond.eq (.length (.field (.string "Swaphouse" 298) "java/lang/String" "value" "[B")) (.int (Int32.ofNat bs298.length))) := by decide +kernel
theorem fs298e : ∀ j, j < bs298.length → FLs[276 + j]? = some (Cond.eq (.elem (.field (.string "Swaphouse" 298) "java/lang/String" "value" "[B") (.int (Int32.ofNat j))) (.int (bs298.getD j 0))) := by decide +kernel
theorem fs298f : jFitB bs298 := by
  intro y hy
  have h : ∀ y ∈ bs298, fits .byte (.int y) = true := by decide +kernel
  exact h y hy
theorem flC : FLs[6]? = some (Cond.eq (.static "java/lang/String" "COMPACT_STRINGS" "Z") (.int 1)) := by decide +kernel
theorem flU : FLs[4]? = some (Cond.isRef (.static Bundle.tN "UNASSIGNED_STACK" Bundle.steD)) := by decide +kernel
theorem flV : FLs[5]? = some (Cond.isRef (.static Bundle.tN "SUPPRESSED_SENTINEL" Bundle.listD)) := by decide +kernel
theorem flN : FLs[236]? = some (Cond.not (.castable "java/lang/IllegalArgumentException" "java/lang/IndexOutOfBoundsException")) := by decide +kernel
theorem lt_U : lw_tbl[498]? = some (Cond.laysStatic Bundle.tN "UNASSIGNED_STACK" Bundle.steD) := by decide +kernel
theorem lt_V : lw_tbl[500]? = some (Cond.laysStatic Bundle.tN "SUPPRESSED_SENTINEL" Bundle.listD) := by decide +kernel
theorem lt_C : lw_tbl[567]? = some (Cond.laysStatic "java/lang/String" "COMPACT_STRINGS" "Z") := by decide +kernel
theorem lt_O : lw_tbl[709]? = some (Cond.laysStatic "java/lang/Integer" "DigitOnes" "[B") := by decide +kernel
theorem lt_T : lw_tbl[711]? = some (Cond.laysStatic "java/lang/Integer" "DigitTens" "[B") := by decide +kernel
theorem lt_144 : lw_tbl[1476]? = some (Cond.stringRef "SwaphouseModel" 144 "") := by decide +kernel
theorem lt_149 : lw_tbl[1479]? = some (Cond.stringRef "SwaphouseModel" 149 " ") := by decide +kernel
theorem lt_289 : lw_tbl[511]? = some (Cond.stringRef "Swaphouse" 289 "there is no such cell") := by decide +kernel
theorem lt_294 : lw_tbl[937]? = some (Cond.stringRef "Swaphouse" 294 "there is no such point") := by decide +kernel
theorem lt_298 : lw_tbl[855]? = some (Cond.stringRef "Swaphouse" 298 "an argument is outside what the document lets") := by decide +kernel
theorem lt_W : lw_tbl[79]? = some (Cond.initialized Bundle.tN) := by decide +kernel
theorem lt_S : lw_tbl[89]? = some (Cond.initialized "java/lang/String") := by decide +kernel
theorem lt_I : lw_tbl[86]? = some (Cond.initialized "java/lang/Integer") := by decide +kernel
end
