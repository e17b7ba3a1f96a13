/-! the law's cases -/
set_option maxRecDepth 100000 in
set_option maxHeartbeats 4000000 in
theorem s_0 {X : jX} (hs : X.1.stackTraces = false) (hXO : XO X) {xs : List Int32} (hX0 : X.2.2.2.2.2[0]? = some (.inl (0, xs))) (hX1 : xs.length ≤ 320) {d : Nat} (hd : 45 ≤ d) {o : Nat} {S : StX} {w : List jC} (hI : LI o S S w) {i : Nat} (hi : i + 5 ≤ xs.length) {kc ks : Nat} (hkc : 700 ≤ kc) (hks : 40000 ≤ ks) {Q : jQ} (ih : ∀ (S' : StX) (w' : List jC), LI o S' S' w' → J X mL_law d (kc - 700) (ks - 40000) 2025 [some (.retAddr 0), some (.ref 0), some (.ref 19), some (.ref o), some (.int (nI i)), none, none] [] w' Q) : J X mL_law d kc ks 240 [some (.retAddr 0), some (.ref 0), some (.ref 19), some (.ref o), some (.int (nI i)), none, none] [] w Q := by
  refine J_aload_n (pc := 240) dL_law_240 rfl rfl rfl ?_
  refine J_aload_n (pc := 241) dL_law_241 rfl rfl rfl ?_
  refine J_iload (pc := 242) dL_law_242 rfl ?_
  refine J_iconst (pc := 244) (v := nI 1) dL_law_244 (by decide) ?_
  refine J_iaddN (pc := 245) dL_law_245 ?_
  refine J_ialdO (pc := 246) dL_law_246 hX0 (nI_in (by omega) (by omega)) ?_
  refine J_aload_n (pc := 247) dL_law_247 rfl rfl rfl ?_
  refine J_callSX (pc := 248) (M := mL_law) (as := [.ref 0, .int (xs.getD (nI (i + 1)).toNatClampNeg 0), .ref o]) dL_law_248 fw_L_points fl_L_163 fs_L_points rfl (c_L_points hs (d := d - 1) (by omega) hI (xs.getD (nI (i + 1)).toNatClampNeg 0) (kc := 1) (ks := 6) (Nat.le_refl _) (Nat.le_refl _)) (by omega) (by omega) (by omega) (st := []) (Nat.le_of_ble_eq_true rfl) rfl (kr_J fun v1 w1 hv1 => ?_) kx_J
  obtain ⟨k1, x1, S1, hA1, hv1, hI1, hO1⟩ := hv1
  subst hv1
  refine J_istore (pc := 251) dL_law_251 (by decide) rfl ?_
  show J X mL_law d (kc - 1) (ks - 6) 253 [some (.retAddr 0), some (.ref 0), some (.ref 19), some (.ref o), some (.int (nI i)), some (.int (nI k1)), none] [] w1 Q
  refine J_aload_n (pc := 253) dL_law_253 rfl rfl rfl ?_
  refine J_aload_n (pc := 254) dL_law_254 rfl rfl rfl ?_
  refine J_iload (pc := 255) dL_law_255 rfl ?_
  refine J_iconst (pc := 257) (v := nI 1) dL_law_257 (by decide) ?_
  refine J_iaddN (pc := 258) dL_law_258 ?_
  refine J_ialdO (pc := 259) dL_law_259 hX0 (nI_in (by omega) (by omega)) ?_
  obtain ⟨f16, h16⟩ := hI1.c19
  refine J_callV0 (pc := 260) (M := mL_law) (as := [.int (xs.getD (nI (i + 1)).toNatClampNeg 0)]) dL_law_260 fw_X8_points fl_L_168 fm_X8_points fe_X8_points h16 (by decide) rfl rfl rfl (vv_points hs (d := d - 1) (by omega) hI1 (xs.getD (nI (i + 1)).toNatClampNeg 0) (kc := 0) (ks := 0)) (by omega) (st := []) (Nat.le_of_ble_eq_true rfl) rfl (kr_J fun v2 w2 hv2 => ?_) kx_J
  obtain ⟨k2, S2, hA2, hI2, hO2⟩ := hv2
  obtain ⟨h1, h7, hM⟩ := hI.bd
  obtain ⟨rfl, rfl⟩ := AG.same (fun v v' x y h h' => (fD_points h1 h7 hM (xs.getD (nI (i + 1)).toNatClampNeg 0) v v' x y h h').1) hA1 hA2
  have hI3 : LI o S1 S1 w2 := ⟨_, hI2⟩
  refine J_istore (pc := 263) dL_law_263 (by decide) rfl ?_
  show J X mL_law d (kc - 1) (ks - 6) 265 [some (.retAddr 0), some (.ref 0), some (.ref 19), some (.ref o), some (.int (nI i)), some (.int (nI k1)), some (.int v2)] [] w2 Q
  refine J_goto (pc := 265) (tgt := 2025) dL_law_265 (by decide) ?_
  exact J_sub (L' := [some (.retAddr 0), some (.ref 0), some (.ref 19), some (.ref o), some (.int (nI i)), none, none]) ⟨rfl, rfl, rfl, rfl, rfl, trivial⟩ ((ih _ _ hI3).mono (by omega) (by omega) (fun _ _ h => h))
set_option maxRecDepth 100000 in
set_option maxHeartbeats 4000000 in
theorem s_1 {X : jX} (hs : X.1.stackTraces = false) (hXO : XO X) {xs : List Int32} (hX0 : X.2.2.2.2.2[0]? = some (.inl (0, xs))) (hX1 : xs.length ≤ 320) {d : Nat} (hd : 45 ≤ d) {o : Nat} {S : StX} {w : List jC} (hI : LI o S S w) {i : Nat} (hi : i + 5 ≤ xs.length) {kc ks : Nat} (hkc : 700 ≤ kc) (hks : 40000 ≤ ks) {Q : jQ} (ih : ∀ (S' : StX) (w' : List jC), LI o S' S' w' → J X mL_law d (kc - 700) (ks - 40000) 2025 [some (.retAddr 0), some (.ref 0), some (.ref 19), some (.ref o), some (.int (nI i)), none, none] [] w' Q) : J X mL_law d kc ks 268 [some (.retAddr 0), some (.ref 0), some (.ref 19), some (.ref o), some (.int (nI i)), none, none] [] w Q := by
  refine J_aload_n (pc := 268) dL_law_268 rfl rfl rfl ?_
  refine J_aload_n (pc := 269) dL_law_269 rfl rfl rfl ?_
  refine J_iload (pc := 270) dL_law_270 rfl ?_
  refine J_iconst (pc := 272) (v := nI 1) dL_law_272 (by decide) ?_
  refine J_iaddN (pc := 273) dL_law_273 ?_
  refine J_ialdO (pc := 274) dL_law_274 hX0 (nI_in (by omega) (by omega)) ?_
  refine J_aload_n (pc := 275) dL_law_275 rfl rfl rfl ?_
  refine J_iload (pc := 276) dL_law_276 rfl ?_
  refine J_iconst (pc := 278) (v := nI 2) dL_law_278 (by decide) ?_
  refine J_iaddN (pc := 279) dL_law_279 ?_
  refine J_ialdO (pc := 280) dL_law_280 hX0 (nI_in (by omega) (by omega)) ?_
  refine J_aload_n (pc := 281) dL_law_281 rfl rfl rfl ?_
  refine J_callSX (pc := 282) (M := mL_law) (as := [.ref 0, .int (xs.getD (nI (i + 1)).toNatClampNeg 0), .int (xs.getD (nI (i + 2)).toNatClampNeg 0), .ref o]) dL_law_282 fw_L_lay fl_L_169 fs_L_lay rfl (c_L_lay hs (d := d - 1) (by omega) hI (xs.getD (nI (i + 1)).toNatClampNeg 0) (xs.getD (nI (i + 2)).toNatClampNeg 0) (kc := 2) (ks := 12) (Nat.le_refl _) (Nat.le_refl _)) (by omega) (by omega) (by omega) (st := []) (Nat.le_of_ble_eq_true rfl) rfl (kr_J fun v1 w1 hv1 => ?_) kx_J
  obtain ⟨k1, x1, S1, hA1, hv1, hI1, hO1⟩ := hv1
  subst hv1
  refine J_istore (pc := 285) dL_law_285 (by decide) rfl ?_
  show J X mL_law d (kc - 2) (ks - 12) 287 [some (.retAddr 0), some (.ref 0), some (.ref 19), some (.ref o), some (.int (nI i)), some (.int (nI k1)), none] [] w1 Q
  refine J_aload_n (pc := 287) dL_law_287 rfl rfl rfl ?_
  refine J_aload_n (pc := 288) dL_law_288 rfl rfl rfl ?_
  refine J_iload (pc := 289) dL_law_289 rfl ?_
  refine J_iconst (pc := 291) (v := nI 1) dL_law_291 (by decide) ?_
  refine J_iaddN (pc := 292) dL_law_292 ?_
  refine J_ialdO (pc := 293) dL_law_293 hX0 (nI_in (by omega) (by omega)) ?_
  refine J_aload_n (pc := 294) dL_law_294 rfl rfl rfl ?_
  refine J_iload (pc := 295) dL_law_295 rfl ?_
  refine J_iconst (pc := 297) (v := nI 2) dL_law_297 (by decide) ?_
  refine J_iaddN (pc := 298) dL_law_298 ?_
  refine J_ialdO (pc := 299) dL_law_299 hX0 (nI_in (by omega) (by omega)) ?_
  obtain ⟨f26, h26⟩ := hI1.c19
  refine J_callV0 (pc := 300) (M := mL_law) (as := [.int (xs.getD (nI (i + 1)).toNatClampNeg 0), .int (xs.getD (nI (i + 2)).toNatClampNeg 0)]) dL_law_300 fw_X8_lay fl_L_172 fm_X8_lay fe_X8_lay h26 (by decide) rfl rfl rfl (vv_lay hs (d := d - 1) (by omega) hI1 (xs.getD (nI (i + 1)).toNatClampNeg 0) (xs.getD (nI (i + 2)).toNatClampNeg 0) (kc := 0) (ks := 0)) (by omega) (st := []) (Nat.le_of_ble_eq_true rfl) rfl (kr_J fun v2 w2 hv2 => ?_) kx_J
  obtain ⟨k2, S2, hA2, hI2, hO2⟩ := hv2
  obtain ⟨h1, h7, hM⟩ := hI.bd
  obtain ⟨rfl, rfl⟩ := AG.same (fun v v' x y h h' => (fD_lay h1 h7 hM (xs.getD (nI (i + 1)).toNatClampNeg 0) (xs.getD (nI (i + 2)).toNatClampNeg 0) v v' x y h h').1) hA1 hA2
  have hI3 : LI o S1 S1 w2 := ⟨_, hI2⟩
  refine J_istore (pc := 303) dL_law_303 (by decide) rfl ?_
  show J X mL_law d (kc - 2) (ks - 12) 305 [some (.retAddr 0), some (.ref 0), some (.ref 19), some (.ref o), some (.int (nI i)), some (.int (nI k1)), some (.int v2)] [] w2 Q
  refine J_goto (pc := 305) (tgt := 2025) dL_law_305 (by decide) ?_
  exact J_sub (L' := [some (.retAddr 0), some (.ref 0), some (.ref 19), some (.ref o), some (.int (nI i)), none, none]) ⟨rfl, rfl, rfl, rfl, rfl, trivial⟩ ((ih _ _ hI3).mono (by omega) (by omega) (fun _ _ h => h))
set_option maxRecDepth 100000 in
set_option maxHeartbeats 4000000 in
theorem s_2 {X : jX} (hs : X.1.stackTraces = false) (hXO : XO X) {xs : List Int32} (hX0 : X.2.2.2.2.2[0]? = some (.inl (0, xs))) (hX1 : xs.length ≤ 320) {d : Nat} (hd : 45 ≤ d) {o : Nat} {S : StX} {w : List jC} (hI : LI o S S w) {i : Nat} (hi : i + 5 ≤ xs.length) {kc ks : Nat} (hkc : 700 ≤ kc) (hks : 40000 ≤ ks) {Q : jQ} (ih : ∀ (S' : StX) (w' : List jC), LI o S' S' w' → J X mL_law d (kc - 700) (ks - 40000) 2025 [some (.retAddr 0), some (.ref 0), some (.ref 19), some (.ref o), some (.int (nI i)), none, none] [] w' Q) : J X mL_law d kc ks 308 [some (.retAddr 0), some (.ref 0), some (.ref 19), some (.ref o), some (.int (nI i)), none, none] [] w Q := by
  refine J_aload_n (pc := 308) dL_law_308 rfl rfl rfl ?_
  refine J_aload_n (pc := 309) dL_law_309 rfl rfl rfl ?_
  refine J_iload (pc := 310) dL_law_310 rfl ?_
  refine J_iconst (pc := 312) (v := nI 1) dL_law_312 (by decide) ?_
  refine J_iaddN (pc := 313) dL_law_313 ?_
  refine J_ialdO (pc := 314) dL_law_314 hX0 (nI_in (by omega) (by omega)) ?_
  refine J_aload_n (pc := 315) dL_law_315 rfl rfl rfl ?_
  refine J_iload (pc := 316) dL_law_316 rfl ?_
  refine J_iconst (pc := 318) (v := nI 2) dL_law_318 (by decide) ?_
  refine J_iaddN (pc := 319) dL_law_319 ?_
  refine J_ialdO (pc := 320) dL_law_320 hX0 (nI_in (by omega) (by omega)) ?_
  refine J_aload_n (pc := 321) dL_law_321 rfl rfl rfl ?_
  refine J_iload (pc := 322) dL_law_322 rfl ?_
  refine J_iconst (pc := 324) (v := nI 3) dL_law_324 (by decide) ?_
  refine J_iaddN (pc := 325) dL_law_325 ?_
  refine J_ialdO (pc := 326) dL_law_326 hX0 (nI_in (by omega) (by omega)) ?_
  refine J_aload_n (pc := 327) dL_law_327 rfl rfl rfl ?_
  refine J_callSX (pc := 328) (M := mL_law) (as := [.ref 0, .int (xs.getD (nI (i + 1)).toNatClampNeg 0), .int (xs.getD (nI (i + 2)).toNatClampNeg 0), .int (xs.getD (nI (i + 3)).toNatClampNeg 0), .ref o]) dL_law_328 fw_L_exchange fl_L_173 fs_L_exchange rfl (c_L_exchange hs (d := d - 1) (by omega) hI (xs.getD (nI (i + 1)).toNatClampNeg 0) (xs.getD (nI (i + 2)).toNatClampNeg 0) (xs.getD (nI (i + 3)).toNatClampNeg 0) (kc := 3) (ks := 18) (Nat.le_refl _) (Nat.le_refl _)) (by omega) (by omega) (by omega) (st := []) (Nat.le_of_ble_eq_true rfl) rfl (kr_J fun v1 w1 hv1 => ?_) kx_J
  obtain ⟨k1, x1, S1, hA1, hv1, hI1, hO1⟩ := hv1
  subst hv1
  refine J_istore (pc := 331) dL_law_331 (by decide) rfl ?_
  show J X mL_law d (kc - 3) (ks - 18) 333 [some (.retAddr 0), some (.ref 0), some (.ref 19), some (.ref o), some (.int (nI i)), some (.int (nI k1)), none] [] w1 Q
  refine J_aload_n (pc := 333) dL_law_333 rfl rfl rfl ?_
  refine J_aload_n (pc := 334) dL_law_334 rfl rfl rfl ?_
  refine J_iload (pc := 335) dL_law_335 rfl ?_
  refine J_iconst (pc := 337) (v := nI 1) dL_law_337 (by decide) ?_
  refine J_iaddN (pc := 338) dL_law_338 ?_
  refine J_ialdO (pc := 339) dL_law_339 hX0 (nI_in (by omega) (by omega)) ?_
  refine J_aload_n (pc := 340) dL_law_340 rfl rfl rfl ?_
  refine J_iload (pc := 341) dL_law_341 rfl ?_
  refine J_iconst (pc := 343) (v := nI 2) dL_law_343 (by decide) ?_
  refine J_iaddN (pc := 344) dL_law_344 ?_
  refine J_ialdO (pc := 345) dL_law_345 hX0 (nI_in (by omega) (by omega)) ?_
  refine J_aload_n (pc := 346) dL_law_346 rfl rfl rfl ?_
  refine J_iload (pc := 347) dL_law_347 rfl ?_
  refine J_iconst (pc := 349) (v := nI 3) dL_law_349 (by decide) ?_
  refine J_iaddN (pc := 350) dL_law_350 ?_
  refine J_ialdO (pc := 351) dL_law_351 hX0 (nI_in (by omega) (by omega)) ?_
  obtain ⟨f36, h36⟩ := hI1.c19
  refine J_callV0 (pc := 352) (M := mL_law) (as := [.int (xs.getD (nI (i + 1)).toNatClampNeg 0), .int (xs.getD (nI (i + 2)).toNatClampNeg 0), .int (xs.getD (nI (i + 3)).toNatClampNeg 0)]) dL_law_352 fw_X8_exchange fl_L_176 fm_X8_exchange fe_X8_exchange h36 (by decide) rfl rfl rfl (vv_exchange hs (d := d - 1) (by omega) hI1 (xs.getD (nI (i + 1)).toNatClampNeg 0) (xs.getD (nI (i + 2)).toNatClampNeg 0) (xs.getD (nI (i + 3)).toNatClampNeg 0) (kc := 0) (ks := 0)) (by omega) (st := []) (Nat.le_of_ble_eq_true rfl) rfl (kr_J fun v2 w2 hv2 => ?_) kx_J
  obtain ⟨k2, S2, hA2, hI2, hO2⟩ := hv2
  obtain ⟨h1, h7, hM⟩ := hI.bd
  obtain ⟨rfl, rfl⟩ := AG.same (fun v v' x y h h' => (fD_exchange h1 h7 hM (xs.getD (nI (i + 1)).toNatClampNeg 0) (xs.getD (nI (i + 2)).toNatClampNeg 0) (xs.getD (nI (i + 3)).toNatClampNeg 0) v v' x y h h').1) hA1 hA2
  have hI3 : LI o S1 S1 w2 := ⟨_, hI2⟩
  refine J_istore (pc := 355) dL_law_355 (by decide) rfl ?_
  show J X mL_law d (kc - 3) (ks - 18) 357 [some (.retAddr 0), some (.ref 0), some (.ref 19), some (.ref o), some (.int (nI i)), some (.int (nI k1)), some (.int v2)] [] w2 Q
  refine J_goto (pc := 357) (tgt := 2025) dL_law_357 (by decide) ?_
  exact J_sub (L' := [some (.retAddr 0), some (.ref 0), some (.ref 19), some (.ref o), some (.int (nI i)), none, none]) ⟨rfl, rfl, rfl, rfl, rfl, trivial⟩ ((ih _ _ hI3).mono (by omega) (by omega) (fun _ _ h => h))
set_option maxRecDepth 100000 in
set_option maxHeartbeats 4000000 in
theorem s_3 {X : jX} (hs : X.1.stackTraces = false) (hXO : XO X) {xs : List Int32} (hX0 : X.2.2.2.2.2[0]? = some (.inl (0, xs))) (hX1 : xs.length ≤ 320) {d : Nat} (hd : 45 ≤ d) {o : Nat} {S : StX} {w : List jC} (hI : LI o S S w) {i : Nat} (hi : i + 5 ≤ xs.length) {kc ks : Nat} (hkc : 700 ≤ kc) (hks : 40000 ≤ ks) {Q : jQ} (ih : ∀ (S' : StX) (w' : List jC), LI o S' S' w' → J X mL_law d (kc - 700) (ks - 40000) 2025 [some (.retAddr 0), some (.ref 0), some (.ref 19), some (.ref o), some (.int (nI i)), none, none] [] w' Q) : J X mL_law d kc ks 360 [some (.retAddr 0), some (.ref 0), some (.ref 19), some (.ref o), some (.int (nI i)), none, none] [] w Q := by
  refine J_aload_n (pc := 360) dL_law_360 rfl rfl rfl ?_
  refine J_aload_n (pc := 361) dL_law_361 rfl rfl rfl ?_
  refine J_iload (pc := 362) dL_law_362 rfl ?_
  refine J_iconst (pc := 364) (v := nI 1) dL_law_364 (by decide) ?_
  refine J_iaddN (pc := 365) dL_law_365 ?_
  refine J_ialdO (pc := 366) dL_law_366 hX0 (nI_in (by omega) (by omega)) ?_
  refine J_aload_n (pc := 367) dL_law_367 rfl rfl rfl ?_
  refine J_iload (pc := 368) dL_law_368 rfl ?_
  refine J_iconst (pc := 370) (v := nI 2) dL_law_370 (by decide) ?_
  refine J_iaddN (pc := 371) dL_law_371 ?_
  refine J_ialdO (pc := 372) dL_law_372 hX0 (nI_in (by omega) (by omega)) ?_
  refine J_aload_n (pc := 373) dL_law_373 rfl rfl rfl ?_
  refine J_iload (pc := 374) dL_law_374 rfl ?_
  refine J_iconst (pc := 376) (v := nI 3) dL_law_376 (by decide) ?_
  refine J_iaddN (pc := 377) dL_law_377 ?_
  refine J_ialdO (pc := 378) dL_law_378 hX0 (nI_in (by omega) (by omega)) ?_
  refine J_aload_n (pc := 379) dL_law_379 rfl rfl rfl ?_
  refine J_iload (pc := 380) dL_law_380 rfl ?_
  refine J_iconst (pc := 382) (v := nI 4) dL_law_382 (by decide) ?_
  refine J_iaddN (pc := 383) dL_law_383 ?_
  refine J_ialdO (pc := 384) dL_law_384 hX0 (nI_in (by omega) (by omega)) ?_
  refine J_aload_n (pc := 385) dL_law_385 rfl rfl rfl ?_
  refine J_callSX (pc := 386) (M := mL_law) (as := [.ref 0, .int (xs.getD (nI (i + 1)).toNatClampNeg 0), .int (xs.getD (nI (i + 2)).toNatClampNeg 0), .int (xs.getD (nI (i + 3)).toNatClampNeg 0), .int (xs.getD (nI (i + 4)).toNatClampNeg 0), .ref o]) dL_law_386 fw_L_ring fl_L_177 fs_L_ring rfl (c_L_ring hs (d := d - 1) (by omega) hI (xs.getD (nI (i + 1)).toNatClampNeg 0) (xs.getD (nI (i + 2)).toNatClampNeg 0) (xs.getD (nI (i + 3)).toNatClampNeg 0) (xs.getD (nI (i + 4)).toNatClampNeg 0) (kc := 5) (ks := 30) (Nat.le_refl _) (Nat.le_refl _)) (by omega) (by omega) (by omega) (st := []) (Nat.le_of_ble_eq_true rfl) rfl (kr_J fun v1 w1 hv1 => ?_) kx_J
  obtain ⟨k1, x1, S1, hA1, hv1, hI1, hO1⟩ := hv1
  subst hv1
  refine J_istore (pc := 389) dL_law_389 (by decide) rfl ?_
  show J X mL_law d (kc - 5) (ks - 30) 391 [some (.retAddr 0), some (.ref 0), some (.ref 19), some (.ref o), some (.int (nI i)), some (.int (nI k1)), none] [] w1 Q
  refine J_aload_n (pc := 391) dL_law_391 rfl rfl rfl ?_
  refine J_aload_n (pc := 392) dL_law_392 rfl rfl rfl ?_
  refine J_iload (pc := 393) dL_law_393 rfl ?_
  refine J_iconst (pc := 395) (v := nI 1) dL_law_395 (by decide) ?_
  refine J_iaddN (pc := 396) dL_law_396 ?_
  refine J_ialdO (pc := 397) dL_law_397 hX0 (nI_in (by omega) (by omega)) ?_
  refine J_aload_n (pc := 398) dL_law_398 rfl rfl rfl ?_
  refine J_iload (pc := 399) dL_law_399 rfl ?_
  refine J_iconst (pc := 401) (v := nI 2) dL_law_401 (by decide) ?_
  refine J_iaddN (pc := 402) dL_law_402 ?_
  refine J_ialdO (pc := 403) dL_law_403 hX0 (nI_in (by omega) (by omega)) ?_
  refine J_aload_n (pc := 404) dL_law_404 rfl rfl rfl ?_
  refine J_iload (pc := 405) dL_law_405 rfl ?_
  refine J_iconst (pc := 407) (v := nI 3) dL_law_407 (by decide) ?_
  refine J_iaddN (pc := 408) dL_law_408 ?_
  refine J_ialdO (pc := 409) dL_law_409 hX0 (nI_in (by omega) (by omega)) ?_
  refine J_aload_n (pc := 410) dL_law_410 rfl rfl rfl ?_
  refine J_iload (pc := 411) dL_law_411 rfl ?_
  refine J_iconst (pc := 413) (v := nI 4) dL_law_413 (by decide) ?_
  refine J_iaddN (pc := 414) dL_law_414 ?_
  refine J_ialdO (pc := 415) dL_law_415 hX0 (nI_in (by omega) (by omega)) ?_
  obtain ⟨f46, h46⟩ := hI1.c19
  refine J_callV0 (pc := 416) (M := mL_law) (as := [.int (xs.getD (nI (i + 1)).toNatClampNeg 0), .int (xs.getD (nI (i + 2)).toNatClampNeg 0), .int (xs.getD (nI (i + 3)).toNatClampNeg 0), .int (xs.getD (nI (i + 4)).toNatClampNeg 0)]) dL_law_416 fw_X8_ring fl_L_180 fm_X8_ring fe_X8_ring h46 (by decide) rfl rfl rfl (vv_ring hs (d := d - 1) (by omega) hI1 (xs.getD (nI (i + 1)).toNatClampNeg 0) (xs.getD (nI (i + 2)).toNatClampNeg 0) (xs.getD (nI (i + 3)).toNatClampNeg 0) (xs.getD (nI (i + 4)).toNatClampNeg 0) (kc := 0) (ks := 0)) (by omega) (st := []) (Nat.le_of_ble_eq_true rfl) rfl (kr_J fun v2 w2 hv2 => ?_) kx_J
  obtain ⟨k2, S2, hA2, hI2, hO2⟩ := hv2
  obtain ⟨h1, h7, hM⟩ := hI.bd
  obtain ⟨rfl, rfl⟩ := AG.same (fun v v' x y h h' => (fD_ring h1 h7 hM (xs.getD (nI (i + 1)).toNatClampNeg 0) (xs.getD (nI (i + 2)).toNatClampNeg 0) (xs.getD (nI (i + 3)).toNatClampNeg 0) (xs.getD (nI (i + 4)).toNatClampNeg 0) v v' x y h h').1) hA1 hA2
  have hI3 : LI o S1 S1 w2 := ⟨_, hI2⟩
  refine J_istore (pc := 419) dL_law_419 (by decide) rfl ?_
  show J X mL_law d (kc - 5) (ks - 30) 421 [some (.retAddr 0), some (.ref 0), some (.ref 19), some (.ref o), some (.int (nI i)), some (.int (nI k1)), some (.int v2)] [] w2 Q
  refine J_goto (pc := 421) (tgt := 2025) dL_law_421 (by decide) ?_
  exact J_sub (L' := [some (.retAddr 0), some (.ref 0), some (.ref 19), some (.ref o), some (.int (nI i)), none, none]) ⟨rfl, rfl, rfl, rfl, rfl, trivial⟩ ((ih _ _ hI3).mono (by omega) (by omega) (fun _ _ h => h))
set_option maxRecDepth 100000 in
set_option maxHeartbeats 4000000 in
theorem s_4 {X : jX} (hs : X.1.stackTraces = false) (hXO : XO X) {xs : List Int32} (hX0 : X.2.2.2.2.2[0]? = some (.inl (0, xs))) (hX1 : xs.length ≤ 320) {d : Nat} (hd : 45 ≤ d) {o : Nat} {S : StX} {w : List jC} (hI : LI o S S w) {i : Nat} (hi : i + 5 ≤ xs.length) {kc ks : Nat} (hkc : 700 ≤ kc) (hks : 40000 ≤ ks) {Q : jQ} (ih : ∀ (S' : StX) (w' : List jC), LI o S' S' w' → J X mL_law d (kc - 700) (ks - 40000) 2025 [some (.retAddr 0), some (.ref 0), some (.ref 19), some (.ref o), some (.int (nI i)), none, none] [] w' Q) : J X mL_law d kc ks 424 [some (.retAddr 0), some (.ref 0), some (.ref 19), some (.ref o), some (.int (nI i)), none, none] [] w Q := by
  refine J_aload_n (pc := 424) dL_law_424 rfl rfl rfl ?_
  refine J_aload_n (pc := 425) dL_law_425 rfl rfl rfl ?_
  refine J_iload (pc := 426) dL_law_426 rfl ?_
  refine J_iconst (pc := 428) (v := nI 1) dL_law_428 (by decide) ?_
  refine J_iaddN (pc := 429) dL_law_429 ?_
  refine J_ialdO (pc := 430) dL_law_430 hX0 (nI_in (by omega) (by omega)) ?_
  refine J_aload_n (pc := 431) dL_law_431 rfl rfl rfl ?_
  refine J_iload (pc := 432) dL_law_432 rfl ?_
  refine J_iconst (pc := 434) (v := nI 2) dL_law_434 (by decide) ?_
  refine J_iaddN (pc := 435) dL_law_435 ?_
  refine J_ialdO (pc := 436) dL_law_436 hX0 (nI_in (by omega) (by omega)) ?_
  refine J_aload_n (pc := 437) dL_law_437 rfl rfl rfl ?_
  refine J_callSX (pc := 438) (M := mL_law) (as := [.ref 0, .int (xs.getD (nI (i + 1)).toNatClampNeg 0), .int (xs.getD (nI (i + 2)).toNatClampNeg 0), .ref o]) dL_law_438 fw_L_turn fl_L_181 fs_L_turn rfl (c_L_turn hs (d := d - 1) (by omega) hI (xs.getD (nI (i + 1)).toNatClampNeg 0) (xs.getD (nI (i + 2)).toNatClampNeg 0) (kc := 2) (ks := 12) (Nat.le_refl _) (Nat.le_refl _)) (by omega) (by omega) (by omega) (st := []) (Nat.le_of_ble_eq_true rfl) rfl (kr_J fun v1 w1 hv1 => ?_) kx_J
  obtain ⟨k1, x1, S1, hA1, hv1, hI1, hO1⟩ := hv1
  subst hv1
  refine J_istore (pc := 441) dL_law_441 (by decide) rfl ?_
  show J X mL_law d (kc - 2) (ks - 12) 443 [some (.retAddr 0), some (.ref 0), some (.ref 19), some (.ref o), some (.int (nI i)), some (.int (nI k1)), none] [] w1 Q
  refine J_aload_n (pc := 443) dL_law_443 rfl rfl rfl ?_
  refine J_aload_n (pc := 444) dL_law_444 rfl rfl rfl ?_
  refine J_iload (pc := 445) dL_law_445 rfl ?_
  refine J_iconst (pc := 447) (v := nI 1) dL_law_447 (by decide) ?_
  refine J_iaddN (pc := 448) dL_law_448 ?_
  refine J_ialdO (pc := 449) dL_law_449 hX0 (nI_in (by omega) (by omega)) ?_
  refine J_aload_n (pc := 450) dL_law_450 rfl rfl rfl ?_
  refine J_iload (pc := 451) dL_law_451 rfl ?_
  refine J_iconst (pc := 453) (v := nI 2) dL_law_453 (by decide) ?_
  refine J_iaddN (pc := 454) dL_law_454 ?_
  refine J_ialdO (pc := 455) dL_law_455 hX0 (nI_in (by omega) (by omega)) ?_
  obtain ⟨f26, h26⟩ := hI1.c19
  refine J_callV0 (pc := 456) (M := mL_law) (as := [.int (xs.getD (nI (i + 1)).toNatClampNeg 0), .int (xs.getD (nI (i + 2)).toNatClampNeg 0)]) dL_law_456 fw_X8_turn fl_L_183 fm_X8_turn fe_X8_turn h26 (by decide) rfl rfl rfl (vv_turn hs (d := d - 1) (by omega) hI1 (xs.getD (nI (i + 1)).toNatClampNeg 0) (xs.getD (nI (i + 2)).toNatClampNeg 0) (kc := 0) (ks := 0)) (by omega) (st := []) (Nat.le_of_ble_eq_true rfl) rfl (kr_J fun v2 w2 hv2 => ?_) kx_J
  obtain ⟨k2, S2, hA2, hI2, hO2⟩ := hv2
  obtain ⟨h1, h7, hM⟩ := hI.bd
  obtain ⟨rfl, rfl⟩ := AG.same (fun v v' x y h h' => (fD_turn h1 h7 hM (xs.getD (nI (i + 1)).toNatClampNeg 0) (xs.getD (nI (i + 2)).toNatClampNeg 0) v v' x y h h').1) hA1 hA2
  have hI3 : LI o S1 S1 w2 := ⟨_, hI2⟩
  refine J_istore (pc := 459) dL_law_459 (by decide) rfl ?_
  show J X mL_law d (kc - 2) (ks - 12) 461 [some (.retAddr 0), some (.ref 0), some (.ref 19), some (.ref o), some (.int (nI i)), some (.int (nI k1)), some (.int v2)] [] w2 Q
  refine J_goto (pc := 461) (tgt := 2025) dL_law_461 (by decide) ?_
  exact J_sub (L' := [some (.retAddr 0), some (.ref 0), some (.ref 19), some (.ref o), some (.int (nI i)), none, none]) ⟨rfl, rfl, rfl, rfl, rfl, trivial⟩ ((ih _ _ hI3).mono (by omega) (by omega) (fun _ _ h => h))
set_option maxRecDepth 100000 in
set_option maxHeartbeats 4000000 in
theorem s_5 {X : jX} (hs : X.1.stackTraces = false) (hXO : XO X) {xs : List Int32} (hX0 : X.2.2.2.2.2[0]? = some (.inl (0, xs))) (hX1 : xs.length ≤ 320) {d : Nat} (hd : 45 ≤ d) {o : Nat} {S : StX} {w : List jC} (hI : LI o S S w) {i : Nat} (hi : i + 5 ≤ xs.length) {kc ks : Nat} (hkc : 700 ≤ kc) (hks : 40000 ≤ ks) {Q : jQ} (ih : ∀ (S' : StX) (w' : List jC), LI o S' S' w' → J X mL_law d (kc - 700) (ks - 40000) 2025 [some (.retAddr 0), some (.ref 0), some (.ref 19), some (.ref o), some (.int (nI i)), none, none] [] w' Q) : J X mL_law d kc ks 464 [some (.retAddr 0), some (.ref 0), some (.ref 19), some (.ref o), some (.int (nI i)), none, none] [] w Q := by
  refine J_aload_n (pc := 464) dL_law_464 rfl rfl rfl ?_
  refine J_aload_n (pc := 465) dL_law_465 rfl rfl rfl ?_
  refine J_iload (pc := 466) dL_law_466 rfl ?_
  refine J_iconst (pc := 468) (v := nI 1) dL_law_468 (by decide) ?_
  refine J_iaddN (pc := 469) dL_law_469 ?_
  refine J_ialdO (pc := 470) dL_law_470 hX0 (nI_in (by omega) (by omega)) ?_
  refine J_aload_n (pc := 471) dL_law_471 rfl rfl rfl ?_
  refine J_callSX (pc := 472) (M := mL_law) (as := [.ref 0, .int (xs.getD (nI (i + 1)).toNatClampNeg 0), .ref o]) dL_law_472 fw_L_mirror fl_L_184 fs_L_mirror rfl (c_L_mirror hs (d := d - 1) (by omega) hI (xs.getD (nI (i + 1)).toNatClampNeg 0) (kc := 1) (ks := 6) (Nat.le_refl _) (Nat.le_refl _)) (by omega) (by omega) (by omega) (st := []) (Nat.le_of_ble_eq_true rfl) rfl (kr_J fun v1 w1 hv1 => ?_) kx_J
  obtain ⟨k1, x1, S1, hA1, hv1, hI1, hO1⟩ := hv1
  subst hv1
  refine J_istore (pc := 475) dL_law_475 (by decide) rfl ?_
  show J X mL_law d (kc - 1) (ks - 6) 477 [some (.retAddr 0), some (.ref 0), some (.ref 19), some (.ref o), some (.int (nI i)), some (.int (nI k1)), none] [] w1 Q
  refine J_aload_n (pc := 477) dL_law_477 rfl rfl rfl ?_
  refine J_aload_n (pc := 478) dL_law_478 rfl rfl rfl ?_
  refine J_iload (pc := 479) dL_law_479 rfl ?_
  refine J_iconst (pc := 481) (v := nI 1) dL_law_481 (by decide) ?_
  refine J_iaddN (pc := 482) dL_law_482 ?_
  refine J_ialdO (pc := 483) dL_law_483 hX0 (nI_in (by omega) (by omega)) ?_
  obtain ⟨f16, h16⟩ := hI1.c19
  refine J_callV0 (pc := 484) (M := mL_law) (as := [.int (xs.getD (nI (i + 1)).toNatClampNeg 0)]) dL_law_484 fw_X8_mirror fl_L_186 fm_X8_mirror fe_X8_mirror h16 (by decide) rfl rfl rfl (vv_mirror hs (d := d - 1) (by omega) hI1 (xs.getD (nI (i + 1)).toNatClampNeg 0) (kc := 0) (ks := 0)) (by omega) (st := []) (Nat.le_of_ble_eq_true rfl) rfl (kr_J fun v2 w2 hv2 => ?_) kx_J
  obtain ⟨k2, S2, hA2, hI2, hO2⟩ := hv2
  obtain ⟨h1, h7, hM⟩ := hI.bd
  obtain ⟨rfl, rfl⟩ := AG.same (fun v v' x y h h' => (fD_mirror h1 h7 hM (xs.getD (nI (i + 1)).toNatClampNeg 0) v v' x y h h').1) hA1 hA2
  have hI3 : LI o S1 S1 w2 := ⟨_, hI2⟩
  refine J_istore (pc := 487) dL_law_487 (by decide) rfl ?_
  show J X mL_law d (kc - 1) (ks - 6) 489 [some (.retAddr 0), some (.ref 0), some (.ref 19), some (.ref o), some (.int (nI i)), some (.int (nI k1)), some (.int v2)] [] w2 Q
  refine J_goto (pc := 489) (tgt := 2025) dL_law_489 (by decide) ?_
  exact J_sub (L' := [some (.retAddr 0), some (.ref 0), some (.ref 19), some (.ref o), some (.int (nI i)), none, none]) ⟨rfl, rfl, rfl, rfl, rfl, trivial⟩ ((ih _ _ hI3).mono (by omega) (by omega) (fun _ _ h => h))
set_option maxRecDepth 100000 in
set_option maxHeartbeats 4000000 in
theorem s_6 {X : jX} (hs : X.1.stackTraces = false) (hXO : XO X) {xs : List Int32} (hX0 : X.2.2.2.2.2[0]? = some (.inl (0, xs))) (hX1 : xs.length ≤ 320) {d : Nat} (hd : 45 ≤ d) {o : Nat} {S : StX} {w : List jC} (hI : LI o S S w) {i : Nat} (hi : i + 5 ≤ xs.length) {kc ks : Nat} (hkc : 700 ≤ kc) (hks : 40000 ≤ ks) {Q : jQ} (ih : ∀ (S' : StX) (w' : List jC), LI o S' S' w' → J X mL_law d (kc - 700) (ks - 40000) 2025 [some (.retAddr 0), some (.ref 0), some (.ref 19), some (.ref o), some (.int (nI i)), none, none] [] w' Q) : J X mL_law d kc ks 492 [some (.retAddr 0), some (.ref 0), some (.ref 19), some (.ref o), some (.int (nI i)), none, none] [] w Q := by
  refine J_aload_n (pc := 492) dL_law_492 rfl rfl rfl ?_
  refine J_aload_n (pc := 493) dL_law_493 rfl rfl rfl ?_
  refine J_iload (pc := 494) dL_law_494 rfl ?_
  refine J_iconst (pc := 496) (v := nI 1) dL_law_496 (by decide) ?_
  refine J_iaddN (pc := 497) dL_law_497 ?_
  refine J_ialdO (pc := 498) dL_law_498 hX0 (nI_in (by omega) (by omega)) ?_
  refine J_aload_n (pc := 499) dL_law_499 rfl rfl rfl ?_
  refine J_iload (pc := 500) dL_law_500 rfl ?_
  refine J_iconst (pc := 502) (v := nI 2) dL_law_502 (by decide) ?_
  refine J_iaddN (pc := 503) dL_law_503 ?_
  refine J_ialdO (pc := 504) dL_law_504 hX0 (nI_in (by omega) (by omega)) ?_
  refine J_aload_n (pc := 505) dL_law_505 rfl rfl rfl ?_
  refine J_callSX (pc := 506) (M := mL_law) (as := [.ref 0, .int (xs.getD (nI (i + 1)).toNatClampNeg 0), .int (xs.getD (nI (i + 2)).toNatClampNeg 0), .ref o]) dL_law_506 fw_L_copy fl_L_187 fs_L_copy rfl (c_L_copy hs (d := d - 1) (by omega) hI (xs.getD (nI (i + 1)).toNatClampNeg 0) (xs.getD (nI (i + 2)).toNatClampNeg 0) (kc := 2) (ks := 12) (Nat.le_refl _) (Nat.le_refl _)) (by omega) (by omega) (by omega) (st := []) (Nat.le_of_ble_eq_true rfl) rfl (kr_J fun v1 w1 hv1 => ?_) kx_J
  obtain ⟨k1, x1, S1, hA1, hv1, hI1, hO1⟩ := hv1
  subst hv1
  refine J_istore (pc := 509) dL_law_509 (by decide) rfl ?_
  show J X mL_law d (kc - 2) (ks - 12) 511 [some (.retAddr 0), some (.ref 0), some (.ref 19), some (.ref o), some (.int (nI i)), some (.int (nI k1)), none] [] w1 Q
  refine J_aload_n (pc := 511) dL_law_511 rfl rfl rfl ?_
  refine J_aload_n (pc := 512) dL_law_512 rfl rfl rfl ?_
  refine J_iload (pc := 513) dL_law_513 rfl ?_
  refine J_iconst (pc := 515) (v := nI 1) dL_law_515 (by decide) ?_
  refine J_iaddN (pc := 516) dL_law_516 ?_
  refine J_ialdO (pc := 517) dL_law_517 hX0 (nI_in (by omega) (by omega)) ?_
  refine J_aload_n (pc := 518) dL_law_518 rfl rfl rfl ?_
  refine J_iload (pc := 519) dL_law_519 rfl ?_
  refine J_iconst (pc := 521) (v := nI 2) dL_law_521 (by decide) ?_
  refine J_iaddN (pc := 522) dL_law_522 ?_
  refine J_ialdO (pc := 523) dL_law_523 hX0 (nI_in (by omega) (by omega)) ?_
  obtain ⟨f26, h26⟩ := hI1.c19
  refine J_callV0 (pc := 524) (M := mL_law) (as := [.int (xs.getD (nI (i + 1)).toNatClampNeg 0), .int (xs.getD (nI (i + 2)).toNatClampNeg 0)]) dL_law_524 fw_X8_copy fl_L_189 fm_X8_copy fe_X8_copy h26 (by decide) rfl rfl rfl (vv_copy hs (d := d - 1) (by omega) hI1 (xs.getD (nI (i + 1)).toNatClampNeg 0) (xs.getD (nI (i + 2)).toNatClampNeg 0) (kc := 0) (ks := 0)) (by omega) (st := []) (Nat.le_of_ble_eq_true rfl) rfl (kr_J fun v2 w2 hv2 => ?_) kx_J
  obtain ⟨k2, S2, hA2, hI2, hO2⟩ := hv2
  obtain ⟨h1, h7, hM⟩ := hI.bd
  obtain ⟨rfl, rfl⟩ := AG.same (fun v v' x y h h' => (fD_copy h1 h7 hM (xs.getD (nI (i + 1)).toNatClampNeg 0) (xs.getD (nI (i + 2)).toNatClampNeg 0) v v' x y h h').1) hA1 hA2
  have hI3 : LI o S1 S1 w2 := ⟨_, hI2⟩
  refine J_istore (pc := 527) dL_law_527 (by decide) rfl ?_
  show J X mL_law d (kc - 2) (ks - 12) 529 [some (.retAddr 0), some (.ref 0), some (.ref 19), some (.ref o), some (.int (nI i)), some (.int (nI k1)), some (.int v2)] [] w2 Q
  refine J_goto (pc := 529) (tgt := 2025) dL_law_529 (by decide) ?_
  exact J_sub (L' := [some (.retAddr 0), some (.ref 0), some (.ref 19), some (.ref o), some (.int (nI i)), none, none]) ⟨rfl, rfl, rfl, rfl, rfl, trivial⟩ ((ih _ _ hI3).mono (by omega) (by omega) (fun _ _ h => h))
set_option maxRecDepth 100000 in
set_option maxHeartbeats 4000000 in
theorem s_7 {X : jX} (hs : X.1.stackTraces = false) (hXO : XO X) {xs : List Int32} (hX0 : X.2.2.2.2.2[0]? = some (.inl (0, xs))) (hX1 : xs.length ≤ 320) {d : Nat} (hd : 45 ≤ d) {o : Nat} {S : StX} {w : List jC} (hI : LI o S S w) {i : Nat} (hi : i + 5 ≤ xs.length) {kc ks : Nat} (hkc : 700 ≤ kc) (hks : 40000 ≤ ks) {Q : jQ} (ih : ∀ (S' : StX) (w' : List jC), LI o S' S' w' → J X mL_law d (kc - 700) (ks - 40000) 2025 [some (.retAddr 0), some (.ref 0), some (.ref 19), some (.ref o), some (.int (nI i)), none, none] [] w' Q) : J X mL_law d kc ks 532 [some (.retAddr 0), some (.ref 0), some (.ref 19), some (.ref o), some (.int (nI i)), none, none] [] w Q := by
  refine J_aload_n (pc := 532) dL_law_532 rfl rfl rfl ?_
  refine J_aload_n (pc := 533) dL_law_533 rfl rfl rfl ?_
  refine J_iload (pc := 534) dL_law_534 rfl ?_
  refine J_iconst (pc := 536) (v := nI 1) dL_law_536 (by decide) ?_
  refine J_iaddN (pc := 537) dL_law_537 ?_
  refine J_ialdO (pc := 538) dL_law_538 hX0 (nI_in (by omega) (by omega)) ?_
  refine J_aload_n (pc := 539) dL_law_539 rfl rfl rfl ?_
  refine J_iload (pc := 540) dL_law_540 rfl ?_
  refine J_iconst (pc := 542) (v := nI 2) dL_law_542 (by decide) ?_
  refine J_iaddN (pc := 543) dL_law_543 ?_
  refine J_ialdO (pc := 544) dL_law_544 hX0 (nI_in (by omega) (by omega)) ?_
  refine J_aload_n (pc := 545) dL_law_545 rfl rfl rfl ?_
  refine J_callSX (pc := 546) (M := mL_law) (as := [.ref 0, .int (xs.getD (nI (i + 1)).toNatClampNeg 0), .int (xs.getD (nI (i + 2)).toNatClampNeg 0), .ref o]) dL_law_546 fw_L_swap fl_L_190 fs_L_swap rfl (c_L_swap hs (d := d - 1) (by omega) hI (xs.getD (nI (i + 1)).toNatClampNeg 0) (xs.getD (nI (i + 2)).toNatClampNeg 0) (kc := 2) (ks := 12) (Nat.le_refl _) (Nat.le_refl _)) (by omega) (by omega) (by omega) (st := []) (Nat.le_of_ble_eq_true rfl) rfl (kr_J fun v1 w1 hv1 => ?_) kx_J
  obtain ⟨k1, x1, S1, hA1, hv1, hI1, hO1⟩ := hv1
  subst hv1
  refine J_istore (pc := 549) dL_law_549 (by decide) rfl ?_
  show J X mL_law d (kc - 2) (ks - 12) 551 [some (.retAddr 0), some (.ref 0), some (.ref 19), some (.ref o), some (.int (nI i)), some (.int (nI k1)), none] [] w1 Q
  refine J_aload_n (pc := 551) dL_law_551 rfl rfl rfl ?_
  refine J_aload_n (pc := 552) dL_law_552 rfl rfl rfl ?_
  refine J_iload (pc := 553) dL_law_553 rfl ?_
  refine J_iconst (pc := 555) (v := nI 1) dL_law_555 (by decide) ?_
  refine J_iaddN (pc := 556) dL_law_556 ?_
  refine J_ialdO (pc := 557) dL_law_557 hX0 (nI_in (by omega) (by omega)) ?_
  refine J_aload_n (pc := 558) dL_law_558 rfl rfl rfl ?_
  refine J_iload (pc := 559) dL_law_559 rfl ?_
  refine J_iconst (pc := 561) (v := nI 2) dL_law_561 (by decide) ?_
  refine J_iaddN (pc := 562) dL_law_562 ?_
  refine J_ialdO (pc := 563) dL_law_563 hX0 (nI_in (by omega) (by omega)) ?_
  obtain ⟨f26, h26⟩ := hI1.c19
  refine J_callV0 (pc := 564) (M := mL_law) (as := [.int (xs.getD (nI (i + 1)).toNatClampNeg 0), .int (xs.getD (nI (i + 2)).toNatClampNeg 0)]) dL_law_564 fw_X8_swap fl_L_192 fm_X8_swap fe_X8_swap h26 (by decide) rfl rfl rfl (vv_swap hs (d := d - 1) (by omega) hI1 (xs.getD (nI (i + 1)).toNatClampNeg 0) (xs.getD (nI (i + 2)).toNatClampNeg 0) (kc := 0) (ks := 0)) (by omega) (st := []) (Nat.le_of_ble_eq_true rfl) rfl (kr_J fun v2 w2 hv2 => ?_) kx_J
  obtain ⟨k2, S2, hA2, hI2, hO2⟩ := hv2
  obtain ⟨h1, h7, hM⟩ := hI.bd
  obtain ⟨rfl, rfl⟩ := AG.same (fun v v' x y h h' => (fD_swap h1 h7 hM (xs.getD (nI (i + 1)).toNatClampNeg 0) (xs.getD (nI (i + 2)).toNatClampNeg 0) v v' x y h h').1) hA1 hA2
  have hI3 : LI o S1 S1 w2 := ⟨_, hI2⟩
  refine J_istore (pc := 567) dL_law_567 (by decide) rfl ?_
  show J X mL_law d (kc - 2) (ks - 12) 569 [some (.retAddr 0), some (.ref 0), some (.ref 19), some (.ref o), some (.int (nI i)), some (.int (nI k1)), some (.int v2)] [] w2 Q
  refine J_goto (pc := 569) (tgt := 2025) dL_law_569 (by decide) ?_
  exact J_sub (L' := [some (.retAddr 0), some (.ref 0), some (.ref 19), some (.ref o), some (.int (nI i)), none, none]) ⟨rfl, rfl, rfl, rfl, rfl, trivial⟩ ((ih _ _ hI3).mono (by omega) (by omega) (fun _ _ h => h))
set_option maxRecDepth 100000 in
set_option maxHeartbeats 4000000 in
theorem s_8 {X : jX} (hs : X.1.stackTraces = false) (hXO : XO X) {xs : List Int32} (hX0 : X.2.2.2.2.2[0]? = some (.inl (0, xs))) (hX1 : xs.length ≤ 320) {d : Nat} (hd : 45 ≤ d) {o : Nat} {S : StX} {w : List jC} (hI : LI o S S w) {i : Nat} (hi : i + 5 ≤ xs.length) {kc ks : Nat} (hkc : 700 ≤ kc) (hks : 40000 ≤ ks) {Q : jQ} (ih : ∀ (S' : StX) (w' : List jC), LI o S' S' w' → J X mL_law d (kc - 700) (ks - 40000) 2025 [some (.retAddr 0), some (.ref 0), some (.ref 19), some (.ref o), some (.int (nI i)), none, none] [] w' Q) : J X mL_law d kc ks 572 [some (.retAddr 0), some (.ref 0), some (.ref 19), some (.ref o), some (.int (nI i)), none, none] [] w Q := by
  refine J_aload_n (pc := 572) dL_law_572 rfl rfl rfl ?_
  refine J_aload_n (pc := 573) dL_law_573 rfl rfl rfl ?_
  refine J_iload (pc := 574) dL_law_574 rfl ?_
  refine J_iconst (pc := 576) (v := nI 1) dL_law_576 (by decide) ?_
  refine J_iaddN (pc := 577) dL_law_577 ?_
  refine J_ialdO (pc := 578) dL_law_578 hX0 (nI_in (by omega) (by omega)) ?_
  refine J_aload_n (pc := 579) dL_law_579 rfl rfl rfl ?_
  refine J_iload (pc := 580) dL_law_580 rfl ?_
  refine J_iconst (pc := 582) (v := nI 2) dL_law_582 (by decide) ?_
  refine J_iaddN (pc := 583) dL_law_583 ?_
  refine J_ialdO (pc := 584) dL_law_584 hX0 (nI_in (by omega) (by omega)) ?_
  refine J_aload_n (pc := 585) dL_law_585 rfl rfl rfl ?_
  refine J_iload (pc := 586) dL_law_586 rfl ?_
  refine J_iconst (pc := 588) (v := nI 3) dL_law_588 (by decide) ?_
  refine J_iaddN (pc := 589) dL_law_589 ?_
  refine J_ialdO (pc := 590) dL_law_590 hX0 (nI_in (by omega) (by omega)) ?_
  refine J_aload_n (pc := 591) dL_law_591 rfl rfl rfl ?_
  refine J_callSX (pc := 592) (M := mL_law) (as := [.ref 0, .int (xs.getD (nI (i + 1)).toNatClampNeg 0), .int (xs.getD (nI (i + 2)).toNatClampNeg 0), .int (xs.getD (nI (i + 3)).toNatClampNeg 0), .ref o]) dL_law_592 fw_L_then fl_L_193 fs_L_then rfl (c_L_then hs (d := d - 1) (by omega) hI (xs.getD (nI (i + 1)).toNatClampNeg 0) (xs.getD (nI (i + 2)).toNatClampNeg 0) (xs.getD (nI (i + 3)).toNatClampNeg 0) (kc := 3) (ks := 18) (Nat.le_refl _) (Nat.le_refl _)) (by omega) (by omega) (by omega) (st := []) (Nat.le_of_ble_eq_true rfl) rfl (kr_J fun v1 w1 hv1 => ?_) kx_J
  obtain ⟨k1, x1, S1, hA1, hv1, hI1, hO1⟩ := hv1
  subst hv1
  refine J_istore (pc := 595) dL_law_595 (by decide) rfl ?_
  show J X mL_law d (kc - 3) (ks - 18) 597 [some (.retAddr 0), some (.ref 0), some (.ref 19), some (.ref o), some (.int (nI i)), some (.int (nI k1)), none] [] w1 Q
  refine J_aload_n (pc := 597) dL_law_597 rfl rfl rfl ?_
  refine J_aload_n (pc := 598) dL_law_598 rfl rfl rfl ?_
  refine J_iload (pc := 599) dL_law_599 rfl ?_
  refine J_iconst (pc := 601) (v := nI 1) dL_law_601 (by decide) ?_
  refine J_iaddN (pc := 602) dL_law_602 ?_
  refine J_ialdO (pc := 603) dL_law_603 hX0 (nI_in (by omega) (by omega)) ?_
  refine J_aload_n (pc := 604) dL_law_604 rfl rfl rfl ?_
  refine J_iload (pc := 605) dL_law_605 rfl ?_
  refine J_iconst (pc := 607) (v := nI 2) dL_law_607 (by decide) ?_
  refine J_iaddN (pc := 608) dL_law_608 ?_
  refine J_ialdO (pc := 609) dL_law_609 hX0 (nI_in (by omega) (by omega)) ?_
  refine J_aload_n (pc := 610) dL_law_610 rfl rfl rfl ?_
  refine J_iload (pc := 611) dL_law_611 rfl ?_
  refine J_iconst (pc := 613) (v := nI 3) dL_law_613 (by decide) ?_
  refine J_iaddN (pc := 614) dL_law_614 ?_
  refine J_ialdO (pc := 615) dL_law_615 hX0 (nI_in (by omega) (by omega)) ?_
  obtain ⟨f36, h36⟩ := hI1.c19
  refine J_callV0 (pc := 616) (M := mL_law) (as := [.int (xs.getD (nI (i + 1)).toNatClampNeg 0), .int (xs.getD (nI (i + 2)).toNatClampNeg 0), .int (xs.getD (nI (i + 3)).toNatClampNeg 0)]) dL_law_616 fw_X8_then fl_L_195 fm_X8_then fe_X8_then h36 (by decide) rfl rfl rfl (vv_then hs (d := d - 1) (by omega) hI1 (xs.getD (nI (i + 1)).toNatClampNeg 0) (xs.getD (nI (i + 2)).toNatClampNeg 0) (xs.getD (nI (i + 3)).toNatClampNeg 0) (kc := 0) (ks := 0)) (by omega) (st := []) (Nat.le_of_ble_eq_true rfl) rfl (kr_J fun v2 w2 hv2 => ?_) kx_J
  obtain ⟨k2, S2, hA2, hI2, hO2⟩ := hv2
  obtain ⟨h1, h7, hM⟩ := hI.bd
  obtain ⟨rfl, rfl⟩ := AG.same (fun v v' x y h h' => (fD_then h1 h7 hM (xs.getD (nI (i + 1)).toNatClampNeg 0) (xs.getD (nI (i + 2)).toNatClampNeg 0) (xs.getD (nI (i + 3)).toNatClampNeg 0) v v' x y h h').1) hA1 hA2
  have hI3 : LI o S1 S1 w2 := ⟨_, hI2⟩
  refine J_istore (pc := 619) dL_law_619 (by decide) rfl ?_
  show J X mL_law d (kc - 3) (ks - 18) 621 [some (.retAddr 0), some (.ref 0), some (.ref 19), some (.ref o), some (.int (nI i)), some (.int (nI k1)), some (.int v2)] [] w2 Q
  refine J_goto (pc := 621) (tgt := 2025) dL_law_621 (by decide) ?_
  exact J_sub (L' := [some (.retAddr 0), some (.ref 0), some (.ref 19), some (.ref o), some (.int (nI i)), none, none]) ⟨rfl, rfl, rfl, rfl, rfl, trivial⟩ ((ih _ _ hI3).mono (by omega) (by omega) (fun _ _ h => h))
set_option maxRecDepth 100000 in
set_option maxHeartbeats 4000000 in
theorem s_9 {X : jX} (hs : X.1.stackTraces = false) (hXO : XO X) {xs : List Int32} (hX0 : X.2.2.2.2.2[0]? = some (.inl (0, xs))) (hX1 : xs.length ≤ 320) {d : Nat} (hd : 45 ≤ d) {o : Nat} {S : StX} {w : List jC} (hI : LI o S S w) {i : Nat} (hi : i + 5 ≤ xs.length) {kc ks : Nat} (hkc : 700 ≤ kc) (hks : 40000 ≤ ks) {Q : jQ} (ih : ∀ (S' : StX) (w' : List jC), LI o S' S' w' → J X mL_law d (kc - 700) (ks - 40000) 2025 [some (.retAddr 0), some (.ref 0), some (.ref 19), some (.ref o), some (.int (nI i)), none, none] [] w' Q) : J X mL_law d kc ks 624 [some (.retAddr 0), some (.ref 0), some (.ref 19), some (.ref o), some (.int (nI i)), none, none] [] w Q := by
  refine J_aload_n (pc := 624) dL_law_624 rfl rfl rfl ?_
  refine J_aload_n (pc := 625) dL_law_625 rfl rfl rfl ?_
  refine J_iload (pc := 626) dL_law_626 rfl ?_
  refine J_iconst (pc := 628) (v := nI 1) dL_law_628 (by decide) ?_
  refine J_iaddN (pc := 629) dL_law_629 ?_
  refine J_ialdO (pc := 630) dL_law_630 hX0 (nI_in (by omega) (by omega)) ?_
  refine J_aload_n (pc := 631) dL_law_631 rfl rfl rfl ?_
  refine J_iload (pc := 632) dL_law_632 rfl ?_
  refine J_iconst (pc := 634) (v := nI 2) dL_law_634 (by decide) ?_
  refine J_iaddN (pc := 635) dL_law_635 ?_
  refine J_ialdO (pc := 636) dL_law_636 hX0 (nI_in (by omega) (by omega)) ?_
  refine J_aload_n (pc := 637) dL_law_637 rfl rfl rfl ?_
  refine J_callSX (pc := 638) (M := mL_law) (as := [.ref 0, .int (xs.getD (nI (i + 1)).toNatClampNeg 0), .int (xs.getD (nI (i + 2)).toNatClampNeg 0), .ref o]) dL_law_638 fw_L_undo fl_L_196 fs_L_undo rfl (c_L_undo hs (d := d - 1) (by omega) hI (xs.getD (nI (i + 1)).toNatClampNeg 0) (xs.getD (nI (i + 2)).toNatClampNeg 0) (kc := 2) (ks := 12) (Nat.le_refl _) (Nat.le_refl _)) (by omega) (by omega) (by omega) (st := []) (Nat.le_of_ble_eq_true rfl) rfl (kr_J fun v1 w1 hv1 => ?_) kx_J
  obtain ⟨k1, x1, S1, hA1, hv1, hI1, hO1⟩ := hv1
  subst hv1
  refine J_istore (pc := 641) dL_law_641 (by decide) rfl ?_
  show J X mL_law d (kc - 2) (ks - 12) 643 [some (.retAddr 0), some (.ref 0), some (.ref 19), some (.ref o), some (.int (nI i)), some (.int (nI k1)), none] [] w1 Q
  refine J_aload_n (pc := 643) dL_law_643 rfl rfl rfl ?_
  refine J_aload_n (pc := 644) dL_law_644 rfl rfl rfl ?_
  refine J_iload (pc := 645) dL_law_645 rfl ?_
  refine J_iconst (pc := 647) (v := nI 1) dL_law_647 (by decide) ?_
  refine J_iaddN (pc := 648) dL_law_648 ?_
  refine J_ialdO (pc := 649) dL_law_649 hX0 (nI_in (by omega) (by omega)) ?_
  refine J_aload_n (pc := 650) dL_law_650 rfl rfl rfl ?_
  refine J_iload (pc := 651) dL_law_651 rfl ?_
  refine J_iconst (pc := 653) (v := nI 2) dL_law_653 (by decide) ?_
  refine J_iaddN (pc := 654) dL_law_654 ?_
  refine J_ialdO (pc := 655) dL_law_655 hX0 (nI_in (by omega) (by omega)) ?_
  obtain ⟨f26, h26⟩ := hI1.c19
  refine J_callV0 (pc := 656) (M := mL_law) (as := [.int (xs.getD (nI (i + 1)).toNatClampNeg 0), .int (xs.getD (nI (i + 2)).toNatClampNeg 0)]) dL_law_656 fw_X8_undo fl_L_198 fm_X8_undo fe_X8_undo h26 (by decide) rfl rfl rfl (vv_undo hs (d := d - 1) (by omega) hI1 (xs.getD (nI (i + 1)).toNatClampNeg 0) (xs.getD (nI (i + 2)).toNatClampNeg 0) (kc := 0) (ks := 0)) (by omega) (st := []) (Nat.le_of_ble_eq_true rfl) rfl (kr_J fun v2 w2 hv2 => ?_) kx_J
  obtain ⟨k2, S2, hA2, hI2, hO2⟩ := hv2
  obtain ⟨h1, h7, hM⟩ := hI.bd
  obtain ⟨rfl, rfl⟩ := AG.same (fun v v' x y h h' => (fD_undo h1 h7 hM (xs.getD (nI (i + 1)).toNatClampNeg 0) (xs.getD (nI (i + 2)).toNatClampNeg 0) v v' x y h h').1) hA1 hA2
  have hI3 : LI o S1 S1 w2 := ⟨_, hI2⟩
  refine J_istore (pc := 659) dL_law_659 (by decide) rfl ?_
  show J X mL_law d (kc - 2) (ks - 12) 661 [some (.retAddr 0), some (.ref 0), some (.ref 19), some (.ref o), some (.int (nI i)), some (.int (nI k1)), some (.int v2)] [] w2 Q
  refine J_goto (pc := 661) (tgt := 2025) dL_law_661 (by decide) ?_
  exact J_sub (L' := [some (.retAddr 0), some (.ref 0), some (.ref 19), some (.ref o), some (.int (nI i)), none, none]) ⟨rfl, rfl, rfl, rfl, rfl, trivial⟩ ((ih _ _ hI3).mono (by omega) (by omega) (fun _ _ h => h))
set_option maxRecDepth 100000 in
set_option maxHeartbeats 4000000 in
theorem s_10 {X : jX} (hs : X.1.stackTraces = false) (hXO : XO X) {xs : List Int32} (hX0 : X.2.2.2.2.2[0]? = some (.inl (0, xs))) (hX1 : xs.length ≤ 320) {d : Nat} (hd : 45 ≤ d) {o : Nat} {S : StX} {w : List jC} (hI : LI o S S w) {i : Nat} (hi : i + 5 ≤ xs.length) {kc ks : Nat} (hkc : 700 ≤ kc) (hks : 40000 ≤ ks) {Q : jQ} (ih : ∀ (S' : StX) (w' : List jC), LI o S' S' w' → J X mL_law d (kc - 700) (ks - 40000) 2025 [some (.retAddr 0), some (.ref 0), some (.ref 19), some (.ref o), some (.int (nI i)), none, none] [] w' Q) : J X mL_law d kc ks 664 [some (.retAddr 0), some (.ref 0), some (.ref 19), some (.ref o), some (.int (nI i)), none, none] [] w Q := by
  refine J_aload_n (pc := 664) dL_law_664 rfl rfl rfl ?_
  refine J_aload_n (pc := 665) dL_law_665 rfl rfl rfl ?_
  refine J_iload (pc := 666) dL_law_666 rfl ?_
  refine J_iconst (pc := 668) (v := nI 1) dL_law_668 (by decide) ?_
  refine J_iaddN (pc := 669) dL_law_669 ?_
  refine J_ialdO (pc := 670) dL_law_670 hX0 (nI_in (by omega) (by omega)) ?_
  refine J_aload_n (pc := 671) dL_law_671 rfl rfl rfl ?_
  refine J_iload (pc := 672) dL_law_672 rfl ?_
  refine J_iconst (pc := 674) (v := nI 2) dL_law_674 (by decide) ?_
  refine J_iaddN (pc := 675) dL_law_675 ?_
  refine J_ialdO (pc := 676) dL_law_676 hX0 (nI_in (by omega) (by omega)) ?_
  refine J_aload_n (pc := 677) dL_law_677 rfl rfl rfl ?_
  refine J_iload (pc := 678) dL_law_678 rfl ?_
  refine J_iconst (pc := 680) (v := nI 3) dL_law_680 (by decide) ?_
  refine J_iaddN (pc := 681) dL_law_681 ?_
  refine J_ialdO (pc := 682) dL_law_682 hX0 (nI_in (by omega) (by omega)) ?_
  refine J_aload_n (pc := 683) dL_law_683 rfl rfl rfl ?_
  refine J_callSX (pc := 684) (M := mL_law) (as := [.ref 0, .int (xs.getD (nI (i + 1)).toNatClampNeg 0), .int (xs.getD (nI (i + 2)).toNatClampNeg 0), .int (xs.getD (nI (i + 3)).toNatClampNeg 0), .ref o]) dL_law_684 fw_L_power fl_L_199 fs_L_power rfl (c_L_power hs (d := d - 1) (by omega) hI (xs.getD (nI (i + 1)).toNatClampNeg 0) (xs.getD (nI (i + 2)).toNatClampNeg 0) (xs.getD (nI (i + 3)).toNatClampNeg 0) (kc := 3) (ks := 18) (Nat.le_refl _) (Nat.le_refl _)) (by omega) (by omega) (by omega) (st := []) (Nat.le_of_ble_eq_true rfl) rfl (kr_J fun v1 w1 hv1 => ?_) kx_J
  obtain ⟨k1, x1, S1, hA1, hv1, hI1, hO1⟩ := hv1
  subst hv1
  refine J_istore (pc := 687) dL_law_687 (by decide) rfl ?_
  show J X mL_law d (kc - 3) (ks - 18) 689 [some (.retAddr 0), some (.ref 0), some (.ref 19), some (.ref o), some (.int (nI i)), some (.int (nI k1)), none] [] w1 Q
  refine J_aload_n (pc := 689) dL_law_689 rfl rfl rfl ?_
  refine J_aload_n (pc := 690) dL_law_690 rfl rfl rfl ?_
  refine J_iload (pc := 691) dL_law_691 rfl ?_
  refine J_iconst (pc := 693) (v := nI 1) dL_law_693 (by decide) ?_
  refine J_iaddN (pc := 694) dL_law_694 ?_
  refine J_ialdO (pc := 695) dL_law_695 hX0 (nI_in (by omega) (by omega)) ?_
  refine J_aload_n (pc := 696) dL_law_696 rfl rfl rfl ?_
  refine J_iload (pc := 697) dL_law_697 rfl ?_
  refine J_iconst (pc := 699) (v := nI 2) dL_law_699 (by decide) ?_
  refine J_iaddN (pc := 700) dL_law_700 ?_
  refine J_ialdO (pc := 701) dL_law_701 hX0 (nI_in (by omega) (by omega)) ?_
  refine J_aload_n (pc := 702) dL_law_702 rfl rfl rfl ?_
  refine J_iload (pc := 703) dL_law_703 rfl ?_
  refine J_iconst (pc := 705) (v := nI 3) dL_law_705 (by decide) ?_
  refine J_iaddN (pc := 706) dL_law_706 ?_
  refine J_ialdO (pc := 707) dL_law_707 hX0 (nI_in (by omega) (by omega)) ?_
  obtain ⟨f36, h36⟩ := hI1.c19
  refine J_callV0 (pc := 708) (M := mL_law) (as := [.int (xs.getD (nI (i + 1)).toNatClampNeg 0), .int (xs.getD (nI (i + 2)).toNatClampNeg 0), .int (xs.getD (nI (i + 3)).toNatClampNeg 0)]) dL_law_708 fw_X8_power fl_L_201 fm_X8_power fe_X8_power h36 (by decide) rfl rfl rfl (vv_power hs (d := d - 1) (by omega) hI1 (xs.getD (nI (i + 1)).toNatClampNeg 0) (xs.getD (nI (i + 2)).toNatClampNeg 0) (xs.getD (nI (i + 3)).toNatClampNeg 0) (kc := 0) (ks := 0)) (by omega) (st := []) (Nat.le_of_ble_eq_true rfl) rfl (kr_J fun v2 w2 hv2 => ?_) kx_J
  obtain ⟨k2, S2, hA2, hI2, hO2⟩ := hv2
  obtain ⟨h1, h7, hM⟩ := hI.bd
  obtain ⟨rfl, rfl⟩ := AG.same (fun v v' x y h h' => (fD_power h1 h7 hM (xs.getD (nI (i + 1)).toNatClampNeg 0) (xs.getD (nI (i + 2)).toNatClampNeg 0) (xs.getD (nI (i + 3)).toNatClampNeg 0) v v' x y h h').1) hA1 hA2
  have hI3 : LI o S1 S1 w2 := ⟨_, hI2⟩
  refine J_istore (pc := 711) dL_law_711 (by decide) rfl ?_
  show J X mL_law d (kc - 3) (ks - 18) 713 [some (.retAddr 0), some (.ref 0), some (.ref 19), some (.ref o), some (.int (nI i)), some (.int (nI k1)), some (.int v2)] [] w2 Q
  refine J_goto (pc := 713) (tgt := 2025) dL_law_713 (by decide) ?_
  exact J_sub (L' := [some (.retAddr 0), some (.ref 0), some (.ref 19), some (.ref o), some (.int (nI i)), none, none]) ⟨rfl, rfl, rfl, rfl, rfl, trivial⟩ ((ih _ _ hI3).mono (by omega) (by omega) (fun _ _ h => h))
set_option maxRecDepth 100000 in
set_option maxHeartbeats 4000000 in
theorem s_11 {X : jX} (hs : X.1.stackTraces = false) (hXO : XO X) {xs : List Int32} (hX0 : X.2.2.2.2.2[0]? = some (.inl (0, xs))) (hX1 : xs.length ≤ 320) {d : Nat} (hd : 45 ≤ d) {o : Nat} {S : StX} {w : List jC} (hI : LI o S S w) {i : Nat} (hi : i + 5 ≤ xs.length) {kc ks : Nat} (hkc : 700 ≤ kc) (hks : 40000 ≤ ks) {Q : jQ} (ih : ∀ (S' : StX) (w' : List jC), LI o S' S' w' → J X mL_law d (kc - 700) (ks - 40000) 2025 [some (.retAddr 0), some (.ref 0), some (.ref 19), some (.ref o), some (.int (nI i)), none, none] [] w' Q) : J X mL_law d kc ks 716 [some (.retAddr 0), some (.ref 0), some (.ref 19), some (.ref o), some (.int (nI i)), none, none] [] w Q := by
  refine J_aload_n (pc := 716) dL_law_716 rfl rfl rfl ?_
  refine J_aload_n (pc := 717) dL_law_717 rfl rfl rfl ?_
  refine J_iload (pc := 718) dL_law_718 rfl ?_
  refine J_iconst (pc := 720) (v := nI 1) dL_law_720 (by decide) ?_
  refine J_iaddN (pc := 721) dL_law_721 ?_
  refine J_ialdO (pc := 722) dL_law_722 hX0 (nI_in (by omega) (by omega)) ?_
  refine J_aload_n (pc := 723) dL_law_723 rfl rfl rfl ?_
  refine J_iload (pc := 724) dL_law_724 rfl ?_
  refine J_iconst (pc := 726) (v := nI 2) dL_law_726 (by decide) ?_
  refine J_iaddN (pc := 727) dL_law_727 ?_
  refine J_ialdO (pc := 728) dL_law_728 hX0 (nI_in (by omega) (by omega)) ?_
  refine J_aload_n (pc := 729) dL_law_729 rfl rfl rfl ?_
  refine J_iload (pc := 730) dL_law_730 rfl ?_
  refine J_iconst (pc := 732) (v := nI 3) dL_law_732 (by decide) ?_
  refine J_iaddN (pc := 733) dL_law_733 ?_
  refine J_ialdO (pc := 734) dL_law_734 hX0 (nI_in (by omega) (by omega)) ?_
  refine J_aload_n (pc := 735) dL_law_735 rfl rfl rfl ?_
  refine J_callSX (pc := 736) (M := mL_law) (as := [.ref 0, .int (xs.getD (nI (i + 1)).toNatClampNeg 0), .int (xs.getD (nI (i + 2)).toNatClampNeg 0), .int (xs.getD (nI (i + 3)).toNatClampNeg 0), .ref o]) dL_law_736 fw_L_rename fl_L_202 fs_L_rename rfl (c_L_rename hs (d := d - 1) (by omega) hI (xs.getD (nI (i + 1)).toNatClampNeg 0) (xs.getD (nI (i + 2)).toNatClampNeg 0) (xs.getD (nI (i + 3)).toNatClampNeg 0) (kc := 3) (ks := 18) (Nat.le_refl _) (Nat.le_refl _)) (by omega) (by omega) (by omega) (st := []) (Nat.le_of_ble_eq_true rfl) rfl (kr_J fun v1 w1 hv1 => ?_) kx_J
  obtain ⟨k1, x1, S1, hA1, hv1, hI1, hO1⟩ := hv1
  subst hv1
  refine J_istore (pc := 739) dL_law_739 (by decide) rfl ?_
  show J X mL_law d (kc - 3) (ks - 18) 741 [some (.retAddr 0), some (.ref 0), some (.ref 19), some (.ref o), some (.int (nI i)), some (.int (nI k1)), none] [] w1 Q
  refine J_aload_n (pc := 741) dL_law_741 rfl rfl rfl ?_
  refine J_aload_n (pc := 742) dL_law_742 rfl rfl rfl ?_
  refine J_iload (pc := 743) dL_law_743 rfl ?_
  refine J_iconst (pc := 745) (v := nI 1) dL_law_745 (by decide) ?_
  refine J_iaddN (pc := 746) dL_law_746 ?_
  refine J_ialdO (pc := 747) dL_law_747 hX0 (nI_in (by omega) (by omega)) ?_
  refine J_aload_n (pc := 748) dL_law_748 rfl rfl rfl ?_
  refine J_iload (pc := 749) dL_law_749 rfl ?_
  refine J_iconst (pc := 751) (v := nI 2) dL_law_751 (by decide) ?_
  refine J_iaddN (pc := 752) dL_law_752 ?_
  refine J_ialdO (pc := 753) dL_law_753 hX0 (nI_in (by omega) (by omega)) ?_
  refine J_aload_n (pc := 754) dL_law_754 rfl rfl rfl ?_
  refine J_iload (pc := 755) dL_law_755 rfl ?_
  refine J_iconst (pc := 757) (v := nI 3) dL_law_757 (by decide) ?_
  refine J_iaddN (pc := 758) dL_law_758 ?_
  refine J_ialdO (pc := 759) dL_law_759 hX0 (nI_in (by omega) (by omega)) ?_
  obtain ⟨f36, h36⟩ := hI1.c19
  refine J_callV0 (pc := 760) (M := mL_law) (as := [.int (xs.getD (nI (i + 1)).toNatClampNeg 0), .int (xs.getD (nI (i + 2)).toNatClampNeg 0), .int (xs.getD (nI (i + 3)).toNatClampNeg 0)]) dL_law_760 fw_X8_rename fl_L_204 fm_X8_rename fe_X8_rename h36 (by decide) rfl rfl rfl (vv_rename hs (d := d - 1) (by omega) hI1 (xs.getD (nI (i + 1)).toNatClampNeg 0) (xs.getD (nI (i + 2)).toNatClampNeg 0) (xs.getD (nI (i + 3)).toNatClampNeg 0) (kc := 0) (ks := 0)) (by omega) (st := []) (Nat.le_of_ble_eq_true rfl) rfl (kr_J fun v2 w2 hv2 => ?_) kx_J
  obtain ⟨k2, S2, hA2, hI2, hO2⟩ := hv2
  obtain ⟨h1, h7, hM⟩ := hI.bd
  obtain ⟨rfl, rfl⟩ := AG.same (fun v v' x y h h' => (fD_rename h1 h7 hM (xs.getD (nI (i + 1)).toNatClampNeg 0) (xs.getD (nI (i + 2)).toNatClampNeg 0) (xs.getD (nI (i + 3)).toNatClampNeg 0) v v' x y h h').1) hA1 hA2
  have hI3 : LI o S1 S1 w2 := ⟨_, hI2⟩
  refine J_istore (pc := 763) dL_law_763 (by decide) rfl ?_
  show J X mL_law d (kc - 3) (ks - 18) 765 [some (.retAddr 0), some (.ref 0), some (.ref 19), some (.ref o), some (.int (nI i)), some (.int (nI k1)), some (.int v2)] [] w2 Q
  refine J_goto (pc := 765) (tgt := 2025) dL_law_765 (by decide) ?_
  exact J_sub (L' := [some (.retAddr 0), some (.ref 0), some (.ref 19), some (.ref o), some (.int (nI i)), none, none]) ⟨rfl, rfl, rfl, rfl, rfl, trivial⟩ ((ih _ _ hI3).mono (by omega) (by omega) (fun _ _ h => h))
set_option maxRecDepth 100000 in
set_option maxHeartbeats 4000000 in
theorem s_12 {X : jX} (hs : X.1.stackTraces = false) (hXO : XO X) {xs : List Int32} (hX0 : X.2.2.2.2.2[0]? = some (.inl (0, xs))) (hX1 : xs.length ≤ 320) {d : Nat} (hd : 45 ≤ d) {o : Nat} {S : StX} {w : List jC} (hI : LI o S S w) {i : Nat} (hi : i + 5 ≤ xs.length) {kc ks : Nat} (hkc : 700 ≤ kc) (hks : 40000 ≤ ks) {Q : jQ} (ih : ∀ (S' : StX) (w' : List jC), LI o S' S' w' → J X mL_law d (kc - 700) (ks - 40000) 2025 [some (.retAddr 0), some (.ref 0), some (.ref 19), some (.ref o), some (.int (nI i)), none, none] [] w' Q) : J X mL_law d kc ks 768 [some (.retAddr 0), some (.ref 0), some (.ref 19), some (.ref o), some (.int (nI i)), none, none] [] w Q := by
  refine J_aload_n (pc := 768) dL_law_768 rfl rfl rfl ?_
  refine J_aload_n (pc := 769) dL_law_769 rfl rfl rfl ?_
  refine J_iload (pc := 770) dL_law_770 rfl ?_
  refine J_iconst (pc := 772) (v := nI 1) dL_law_772 (by decide) ?_
  refine J_iaddN (pc := 773) dL_law_773 ?_
  refine J_ialdO (pc := 774) dL_law_774 hX0 (nI_in (by omega) (by omega)) ?_
  refine J_aload_n (pc := 775) dL_law_775 rfl rfl rfl ?_
  refine J_iload (pc := 776) dL_law_776 rfl ?_
  refine J_iconst (pc := 778) (v := nI 2) dL_law_778 (by decide) ?_
  refine J_iaddN (pc := 779) dL_law_779 ?_
  refine J_ialdO (pc := 780) dL_law_780 hX0 (nI_in (by omega) (by omega)) ?_
  refine J_aload_n (pc := 781) dL_law_781 rfl rfl rfl ?_
  refine J_iload (pc := 782) dL_law_782 rfl ?_
  refine J_iconst (pc := 784) (v := nI 3) dL_law_784 (by decide) ?_
  refine J_iaddN (pc := 785) dL_law_785 ?_
  refine J_ialdO (pc := 786) dL_law_786 hX0 (nI_in (by omega) (by omega)) ?_
  refine J_aload_n (pc := 787) dL_law_787 rfl rfl rfl ?_
  refine J_callSX (pc := 788) (M := mL_law) (as := [.ref 0, .int (xs.getD (nI (i + 1)).toNatClampNeg 0), .int (xs.getD (nI (i + 2)).toNatClampNeg 0), .int (xs.getD (nI (i + 3)).toNatClampNeg 0), .ref o]) dL_law_788 fw_L_match fl_L_205 fs_L_match rfl (c_L_match hs (d := d - 1) (by omega) hI (xs.getD (nI (i + 1)).toNatClampNeg 0) (xs.getD (nI (i + 2)).toNatClampNeg 0) (xs.getD (nI (i + 3)).toNatClampNeg 0) (kc := 3) (ks := 18) (Nat.le_refl _) (Nat.le_refl _)) (by omega) (by omega) (by omega) (st := []) (Nat.le_of_ble_eq_true rfl) rfl (kr_J fun v1 w1 hv1 => ?_) kx_J
  obtain ⟨k1, x1, S1, hA1, hv1, hI1, hO1⟩ := hv1
  subst hv1
  refine J_istore (pc := 791) dL_law_791 (by decide) rfl ?_
  show J X mL_law d (kc - 3) (ks - 18) 793 [some (.retAddr 0), some (.ref 0), some (.ref 19), some (.ref o), some (.int (nI i)), some (.int (nI k1)), none] [] w1 Q
  refine J_aload_n (pc := 793) dL_law_793 rfl rfl rfl ?_
  refine J_aload_n (pc := 794) dL_law_794 rfl rfl rfl ?_
  refine J_iload (pc := 795) dL_law_795 rfl ?_
  refine J_iconst (pc := 797) (v := nI 1) dL_law_797 (by decide) ?_
  refine J_iaddN (pc := 798) dL_law_798 ?_
  refine J_ialdO (pc := 799) dL_law_799 hX0 (nI_in (by omega) (by omega)) ?_
  refine J_aload_n (pc := 800) dL_law_800 rfl rfl rfl ?_
  refine J_iload (pc := 801) dL_law_801 rfl ?_
  refine J_iconst (pc := 803) (v := nI 2) dL_law_803 (by decide) ?_
  refine J_iaddN (pc := 804) dL_law_804 ?_
  refine J_ialdO (pc := 805) dL_law_805 hX0 (nI_in (by omega) (by omega)) ?_
  refine J_aload_n (pc := 806) dL_law_806 rfl rfl rfl ?_
  refine J_iload (pc := 807) dL_law_807 rfl ?_
  refine J_iconst (pc := 809) (v := nI 3) dL_law_809 (by decide) ?_
  refine J_iaddN (pc := 810) dL_law_810 ?_
  refine J_ialdO (pc := 811) dL_law_811 hX0 (nI_in (by omega) (by omega)) ?_
  obtain ⟨f36, h36⟩ := hI1.c19
  refine J_callV0 (pc := 812) (M := mL_law) (as := [.int (xs.getD (nI (i + 1)).toNatClampNeg 0), .int (xs.getD (nI (i + 2)).toNatClampNeg 0), .int (xs.getD (nI (i + 3)).toNatClampNeg 0)]) dL_law_812 fw_X8_match fl_L_207 fm_X8_match fe_X8_match h36 (by decide) rfl rfl rfl (vv_match hs (d := d - 1) (by omega) hI1 (xs.getD (nI (i + 1)).toNatClampNeg 0) (xs.getD (nI (i + 2)).toNatClampNeg 0) (xs.getD (nI (i + 3)).toNatClampNeg 0) (kc := 0) (ks := 0)) (by omega) (st := []) (Nat.le_of_ble_eq_true rfl) rfl (kr_J fun v2 w2 hv2 => ?_) kx_J
  obtain ⟨k2, S2, hA2, hI2, hO2⟩ := hv2
  obtain ⟨h1, h7, hM⟩ := hI.bd
  obtain ⟨rfl, rfl⟩ := AG.same (fun v v' x y h h' => (fD_match h1 h7 hM (xs.getD (nI (i + 1)).toNatClampNeg 0) (xs.getD (nI (i + 2)).toNatClampNeg 0) (xs.getD (nI (i + 3)).toNatClampNeg 0) v v' x y h h').1) hA1 hA2
  have hI3 : LI o S1 S1 w2 := ⟨_, hI2⟩
  refine J_istore (pc := 815) dL_law_815 (by decide) rfl ?_
  show J X mL_law d (kc - 3) (ks - 18) 817 [some (.retAddr 0), some (.ref 0), some (.ref 19), some (.ref o), some (.int (nI i)), some (.int (nI k1)), some (.int v2)] [] w2 Q
  refine J_goto (pc := 817) (tgt := 2025) dL_law_817 (by decide) ?_
  exact J_sub (L' := [some (.retAddr 0), some (.ref 0), some (.ref 19), some (.ref o), some (.int (nI i)), none, none]) ⟨rfl, rfl, rfl, rfl, rfl, trivial⟩ ((ih _ _ hI3).mono (by omega) (by omega) (fun _ _ h => h))
set_option maxRecDepth 100000 in
set_option maxHeartbeats 4000000 in
theorem s_13 {X : jX} (hs : X.1.stackTraces = false) (hXO : XO X) {xs : List Int32} (hX0 : X.2.2.2.2.2[0]? = some (.inl (0, xs))) (hX1 : xs.length ≤ 320) {d : Nat} (hd : 45 ≤ d) {o : Nat} {S : StX} {w : List jC} (hI : LI o S S w) {i : Nat} (hi : i + 5 ≤ xs.length) {kc ks : Nat} (hkc : 700 ≤ kc) (hks : 40000 ≤ ks) {Q : jQ} (ih : ∀ (S' : StX) (w' : List jC), LI o S' S' w' → J X mL_law d (kc - 700) (ks - 40000) 2025 [some (.retAddr 0), some (.ref 0), some (.ref 19), some (.ref o), some (.int (nI i)), none, none] [] w' Q) : J X mL_law d kc ks 820 [some (.retAddr 0), some (.ref 0), some (.ref 19), some (.ref o), some (.int (nI i)), none, none] [] w Q := by
  refine J_aload_n (pc := 820) dL_law_820 rfl rfl rfl ?_
  refine J_aload_n (pc := 821) dL_law_821 rfl rfl rfl ?_
  refine J_iload (pc := 822) dL_law_822 rfl ?_
  refine J_iconst (pc := 824) (v := nI 1) dL_law_824 (by decide) ?_
  refine J_iaddN (pc := 825) dL_law_825 ?_
  refine J_ialdO (pc := 826) dL_law_826 hX0 (nI_in (by omega) (by omega)) ?_
  refine J_aload_n (pc := 827) dL_law_827 rfl rfl rfl ?_
  refine J_iload (pc := 828) dL_law_828 rfl ?_
  refine J_iconst (pc := 830) (v := nI 2) dL_law_830 (by decide) ?_
  refine J_iaddN (pc := 831) dL_law_831 ?_
  refine J_ialdO (pc := 832) dL_law_832 hX0 (nI_in (by omega) (by omega)) ?_
  refine J_aload_n (pc := 833) dL_law_833 rfl rfl rfl ?_
  refine J_iload (pc := 834) dL_law_834 rfl ?_
  refine J_iconst (pc := 836) (v := nI 3) dL_law_836 (by decide) ?_
  refine J_iaddN (pc := 837) dL_law_837 ?_
  refine J_ialdO (pc := 838) dL_law_838 hX0 (nI_in (by omega) (by omega)) ?_
  refine J_aload_n (pc := 839) dL_law_839 rfl rfl rfl ?_
  refine J_iload (pc := 840) dL_law_840 rfl ?_
  refine J_iconst (pc := 842) (v := nI 4) dL_law_842 (by decide) ?_
  refine J_iaddN (pc := 843) dL_law_843 ?_
  refine J_ialdO (pc := 844) dL_law_844 hX0 (nI_in (by omega) (by omega)) ?_
  refine J_aload_n (pc := 845) dL_law_845 rfl rfl rfl ?_
  refine J_callSX (pc := 846) (M := mL_law) (as := [.ref 0, .int (xs.getD (nI (i + 1)).toNatClampNeg 0), .int (xs.getD (nI (i + 2)).toNatClampNeg 0), .int (xs.getD (nI (i + 3)).toNatClampNeg 0), .int (xs.getD (nI (i + 4)).toNatClampNeg 0), .ref o]) dL_law_846 fw_L_nth fl_L_208 fs_L_nth rfl (c_L_nth hs (d := d - 1) (by omega) hI (xs.getD (nI (i + 1)).toNatClampNeg 0) (xs.getD (nI (i + 2)).toNatClampNeg 0) (xs.getD (nI (i + 3)).toNatClampNeg 0) (xs.getD (nI (i + 4)).toNatClampNeg 0) (kc := 4) (ks := 24) (Nat.le_refl _) (Nat.le_refl _)) (by omega) (by omega) (by omega) (st := []) (Nat.le_of_ble_eq_true rfl) rfl (kr_J fun v1 w1 hv1 => ?_) kx_J
  obtain ⟨k1, x1, S1, hA1, hv1, hI1, hO1⟩ := hv1
  subst hv1
  refine J_istore (pc := 849) dL_law_849 (by decide) rfl ?_
  show J X mL_law d (kc - 4) (ks - 24) 851 [some (.retAddr 0), some (.ref 0), some (.ref 19), some (.ref o), some (.int (nI i)), some (.int (nI k1)), none] [] w1 Q
  refine J_aload_n (pc := 851) dL_law_851 rfl rfl rfl ?_
  refine J_aload_n (pc := 852) dL_law_852 rfl rfl rfl ?_
  refine J_iload (pc := 853) dL_law_853 rfl ?_
  refine J_iconst (pc := 855) (v := nI 1) dL_law_855 (by decide) ?_
  refine J_iaddN (pc := 856) dL_law_856 ?_
  refine J_ialdO (pc := 857) dL_law_857 hX0 (nI_in (by omega) (by omega)) ?_
  refine J_aload_n (pc := 858) dL_law_858 rfl rfl rfl ?_
  refine J_iload (pc := 859) dL_law_859 rfl ?_
  refine J_iconst (pc := 861) (v := nI 2) dL_law_861 (by decide) ?_
  refine J_iaddN (pc := 862) dL_law_862 ?_
  refine J_ialdO (pc := 863) dL_law_863 hX0 (nI_in (by omega) (by omega)) ?_
  refine J_aload_n (pc := 864) dL_law_864 rfl rfl rfl ?_
  refine J_iload (pc := 865) dL_law_865 rfl ?_
  refine J_iconst (pc := 867) (v := nI 3) dL_law_867 (by decide) ?_
  refine J_iaddN (pc := 868) dL_law_868 ?_
  refine J_ialdO (pc := 869) dL_law_869 hX0 (nI_in (by omega) (by omega)) ?_
  refine J_aload_n (pc := 870) dL_law_870 rfl rfl rfl ?_
  refine J_iload (pc := 871) dL_law_871 rfl ?_
  refine J_iconst (pc := 873) (v := nI 4) dL_law_873 (by decide) ?_
  refine J_iaddN (pc := 874) dL_law_874 ?_
  refine J_ialdO (pc := 875) dL_law_875 hX0 (nI_in (by omega) (by omega)) ?_
  obtain ⟨f46, h46⟩ := hI1.c19
  refine J_callV (pc := 876) (M := mL_law) (as := [.int (xs.getD (nI (i + 1)).toNatClampNeg 0), .int (xs.getD (nI (i + 2)).toNatClampNeg 0), .int (xs.getD (nI (i + 3)).toNatClampNeg 0), .int (xs.getD (nI (i + 4)).toNatClampNeg 0)]) dL_law_876 fw_X8_nth fl_L_210 fm_X8_nth fe_X8_nth h46 (by decide) rfl rfl rfl (vv_nth hs (d := d - 1) (by omega) hI1 (xs.getD (nI (i + 1)).toNatClampNeg 0) (xs.getD (nI (i + 2)).toNatClampNeg 0) (xs.getD (nI (i + 3)).toNatClampNeg 0) (xs.getD (nI (i + 4)).toNatClampNeg 0) (kc := 15) (ks := 2068) (Nat.le_refl _) (Nat.le_refl _)) (by omega) (by omega) (by omega) (st := []) (Nat.le_of_ble_eq_true rfl) rfl (kr_J fun v2 w2 hv2 => ?_) kx_J
  obtain ⟨k2, S2, hA2, hI2, hO2⟩ := hv2
  obtain ⟨h1, h7, hM⟩ := hI.bd
  obtain ⟨rfl, rfl⟩ := AG.same (fun v v' x y h h' => (fD_nth h1 h7 hM (xs.getD (nI (i + 1)).toNatClampNeg 0) (xs.getD (nI (i + 2)).toNatClampNeg 0) (xs.getD (nI (i + 3)).toNatClampNeg 0) (xs.getD (nI (i + 4)).toNatClampNeg 0) v v' x y h h').1) hA1 hA2
  have hI3 : LI o S1 S1 w2 := ⟨_, hI2⟩
  refine J_istore (pc := 879) dL_law_879 (by decide) rfl ?_
  show J X mL_law d (kc - 4 - 15) (ks - 24 - 2068) 881 [some (.retAddr 0), some (.ref 0), some (.ref 19), some (.ref o), some (.int (nI i)), some (.int (nI k1)), some (.int v2)] [] w2 Q
  refine J_goto (pc := 881) (tgt := 2025) dL_law_881 (by decide) ?_
  exact J_sub (L' := [some (.retAddr 0), some (.ref 0), some (.ref 19), some (.ref o), some (.int (nI i)), none, none]) ⟨rfl, rfl, rfl, rfl, rfl, trivial⟩ ((ih _ _ hI3).mono (by omega) (by omega) (fun _ _ h => h))
set_option maxRecDepth 100000 in
set_option maxHeartbeats 4000000 in
theorem s_14 {X : jX} (hs : X.1.stackTraces = false) (hXO : XO X) {xs : List Int32} (hX0 : X.2.2.2.2.2[0]? = some (.inl (0, xs))) (hX1 : xs.length ≤ 320) {d : Nat} (hd : 45 ≤ d) {o : Nat} {S : StX} {w : List jC} (hI : LI o S S w) {i : Nat} (hi : i + 5 ≤ xs.length) {kc ks : Nat} (hkc : 700 ≤ kc) (hks : 40000 ≤ ks) {Q : jQ} (ih : ∀ (S' : StX) (w' : List jC), LI o S' S' w' → J X mL_law d (kc - 700) (ks - 40000) 2025 [some (.retAddr 0), some (.ref 0), some (.ref 19), some (.ref o), some (.int (nI i)), none, none] [] w' Q) : J X mL_law d kc ks 884 [some (.retAddr 0), some (.ref 0), some (.ref 19), some (.ref o), some (.int (nI i)), none, none] [] w Q := by
  refine J_aload_n (pc := 884) dL_law_884 rfl rfl rfl ?_
  obtain ⟨f2, h2⟩ := hI.c0
  refine J_callV0 (pc := 885) (M := mL_law) (as := []) dL_law_885 fw_X6_count fl_L_211 fm_X6_count fe_X6_count h2 (by decide) rfl rfl rfl (uu_count hs (d := d - 1) (by omega) hI (kc := 0) (ks := 0)) (by omega) (st := []) (Nat.le_of_ble_eq_true rfl) rfl (kr_I fun v2 w2 _ hI2 => ?_) kx_I
  refine J_pop (pc := 888) dL_law_888 rfl ?_
  refine J_aload_n (pc := 889) dL_law_889 rfl rfl rfl ?_
  obtain ⟨f5, h5⟩ := hI2.c19
  refine J_callV0 (pc := 890) (M := mL_law) (as := []) dL_law_890 fw_X8_count fl_L_215 fm_X8_count fe_X8_count h5 (by decide) rfl rfl rfl (vv_count hs (d := d - 1) (by omega) hI2 (kc := 0) (ks := 0)) (by omega) (st := []) (Nat.le_of_ble_eq_true rfl) rfl (kr_I fun v5 w5 _ hI5 => ?_) kx_I
  refine J_pop (pc := 893) dL_law_893 rfl ?_
  refine J_goto (pc := 894) (tgt := 2025) dL_law_894 (by decide) ?_
  exact J_sub (L' := [some (.retAddr 0), some (.ref 0), some (.ref 19), some (.ref o), some (.int (nI i)), none, none]) ⟨rfl, rfl, rfl, rfl, rfl, trivial⟩ ((ih _ _ hI5).mono (by omega) (by omega) (fun _ _ h => h))
set_option maxRecDepth 100000 in
set_option maxHeartbeats 4000000 in
theorem s_15 {X : jX} (hs : X.1.stackTraces = false) (hXO : XO X) {xs : List Int32} (hX0 : X.2.2.2.2.2[0]? = some (.inl (0, xs))) (hX1 : xs.length ≤ 320) {d : Nat} (hd : 45 ≤ d) {o : Nat} {S : StX} {w : List jC} (hI : LI o S S w) {i : Nat} (hi : i + 5 ≤ xs.length) {kc ks : Nat} (hkc : 700 ≤ kc) (hks : 40000 ≤ ks) {Q : jQ} (ih : ∀ (S' : StX) (w' : List jC), LI o S' S' w' → J X mL_law d (kc - 700) (ks - 40000) 2025 [some (.retAddr 0), some (.ref 0), some (.ref 19), some (.ref o), some (.int (nI i)), none, none] [] w' Q) : J X mL_law d kc ks 897 [some (.retAddr 0), some (.ref 0), some (.ref 19), some (.ref o), some (.int (nI i)), none, none] [] w Q := by
  refine J_aload_n (pc := 897) dL_law_897 rfl rfl rfl ?_
  refine J_aload_n (pc := 898) dL_law_898 rfl rfl rfl ?_
  refine J_iload (pc := 899) dL_law_899 rfl ?_
  refine J_iconst (pc := 901) (v := nI 1) dL_law_901 (by decide) ?_
  refine J_iaddN (pc := 902) dL_law_902 ?_
  refine J_ialdO (pc := 903) dL_law_903 hX0 (nI_in (by omega) (by omega)) ?_
  refine J_aload_n (pc := 904) dL_law_904 rfl rfl rfl ?_
  refine J_callSX (pc := 905) (M := mL_law) (as := [.ref 0, .int (xs.getD (nI (i + 1)).toNatClampNeg 0), .ref o]) dL_law_905 fw_L_number fl_L_216 fs_L_number rfl (c_L_number hs (d := d - 1) (by omega) hI (xs.getD (nI (i + 1)).toNatClampNeg 0) (kc := 1) (ks := 6) (Nat.le_refl _) (Nat.le_refl _)) (by omega) (by omega) (by omega) (st := []) (Nat.le_of_ble_eq_true rfl) rfl (kr_J fun v1 w1 hv1 => ?_) kx_J
  obtain ⟨k1, x1, S1, hA1, hv1, hI1, hO1⟩ := hv1
  subst hv1
  refine J_istore (pc := 908) dL_law_908 (by decide) rfl ?_
  show J X mL_law d (kc - 1) (ks - 6) 910 [some (.retAddr 0), some (.ref 0), some (.ref 19), some (.ref o), some (.int (nI i)), some (.int (nI k1)), none] [] w1 Q
  refine J_aload_n (pc := 910) dL_law_910 rfl rfl rfl ?_
  refine J_aload_n (pc := 911) dL_law_911 rfl rfl rfl ?_
  refine J_iload (pc := 912) dL_law_912 rfl ?_
  refine J_iconst (pc := 914) (v := nI 1) dL_law_914 (by decide) ?_
  refine J_iaddN (pc := 915) dL_law_915 ?_
  refine J_ialdO (pc := 916) dL_law_916 hX0 (nI_in (by omega) (by omega)) ?_
  obtain ⟨f16, h16⟩ := hI1.c19
  refine J_callV0 (pc := 917) (M := mL_law) (as := [.int (xs.getD (nI (i + 1)).toNatClampNeg 0)]) dL_law_917 fw_X8_number fl_L_218 fm_X8_number fe_X8_number h16 (by decide) rfl rfl rfl (vv_number hs (d := d - 1) (by omega) hI1 (xs.getD (nI (i + 1)).toNatClampNeg 0) (kc := 0) (ks := 0)) (by omega) (st := []) (Nat.le_of_ble_eq_true rfl) rfl (kr_J fun v2 w2 hv2 => ?_) kx_J
  obtain ⟨k2, S2, hA2, hI2, hO2⟩ := hv2
  obtain ⟨h1, h7, hM⟩ := hI.bd
  obtain ⟨rfl, rfl⟩ := AG.same (fun v v' x y h h' => (fD_number h1 h7 hM (xs.getD (nI (i + 1)).toNatClampNeg 0) v v' x y h h').1) hA1 hA2
  have hI3 : LI o S1 S1 w2 := ⟨_, hI2⟩
  refine J_istore (pc := 920) dL_law_920 (by decide) rfl ?_
  show J X mL_law d (kc - 1) (ks - 6) 922 [some (.retAddr 0), some (.ref 0), some (.ref 19), some (.ref o), some (.int (nI i)), some (.int (nI k1)), some (.int v2)] [] w2 Q
  refine J_goto (pc := 922) (tgt := 2025) dL_law_922 (by decide) ?_
  exact J_sub (L' := [some (.retAddr 0), some (.ref 0), some (.ref 19), some (.ref o), some (.int (nI i)), none, none]) ⟨rfl, rfl, rfl, rfl, rfl, trivial⟩ ((ih _ _ hI3).mono (by omega) (by omega) (fun _ _ h => h))
set_option maxRecDepth 100000 in
set_option maxHeartbeats 4000000 in
theorem s_16 {X : jX} (hs : X.1.stackTraces = false) (hXO : XO X) {xs : List Int32} (hX0 : X.2.2.2.2.2[0]? = some (.inl (0, xs))) (hX1 : xs.length ≤ 320) {d : Nat} (hd : 45 ≤ d) {o : Nat} {S : StX} {w : List jC} (hI : LI o S S w) {i : Nat} (hi : i + 5 ≤ xs.length) {kc ks : Nat} (hkc : 700 ≤ kc) (hks : 40000 ≤ ks) {Q : jQ} (ih : ∀ (S' : StX) (w' : List jC), LI o S' S' w' → J X mL_law d (kc - 700) (ks - 40000) 2025 [some (.retAddr 0), some (.ref 0), some (.ref 19), some (.ref o), some (.int (nI i)), none, none] [] w' Q) : J X mL_law d kc ks 925 [some (.retAddr 0), some (.ref 0), some (.ref 19), some (.ref o), some (.int (nI i)), none, none] [] w Q := by
  refine J_aload_n (pc := 925) dL_law_925 rfl rfl rfl ?_
  refine J_aload_n (pc := 926) dL_law_926 rfl rfl rfl ?_
  refine J_iload (pc := 927) dL_law_927 rfl ?_
  refine J_iconst (pc := 929) (v := nI 1) dL_law_929 (by decide) ?_
  refine J_iaddN (pc := 930) dL_law_930 ?_
  refine J_ialdO (pc := 931) dL_law_931 hX0 (nI_in (by omega) (by omega)) ?_
  refine J_aload_n (pc := 932) dL_law_932 rfl rfl rfl ?_
  refine J_iload (pc := 933) dL_law_933 rfl ?_
  refine J_iconst (pc := 935) (v := nI 2) dL_law_935 (by decide) ?_
  refine J_iaddN (pc := 936) dL_law_936 ?_
  refine J_ialdO (pc := 937) dL_law_937 hX0 (nI_in (by omega) (by omega)) ?_
  refine J_aload_n (pc := 938) dL_law_938 rfl rfl rfl ?_
  refine J_callSX (pc := 939) (M := mL_law) (as := [.ref 0, .int (xs.getD (nI (i + 1)).toNatClampNeg 0), .int (xs.getD (nI (i + 2)).toNatClampNeg 0), .ref o]) dL_law_939 fw_L_goes fl_L_219 fs_L_goes rfl (c_L_goes hs (d := d - 1) (by omega) hI (xs.getD (nI (i + 1)).toNatClampNeg 0) (xs.getD (nI (i + 2)).toNatClampNeg 0) (kc := 2) (ks := 12) (Nat.le_refl _) (Nat.le_refl _)) (by omega) (by omega) (by omega) (st := []) (Nat.le_of_ble_eq_true rfl) rfl (kr_J fun v1 w1 hv1 => ?_) kx_J
  obtain ⟨k1, x1, S1, hA1, hv1, hI1, hO1⟩ := hv1
  subst hv1
  refine J_istore (pc := 942) dL_law_942 (by decide) rfl ?_
  show J X mL_law d (kc - 2) (ks - 12) 944 [some (.retAddr 0), some (.ref 0), some (.ref 19), some (.ref o), some (.int (nI i)), some (.int (nI k1)), none] [] w1 Q
  refine J_aload_n (pc := 944) dL_law_944 rfl rfl rfl ?_
  refine J_aload_n (pc := 945) dL_law_945 rfl rfl rfl ?_
  refine J_iload (pc := 946) dL_law_946 rfl ?_
  refine J_iconst (pc := 948) (v := nI 1) dL_law_948 (by decide) ?_
  refine J_iaddN (pc := 949) dL_law_949 ?_
  refine J_ialdO (pc := 950) dL_law_950 hX0 (nI_in (by omega) (by omega)) ?_
  refine J_aload_n (pc := 951) dL_law_951 rfl rfl rfl ?_
  refine J_iload (pc := 952) dL_law_952 rfl ?_
  refine J_iconst (pc := 954) (v := nI 2) dL_law_954 (by decide) ?_
  refine J_iaddN (pc := 955) dL_law_955 ?_
  refine J_ialdO (pc := 956) dL_law_956 hX0 (nI_in (by omega) (by omega)) ?_
  obtain ⟨f26, h26⟩ := hI1.c19
  refine J_callV0 (pc := 957) (M := mL_law) (as := [.int (xs.getD (nI (i + 1)).toNatClampNeg 0), .int (xs.getD (nI (i + 2)).toNatClampNeg 0)]) dL_law_957 fw_X8_goes fl_L_221 fm_X8_goes fe_X8_goes h26 (by decide) rfl rfl rfl (vv_goes hs (d := d - 1) (by omega) hI1 (xs.getD (nI (i + 1)).toNatClampNeg 0) (xs.getD (nI (i + 2)).toNatClampNeg 0) (kc := 0) (ks := 0)) (by omega) (st := []) (Nat.le_of_ble_eq_true rfl) rfl (kr_J fun v2 w2 hv2 => ?_) kx_J
  obtain ⟨k2, S2, hA2, hI2, hO2⟩ := hv2
  obtain ⟨h1, h7, hM⟩ := hI.bd
  obtain ⟨rfl, rfl⟩ := AG.same (fun v v' x y h h' => (fD_goes h1 h7 hM (xs.getD (nI (i + 1)).toNatClampNeg 0) (xs.getD (nI (i + 2)).toNatClampNeg 0) v v' x y h h').1) hA1 hA2
  have hI3 : LI o S1 S1 w2 := ⟨_, hI2⟩
  refine J_istore (pc := 960) dL_law_960 (by decide) rfl ?_
  show J X mL_law d (kc - 2) (ks - 12) 962 [some (.retAddr 0), some (.ref 0), some (.ref 19), some (.ref o), some (.int (nI i)), some (.int (nI k1)), some (.int v2)] [] w2 Q
  refine J_goto (pc := 962) (tgt := 2025) dL_law_962 (by decide) ?_
  exact J_sub (L' := [some (.retAddr 0), some (.ref 0), some (.ref 19), some (.ref o), some (.int (nI i)), none, none]) ⟨rfl, rfl, rfl, rfl, rfl, trivial⟩ ((ih _ _ hI3).mono (by omega) (by omega) (fun _ _ h => h))
set_option maxRecDepth 100000 in
set_option maxHeartbeats 4000000 in
theorem s_17 {X : jX} (hs : X.1.stackTraces = false) (hXO : XO X) {xs : List Int32} (hX0 : X.2.2.2.2.2[0]? = some (.inl (0, xs))) (hX1 : xs.length ≤ 320) {d : Nat} (hd : 45 ≤ d) {o : Nat} {S : StX} {w : List jC} (hI : LI o S S w) {i : Nat} (hi : i + 5 ≤ xs.length) {kc ks : Nat} (hkc : 700 ≤ kc) (hks : 40000 ≤ ks) {Q : jQ} (ih : ∀ (S' : StX) (w' : List jC), LI o S' S' w' → J X mL_law d (kc - 700) (ks - 40000) 2025 [some (.retAddr 0), some (.ref 0), some (.ref 19), some (.ref o), some (.int (nI i)), none, none] [] w' Q) : J X mL_law d kc ks 965 [some (.retAddr 0), some (.ref 0), some (.ref 19), some (.ref o), some (.int (nI i)), none, none] [] w Q := by
  refine J_aload_n (pc := 965) dL_law_965 rfl rfl rfl ?_
  refine J_aload_n (pc := 966) dL_law_966 rfl rfl rfl ?_
  refine J_iload (pc := 967) dL_law_967 rfl ?_
  refine J_iconst (pc := 969) (v := nI 1) dL_law_969 (by decide) ?_
  refine J_iaddN (pc := 970) dL_law_970 ?_
  refine J_ialdO (pc := 971) dL_law_971 hX0 (nI_in (by omega) (by omega)) ?_
  refine J_aload_n (pc := 972) dL_law_972 rfl rfl rfl ?_
  refine J_callSX (pc := 973) (M := mL_law) (as := [.ref 0, .int (xs.getD (nI (i + 1)).toNatClampNeg 0), .ref o]) dL_law_973 fw_L_text fl_L_222 fs_L_text rfl (c_L_text hs (d := d - 1) (by omega) hXO hI (xs.getD (nI (i + 1)).toNatClampNeg 0) (kc := 40) (ks := 1500) (Nat.le_refl _) (Nat.le_refl _)) (by omega) (by omega) (by omega) (st := []) (Nat.le_of_ble_eq_true rfl) rfl (kr_I fun v1 w1 _ hI1 => ?_) kx_I
  refine J_istore (pc := 976) dL_law_976 (by decide) rfl ?_
  show J X mL_law d (kc - 40) (ks - 1500) 978 [some (.retAddr 0), some (.ref 0), some (.ref 19), some (.ref o), some (.int (nI i)), some (.int v1), none] [] w1 Q
  refine J_aload_n (pc := 978) dL_law_978 rfl rfl rfl ?_
  refine J_aload_n (pc := 979) dL_law_979 rfl rfl rfl ?_
  refine J_iload (pc := 980) dL_law_980 rfl ?_
  refine J_iconst (pc := 982) (v := nI 1) dL_law_982 (by decide) ?_
  refine J_iaddN (pc := 983) dL_law_983 ?_
  refine J_ialdO (pc := 984) dL_law_984 hX0 (nI_in (by omega) (by omega)) ?_
  obtain ⟨f16, h16⟩ := hI1.c19
  refine J_callV (pc := 985) (M := mL_law) (as := [.int (xs.getD (nI (i + 1)).toNatClampNeg 0)]) dL_law_985 fw_X8_text fl_L_224 fm_X8_text fe_X8_text h16 (by decide) rfl rfl rfl (vv_text hs (d := d - 1) (by omega) hXO hI1 (xs.getD (nI (i + 1)).toNatClampNeg 0) (kc := 40) (ks := 1500) (Nat.le_refl _) (Nat.le_refl _)) (by omega) (by omega) (by omega) (st := []) (Nat.le_of_ble_eq_true rfl) rfl (kr_S fun a16 w16 hj16 hI16 => ?_) kx_S
  refine J_astore (pc := 988) dL_law_988 (by decide) hj16 rfl ?_
  show J X mL_law d (kc - 40 - 40) (ks - 1500 - 1500) 990 [some (.retAddr 0), some (.ref 0), some (.ref 19), some (.ref o), some (.int (nI i)), some (.int v1), some (a16)] [] w16 Q
  refine J_goto (pc := 990) (tgt := 2025) dL_law_990 (by decide) ?_
  exact J_sub (L' := [some (.retAddr 0), some (.ref 0), some (.ref 19), some (.ref o), some (.int (nI i)), none, none]) ⟨rfl, rfl, rfl, rfl, rfl, trivial⟩ ((ih _ _ hI16).mono (by omega) (by omega) (fun _ _ h => h))
set_option maxRecDepth 100000 in
set_option maxHeartbeats 4000000 in
theorem s_18 {X : jX} (hs : X.1.stackTraces = false) (hXO : XO X) {xs : List Int32} (hX0 : X.2.2.2.2.2[0]? = some (.inl (0, xs))) (hX1 : xs.length ≤ 320) {d : Nat} (hd : 45 ≤ d) {o : Nat} {S : StX} {w : List jC} (hI : LI o S S w) {i : Nat} (hi : i + 5 ≤ xs.length) {kc ks : Nat} (hkc : 700 ≤ kc) (hks : 40000 ≤ ks) {Q : jQ} (ih : ∀ (S' : StX) (w' : List jC), LI o S' S' w' → J X mL_law d (kc - 700) (ks - 40000) 2025 [some (.retAddr 0), some (.ref 0), some (.ref 19), some (.ref o), some (.int (nI i)), none, none] [] w' Q) : J X mL_law d kc ks 993 [some (.retAddr 0), some (.ref 0), some (.ref 19), some (.ref o), some (.int (nI i)), none, none] [] w Q := by
  refine J_aload_n (pc := 993) dL_law_993 rfl rfl rfl ?_
  refine J_aload_n (pc := 994) dL_law_994 rfl rfl rfl ?_
  refine J_iload (pc := 995) dL_law_995 rfl ?_
  refine J_iconst (pc := 997) (v := nI 1) dL_law_997 (by decide) ?_
  refine J_iaddN (pc := 998) dL_law_998 ?_
  refine J_ialdO (pc := 999) dL_law_999 hX0 (nI_in (by omega) (by omega)) ?_
  refine J_aload_n (pc := 1000) dL_law_1000 rfl rfl rfl ?_
  refine J_callSX (pc := 1001) (M := mL_law) (as := [.ref 0, .int (xs.getD (nI (i + 1)).toNatClampNeg 0), .ref o]) dL_law_1001 fw_L_rings fl_L_225 fs_L_rings rfl (c_L_rings hs (d := d - 1) (by omega) hXO hI (xs.getD (nI (i + 1)).toNatClampNeg 0) (kc := 40) (ks := 1500) (Nat.le_refl _) (Nat.le_refl _)) (by omega) (by omega) (by omega) (st := []) (Nat.le_of_ble_eq_true rfl) rfl (kr_I fun v1 w1 _ hI1 => ?_) kx_I
  refine J_istore (pc := 1004) dL_law_1004 (by decide) rfl ?_
  show J X mL_law d (kc - 40) (ks - 1500) 1006 [some (.retAddr 0), some (.ref 0), some (.ref 19), some (.ref o), some (.int (nI i)), some (.int v1), none] [] w1 Q
  refine J_aload_n (pc := 1006) dL_law_1006 rfl rfl rfl ?_
  refine J_aload_n (pc := 1007) dL_law_1007 rfl rfl rfl ?_
  refine J_iload (pc := 1008) dL_law_1008 rfl ?_
  refine J_iconst (pc := 1010) (v := nI 1) dL_law_1010 (by decide) ?_
  refine J_iaddN (pc := 1011) dL_law_1011 ?_
  refine J_ialdO (pc := 1012) dL_law_1012 hX0 (nI_in (by omega) (by omega)) ?_
  obtain ⟨f16, h16⟩ := hI1.c19
  refine J_callV (pc := 1013) (M := mL_law) (as := [.int (xs.getD (nI (i + 1)).toNatClampNeg 0)]) dL_law_1013 fw_X8_rings fl_L_227 fm_X8_rings fe_X8_rings h16 (by decide) rfl rfl rfl (vv_rings hs (d := d - 1) (by omega) hXO hI1 (xs.getD (nI (i + 1)).toNatClampNeg 0) (kc := 40) (ks := 1500) (Nat.le_refl _) (Nat.le_refl _)) (by omega) (by omega) (by omega) (st := []) (Nat.le_of_ble_eq_true rfl) rfl (kr_S fun a16 w16 hj16 hI16 => ?_) kx_S
  refine J_astore (pc := 1016) dL_law_1016 (by decide) hj16 rfl ?_
  show J X mL_law d (kc - 40 - 40) (ks - 1500 - 1500) 1018 [some (.retAddr 0), some (.ref 0), some (.ref 19), some (.ref o), some (.int (nI i)), some (.int v1), some (a16)] [] w16 Q
  refine J_goto (pc := 1018) (tgt := 2025) dL_law_1018 (by decide) ?_
  exact J_sub (L' := [some (.retAddr 0), some (.ref 0), some (.ref 19), some (.ref o), some (.int (nI i)), none, none]) ⟨rfl, rfl, rfl, rfl, rfl, trivial⟩ ((ih _ _ hI16).mono (by omega) (by omega) (fun _ _ h => h))
set_option maxRecDepth 100000 in
set_option maxHeartbeats 4000000 in
theorem s_19 {X : jX} (hs : X.1.stackTraces = false) (hXO : XO X) {xs : List Int32} (hX0 : X.2.2.2.2.2[0]? = some (.inl (0, xs))) (hX1 : xs.length ≤ 320) {d : Nat} (hd : 45 ≤ d) {o : Nat} {S : StX} {w : List jC} (hI : LI o S S w) {i : Nat} (hi : i + 5 ≤ xs.length) {kc ks : Nat} (hkc : 700 ≤ kc) (hks : 40000 ≤ ks) {Q : jQ} (ih : ∀ (S' : StX) (w' : List jC), LI o S' S' w' → J X mL_law d (kc - 700) (ks - 40000) 2025 [some (.retAddr 0), some (.ref 0), some (.ref 19), some (.ref o), some (.int (nI i)), none, none] [] w' Q) : J X mL_law d kc ks 1021 [some (.retAddr 0), some (.ref 0), some (.ref 19), some (.ref o), some (.int (nI i)), none, none] [] w Q := by
  refine J_aload_n (pc := 1021) dL_law_1021 rfl rfl rfl ?_
  refine J_aload_n (pc := 1022) dL_law_1022 rfl rfl rfl ?_
  refine J_iload (pc := 1023) dL_law_1023 rfl ?_
  refine J_iconst (pc := 1025) (v := nI 1) dL_law_1025 (by decide) ?_
  refine J_iaddN (pc := 1026) dL_law_1026 ?_
  refine J_ialdO (pc := 1027) dL_law_1027 hX0 (nI_in (by omega) (by omega)) ?_
  refine J_aload_n (pc := 1028) dL_law_1028 rfl rfl rfl ?_
  refine J_iload (pc := 1029) dL_law_1029 rfl ?_
  refine J_iconst (pc := 1031) (v := nI 2) dL_law_1031 (by decide) ?_
  refine J_iaddN (pc := 1032) dL_law_1032 ?_
  refine J_ialdO (pc := 1033) dL_law_1033 hX0 (nI_in (by omega) (by omega)) ?_
  refine J_aload_n (pc := 1034) dL_law_1034 rfl rfl rfl ?_
  refine J_callSX (pc := 1035) (M := mL_law) (as := [.ref 0, .int (xs.getD (nI (i + 1)).toNatClampNeg 0), .int (xs.getD (nI (i + 2)).toNatClampNeg 0), .ref o]) dL_law_1035 fw_L_ringText fl_L_228 fs_L_ringText rfl (c_L_ringText hs (d := d - 1) (by omega) hXO hI (xs.getD (nI (i + 1)).toNatClampNeg 0) (xs.getD (nI (i + 2)).toNatClampNeg 0) (kc := 40) (ks := 1500) (Nat.le_refl _) (Nat.le_refl _)) (by omega) (by omega) (by omega) (st := []) (Nat.le_of_ble_eq_true rfl) rfl (kr_I fun v1 w1 _ hI1 => ?_) kx_I
  refine J_istore (pc := 1038) dL_law_1038 (by decide) rfl ?_
  show J X mL_law d (kc - 40) (ks - 1500) 1040 [some (.retAddr 0), some (.ref 0), some (.ref 19), some (.ref o), some (.int (nI i)), some (.int v1), none] [] w1 Q
  refine J_aload_n (pc := 1040) dL_law_1040 rfl rfl rfl ?_
  refine J_aload_n (pc := 1041) dL_law_1041 rfl rfl rfl ?_
  refine J_iload (pc := 1042) dL_law_1042 rfl ?_
  refine J_iconst (pc := 1044) (v := nI 1) dL_law_1044 (by decide) ?_
  refine J_iaddN (pc := 1045) dL_law_1045 ?_
  refine J_ialdO (pc := 1046) dL_law_1046 hX0 (nI_in (by omega) (by omega)) ?_
  refine J_aload_n (pc := 1047) dL_law_1047 rfl rfl rfl ?_
  refine J_iload (pc := 1048) dL_law_1048 rfl ?_
  refine J_iconst (pc := 1050) (v := nI 2) dL_law_1050 (by decide) ?_
  refine J_iaddN (pc := 1051) dL_law_1051 ?_
  refine J_ialdO (pc := 1052) dL_law_1052 hX0 (nI_in (by omega) (by omega)) ?_
  obtain ⟨f26, h26⟩ := hI1.c19
  refine J_callV (pc := 1053) (M := mL_law) (as := [.int (xs.getD (nI (i + 1)).toNatClampNeg 0), .int (xs.getD (nI (i + 2)).toNatClampNeg 0)]) dL_law_1053 fw_X8_ringText fl_L_230 fm_X8_ringText fe_X8_ringText h26 (by decide) rfl rfl rfl (vv_ringText hs (d := d - 1) (by omega) hXO hI1 (xs.getD (nI (i + 1)).toNatClampNeg 0) (xs.getD (nI (i + 2)).toNatClampNeg 0) (kc := 40) (ks := 1500) (Nat.le_refl _) (Nat.le_refl _)) (by omega) (by omega) (by omega) (st := []) (Nat.le_of_ble_eq_true rfl) rfl (kr_S fun a26 w26 hj26 hI26 => ?_) kx_S
  refine J_astore (pc := 1056) dL_law_1056 (by decide) hj26 rfl ?_
  show J X mL_law d (kc - 40 - 40) (ks - 1500 - 1500) 1058 [some (.retAddr 0), some (.ref 0), some (.ref 19), some (.ref o), some (.int (nI i)), some (.int v1), some (a26)] [] w26 Q
  refine J_goto (pc := 1058) (tgt := 2025) dL_law_1058 (by decide) ?_
  exact J_sub (L' := [some (.retAddr 0), some (.ref 0), some (.ref 19), some (.ref o), some (.int (nI i)), none, none]) ⟨rfl, rfl, rfl, rfl, rfl, trivial⟩ ((ih _ _ hI26).mono (by omega) (by omega) (fun _ _ h => h))
set_option maxRecDepth 100000 in
set_option maxHeartbeats 4000000 in
theorem s_20 {X : jX} (hs : X.1.stackTraces = false) (hXO : XO X) {xs : List Int32} (hX0 : X.2.2.2.2.2[0]? = some (.inl (0, xs))) (hX1 : xs.length ≤ 320) {d : Nat} (hd : 45 ≤ d) {o : Nat} {S : StX} {w : List jC} (hI : LI o S S w) {i : Nat} (hi : i + 5 ≤ xs.length) {kc ks : Nat} (hkc : 700 ≤ kc) (hks : 40000 ≤ ks) {Q : jQ} (ih : ∀ (S' : StX) (w' : List jC), LI o S' S' w' → J X mL_law d (kc - 700) (ks - 40000) 2025 [some (.retAddr 0), some (.ref 0), some (.ref 19), some (.ref o), some (.int (nI i)), none, none] [] w' Q) : J X mL_law d kc ks 1061 [some (.retAddr 0), some (.ref 0), some (.ref 19), some (.ref o), some (.int (nI i)), none, none] [] w Q := by
  refine J_aload_n (pc := 1061) dL_law_1061 rfl rfl rfl ?_
  refine J_aload_n (pc := 1062) dL_law_1062 rfl rfl rfl ?_
  refine J_iload (pc := 1063) dL_law_1063 rfl ?_
  refine J_iconst (pc := 1065) (v := nI 1) dL_law_1065 (by decide) ?_
  refine J_iaddN (pc := 1066) dL_law_1066 ?_
  refine J_ialdO (pc := 1067) dL_law_1067 hX0 (nI_in (by omega) (by omega)) ?_
  refine J_aload_n (pc := 1068) dL_law_1068 rfl rfl rfl ?_
  refine J_callSX (pc := 1069) (M := mL_law) (as := [.ref 0, .int (xs.getD (nI (i + 1)).toNatClampNeg 0), .ref o]) dL_law_1069 fw_L_order fl_L_231 fs_L_order rfl (c_L_order hs (d := d - 1) (by omega) hI (xs.getD (nI (i + 1)).toNatClampNeg 0) (kc := 1) (ks := 6) (Nat.le_refl _) (Nat.le_refl _)) (by omega) (by omega) (by omega) (st := []) (Nat.le_of_ble_eq_true rfl) rfl (kr_J fun v1 w1 hv1 => ?_) kx_J
  obtain ⟨k1, x1, S1, hA1, hv1, hI1, hO1⟩ := hv1
  subst hv1
  refine J_istore (pc := 1072) dL_law_1072 (by decide) rfl ?_
  show J X mL_law d (kc - 1) (ks - 6) 1074 [some (.retAddr 0), some (.ref 0), some (.ref 19), some (.ref o), some (.int (nI i)), some (.int (nI k1)), none] [] w1 Q
  refine J_aload_n (pc := 1074) dL_law_1074 rfl rfl rfl ?_
  refine J_aload_n (pc := 1075) dL_law_1075 rfl rfl rfl ?_
  refine J_iload (pc := 1076) dL_law_1076 rfl ?_
  refine J_iconst (pc := 1078) (v := nI 1) dL_law_1078 (by decide) ?_
  refine J_iaddN (pc := 1079) dL_law_1079 ?_
  refine J_ialdO (pc := 1080) dL_law_1080 hX0 (nI_in (by omega) (by omega)) ?_
  obtain ⟨f16, h16⟩ := hI1.c19
  refine J_callV0 (pc := 1081) (M := mL_law) (as := [.int (xs.getD (nI (i + 1)).toNatClampNeg 0)]) dL_law_1081 fw_X8_order fl_L_233 fm_X8_order fe_X8_order h16 (by decide) rfl rfl rfl (vv_order hs (d := d - 1) (by omega) hI1 (xs.getD (nI (i + 1)).toNatClampNeg 0) (kc := 0) (ks := 0)) (by omega) (st := []) (Nat.le_of_ble_eq_true rfl) rfl (kr_J fun v2 w2 hv2 => ?_) kx_J
  obtain ⟨k2, S2, hA2, hI2, hO2⟩ := hv2
  obtain ⟨h1, h7, hM⟩ := hI.bd
  obtain ⟨rfl, rfl⟩ := AG.same (fun v v' x y h h' => (fD_order h1 h7 hM (xs.getD (nI (i + 1)).toNatClampNeg 0) v v' x y h h').1) hA1 hA2
  have hI3 : LI o S1 S1 w2 := ⟨_, hI2⟩
  refine J_istore (pc := 1084) dL_law_1084 (by decide) rfl ?_
  show J X mL_law d (kc - 1) (ks - 6) 1086 [some (.retAddr 0), some (.ref 0), some (.ref 19), some (.ref o), some (.int (nI i)), some (.int (nI k1)), some (.int v2)] [] w2 Q
  refine J_goto (pc := 1086) (tgt := 2025) dL_law_1086 (by decide) ?_
  exact J_sub (L' := [some (.retAddr 0), some (.ref 0), some (.ref 19), some (.ref o), some (.int (nI i)), none, none]) ⟨rfl, rfl, rfl, rfl, rfl, trivial⟩ ((ih _ _ hI3).mono (by omega) (by omega) (fun _ _ h => h))
set_option maxRecDepth 100000 in
set_option maxHeartbeats 4000000 in
theorem s_21 {X : jX} (hs : X.1.stackTraces = false) (hXO : XO X) {xs : List Int32} (hX0 : X.2.2.2.2.2[0]? = some (.inl (0, xs))) (hX1 : xs.length ≤ 320) {d : Nat} (hd : 45 ≤ d) {o : Nat} {S : StX} {w : List jC} (hI : LI o S S w) {i : Nat} (hi : i + 5 ≤ xs.length) {kc ks : Nat} (hkc : 700 ≤ kc) (hks : 40000 ≤ ks) {Q : jQ} (ih : ∀ (S' : StX) (w' : List jC), LI o S' S' w' → J X mL_law d (kc - 700) (ks - 40000) 2025 [some (.retAddr 0), some (.ref 0), some (.ref 19), some (.ref o), some (.int (nI i)), none, none] [] w' Q) : J X mL_law d kc ks 1089 [some (.retAddr 0), some (.ref 0), some (.ref 19), some (.ref o), some (.int (nI i)), none, none] [] w Q := by
  refine J_aload_n (pc := 1089) dL_law_1089 rfl rfl rfl ?_
  refine J_aload_n (pc := 1090) dL_law_1090 rfl rfl rfl ?_
  refine J_iload (pc := 1091) dL_law_1091 rfl ?_
  refine J_iconst (pc := 1093) (v := nI 1) dL_law_1093 (by decide) ?_
  refine J_iaddN (pc := 1094) dL_law_1094 ?_
  refine J_ialdO (pc := 1095) dL_law_1095 hX0 (nI_in (by omega) (by omega)) ?_
  refine J_aload_n (pc := 1096) dL_law_1096 rfl rfl rfl ?_
  refine J_callSX (pc := 1097) (M := mL_law) (as := [.ref 0, .int (xs.getD (nI (i + 1)).toNatClampNeg 0), .ref o]) dL_law_1097 fw_L_sign fl_L_234 fs_L_sign rfl (c_L_sign hs (d := d - 1) (by omega) hI (xs.getD (nI (i + 1)).toNatClampNeg 0) (kc := 1) (ks := 6) (Nat.le_refl _) (Nat.le_refl _)) (by omega) (by omega) (by omega) (st := []) (Nat.le_of_ble_eq_true rfl) rfl (kr_J fun v1 w1 hv1 => ?_) kx_J
  obtain ⟨k1, x1, S1, hA1, hv1, hI1, hO1⟩ := hv1
  subst hv1
  refine J_istore (pc := 1100) dL_law_1100 (by decide) rfl ?_
  show J X mL_law d (kc - 1) (ks - 6) 1102 [some (.retAddr 0), some (.ref 0), some (.ref 19), some (.ref o), some (.int (nI i)), some (.int (nI k1)), none] [] w1 Q
  refine J_aload_n (pc := 1102) dL_law_1102 rfl rfl rfl ?_
  refine J_aload_n (pc := 1103) dL_law_1103 rfl rfl rfl ?_
  refine J_iload (pc := 1104) dL_law_1104 rfl ?_
  refine J_iconst (pc := 1106) (v := nI 1) dL_law_1106 (by decide) ?_
  refine J_iaddN (pc := 1107) dL_law_1107 ?_
  refine J_ialdO (pc := 1108) dL_law_1108 hX0 (nI_in (by omega) (by omega)) ?_
  obtain ⟨f16, h16⟩ := hI1.c19
  refine J_callV0 (pc := 1109) (M := mL_law) (as := [.int (xs.getD (nI (i + 1)).toNatClampNeg 0)]) dL_law_1109 fw_X8_sign fl_L_236 fm_X8_sign fe_X8_sign h16 (by decide) rfl rfl rfl (vv_sign hs (d := d - 1) (by omega) hI1 (xs.getD (nI (i + 1)).toNatClampNeg 0) (kc := 0) (ks := 0)) (by omega) (st := []) (Nat.le_of_ble_eq_true rfl) rfl (kr_J fun v2 w2 hv2 => ?_) kx_J
  obtain ⟨k2, S2, hA2, hI2, hO2⟩ := hv2
  obtain ⟨h1, h7, hM⟩ := hI.bd
  obtain ⟨rfl, rfl⟩ := AG.same (fun v v' x y h h' => (fD_sign h1 h7 hM (xs.getD (nI (i + 1)).toNatClampNeg 0) v v' x y h h').1) hA1 hA2
  have hI3 : LI o S1 S1 w2 := ⟨_, hI2⟩
  refine J_istore (pc := 1112) dL_law_1112 (by decide) rfl ?_
  show J X mL_law d (kc - 1) (ks - 6) 1114 [some (.retAddr 0), some (.ref 0), some (.ref 19), some (.ref o), some (.int (nI i)), some (.int (nI k1)), some (.int v2)] [] w2 Q
  refine J_goto (pc := 1114) (tgt := 2025) dL_law_1114 (by decide) ?_
  exact J_sub (L' := [some (.retAddr 0), some (.ref 0), some (.ref 19), some (.ref o), some (.int (nI i)), none, none]) ⟨rfl, rfl, rfl, rfl, rfl, trivial⟩ ((ih _ _ hI3).mono (by omega) (by omega) (fun _ _ h => h))
set_option maxRecDepth 100000 in
set_option maxHeartbeats 4000000 in
theorem s_22 {X : jX} (hs : X.1.stackTraces = false) (hXO : XO X) {xs : List Int32} (hX0 : X.2.2.2.2.2[0]? = some (.inl (0, xs))) (hX1 : xs.length ≤ 320) {d : Nat} (hd : 45 ≤ d) {o : Nat} {S : StX} {w : List jC} (hI : LI o S S w) {i : Nat} (hi : i + 5 ≤ xs.length) {kc ks : Nat} (hkc : 700 ≤ kc) (hks : 40000 ≤ ks) {Q : jQ} (ih : ∀ (S' : StX) (w' : List jC), LI o S' S' w' → J X mL_law d (kc - 700) (ks - 40000) 2025 [some (.retAddr 0), some (.ref 0), some (.ref 19), some (.ref o), some (.int (nI i)), none, none] [] w' Q) : J X mL_law d kc ks 1117 [some (.retAddr 0), some (.ref 0), some (.ref 19), some (.ref o), some (.int (nI i)), none, none] [] w Q := by
  refine J_aload_n (pc := 1117) dL_law_1117 rfl rfl rfl ?_
  refine J_aload_n (pc := 1118) dL_law_1118 rfl rfl rfl ?_
  refine J_iload (pc := 1119) dL_law_1119 rfl ?_
  refine J_iconst (pc := 1121) (v := nI 1) dL_law_1121 (by decide) ?_
  refine J_iaddN (pc := 1122) dL_law_1122 ?_
  refine J_ialdO (pc := 1123) dL_law_1123 hX0 (nI_in (by omega) (by omega)) ?_
  refine J_aload_n (pc := 1124) dL_law_1124 rfl rfl rfl ?_
  refine J_callSX (pc := 1125) (M := mL_law) (as := [.ref 0, .int (xs.getD (nI (i + 1)).toNatClampNeg 0), .ref o]) dL_law_1125 fw_L_stays fl_L_237 fs_L_stays rfl (c_L_stays hs (d := d - 1) (by omega) hI (xs.getD (nI (i + 1)).toNatClampNeg 0) (kc := 1) (ks := 6) (Nat.le_refl _) (Nat.le_refl _)) (by omega) (by omega) (by omega) (st := []) (Nat.le_of_ble_eq_true rfl) rfl (kr_J fun v1 w1 hv1 => ?_) kx_J
  obtain ⟨k1, x1, S1, hA1, hv1, hI1, hO1⟩ := hv1
  subst hv1
  refine J_istore (pc := 1128) dL_law_1128 (by decide) rfl ?_
  show J X mL_law d (kc - 1) (ks - 6) 1130 [some (.retAddr 0), some (.ref 0), some (.ref 19), some (.ref o), some (.int (nI i)), some (.int (nI k1)), none] [] w1 Q
  refine J_aload_n (pc := 1130) dL_law_1130 rfl rfl rfl ?_
  refine J_aload_n (pc := 1131) dL_law_1131 rfl rfl rfl ?_
  refine J_iload (pc := 1132) dL_law_1132 rfl ?_
  refine J_iconst (pc := 1134) (v := nI 1) dL_law_1134 (by decide) ?_
  refine J_iaddN (pc := 1135) dL_law_1135 ?_
  refine J_ialdO (pc := 1136) dL_law_1136 hX0 (nI_in (by omega) (by omega)) ?_
  obtain ⟨f16, h16⟩ := hI1.c19
  refine J_callV0 (pc := 1137) (M := mL_law) (as := [.int (xs.getD (nI (i + 1)).toNatClampNeg 0)]) dL_law_1137 fw_X8_stays fl_L_239 fm_X8_stays fe_X8_stays h16 (by decide) rfl rfl rfl (vv_stays hs (d := d - 1) (by omega) hI1 (xs.getD (nI (i + 1)).toNatClampNeg 0) (kc := 0) (ks := 0)) (by omega) (st := []) (Nat.le_of_ble_eq_true rfl) rfl (kr_J fun v2 w2 hv2 => ?_) kx_J
  obtain ⟨k2, S2, hA2, hI2, hO2⟩ := hv2
  obtain ⟨h1, h7, hM⟩ := hI.bd
  obtain ⟨rfl, rfl⟩ := AG.same (fun v v' x y h h' => (fD_stays h1 h7 hM (xs.getD (nI (i + 1)).toNatClampNeg 0) v v' x y h h').1) hA1 hA2
  have hI3 : LI o S1 S1 w2 := ⟨_, hI2⟩
  refine J_istore (pc := 1140) dL_law_1140 (by decide) rfl ?_
  show J X mL_law d (kc - 1) (ks - 6) 1142 [some (.retAddr 0), some (.ref 0), some (.ref 19), some (.ref o), some (.int (nI i)), some (.int (nI k1)), some (.int v2)] [] w2 Q
  refine J_goto (pc := 1142) (tgt := 2025) dL_law_1142 (by decide) ?_
  exact J_sub (L' := [some (.retAddr 0), some (.ref 0), some (.ref 19), some (.ref o), some (.int (nI i)), none, none]) ⟨rfl, rfl, rfl, rfl, rfl, trivial⟩ ((ih _ _ hI3).mono (by omega) (by omega) (fun _ _ h => h))
