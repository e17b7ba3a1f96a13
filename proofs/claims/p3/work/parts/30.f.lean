/-! the law's cases -/
set_option maxRecDepth 100000 in
set_option maxHeartbeats 4000000 in
theorem s_0 {X : jX} (hs : X.1.stackTraces = false) (hXO : XO X) {xs : List Int32} (hX0 : X.2.2.2.2.2[0]? = some (.inl (0, xs))) (hX1 : xs.length ≤ 320) {d : Nat} (hd : 45 ≤ d) {o : Nat} {S : StX} {w : List jC} (hI : LI o S S w) {i : Nat} (hi : i + 5 ≤ xs.length) {kc ks : Nat} (hkc : 700 ≤ kc) (hks : 40000 ≤ ks) {Q : jQ} (ih : ∀ (S' : StX) (w' : List jC), LI o S' S' w' → J X mL_law d (kc - 700) (ks - 40000) 2025 [some (.retAddr 0), some (.ref 0), some (.ref 19), some (.ref o), some (.int (nI i)), none, none] [] w' Q) : J X mL_law d kc ks 240 [some (.retAddr 0), some (.ref 0), some (.ref 19), some (.ref o), some (.int (nI i)), none, none] [] w Q := by
  refine J_aload_n (pc := 240) dL_law_240 rfl rfl rfl ?_
  refine J_aload_n (pc := 241) dL_law_241 rfl rfl rfl ?_
  refine J_iload (pc := 242) dL_law_242 rfl ?_
  refine J_iconst (pc := 244) (v := nI 1) dL_law_244 (by decide) ?_
  refine J_iaddN (pc := 245) dL_law_245 ?_
  refine J_ialdO (pc := 246) dL_law_246 hX0 (nI_in (by omega) (by omega)) ?_
  refine J_aload_n (pc := 247) dL_law_247 rfl rfl rfl ?_
  refine J_callSX (pc := 248) (M := mL_law) (as := [.ref 0, .int (xs.getD (nI (i + 1)).toNatClampNeg 0), .ref o]) dL_law_248 fw_L_points fl_L_163 fs_L_points rfl (c_L_points hs (d := d - 1) (by omega) hI (xs.getD (nI (i + 1)).toNatClampNeg 0) (kc := 1) (ks := 6) (Nat.le_refl _) (Nat.le_refl _)) (by omega) (by omega) (by omega) (st := []) (Nat.le_of_ble_eq_true rfl) rfl (kr_J fun v1 w1 hv1 => ?_) kx_J
  obtain ⟨k1, x1, S1, hA1, hv1, hI1, hO1⟩ := hv1
  subst hv1
  refine J_istore (pc := 251) dL_law_251 (by decide) rfl ?_
  show J X mL_law d (kc - 1) (ks - 6) 253 [some (.retAddr 0), some (.ref 0), some (.ref 19), some (.ref o), some (.int (nI i)), some (.int (nI k1)), none] [] w1 Q
  refine J_aload_n (pc := 253) dL_law_253 rfl rfl rfl ?_
  refine J_aload_n (pc := 254) dL_law_254 rfl rfl rfl ?_
  refine J_iload (pc := 255) dL_law_255 rfl ?_
  refine J_iconst (pc := 257) (v := nI 1) dL_law_257 (by decide) ?_
  refine J_iaddN (pc := 258) dL_law_258 ?_
  refine J_ialdO (pc := 259) dL_law_259 hX0 (nI_in (by omega) (by omega)) ?_
  obtain ⟨f16, h16⟩ := hI1.c19
  refine J_callV0 (pc := 260) (M := mL_law) (as := [.int (xs.getD (nI (i + 1)).toNatClampNeg 0)]) dL_law_260 fw_X8_points fl_L_168 fm_X8_points fe_X8_points h16 (by decide) rfl rfl rfl (vv_points hs (d := d - 1) (by omega) hI1 (xs.getD (nI (i + 1)).toNatClampNeg 0) (kc := 0) (ks := 0)) (by omega) (st := []) (Nat.le_of_ble_eq_true rfl) rfl (kr_J fun v2 w2 hv2 => ?_) kx_J
  obtain ⟨k2, S2, hA2, hI2, hO2⟩ := hv2
  obtain ⟨h1, h7, hM⟩ := hI.bd
  obtain ⟨rfl, rfl⟩ := AG.same (fun v v' x y h h' => (fD_points h1 h7 hM (xs.getD (nI (i + 1)).toNatClampNeg 0) v v' x y h h').1) hA1 hA2
  have hI3 : LI o S1 S1 w2 := ⟨_, hI2⟩
  refine J_istore (pc := 263) dL_law_263 (by decide) rfl ?_
  show J X mL_law d (kc - 1) (ks - 6) 265 [some (.retAddr 0), some (.ref 0), some (.ref 19), some (.ref o), some (.int (nI i)), some (.int (nI k1)), some (.int v2)] [] w2 Q
  refine J_goto (pc := 265) (tgt := 2025) dL_law_265 (by decide) ?_
  exact J_sub (L' := [some (.retAddr 0), some (.ref 0), some (.ref 19), some (.ref o), some (.int (nI i)), none, none]) ⟨rfl, rfl, rfl, rfl, rfl, trivial⟩ ((ih _ _ hI3).mono (by omega) (by omega) (fun _ _ h => h))
set_option maxRecDepth 100000 in
set_option maxHeartbeats 4000000 in
theorem s_1 {X : jX} (hs : X.1.stackTraces = false) (hXO : XO X) {xs : List Int32} (hX0 : X.2.2.2.2.2[0]? = some (.inl (0, xs))) (hX1 : xs.length ≤ 320) {d : Nat} (hd : 45 ≤ d) {o : Nat} {S : StX} {w : List jC} (hI : LI o S S w) {i : Nat} (hi : i + 5 ≤ xs.length) {kc ks : Nat} (hkc : 700 ≤ kc) (hks : 40000 ≤ ks) {Q : jQ} (ih : ∀ (S' : StX) (w' : List jC), LI o S' S' w' → J X mL_law d (kc - 700) (ks - 40000) 2025 [some (.retAddr 0), some (.ref 0), some (.ref 19), some (.ref o), some (.int (nI i)), none, none] [] w' Q) : J X mL_law d kc ks 268 [some (.retAddr 0), some (.ref 0), some (.ref 19), some (.ref o), some (.int (nI i)), none, none] [] w Q := by
  refine J_aload_n (pc := 268) dL_law_268 rfl rfl rfl ?_
  refine J_aload_n (pc := 269) dL_law_269 rfl rfl rfl ?_
  refine J_iload (pc := 270) dL_law_270 rfl ?_
  refine J_iconst (pc := 272) (v := nI 1) dL_law_272 (by decide) ?_
  refine J_iaddN (pc := 273) dL_law_273 ?_
  refine J_ialdO (pc := 274) dL_law_274 hX0 (nI_in (by omega) (by omega)) ?_
  refine J_aload_n (pc := 275) dL_law_275 rfl rfl rfl ?_
  refine J_iload (pc := 276) dL_law_276 rfl ?_
  refine J_iconst (pc := 278) (v := nI 2) dL_law_278 (by decide) ?_
  refine J_iaddN (pc := 279) dL_law_279 ?_
  refine J_ialdO (pc := 280) dL_law_280 hX0 (nI_in (by omega) (by omega)) ?_
  refine J_aload_n (pc := 281) dL_law_281 rfl rfl rfl ?_
  refine J_callSX (pc := 282) (M := mL_law) (as := [.ref 0, .int (xs.getD (nI (i + 1)).toNatClampNeg 0), .int (xs.getD (nI (i + 2)).toNatClampNeg 0), .ref o]) dL_law_282 fw_L_lay fl_L_169 fs_L_lay rfl (c_L_lay hs (d := d - 1) (by omega) hI (xs.getD (nI (i + 1)).toNatClampNeg 0) (xs.getD (nI (i + 2)).toNatClampNeg 0) (kc := 2) (ks := 12) (Nat.le_refl _) (Nat.le_refl _)) (by omega) (by omega) (by omega) (st := []) (Nat.le_of_ble_eq_true rfl) rfl (kr_J fun v1 w1 hv1 => ?_) kx_J
  obtain ⟨k1, x1, S1, hA1, hv1, hI1, hO1⟩ := hv1
  subst hv1
  refine J_istore (pc := 285) dL_law_285 (by decide) rfl ?_
  show J X mL_law d (kc - 2) (ks - 12) 287 [some (.retAddr 0), some (.ref 0), some (.ref 19), some (.ref o), some (.int (nI i)), some (.int (nI k1)), none] [] w1 Q
  refine J_aload_n (pc := 287) dL_law_287 rfl rfl rfl ?_
  refine J_aload_n (pc := 288) dL_law_288 rfl rfl rfl ?_
  refine J_iload (pc := 289) dL_law_289 rfl ?_
  refine J_iconst (pc := 291) (v := nI 1) dL_law_291 (by decide) ?_
  refine J_iaddN (pc := 292) dL_law_292 ?_
  refine J_ialdO (pc := 293) dL_law_293 hX0 (nI_in (by omega) (by omega)) ?_
  refine J_aload_n (pc := 294) dL_law_294 rfl rfl rfl ?_
  refine J_iload (pc := 295) dL_law_295 rfl ?_
  refine J_iconst (pc := 297) (v := nI 2) dL_law_297 (by decide) ?_
  refine J_iaddN (pc := 298) dL_law_298 ?_
  refine J_ialdO (pc := 299) dL_law_299 hX0 (nI_in (by omega) (by omega)) ?_
  obtain ⟨f26, h26⟩ := hI1.c19
  refine J_callV0 (pc := 300) (M := mL_law) (as := [.int (xs.getD (nI (i + 1)).toNatClampNeg 0), .int (xs.getD (nI (i + 2)).toNatClampNeg 0)]) dL_law_300 fw_X8_lay fl_L_172 fm_X8_lay fe_X8_lay h26 (by decide) rfl rfl rfl (vv_lay hs (d := d - 1) (by omega) hI1 (xs.getD (nI (i + 1)).toNatClampNeg 0) (xs.getD (nI (i + 2)).toNatClampNeg 0) (kc := 0) (ks := 0)) (by omega) (st := []) (Nat.le_of_ble_eq_true rfl) rfl (kr_J fun v2 w2 hv2 => ?_) kx_J
  obtain ⟨k2, S2, hA2, hI2, hO2⟩ := hv2
  obtain ⟨h1, h7, hM⟩ := hI.bd
  obtain ⟨rfl, rfl⟩ := AG.same (fun v v' x y h h' => (fD_lay h1 h7 hM (xs.getD (nI (i + 1)).toNatClampNeg 0) (xs.getD (nI (i + 2)).toNatClampNeg 0) v v' x y h h').1) hA1 hA2
  have hsm := AG.val (fun v v' x y h h' => (fD_lay h1 h7 hM (xs.getD (nI (i + 1)).toNatClampNeg 0) (xs.getD (nI (i + 2)).toNatClampNeg 0) v v' x y h h').2) hA1 hA2
  have hk3 := AG.k3 hA1
  have hO : k1 = 0 → ∃ s, w2[o]? = some (.inr (8, [.long x1.toInt64, s])) := fun h => by obtain ⟨s, hs⟩ := hO1 h; exact ⟨s, hO2.trans hs⟩
  have hI3 : LI o S1 S1 w2 := ⟨_, hI2⟩
  refine J_istore (pc := 303) dL_law_303 (by decide) rfl ?_
  show J X mL_law d (kc - 2) (ks - 12) 305 [some (.retAddr 0), some (.ref 0), some (.ref 19), some (.ref o), some (.int (nI i)), some (.int (nI k1)), some (.int v2)] [] w2 Q
  refine J_aload_n (pc := 305) dL_law_305 rfl rfl rfl ?_
  obtain ⟨f3, h3⟩ := hI2.c19
  refine J_callV0 (pc := 306) (M := mL_law) (as := []) dL_law_306 fw_X8_thrown fl_L_173 fm_X8_thrown fe_X8_thrown h3 (by decide) rfl rfl rfl (vv_thrown hs (d := d - 1) hI2 (kc := 0) (ks := 0)) (by omega) (st := []) (Nat.le_of_ble_eq_true rfl) rfl (kr_P fun v3 hv3 => ?_) kx_I
  subst hv3
  refine J_iload (pc := 309) dL_law_309 rfl ?_
  refine J_icmp_eq (pc := 311) (tgt := 316) dL_law_311 (by decide) (fun _ => ?_) (fun h => absurd rfl h)
  refine J_iload (pc := 316) dL_law_316 rfl ?_
  have hend : J X mL_law d (kc - 2) (ks - 12) 334 [some (.retAddr 0), some (.ref 0), some (.ref 19), some (.ref o), some (.int (nI i)), some (.int (nI k1)), some (.int v2)] [] w2 Q := by
    refine J_goto (pc := 334) (tgt := 2025) dL_law_334 (by decide) ?_
    exact J_sub (L' := [some (.retAddr 0), some (.ref 0), some (.ref 19), some (.ref o), some (.int (nI i)), none, none]) ⟨rfl, rfl, rfl, rfl, rfl, trivial⟩ ((ih _ _ hI3).mono (by omega) (by omega) (fun _ _ h => h))
  refine J_if_neN (pc := 318) (tgt := 334) dL_law_318 (by decide) (by omega) (fun _ => hend) (fun h0 => ?_)
  obtain ⟨s4, hO4⟩ := hO h0
  refine J_aload_n (pc := 321) dL_law_321 rfl rfl rfl ?_
  refine J_getN (pc := 322) (k := 0) dL_law_322 kC8 (by decide) ff_L_13 hO4 rfl ?_
  refine J_iload (pc := 325) dL_law_325 rfl ?_
  refine J_i2l (pc := 327) dL_law_327 ?_
  refine J_lcmp (pc := 328) dL_law_328 ?_
  exact J_if_eq (pc := 329) (tgt := 334) dL_law_329 (by decide) (fun _ => hend) (fun h => absurd (lg_same (by rw [hsm h0])) h)
set_option maxRecDepth 100000 in
set_option maxHeartbeats 4000000 in
theorem s_2 {X : jX} (hs : X.1.stackTraces = false) (hXO : XO X) {xs : List Int32} (hX0 : X.2.2.2.2.2[0]? = some (.inl (0, xs))) (hX1 : xs.length ≤ 320) {d : Nat} (hd : 45 ≤ d) {o : Nat} {S : StX} {w : List jC} (hI : LI o S S w) {i : Nat} (hi : i + 5 ≤ xs.length) {kc ks : Nat} (hkc : 700 ≤ kc) (hks : 40000 ≤ ks) {Q : jQ} (ih : ∀ (S' : StX) (w' : List jC), LI o S' S' w' → J X mL_law d (kc - 700) (ks - 40000) 2025 [some (.retAddr 0), some (.ref 0), some (.ref 19), some (.ref o), some (.int (nI i)), none, none] [] w' Q) : J X mL_law d kc ks 337 [some (.retAddr 0), some (.ref 0), some (.ref 19), some (.ref o), some (.int (nI i)), none, none] [] w Q := by
  refine J_aload_n (pc := 337) dL_law_337 rfl rfl rfl ?_
  refine J_aload_n (pc := 338) dL_law_338 rfl rfl rfl ?_
  refine J_iload (pc := 339) dL_law_339 rfl ?_
  refine J_iconst (pc := 341) (v := nI 1) dL_law_341 (by decide) ?_
  refine J_iaddN (pc := 342) dL_law_342 ?_
  refine J_ialdO (pc := 343) dL_law_343 hX0 (nI_in (by omega) (by omega)) ?_
  refine J_aload_n (pc := 344) dL_law_344 rfl rfl rfl ?_
  refine J_iload (pc := 345) dL_law_345 rfl ?_
  refine J_iconst (pc := 347) (v := nI 2) dL_law_347 (by decide) ?_
  refine J_iaddN (pc := 348) dL_law_348 ?_
  refine J_ialdO (pc := 349) dL_law_349 hX0 (nI_in (by omega) (by omega)) ?_
  refine J_aload_n (pc := 350) dL_law_350 rfl rfl rfl ?_
  refine J_iload (pc := 351) dL_law_351 rfl ?_
  refine J_iconst (pc := 353) (v := nI 3) dL_law_353 (by decide) ?_
  refine J_iaddN (pc := 354) dL_law_354 ?_
  refine J_ialdO (pc := 355) dL_law_355 hX0 (nI_in (by omega) (by omega)) ?_
  refine J_aload_n (pc := 356) dL_law_356 rfl rfl rfl ?_
  refine J_callSX (pc := 357) (M := mL_law) (as := [.ref 0, .int (xs.getD (nI (i + 1)).toNatClampNeg 0), .int (xs.getD (nI (i + 2)).toNatClampNeg 0), .int (xs.getD (nI (i + 3)).toNatClampNeg 0), .ref o]) dL_law_357 fw_L_exchange fl_L_177 fs_L_exchange rfl (c_L_exchange hs (d := d - 1) (by omega) hI (xs.getD (nI (i + 1)).toNatClampNeg 0) (xs.getD (nI (i + 2)).toNatClampNeg 0) (xs.getD (nI (i + 3)).toNatClampNeg 0) (kc := 3) (ks := 18) (Nat.le_refl _) (Nat.le_refl _)) (by omega) (by omega) (by omega) (st := []) (Nat.le_of_ble_eq_true rfl) rfl (kr_J fun v1 w1 hv1 => ?_) kx_J
  obtain ⟨k1, x1, S1, hA1, hv1, hI1, hO1⟩ := hv1
  subst hv1
  refine J_istore (pc := 360) dL_law_360 (by decide) rfl ?_
  show J X mL_law d (kc - 3) (ks - 18) 362 [some (.retAddr 0), some (.ref 0), some (.ref 19), some (.ref o), some (.int (nI i)), some (.int (nI k1)), none] [] w1 Q
  refine J_aload_n (pc := 362) dL_law_362 rfl rfl rfl ?_
  refine J_aload_n (pc := 363) dL_law_363 rfl rfl rfl ?_
  refine J_iload (pc := 364) dL_law_364 rfl ?_
  refine J_iconst (pc := 366) (v := nI 1) dL_law_366 (by decide) ?_
  refine J_iaddN (pc := 367) dL_law_367 ?_
  refine J_ialdO (pc := 368) dL_law_368 hX0 (nI_in (by omega) (by omega)) ?_
  refine J_aload_n (pc := 369) dL_law_369 rfl rfl rfl ?_
  refine J_iload (pc := 370) dL_law_370 rfl ?_
  refine J_iconst (pc := 372) (v := nI 2) dL_law_372 (by decide) ?_
  refine J_iaddN (pc := 373) dL_law_373 ?_
  refine J_ialdO (pc := 374) dL_law_374 hX0 (nI_in (by omega) (by omega)) ?_
  refine J_aload_n (pc := 375) dL_law_375 rfl rfl rfl ?_
  refine J_iload (pc := 376) dL_law_376 rfl ?_
  refine J_iconst (pc := 378) (v := nI 3) dL_law_378 (by decide) ?_
  refine J_iaddN (pc := 379) dL_law_379 ?_
  refine J_ialdO (pc := 380) dL_law_380 hX0 (nI_in (by omega) (by omega)) ?_
  obtain ⟨f36, h36⟩ := hI1.c19
  refine J_callV0 (pc := 381) (M := mL_law) (as := [.int (xs.getD (nI (i + 1)).toNatClampNeg 0), .int (xs.getD (nI (i + 2)).toNatClampNeg 0), .int (xs.getD (nI (i + 3)).toNatClampNeg 0)]) dL_law_381 fw_X8_exchange fl_L_180 fm_X8_exchange fe_X8_exchange h36 (by decide) rfl rfl rfl (vv_exchange hs (d := d - 1) (by omega) hI1 (xs.getD (nI (i + 1)).toNatClampNeg 0) (xs.getD (nI (i + 2)).toNatClampNeg 0) (xs.getD (nI (i + 3)).toNatClampNeg 0) (kc := 0) (ks := 0)) (by omega) (st := []) (Nat.le_of_ble_eq_true rfl) rfl (kr_J fun v2 w2 hv2 => ?_) kx_J
  obtain ⟨k2, S2, hA2, hI2, hO2⟩ := hv2
  obtain ⟨h1, h7, hM⟩ := hI.bd
  obtain ⟨rfl, rfl⟩ := AG.same (fun v v' x y h h' => (fD_exchange h1 h7 hM (xs.getD (nI (i + 1)).toNatClampNeg 0) (xs.getD (nI (i + 2)).toNatClampNeg 0) (xs.getD (nI (i + 3)).toNatClampNeg 0) v v' x y h h').1) hA1 hA2
  have hI3 : LI o S1 S1 w2 := ⟨_, hI2⟩
  refine J_istore (pc := 384) dL_law_384 (by decide) rfl ?_
  show J X mL_law d (kc - 3) (ks - 18) 386 [some (.retAddr 0), some (.ref 0), some (.ref 19), some (.ref o), some (.int (nI i)), some (.int (nI k1)), some (.int v2)] [] w2 Q
  refine J_goto (pc := 386) (tgt := 2025) dL_law_386 (by decide) ?_
  exact J_sub (L' := [some (.retAddr 0), some (.ref 0), some (.ref 19), some (.ref o), some (.int (nI i)), none, none]) ⟨rfl, rfl, rfl, rfl, rfl, trivial⟩ ((ih _ _ hI3).mono (by omega) (by omega) (fun _ _ h => h))
set_option maxRecDepth 100000 in
set_option maxHeartbeats 4000000 in
theorem s_3 {X : jX} (hs : X.1.stackTraces = false) (hXO : XO X) {xs : List Int32} (hX0 : X.2.2.2.2.2[0]? = some (.inl (0, xs))) (hX1 : xs.length ≤ 320) {d : Nat} (hd : 45 ≤ d) {o : Nat} {S : StX} {w : List jC} (hI : LI o S S w) {i : Nat} (hi : i + 5 ≤ xs.length) {kc ks : Nat} (hkc : 700 ≤ kc) (hks : 40000 ≤ ks) {Q : jQ} (ih : ∀ (S' : StX) (w' : List jC), LI o S' S' w' → J X mL_law d (kc - 700) (ks - 40000) 2025 [some (.retAddr 0), some (.ref 0), some (.ref 19), some (.ref o), some (.int (nI i)), none, none] [] w' Q) : J X mL_law d kc ks 389 [some (.retAddr 0), some (.ref 0), some (.ref 19), some (.ref o), some (.int (nI i)), none, none] [] w Q := by
  refine J_aload_n (pc := 389) dL_law_389 rfl rfl rfl ?_
  refine J_aload_n (pc := 390) dL_law_390 rfl rfl rfl ?_
  refine J_iload (pc := 391) dL_law_391 rfl ?_
  refine J_iconst (pc := 393) (v := nI 1) dL_law_393 (by decide) ?_
  refine J_iaddN (pc := 394) dL_law_394 ?_
  refine J_ialdO (pc := 395) dL_law_395 hX0 (nI_in (by omega) (by omega)) ?_
  refine J_aload_n (pc := 396) dL_law_396 rfl rfl rfl ?_
  refine J_iload (pc := 397) dL_law_397 rfl ?_
  refine J_iconst (pc := 399) (v := nI 2) dL_law_399 (by decide) ?_
  refine J_iaddN (pc := 400) dL_law_400 ?_
  refine J_ialdO (pc := 401) dL_law_401 hX0 (nI_in (by omega) (by omega)) ?_
  refine J_aload_n (pc := 402) dL_law_402 rfl rfl rfl ?_
  refine J_iload (pc := 403) dL_law_403 rfl ?_
  refine J_iconst (pc := 405) (v := nI 3) dL_law_405 (by decide) ?_
  refine J_iaddN (pc := 406) dL_law_406 ?_
  refine J_ialdO (pc := 407) dL_law_407 hX0 (nI_in (by omega) (by omega)) ?_
  refine J_aload_n (pc := 408) dL_law_408 rfl rfl rfl ?_
  refine J_iload (pc := 409) dL_law_409 rfl ?_
  refine J_iconst (pc := 411) (v := nI 4) dL_law_411 (by decide) ?_
  refine J_iaddN (pc := 412) dL_law_412 ?_
  refine J_ialdO (pc := 413) dL_law_413 hX0 (nI_in (by omega) (by omega)) ?_
  refine J_aload_n (pc := 414) dL_law_414 rfl rfl rfl ?_
  refine J_callSX (pc := 415) (M := mL_law) (as := [.ref 0, .int (xs.getD (nI (i + 1)).toNatClampNeg 0), .int (xs.getD (nI (i + 2)).toNatClampNeg 0), .int (xs.getD (nI (i + 3)).toNatClampNeg 0), .int (xs.getD (nI (i + 4)).toNatClampNeg 0), .ref o]) dL_law_415 fw_L_ring fl_L_181 fs_L_ring rfl (c_L_ring hs (d := d - 1) (by omega) hI (xs.getD (nI (i + 1)).toNatClampNeg 0) (xs.getD (nI (i + 2)).toNatClampNeg 0) (xs.getD (nI (i + 3)).toNatClampNeg 0) (xs.getD (nI (i + 4)).toNatClampNeg 0) (kc := 5) (ks := 30) (Nat.le_refl _) (Nat.le_refl _)) (by omega) (by omega) (by omega) (st := []) (Nat.le_of_ble_eq_true rfl) rfl (kr_J fun v1 w1 hv1 => ?_) kx_J
  obtain ⟨k1, x1, S1, hA1, hv1, hI1, hO1⟩ := hv1
  subst hv1
  refine J_istore (pc := 418) dL_law_418 (by decide) rfl ?_
  show J X mL_law d (kc - 5) (ks - 30) 420 [some (.retAddr 0), some (.ref 0), some (.ref 19), some (.ref o), some (.int (nI i)), some (.int (nI k1)), none] [] w1 Q
  refine J_aload_n (pc := 420) dL_law_420 rfl rfl rfl ?_
  refine J_aload_n (pc := 421) dL_law_421 rfl rfl rfl ?_
  refine J_iload (pc := 422) dL_law_422 rfl ?_
  refine J_iconst (pc := 424) (v := nI 1) dL_law_424 (by decide) ?_
  refine J_iaddN (pc := 425) dL_law_425 ?_
  refine J_ialdO (pc := 426) dL_law_426 hX0 (nI_in (by omega) (by omega)) ?_
  refine J_aload_n (pc := 427) dL_law_427 rfl rfl rfl ?_
  refine J_iload (pc := 428) dL_law_428 rfl ?_
  refine J_iconst (pc := 430) (v := nI 2) dL_law_430 (by decide) ?_
  refine J_iaddN (pc := 431) dL_law_431 ?_
  refine J_ialdO (pc := 432) dL_law_432 hX0 (nI_in (by omega) (by omega)) ?_
  refine J_aload_n (pc := 433) dL_law_433 rfl rfl rfl ?_
  refine J_iload (pc := 434) dL_law_434 rfl ?_
  refine J_iconst (pc := 436) (v := nI 3) dL_law_436 (by decide) ?_
  refine J_iaddN (pc := 437) dL_law_437 ?_
  refine J_ialdO (pc := 438) dL_law_438 hX0 (nI_in (by omega) (by omega)) ?_
  refine J_aload_n (pc := 439) dL_law_439 rfl rfl rfl ?_
  refine J_iload (pc := 440) dL_law_440 rfl ?_
  refine J_iconst (pc := 442) (v := nI 4) dL_law_442 (by decide) ?_
  refine J_iaddN (pc := 443) dL_law_443 ?_
  refine J_ialdO (pc := 444) dL_law_444 hX0 (nI_in (by omega) (by omega)) ?_
  obtain ⟨f46, h46⟩ := hI1.c19
  refine J_callV0 (pc := 445) (M := mL_law) (as := [.int (xs.getD (nI (i + 1)).toNatClampNeg 0), .int (xs.getD (nI (i + 2)).toNatClampNeg 0), .int (xs.getD (nI (i + 3)).toNatClampNeg 0), .int (xs.getD (nI (i + 4)).toNatClampNeg 0)]) dL_law_445 fw_X8_ring fl_L_184 fm_X8_ring fe_X8_ring h46 (by decide) rfl rfl rfl (vv_ring hs (d := d - 1) (by omega) hI1 (xs.getD (nI (i + 1)).toNatClampNeg 0) (xs.getD (nI (i + 2)).toNatClampNeg 0) (xs.getD (nI (i + 3)).toNatClampNeg 0) (xs.getD (nI (i + 4)).toNatClampNeg 0) (kc := 0) (ks := 0)) (by omega) (st := []) (Nat.le_of_ble_eq_true rfl) rfl (kr_J fun v2 w2 hv2 => ?_) kx_J
  obtain ⟨k2, S2, hA2, hI2, hO2⟩ := hv2
  obtain ⟨h1, h7, hM⟩ := hI.bd
  obtain ⟨rfl, rfl⟩ := AG.same (fun v v' x y h h' => (fD_ring h1 h7 hM (xs.getD (nI (i + 1)).toNatClampNeg 0) (xs.getD (nI (i + 2)).toNatClampNeg 0) (xs.getD (nI (i + 3)).toNatClampNeg 0) (xs.getD (nI (i + 4)).toNatClampNeg 0) v v' x y h h').1) hA1 hA2
  have hI3 : LI o S1 S1 w2 := ⟨_, hI2⟩
  refine J_istore (pc := 448) dL_law_448 (by decide) rfl ?_
  show J X mL_law d (kc - 5) (ks - 30) 450 [some (.retAddr 0), some (.ref 0), some (.ref 19), some (.ref o), some (.int (nI i)), some (.int (nI k1)), some (.int v2)] [] w2 Q
  refine J_goto (pc := 450) (tgt := 2025) dL_law_450 (by decide) ?_
  exact J_sub (L' := [some (.retAddr 0), some (.ref 0), some (.ref 19), some (.ref o), some (.int (nI i)), none, none]) ⟨rfl, rfl, rfl, rfl, rfl, trivial⟩ ((ih _ _ hI3).mono (by omega) (by omega) (fun _ _ h => h))
set_option maxRecDepth 100000 in
set_option maxHeartbeats 4000000 in
theorem s_4 {X : jX} (hs : X.1.stackTraces = false) (hXO : XO X) {xs : List Int32} (hX0 : X.2.2.2.2.2[0]? = some (.inl (0, xs))) (hX1 : xs.length ≤ 320) {d : Nat} (hd : 45 ≤ d) {o : Nat} {S : StX} {w : List jC} (hI : LI o S S w) {i : Nat} (hi : i + 5 ≤ xs.length) {kc ks : Nat} (hkc : 700 ≤ kc) (hks : 40000 ≤ ks) {Q : jQ} (ih : ∀ (S' : StX) (w' : List jC), LI o S' S' w' → J X mL_law d (kc - 700) (ks - 40000) 2025 [some (.retAddr 0), some (.ref 0), some (.ref 19), some (.ref o), some (.int (nI i)), none, none] [] w' Q) : J X mL_law d kc ks 453 [some (.retAddr 0), some (.ref 0), some (.ref 19), some (.ref o), some (.int (nI i)), none, none] [] w Q := by
  refine J_aload_n (pc := 453) dL_law_453 rfl rfl rfl ?_
  refine J_aload_n (pc := 454) dL_law_454 rfl rfl rfl ?_
  refine J_iload (pc := 455) dL_law_455 rfl ?_
  refine J_iconst (pc := 457) (v := nI 1) dL_law_457 (by decide) ?_
  refine J_iaddN (pc := 458) dL_law_458 ?_
  refine J_ialdO (pc := 459) dL_law_459 hX0 (nI_in (by omega) (by omega)) ?_
  refine J_aload_n (pc := 460) dL_law_460 rfl rfl rfl ?_
  refine J_iload (pc := 461) dL_law_461 rfl ?_
  refine J_iconst (pc := 463) (v := nI 2) dL_law_463 (by decide) ?_
  refine J_iaddN (pc := 464) dL_law_464 ?_
  refine J_ialdO (pc := 465) dL_law_465 hX0 (nI_in (by omega) (by omega)) ?_
  refine J_aload_n (pc := 466) dL_law_466 rfl rfl rfl ?_
  refine J_callSX (pc := 467) (M := mL_law) (as := [.ref 0, .int (xs.getD (nI (i + 1)).toNatClampNeg 0), .int (xs.getD (nI (i + 2)).toNatClampNeg 0), .ref o]) dL_law_467 fw_L_turn fl_L_185 fs_L_turn rfl (c_L_turn hs (d := d - 1) (by omega) hI (xs.getD (nI (i + 1)).toNatClampNeg 0) (xs.getD (nI (i + 2)).toNatClampNeg 0) (kc := 2) (ks := 12) (Nat.le_refl _) (Nat.le_refl _)) (by omega) (by omega) (by omega) (st := []) (Nat.le_of_ble_eq_true rfl) rfl (kr_J fun v1 w1 hv1 => ?_) kx_J
  obtain ⟨k1, x1, S1, hA1, hv1, hI1, hO1⟩ := hv1
  subst hv1
  refine J_istore (pc := 470) dL_law_470 (by decide) rfl ?_
  show J X mL_law d (kc - 2) (ks - 12) 472 [some (.retAddr 0), some (.ref 0), some (.ref 19), some (.ref o), some (.int (nI i)), some (.int (nI k1)), none] [] w1 Q
  refine J_aload_n (pc := 472) dL_law_472 rfl rfl rfl ?_
  refine J_aload_n (pc := 473) dL_law_473 rfl rfl rfl ?_
  refine J_iload (pc := 474) dL_law_474 rfl ?_
  refine J_iconst (pc := 476) (v := nI 1) dL_law_476 (by decide) ?_
  refine J_iaddN (pc := 477) dL_law_477 ?_
  refine J_ialdO (pc := 478) dL_law_478 hX0 (nI_in (by omega) (by omega)) ?_
  refine J_aload_n (pc := 479) dL_law_479 rfl rfl rfl ?_
  refine J_iload (pc := 480) dL_law_480 rfl ?_
  refine J_iconst (pc := 482) (v := nI 2) dL_law_482 (by decide) ?_
  refine J_iaddN (pc := 483) dL_law_483 ?_
  refine J_ialdO (pc := 484) dL_law_484 hX0 (nI_in (by omega) (by omega)) ?_
  obtain ⟨f26, h26⟩ := hI1.c19
  refine J_callV0 (pc := 485) (M := mL_law) (as := [.int (xs.getD (nI (i + 1)).toNatClampNeg 0), .int (xs.getD (nI (i + 2)).toNatClampNeg 0)]) dL_law_485 fw_X8_turn fl_L_187 fm_X8_turn fe_X8_turn h26 (by decide) rfl rfl rfl (vv_turn hs (d := d - 1) (by omega) hI1 (xs.getD (nI (i + 1)).toNatClampNeg 0) (xs.getD (nI (i + 2)).toNatClampNeg 0) (kc := 0) (ks := 0)) (by omega) (st := []) (Nat.le_of_ble_eq_true rfl) rfl (kr_J fun v2 w2 hv2 => ?_) kx_J
  obtain ⟨k2, S2, hA2, hI2, hO2⟩ := hv2
  obtain ⟨h1, h7, hM⟩ := hI.bd
  obtain ⟨rfl, rfl⟩ := AG.same (fun v v' x y h h' => (fD_turn h1 h7 hM (xs.getD (nI (i + 1)).toNatClampNeg 0) (xs.getD (nI (i + 2)).toNatClampNeg 0) v v' x y h h').1) hA1 hA2
  have hI3 : LI o S1 S1 w2 := ⟨_, hI2⟩
  refine J_istore (pc := 488) dL_law_488 (by decide) rfl ?_
  show J X mL_law d (kc - 2) (ks - 12) 490 [some (.retAddr 0), some (.ref 0), some (.ref 19), some (.ref o), some (.int (nI i)), some (.int (nI k1)), some (.int v2)] [] w2 Q
  refine J_goto (pc := 490) (tgt := 2025) dL_law_490 (by decide) ?_
  exact J_sub (L' := [some (.retAddr 0), some (.ref 0), some (.ref 19), some (.ref o), some (.int (nI i)), none, none]) ⟨rfl, rfl, rfl, rfl, rfl, trivial⟩ ((ih _ _ hI3).mono (by omega) (by omega) (fun _ _ h => h))
set_option maxRecDepth 100000 in
set_option maxHeartbeats 4000000 in
theorem s_5 {X : jX} (hs : X.1.stackTraces = false) (hXO : XO X) {xs : List Int32} (hX0 : X.2.2.2.2.2[0]? = some (.inl (0, xs))) (hX1 : xs.length ≤ 320) {d : Nat} (hd : 45 ≤ d) {o : Nat} {S : StX} {w : List jC} (hI : LI o S S w) {i : Nat} (hi : i + 5 ≤ xs.length) {kc ks : Nat} (hkc : 700 ≤ kc) (hks : 40000 ≤ ks) {Q : jQ} (ih : ∀ (S' : StX) (w' : List jC), LI o S' S' w' → J X mL_law d (kc - 700) (ks - 40000) 2025 [some (.retAddr 0), some (.ref 0), some (.ref 19), some (.ref o), some (.int (nI i)), none, none] [] w' Q) : J X mL_law d kc ks 493 [some (.retAddr 0), some (.ref 0), some (.ref 19), some (.ref o), some (.int (nI i)), none, none] [] w Q := by
  refine J_aload_n (pc := 493) dL_law_493 rfl rfl rfl ?_
  refine J_aload_n (pc := 494) dL_law_494 rfl rfl rfl ?_
  refine J_iload (pc := 495) dL_law_495 rfl ?_
  refine J_iconst (pc := 497) (v := nI 1) dL_law_497 (by decide) ?_
  refine J_iaddN (pc := 498) dL_law_498 ?_
  refine J_ialdO (pc := 499) dL_law_499 hX0 (nI_in (by omega) (by omega)) ?_
  refine J_aload_n (pc := 500) dL_law_500 rfl rfl rfl ?_
  refine J_callSX (pc := 501) (M := mL_law) (as := [.ref 0, .int (xs.getD (nI (i + 1)).toNatClampNeg 0), .ref o]) dL_law_501 fw_L_mirror fl_L_188 fs_L_mirror rfl (c_L_mirror hs (d := d - 1) (by omega) hI (xs.getD (nI (i + 1)).toNatClampNeg 0) (kc := 1) (ks := 6) (Nat.le_refl _) (Nat.le_refl _)) (by omega) (by omega) (by omega) (st := []) (Nat.le_of_ble_eq_true rfl) rfl (kr_J fun v1 w1 hv1 => ?_) kx_J
  obtain ⟨k1, x1, S1, hA1, hv1, hI1, hO1⟩ := hv1
  subst hv1
  refine J_istore (pc := 504) dL_law_504 (by decide) rfl ?_
  show J X mL_law d (kc - 1) (ks - 6) 506 [some (.retAddr 0), some (.ref 0), some (.ref 19), some (.ref o), some (.int (nI i)), some (.int (nI k1)), none] [] w1 Q
  refine J_aload_n (pc := 506) dL_law_506 rfl rfl rfl ?_
  refine J_aload_n (pc := 507) dL_law_507 rfl rfl rfl ?_
  refine J_iload (pc := 508) dL_law_508 rfl ?_
  refine J_iconst (pc := 510) (v := nI 1) dL_law_510 (by decide) ?_
  refine J_iaddN (pc := 511) dL_law_511 ?_
  refine J_ialdO (pc := 512) dL_law_512 hX0 (nI_in (by omega) (by omega)) ?_
  obtain ⟨f16, h16⟩ := hI1.c19
  refine J_callV0 (pc := 513) (M := mL_law) (as := [.int (xs.getD (nI (i + 1)).toNatClampNeg 0)]) dL_law_513 fw_X8_mirror fl_L_190 fm_X8_mirror fe_X8_mirror h16 (by decide) rfl rfl rfl (vv_mirror hs (d := d - 1) (by omega) hI1 (xs.getD (nI (i + 1)).toNatClampNeg 0) (kc := 0) (ks := 0)) (by omega) (st := []) (Nat.le_of_ble_eq_true rfl) rfl (kr_J fun v2 w2 hv2 => ?_) kx_J
  obtain ⟨k2, S2, hA2, hI2, hO2⟩ := hv2
  obtain ⟨h1, h7, hM⟩ := hI.bd
  obtain ⟨rfl, rfl⟩ := AG.same (fun v v' x y h h' => (fD_mirror h1 h7 hM (xs.getD (nI (i + 1)).toNatClampNeg 0) v v' x y h h').1) hA1 hA2
  have hI3 : LI o S1 S1 w2 := ⟨_, hI2⟩
  refine J_istore (pc := 516) dL_law_516 (by decide) rfl ?_
  show J X mL_law d (kc - 1) (ks - 6) 518 [some (.retAddr 0), some (.ref 0), some (.ref 19), some (.ref o), some (.int (nI i)), some (.int (nI k1)), some (.int v2)] [] w2 Q
  refine J_goto (pc := 518) (tgt := 2025) dL_law_518 (by decide) ?_
  exact J_sub (L' := [some (.retAddr 0), some (.ref 0), some (.ref 19), some (.ref o), some (.int (nI i)), none, none]) ⟨rfl, rfl, rfl, rfl, rfl, trivial⟩ ((ih _ _ hI3).mono (by omega) (by omega) (fun _ _ h => h))
set_option maxRecDepth 100000 in
set_option maxHeartbeats 4000000 in
theorem s_6 {X : jX} (hs : X.1.stackTraces = false) (hXO : XO X) {xs : List Int32} (hX0 : X.2.2.2.2.2[0]? = some (.inl (0, xs))) (hX1 : xs.length ≤ 320) {d : Nat} (hd : 45 ≤ d) {o : Nat} {S : StX} {w : List jC} (hI : LI o S S w) {i : Nat} (hi : i + 5 ≤ xs.length) {kc ks : Nat} (hkc : 700 ≤ kc) (hks : 40000 ≤ ks) {Q : jQ} (ih : ∀ (S' : StX) (w' : List jC), LI o S' S' w' → J X mL_law d (kc - 700) (ks - 40000) 2025 [some (.retAddr 0), some (.ref 0), some (.ref 19), some (.ref o), some (.int (nI i)), none, none] [] w' Q) : J X mL_law d kc ks 521 [some (.retAddr 0), some (.ref 0), some (.ref 19), some (.ref o), some (.int (nI i)), none, none] [] w Q := by
  refine J_aload_n (pc := 521) dL_law_521 rfl rfl rfl ?_
  refine J_aload_n (pc := 522) dL_law_522 rfl rfl rfl ?_
  refine J_iload (pc := 523) dL_law_523 rfl ?_
  refine J_iconst (pc := 525) (v := nI 1) dL_law_525 (by decide) ?_
  refine J_iaddN (pc := 526) dL_law_526 ?_
  refine J_ialdO (pc := 527) dL_law_527 hX0 (nI_in (by omega) (by omega)) ?_
  refine J_aload_n (pc := 528) dL_law_528 rfl rfl rfl ?_
  refine J_iload (pc := 529) dL_law_529 rfl ?_
  refine J_iconst (pc := 531) (v := nI 2) dL_law_531 (by decide) ?_
  refine J_iaddN (pc := 532) dL_law_532 ?_
  refine J_ialdO (pc := 533) dL_law_533 hX0 (nI_in (by omega) (by omega)) ?_
  refine J_aload_n (pc := 534) dL_law_534 rfl rfl rfl ?_
  refine J_callSX (pc := 535) (M := mL_law) (as := [.ref 0, .int (xs.getD (nI (i + 1)).toNatClampNeg 0), .int (xs.getD (nI (i + 2)).toNatClampNeg 0), .ref o]) dL_law_535 fw_L_copy fl_L_191 fs_L_copy rfl (c_L_copy hs (d := d - 1) (by omega) hI (xs.getD (nI (i + 1)).toNatClampNeg 0) (xs.getD (nI (i + 2)).toNatClampNeg 0) (kc := 2) (ks := 12) (Nat.le_refl _) (Nat.le_refl _)) (by omega) (by omega) (by omega) (st := []) (Nat.le_of_ble_eq_true rfl) rfl (kr_J fun v1 w1 hv1 => ?_) kx_J
  obtain ⟨k1, x1, S1, hA1, hv1, hI1, hO1⟩ := hv1
  subst hv1
  refine J_istore (pc := 538) dL_law_538 (by decide) rfl ?_
  show J X mL_law d (kc - 2) (ks - 12) 540 [some (.retAddr 0), some (.ref 0), some (.ref 19), some (.ref o), some (.int (nI i)), some (.int (nI k1)), none] [] w1 Q
  refine J_aload_n (pc := 540) dL_law_540 rfl rfl rfl ?_
  refine J_aload_n (pc := 541) dL_law_541 rfl rfl rfl ?_
  refine J_iload (pc := 542) dL_law_542 rfl ?_
  refine J_iconst (pc := 544) (v := nI 1) dL_law_544 (by decide) ?_
  refine J_iaddN (pc := 545) dL_law_545 ?_
  refine J_ialdO (pc := 546) dL_law_546 hX0 (nI_in (by omega) (by omega)) ?_
  refine J_aload_n (pc := 547) dL_law_547 rfl rfl rfl ?_
  refine J_iload (pc := 548) dL_law_548 rfl ?_
  refine J_iconst (pc := 550) (v := nI 2) dL_law_550 (by decide) ?_
  refine J_iaddN (pc := 551) dL_law_551 ?_
  refine J_ialdO (pc := 552) dL_law_552 hX0 (nI_in (by omega) (by omega)) ?_
  obtain ⟨f26, h26⟩ := hI1.c19
  refine J_callV0 (pc := 553) (M := mL_law) (as := [.int (xs.getD (nI (i + 1)).toNatClampNeg 0), .int (xs.getD (nI (i + 2)).toNatClampNeg 0)]) dL_law_553 fw_X8_copy fl_L_193 fm_X8_copy fe_X8_copy h26 (by decide) rfl rfl rfl (vv_copy hs (d := d - 1) (by omega) hI1 (xs.getD (nI (i + 1)).toNatClampNeg 0) (xs.getD (nI (i + 2)).toNatClampNeg 0) (kc := 0) (ks := 0)) (by omega) (st := []) (Nat.le_of_ble_eq_true rfl) rfl (kr_J fun v2 w2 hv2 => ?_) kx_J
  obtain ⟨k2, S2, hA2, hI2, hO2⟩ := hv2
  obtain ⟨h1, h7, hM⟩ := hI.bd
  obtain ⟨rfl, rfl⟩ := AG.same (fun v v' x y h h' => (fD_copy h1 h7 hM (xs.getD (nI (i + 1)).toNatClampNeg 0) (xs.getD (nI (i + 2)).toNatClampNeg 0) v v' x y h h').1) hA1 hA2
  have hI3 : LI o S1 S1 w2 := ⟨_, hI2⟩
  refine J_istore (pc := 556) dL_law_556 (by decide) rfl ?_
  show J X mL_law d (kc - 2) (ks - 12) 558 [some (.retAddr 0), some (.ref 0), some (.ref 19), some (.ref o), some (.int (nI i)), some (.int (nI k1)), some (.int v2)] [] w2 Q
  refine J_goto (pc := 558) (tgt := 2025) dL_law_558 (by decide) ?_
  exact J_sub (L' := [some (.retAddr 0), some (.ref 0), some (.ref 19), some (.ref o), some (.int (nI i)), none, none]) ⟨rfl, rfl, rfl, rfl, rfl, trivial⟩ ((ih _ _ hI3).mono (by omega) (by omega) (fun _ _ h => h))
set_option maxRecDepth 100000 in
set_option maxHeartbeats 4000000 in
theorem s_7 {X : jX} (hs : X.1.stackTraces = false) (hXO : XO X) {xs : List Int32} (hX0 : X.2.2.2.2.2[0]? = some (.inl (0, xs))) (hX1 : xs.length ≤ 320) {d : Nat} (hd : 45 ≤ d) {o : Nat} {S : StX} {w : List jC} (hI : LI o S S w) {i : Nat} (hi : i + 5 ≤ xs.length) {kc ks : Nat} (hkc : 700 ≤ kc) (hks : 40000 ≤ ks) {Q : jQ} (ih : ∀ (S' : StX) (w' : List jC), LI o S' S' w' → J X mL_law d (kc - 700) (ks - 40000) 2025 [some (.retAddr 0), some (.ref 0), some (.ref 19), some (.ref o), some (.int (nI i)), none, none] [] w' Q) : J X mL_law d kc ks 561 [some (.retAddr 0), some (.ref 0), some (.ref 19), some (.ref o), some (.int (nI i)), none, none] [] w Q := by
  refine J_aload_n (pc := 561) dL_law_561 rfl rfl rfl ?_
  refine J_aload_n (pc := 562) dL_law_562 rfl rfl rfl ?_
  refine J_iload (pc := 563) dL_law_563 rfl ?_
  refine J_iconst (pc := 565) (v := nI 1) dL_law_565 (by decide) ?_
  refine J_iaddN (pc := 566) dL_law_566 ?_
  refine J_ialdO (pc := 567) dL_law_567 hX0 (nI_in (by omega) (by omega)) ?_
  refine J_aload_n (pc := 568) dL_law_568 rfl rfl rfl ?_
  refine J_iload (pc := 569) dL_law_569 rfl ?_
  refine J_iconst (pc := 571) (v := nI 2) dL_law_571 (by decide) ?_
  refine J_iaddN (pc := 572) dL_law_572 ?_
  refine J_ialdO (pc := 573) dL_law_573 hX0 (nI_in (by omega) (by omega)) ?_
  refine J_aload_n (pc := 574) dL_law_574 rfl rfl rfl ?_
  refine J_callSX (pc := 575) (M := mL_law) (as := [.ref 0, .int (xs.getD (nI (i + 1)).toNatClampNeg 0), .int (xs.getD (nI (i + 2)).toNatClampNeg 0), .ref o]) dL_law_575 fw_L_swap fl_L_194 fs_L_swap rfl (c_L_swap hs (d := d - 1) (by omega) hI (xs.getD (nI (i + 1)).toNatClampNeg 0) (xs.getD (nI (i + 2)).toNatClampNeg 0) (kc := 2) (ks := 12) (Nat.le_refl _) (Nat.le_refl _)) (by omega) (by omega) (by omega) (st := []) (Nat.le_of_ble_eq_true rfl) rfl (kr_J fun v1 w1 hv1 => ?_) kx_J
  obtain ⟨k1, x1, S1, hA1, hv1, hI1, hO1⟩ := hv1
  subst hv1
  refine J_istore (pc := 578) dL_law_578 (by decide) rfl ?_
  show J X mL_law d (kc - 2) (ks - 12) 580 [some (.retAddr 0), some (.ref 0), some (.ref 19), some (.ref o), some (.int (nI i)), some (.int (nI k1)), none] [] w1 Q
  refine J_aload_n (pc := 580) dL_law_580 rfl rfl rfl ?_
  refine J_aload_n (pc := 581) dL_law_581 rfl rfl rfl ?_
  refine J_iload (pc := 582) dL_law_582 rfl ?_
  refine J_iconst (pc := 584) (v := nI 1) dL_law_584 (by decide) ?_
  refine J_iaddN (pc := 585) dL_law_585 ?_
  refine J_ialdO (pc := 586) dL_law_586 hX0 (nI_in (by omega) (by omega)) ?_
  refine J_aload_n (pc := 587) dL_law_587 rfl rfl rfl ?_
  refine J_iload (pc := 588) dL_law_588 rfl ?_
  refine J_iconst (pc := 590) (v := nI 2) dL_law_590 (by decide) ?_
  refine J_iaddN (pc := 591) dL_law_591 ?_
  refine J_ialdO (pc := 592) dL_law_592 hX0 (nI_in (by omega) (by omega)) ?_
  obtain ⟨f26, h26⟩ := hI1.c19
  refine J_callV0 (pc := 593) (M := mL_law) (as := [.int (xs.getD (nI (i + 1)).toNatClampNeg 0), .int (xs.getD (nI (i + 2)).toNatClampNeg 0)]) dL_law_593 fw_X8_swap fl_L_196 fm_X8_swap fe_X8_swap h26 (by decide) rfl rfl rfl (vv_swap hs (d := d - 1) (by omega) hI1 (xs.getD (nI (i + 1)).toNatClampNeg 0) (xs.getD (nI (i + 2)).toNatClampNeg 0) (kc := 0) (ks := 0)) (by omega) (st := []) (Nat.le_of_ble_eq_true rfl) rfl (kr_J fun v2 w2 hv2 => ?_) kx_J
  obtain ⟨k2, S2, hA2, hI2, hO2⟩ := hv2
  obtain ⟨h1, h7, hM⟩ := hI.bd
  obtain ⟨rfl, rfl⟩ := AG.same (fun v v' x y h h' => (fD_swap h1 h7 hM (xs.getD (nI (i + 1)).toNatClampNeg 0) (xs.getD (nI (i + 2)).toNatClampNeg 0) v v' x y h h').1) hA1 hA2
  have hI3 : LI o S1 S1 w2 := ⟨_, hI2⟩
  refine J_istore (pc := 596) dL_law_596 (by decide) rfl ?_
  show J X mL_law d (kc - 2) (ks - 12) 598 [some (.retAddr 0), some (.ref 0), some (.ref 19), some (.ref o), some (.int (nI i)), some (.int (nI k1)), some (.int v2)] [] w2 Q
  refine J_goto (pc := 598) (tgt := 2025) dL_law_598 (by decide) ?_
  exact J_sub (L' := [some (.retAddr 0), some (.ref 0), some (.ref 19), some (.ref o), some (.int (nI i)), none, none]) ⟨rfl, rfl, rfl, rfl, rfl, trivial⟩ ((ih _ _ hI3).mono (by omega) (by omega) (fun _ _ h => h))
set_option maxRecDepth 100000 in
set_option maxHeartbeats 4000000 in
theorem s_8 {X : jX} (hs : X.1.stackTraces = false) (hXO : XO X) {xs : List Int32} (hX0 : X.2.2.2.2.2[0]? = some (.inl (0, xs))) (hX1 : xs.length ≤ 320) {d : Nat} (hd : 45 ≤ d) {o : Nat} {S : StX} {w : List jC} (hI : LI o S S w) {i : Nat} (hi : i + 5 ≤ xs.length) {kc ks : Nat} (hkc : 700 ≤ kc) (hks : 40000 ≤ ks) {Q : jQ} (ih : ∀ (S' : StX) (w' : List jC), LI o S' S' w' → J X mL_law d (kc - 700) (ks - 40000) 2025 [some (.retAddr 0), some (.ref 0), some (.ref 19), some (.ref o), some (.int (nI i)), none, none] [] w' Q) : J X mL_law d kc ks 601 [some (.retAddr 0), some (.ref 0), some (.ref 19), some (.ref o), some (.int (nI i)), none, none] [] w Q := by
  refine J_aload_n (pc := 601) dL_law_601 rfl rfl rfl ?_
  refine J_aload_n (pc := 602) dL_law_602 rfl rfl rfl ?_
  refine J_iload (pc := 603) dL_law_603 rfl ?_
  refine J_iconst (pc := 605) (v := nI 1) dL_law_605 (by decide) ?_
  refine J_iaddN (pc := 606) dL_law_606 ?_
  refine J_ialdO (pc := 607) dL_law_607 hX0 (nI_in (by omega) (by omega)) ?_
  refine J_aload_n (pc := 608) dL_law_608 rfl rfl rfl ?_
  refine J_iload (pc := 609) dL_law_609 rfl ?_
  refine J_iconst (pc := 611) (v := nI 2) dL_law_611 (by decide) ?_
  refine J_iaddN (pc := 612) dL_law_612 ?_
  refine J_ialdO (pc := 613) dL_law_613 hX0 (nI_in (by omega) (by omega)) ?_
  refine J_aload_n (pc := 614) dL_law_614 rfl rfl rfl ?_
  refine J_iload (pc := 615) dL_law_615 rfl ?_
  refine J_iconst (pc := 617) (v := nI 3) dL_law_617 (by decide) ?_
  refine J_iaddN (pc := 618) dL_law_618 ?_
  refine J_ialdO (pc := 619) dL_law_619 hX0 (nI_in (by omega) (by omega)) ?_
  refine J_aload_n (pc := 620) dL_law_620 rfl rfl rfl ?_
  refine J_callSX (pc := 621) (M := mL_law) (as := [.ref 0, .int (xs.getD (nI (i + 1)).toNatClampNeg 0), .int (xs.getD (nI (i + 2)).toNatClampNeg 0), .int (xs.getD (nI (i + 3)).toNatClampNeg 0), .ref o]) dL_law_621 fw_L_then fl_L_197 fs_L_then rfl (c_L_then hs (d := d - 1) (by omega) hI (xs.getD (nI (i + 1)).toNatClampNeg 0) (xs.getD (nI (i + 2)).toNatClampNeg 0) (xs.getD (nI (i + 3)).toNatClampNeg 0) (kc := 3) (ks := 18) (Nat.le_refl _) (Nat.le_refl _)) (by omega) (by omega) (by omega) (st := []) (Nat.le_of_ble_eq_true rfl) rfl (kr_J fun v1 w1 hv1 => ?_) kx_J
  obtain ⟨k1, x1, S1, hA1, hv1, hI1, hO1⟩ := hv1
  subst hv1
  refine J_istore (pc := 624) dL_law_624 (by decide) rfl ?_
  show J X mL_law d (kc - 3) (ks - 18) 626 [some (.retAddr 0), some (.ref 0), some (.ref 19), some (.ref o), some (.int (nI i)), some (.int (nI k1)), none] [] w1 Q
  refine J_aload_n (pc := 626) dL_law_626 rfl rfl rfl ?_
  refine J_aload_n (pc := 627) dL_law_627 rfl rfl rfl ?_
  refine J_iload (pc := 628) dL_law_628 rfl ?_
  refine J_iconst (pc := 630) (v := nI 1) dL_law_630 (by decide) ?_
  refine J_iaddN (pc := 631) dL_law_631 ?_
  refine J_ialdO (pc := 632) dL_law_632 hX0 (nI_in (by omega) (by omega)) ?_
  refine J_aload_n (pc := 633) dL_law_633 rfl rfl rfl ?_
  refine J_iload (pc := 634) dL_law_634 rfl ?_
  refine J_iconst (pc := 636) (v := nI 2) dL_law_636 (by decide) ?_
  refine J_iaddN (pc := 637) dL_law_637 ?_
  refine J_ialdO (pc := 638) dL_law_638 hX0 (nI_in (by omega) (by omega)) ?_
  refine J_aload_n (pc := 639) dL_law_639 rfl rfl rfl ?_
  refine J_iload (pc := 640) dL_law_640 rfl ?_
  refine J_iconst (pc := 642) (v := nI 3) dL_law_642 (by decide) ?_
  refine J_iaddN (pc := 643) dL_law_643 ?_
  refine J_ialdO (pc := 644) dL_law_644 hX0 (nI_in (by omega) (by omega)) ?_
  obtain ⟨f36, h36⟩ := hI1.c19
  refine J_callV0 (pc := 645) (M := mL_law) (as := [.int (xs.getD (nI (i + 1)).toNatClampNeg 0), .int (xs.getD (nI (i + 2)).toNatClampNeg 0), .int (xs.getD (nI (i + 3)).toNatClampNeg 0)]) dL_law_645 fw_X8_then fl_L_199 fm_X8_then fe_X8_then h36 (by decide) rfl rfl rfl (vv_then hs (d := d - 1) (by omega) hI1 (xs.getD (nI (i + 1)).toNatClampNeg 0) (xs.getD (nI (i + 2)).toNatClampNeg 0) (xs.getD (nI (i + 3)).toNatClampNeg 0) (kc := 0) (ks := 0)) (by omega) (st := []) (Nat.le_of_ble_eq_true rfl) rfl (kr_J fun v2 w2 hv2 => ?_) kx_J
  obtain ⟨k2, S2, hA2, hI2, hO2⟩ := hv2
  obtain ⟨h1, h7, hM⟩ := hI.bd
  obtain ⟨rfl, rfl⟩ := AG.same (fun v v' x y h h' => (fD_then h1 h7 hM (xs.getD (nI (i + 1)).toNatClampNeg 0) (xs.getD (nI (i + 2)).toNatClampNeg 0) (xs.getD (nI (i + 3)).toNatClampNeg 0) v v' x y h h').1) hA1 hA2
  have hI3 : LI o S1 S1 w2 := ⟨_, hI2⟩
  refine J_istore (pc := 648) dL_law_648 (by decide) rfl ?_
  show J X mL_law d (kc - 3) (ks - 18) 650 [some (.retAddr 0), some (.ref 0), some (.ref 19), some (.ref o), some (.int (nI i)), some (.int (nI k1)), some (.int v2)] [] w2 Q
  refine J_goto (pc := 650) (tgt := 2025) dL_law_650 (by decide) ?_
  exact J_sub (L' := [some (.retAddr 0), some (.ref 0), some (.ref 19), some (.ref o), some (.int (nI i)), none, none]) ⟨rfl, rfl, rfl, rfl, rfl, trivial⟩ ((ih _ _ hI3).mono (by omega) (by omega) (fun _ _ h => h))
set_option maxRecDepth 100000 in
set_option maxHeartbeats 4000000 in
theorem s_9 {X : jX} (hs : X.1.stackTraces = false) (hXO : XO X) {xs : List Int32} (hX0 : X.2.2.2.2.2[0]? = some (.inl (0, xs))) (hX1 : xs.length ≤ 320) {d : Nat} (hd : 45 ≤ d) {o : Nat} {S : StX} {w : List jC} (hI : LI o S S w) {i : Nat} (hi : i + 5 ≤ xs.length) {kc ks : Nat} (hkc : 700 ≤ kc) (hks : 40000 ≤ ks) {Q : jQ} (ih : ∀ (S' : StX) (w' : List jC), LI o S' S' w' → J X mL_law d (kc - 700) (ks - 40000) 2025 [some (.retAddr 0), some (.ref 0), some (.ref 19), some (.ref o), some (.int (nI i)), none, none] [] w' Q) : J X mL_law d kc ks 653 [some (.retAddr 0), some (.ref 0), some (.ref 19), some (.ref o), some (.int (nI i)), none, none] [] w Q := by
  refine J_aload_n (pc := 653) dL_law_653 rfl rfl rfl ?_
  refine J_aload_n (pc := 654) dL_law_654 rfl rfl rfl ?_
  refine J_iload (pc := 655) dL_law_655 rfl ?_
  refine J_iconst (pc := 657) (v := nI 1) dL_law_657 (by decide) ?_
  refine J_iaddN (pc := 658) dL_law_658 ?_
  refine J_ialdO (pc := 659) dL_law_659 hX0 (nI_in (by omega) (by omega)) ?_
  refine J_aload_n (pc := 660) dL_law_660 rfl rfl rfl ?_
  refine J_iload (pc := 661) dL_law_661 rfl ?_
  refine J_iconst (pc := 663) (v := nI 2) dL_law_663 (by decide) ?_
  refine J_iaddN (pc := 664) dL_law_664 ?_
  refine J_ialdO (pc := 665) dL_law_665 hX0 (nI_in (by omega) (by omega)) ?_
  refine J_aload_n (pc := 666) dL_law_666 rfl rfl rfl ?_
  refine J_callSX (pc := 667) (M := mL_law) (as := [.ref 0, .int (xs.getD (nI (i + 1)).toNatClampNeg 0), .int (xs.getD (nI (i + 2)).toNatClampNeg 0), .ref o]) dL_law_667 fw_L_undo fl_L_200 fs_L_undo rfl (c_L_undo hs (d := d - 1) (by omega) hI (xs.getD (nI (i + 1)).toNatClampNeg 0) (xs.getD (nI (i + 2)).toNatClampNeg 0) (kc := 2) (ks := 12) (Nat.le_refl _) (Nat.le_refl _)) (by omega) (by omega) (by omega) (st := []) (Nat.le_of_ble_eq_true rfl) rfl (kr_J fun v1 w1 hv1 => ?_) kx_J
  obtain ⟨k1, x1, S1, hA1, hv1, hI1, hO1⟩ := hv1
  subst hv1
  refine J_istore (pc := 670) dL_law_670 (by decide) rfl ?_
  show J X mL_law d (kc - 2) (ks - 12) 672 [some (.retAddr 0), some (.ref 0), some (.ref 19), some (.ref o), some (.int (nI i)), some (.int (nI k1)), none] [] w1 Q
  refine J_aload_n (pc := 672) dL_law_672 rfl rfl rfl ?_
  refine J_aload_n (pc := 673) dL_law_673 rfl rfl rfl ?_
  refine J_iload (pc := 674) dL_law_674 rfl ?_
  refine J_iconst (pc := 676) (v := nI 1) dL_law_676 (by decide) ?_
  refine J_iaddN (pc := 677) dL_law_677 ?_
  refine J_ialdO (pc := 678) dL_law_678 hX0 (nI_in (by omega) (by omega)) ?_
  refine J_aload_n (pc := 679) dL_law_679 rfl rfl rfl ?_
  refine J_iload (pc := 680) dL_law_680 rfl ?_
  refine J_iconst (pc := 682) (v := nI 2) dL_law_682 (by decide) ?_
  refine J_iaddN (pc := 683) dL_law_683 ?_
  refine J_ialdO (pc := 684) dL_law_684 hX0 (nI_in (by omega) (by omega)) ?_
  obtain ⟨f26, h26⟩ := hI1.c19
  refine J_callV0 (pc := 685) (M := mL_law) (as := [.int (xs.getD (nI (i + 1)).toNatClampNeg 0), .int (xs.getD (nI (i + 2)).toNatClampNeg 0)]) dL_law_685 fw_X8_undo fl_L_202 fm_X8_undo fe_X8_undo h26 (by decide) rfl rfl rfl (vv_undo hs (d := d - 1) (by omega) hI1 (xs.getD (nI (i + 1)).toNatClampNeg 0) (xs.getD (nI (i + 2)).toNatClampNeg 0) (kc := 0) (ks := 0)) (by omega) (st := []) (Nat.le_of_ble_eq_true rfl) rfl (kr_J fun v2 w2 hv2 => ?_) kx_J
  obtain ⟨k2, S2, hA2, hI2, hO2⟩ := hv2
  obtain ⟨h1, h7, hM⟩ := hI.bd
  obtain ⟨rfl, rfl⟩ := AG.same (fun v v' x y h h' => (fD_undo h1 h7 hM (xs.getD (nI (i + 1)).toNatClampNeg 0) (xs.getD (nI (i + 2)).toNatClampNeg 0) v v' x y h h').1) hA1 hA2
  have hI3 : LI o S1 S1 w2 := ⟨_, hI2⟩
  refine J_istore (pc := 688) dL_law_688 (by decide) rfl ?_
  show J X mL_law d (kc - 2) (ks - 12) 690 [some (.retAddr 0), some (.ref 0), some (.ref 19), some (.ref o), some (.int (nI i)), some (.int (nI k1)), some (.int v2)] [] w2 Q
  refine J_goto (pc := 690) (tgt := 2025) dL_law_690 (by decide) ?_
  exact J_sub (L' := [some (.retAddr 0), some (.ref 0), some (.ref 19), some (.ref o), some (.int (nI i)), none, none]) ⟨rfl, rfl, rfl, rfl, rfl, trivial⟩ ((ih _ _ hI3).mono (by omega) (by omega) (fun _ _ h => h))
set_option maxRecDepth 100000 in
set_option maxHeartbeats 4000000 in
theorem s_10 {X : jX} (hs : X.1.stackTraces = false) (hXO : XO X) {xs : List Int32} (hX0 : X.2.2.2.2.2[0]? = some (.inl (0, xs))) (hX1 : xs.length ≤ 320) {d : Nat} (hd : 45 ≤ d) {o : Nat} {S : StX} {w : List jC} (hI : LI o S S w) {i : Nat} (hi : i + 5 ≤ xs.length) {kc ks : Nat} (hkc : 700 ≤ kc) (hks : 40000 ≤ ks) {Q : jQ} (ih : ∀ (S' : StX) (w' : List jC), LI o S' S' w' → J X mL_law d (kc - 700) (ks - 40000) 2025 [some (.retAddr 0), some (.ref 0), some (.ref 19), some (.ref o), some (.int (nI i)), none, none] [] w' Q) : J X mL_law d kc ks 693 [some (.retAddr 0), some (.ref 0), some (.ref 19), some (.ref o), some (.int (nI i)), none, none] [] w Q := by
  refine J_aload_n (pc := 693) dL_law_693 rfl rfl rfl ?_
  refine J_aload_n (pc := 694) dL_law_694 rfl rfl rfl ?_
  refine J_iload (pc := 695) dL_law_695 rfl ?_
  refine J_iconst (pc := 697) (v := nI 1) dL_law_697 (by decide) ?_
  refine J_iaddN (pc := 698) dL_law_698 ?_
  refine J_ialdO (pc := 699) dL_law_699 hX0 (nI_in (by omega) (by omega)) ?_
  refine J_aload_n (pc := 700) dL_law_700 rfl rfl rfl ?_
  refine J_iload (pc := 701) dL_law_701 rfl ?_
  refine J_iconst (pc := 703) (v := nI 2) dL_law_703 (by decide) ?_
  refine J_iaddN (pc := 704) dL_law_704 ?_
  refine J_ialdO (pc := 705) dL_law_705 hX0 (nI_in (by omega) (by omega)) ?_
  refine J_aload_n (pc := 706) dL_law_706 rfl rfl rfl ?_
  refine J_iload (pc := 707) dL_law_707 rfl ?_
  refine J_iconst (pc := 709) (v := nI 3) dL_law_709 (by decide) ?_
  refine J_iaddN (pc := 710) dL_law_710 ?_
  refine J_ialdO (pc := 711) dL_law_711 hX0 (nI_in (by omega) (by omega)) ?_
  refine J_aload_n (pc := 712) dL_law_712 rfl rfl rfl ?_
  refine J_callSX (pc := 713) (M := mL_law) (as := [.ref 0, .int (xs.getD (nI (i + 1)).toNatClampNeg 0), .int (xs.getD (nI (i + 2)).toNatClampNeg 0), .int (xs.getD (nI (i + 3)).toNatClampNeg 0), .ref o]) dL_law_713 fw_L_power fl_L_203 fs_L_power rfl (c_L_power hs (d := d - 1) (by omega) hI (xs.getD (nI (i + 1)).toNatClampNeg 0) (xs.getD (nI (i + 2)).toNatClampNeg 0) (xs.getD (nI (i + 3)).toNatClampNeg 0) (kc := 3) (ks := 18) (Nat.le_refl _) (Nat.le_refl _)) (by omega) (by omega) (by omega) (st := []) (Nat.le_of_ble_eq_true rfl) rfl (kr_J fun v1 w1 hv1 => ?_) kx_J
  obtain ⟨k1, x1, S1, hA1, hv1, hI1, hO1⟩ := hv1
  subst hv1
  refine J_istore (pc := 716) dL_law_716 (by decide) rfl ?_
  show J X mL_law d (kc - 3) (ks - 18) 718 [some (.retAddr 0), some (.ref 0), some (.ref 19), some (.ref o), some (.int (nI i)), some (.int (nI k1)), none] [] w1 Q
  refine J_aload_n (pc := 718) dL_law_718 rfl rfl rfl ?_
  refine J_aload_n (pc := 719) dL_law_719 rfl rfl rfl ?_
  refine J_iload (pc := 720) dL_law_720 rfl ?_
  refine J_iconst (pc := 722) (v := nI 1) dL_law_722 (by decide) ?_
  refine J_iaddN (pc := 723) dL_law_723 ?_
  refine J_ialdO (pc := 724) dL_law_724 hX0 (nI_in (by omega) (by omega)) ?_
  refine J_aload_n (pc := 725) dL_law_725 rfl rfl rfl ?_
  refine J_iload (pc := 726) dL_law_726 rfl ?_
  refine J_iconst (pc := 728) (v := nI 2) dL_law_728 (by decide) ?_
  refine J_iaddN (pc := 729) dL_law_729 ?_
  refine J_ialdO (pc := 730) dL_law_730 hX0 (nI_in (by omega) (by omega)) ?_
  refine J_aload_n (pc := 731) dL_law_731 rfl rfl rfl ?_
  refine J_iload (pc := 732) dL_law_732 rfl ?_
  refine J_iconst (pc := 734) (v := nI 3) dL_law_734 (by decide) ?_
  refine J_iaddN (pc := 735) dL_law_735 ?_
  refine J_ialdO (pc := 736) dL_law_736 hX0 (nI_in (by omega) (by omega)) ?_
  obtain ⟨f36, h36⟩ := hI1.c19
  refine J_callV0 (pc := 737) (M := mL_law) (as := [.int (xs.getD (nI (i + 1)).toNatClampNeg 0), .int (xs.getD (nI (i + 2)).toNatClampNeg 0), .int (xs.getD (nI (i + 3)).toNatClampNeg 0)]) dL_law_737 fw_X8_power fl_L_205 fm_X8_power fe_X8_power h36 (by decide) rfl rfl rfl (vv_power hs (d := d - 1) (by omega) hI1 (xs.getD (nI (i + 1)).toNatClampNeg 0) (xs.getD (nI (i + 2)).toNatClampNeg 0) (xs.getD (nI (i + 3)).toNatClampNeg 0) (kc := 0) (ks := 0)) (by omega) (st := []) (Nat.le_of_ble_eq_true rfl) rfl (kr_J fun v2 w2 hv2 => ?_) kx_J
  obtain ⟨k2, S2, hA2, hI2, hO2⟩ := hv2
  obtain ⟨h1, h7, hM⟩ := hI.bd
  obtain ⟨rfl, rfl⟩ := AG.same (fun v v' x y h h' => (fD_power h1 h7 hM (xs.getD (nI (i + 1)).toNatClampNeg 0) (xs.getD (nI (i + 2)).toNatClampNeg 0) (xs.getD (nI (i + 3)).toNatClampNeg 0) v v' x y h h').1) hA1 hA2
  have hI3 : LI o S1 S1 w2 := ⟨_, hI2⟩
  refine J_istore (pc := 740) dL_law_740 (by decide) rfl ?_
  show J X mL_law d (kc - 3) (ks - 18) 742 [some (.retAddr 0), some (.ref 0), some (.ref 19), some (.ref o), some (.int (nI i)), some (.int (nI k1)), some (.int v2)] [] w2 Q
  refine J_goto (pc := 742) (tgt := 2025) dL_law_742 (by decide) ?_
  exact J_sub (L' := [some (.retAddr 0), some (.ref 0), some (.ref 19), some (.ref o), some (.int (nI i)), none, none]) ⟨rfl, rfl, rfl, rfl, rfl, trivial⟩ ((ih _ _ hI3).mono (by omega) (by omega) (fun _ _ h => h))
set_option maxRecDepth 100000 in
set_option maxHeartbeats 4000000 in
theorem s_11 {X : jX} (hs : X.1.stackTraces = false) (hXO : XO X) {xs : List Int32} (hX0 : X.2.2.2.2.2[0]? = some (.inl (0, xs))) (hX1 : xs.length ≤ 320) {d : Nat} (hd : 45 ≤ d) {o : Nat} {S : StX} {w : List jC} (hI : LI o S S w) {i : Nat} (hi : i + 5 ≤ xs.length) {kc ks : Nat} (hkc : 700 ≤ kc) (hks : 40000 ≤ ks) {Q : jQ} (ih : ∀ (S' : StX) (w' : List jC), LI o S' S' w' → J X mL_law d (kc - 700) (ks - 40000) 2025 [some (.retAddr 0), some (.ref 0), some (.ref 19), some (.ref o), some (.int (nI i)), none, none] [] w' Q) : J X mL_law d kc ks 745 [some (.retAddr 0), some (.ref 0), some (.ref 19), some (.ref o), some (.int (nI i)), none, none] [] w Q := by
  refine J_aload_n (pc := 745) dL_law_745 rfl rfl rfl ?_
  refine J_aload_n (pc := 746) dL_law_746 rfl rfl rfl ?_
  refine J_iload (pc := 747) dL_law_747 rfl ?_
  refine J_iconst (pc := 749) (v := nI 1) dL_law_749 (by decide) ?_
  refine J_iaddN (pc := 750) dL_law_750 ?_
  refine J_ialdO (pc := 751) dL_law_751 hX0 (nI_in (by omega) (by omega)) ?_
  refine J_aload_n (pc := 752) dL_law_752 rfl rfl rfl ?_
  refine J_iload (pc := 753) dL_law_753 rfl ?_
  refine J_iconst (pc := 755) (v := nI 2) dL_law_755 (by decide) ?_
  refine J_iaddN (pc := 756) dL_law_756 ?_
  refine J_ialdO (pc := 757) dL_law_757 hX0 (nI_in (by omega) (by omega)) ?_
  refine J_aload_n (pc := 758) dL_law_758 rfl rfl rfl ?_
  refine J_iload (pc := 759) dL_law_759 rfl ?_
  refine J_iconst (pc := 761) (v := nI 3) dL_law_761 (by decide) ?_
  refine J_iaddN (pc := 762) dL_law_762 ?_
  refine J_ialdO (pc := 763) dL_law_763 hX0 (nI_in (by omega) (by omega)) ?_
  refine J_aload_n (pc := 764) dL_law_764 rfl rfl rfl ?_
  refine J_callSX (pc := 765) (M := mL_law) (as := [.ref 0, .int (xs.getD (nI (i + 1)).toNatClampNeg 0), .int (xs.getD (nI (i + 2)).toNatClampNeg 0), .int (xs.getD (nI (i + 3)).toNatClampNeg 0), .ref o]) dL_law_765 fw_L_rename fl_L_206 fs_L_rename rfl (c_L_rename hs (d := d - 1) (by omega) hI (xs.getD (nI (i + 1)).toNatClampNeg 0) (xs.getD (nI (i + 2)).toNatClampNeg 0) (xs.getD (nI (i + 3)).toNatClampNeg 0) (kc := 3) (ks := 18) (Nat.le_refl _) (Nat.le_refl _)) (by omega) (by omega) (by omega) (st := []) (Nat.le_of_ble_eq_true rfl) rfl (kr_J fun v1 w1 hv1 => ?_) kx_J
  obtain ⟨k1, x1, S1, hA1, hv1, hI1, hO1⟩ := hv1
  subst hv1
  refine J_istore (pc := 768) dL_law_768 (by decide) rfl ?_
  show J X mL_law d (kc - 3) (ks - 18) 770 [some (.retAddr 0), some (.ref 0), some (.ref 19), some (.ref o), some (.int (nI i)), some (.int (nI k1)), none] [] w1 Q
  refine J_aload_n (pc := 770) dL_law_770 rfl rfl rfl ?_
  refine J_aload_n (pc := 771) dL_law_771 rfl rfl rfl ?_
  refine J_iload (pc := 772) dL_law_772 rfl ?_
  refine J_iconst (pc := 774) (v := nI 1) dL_law_774 (by decide) ?_
  refine J_iaddN (pc := 775) dL_law_775 ?_
  refine J_ialdO (pc := 776) dL_law_776 hX0 (nI_in (by omega) (by omega)) ?_
  refine J_aload_n (pc := 777) dL_law_777 rfl rfl rfl ?_
  refine J_iload (pc := 778) dL_law_778 rfl ?_
  refine J_iconst (pc := 780) (v := nI 2) dL_law_780 (by decide) ?_
  refine J_iaddN (pc := 781) dL_law_781 ?_
  refine J_ialdO (pc := 782) dL_law_782 hX0 (nI_in (by omega) (by omega)) ?_
  refine J_aload_n (pc := 783) dL_law_783 rfl rfl rfl ?_
  refine J_iload (pc := 784) dL_law_784 rfl ?_
  refine J_iconst (pc := 786) (v := nI 3) dL_law_786 (by decide) ?_
  refine J_iaddN (pc := 787) dL_law_787 ?_
  refine J_ialdO (pc := 788) dL_law_788 hX0 (nI_in (by omega) (by omega)) ?_
  obtain ⟨f36, h36⟩ := hI1.c19
  refine J_callV0 (pc := 789) (M := mL_law) (as := [.int (xs.getD (nI (i + 1)).toNatClampNeg 0), .int (xs.getD (nI (i + 2)).toNatClampNeg 0), .int (xs.getD (nI (i + 3)).toNatClampNeg 0)]) dL_law_789 fw_X8_rename fl_L_208 fm_X8_rename fe_X8_rename h36 (by decide) rfl rfl rfl (vv_rename hs (d := d - 1) (by omega) hI1 (xs.getD (nI (i + 1)).toNatClampNeg 0) (xs.getD (nI (i + 2)).toNatClampNeg 0) (xs.getD (nI (i + 3)).toNatClampNeg 0) (kc := 0) (ks := 0)) (by omega) (st := []) (Nat.le_of_ble_eq_true rfl) rfl (kr_J fun v2 w2 hv2 => ?_) kx_J
  obtain ⟨k2, S2, hA2, hI2, hO2⟩ := hv2
  obtain ⟨h1, h7, hM⟩ := hI.bd
  obtain ⟨rfl, rfl⟩ := AG.same (fun v v' x y h h' => (fD_rename h1 h7 hM (xs.getD (nI (i + 1)).toNatClampNeg 0) (xs.getD (nI (i + 2)).toNatClampNeg 0) (xs.getD (nI (i + 3)).toNatClampNeg 0) v v' x y h h').1) hA1 hA2
  have hI3 : LI o S1 S1 w2 := ⟨_, hI2⟩
  refine J_istore (pc := 792) dL_law_792 (by decide) rfl ?_
  show J X mL_law d (kc - 3) (ks - 18) 794 [some (.retAddr 0), some (.ref 0), some (.ref 19), some (.ref o), some (.int (nI i)), some (.int (nI k1)), some (.int v2)] [] w2 Q
  refine J_goto (pc := 794) (tgt := 2025) dL_law_794 (by decide) ?_
  exact J_sub (L' := [some (.retAddr 0), some (.ref 0), some (.ref 19), some (.ref o), some (.int (nI i)), none, none]) ⟨rfl, rfl, rfl, rfl, rfl, trivial⟩ ((ih _ _ hI3).mono (by omega) (by omega) (fun _ _ h => h))
set_option maxRecDepth 100000 in
set_option maxHeartbeats 4000000 in
theorem s_12 {X : jX} (hs : X.1.stackTraces = false) (hXO : XO X) {xs : List Int32} (hX0 : X.2.2.2.2.2[0]? = some (.inl (0, xs))) (hX1 : xs.length ≤ 320) {d : Nat} (hd : 45 ≤ d) {o : Nat} {S : StX} {w : List jC} (hI : LI o S S w) {i : Nat} (hi : i + 5 ≤ xs.length) {kc ks : Nat} (hkc : 700 ≤ kc) (hks : 40000 ≤ ks) {Q : jQ} (ih : ∀ (S' : StX) (w' : List jC), LI o S' S' w' → J X mL_law d (kc - 700) (ks - 40000) 2025 [some (.retAddr 0), some (.ref 0), some (.ref 19), some (.ref o), some (.int (nI i)), none, none] [] w' Q) : J X mL_law d kc ks 797 [some (.retAddr 0), some (.ref 0), some (.ref 19), some (.ref o), some (.int (nI i)), none, none] [] w Q := by
  refine J_aload_n (pc := 797) dL_law_797 rfl rfl rfl ?_
  refine J_aload_n (pc := 798) dL_law_798 rfl rfl rfl ?_
  refine J_iload (pc := 799) dL_law_799 rfl ?_
  refine J_iconst (pc := 801) (v := nI 1) dL_law_801 (by decide) ?_
  refine J_iaddN (pc := 802) dL_law_802 ?_
  refine J_ialdO (pc := 803) dL_law_803 hX0 (nI_in (by omega) (by omega)) ?_
  refine J_aload_n (pc := 804) dL_law_804 rfl rfl rfl ?_
  refine J_iload (pc := 805) dL_law_805 rfl ?_
  refine J_iconst (pc := 807) (v := nI 2) dL_law_807 (by decide) ?_
  refine J_iaddN (pc := 808) dL_law_808 ?_
  refine J_ialdO (pc := 809) dL_law_809 hX0 (nI_in (by omega) (by omega)) ?_
  refine J_aload_n (pc := 810) dL_law_810 rfl rfl rfl ?_
  refine J_iload (pc := 811) dL_law_811 rfl ?_
  refine J_iconst (pc := 813) (v := nI 3) dL_law_813 (by decide) ?_
  refine J_iaddN (pc := 814) dL_law_814 ?_
  refine J_ialdO (pc := 815) dL_law_815 hX0 (nI_in (by omega) (by omega)) ?_
  refine J_aload_n (pc := 816) dL_law_816 rfl rfl rfl ?_
  refine J_callSX (pc := 817) (M := mL_law) (as := [.ref 0, .int (xs.getD (nI (i + 1)).toNatClampNeg 0), .int (xs.getD (nI (i + 2)).toNatClampNeg 0), .int (xs.getD (nI (i + 3)).toNatClampNeg 0), .ref o]) dL_law_817 fw_L_match fl_L_209 fs_L_match rfl (c_L_match hs (d := d - 1) (by omega) hI (xs.getD (nI (i + 1)).toNatClampNeg 0) (xs.getD (nI (i + 2)).toNatClampNeg 0) (xs.getD (nI (i + 3)).toNatClampNeg 0) (kc := 3) (ks := 18) (Nat.le_refl _) (Nat.le_refl _)) (by omega) (by omega) (by omega) (st := []) (Nat.le_of_ble_eq_true rfl) rfl (kr_J fun v1 w1 hv1 => ?_) kx_J
  obtain ⟨k1, x1, S1, hA1, hv1, hI1, hO1⟩ := hv1
  subst hv1
  refine J_istore (pc := 820) dL_law_820 (by decide) rfl ?_
  show J X mL_law d (kc - 3) (ks - 18) 822 [some (.retAddr 0), some (.ref 0), some (.ref 19), some (.ref o), some (.int (nI i)), some (.int (nI k1)), none] [] w1 Q
  refine J_aload_n (pc := 822) dL_law_822 rfl rfl rfl ?_
  refine J_aload_n (pc := 823) dL_law_823 rfl rfl rfl ?_
  refine J_iload (pc := 824) dL_law_824 rfl ?_
  refine J_iconst (pc := 826) (v := nI 1) dL_law_826 (by decide) ?_
  refine J_iaddN (pc := 827) dL_law_827 ?_
  refine J_ialdO (pc := 828) dL_law_828 hX0 (nI_in (by omega) (by omega)) ?_
  refine J_aload_n (pc := 829) dL_law_829 rfl rfl rfl ?_
  refine J_iload (pc := 830) dL_law_830 rfl ?_
  refine J_iconst (pc := 832) (v := nI 2) dL_law_832 (by decide) ?_
  refine J_iaddN (pc := 833) dL_law_833 ?_
  refine J_ialdO (pc := 834) dL_law_834 hX0 (nI_in (by omega) (by omega)) ?_
  refine J_aload_n (pc := 835) dL_law_835 rfl rfl rfl ?_
  refine J_iload (pc := 836) dL_law_836 rfl ?_
  refine J_iconst (pc := 838) (v := nI 3) dL_law_838 (by decide) ?_
  refine J_iaddN (pc := 839) dL_law_839 ?_
  refine J_ialdO (pc := 840) dL_law_840 hX0 (nI_in (by omega) (by omega)) ?_
  obtain ⟨f36, h36⟩ := hI1.c19
  refine J_callV0 (pc := 841) (M := mL_law) (as := [.int (xs.getD (nI (i + 1)).toNatClampNeg 0), .int (xs.getD (nI (i + 2)).toNatClampNeg 0), .int (xs.getD (nI (i + 3)).toNatClampNeg 0)]) dL_law_841 fw_X8_match fl_L_211 fm_X8_match fe_X8_match h36 (by decide) rfl rfl rfl (vv_match hs (d := d - 1) (by omega) hI1 (xs.getD (nI (i + 1)).toNatClampNeg 0) (xs.getD (nI (i + 2)).toNatClampNeg 0) (xs.getD (nI (i + 3)).toNatClampNeg 0) (kc := 0) (ks := 0)) (by omega) (st := []) (Nat.le_of_ble_eq_true rfl) rfl (kr_J fun v2 w2 hv2 => ?_) kx_J
  obtain ⟨k2, S2, hA2, hI2, hO2⟩ := hv2
  obtain ⟨h1, h7, hM⟩ := hI.bd
  obtain ⟨rfl, rfl⟩ := AG.same (fun v v' x y h h' => (fD_match h1 h7 hM (xs.getD (nI (i + 1)).toNatClampNeg 0) (xs.getD (nI (i + 2)).toNatClampNeg 0) (xs.getD (nI (i + 3)).toNatClampNeg 0) v v' x y h h').1) hA1 hA2
  have hI3 : LI o S1 S1 w2 := ⟨_, hI2⟩
  refine J_istore (pc := 844) dL_law_844 (by decide) rfl ?_
  show J X mL_law d (kc - 3) (ks - 18) 846 [some (.retAddr 0), some (.ref 0), some (.ref 19), some (.ref o), some (.int (nI i)), some (.int (nI k1)), some (.int v2)] [] w2 Q
  refine J_goto (pc := 846) (tgt := 2025) dL_law_846 (by decide) ?_
  exact J_sub (L' := [some (.retAddr 0), some (.ref 0), some (.ref 19), some (.ref o), some (.int (nI i)), none, none]) ⟨rfl, rfl, rfl, rfl, rfl, trivial⟩ ((ih _ _ hI3).mono (by omega) (by omega) (fun _ _ h => h))
set_option maxRecDepth 100000 in
set_option maxHeartbeats 4000000 in
theorem s_13 {X : jX} (hs : X.1.stackTraces = false) (hXO : XO X) {xs : List Int32} (hX0 : X.2.2.2.2.2[0]? = some (.inl (0, xs))) (hX1 : xs.length ≤ 320) {d : Nat} (hd : 45 ≤ d) {o : Nat} {S : StX} {w : List jC} (hI : LI o S S w) {i : Nat} (hi : i + 5 ≤ xs.length) {kc ks : Nat} (hkc : 700 ≤ kc) (hks : 40000 ≤ ks) {Q : jQ} (ih : ∀ (S' : StX) (w' : List jC), LI o S' S' w' → J X mL_law d (kc - 700) (ks - 40000) 2025 [some (.retAddr 0), some (.ref 0), some (.ref 19), some (.ref o), some (.int (nI i)), none, none] [] w' Q) : J X mL_law d kc ks 849 [some (.retAddr 0), some (.ref 0), some (.ref 19), some (.ref o), some (.int (nI i)), none, none] [] w Q := by
  refine J_aload_n (pc := 849) dL_law_849 rfl rfl rfl ?_
  refine J_aload_n (pc := 850) dL_law_850 rfl rfl rfl ?_
  refine J_iload (pc := 851) dL_law_851 rfl ?_
  refine J_iconst (pc := 853) (v := nI 1) dL_law_853 (by decide) ?_
  refine J_iaddN (pc := 854) dL_law_854 ?_
  refine J_ialdO (pc := 855) dL_law_855 hX0 (nI_in (by omega) (by omega)) ?_
  refine J_aload_n (pc := 856) dL_law_856 rfl rfl rfl ?_
  refine J_iload (pc := 857) dL_law_857 rfl ?_
  refine J_iconst (pc := 859) (v := nI 2) dL_law_859 (by decide) ?_
  refine J_iaddN (pc := 860) dL_law_860 ?_
  refine J_ialdO (pc := 861) dL_law_861 hX0 (nI_in (by omega) (by omega)) ?_
  refine J_aload_n (pc := 862) dL_law_862 rfl rfl rfl ?_
  refine J_iload (pc := 863) dL_law_863 rfl ?_
  refine J_iconst (pc := 865) (v := nI 3) dL_law_865 (by decide) ?_
  refine J_iaddN (pc := 866) dL_law_866 ?_
  refine J_ialdO (pc := 867) dL_law_867 hX0 (nI_in (by omega) (by omega)) ?_
  refine J_aload_n (pc := 868) dL_law_868 rfl rfl rfl ?_
  refine J_iload (pc := 869) dL_law_869 rfl ?_
  refine J_iconst (pc := 871) (v := nI 4) dL_law_871 (by decide) ?_
  refine J_iaddN (pc := 872) dL_law_872 ?_
  refine J_ialdO (pc := 873) dL_law_873 hX0 (nI_in (by omega) (by omega)) ?_
  refine J_aload_n (pc := 874) dL_law_874 rfl rfl rfl ?_
  refine J_callSX (pc := 875) (M := mL_law) (as := [.ref 0, .int (xs.getD (nI (i + 1)).toNatClampNeg 0), .int (xs.getD (nI (i + 2)).toNatClampNeg 0), .int (xs.getD (nI (i + 3)).toNatClampNeg 0), .int (xs.getD (nI (i + 4)).toNatClampNeg 0), .ref o]) dL_law_875 fw_L_nth fl_L_212 fs_L_nth rfl (c_L_nth hs (d := d - 1) (by omega) hI (xs.getD (nI (i + 1)).toNatClampNeg 0) (xs.getD (nI (i + 2)).toNatClampNeg 0) (xs.getD (nI (i + 3)).toNatClampNeg 0) (xs.getD (nI (i + 4)).toNatClampNeg 0) (kc := 4) (ks := 24) (Nat.le_refl _) (Nat.le_refl _)) (by omega) (by omega) (by omega) (st := []) (Nat.le_of_ble_eq_true rfl) rfl (kr_J fun v1 w1 hv1 => ?_) kx_J
  obtain ⟨k1, x1, S1, hA1, hv1, hI1, hO1⟩ := hv1
  subst hv1
  refine J_istore (pc := 878) dL_law_878 (by decide) rfl ?_
  show J X mL_law d (kc - 4) (ks - 24) 880 [some (.retAddr 0), some (.ref 0), some (.ref 19), some (.ref o), some (.int (nI i)), some (.int (nI k1)), none] [] w1 Q
  refine J_aload_n (pc := 880) dL_law_880 rfl rfl rfl ?_
  refine J_aload_n (pc := 881) dL_law_881 rfl rfl rfl ?_
  refine J_iload (pc := 882) dL_law_882 rfl ?_
  refine J_iconst (pc := 884) (v := nI 1) dL_law_884 (by decide) ?_
  refine J_iaddN (pc := 885) dL_law_885 ?_
  refine J_ialdO (pc := 886) dL_law_886 hX0 (nI_in (by omega) (by omega)) ?_
  refine J_aload_n (pc := 887) dL_law_887 rfl rfl rfl ?_
  refine J_iload (pc := 888) dL_law_888 rfl ?_
  refine J_iconst (pc := 890) (v := nI 2) dL_law_890 (by decide) ?_
  refine J_iaddN (pc := 891) dL_law_891 ?_
  refine J_ialdO (pc := 892) dL_law_892 hX0 (nI_in (by omega) (by omega)) ?_
  refine J_aload_n (pc := 893) dL_law_893 rfl rfl rfl ?_
  refine J_iload (pc := 894) dL_law_894 rfl ?_
  refine J_iconst (pc := 896) (v := nI 3) dL_law_896 (by decide) ?_
  refine J_iaddN (pc := 897) dL_law_897 ?_
  refine J_ialdO (pc := 898) dL_law_898 hX0 (nI_in (by omega) (by omega)) ?_
  refine J_aload_n (pc := 899) dL_law_899 rfl rfl rfl ?_
  refine J_iload (pc := 900) dL_law_900 rfl ?_
  refine J_iconst (pc := 902) (v := nI 4) dL_law_902 (by decide) ?_
  refine J_iaddN (pc := 903) dL_law_903 ?_
  refine J_ialdO (pc := 904) dL_law_904 hX0 (nI_in (by omega) (by omega)) ?_
  obtain ⟨f46, h46⟩ := hI1.c19
  refine J_callV (pc := 905) (M := mL_law) (as := [.int (xs.getD (nI (i + 1)).toNatClampNeg 0), .int (xs.getD (nI (i + 2)).toNatClampNeg 0), .int (xs.getD (nI (i + 3)).toNatClampNeg 0), .int (xs.getD (nI (i + 4)).toNatClampNeg 0)]) dL_law_905 fw_X8_nth fl_L_214 fm_X8_nth fe_X8_nth h46 (by decide) rfl rfl rfl (vv_nth hs (d := d - 1) (by omega) hI1 (xs.getD (nI (i + 1)).toNatClampNeg 0) (xs.getD (nI (i + 2)).toNatClampNeg 0) (xs.getD (nI (i + 3)).toNatClampNeg 0) (xs.getD (nI (i + 4)).toNatClampNeg 0) (kc := 15) (ks := 2068) (Nat.le_refl _) (Nat.le_refl _)) (by omega) (by omega) (by omega) (st := []) (Nat.le_of_ble_eq_true rfl) rfl (kr_J fun v2 w2 hv2 => ?_) kx_J
  obtain ⟨k2, S2, hA2, hI2, hO2⟩ := hv2
  obtain ⟨h1, h7, hM⟩ := hI.bd
  obtain ⟨rfl, rfl⟩ := AG.same (fun v v' x y h h' => (fD_nth h1 h7 hM (xs.getD (nI (i + 1)).toNatClampNeg 0) (xs.getD (nI (i + 2)).toNatClampNeg 0) (xs.getD (nI (i + 3)).toNatClampNeg 0) (xs.getD (nI (i + 4)).toNatClampNeg 0) v v' x y h h').1) hA1 hA2
  have hI3 : LI o S1 S1 w2 := ⟨_, hI2⟩
  refine J_istore (pc := 908) dL_law_908 (by decide) rfl ?_
  show J X mL_law d (kc - 4 - 15) (ks - 24 - 2068) 910 [some (.retAddr 0), some (.ref 0), some (.ref 19), some (.ref o), some (.int (nI i)), some (.int (nI k1)), some (.int v2)] [] w2 Q
  refine J_goto (pc := 910) (tgt := 2025) dL_law_910 (by decide) ?_
  exact J_sub (L' := [some (.retAddr 0), some (.ref 0), some (.ref 19), some (.ref o), some (.int (nI i)), none, none]) ⟨rfl, rfl, rfl, rfl, rfl, trivial⟩ ((ih _ _ hI3).mono (by omega) (by omega) (fun _ _ h => h))
set_option maxRecDepth 100000 in
set_option maxHeartbeats 4000000 in
theorem s_14 {X : jX} (hs : X.1.stackTraces = false) (hXO : XO X) {xs : List Int32} (hX0 : X.2.2.2.2.2[0]? = some (.inl (0, xs))) (hX1 : xs.length ≤ 320) {d : Nat} (hd : 45 ≤ d) {o : Nat} {S : StX} {w : List jC} (hI : LI o S S w) {i : Nat} (hi : i + 5 ≤ xs.length) {kc ks : Nat} (hkc : 700 ≤ kc) (hks : 40000 ≤ ks) {Q : jQ} (ih : ∀ (S' : StX) (w' : List jC), LI o S' S' w' → J X mL_law d (kc - 700) (ks - 40000) 2025 [some (.retAddr 0), some (.ref 0), some (.ref 19), some (.ref o), some (.int (nI i)), none, none] [] w' Q) : J X mL_law d kc ks 913 [some (.retAddr 0), some (.ref 0), some (.ref 19), some (.ref o), some (.int (nI i)), none, none] [] w Q := by
  refine J_aload_n (pc := 913) dL_law_913 rfl rfl rfl ?_
  obtain ⟨f2, h2⟩ := hI.c0
  refine J_callV0 (pc := 914) (M := mL_law) (as := []) dL_law_914 fw_X6_count fl_L_215 fm_X6_count fe_X6_count h2 (by decide) rfl rfl rfl (uu_count hs (d := d - 1) (by omega) hI (kc := 0) (ks := 0)) (by omega) (st := []) (Nat.le_of_ble_eq_true rfl) rfl (kr_I fun v2 w2 _ hI2 => ?_) kx_I
  refine J_pop (pc := 917) dL_law_917 rfl ?_
  refine J_aload_n (pc := 918) dL_law_918 rfl rfl rfl ?_
  obtain ⟨f5, h5⟩ := hI2.c19
  refine J_callV0 (pc := 919) (M := mL_law) (as := []) dL_law_919 fw_X8_count fl_L_218 fm_X8_count fe_X8_count h5 (by decide) rfl rfl rfl (vv_count hs (d := d - 1) (by omega) hI2 (kc := 0) (ks := 0)) (by omega) (st := []) (Nat.le_of_ble_eq_true rfl) rfl (kr_I fun v5 w5 _ hI5 => ?_) kx_I
  refine J_pop (pc := 922) dL_law_922 rfl ?_
  refine J_goto (pc := 923) (tgt := 2025) dL_law_923 (by decide) ?_
  exact J_sub (L' := [some (.retAddr 0), some (.ref 0), some (.ref 19), some (.ref o), some (.int (nI i)), none, none]) ⟨rfl, rfl, rfl, rfl, rfl, trivial⟩ ((ih _ _ hI5).mono (by omega) (by omega) (fun _ _ h => h))
set_option maxRecDepth 100000 in
set_option maxHeartbeats 4000000 in
theorem s_15 {X : jX} (hs : X.1.stackTraces = false) (hXO : XO X) {xs : List Int32} (hX0 : X.2.2.2.2.2[0]? = some (.inl (0, xs))) (hX1 : xs.length ≤ 320) {d : Nat} (hd : 45 ≤ d) {o : Nat} {S : StX} {w : List jC} (hI : LI o S S w) {i : Nat} (hi : i + 5 ≤ xs.length) {kc ks : Nat} (hkc : 700 ≤ kc) (hks : 40000 ≤ ks) {Q : jQ} (ih : ∀ (S' : StX) (w' : List jC), LI o S' S' w' → J X mL_law d (kc - 700) (ks - 40000) 2025 [some (.retAddr 0), some (.ref 0), some (.ref 19), some (.ref o), some (.int (nI i)), none, none] [] w' Q) : J X mL_law d kc ks 926 [some (.retAddr 0), some (.ref 0), some (.ref 19), some (.ref o), some (.int (nI i)), none, none] [] w Q := by
  refine J_aload_n (pc := 926) dL_law_926 rfl rfl rfl ?_
  refine J_aload_n (pc := 927) dL_law_927 rfl rfl rfl ?_
  refine J_iload (pc := 928) dL_law_928 rfl ?_
  refine J_iconst (pc := 930) (v := nI 1) dL_law_930 (by decide) ?_
  refine J_iaddN (pc := 931) dL_law_931 ?_
  refine J_ialdO (pc := 932) dL_law_932 hX0 (nI_in (by omega) (by omega)) ?_
  refine J_aload_n (pc := 933) dL_law_933 rfl rfl rfl ?_
  refine J_callSX (pc := 934) (M := mL_law) (as := [.ref 0, .int (xs.getD (nI (i + 1)).toNatClampNeg 0), .ref o]) dL_law_934 fw_L_number fl_L_219 fs_L_number rfl (c_L_number hs (d := d - 1) (by omega) hI (xs.getD (nI (i + 1)).toNatClampNeg 0) (kc := 1) (ks := 6) (Nat.le_refl _) (Nat.le_refl _)) (by omega) (by omega) (by omega) (st := []) (Nat.le_of_ble_eq_true rfl) rfl (kr_J fun v1 w1 hv1 => ?_) kx_J
  obtain ⟨k1, x1, S1, hA1, hv1, hI1, hO1⟩ := hv1
  subst hv1
  refine J_istore (pc := 937) dL_law_937 (by decide) rfl ?_
  show J X mL_law d (kc - 1) (ks - 6) 939 [some (.retAddr 0), some (.ref 0), some (.ref 19), some (.ref o), some (.int (nI i)), some (.int (nI k1)), none] [] w1 Q
  refine J_aload_n (pc := 939) dL_law_939 rfl rfl rfl ?_
  refine J_aload_n (pc := 940) dL_law_940 rfl rfl rfl ?_
  refine J_iload (pc := 941) dL_law_941 rfl ?_
  refine J_iconst (pc := 943) (v := nI 1) dL_law_943 (by decide) ?_
  refine J_iaddN (pc := 944) dL_law_944 ?_
  refine J_ialdO (pc := 945) dL_law_945 hX0 (nI_in (by omega) (by omega)) ?_
  obtain ⟨f16, h16⟩ := hI1.c19
  refine J_callV0 (pc := 946) (M := mL_law) (as := [.int (xs.getD (nI (i + 1)).toNatClampNeg 0)]) dL_law_946 fw_X8_number fl_L_221 fm_X8_number fe_X8_number h16 (by decide) rfl rfl rfl (vv_number hs (d := d - 1) (by omega) hI1 (xs.getD (nI (i + 1)).toNatClampNeg 0) (kc := 0) (ks := 0)) (by omega) (st := []) (Nat.le_of_ble_eq_true rfl) rfl (kr_J fun v2 w2 hv2 => ?_) kx_J
  obtain ⟨k2, S2, hA2, hI2, hO2⟩ := hv2
  obtain ⟨h1, h7, hM⟩ := hI.bd
  obtain ⟨rfl, rfl⟩ := AG.same (fun v v' x y h h' => (fD_number h1 h7 hM (xs.getD (nI (i + 1)).toNatClampNeg 0) v v' x y h h').1) hA1 hA2
  have hI3 : LI o S1 S1 w2 := ⟨_, hI2⟩
  refine J_istore (pc := 949) dL_law_949 (by decide) rfl ?_
  show J X mL_law d (kc - 1) (ks - 6) 951 [some (.retAddr 0), some (.ref 0), some (.ref 19), some (.ref o), some (.int (nI i)), some (.int (nI k1)), some (.int v2)] [] w2 Q
  refine J_goto (pc := 951) (tgt := 2025) dL_law_951 (by decide) ?_
  exact J_sub (L' := [some (.retAddr 0), some (.ref 0), some (.ref 19), some (.ref o), some (.int (nI i)), none, none]) ⟨rfl, rfl, rfl, rfl, rfl, trivial⟩ ((ih _ _ hI3).mono (by omega) (by omega) (fun _ _ h => h))
set_option maxRecDepth 100000 in
set_option maxHeartbeats 4000000 in
theorem s_16 {X : jX} (hs : X.1.stackTraces = false) (hXO : XO X) {xs : List Int32} (hX0 : X.2.2.2.2.2[0]? = some (.inl (0, xs))) (hX1 : xs.length ≤ 320) {d : Nat} (hd : 45 ≤ d) {o : Nat} {S : StX} {w : List jC} (hI : LI o S S w) {i : Nat} (hi : i + 5 ≤ xs.length) {kc ks : Nat} (hkc : 700 ≤ kc) (hks : 40000 ≤ ks) {Q : jQ} (ih : ∀ (S' : StX) (w' : List jC), LI o S' S' w' → J X mL_law d (kc - 700) (ks - 40000) 2025 [some (.retAddr 0), some (.ref 0), some (.ref 19), some (.ref o), some (.int (nI i)), none, none] [] w' Q) : J X mL_law d kc ks 954 [some (.retAddr 0), some (.ref 0), some (.ref 19), some (.ref o), some (.int (nI i)), none, none] [] w Q := by
  refine J_aload_n (pc := 954) dL_law_954 rfl rfl rfl ?_
  refine J_aload_n (pc := 955) dL_law_955 rfl rfl rfl ?_
  refine J_iload (pc := 956) dL_law_956 rfl ?_
  refine J_iconst (pc := 958) (v := nI 1) dL_law_958 (by decide) ?_
  refine J_iaddN (pc := 959) dL_law_959 ?_
  refine J_ialdO (pc := 960) dL_law_960 hX0 (nI_in (by omega) (by omega)) ?_
  refine J_aload_n (pc := 961) dL_law_961 rfl rfl rfl ?_
  refine J_iload (pc := 962) dL_law_962 rfl ?_
  refine J_iconst (pc := 964) (v := nI 2) dL_law_964 (by decide) ?_
  refine J_iaddN (pc := 965) dL_law_965 ?_
  refine J_ialdO (pc := 966) dL_law_966 hX0 (nI_in (by omega) (by omega)) ?_
  refine J_aload_n (pc := 967) dL_law_967 rfl rfl rfl ?_
  refine J_callSX (pc := 968) (M := mL_law) (as := [.ref 0, .int (xs.getD (nI (i + 1)).toNatClampNeg 0), .int (xs.getD (nI (i + 2)).toNatClampNeg 0), .ref o]) dL_law_968 fw_L_goes fl_L_222 fs_L_goes rfl (c_L_goes hs (d := d - 1) (by omega) hI (xs.getD (nI (i + 1)).toNatClampNeg 0) (xs.getD (nI (i + 2)).toNatClampNeg 0) (kc := 2) (ks := 12) (Nat.le_refl _) (Nat.le_refl _)) (by omega) (by omega) (by omega) (st := []) (Nat.le_of_ble_eq_true rfl) rfl (kr_J fun v1 w1 hv1 => ?_) kx_J
  obtain ⟨k1, x1, S1, hA1, hv1, hI1, hO1⟩ := hv1
  subst hv1
  refine J_istore (pc := 971) dL_law_971 (by decide) rfl ?_
  show J X mL_law d (kc - 2) (ks - 12) 973 [some (.retAddr 0), some (.ref 0), some (.ref 19), some (.ref o), some (.int (nI i)), some (.int (nI k1)), none] [] w1 Q
  refine J_aload_n (pc := 973) dL_law_973 rfl rfl rfl ?_
  refine J_aload_n (pc := 974) dL_law_974 rfl rfl rfl ?_
  refine J_iload (pc := 975) dL_law_975 rfl ?_
  refine J_iconst (pc := 977) (v := nI 1) dL_law_977 (by decide) ?_
  refine J_iaddN (pc := 978) dL_law_978 ?_
  refine J_ialdO (pc := 979) dL_law_979 hX0 (nI_in (by omega) (by omega)) ?_
  refine J_aload_n (pc := 980) dL_law_980 rfl rfl rfl ?_
  refine J_iload (pc := 981) dL_law_981 rfl ?_
  refine J_iconst (pc := 983) (v := nI 2) dL_law_983 (by decide) ?_
  refine J_iaddN (pc := 984) dL_law_984 ?_
  refine J_ialdO (pc := 985) dL_law_985 hX0 (nI_in (by omega) (by omega)) ?_
  obtain ⟨f26, h26⟩ := hI1.c19
  refine J_callV0 (pc := 986) (M := mL_law) (as := [.int (xs.getD (nI (i + 1)).toNatClampNeg 0), .int (xs.getD (nI (i + 2)).toNatClampNeg 0)]) dL_law_986 fw_X8_goes fl_L_224 fm_X8_goes fe_X8_goes h26 (by decide) rfl rfl rfl (vv_goes hs (d := d - 1) (by omega) hI1 (xs.getD (nI (i + 1)).toNatClampNeg 0) (xs.getD (nI (i + 2)).toNatClampNeg 0) (kc := 0) (ks := 0)) (by omega) (st := []) (Nat.le_of_ble_eq_true rfl) rfl (kr_J fun v2 w2 hv2 => ?_) kx_J
  obtain ⟨k2, S2, hA2, hI2, hO2⟩ := hv2
  obtain ⟨h1, h7, hM⟩ := hI.bd
  obtain ⟨rfl, rfl⟩ := AG.same (fun v v' x y h h' => (fD_goes h1 h7 hM (xs.getD (nI (i + 1)).toNatClampNeg 0) (xs.getD (nI (i + 2)).toNatClampNeg 0) v v' x y h h').1) hA1 hA2
  have hI3 : LI o S1 S1 w2 := ⟨_, hI2⟩
  refine J_istore (pc := 989) dL_law_989 (by decide) rfl ?_
  show J X mL_law d (kc - 2) (ks - 12) 991 [some (.retAddr 0), some (.ref 0), some (.ref 19), some (.ref o), some (.int (nI i)), some (.int (nI k1)), some (.int v2)] [] w2 Q
  refine J_goto (pc := 991) (tgt := 2025) dL_law_991 (by decide) ?_
  exact J_sub (L' := [some (.retAddr 0), some (.ref 0), some (.ref 19), some (.ref o), some (.int (nI i)), none, none]) ⟨rfl, rfl, rfl, rfl, rfl, trivial⟩ ((ih _ _ hI3).mono (by omega) (by omega) (fun _ _ h => h))
set_option maxRecDepth 100000 in
set_option maxHeartbeats 4000000 in
theorem s_17 {X : jX} (hs : X.1.stackTraces = false) (hXO : XO X) {xs : List Int32} (hX0 : X.2.2.2.2.2[0]? = some (.inl (0, xs))) (hX1 : xs.length ≤ 320) {d : Nat} (hd : 45 ≤ d) {o : Nat} {S : StX} {w : List jC} (hI : LI o S S w) {i : Nat} (hi : i + 5 ≤ xs.length) {kc ks : Nat} (hkc : 700 ≤ kc) (hks : 40000 ≤ ks) {Q : jQ} (ih : ∀ (S' : StX) (w' : List jC), LI o S' S' w' → J X mL_law d (kc - 700) (ks - 40000) 2025 [some (.retAddr 0), some (.ref 0), some (.ref 19), some (.ref o), some (.int (nI i)), none, none] [] w' Q) : J X mL_law d kc ks 994 [some (.retAddr 0), some (.ref 0), some (.ref 19), some (.ref o), some (.int (nI i)), none, none] [] w Q := by
  refine J_aload_n (pc := 994) dL_law_994 rfl rfl rfl ?_
  refine J_aload_n (pc := 995) dL_law_995 rfl rfl rfl ?_
  refine J_iload (pc := 996) dL_law_996 rfl ?_
  refine J_iconst (pc := 998) (v := nI 1) dL_law_998 (by decide) ?_
  refine J_iaddN (pc := 999) dL_law_999 ?_
  refine J_ialdO (pc := 1000) dL_law_1000 hX0 (nI_in (by omega) (by omega)) ?_
  refine J_aload_n (pc := 1001) dL_law_1001 rfl rfl rfl ?_
  refine J_callSX (pc := 1002) (M := mL_law) (as := [.ref 0, .int (xs.getD (nI (i + 1)).toNatClampNeg 0), .ref o]) dL_law_1002 fw_L_text fl_L_225 fs_L_text rfl (c_L_text hs (d := d - 1) (by omega) hXO hI (xs.getD (nI (i + 1)).toNatClampNeg 0) (kc := 40) (ks := 1500) (Nat.le_refl _) (Nat.le_refl _)) (by omega) (by omega) (by omega) (st := []) (Nat.le_of_ble_eq_true rfl) rfl (kr_I fun v1 w1 _ hI1 => ?_) kx_I
  refine J_istore (pc := 1005) dL_law_1005 (by decide) rfl ?_
  show J X mL_law d (kc - 40) (ks - 1500) 1007 [some (.retAddr 0), some (.ref 0), some (.ref 19), some (.ref o), some (.int (nI i)), some (.int v1), none] [] w1 Q
  refine J_aload_n (pc := 1007) dL_law_1007 rfl rfl rfl ?_
  refine J_aload_n (pc := 1008) dL_law_1008 rfl rfl rfl ?_
  refine J_iload (pc := 1009) dL_law_1009 rfl ?_
  refine J_iconst (pc := 1011) (v := nI 1) dL_law_1011 (by decide) ?_
  refine J_iaddN (pc := 1012) dL_law_1012 ?_
  refine J_ialdO (pc := 1013) dL_law_1013 hX0 (nI_in (by omega) (by omega)) ?_
  obtain ⟨f16, h16⟩ := hI1.c19
  refine J_callV (pc := 1014) (M := mL_law) (as := [.int (xs.getD (nI (i + 1)).toNatClampNeg 0)]) dL_law_1014 fw_X8_text fl_L_227 fm_X8_text fe_X8_text h16 (by decide) rfl rfl rfl (vv_text hs (d := d - 1) (by omega) hXO hI1 (xs.getD (nI (i + 1)).toNatClampNeg 0) (kc := 40) (ks := 1500) (Nat.le_refl _) (Nat.le_refl _)) (by omega) (by omega) (by omega) (st := []) (Nat.le_of_ble_eq_true rfl) rfl (kr_S fun a16 w16 hj16 hI16 => ?_) kx_S
  refine J_astore (pc := 1017) dL_law_1017 (by decide) hj16 rfl ?_
  show J X mL_law d (kc - 40 - 40) (ks - 1500 - 1500) 1019 [some (.retAddr 0), some (.ref 0), some (.ref 19), some (.ref o), some (.int (nI i)), some (.int v1), some (a16)] [] w16 Q
  refine J_goto (pc := 1019) (tgt := 2025) dL_law_1019 (by decide) ?_
  exact J_sub (L' := [some (.retAddr 0), some (.ref 0), some (.ref 19), some (.ref o), some (.int (nI i)), none, none]) ⟨rfl, rfl, rfl, rfl, rfl, trivial⟩ ((ih _ _ hI16).mono (by omega) (by omega) (fun _ _ h => h))
set_option maxRecDepth 100000 in
set_option maxHeartbeats 4000000 in
theorem s_18 {X : jX} (hs : X.1.stackTraces = false) (hXO : XO X) {xs : List Int32} (hX0 : X.2.2.2.2.2[0]? = some (.inl (0, xs))) (hX1 : xs.length ≤ 320) {d : Nat} (hd : 45 ≤ d) {o : Nat} {S : StX} {w : List jC} (hI : LI o S S w) {i : Nat} (hi : i + 5 ≤ xs.length) {kc ks : Nat} (hkc : 700 ≤ kc) (hks : 40000 ≤ ks) {Q : jQ} (ih : ∀ (S' : StX) (w' : List jC), LI o S' S' w' → J X mL_law d (kc - 700) (ks - 40000) 2025 [some (.retAddr 0), some (.ref 0), some (.ref 19), some (.ref o), some (.int (nI i)), none, none] [] w' Q) : J X mL_law d kc ks 1022 [some (.retAddr 0), some (.ref 0), some (.ref 19), some (.ref o), some (.int (nI i)), none, none] [] w Q := by
  refine J_aload_n (pc := 1022) dL_law_1022 rfl rfl rfl ?_
  refine J_aload_n (pc := 1023) dL_law_1023 rfl rfl rfl ?_
  refine J_iload (pc := 1024) dL_law_1024 rfl ?_
  refine J_iconst (pc := 1026) (v := nI 1) dL_law_1026 (by decide) ?_
  refine J_iaddN (pc := 1027) dL_law_1027 ?_
  refine J_ialdO (pc := 1028) dL_law_1028 hX0 (nI_in (by omega) (by omega)) ?_
  refine J_aload_n (pc := 1029) dL_law_1029 rfl rfl rfl ?_
  refine J_callSX (pc := 1030) (M := mL_law) (as := [.ref 0, .int (xs.getD (nI (i + 1)).toNatClampNeg 0), .ref o]) dL_law_1030 fw_L_rings fl_L_228 fs_L_rings rfl (c_L_rings hs (d := d - 1) (by omega) hXO hI (xs.getD (nI (i + 1)).toNatClampNeg 0) (kc := 40) (ks := 1500) (Nat.le_refl _) (Nat.le_refl _)) (by omega) (by omega) (by omega) (st := []) (Nat.le_of_ble_eq_true rfl) rfl (kr_I fun v1 w1 _ hI1 => ?_) kx_I
  refine J_istore (pc := 1033) dL_law_1033 (by decide) rfl ?_
  show J X mL_law d (kc - 40) (ks - 1500) 1035 [some (.retAddr 0), some (.ref 0), some (.ref 19), some (.ref o), some (.int (nI i)), some (.int v1), none] [] w1 Q
  refine J_aload_n (pc := 1035) dL_law_1035 rfl rfl rfl ?_
  refine J_aload_n (pc := 1036) dL_law_1036 rfl rfl rfl ?_
  refine J_iload (pc := 1037) dL_law_1037 rfl ?_
  refine J_iconst (pc := 1039) (v := nI 1) dL_law_1039 (by decide) ?_
  refine J_iaddN (pc := 1040) dL_law_1040 ?_
  refine J_ialdO (pc := 1041) dL_law_1041 hX0 (nI_in (by omega) (by omega)) ?_
  obtain ⟨f16, h16⟩ := hI1.c19
  refine J_callV (pc := 1042) (M := mL_law) (as := [.int (xs.getD (nI (i + 1)).toNatClampNeg 0)]) dL_law_1042 fw_X8_rings fl_L_230 fm_X8_rings fe_X8_rings h16 (by decide) rfl rfl rfl (vv_rings hs (d := d - 1) (by omega) hXO hI1 (xs.getD (nI (i + 1)).toNatClampNeg 0) (kc := 40) (ks := 1500) (Nat.le_refl _) (Nat.le_refl _)) (by omega) (by omega) (by omega) (st := []) (Nat.le_of_ble_eq_true rfl) rfl (kr_S fun a16 w16 hj16 hI16 => ?_) kx_S
  refine J_astore (pc := 1045) dL_law_1045 (by decide) hj16 rfl ?_
  show J X mL_law d (kc - 40 - 40) (ks - 1500 - 1500) 1047 [some (.retAddr 0), some (.ref 0), some (.ref 19), some (.ref o), some (.int (nI i)), some (.int v1), some (a16)] [] w16 Q
  refine J_goto (pc := 1047) (tgt := 2025) dL_law_1047 (by decide) ?_
  exact J_sub (L' := [some (.retAddr 0), some (.ref 0), some (.ref 19), some (.ref o), some (.int (nI i)), none, none]) ⟨rfl, rfl, rfl, rfl, rfl, trivial⟩ ((ih _ _ hI16).mono (by omega) (by omega) (fun _ _ h => h))
set_option maxRecDepth 100000 in
set_option maxHeartbeats 4000000 in
theorem s_19 {X : jX} (hs : X.1.stackTraces = false) (hXO : XO X) {xs : List Int32} (hX0 : X.2.2.2.2.2[0]? = some (.inl (0, xs))) (hX1 : xs.length ≤ 320) {d : Nat} (hd : 45 ≤ d) {o : Nat} {S : StX} {w : List jC} (hI : LI o S S w) {i : Nat} (hi : i + 5 ≤ xs.length) {kc ks : Nat} (hkc : 700 ≤ kc) (hks : 40000 ≤ ks) {Q : jQ} (ih : ∀ (S' : StX) (w' : List jC), LI o S' S' w' → J X mL_law d (kc - 700) (ks - 40000) 2025 [some (.retAddr 0), some (.ref 0), some (.ref 19), some (.ref o), some (.int (nI i)), none, none] [] w' Q) : J X mL_law d kc ks 1050 [some (.retAddr 0), some (.ref 0), some (.ref 19), some (.ref o), some (.int (nI i)), none, none] [] w Q := by
  refine J_aload_n (pc := 1050) dL_law_1050 rfl rfl rfl ?_
  refine J_aload_n (pc := 1051) dL_law_1051 rfl rfl rfl ?_
  refine J_iload (pc := 1052) dL_law_1052 rfl ?_
  refine J_iconst (pc := 1054) (v := nI 1) dL_law_1054 (by decide) ?_
  refine J_iaddN (pc := 1055) dL_law_1055 ?_
  refine J_ialdO (pc := 1056) dL_law_1056 hX0 (nI_in (by omega) (by omega)) ?_
  refine J_aload_n (pc := 1057) dL_law_1057 rfl rfl rfl ?_
  refine J_iload (pc := 1058) dL_law_1058 rfl ?_
  refine J_iconst (pc := 1060) (v := nI 2) dL_law_1060 (by decide) ?_
  refine J_iaddN (pc := 1061) dL_law_1061 ?_
  refine J_ialdO (pc := 1062) dL_law_1062 hX0 (nI_in (by omega) (by omega)) ?_
  refine J_aload_n (pc := 1063) dL_law_1063 rfl rfl rfl ?_
  refine J_callSX (pc := 1064) (M := mL_law) (as := [.ref 0, .int (xs.getD (nI (i + 1)).toNatClampNeg 0), .int (xs.getD (nI (i + 2)).toNatClampNeg 0), .ref o]) dL_law_1064 fw_L_ringText fl_L_231 fs_L_ringText rfl (c_L_ringText hs (d := d - 1) (by omega) hXO hI (xs.getD (nI (i + 1)).toNatClampNeg 0) (xs.getD (nI (i + 2)).toNatClampNeg 0) (kc := 40) (ks := 1500) (Nat.le_refl _) (Nat.le_refl _)) (by omega) (by omega) (by omega) (st := []) (Nat.le_of_ble_eq_true rfl) rfl (kr_I fun v1 w1 _ hI1 => ?_) kx_I
  refine J_istore (pc := 1067) dL_law_1067 (by decide) rfl ?_
  show J X mL_law d (kc - 40) (ks - 1500) 1069 [some (.retAddr 0), some (.ref 0), some (.ref 19), some (.ref o), some (.int (nI i)), some (.int v1), none] [] w1 Q
  refine J_aload_n (pc := 1069) dL_law_1069 rfl rfl rfl ?_
  refine J_aload_n (pc := 1070) dL_law_1070 rfl rfl rfl ?_
  refine J_iload (pc := 1071) dL_law_1071 rfl ?_
  refine J_iconst (pc := 1073) (v := nI 1) dL_law_1073 (by decide) ?_
  refine J_iaddN (pc := 1074) dL_law_1074 ?_
  refine J_ialdO (pc := 1075) dL_law_1075 hX0 (nI_in (by omega) (by omega)) ?_
  refine J_aload_n (pc := 1076) dL_law_1076 rfl rfl rfl ?_
  refine J_iload (pc := 1077) dL_law_1077 rfl ?_
  refine J_iconst (pc := 1079) (v := nI 2) dL_law_1079 (by decide) ?_
  refine J_iaddN (pc := 1080) dL_law_1080 ?_
  refine J_ialdO (pc := 1081) dL_law_1081 hX0 (nI_in (by omega) (by omega)) ?_
  obtain ⟨f26, h26⟩ := hI1.c19
  refine J_callV (pc := 1082) (M := mL_law) (as := [.int (xs.getD (nI (i + 1)).toNatClampNeg 0), .int (xs.getD (nI (i + 2)).toNatClampNeg 0)]) dL_law_1082 fw_X8_ringText fl_L_233 fm_X8_ringText fe_X8_ringText h26 (by decide) rfl rfl rfl (vv_ringText hs (d := d - 1) (by omega) hXO hI1 (xs.getD (nI (i + 1)).toNatClampNeg 0) (xs.getD (nI (i + 2)).toNatClampNeg 0) (kc := 40) (ks := 1500) (Nat.le_refl _) (Nat.le_refl _)) (by omega) (by omega) (by omega) (st := []) (Nat.le_of_ble_eq_true rfl) rfl (kr_S fun a26 w26 hj26 hI26 => ?_) kx_S
  refine J_astore (pc := 1085) dL_law_1085 (by decide) hj26 rfl ?_
  show J X mL_law d (kc - 40 - 40) (ks - 1500 - 1500) 1087 [some (.retAddr 0), some (.ref 0), some (.ref 19), some (.ref o), some (.int (nI i)), some (.int v1), some (a26)] [] w26 Q
  refine J_goto (pc := 1087) (tgt := 2025) dL_law_1087 (by decide) ?_
  exact J_sub (L' := [some (.retAddr 0), some (.ref 0), some (.ref 19), some (.ref o), some (.int (nI i)), none, none]) ⟨rfl, rfl, rfl, rfl, rfl, trivial⟩ ((ih _ _ hI26).mono (by omega) (by omega) (fun _ _ h => h))
set_option maxRecDepth 100000 in
set_option maxHeartbeats 4000000 in
theorem s_20 {X : jX} (hs : X.1.stackTraces = false) (hXO : XO X) {xs : List Int32} (hX0 : X.2.2.2.2.2[0]? = some (.inl (0, xs))) (hX1 : xs.length ≤ 320) {d : Nat} (hd : 45 ≤ d) {o : Nat} {S : StX} {w : List jC} (hI : LI o S S w) {i : Nat} (hi : i + 5 ≤ xs.length) {kc ks : Nat} (hkc : 700 ≤ kc) (hks : 40000 ≤ ks) {Q : jQ} (ih : ∀ (S' : StX) (w' : List jC), LI o S' S' w' → J X mL_law d (kc - 700) (ks - 40000) 2025 [some (.retAddr 0), some (.ref 0), some (.ref 19), some (.ref o), some (.int (nI i)), none, none] [] w' Q) : J X mL_law d kc ks 1090 [some (.retAddr 0), some (.ref 0), some (.ref 19), some (.ref o), some (.int (nI i)), none, none] [] w Q := by
  refine J_aload_n (pc := 1090) dL_law_1090 rfl rfl rfl ?_
  refine J_aload_n (pc := 1091) dL_law_1091 rfl rfl rfl ?_
  refine J_iload (pc := 1092) dL_law_1092 rfl ?_
  refine J_iconst (pc := 1094) (v := nI 1) dL_law_1094 (by decide) ?_
  refine J_iaddN (pc := 1095) dL_law_1095 ?_
  refine J_ialdO (pc := 1096) dL_law_1096 hX0 (nI_in (by omega) (by omega)) ?_
  refine J_aload_n (pc := 1097) dL_law_1097 rfl rfl rfl ?_
  refine J_callSX (pc := 1098) (M := mL_law) (as := [.ref 0, .int (xs.getD (nI (i + 1)).toNatClampNeg 0), .ref o]) dL_law_1098 fw_L_order fl_L_234 fs_L_order rfl (c_L_order hs (d := d - 1) (by omega) hI (xs.getD (nI (i + 1)).toNatClampNeg 0) (kc := 1) (ks := 6) (Nat.le_refl _) (Nat.le_refl _)) (by omega) (by omega) (by omega) (st := []) (Nat.le_of_ble_eq_true rfl) rfl (kr_J fun v1 w1 hv1 => ?_) kx_J
  obtain ⟨k1, x1, S1, hA1, hv1, hI1, hO1⟩ := hv1
  subst hv1
  refine J_istore (pc := 1101) dL_law_1101 (by decide) rfl ?_
  show J X mL_law d (kc - 1) (ks - 6) 1103 [some (.retAddr 0), some (.ref 0), some (.ref 19), some (.ref o), some (.int (nI i)), some (.int (nI k1)), none] [] w1 Q
  refine J_aload_n (pc := 1103) dL_law_1103 rfl rfl rfl ?_
  refine J_aload_n (pc := 1104) dL_law_1104 rfl rfl rfl ?_
  refine J_iload (pc := 1105) dL_law_1105 rfl ?_
  refine J_iconst (pc := 1107) (v := nI 1) dL_law_1107 (by decide) ?_
  refine J_iaddN (pc := 1108) dL_law_1108 ?_
  refine J_ialdO (pc := 1109) dL_law_1109 hX0 (nI_in (by omega) (by omega)) ?_
  obtain ⟨f16, h16⟩ := hI1.c19
  refine J_callV0 (pc := 1110) (M := mL_law) (as := [.int (xs.getD (nI (i + 1)).toNatClampNeg 0)]) dL_law_1110 fw_X8_order fl_L_236 fm_X8_order fe_X8_order h16 (by decide) rfl rfl rfl (vv_order hs (d := d - 1) (by omega) hI1 (xs.getD (nI (i + 1)).toNatClampNeg 0) (kc := 0) (ks := 0)) (by omega) (st := []) (Nat.le_of_ble_eq_true rfl) rfl (kr_J fun v2 w2 hv2 => ?_) kx_J
  obtain ⟨k2, S2, hA2, hI2, hO2⟩ := hv2
  obtain ⟨h1, h7, hM⟩ := hI.bd
  obtain ⟨rfl, rfl⟩ := AG.same (fun v v' x y h h' => (fD_order h1 h7 hM (xs.getD (nI (i + 1)).toNatClampNeg 0) v v' x y h h').1) hA1 hA2
  have hI3 : LI o S1 S1 w2 := ⟨_, hI2⟩
  refine J_istore (pc := 1113) dL_law_1113 (by decide) rfl ?_
  show J X mL_law d (kc - 1) (ks - 6) 1115 [some (.retAddr 0), some (.ref 0), some (.ref 19), some (.ref o), some (.int (nI i)), some (.int (nI k1)), some (.int v2)] [] w2 Q
  refine J_goto (pc := 1115) (tgt := 2025) dL_law_1115 (by decide) ?_
  exact J_sub (L' := [some (.retAddr 0), some (.ref 0), some (.ref 19), some (.ref o), some (.int (nI i)), none, none]) ⟨rfl, rfl, rfl, rfl, rfl, trivial⟩ ((ih _ _ hI3).mono (by omega) (by omega) (fun _ _ h => h))
set_option maxRecDepth 100000 in
set_option maxHeartbeats 4000000 in
theorem s_21 {X : jX} (hs : X.1.stackTraces = false) (hXO : XO X) {xs : List Int32} (hX0 : X.2.2.2.2.2[0]? = some (.inl (0, xs))) (hX1 : xs.length ≤ 320) {d : Nat} (hd : 45 ≤ d) {o : Nat} {S : StX} {w : List jC} (hI : LI o S S w) {i : Nat} (hi : i + 5 ≤ xs.length) {kc ks : Nat} (hkc : 700 ≤ kc) (hks : 40000 ≤ ks) {Q : jQ} (ih : ∀ (S' : StX) (w' : List jC), LI o S' S' w' → J X mL_law d (kc - 700) (ks - 40000) 2025 [some (.retAddr 0), some (.ref 0), some (.ref 19), some (.ref o), some (.int (nI i)), none, none] [] w' Q) : J X mL_law d kc ks 1118 [some (.retAddr 0), some (.ref 0), some (.ref 19), some (.ref o), some (.int (nI i)), none, none] [] w Q := by
  refine J_aload_n (pc := 1118) dL_law_1118 rfl rfl rfl ?_
  refine J_aload_n (pc := 1119) dL_law_1119 rfl rfl rfl ?_
  refine J_iload (pc := 1120) dL_law_1120 rfl ?_
  refine J_iconst (pc := 1122) (v := nI 1) dL_law_1122 (by decide) ?_
  refine J_iaddN (pc := 1123) dL_law_1123 ?_
  refine J_ialdO (pc := 1124) dL_law_1124 hX0 (nI_in (by omega) (by omega)) ?_
  refine J_aload_n (pc := 1125) dL_law_1125 rfl rfl rfl ?_
  refine J_callSX (pc := 1126) (M := mL_law) (as := [.ref 0, .int (xs.getD (nI (i + 1)).toNatClampNeg 0), .ref o]) dL_law_1126 fw_L_sign fl_L_237 fs_L_sign rfl (c_L_sign hs (d := d - 1) (by omega) hI (xs.getD (nI (i + 1)).toNatClampNeg 0) (kc := 1) (ks := 6) (Nat.le_refl _) (Nat.le_refl _)) (by omega) (by omega) (by omega) (st := []) (Nat.le_of_ble_eq_true rfl) rfl (kr_J fun v1 w1 hv1 => ?_) kx_J
  obtain ⟨k1, x1, S1, hA1, hv1, hI1, hO1⟩ := hv1
  subst hv1
  refine J_istore (pc := 1129) dL_law_1129 (by decide) rfl ?_
  show J X mL_law d (kc - 1) (ks - 6) 1131 [some (.retAddr 0), some (.ref 0), some (.ref 19), some (.ref o), some (.int (nI i)), some (.int (nI k1)), none] [] w1 Q
  refine J_aload_n (pc := 1131) dL_law_1131 rfl rfl rfl ?_
  refine J_aload_n (pc := 1132) dL_law_1132 rfl rfl rfl ?_
  refine J_iload (pc := 1133) dL_law_1133 rfl ?_
  refine J_iconst (pc := 1135) (v := nI 1) dL_law_1135 (by decide) ?_
  refine J_iaddN (pc := 1136) dL_law_1136 ?_
  refine J_ialdO (pc := 1137) dL_law_1137 hX0 (nI_in (by omega) (by omega)) ?_
  obtain ⟨f16, h16⟩ := hI1.c19
  refine J_callV0 (pc := 1138) (M := mL_law) (as := [.int (xs.getD (nI (i + 1)).toNatClampNeg 0)]) dL_law_1138 fw_X8_sign fl_L_239 fm_X8_sign fe_X8_sign h16 (by decide) rfl rfl rfl (vv_sign hs (d := d - 1) (by omega) hI1 (xs.getD (nI (i + 1)).toNatClampNeg 0) (kc := 0) (ks := 0)) (by omega) (st := []) (Nat.le_of_ble_eq_true rfl) rfl (kr_J fun v2 w2 hv2 => ?_) kx_J
  obtain ⟨k2, S2, hA2, hI2, hO2⟩ := hv2
  obtain ⟨h1, h7, hM⟩ := hI.bd
  obtain ⟨rfl, rfl⟩ := AG.same (fun v v' x y h h' => (fD_sign h1 h7 hM (xs.getD (nI (i + 1)).toNatClampNeg 0) v v' x y h h').1) hA1 hA2
  have hI3 : LI o S1 S1 w2 := ⟨_, hI2⟩
  refine J_istore (pc := 1141) dL_law_1141 (by decide) rfl ?_
  show J X mL_law d (kc - 1) (ks - 6) 1143 [some (.retAddr 0), some (.ref 0), some (.ref 19), some (.ref o), some (.int (nI i)), some (.int (nI k1)), some (.int v2)] [] w2 Q
  refine J_goto (pc := 1143) (tgt := 2025) dL_law_1143 (by decide) ?_
  exact J_sub (L' := [some (.retAddr 0), some (.ref 0), some (.ref 19), some (.ref o), some (.int (nI i)), none, none]) ⟨rfl, rfl, rfl, rfl, rfl, trivial⟩ ((ih _ _ hI3).mono (by omega) (by omega) (fun _ _ h => h))
set_option maxRecDepth 100000 in
set_option maxHeartbeats 4000000 in
theorem s_22 {X : jX} (hs : X.1.stackTraces = false) (hXO : XO X) {xs : List Int32} (hX0 : X.2.2.2.2.2[0]? = some (.inl (0, xs))) (hX1 : xs.length ≤ 320) {d : Nat} (hd : 45 ≤ d) {o : Nat} {S : StX} {w : List jC} (hI : LI o S S w) {i : Nat} (hi : i + 5 ≤ xs.length) {kc ks : Nat} (hkc : 700 ≤ kc) (hks : 40000 ≤ ks) {Q : jQ} (ih : ∀ (S' : StX) (w' : List jC), LI o S' S' w' → J X mL_law d (kc - 700) (ks - 40000) 2025 [some (.retAddr 0), some (.ref 0), some (.ref 19), some (.ref o), some (.int (nI i)), none, none] [] w' Q) : J X mL_law d kc ks 1146 [some (.retAddr 0), some (.ref 0), some (.ref 19), some (.ref o), some (.int (nI i)), none, none] [] w Q := by
  refine J_aload_n (pc := 1146) dL_law_1146 rfl rfl rfl ?_
  refine J_aload_n (pc := 1147) dL_law_1147 rfl rfl rfl ?_
  refine J_iload (pc := 1148) dL_law_1148 rfl ?_
  refine J_iconst (pc := 1150) (v := nI 1) dL_law_1150 (by decide) ?_
  refine J_iaddN (pc := 1151) dL_law_1151 ?_
  refine J_ialdO (pc := 1152) dL_law_1152 hX0 (nI_in (by omega) (by omega)) ?_
  refine J_aload_n (pc := 1153) dL_law_1153 rfl rfl rfl ?_
  refine J_callSX (pc := 1154) (M := mL_law) (as := [.ref 0, .int (xs.getD (nI (i + 1)).toNatClampNeg 0), .ref o]) dL_law_1154 fw_L_stays fl_L_240 fs_L_stays rfl (c_L_stays hs (d := d - 1) (by omega) hI (xs.getD (nI (i + 1)).toNatClampNeg 0) (kc := 1) (ks := 6) (Nat.le_refl _) (Nat.le_refl _)) (by omega) (by omega) (by omega) (st := []) (Nat.le_of_ble_eq_true rfl) rfl (kr_J fun v1 w1 hv1 => ?_) kx_J
  obtain ⟨k1, x1, S1, hA1, hv1, hI1, hO1⟩ := hv1
  subst hv1
  refine J_istore (pc := 1157) dL_law_1157 (by decide) rfl ?_
  show J X mL_law d (kc - 1) (ks - 6) 1159 [some (.retAddr 0), some (.ref 0), some (.ref 19), some (.ref o), some (.int (nI i)), some (.int (nI k1)), none] [] w1 Q
  refine J_aload_n (pc := 1159) dL_law_1159 rfl rfl rfl ?_
  refine J_aload_n (pc := 1160) dL_law_1160 rfl rfl rfl ?_
  refine J_iload (pc := 1161) dL_law_1161 rfl ?_
  refine J_iconst (pc := 1163) (v := nI 1) dL_law_1163 (by decide) ?_
  refine J_iaddN (pc := 1164) dL_law_1164 ?_
  refine J_ialdO (pc := 1165) dL_law_1165 hX0 (nI_in (by omega) (by omega)) ?_
  obtain ⟨f16, h16⟩ := hI1.c19
  refine J_callV0 (pc := 1166) (M := mL_law) (as := [.int (xs.getD (nI (i + 1)).toNatClampNeg 0)]) dL_law_1166 fw_X8_stays fl_L_242 fm_X8_stays fe_X8_stays h16 (by decide) rfl rfl rfl (vv_stays hs (d := d - 1) (by omega) hI1 (xs.getD (nI (i + 1)).toNatClampNeg 0) (kc := 0) (ks := 0)) (by omega) (st := []) (Nat.le_of_ble_eq_true rfl) rfl (kr_J fun v2 w2 hv2 => ?_) kx_J
  obtain ⟨k2, S2, hA2, hI2, hO2⟩ := hv2
  obtain ⟨h1, h7, hM⟩ := hI.bd
  obtain ⟨rfl, rfl⟩ := AG.same (fun v v' x y h h' => (fD_stays h1 h7 hM (xs.getD (nI (i + 1)).toNatClampNeg 0) v v' x y h h').1) hA1 hA2
  have hI3 : LI o S1 S1 w2 := ⟨_, hI2⟩
  refine J_istore (pc := 1169) dL_law_1169 (by decide) rfl ?_
  show J X mL_law d (kc - 1) (ks - 6) 1171 [some (.retAddr 0), some (.ref 0), some (.ref 19), some (.ref o), some (.int (nI i)), some (.int (nI k1)), some (.int v2)] [] w2 Q
  refine J_goto (pc := 1171) (tgt := 2025) dL_law_1171 (by decide) ?_
  exact J_sub (L' := [some (.retAddr 0), some (.ref 0), some (.ref 19), some (.ref o), some (.int (nI i)), none, none]) ⟨rfl, rfl, rfl, rfl, rfl, trivial⟩ ((ih _ _ hI3).mono (by omega) (by omega) (fun _ _ h => h))
