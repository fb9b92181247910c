theorem isN.o {h : gH} {m : Nat} {S : AS} (hn : isN h m S) : ∃ fs, h.1 m = some (.inr (12, fs)) := by
  obtain ⟨z, s, l, A, B, hm, r⟩ := hn
  exact ⟨_, hm.1⟩
set_option maxRecDepth 10000 in
set_option maxHeartbeats 2000000 in
theorem lc_feed {g : gG} {nm : String} {b L : Nat} {xs : Nat → Int32} {h : gH} {x i k n : Nat} {S : AS} (hL : L ≤ 384) (hi : i + 6 ≤ L) (hI : LI h x S) (hk : k + 2 ≤ 600000) (hn' : n + 42 ≤ 7302250) (kk : ∀ h' S', LI h' x S' → Ex g (mLw nm) (lwZ g b L xs) 1663 [some (.ref b), some (.ref x), some (.ref (x + 50)), some (.int (nI i))] [] h' (k + 2) (n + 42)) : Ex g (mLw nm) (lwZ g b L xs) 220 [some (.ref b), some (.ref x), some (.ref (x + 50)), some (.int (nI i))] [] h k n := by
  obtain ⟨D, hx, hn, hD⟩ := hI
  refine x_aload_n dL_law_220 rfl ?_
  refine x_aload_n dL_law_221 rfl ?_
  refine x_iload_n dL_law_222 rfl ?_
  refine x_iconst (v := 1) dL_law_223 (by decide) ?_
  refine x_iadd dL_law_224 ?_
  refine x_sld (i + 1) (nI_add i 1) (by omega) (by omega) dL_law_225 ?_
  refine x_i2l dL_law_226 ?_
  refine x_bipush (v := 32) dL_law_227 (by decide) ?_
  refine x_lshl dL_law_229 ?_
  refine x_aload_n dL_law_230 rfl ?_
  refine x_iload_n dL_law_231 rfl ?_
  refine x_iconst (v := 2) dL_law_232 (by decide) ?_
  refine x_iadd dL_law_233 ?_
  refine x_sld (i + 2) (nI_add i 2) (by omega) (by omega) dL_law_234 ?_
  refine x_i2l dL_law_235 ?_
  refine x_ldc2 dL_law_236 kL_13 ?_
  refine x_land dL_law_239 ?_
  refine x_lor dL_law_240 ?_
  refine x_aload_n dL_law_241 rfl ?_
  refine x_iload_n dL_law_242 rfl ?_
  refine x_iconst (v := 3) dL_law_243 (by decide) ?_
  refine x_iadd dL_law_244 ?_
  refine x_sld (i + 3) (nI_add i 3) (by omega) (by omega) dL_law_245 ?_
  refine x_cvV (k' := k) (n' := n) (c_X11_feed hx) hx.2.1 lkX11_feed sL_15 dL_law_246 rfl rfl (Nat.le_of_ble_eq_true rfl) ⟨Nat.le_of_ble_eq_true rfl, Nat.le_of_ble_eq_true rfl⟩ ⟨rfl, rfl, (by show _ ≤ 600000; omega), (by show _ ≤ 7302250; omega)⟩ ?_
  rintro h1 ⟨hx1, F1⟩
  have hn1 := hn.px F1
  have hD1 := hD
  refine x_aload_n dL_law_249 rfl ?_
  refine x_aload_n dL_law_250 rfl ?_
  refine x_iload_n dL_law_251 rfl ?_
  refine x_iconst (v := 1) dL_law_252 (by decide) ?_
  refine x_iadd dL_law_253 ?_
  refine x_sld (i + 1) (nI_add i 1) (by omega) (by omega) dL_law_254 ?_
  refine x_i2l dL_law_255 ?_
  refine x_bipush (v := 32) dL_law_256 (by decide) ?_
  refine x_lshl dL_law_258 ?_
  refine x_aload_n dL_law_259 rfl ?_
  refine x_iload_n dL_law_260 rfl ?_
  refine x_iconst (v := 2) dL_law_261 (by decide) ?_
  refine x_iadd dL_law_262 ?_
  refine x_sld (i + 2) (nI_add i 2) (by omega) (by omega) dL_law_263 ?_
  refine x_i2l dL_law_264 ?_
  refine x_ldc2 dL_law_265 kL_13 ?_
  refine x_land dL_law_268 ?_
  refine x_lor dL_law_269 ?_
  refine x_aload_n dL_law_270 rfl ?_
  refine x_iload_n dL_law_271 rfl ?_
  refine x_iconst (v := 3) dL_law_272 (by decide) ?_
  refine x_iadd dL_law_273 ?_
  refine x_sld (i + 3) (nI_add i 3) (by omega) (by omega) dL_law_274 ?_
  obtain ⟨fs, ho⟩ := hn1.o
  refine x_cvV (k' := k) (n' := n) (c_X12_feed hn1) ho lkX12_feed sL_19 dL_law_275 rfl rfl (Nat.le_of_ble_eq_true rfl) ⟨Nat.le_of_ble_eq_true rfl, Nat.le_of_ble_eq_true rfl⟩ ⟨rfl, rfl, (by show _ ≤ 600000; omega), (by show _ ≤ 7302250; omega)⟩ ?_
  rintro h2 ⟨hn2, F2⟩
  have hx2 := hx1.fo hD1 F2
  refine x_icmp_eq_t 1663 dL_law_278 (by decide) rfl ?_
  refine x_widen (k' := k + 2) (n' := n + 42) (by omega) (by omega) ?_
  exact kk _ _ ⟨_, hx2, hn2, hD1⟩
set_option maxRecDepth 10000 in
set_option maxHeartbeats 2000000 in
theorem lc_wood {g : gG} {nm : String} {b L : Nat} {xs : Nat → Int32} {h : gH} {x i k n : Nat} {S : AS} (hL : L ≤ 384) (hi : i + 6 ≤ L) (hI : LI h x S) (hk : k + 2 ≤ 600000) (hn' : n + 42 ≤ 7302250) (kk : ∀ h' S', LI h' x S' → Ex g (mLw nm) (lwZ g b L xs) 1663 [some (.ref b), some (.ref x), some (.ref (x + 50)), some (.int (nI i))] [] h' (k + 2) (n + 42)) : Ex g (mLw nm) (lwZ g b L xs) 283 [some (.ref b), some (.ref x), some (.ref (x + 50)), some (.int (nI i))] [] h k n := by
  obtain ⟨D, hx, hn, hD⟩ := hI
  refine x_aload_n dL_law_283 rfl ?_
  refine x_cvV (k' := k) (n' := n) (c_X11_wood hx) hx.2.1 lkX11_wood sL_20 dL_law_284 rfl rfl (Nat.le_of_ble_eq_true rfl) ⟨Nat.le_of_ble_eq_true rfl, Nat.le_of_ble_eq_true rfl⟩ ⟨rfl, rfl, (by show _ ≤ 600000; omega), (by show _ ≤ 7302250; omega)⟩ ?_
  rintro h1 ⟨hx1, F1⟩
  have hn1 := hn.px F1
  have hD1 := hD
  refine x_aload_n dL_law_287 rfl ?_
  obtain ⟨fs, ho⟩ := hn1.o
  refine x_cvV (k' := k) (n' := n) (c_X12_wood hn1) ho lkX12_wood sL_24 dL_law_288 rfl rfl (Nat.le_of_ble_eq_true rfl) ⟨Nat.le_of_ble_eq_true rfl, Nat.le_of_ble_eq_true rfl⟩ ⟨rfl, rfl, (by show _ ≤ 600000; omega), (by show _ ≤ 7302250; omega)⟩ ?_
  rintro h2 ⟨hn2, F2⟩
  have hx2 := hx1.fo hD1 F2
  refine x_icmp_eq_t 1663 dL_law_291 (by decide) rfl ?_
  refine x_widen (k' := k + 2) (n' := n + 42) (by omega) (by omega) ?_
  exact kk _ _ ⟨_, hx2, hn2, hD1⟩
set_option maxRecDepth 10000 in
set_option maxHeartbeats 2000000 in
theorem lc_path {g : gG} {nm : String} {b L : Nat} {xs : Nat → Int32} {h : gH} {x i k n : Nat} {S : AS} (hL : L ≤ 384) (hi : i + 6 ≤ L) (hI : LI h x S) (hk : k + 2 ≤ 600000) (hn' : n + 42 ≤ 7302250) (kk : ∀ h' S', LI h' x S' → Ex g (mLw nm) (lwZ g b L xs) 1663 [some (.ref b), some (.ref x), some (.ref (x + 50)), some (.int (nI i))] [] h' (k + 2) (n + 42)) : Ex g (mLw nm) (lwZ g b L xs) 296 [some (.ref b), some (.ref x), some (.ref (x + 50)), some (.int (nI i))] [] h k n := by
  obtain ⟨D, hx, hn, hD⟩ := hI
  refine x_aload_n dL_law_296 rfl ?_
  refine x_aload_n dL_law_297 rfl ?_
  refine x_iload_n dL_law_298 rfl ?_
  refine x_iconst (v := 1) dL_law_299 (by decide) ?_
  refine x_iadd dL_law_300 ?_
  refine x_sld (i + 1) (nI_add i 1) (by omega) (by omega) dL_law_301 ?_
  refine x_aload_n dL_law_302 rfl ?_
  refine x_iload_n dL_law_303 rfl ?_
  refine x_iconst (v := 2) dL_law_304 (by decide) ?_
  refine x_iadd dL_law_305 ?_
  refine x_sld (i + 2) (nI_add i 2) (by omega) (by omega) dL_law_306 ?_
  refine x_aload_n dL_law_307 rfl ?_
  refine x_iload_n dL_law_308 rfl ?_
  refine x_iconst (v := 3) dL_law_309 (by decide) ?_
  refine x_iadd dL_law_310 ?_
  refine x_sld (i + 3) (nI_add i 3) (by omega) (by omega) dL_law_311 ?_
  refine x_aload_n dL_law_312 rfl ?_
  refine x_iload_n dL_law_313 rfl ?_
  refine x_iconst (v := 4) dL_law_314 (by decide) ?_
  refine x_iadd dL_law_315 ?_
  refine x_sld (i + 4) (nI_add i 4) (by omega) (by omega) dL_law_316 ?_
  refine x_aload_n dL_law_317 rfl ?_
  refine x_iload_n dL_law_318 rfl ?_
  refine x_iconst (v := 5) dL_law_319 (by decide) ?_
  refine x_iadd dL_law_320 ?_
  refine x_sld (i + 5) (nI_add i 5) (by omega) (by omega) dL_law_321 ?_
  refine x_cvV (k' := k) (n' := n) (c_X11_path hx) hx.2.1 lkX11_path sL_25 dL_law_322 rfl rfl (Nat.le_of_ble_eq_true rfl) ⟨Nat.le_of_ble_eq_true rfl, Nat.le_of_ble_eq_true rfl⟩ ⟨rfl, rfl, (by show _ ≤ 600000; omega), (by show _ ≤ 7302250; omega)⟩ ?_
  rintro h1 ⟨hx1, F1⟩
  have hn1 := hn.px F1
  have hD1 := hD
  refine x_aload_n dL_law_325 rfl ?_
  refine x_aload_n dL_law_326 rfl ?_
  refine x_iload_n dL_law_327 rfl ?_
  refine x_iconst (v := 1) dL_law_328 (by decide) ?_
  refine x_iadd dL_law_329 ?_
  refine x_sld (i + 1) (nI_add i 1) (by omega) (by omega) dL_law_330 ?_
  refine x_aload_n dL_law_331 rfl ?_
  refine x_iload_n dL_law_332 rfl ?_
  refine x_iconst (v := 2) dL_law_333 (by decide) ?_
  refine x_iadd dL_law_334 ?_
  refine x_sld (i + 2) (nI_add i 2) (by omega) (by omega) dL_law_335 ?_
  refine x_aload_n dL_law_336 rfl ?_
  refine x_iload_n dL_law_337 rfl ?_
  refine x_iconst (v := 3) dL_law_338 (by decide) ?_
  refine x_iadd dL_law_339 ?_
  refine x_sld (i + 3) (nI_add i 3) (by omega) (by omega) dL_law_340 ?_
  refine x_aload_n dL_law_341 rfl ?_
  refine x_iload_n dL_law_342 rfl ?_
  refine x_iconst (v := 4) dL_law_343 (by decide) ?_
  refine x_iadd dL_law_344 ?_
  refine x_sld (i + 4) (nI_add i 4) (by omega) (by omega) dL_law_345 ?_
  refine x_aload_n dL_law_346 rfl ?_
  refine x_iload_n dL_law_347 rfl ?_
  refine x_iconst (v := 5) dL_law_348 (by decide) ?_
  refine x_iadd dL_law_349 ?_
  refine x_sld (i + 5) (nI_add i 5) (by omega) (by omega) dL_law_350 ?_
  obtain ⟨fs, ho⟩ := hn1.o
  refine x_cvV (k' := k) (n' := n) (c_X12_path hn1) ho lkX12_path sL_29 dL_law_351 rfl rfl (Nat.le_of_ble_eq_true rfl) ⟨Nat.le_of_ble_eq_true rfl, Nat.le_of_ble_eq_true rfl⟩ ⟨rfl, rfl, (by show _ ≤ 600000; omega), (by show _ ≤ 7302250; omega)⟩ ?_
  rintro h2 ⟨hn2, F2⟩
  have hx2 := hx1.fo hD1 F2
  refine x_icmp_eq_t 1663 dL_law_354 (by decide) rfl ?_
  refine x_widen (k' := k + 2) (n' := n + 42) (by omega) (by omega) ?_
  exact kk _ _ ⟨_, hx2, hn2, hD1⟩
set_option maxRecDepth 10000 in
set_option maxHeartbeats 2000000 in
theorem lc_pathOf {g : gG} {nm : String} {b L : Nat} {xs : Nat → Int32} {h : gH} {x i k n : Nat} {S : AS} (hL : L ≤ 384) (hi : i + 6 ≤ L) (hI : LI h x S) (hk : k + 2 ≤ 600000) (hn' : n + 42 ≤ 7302250) (kk : ∀ h' S', LI h' x S' → Ex g (mLw nm) (lwZ g b L xs) 1663 [some (.ref b), some (.ref x), some (.ref (x + 50)), some (.int (nI i))] [] h' (k + 2) (n + 42)) : Ex g (mLw nm) (lwZ g b L xs) 359 [some (.ref b), some (.ref x), some (.ref (x + 50)), some (.int (nI i))] [] h k n := by
  obtain ⟨D, hx, hn, hD⟩ := hI
  refine x_aload_n dL_law_359 rfl ?_
  refine x_aload_n dL_law_360 rfl ?_
  refine x_iload_n dL_law_361 rfl ?_
  refine x_iconst (v := 1) dL_law_362 (by decide) ?_
  refine x_iadd dL_law_363 ?_
  refine x_sld (i + 1) (nI_add i 1) (by omega) (by omega) dL_law_364 ?_
  refine x_aload_n dL_law_365 rfl ?_
  refine x_iload_n dL_law_366 rfl ?_
  refine x_iconst (v := 2) dL_law_367 (by decide) ?_
  refine x_iadd dL_law_368 ?_
  refine x_sld (i + 2) (nI_add i 2) (by omega) (by omega) dL_law_369 ?_
  refine x_rdV (c_X11_pathOf hx) hx.2.1 lkX11_pathOf sL_30 dL_law_370 rfl rfl (Nat.le_of_ble_eq_true rfl) ⟨Nat.le_of_ble_eq_true rfl, Nat.le_of_ble_eq_true rfl⟩ ⟨rfl, rfl, (by show _ ≤ 600000; omega), (by show _ ≤ 7302250; omega)⟩ ?_
  refine x_aload_n dL_law_373 rfl ?_
  refine x_aload_n dL_law_374 rfl ?_
  refine x_iload_n dL_law_375 rfl ?_
  refine x_iconst (v := 1) dL_law_376 (by decide) ?_
  refine x_iadd dL_law_377 ?_
  refine x_sld (i + 1) (nI_add i 1) (by omega) (by omega) dL_law_378 ?_
  refine x_aload_n dL_law_379 rfl ?_
  refine x_iload_n dL_law_380 rfl ?_
  refine x_iconst (v := 2) dL_law_381 (by decide) ?_
  refine x_iadd dL_law_382 ?_
  refine x_sld (i + 2) (nI_add i 2) (by omega) (by omega) dL_law_383 ?_
  obtain ⟨fs, ho⟩ := hn.o
  refine x_rdV (c_X12_pathOf hn) ho lkX12_pathOf sL_34 dL_law_384 rfl rfl (Nat.le_of_ble_eq_true rfl) ⟨Nat.le_of_ble_eq_true rfl, Nat.le_of_ble_eq_true rfl⟩ ⟨rfl, rfl, (by show _ ≤ 600000; omega), (by show _ ≤ 7302250; omega)⟩ ?_
  refine x_icmp_eq_t 1663 dL_law_387 (by decide) rfl ?_
  refine x_widen (k' := k + 2) (n' := n + 42) (by omega) (by omega) ?_
  exact kk _ _ ⟨D, hx, hn, hD⟩
set_option maxRecDepth 10000 in
set_option maxHeartbeats 2000000 in
theorem lc_open {g : gG} {nm : String} {b L : Nat} {xs : Nat → Int32} {h : gH} {x i k n : Nat} {S : AS} (hL : L ≤ 384) (hi : i + 6 ≤ L) (hI : LI h x S) (hk : k + 2 ≤ 600000) (hn' : n + 42 ≤ 7302250) (kk : ∀ h' S', LI h' x S' → Ex g (mLw nm) (lwZ g b L xs) 1663 [some (.ref b), some (.ref x), some (.ref (x + 50)), some (.int (nI i))] [] h' (k + 2) (n + 42)) : Ex g (mLw nm) (lwZ g b L xs) 392 [some (.ref b), some (.ref x), some (.ref (x + 50)), some (.int (nI i))] [] h k n := by
  obtain ⟨D, hx, hn, hD⟩ := hI
  refine x_aload_n dL_law_392 rfl ?_
  refine x_aload_n dL_law_393 rfl ?_
  refine x_iload_n dL_law_394 rfl ?_
  refine x_iconst (v := 1) dL_law_395 (by decide) ?_
  refine x_iadd dL_law_396 ?_
  refine x_sld (i + 1) (nI_add i 1) (by omega) (by omega) dL_law_397 ?_
  refine x_aload_n dL_law_398 rfl ?_
  refine x_iload_n dL_law_399 rfl ?_
  refine x_iconst (v := 2) dL_law_400 (by decide) ?_
  refine x_iadd dL_law_401 ?_
  refine x_sld (i + 2) (nI_add i 2) (by omega) (by omega) dL_law_402 ?_
  refine x_if_eq 410 dL_law_403 (by decide) (fun c403 => ?_) (fun c403 => ?_)
  · refine x_iconst (v := 0) dL_law_410 (by decide) ?_
    refine x_cvV (k' := k) (n' := n) (c_X11_open hx (b := false)) hx.2.1 lkX11_open sL_35 dL_law_411 rfl rfl (Nat.le_of_ble_eq_true rfl) ⟨Nat.le_of_ble_eq_true rfl, Nat.le_of_ble_eq_true rfl⟩ ⟨rfl, rfl, (by show _ ≤ 600000; omega), (by show _ ≤ 7302250; omega)⟩ ?_
    rintro h1 ⟨hx1, F1⟩
    have hn1 := hn.px F1
    have hD1 := hD
    refine x_aload_n dL_law_414 rfl ?_
    refine x_aload_n dL_law_415 rfl ?_
    refine x_iload_n dL_law_416 rfl ?_
    refine x_iconst (v := 1) dL_law_417 (by decide) ?_
    refine x_iadd dL_law_418 ?_
    refine x_sld (i + 1) (nI_add i 1) (by omega) (by omega) dL_law_419 ?_
    refine x_aload_n dL_law_420 rfl ?_
    refine x_iload_n dL_law_421 rfl ?_
    refine x_iconst (v := 2) dL_law_422 (by decide) ?_
    refine x_iadd dL_law_423 ?_
    refine x_sld (i + 2) (nI_add i 2) (by omega) (by omega) dL_law_424 ?_
    refine x_if_eq_t 432 dL_law_425 (by decide) c403 ?_
    refine x_iconst (v := 0) dL_law_432 (by decide) ?_
    obtain ⟨fs, ho⟩ := hn1.o
    refine x_cvV (k' := k) (n' := n) (c_X12_open hn1 (b := false)) ho lkX12_open sL_39 dL_law_433 rfl rfl (Nat.le_of_ble_eq_true rfl) ⟨Nat.le_of_ble_eq_true rfl, Nat.le_of_ble_eq_true rfl⟩ ⟨rfl, rfl, (by show _ ≤ 600000; omega), (by show _ ≤ 7302250; omega)⟩ ?_
    rintro h2 ⟨hn2, F2⟩
    have hx2 := hx1.fo hD1 F2
    refine x_icmp_eq_t 1663 dL_law_436 (by decide) rfl ?_
    refine x_widen (k' := k + 2) (n' := n + 42) (by omega) (by omega) ?_
    exact kk _ _ ⟨_, hx2, hn2, hD1⟩
  · refine x_iconst (v := 1) dL_law_406 (by decide) ?_
    refine x_goto 411 dL_law_407 (by decide) ?_
    refine x_cvV (k' := k) (n' := n) (c_X11_open hx (b := true)) hx.2.1 lkX11_open sL_35 dL_law_411 rfl rfl (Nat.le_of_ble_eq_true rfl) ⟨Nat.le_of_ble_eq_true rfl, Nat.le_of_ble_eq_true rfl⟩ ⟨rfl, rfl, (by show _ ≤ 600000; omega), (by show _ ≤ 7302250; omega)⟩ ?_
    rintro h1 ⟨hx1, F1⟩
    have hn1 := hn.px F1
    have hD1 := hD
    refine x_aload_n dL_law_414 rfl ?_
    refine x_aload_n dL_law_415 rfl ?_
    refine x_iload_n dL_law_416 rfl ?_
    refine x_iconst (v := 1) dL_law_417 (by decide) ?_
    refine x_iadd dL_law_418 ?_
    refine x_sld (i + 1) (nI_add i 1) (by omega) (by omega) dL_law_419 ?_
    refine x_aload_n dL_law_420 rfl ?_
    refine x_iload_n dL_law_421 rfl ?_
    refine x_iconst (v := 2) dL_law_422 (by decide) ?_
    refine x_iadd dL_law_423 ?_
    refine x_sld (i + 2) (nI_add i 2) (by omega) (by omega) dL_law_424 ?_
    refine x_if_eq_f 432 dL_law_425 (by decide) c403 ?_
    refine x_iconst (v := 1) dL_law_428 (by decide) ?_
    refine x_goto 433 dL_law_429 (by decide) ?_
    obtain ⟨fs, ho⟩ := hn1.o
    refine x_cvV (k' := k) (n' := n) (c_X12_open hn1 (b := true)) ho lkX12_open sL_39 dL_law_433 rfl rfl (Nat.le_of_ble_eq_true rfl) ⟨Nat.le_of_ble_eq_true rfl, Nat.le_of_ble_eq_true rfl⟩ ⟨rfl, rfl, (by show _ ≤ 600000; omega), (by show _ ≤ 7302250; omega)⟩ ?_
    rintro h2 ⟨hn2, F2⟩
    have hx2 := hx1.fo hD1 F2
    refine x_icmp_eq_t 1663 dL_law_436 (by decide) rfl ?_
    refine x_widen (k' := k + 2) (n' := n + 42) (by omega) (by omega) ?_
    exact kk _ _ ⟨_, hx2, hn2, hD1⟩
set_option maxRecDepth 10000 in
set_option maxHeartbeats 2000000 in
theorem lc_rain {g : gG} {nm : String} {b L : Nat} {xs : Nat → Int32} {h : gH} {x i k n : Nat} {S : AS} (hL : L ≤ 384) (hi : i + 6 ≤ L) (hI : LI h x S) (hk : k + 2 ≤ 600000) (hn' : n + 42 ≤ 7302250) (kk : ∀ h' S', LI h' x S' → Ex g (mLw nm) (lwZ g b L xs) 1663 [some (.ref b), some (.ref x), some (.ref (x + 50)), some (.int (nI i))] [] h' (k + 2) (n + 42)) : Ex g (mLw nm) (lwZ g b L xs) 441 [some (.ref b), some (.ref x), some (.ref (x + 50)), some (.int (nI i))] [] h k n := by
  obtain ⟨D, hx, hn, hD⟩ := hI
  refine x_aload_n dL_law_441 rfl ?_
  refine x_aload_n dL_law_442 rfl ?_
  refine x_iload_n dL_law_443 rfl ?_
  refine x_iconst (v := 1) dL_law_444 (by decide) ?_
  refine x_iadd dL_law_445 ?_
  refine x_sld (i + 1) (nI_add i 1) (by omega) (by omega) dL_law_446 ?_
  refine x_if_eq 454 dL_law_447 (by decide) (fun c447 => ?_) (fun c447 => ?_)
  · refine x_iconst (v := 0) dL_law_454 (by decide) ?_
    refine x_cvV (k' := k) (n' := n) (c_X11_rain hx (b := false)) hx.2.1 lkX11_rain sL_40 dL_law_455 rfl rfl (Nat.le_of_ble_eq_true rfl) ⟨Nat.le_of_ble_eq_true rfl, Nat.le_of_ble_eq_true rfl⟩ ⟨rfl, rfl, (by show _ ≤ 600000; omega), (by show _ ≤ 7302250; omega)⟩ ?_
    rintro h1 ⟨hx1, F1⟩
    have hn1 := hn.px F1
    have hD1 := hD
    refine x_aload_n dL_law_458 rfl ?_
    refine x_aload_n dL_law_459 rfl ?_
    refine x_iload_n dL_law_460 rfl ?_
    refine x_iconst (v := 1) dL_law_461 (by decide) ?_
    refine x_iadd dL_law_462 ?_
    refine x_sld (i + 1) (nI_add i 1) (by omega) (by omega) dL_law_463 ?_
    refine x_if_eq_t 471 dL_law_464 (by decide) c447 ?_
    refine x_iconst (v := 0) dL_law_471 (by decide) ?_
    obtain ⟨fs, ho⟩ := hn1.o
    refine x_cvV (k' := k) (n' := n) (c_X12_rain hn1 (b := false)) ho lkX12_rain sL_44 dL_law_472 rfl rfl (Nat.le_of_ble_eq_true rfl) ⟨Nat.le_of_ble_eq_true rfl, Nat.le_of_ble_eq_true rfl⟩ ⟨rfl, rfl, (by show _ ≤ 600000; omega), (by show _ ≤ 7302250; omega)⟩ ?_
    rintro h2 ⟨hn2, F2⟩
    have hx2 := hx1.fo hD1 F2
    refine x_icmp_eq_t 1663 dL_law_475 (by decide) rfl ?_
    refine x_widen (k' := k + 2) (n' := n + 42) (by omega) (by omega) ?_
    exact kk _ _ ⟨_, hx2, hn2, hD1⟩
  · refine x_iconst (v := 1) dL_law_450 (by decide) ?_
    refine x_goto 455 dL_law_451 (by decide) ?_
    refine x_cvV (k' := k) (n' := n) (c_X11_rain hx (b := true)) hx.2.1 lkX11_rain sL_40 dL_law_455 rfl rfl (Nat.le_of_ble_eq_true rfl) ⟨Nat.le_of_ble_eq_true rfl, Nat.le_of_ble_eq_true rfl⟩ ⟨rfl, rfl, (by show _ ≤ 600000; omega), (by show _ ≤ 7302250; omega)⟩ ?_
    rintro h1 ⟨hx1, F1⟩
    have hn1 := hn.px F1
    have hD1 := hD
    refine x_aload_n dL_law_458 rfl ?_
    refine x_aload_n dL_law_459 rfl ?_
    refine x_iload_n dL_law_460 rfl ?_
    refine x_iconst (v := 1) dL_law_461 (by decide) ?_
    refine x_iadd dL_law_462 ?_
    refine x_sld (i + 1) (nI_add i 1) (by omega) (by omega) dL_law_463 ?_
    refine x_if_eq_f 471 dL_law_464 (by decide) c447 ?_
    refine x_iconst (v := 1) dL_law_467 (by decide) ?_
    refine x_goto 472 dL_law_468 (by decide) ?_
    obtain ⟨fs, ho⟩ := hn1.o
    refine x_cvV (k' := k) (n' := n) (c_X12_rain hn1 (b := true)) ho lkX12_rain sL_44 dL_law_472 rfl rfl (Nat.le_of_ble_eq_true rfl) ⟨Nat.le_of_ble_eq_true rfl, Nat.le_of_ble_eq_true rfl⟩ ⟨rfl, rfl, (by show _ ≤ 600000; omega), (by show _ ≤ 7302250; omega)⟩ ?_
    rintro h2 ⟨hn2, F2⟩
    have hx2 := hx1.fo hD1 F2
    refine x_icmp_eq_t 1663 dL_law_475 (by decide) rfl ?_
    refine x_widen (k' := k + 2) (n' := n + 42) (by omega) (by omega) ?_
    exact kk _ _ ⟨_, hx2, hn2, hD1⟩
set_option maxRecDepth 10000 in
set_option maxHeartbeats 2000000 in
theorem lc_weigh {g : gG} {nm : String} {b L : Nat} {xs : Nat → Int32} {h : gH} {x i k n : Nat} {S : AS} (hL : L ≤ 384) (hi : i + 6 ≤ L) (hI : LI h x S) (hk : k + 2 ≤ 600000) (hn' : n + 42 ≤ 7302250) (kk : ∀ h' S', LI h' x S' → Ex g (mLw nm) (lwZ g b L xs) 1663 [some (.ref b), some (.ref x), some (.ref (x + 50)), some (.int (nI i))] [] h' (k + 2) (n + 42)) : Ex g (mLw nm) (lwZ g b L xs) 480 [some (.ref b), some (.ref x), some (.ref (x + 50)), some (.int (nI i))] [] h k n := by
  obtain ⟨D, hx, hn, hD⟩ := hI
  refine x_aload_n dL_law_480 rfl ?_
  refine x_aload_n dL_law_481 rfl ?_
  refine x_iload_n dL_law_482 rfl ?_
  refine x_iconst (v := 1) dL_law_483 (by decide) ?_
  refine x_iadd dL_law_484 ?_
  refine x_sld (i + 1) (nI_add i 1) (by omega) (by omega) dL_law_485 ?_
  refine x_aload_n dL_law_486 rfl ?_
  refine x_iload_n dL_law_487 rfl ?_
  refine x_iconst (v := 2) dL_law_488 (by decide) ?_
  refine x_iadd dL_law_489 ?_
  refine x_sld (i + 2) (nI_add i 2) (by omega) (by omega) dL_law_490 ?_
  refine x_cvV (k' := k) (n' := n) (c_X11_weigh hx) hx.2.1 lkX11_weigh sL_45 dL_law_491 rfl rfl (Nat.le_of_ble_eq_true rfl) ⟨Nat.le_of_ble_eq_true rfl, Nat.le_of_ble_eq_true rfl⟩ ⟨rfl, rfl, (by show _ ≤ 600000; omega), (by show _ ≤ 7302250; omega)⟩ ?_
  rintro h1 ⟨hx1, F1⟩
  have hn1 := hn.px F1
  have hD1 := hD
  refine x_aload_n dL_law_494 rfl ?_
  refine x_aload_n dL_law_495 rfl ?_
  refine x_iload_n dL_law_496 rfl ?_
  refine x_iconst (v := 1) dL_law_497 (by decide) ?_
  refine x_iadd dL_law_498 ?_
  refine x_sld (i + 1) (nI_add i 1) (by omega) (by omega) dL_law_499 ?_
  refine x_aload_n dL_law_500 rfl ?_
  refine x_iload_n dL_law_501 rfl ?_
  refine x_iconst (v := 2) dL_law_502 (by decide) ?_
  refine x_iadd dL_law_503 ?_
  refine x_sld (i + 2) (nI_add i 2) (by omega) (by omega) dL_law_504 ?_
  obtain ⟨fs, ho⟩ := hn1.o
  refine x_cvV (k' := k) (n' := n) (c_X12_weigh hn1) ho lkX12_weigh sL_48 dL_law_505 rfl rfl (Nat.le_of_ble_eq_true rfl) ⟨Nat.le_of_ble_eq_true rfl, Nat.le_of_ble_eq_true rfl⟩ ⟨rfl, rfl, (by show _ ≤ 600000; omega), (by show _ ≤ 7302250; omega)⟩ ?_
  rintro h2 ⟨hn2, F2⟩
  have hx2 := hx1.fo hD1 F2
  refine x_icmp_eq_t 1663 dL_law_508 (by decide) rfl ?_
  refine x_widen (k' := k + 2) (n' := n + 42) (by omega) (by omega) ?_
  exact kk _ _ ⟨_, hx2, hn2, hD1⟩
set_option maxRecDepth 10000 in
set_option maxHeartbeats 2000000 in
theorem lc_walker {g : gG} {nm : String} {b L : Nat} {xs : Nat → Int32} {h : gH} {x i k n : Nat} {S : AS} (hL : L ≤ 384) (hi : i + 6 ≤ L) (hI : LI h x S) (hk : k + 2 ≤ 600000) (hn' : n + 42 ≤ 7302250) (kk : ∀ h' S', LI h' x S' → Ex g (mLw nm) (lwZ g b L xs) 1663 [some (.ref b), some (.ref x), some (.ref (x + 50)), some (.int (nI i))] [] h' (k + 2) (n + 42)) : Ex g (mLw nm) (lwZ g b L xs) 513 [some (.ref b), some (.ref x), some (.ref (x + 50)), some (.int (nI i))] [] h k n := by
  obtain ⟨D, hx, hn, hD⟩ := hI
  refine x_aload_n dL_law_513 rfl ?_
  refine x_aload_n dL_law_514 rfl ?_
  refine x_iload_n dL_law_515 rfl ?_
  refine x_iconst (v := 1) dL_law_516 (by decide) ?_
  refine x_iadd dL_law_517 ?_
  refine x_sld (i + 1) (nI_add i 1) (by omega) (by omega) dL_law_518 ?_
  refine x_aload_n dL_law_519 rfl ?_
  refine x_iload_n dL_law_520 rfl ?_
  refine x_iconst (v := 2) dL_law_521 (by decide) ?_
  refine x_iadd dL_law_522 ?_
  refine x_sld (i + 2) (nI_add i 2) (by omega) (by omega) dL_law_523 ?_
  refine x_cvV (k' := k) (n' := n) (c_X11_walker hx) hx.2.1 lkX11_walker sL_49 dL_law_524 rfl rfl (Nat.le_of_ble_eq_true rfl) ⟨Nat.le_of_ble_eq_true rfl, Nat.le_of_ble_eq_true rfl⟩ ⟨rfl, rfl, (by show _ ≤ 600000; omega), (by show _ ≤ 7302250; omega)⟩ ?_
  rintro h1 ⟨hx1, F1⟩
  have hn1 := hn.px F1
  have hD1 := hD
  refine x_aload_n dL_law_527 rfl ?_
  refine x_aload_n dL_law_528 rfl ?_
  refine x_iload_n dL_law_529 rfl ?_
  refine x_iconst (v := 1) dL_law_530 (by decide) ?_
  refine x_iadd dL_law_531 ?_
  refine x_sld (i + 1) (nI_add i 1) (by omega) (by omega) dL_law_532 ?_
  refine x_aload_n dL_law_533 rfl ?_
  refine x_iload_n dL_law_534 rfl ?_
  refine x_iconst (v := 2) dL_law_535 (by decide) ?_
  refine x_iadd dL_law_536 ?_
  refine x_sld (i + 2) (nI_add i 2) (by omega) (by omega) dL_law_537 ?_
  obtain ⟨fs, ho⟩ := hn1.o
  refine x_cvV (k' := k) (n' := n) (c_X12_walker hn1) ho lkX12_walker sL_52 dL_law_538 rfl rfl (Nat.le_of_ble_eq_true rfl) ⟨Nat.le_of_ble_eq_true rfl, Nat.le_of_ble_eq_true rfl⟩ ⟨rfl, rfl, (by show _ ≤ 600000; omega), (by show _ ≤ 7302250; omega)⟩ ?_
  rintro h2 ⟨hn2, F2⟩
  have hx2 := hx1.fo hD1 F2
  refine x_icmp_eq_t 1663 dL_law_541 (by decide) rfl ?_
  refine x_widen (k' := k + 2) (n' := n + 42) (by omega) (by omega) ?_
  exact kk _ _ ⟨_, hx2, hn2, hD1⟩
set_option maxRecDepth 10000 in
set_option maxHeartbeats 2000000 in
theorem lc_walkerOf {g : gG} {nm : String} {b L : Nat} {xs : Nat → Int32} {h : gH} {x i k n : Nat} {S : AS} (hL : L ≤ 384) (hi : i + 6 ≤ L) (hI : LI h x S) (hk : k + 2 ≤ 600000) (hn' : n + 42 ≤ 7302250) (kk : ∀ h' S', LI h' x S' → Ex g (mLw nm) (lwZ g b L xs) 1663 [some (.ref b), some (.ref x), some (.ref (x + 50)), some (.int (nI i))] [] h' (k + 2) (n + 42)) : Ex g (mLw nm) (lwZ g b L xs) 546 [some (.ref b), some (.ref x), some (.ref (x + 50)), some (.int (nI i))] [] h k n := by
  obtain ⟨D, hx, hn, hD⟩ := hI
  refine x_aload_n dL_law_546 rfl ?_
  refine x_aload_n dL_law_547 rfl ?_
  refine x_iload_n dL_law_548 rfl ?_
  refine x_iconst (v := 1) dL_law_549 (by decide) ?_
  refine x_iadd dL_law_550 ?_
  refine x_sld (i + 1) (nI_add i 1) (by omega) (by omega) dL_law_551 ?_
  refine x_aload_n dL_law_552 rfl ?_
  refine x_iload_n dL_law_553 rfl ?_
  refine x_iconst (v := 2) dL_law_554 (by decide) ?_
  refine x_iadd dL_law_555 ?_
  refine x_sld (i + 2) (nI_add i 2) (by omega) (by omega) dL_law_556 ?_
  refine x_rdV (c_X11_walkerOf hx) hx.2.1 lkX11_walkerOf sL_53 dL_law_557 rfl rfl (Nat.le_of_ble_eq_true rfl) ⟨Nat.le_of_ble_eq_true rfl, Nat.le_of_ble_eq_true rfl⟩ ⟨rfl, rfl, (by show _ ≤ 600000; omega), (by show _ ≤ 7302250; omega)⟩ ?_
  refine x_aload_n dL_law_560 rfl ?_
  refine x_aload_n dL_law_561 rfl ?_
  refine x_iload_n dL_law_562 rfl ?_
  refine x_iconst (v := 1) dL_law_563 (by decide) ?_
  refine x_iadd dL_law_564 ?_
  refine x_sld (i + 1) (nI_add i 1) (by omega) (by omega) dL_law_565 ?_
  refine x_aload_n dL_law_566 rfl ?_
  refine x_iload_n dL_law_567 rfl ?_
  refine x_iconst (v := 2) dL_law_568 (by decide) ?_
  refine x_iadd dL_law_569 ?_
  refine x_sld (i + 2) (nI_add i 2) (by omega) (by omega) dL_law_570 ?_
  obtain ⟨fs, ho⟩ := hn.o
  refine x_rdV (c_X12_walkerOf hn) ho lkX12_walkerOf sL_56 dL_law_571 rfl rfl (Nat.le_of_ble_eq_true rfl) ⟨Nat.le_of_ble_eq_true rfl, Nat.le_of_ble_eq_true rfl⟩ ⟨rfl, rfl, (by show _ ≤ 600000; omega), (by show _ ≤ 7302250; omega)⟩ ?_
  refine x_icmp_eq_t 1663 dL_law_574 (by decide) rfl ?_
  refine x_widen (k' := k + 2) (n' := n + 42) (by omega) (by omega) ?_
  exact kk _ _ ⟨D, hx, hn, hD⟩
set_option maxRecDepth 10000 in
set_option maxHeartbeats 2000000 in
theorem lc_walk {g : gG} {nm : String} {b L : Nat} {xs : Nat → Int32} {h : gH} {x i k n : Nat} {S : AS} (hL : L ≤ 384) (hi : i + 6 ≤ L) (hI : LI h x S) (hk : k + 2 ≤ 600000) (hn' : n + 42 ≤ 7302250) (kk : ∀ h' S', LI h' x S' → Ex g (mLw nm) (lwZ g b L xs) 1663 [some (.ref b), some (.ref x), some (.ref (x + 50)), some (.int (nI i))] [] h' (k + 2) (n + 42)) : Ex g (mLw nm) (lwZ g b L xs) 579 [some (.ref b), some (.ref x), some (.ref (x + 50)), some (.int (nI i))] [] h k n := by
  obtain ⟨D, hx, hn, hD⟩ := hI
  refine x_aload_n dL_law_579 rfl ?_
  refine x_aload_n dL_law_580 rfl ?_
  refine x_iload_n dL_law_581 rfl ?_
  refine x_iconst (v := 1) dL_law_582 (by decide) ?_
  refine x_iadd dL_law_583 ?_
  refine x_sld (i + 1) (nI_add i 1) (by omega) (by omega) dL_law_584 ?_
  refine x_aload_n dL_law_585 rfl ?_
  refine x_iload_n dL_law_586 rfl ?_
  refine x_iconst (v := 2) dL_law_587 (by decide) ?_
  refine x_iadd dL_law_588 ?_
  refine x_sld (i + 2) (nI_add i 2) (by omega) (by omega) dL_law_589 ?_
  refine x_cvV (k' := k) (n' := n) (c_X11_walk hx) hx.2.1 lkX11_walk sL_57 dL_law_590 rfl rfl (Nat.le_of_ble_eq_true rfl) ⟨Nat.le_of_ble_eq_true rfl, Nat.le_of_ble_eq_true rfl⟩ ⟨rfl, rfl, (by show _ ≤ 600000; omega), (by show _ ≤ 7302250; omega)⟩ ?_
  rintro h1 ⟨hx1, F1⟩
  have hn1 := hn.px F1
  have hD1 := hD
  refine x_aload_n dL_law_593 rfl ?_
  refine x_aload_n dL_law_594 rfl ?_
  refine x_iload_n dL_law_595 rfl ?_
  refine x_iconst (v := 1) dL_law_596 (by decide) ?_
  refine x_iadd dL_law_597 ?_
  refine x_sld (i + 1) (nI_add i 1) (by omega) (by omega) dL_law_598 ?_
  refine x_aload_n dL_law_599 rfl ?_
  refine x_iload_n dL_law_600 rfl ?_
  refine x_iconst (v := 2) dL_law_601 (by decide) ?_
  refine x_iadd dL_law_602 ?_
  refine x_sld (i + 2) (nI_add i 2) (by omega) (by omega) dL_law_603 ?_
  obtain ⟨fs, ho⟩ := hn1.o
  refine x_cvV (k' := k) (n' := n) (c_X12_walk hn1) ho lkX12_walk sL_60 dL_law_604 rfl rfl (Nat.le_of_ble_eq_true rfl) ⟨Nat.le_of_ble_eq_true rfl, Nat.le_of_ble_eq_true rfl⟩ ⟨rfl, rfl, (by show _ ≤ 600000; omega), (by show _ ≤ 7302250; omega)⟩ ?_
  rintro h2 ⟨hn2, F2⟩
  have hx2 := hx1.fo hD1 F2
  refine x_icmp_eq_t 1663 dL_law_607 (by decide) rfl ?_
  refine x_widen (k' := k + 2) (n' := n + 42) (by omega) (by omega) ?_
  exact kk _ _ ⟨_, hx2, hn2, hD1⟩
set_option maxRecDepth 10000 in
set_option maxHeartbeats 2000000 in
theorem lc_on {g : gG} {nm : String} {b L : Nat} {xs : Nat → Int32} {h : gH} {x i k n : Nat} {S : AS} (hL : L ≤ 384) (hi : i + 6 ≤ L) (hI : LI h x S) (hk : k + 2 ≤ 600000) (hn' : n + 42 ≤ 7302250) (kk : ∀ h' S', LI h' x S' → Ex g (mLw nm) (lwZ g b L xs) 1663 [some (.ref b), some (.ref x), some (.ref (x + 50)), some (.int (nI i))] [] h' (k + 2) (n + 42)) : Ex g (mLw nm) (lwZ g b L xs) 612 [some (.ref b), some (.ref x), some (.ref (x + 50)), some (.int (nI i))] [] h k n := by
  obtain ⟨D, hx, hn, hD⟩ := hI
  refine x_aload_n dL_law_612 rfl ?_
  refine x_aload_n dL_law_613 rfl ?_
  refine x_iload_n dL_law_614 rfl ?_
  refine x_iconst (v := 1) dL_law_615 (by decide) ?_
  refine x_iadd dL_law_616 ?_
  refine x_sld (i + 1) (nI_add i 1) (by omega) (by omega) dL_law_617 ?_
  refine x_aload_n dL_law_618 rfl ?_
  refine x_iload_n dL_law_619 rfl ?_
  refine x_iconst (v := 2) dL_law_620 (by decide) ?_
  refine x_iadd dL_law_621 ?_
  refine x_sld (i + 2) (nI_add i 2) (by omega) (by omega) dL_law_622 ?_
  refine x_cvV (k' := k) (n' := n) (c_X11_on hx) hx.2.1 lkX11_on sL_61 dL_law_623 rfl rfl (Nat.le_of_ble_eq_true rfl) ⟨Nat.le_of_ble_eq_true rfl, Nat.le_of_ble_eq_true rfl⟩ ⟨rfl, rfl, (by show _ ≤ 600000; omega), (by show _ ≤ 7302250; omega)⟩ ?_
  rintro h1 ⟨hx1, F1⟩
  have hn1 := hn.px F1
  have hD1 := hD
  refine x_aload_n dL_law_626 rfl ?_
  refine x_aload_n dL_law_627 rfl ?_
  refine x_iload_n dL_law_628 rfl ?_
  refine x_iconst (v := 1) dL_law_629 (by decide) ?_
  refine x_iadd dL_law_630 ?_
  refine x_sld (i + 1) (nI_add i 1) (by omega) (by omega) dL_law_631 ?_
  refine x_aload_n dL_law_632 rfl ?_
  refine x_iload_n dL_law_633 rfl ?_
  refine x_iconst (v := 2) dL_law_634 (by decide) ?_
  refine x_iadd dL_law_635 ?_
  refine x_sld (i + 2) (nI_add i 2) (by omega) (by omega) dL_law_636 ?_
  obtain ⟨fs, ho⟩ := hn1.o
  refine x_cvV (k' := k) (n' := n) (c_X12_on hn1) ho lkX12_on sL_64 dL_law_637 rfl rfl (Nat.le_of_ble_eq_true rfl) ⟨Nat.le_of_ble_eq_true rfl, Nat.le_of_ble_eq_true rfl⟩ ⟨rfl, rfl, (by show _ ≤ 600000; omega), (by show _ ≤ 7302250; omega)⟩ ?_
  rintro h2 ⟨hn2, F2⟩
  have hx2 := hx1.fo hD1 F2
  refine x_icmp_eq_t 1663 dL_law_640 (by decide) rfl ?_
  refine x_widen (k' := k + 2) (n' := n + 42) (by omega) (by omega) ?_
  exact kk _ _ ⟨_, hx2, hn2, hD1⟩
set_option maxRecDepth 10000 in
set_option maxHeartbeats 2000000 in
theorem lc_off {g : gG} {nm : String} {b L : Nat} {xs : Nat → Int32} {h : gH} {x i k n : Nat} {S : AS} (hL : L ≤ 384) (hi : i + 6 ≤ L) (hI : LI h x S) (hk : k + 2 ≤ 600000) (hn' : n + 42 ≤ 7302250) (kk : ∀ h' S', LI h' x S' → Ex g (mLw nm) (lwZ g b L xs) 1663 [some (.ref b), some (.ref x), some (.ref (x + 50)), some (.int (nI i))] [] h' (k + 2) (n + 42)) : Ex g (mLw nm) (lwZ g b L xs) 645 [some (.ref b), some (.ref x), some (.ref (x + 50)), some (.int (nI i))] [] h k n := by
  obtain ⟨D, hx, hn, hD⟩ := hI
  refine x_aload_n dL_law_645 rfl ?_
  refine x_aload_n dL_law_646 rfl ?_
  refine x_iload_n dL_law_647 rfl ?_
  refine x_iconst (v := 1) dL_law_648 (by decide) ?_
  refine x_iadd dL_law_649 ?_
  refine x_sld (i + 1) (nI_add i 1) (by omega) (by omega) dL_law_650 ?_
  refine x_aload_n dL_law_651 rfl ?_
  refine x_iload_n dL_law_652 rfl ?_
  refine x_iconst (v := 2) dL_law_653 (by decide) ?_
  refine x_iadd dL_law_654 ?_
  refine x_sld (i + 2) (nI_add i 2) (by omega) (by omega) dL_law_655 ?_
  refine x_cvV (k' := k) (n' := n) (c_X11_off hx) hx.2.1 lkX11_off sL_65 dL_law_656 rfl rfl (Nat.le_of_ble_eq_true rfl) ⟨Nat.le_of_ble_eq_true rfl, Nat.le_of_ble_eq_true rfl⟩ ⟨rfl, rfl, (by show _ ≤ 600000; omega), (by show _ ≤ 7302250; omega)⟩ ?_
  rintro h1 ⟨hx1, F1⟩
  have hn1 := hn.px F1
  have hD1 := hD
  refine x_aload_n dL_law_659 rfl ?_
  refine x_aload_n dL_law_660 rfl ?_
  refine x_iload_n dL_law_661 rfl ?_
  refine x_iconst (v := 1) dL_law_662 (by decide) ?_
  refine x_iadd dL_law_663 ?_
  refine x_sld (i + 1) (nI_add i 1) (by omega) (by omega) dL_law_664 ?_
  refine x_aload_n dL_law_665 rfl ?_
  refine x_iload_n dL_law_666 rfl ?_
  refine x_iconst (v := 2) dL_law_667 (by decide) ?_
  refine x_iadd dL_law_668 ?_
  refine x_sld (i + 2) (nI_add i 2) (by omega) (by omega) dL_law_669 ?_
  obtain ⟨fs, ho⟩ := hn1.o
  refine x_cvV (k' := k) (n' := n) (c_X12_off hn1) ho lkX12_off sL_68 dL_law_670 rfl rfl (Nat.le_of_ble_eq_true rfl) ⟨Nat.le_of_ble_eq_true rfl, Nat.le_of_ble_eq_true rfl⟩ ⟨rfl, rfl, (by show _ ≤ 600000; omega), (by show _ ≤ 7302250; omega)⟩ ?_
  rintro h2 ⟨hn2, F2⟩
  have hx2 := hx1.fo hD1 F2
  refine x_icmp_eq_t 1663 dL_law_673 (by decide) rfl ?_
  refine x_widen (k' := k + 2) (n' := n + 42) (by omega) (by omega) ?_
  exact kk _ _ ⟨_, hx2, hn2, hD1⟩
set_option maxRecDepth 10000 in
set_option maxHeartbeats 2000000 in
theorem lc_put {g : gG} {nm : String} {b L : Nat} {xs : Nat → Int32} {h : gH} {x i k n : Nat} {S : AS} (hL : L ≤ 384) (hi : i + 6 ≤ L) (hI : LI h x S) (hk : k + 2 ≤ 600000) (hn' : n + 42 ≤ 7302250) (kk : ∀ h' S', LI h' x S' → Ex g (mLw nm) (lwZ g b L xs) 1663 [some (.ref b), some (.ref x), some (.ref (x + 50)), some (.int (nI i))] [] h' (k + 2) (n + 42)) : Ex g (mLw nm) (lwZ g b L xs) 678 [some (.ref b), some (.ref x), some (.ref (x + 50)), some (.int (nI i))] [] h k n := by
  obtain ⟨D, hx, hn, hD⟩ := hI
  refine x_aload_n dL_law_678 rfl ?_
  refine x_aload_n dL_law_679 rfl ?_
  refine x_iload_n dL_law_680 rfl ?_
  refine x_iconst (v := 1) dL_law_681 (by decide) ?_
  refine x_iadd dL_law_682 ?_
  refine x_sld (i + 1) (nI_add i 1) (by omega) (by omega) dL_law_683 ?_
  refine x_aload_n dL_law_684 rfl ?_
  refine x_iload_n dL_law_685 rfl ?_
  refine x_iconst (v := 2) dL_law_686 (by decide) ?_
  refine x_iadd dL_law_687 ?_
  refine x_sld (i + 2) (nI_add i 2) (by omega) (by omega) dL_law_688 ?_
  refine x_cvV (k' := k) (n' := n) (c_X11_put hx) hx.2.1 lkX11_put sL_69 dL_law_689 rfl rfl (Nat.le_of_ble_eq_true rfl) ⟨Nat.le_of_ble_eq_true rfl, Nat.le_of_ble_eq_true rfl⟩ ⟨rfl, rfl, (by show _ ≤ 600000; omega), (by show _ ≤ 7302250; omega)⟩ ?_
  rintro h1 ⟨hx1, F1⟩
  have hn1 := hn.px F1
  have hD1 := hD
  refine x_aload_n dL_law_692 rfl ?_
  refine x_aload_n dL_law_693 rfl ?_
  refine x_iload_n dL_law_694 rfl ?_
  refine x_iconst (v := 1) dL_law_695 (by decide) ?_
  refine x_iadd dL_law_696 ?_
  refine x_sld (i + 1) (nI_add i 1) (by omega) (by omega) dL_law_697 ?_
  refine x_aload_n dL_law_698 rfl ?_
  refine x_iload_n dL_law_699 rfl ?_
  refine x_iconst (v := 2) dL_law_700 (by decide) ?_
  refine x_iadd dL_law_701 ?_
  refine x_sld (i + 2) (nI_add i 2) (by omega) (by omega) dL_law_702 ?_
  obtain ⟨fs, ho⟩ := hn1.o
  refine x_cvV (k' := k) (n' := n) (c_X12_put hn1) ho lkX12_put sL_72 dL_law_703 rfl rfl (Nat.le_of_ble_eq_true rfl) ⟨Nat.le_of_ble_eq_true rfl, Nat.le_of_ble_eq_true rfl⟩ ⟨rfl, rfl, (by show _ ≤ 600000; omega), (by show _ ≤ 7302250; omega)⟩ ?_
  rintro h2 ⟨hn2, F2⟩
  have hx2 := hx1.fo hD1 F2
  refine x_icmp_eq_t 1663 dL_law_706 (by decide) rfl ?_
  refine x_widen (k' := k + 2) (n' := n + 42) (by omega) (by omega) ?_
  exact kk _ _ ⟨_, hx2, hn2, hD1⟩
set_option maxRecDepth 10000 in
set_option maxHeartbeats 2000000 in
theorem lc_night {g : gG} {nm : String} {b L : Nat} {xs : Nat → Int32} {h : gH} {x i k n : Nat} {S : AS} (hL : L ≤ 384) (hi : i + 6 ≤ L) (hI : LI h x S) (hk : k + 2 ≤ 600000) (hn' : n + 42 ≤ 7302250) (kk : ∀ h' S', LI h' x S' → Ex g (mLw nm) (lwZ g b L xs) 1663 [some (.ref b), some (.ref x), some (.ref (x + 50)), some (.int (nI i))] [] h' (k + 2) (n + 42)) : Ex g (mLw nm) (lwZ g b L xs) 711 [some (.ref b), some (.ref x), some (.ref (x + 50)), some (.int (nI i))] [] h k n := by
  obtain ⟨D, hx, hn, hD⟩ := hI
  refine x_aload_n dL_law_711 rfl ?_
  refine x_aload_n dL_law_712 rfl ?_
  refine x_iload_n dL_law_713 rfl ?_
  refine x_iconst (v := 1) dL_law_714 (by decide) ?_
  refine x_iadd dL_law_715 ?_
  refine x_sld (i + 1) (nI_add i 1) (by omega) (by omega) dL_law_716 ?_
  refine x_cvV (k' := k) (n' := n) (c_X11_night hx) hx.2.1 lkX11_night sL_73 dL_law_717 rfl rfl (Nat.le_of_ble_eq_true rfl) ⟨Nat.le_of_ble_eq_true rfl, Nat.le_of_ble_eq_true rfl⟩ ⟨rfl, rfl, (by show _ ≤ 600000; omega), (by show _ ≤ 7302250; omega)⟩ ?_
  rintro h1 ⟨hx1, F1⟩
  have hn1 := hn.px F1
  have hD1 := hD
  refine x_aload_n dL_law_720 rfl ?_
  refine x_aload_n dL_law_721 rfl ?_
  refine x_iload_n dL_law_722 rfl ?_
  refine x_iconst (v := 1) dL_law_723 (by decide) ?_
  refine x_iadd dL_law_724 ?_
  refine x_sld (i + 1) (nI_add i 1) (by omega) (by omega) dL_law_725 ?_
  obtain ⟨fs, ho⟩ := hn1.o
  refine x_cvV (k' := k) (n' := n) (c_X12_night hn1) ho lkX12_night sL_77 dL_law_726 rfl rfl (Nat.le_of_ble_eq_true rfl) ⟨Nat.le_of_ble_eq_true rfl, Nat.le_of_ble_eq_true rfl⟩ ⟨rfl, rfl, (by show _ ≤ 600000; omega), (by show _ ≤ 7302250; omega)⟩ ?_
  rintro h2 ⟨hn2, F2⟩
  have hx2 := hx1.fo hD1 F2
  refine x_icmp_eq_t 1663 dL_law_729 (by decide) rfl ?_
  refine x_widen (k' := k + 2) (n' := n + 42) (by omega) (by omega) ?_
  exact kk _ _ ⟨_, hx2, hn2, hD1⟩
set_option maxRecDepth 10000 in
set_option maxHeartbeats 2000000 in
theorem lc_count {g : gG} {nm : String} {b L : Nat} {xs : Nat → Int32} {h : gH} {x i k n : Nat} {S : AS} (hL : L ≤ 384) (hi : i + 6 ≤ L) (hI : LI h x S) (hk : k + 2 ≤ 600000) (hn' : n + 42 ≤ 7302250) (kk : ∀ h' S', LI h' x S' → Ex g (mLw nm) (lwZ g b L xs) 1663 [some (.ref b), some (.ref x), some (.ref (x + 50)), some (.int (nI i))] [] h' (k + 2) (n + 42)) : Ex g (mLw nm) (lwZ g b L xs) 734 [some (.ref b), some (.ref x), some (.ref (x + 50)), some (.int (nI i))] [] h k n := by
  obtain ⟨D, hx, hn, hD⟩ := hI
  refine x_aload_n dL_law_734 rfl ?_
  refine x_aload_n dL_law_735 rfl ?_
  refine x_iload_n dL_law_736 rfl ?_
  refine x_iconst (v := 1) dL_law_737 (by decide) ?_
  refine x_iadd dL_law_738 ?_
  refine x_sld (i + 1) (nI_add i 1) (by omega) (by omega) dL_law_739 ?_
  refine x_rdV (c_X11_count hx) hx.2.1 lkX11_count sL_78 dL_law_740 rfl rfl (Nat.le_of_ble_eq_true rfl) ⟨Nat.le_of_ble_eq_true rfl, Nat.le_of_ble_eq_true rfl⟩ ⟨rfl, rfl, (by show _ ≤ 600000; omega), (by show _ ≤ 7302250; omega)⟩ ?_
  refine x_aload_n dL_law_743 rfl ?_
  refine x_aload_n dL_law_744 rfl ?_
  refine x_iload_n dL_law_745 rfl ?_
  refine x_iconst (v := 1) dL_law_746 (by decide) ?_
  refine x_iadd dL_law_747 ?_
  refine x_sld (i + 1) (nI_add i 1) (by omega) (by omega) dL_law_748 ?_
  obtain ⟨fs, ho⟩ := hn.o
  refine x_rdV (c_X12_count hn) ho lkX12_count sL_81 dL_law_749 rfl rfl (Nat.le_of_ble_eq_true rfl) ⟨Nat.le_of_ble_eq_true rfl, Nat.le_of_ble_eq_true rfl⟩ ⟨rfl, rfl, (by show _ ≤ 600000; omega), (by show _ ≤ 7302250; omega)⟩ ?_
  refine x_icmp_eq_t 1663 dL_law_752 (by decide) rfl ?_
  refine x_widen (k' := k + 2) (n' := n + 42) (by omega) (by omega) ?_
  exact kk _ _ ⟨D, hx, hn, hD⟩
set_option maxRecDepth 10000 in
set_option maxHeartbeats 2000000 in
theorem lc_seed {g : gG} {nm : String} {b L : Nat} {xs : Nat → Int32} {h : gH} {x i k n : Nat} {S : AS} (hL : L ≤ 384) (hi : i + 6 ≤ L) (hI : LI h x S) (hk : k + 2 ≤ 600000) (hn' : n + 42 ≤ 7302250) (kk : ∀ h' S', LI h' x S' → Ex g (mLw nm) (lwZ g b L xs) 1663 [some (.ref b), some (.ref x), some (.ref (x + 50)), some (.int (nI i))] [] h' (k + 2) (n + 42)) : Ex g (mLw nm) (lwZ g b L xs) 757 [some (.ref b), some (.ref x), some (.ref (x + 50)), some (.int (nI i))] [] h k n := by
  obtain ⟨D, hx, hn, hD⟩ := hI
  refine x_aload_n dL_law_757 rfl ?_
  refine x_aload_n dL_law_758 rfl ?_
  refine x_iload_n dL_law_759 rfl ?_
  refine x_iconst (v := 1) dL_law_760 (by decide) ?_
  refine x_iadd dL_law_761 ?_
  refine x_sld (i + 1) (nI_add i 1) (by omega) (by omega) dL_law_762 ?_
  refine x_cvV (k' := k) (n' := n) (c_X11_seed hx) hx.2.1 lkX11_seed sL_82 dL_law_763 rfl rfl (Nat.le_of_ble_eq_true rfl) ⟨Nat.le_of_ble_eq_true rfl, Nat.le_of_ble_eq_true rfl⟩ ⟨rfl, rfl, (by show _ ≤ 600000; omega), (by show _ ≤ 7302250; omega)⟩ ?_
  rintro h1 ⟨hx1, F1⟩
  have hn1 := hn.px F1
  have hD1 := hD
  refine x_aload_n dL_law_766 rfl ?_
  refine x_aload_n dL_law_767 rfl ?_
  refine x_iload_n dL_law_768 rfl ?_
  refine x_iconst (v := 1) dL_law_769 (by decide) ?_
  refine x_iadd dL_law_770 ?_
  refine x_sld (i + 1) (nI_add i 1) (by omega) (by omega) dL_law_771 ?_
  obtain ⟨fs, ho⟩ := hn1.o
  refine x_cvV (k' := k) (n' := n) (c_X12_seed hn1) ho lkX12_seed sL_85 dL_law_772 rfl rfl (Nat.le_of_ble_eq_true rfl) ⟨Nat.le_of_ble_eq_true rfl, Nat.le_of_ble_eq_true rfl⟩ ⟨rfl, rfl, (by show _ ≤ 600000; omega), (by show _ ≤ 7302250; omega)⟩ ?_
  rintro h2 ⟨hn2, F2⟩
  have hx2 := hx1.fo hD1 F2
  refine x_icmp_eq_t 1663 dL_law_775 (by decide) rfl ?_
  refine x_widen (k' := k + 2) (n' := n + 42) (by omega) (by omega) ?_
  exact kk _ _ ⟨_, hx2, hn2, hD1⟩
set_option maxRecDepth 10000 in
set_option maxHeartbeats 2000000 in
theorem lc_way {g : gG} {nm : String} {b L : Nat} {xs : Nat → Int32} {h : gH} {x i k n : Nat} {S : AS} (hL : L ≤ 384) (hi : i + 6 ≤ L) (hI : LI h x S) (hk : k + 2 ≤ 600000) (hn' : n + 42 ≤ 7302250) (kk : ∀ h' S', LI h' x S' → Ex g (mLw nm) (lwZ g b L xs) 1663 [some (.ref b), some (.ref x), some (.ref (x + 50)), some (.int (nI i))] [] h' (k + 2) (n + 42)) : Ex g (mLw nm) (lwZ g b L xs) 780 [some (.ref b), some (.ref x), some (.ref (x + 50)), some (.int (nI i))] [] h k n := by
  obtain ⟨D, hx, hn, hD⟩ := hI
  refine x_aload_n dL_law_780 rfl ?_
  refine x_aload_n dL_law_781 rfl ?_
  refine x_iload_n dL_law_782 rfl ?_
  refine x_iconst (v := 1) dL_law_783 (by decide) ?_
  refine x_iadd dL_law_784 ?_
  refine x_sld (i + 1) (nI_add i 1) (by omega) (by omega) dL_law_785 ?_
  refine x_aload_n dL_law_786 rfl ?_
  refine x_iload_n dL_law_787 rfl ?_
  refine x_iconst (v := 2) dL_law_788 (by decide) ?_
  refine x_iadd dL_law_789 ?_
  refine x_sld (i + 2) (nI_add i 2) (by omega) (by omega) dL_law_790 ?_
  refine x_rdV (c_X11_way hx) hx.2.1 lkX11_way sL_86 dL_law_791 rfl rfl (Nat.le_of_ble_eq_true rfl) ⟨Nat.le_of_ble_eq_true rfl, Nat.le_of_ble_eq_true rfl⟩ ⟨rfl, rfl, (by show _ ≤ 600000; omega), (by show _ ≤ 7302250; omega)⟩ ?_
  refine x_aload_n dL_law_794 rfl ?_
  refine x_aload_n dL_law_795 rfl ?_
  refine x_iload_n dL_law_796 rfl ?_
  refine x_iconst (v := 1) dL_law_797 (by decide) ?_
  refine x_iadd dL_law_798 ?_
  refine x_sld (i + 1) (nI_add i 1) (by omega) (by omega) dL_law_799 ?_
  refine x_aload_n dL_law_800 rfl ?_
  refine x_iload_n dL_law_801 rfl ?_
  refine x_iconst (v := 2) dL_law_802 (by decide) ?_
  refine x_iadd dL_law_803 ?_
  refine x_sld (i + 2) (nI_add i 2) (by omega) (by omega) dL_law_804 ?_
  obtain ⟨fs, ho⟩ := hn.o
  refine x_rdV (c_X12_way hn) ho lkX12_way sL_89 dL_law_805 rfl rfl (Nat.le_of_ble_eq_true rfl) ⟨Nat.le_of_ble_eq_true rfl, Nat.le_of_ble_eq_true rfl⟩ ⟨rfl, rfl, (by show _ ≤ 600000; omega), (by show _ ≤ 7302250; omega)⟩ ?_
  refine x_icmp_eq_t 1663 dL_law_808 (by decide) rfl ?_
  refine x_widen (k' := k + 2) (n' := n + 42) (by omega) (by omega) ?_
  exact kk _ _ ⟨D, hx, hn, hD⟩
set_option maxRecDepth 10000 in
set_option maxHeartbeats 2000000 in
theorem lc_reach {g : gG} {nm : String} {b L : Nat} {xs : Nat → Int32} {h : gH} {x i k n : Nat} {S : AS} (hL : L ≤ 384) (hi : i + 6 ≤ L) (hI : LI h x S) (hk : k + 2 ≤ 600000) (hn' : n + 42 ≤ 7302250) (kk : ∀ h' S', LI h' x S' → Ex g (mLw nm) (lwZ g b L xs) 1663 [some (.ref b), some (.ref x), some (.ref (x + 50)), some (.int (nI i))] [] h' (k + 2) (n + 42)) : Ex g (mLw nm) (lwZ g b L xs) 813 [some (.ref b), some (.ref x), some (.ref (x + 50)), some (.int (nI i))] [] h k n := by
  obtain ⟨D, hx, hn, hD⟩ := hI
  refine x_aload_n dL_law_813 rfl ?_
  refine x_aload_n dL_law_814 rfl ?_
  refine x_iload_n dL_law_815 rfl ?_
  refine x_iconst (v := 1) dL_law_816 (by decide) ?_
  refine x_iadd dL_law_817 ?_
  refine x_sld (i + 1) (nI_add i 1) (by omega) (by omega) dL_law_818 ?_
  refine x_rdV (c_X11_reach hx) hx.2.1 lkX11_reach sL_90 dL_law_819 rfl rfl (Nat.le_of_ble_eq_true rfl) ⟨Nat.le_of_ble_eq_true rfl, Nat.le_of_ble_eq_true rfl⟩ ⟨rfl, rfl, (by show _ ≤ 600000; omega), (by show _ ≤ 7302250; omega)⟩ ?_
  refine x_aload_n dL_law_822 rfl ?_
  refine x_aload_n dL_law_823 rfl ?_
  refine x_iload_n dL_law_824 rfl ?_
  refine x_iconst (v := 1) dL_law_825 (by decide) ?_
  refine x_iadd dL_law_826 ?_
  refine x_sld (i + 1) (nI_add i 1) (by omega) (by omega) dL_law_827 ?_
  obtain ⟨fs, ho⟩ := hn.o
  refine x_rdV (c_X12_reach hn) ho lkX12_reach sL_93 dL_law_828 rfl rfl (Nat.le_of_ble_eq_true rfl) ⟨Nat.le_of_ble_eq_true rfl, Nat.le_of_ble_eq_true rfl⟩ ⟨rfl, rfl, (by show _ ≤ 600000; omega), (by show _ ≤ 7302250; omega)⟩ ?_
  refine x_icmp_eq_t 1663 dL_law_831 (by decide) rfl ?_
  refine x_widen (k' := k + 2) (n' := n + 42) (by omega) (by omega) ?_
  exact kk _ _ ⟨D, hx, hn, hD⟩
set_option maxRecDepth 10000 in
set_option maxHeartbeats 2000000 in
theorem lc_odds {g : gG} {nm : String} {b L : Nat} {xs : Nat → Int32} {h : gH} {x i k n : Nat} {S : AS} (hL : L ≤ 384) (hi : i + 6 ≤ L) (hI : LI h x S) (hk : k + 2 ≤ 600000) (hn' : n + 42 ≤ 7302250) (kk : ∀ h' S', LI h' x S' → Ex g (mLw nm) (lwZ g b L xs) 1663 [some (.ref b), some (.ref x), some (.ref (x + 50)), some (.int (nI i))] [] h' (k + 2) (n + 42)) : Ex g (mLw nm) (lwZ g b L xs) 836 [some (.ref b), some (.ref x), some (.ref (x + 50)), some (.int (nI i))] [] h k n := by
  obtain ⟨D, hx, hn, hD⟩ := hI
  refine x_aload_n dL_law_836 rfl ?_
  refine x_aload_n dL_law_837 rfl ?_
  refine x_iload_n dL_law_838 rfl ?_
  refine x_iconst (v := 1) dL_law_839 (by decide) ?_
  refine x_iadd dL_law_840 ?_
  refine x_sld (i + 1) (nI_add i 1) (by omega) (by omega) dL_law_841 ?_
  refine x_aload_n dL_law_842 rfl ?_
  refine x_iload_n dL_law_843 rfl ?_
  refine x_iconst (v := 2) dL_law_844 (by decide) ?_
  refine x_iadd dL_law_845 ?_
  refine x_sld (i + 2) (nI_add i 2) (by omega) (by omega) dL_law_846 ?_
  refine x_aload_n dL_law_847 rfl ?_
  refine x_iload_n dL_law_848 rfl ?_
  refine x_iconst (v := 3) dL_law_849 (by decide) ?_
  refine x_iadd dL_law_850 ?_
  refine x_sld (i + 3) (nI_add i 3) (by omega) (by omega) dL_law_851 ?_
  refine x_cvV (k' := k) (n' := n) (c_X11_odds hx) hx.2.1 lkX11_odds sL_94 dL_law_852 rfl rfl (Nat.le_of_ble_eq_true rfl) ⟨Nat.le_of_ble_eq_true rfl, Nat.le_of_ble_eq_true rfl⟩ ⟨rfl, rfl, (by show _ ≤ 600000; omega), (by show _ ≤ 7302250; omega)⟩ ?_
  rintro h1 ⟨hx1, F1⟩
  have hn1 := hn.px F1
  have hD1 := hD
  refine x_aload_n dL_law_855 rfl ?_
  refine x_aload_n dL_law_856 rfl ?_
  refine x_iload_n dL_law_857 rfl ?_
  refine x_iconst (v := 1) dL_law_858 (by decide) ?_
  refine x_iadd dL_law_859 ?_
  refine x_sld (i + 1) (nI_add i 1) (by omega) (by omega) dL_law_860 ?_
  refine x_aload_n dL_law_861 rfl ?_
  refine x_iload_n dL_law_862 rfl ?_
  refine x_iconst (v := 2) dL_law_863 (by decide) ?_
  refine x_iadd dL_law_864 ?_
  refine x_sld (i + 2) (nI_add i 2) (by omega) (by omega) dL_law_865 ?_
  refine x_aload_n dL_law_866 rfl ?_
  refine x_iload_n dL_law_867 rfl ?_
  refine x_iconst (v := 3) dL_law_868 (by decide) ?_
  refine x_iadd dL_law_869 ?_
  refine x_sld (i + 3) (nI_add i 3) (by omega) (by omega) dL_law_870 ?_
  obtain ⟨fs, ho⟩ := hn1.o
  refine x_cvV (k' := k) (n' := n) (c_X12_odds hn1) ho lkX12_odds sL_98 dL_law_871 rfl rfl (Nat.le_of_ble_eq_true rfl) ⟨Nat.le_of_ble_eq_true rfl, Nat.le_of_ble_eq_true rfl⟩ ⟨rfl, rfl, (by show _ ≤ 600000; omega), (by show _ ≤ 7302250; omega)⟩ ?_
  rintro h2 ⟨hn2, F2⟩
  have hx2 := hx1.fo hD1 F2
  refine x_lcmp dL_law_874 ?_
  refine x_if_eq_t 1663 dL_law_875 (by decide) (lcmp_s _) ?_
  refine x_widen (k' := k + 2) (n' := n + 42) (by omega) (by omega) ?_
  exact kk _ _ ⟨_, hx2, hn2, hD1⟩
set_option maxRecDepth 10000 in
set_option maxHeartbeats 2000000 in
theorem lc_held {g : gG} {nm : String} {b L : Nat} {xs : Nat → Int32} {h : gH} {x i k n : Nat} {S : AS} (hL : L ≤ 384) (hi : i + 6 ≤ L) (hI : LI h x S) (hk : k + 2 ≤ 600000) (hn' : n + 42 ≤ 7302250) (kk : ∀ h' S', LI h' x S' → Ex g (mLw nm) (lwZ g b L xs) 1663 [some (.ref b), some (.ref x), some (.ref (x + 50)), some (.int (nI i))] [] h' (k + 2) (n + 42)) : Ex g (mLw nm) (lwZ g b L xs) 880 [some (.ref b), some (.ref x), some (.ref (x + 50)), some (.int (nI i))] [] h k n := by
  obtain ⟨D, hx, hn, hD⟩ := hI
  refine x_aload_n dL_law_880 rfl ?_
  refine x_aload_n dL_law_881 rfl ?_
  refine x_iload_n dL_law_882 rfl ?_
  refine x_iconst (v := 1) dL_law_883 (by decide) ?_
  refine x_iadd dL_law_884 ?_
  refine x_sld (i + 1) (nI_add i 1) (by omega) (by omega) dL_law_885 ?_
  refine x_aload_n dL_law_886 rfl ?_
  refine x_iload_n dL_law_887 rfl ?_
  refine x_iconst (v := 2) dL_law_888 (by decide) ?_
  refine x_iadd dL_law_889 ?_
  refine x_sld (i + 2) (nI_add i 2) (by omega) (by omega) dL_law_890 ?_
  refine x_aload_n dL_law_891 rfl ?_
  refine x_iload_n dL_law_892 rfl ?_
  refine x_iconst (v := 3) dL_law_893 (by decide) ?_
  refine x_iadd dL_law_894 ?_
  refine x_sld (i + 3) (nI_add i 3) (by omega) (by omega) dL_law_895 ?_
  refine x_cvV (k' := k) (n' := n) (c_X11_held hx) hx.2.1 lkX11_held sL_99 dL_law_896 rfl rfl (Nat.le_of_ble_eq_true rfl) ⟨Nat.le_of_ble_eq_true rfl, Nat.le_of_ble_eq_true rfl⟩ ⟨rfl, rfl, (by show _ ≤ 600000; omega), (by show _ ≤ 7302250; omega)⟩ ?_
  rintro h1 ⟨hx1, F1⟩
  have hn1 := hn.px F1
  have hD1 := hD
  refine x_aload_n dL_law_899 rfl ?_
  refine x_aload_n dL_law_900 rfl ?_
  refine x_iload_n dL_law_901 rfl ?_
  refine x_iconst (v := 1) dL_law_902 (by decide) ?_
  refine x_iadd dL_law_903 ?_
  refine x_sld (i + 1) (nI_add i 1) (by omega) (by omega) dL_law_904 ?_
  refine x_aload_n dL_law_905 rfl ?_
  refine x_iload_n dL_law_906 rfl ?_
  refine x_iconst (v := 2) dL_law_907 (by decide) ?_
  refine x_iadd dL_law_908 ?_
  refine x_sld (i + 2) (nI_add i 2) (by omega) (by omega) dL_law_909 ?_
  refine x_aload_n dL_law_910 rfl ?_
  refine x_iload_n dL_law_911 rfl ?_
  refine x_iconst (v := 3) dL_law_912 (by decide) ?_
  refine x_iadd dL_law_913 ?_
  refine x_sld (i + 3) (nI_add i 3) (by omega) (by omega) dL_law_914 ?_
  obtain ⟨fs, ho⟩ := hn1.o
  refine x_cvV (k' := k) (n' := n) (c_X12_held hn1) ho lkX12_held sL_103 dL_law_915 rfl rfl (Nat.le_of_ble_eq_true rfl) ⟨Nat.le_of_ble_eq_true rfl, Nat.le_of_ble_eq_true rfl⟩ ⟨rfl, rfl, (by show _ ≤ 600000; omega), (by show _ ≤ 7302250; omega)⟩ ?_
  rintro h2 ⟨hn2, F2⟩
  have hx2 := hx1.fo hD1 F2
  refine x_icmp_eq_t 1663 dL_law_918 (by decide) rfl ?_
  refine x_widen (k' := k + 2) (n' := n + 42) (by omega) (by omega) ?_
  exact kk _ _ ⟨_, hx2, hn2, hD1⟩
set_option maxRecDepth 10000 in
set_option maxHeartbeats 2000000 in
theorem lc_keepers {g : gG} {nm : String} {b L : Nat} {xs : Nat → Int32} {h : gH} {x i k n : Nat} {S : AS} (hL : L ≤ 384) (hi : i + 6 ≤ L) (hI : LI h x S) (hk : k + 2 ≤ 600000) (hn' : n + 42 ≤ 7302250) (kk : ∀ h' S', LI h' x S' → Ex g (mLw nm) (lwZ g b L xs) 1663 [some (.ref b), some (.ref x), some (.ref (x + 50)), some (.int (nI i))] [] h' (k + 2) (n + 42)) : Ex g (mLw nm) (lwZ g b L xs) 923 [some (.ref b), some (.ref x), some (.ref (x + 50)), some (.int (nI i))] [] h k n := by
  obtain ⟨D, hx, hn, hD⟩ := hI
  refine x_aload_n dL_law_923 rfl ?_
  refine x_aload_n dL_law_924 rfl ?_
  refine x_iload_n dL_law_925 rfl ?_
  refine x_iconst (v := 1) dL_law_926 (by decide) ?_
  refine x_iadd dL_law_927 ?_
  refine x_sld (i + 1) (nI_add i 1) (by omega) (by omega) dL_law_928 ?_
  refine x_aload_n dL_law_929 rfl ?_
  refine x_iload_n dL_law_930 rfl ?_
  refine x_iconst (v := 2) dL_law_931 (by decide) ?_
  refine x_iadd dL_law_932 ?_
  refine x_sld (i + 2) (nI_add i 2) (by omega) (by omega) dL_law_933 ?_
  refine x_aload_n dL_law_934 rfl ?_
  refine x_iload_n dL_law_935 rfl ?_
  refine x_iconst (v := 3) dL_law_936 (by decide) ?_
  refine x_iadd dL_law_937 ?_
  refine x_sld (i + 3) (nI_add i 3) (by omega) (by omega) dL_law_938 ?_
  refine x_cvV (k' := k) (n' := n) (c_X11_keepers hx) hx.2.1 lkX11_keepers sL_104 dL_law_939 rfl rfl (Nat.le_of_ble_eq_true rfl) ⟨Nat.le_of_ble_eq_true rfl, Nat.le_of_ble_eq_true rfl⟩ ⟨rfl, rfl, (by show _ ≤ 600000; omega), (by show _ ≤ 7302250; omega)⟩ ?_
  rintro h1 ⟨hx1, F1⟩
  have hn1 := hn.px F1
  have hD1 := hD
  refine x_aload_n dL_law_942 rfl ?_
  refine x_aload_n dL_law_943 rfl ?_
  refine x_iload_n dL_law_944 rfl ?_
  refine x_iconst (v := 1) dL_law_945 (by decide) ?_
  refine x_iadd dL_law_946 ?_
  refine x_sld (i + 1) (nI_add i 1) (by omega) (by omega) dL_law_947 ?_
  refine x_aload_n dL_law_948 rfl ?_
  refine x_iload_n dL_law_949 rfl ?_
  refine x_iconst (v := 2) dL_law_950 (by decide) ?_
  refine x_iadd dL_law_951 ?_
  refine x_sld (i + 2) (nI_add i 2) (by omega) (by omega) dL_law_952 ?_
  refine x_aload_n dL_law_953 rfl ?_
  refine x_iload_n dL_law_954 rfl ?_
  refine x_iconst (v := 3) dL_law_955 (by decide) ?_
  refine x_iadd dL_law_956 ?_
  refine x_sld (i + 3) (nI_add i 3) (by omega) (by omega) dL_law_957 ?_
  obtain ⟨fs, ho⟩ := hn1.o
  refine x_rdV (c_X12_keepers hn1) ho lkX12_keepers sL_107 dL_law_958 rfl rfl (Nat.le_of_ble_eq_true rfl) ⟨Nat.le_of_ble_eq_true rfl, Nat.le_of_ble_eq_true rfl⟩ ⟨rfl, rfl, (by show _ ≤ 600000; omega), (by show _ ≤ 7302250; omega)⟩ ?_
  refine x_icmp_eq_t 1663 dL_law_961 (by decide) rfl ?_
  refine x_widen (k' := k + 2) (n' := n + 42) (by omega) (by omega) ?_
  exact kk _ _ ⟨D, hx1, hn1, hD1⟩
set_option maxRecDepth 10000 in
set_option maxHeartbeats 2000000 in
theorem lc_home {g : gG} {nm : String} {b L : Nat} {xs : Nat → Int32} {h : gH} {x i k n : Nat} {S : AS} (hL : L ≤ 384) (hi : i + 6 ≤ L) (hI : LI h x S) (hk : k + 2 ≤ 600000) (hn' : n + 42 ≤ 7302250) (kk : ∀ h' S', LI h' x S' → Ex g (mLw nm) (lwZ g b L xs) 1663 [some (.ref b), some (.ref x), some (.ref (x + 50)), some (.int (nI i))] [] h' (k + 2) (n + 42)) : Ex g (mLw nm) (lwZ g b L xs) 966 [some (.ref b), some (.ref x), some (.ref (x + 50)), some (.int (nI i))] [] h k n := by
  obtain ⟨D, hx, hn, hD⟩ := hI
  refine x_aload_n dL_law_966 rfl ?_
  refine x_aload_n dL_law_967 rfl ?_
  refine x_iload_n dL_law_968 rfl ?_
  refine x_iconst (v := 1) dL_law_969 (by decide) ?_
  refine x_iadd dL_law_970 ?_
  refine x_sld (i + 1) (nI_add i 1) (by omega) (by omega) dL_law_971 ?_
  refine x_aload_n dL_law_972 rfl ?_
  refine x_iload_n dL_law_973 rfl ?_
  refine x_iconst (v := 2) dL_law_974 (by decide) ?_
  refine x_iadd dL_law_975 ?_
  refine x_sld (i + 2) (nI_add i 2) (by omega) (by omega) dL_law_976 ?_
  refine x_cvV (k' := k) (n' := n) (c_X11_home hx) hx.2.1 lkX11_home sL_108 dL_law_977 rfl rfl (Nat.le_of_ble_eq_true rfl) ⟨Nat.le_of_ble_eq_true rfl, Nat.le_of_ble_eq_true rfl⟩ ⟨rfl, rfl, (by show _ ≤ 600000; omega), (by show _ ≤ 7302250; omega)⟩ ?_
  rintro h1 ⟨hx1, F1⟩
  have hn1 := hn.px F1
  have hD1 := hD
  refine x_aload_n dL_law_980 rfl ?_
  refine x_aload_n dL_law_981 rfl ?_
  refine x_iload_n dL_law_982 rfl ?_
  refine x_iconst (v := 1) dL_law_983 (by decide) ?_
  refine x_iadd dL_law_984 ?_
  refine x_sld (i + 1) (nI_add i 1) (by omega) (by omega) dL_law_985 ?_
  refine x_aload_n dL_law_986 rfl ?_
  refine x_iload_n dL_law_987 rfl ?_
  refine x_iconst (v := 2) dL_law_988 (by decide) ?_
  refine x_iadd dL_law_989 ?_
  refine x_sld (i + 2) (nI_add i 2) (by omega) (by omega) dL_law_990 ?_
  obtain ⟨fs, ho⟩ := hn1.o
  refine x_cvV (k' := k) (n' := n) (c_X12_home hn1) ho lkX12_home sL_111 dL_law_991 rfl rfl (Nat.le_of_ble_eq_true rfl) ⟨Nat.le_of_ble_eq_true rfl, Nat.le_of_ble_eq_true rfl⟩ ⟨rfl, rfl, (by show _ ≤ 600000; omega), (by show _ ≤ 7302250; omega)⟩ ?_
  rintro h2 ⟨hn2, F2⟩
  have hx2 := hx1.fo hD1 F2
  refine x_icmp_eq_t 1663 dL_law_994 (by decide) rfl ?_
  refine x_widen (k' := k + 2) (n' := n + 42) (by omega) (by omega) ?_
  exact kk _ _ ⟨_, hx2, hn2, hD1⟩
set_option maxRecDepth 10000 in
set_option maxHeartbeats 2000000 in
theorem lc_within {g : gG} {nm : String} {b L : Nat} {xs : Nat → Int32} {h : gH} {x i k n : Nat} {S : AS} (hL : L ≤ 384) (hi : i + 6 ≤ L) (hI : LI h x S) (hk : k + 2 ≤ 600000) (hn' : n + 42 ≤ 7302250) (kk : ∀ h' S', LI h' x S' → Ex g (mLw nm) (lwZ g b L xs) 1663 [some (.ref b), some (.ref x), some (.ref (x + 50)), some (.int (nI i))] [] h' (k + 2) (n + 42)) : Ex g (mLw nm) (lwZ g b L xs) 999 [some (.ref b), some (.ref x), some (.ref (x + 50)), some (.int (nI i))] [] h k n := by
  obtain ⟨D, hx, hn, hD⟩ := hI
  refine x_aload_n dL_law_999 rfl ?_
  refine x_aload_n dL_law_1000 rfl ?_
  refine x_iload_n dL_law_1001 rfl ?_
  refine x_iconst (v := 1) dL_law_1002 (by decide) ?_
  refine x_iadd dL_law_1003 ?_
  refine x_sld (i + 1) (nI_add i 1) (by omega) (by omega) dL_law_1004 ?_
  refine x_aload_n dL_law_1005 rfl ?_
  refine x_iload_n dL_law_1006 rfl ?_
  refine x_iconst (v := 2) dL_law_1007 (by decide) ?_
  refine x_iadd dL_law_1008 ?_
  refine x_sld (i + 2) (nI_add i 2) (by omega) (by omega) dL_law_1009 ?_
  refine x_aload_n dL_law_1010 rfl ?_
  refine x_iload_n dL_law_1011 rfl ?_
  refine x_iconst (v := 3) dL_law_1012 (by decide) ?_
  refine x_iadd dL_law_1013 ?_
  refine x_sld (i + 3) (nI_add i 3) (by omega) (by omega) dL_law_1014 ?_
  refine x_aload_n dL_law_1015 rfl ?_
  refine x_iload_n dL_law_1016 rfl ?_
  refine x_iconst (v := 4) dL_law_1017 (by decide) ?_
  refine x_iadd dL_law_1018 ?_
  refine x_sld (i + 4) (nI_add i 4) (by omega) (by omega) dL_law_1019 ?_
  refine x_cvV (k' := k) (n' := n) (c_X11_within hx) hx.2.1 lkX11_within sL_112 dL_law_1020 rfl rfl (Nat.le_of_ble_eq_true rfl) ⟨Nat.le_of_ble_eq_true rfl, Nat.le_of_ble_eq_true rfl⟩ ⟨rfl, rfl, (by show _ ≤ 600000; omega), (by show _ ≤ 7302250; omega)⟩ ?_
  rintro h1 ⟨hx1, F1⟩
  have hn1 := hn.px F1
  have hD1 := hD
  refine x_aload_n dL_law_1023 rfl ?_
  refine x_aload_n dL_law_1024 rfl ?_
  refine x_iload_n dL_law_1025 rfl ?_
  refine x_iconst (v := 1) dL_law_1026 (by decide) ?_
  refine x_iadd dL_law_1027 ?_
  refine x_sld (i + 1) (nI_add i 1) (by omega) (by omega) dL_law_1028 ?_
  refine x_aload_n dL_law_1029 rfl ?_
  refine x_iload_n dL_law_1030 rfl ?_
  refine x_iconst (v := 2) dL_law_1031 (by decide) ?_
  refine x_iadd dL_law_1032 ?_
  refine x_sld (i + 2) (nI_add i 2) (by omega) (by omega) dL_law_1033 ?_
  refine x_aload_n dL_law_1034 rfl ?_
  refine x_iload_n dL_law_1035 rfl ?_
  refine x_iconst (v := 3) dL_law_1036 (by decide) ?_
  refine x_iadd dL_law_1037 ?_
  refine x_sld (i + 3) (nI_add i 3) (by omega) (by omega) dL_law_1038 ?_
  refine x_aload_n dL_law_1039 rfl ?_
  refine x_iload_n dL_law_1040 rfl ?_
  refine x_iconst (v := 4) dL_law_1041 (by decide) ?_
  refine x_iadd dL_law_1042 ?_
  refine x_sld (i + 4) (nI_add i 4) (by omega) (by omega) dL_law_1043 ?_
  obtain ⟨fs, ho⟩ := hn1.o
  refine x_cvV (k' := k) (n' := n) (c_X12_within hn1) ho lkX12_within sL_116 dL_law_1044 rfl rfl (Nat.le_of_ble_eq_true rfl) ⟨Nat.le_of_ble_eq_true rfl, Nat.le_of_ble_eq_true rfl⟩ ⟨rfl, rfl, (by show _ ≤ 600000; omega), (by show _ ≤ 7302250; omega)⟩ ?_
  rintro h2 ⟨hn2, F2⟩
  have hx2 := hx1.fo hD1 F2
  refine x_lcmp dL_law_1047 ?_
  refine x_if_eq_t 1663 dL_law_1048 (by decide) (lcmp_s _) ?_
  refine x_widen (k' := k + 2) (n' := n + 42) (by omega) (by omega) ?_
  exact kk _ _ ⟨_, hx2, hn2, hD1⟩
set_option maxRecDepth 10000 in
set_option maxHeartbeats 2000000 in
theorem lc_seek {g : gG} {nm : String} {b L : Nat} {xs : Nat → Int32} {h : gH} {x i k n : Nat} {S : AS} (hL : L ≤ 384) (hi : i + 6 ≤ L) (hI : LI h x S) (hk : k + 2 ≤ 600000) (hn' : n + 42 ≤ 7302250) (kk : ∀ h' S', LI h' x S' → Ex g (mLw nm) (lwZ g b L xs) 1663 [some (.ref b), some (.ref x), some (.ref (x + 50)), some (.int (nI i))] [] h' (k + 2) (n + 42)) : Ex g (mLw nm) (lwZ g b L xs) 1053 [some (.ref b), some (.ref x), some (.ref (x + 50)), some (.int (nI i))] [] h k n := by
  obtain ⟨D, hx, hn, hD⟩ := hI
  refine x_aload_n dL_law_1053 rfl ?_
  refine x_aload_n dL_law_1054 rfl ?_
  refine x_iload_n dL_law_1055 rfl ?_
  refine x_iconst (v := 1) dL_law_1056 (by decide) ?_
  refine x_iadd dL_law_1057 ?_
  refine x_sld (i + 1) (nI_add i 1) (by omega) (by omega) dL_law_1058 ?_
  refine x_cvV (k' := k) (n' := n) (c_X11_seek hx) hx.2.1 lkX11_seek sL_117 dL_law_1059 rfl rfl (Nat.le_of_ble_eq_true rfl) ⟨Nat.le_of_ble_eq_true rfl, Nat.le_of_ble_eq_true rfl⟩ ⟨rfl, rfl, (by show _ ≤ 600000; omega), (by show _ ≤ 7302250; omega)⟩ ?_
  rintro h1 ⟨hx1, F1⟩
  have hn1 := hn.px F1
  have hD1 := hD
  refine x_aload_n dL_law_1062 rfl ?_
  refine x_aload_n dL_law_1063 rfl ?_
  refine x_iload_n dL_law_1064 rfl ?_
  refine x_iconst (v := 1) dL_law_1065 (by decide) ?_
  refine x_iadd dL_law_1066 ?_
  refine x_sld (i + 1) (nI_add i 1) (by omega) (by omega) dL_law_1067 ?_
  obtain ⟨fs, ho⟩ := hn1.o
  refine x_cvV (k' := k) (n' := n) (c_X12_seek hn1) ho lkX12_seek sL_120 dL_law_1068 rfl rfl (Nat.le_of_ble_eq_true rfl) ⟨Nat.le_of_ble_eq_true rfl, Nat.le_of_ble_eq_true rfl⟩ ⟨rfl, rfl, (by show _ ≤ 600000; omega), (by show _ ≤ 7302250; omega)⟩ ?_
  rintro h2 ⟨hn2, F2⟩
  have hx2 := hx1.fo hD1 F2
  refine x_icmp_eq_t 1663 dL_law_1071 (by decide) rfl ?_
  refine x_widen (k' := k + 2) (n' := n + 42) (by omega) (by omega) ?_
  exact kk _ _ ⟨_, hx2, hn2, hD1⟩
set_option maxRecDepth 10000 in
set_option maxHeartbeats 2000000 in
theorem lc_rule {g : gG} {nm : String} {b L : Nat} {xs : Nat → Int32} {h : gH} {x i k n : Nat} {S : AS} (hL : L ≤ 384) (hi : i + 6 ≤ L) (hI : LI h x S) (hk : k + 2 ≤ 600000) (hn' : n + 42 ≤ 7302250) (kk : ∀ h' S', LI h' x S' → Ex g (mLw nm) (lwZ g b L xs) 1663 [some (.ref b), some (.ref x), some (.ref (x + 50)), some (.int (nI i))] [] h' (k + 2) (n + 42)) : Ex g (mLw nm) (lwZ g b L xs) 1076 [some (.ref b), some (.ref x), some (.ref (x + 50)), some (.int (nI i))] [] h k n := by
  obtain ⟨D, hx, hn, hD⟩ := hI
  refine x_aload_n dL_law_1076 rfl ?_
  refine x_aload_n dL_law_1077 rfl ?_
  refine x_iload_n dL_law_1078 rfl ?_
  refine x_iconst (v := 1) dL_law_1079 (by decide) ?_
  refine x_iadd dL_law_1080 ?_
  refine x_sld (i + 1) (nI_add i 1) (by omega) (by omega) dL_law_1081 ?_
  refine x_aload_n dL_law_1082 rfl ?_
  refine x_iload_n dL_law_1083 rfl ?_
  refine x_iconst (v := 2) dL_law_1084 (by decide) ?_
  refine x_iadd dL_law_1085 ?_
  refine x_sld (i + 2) (nI_add i 2) (by omega) (by omega) dL_law_1086 ?_
  refine x_cvV (k' := k) (n' := n) (c_X11_rule hx) hx.2.1 lkX11_rule sL_121 dL_law_1087 rfl rfl (Nat.le_of_ble_eq_true rfl) ⟨Nat.le_of_ble_eq_true rfl, Nat.le_of_ble_eq_true rfl⟩ ⟨rfl, rfl, (by show _ ≤ 600000; omega), (by show _ ≤ 7302250; omega)⟩ ?_
  rintro h1 ⟨hx1, F1⟩
  have hn1 := hn.px F1
  have hD1 := hD
  refine x_aload_n dL_law_1090 rfl ?_
  refine x_aload_n dL_law_1091 rfl ?_
  refine x_iload_n dL_law_1092 rfl ?_
  refine x_iconst (v := 1) dL_law_1093 (by decide) ?_
  refine x_iadd dL_law_1094 ?_
  refine x_sld (i + 1) (nI_add i 1) (by omega) (by omega) dL_law_1095 ?_
  refine x_aload_n dL_law_1096 rfl ?_
  refine x_iload_n dL_law_1097 rfl ?_
  refine x_iconst (v := 2) dL_law_1098 (by decide) ?_
  refine x_iadd dL_law_1099 ?_
  refine x_sld (i + 2) (nI_add i 2) (by omega) (by omega) dL_law_1100 ?_
  obtain ⟨fs, ho⟩ := hn1.o
  refine x_cvV (k' := k) (n' := n) (c_X12_rule hn1) ho lkX12_rule sL_124 dL_law_1101 rfl rfl (Nat.le_of_ble_eq_true rfl) ⟨Nat.le_of_ble_eq_true rfl, Nat.le_of_ble_eq_true rfl⟩ ⟨rfl, rfl, (by show _ ≤ 600000; omega), (by show _ ≤ 7302250; omega)⟩ ?_
  rintro h2 ⟨hn2, F2⟩
  have hx2 := hx1.fo hD1 F2
  refine x_icmp_eq_t 1663 dL_law_1104 (by decide) rfl ?_
  refine x_widen (k' := k + 2) (n' := n + 42) (by omega) (by omega) ?_
  exact kk _ _ ⟨_, hx2, hn2, hD1⟩
set_option maxRecDepth 10000 in
set_option maxHeartbeats 2000000 in
theorem lc_ruleOf {g : gG} {nm : String} {b L : Nat} {xs : Nat → Int32} {h : gH} {x i k n : Nat} {S : AS} (hL : L ≤ 384) (hi : i + 6 ≤ L) (hI : LI h x S) (hk : k + 2 ≤ 600000) (hn' : n + 42 ≤ 7302250) (kk : ∀ h' S', LI h' x S' → Ex g (mLw nm) (lwZ g b L xs) 1663 [some (.ref b), some (.ref x), some (.ref (x + 50)), some (.int (nI i))] [] h' (k + 2) (n + 42)) : Ex g (mLw nm) (lwZ g b L xs) 1109 [some (.ref b), some (.ref x), some (.ref (x + 50)), some (.int (nI i))] [] h k n := by
  obtain ⟨D, hx, hn, hD⟩ := hI
  refine x_aload_n dL_law_1109 rfl ?_
  refine x_aload_n dL_law_1110 rfl ?_
  refine x_iload_n dL_law_1111 rfl ?_
  refine x_iconst (v := 1) dL_law_1112 (by decide) ?_
  refine x_iadd dL_law_1113 ?_
  refine x_sld (i + 1) (nI_add i 1) (by omega) (by omega) dL_law_1114 ?_
  refine x_aload_n dL_law_1115 rfl ?_
  refine x_iload_n dL_law_1116 rfl ?_
  refine x_iconst (v := 2) dL_law_1117 (by decide) ?_
  refine x_iadd dL_law_1118 ?_
  refine x_sld (i + 2) (nI_add i 2) (by omega) (by omega) dL_law_1119 ?_
  refine x_rdV (c_X11_ruleOf hx) hx.2.1 lkX11_ruleOf sL_125 dL_law_1120 rfl rfl (Nat.le_of_ble_eq_true rfl) ⟨Nat.le_of_ble_eq_true rfl, Nat.le_of_ble_eq_true rfl⟩ ⟨rfl, rfl, (by show _ ≤ 600000; omega), (by show _ ≤ 7302250; omega)⟩ ?_
  refine x_aload_n dL_law_1123 rfl ?_
  refine x_aload_n dL_law_1124 rfl ?_
  refine x_iload_n dL_law_1125 rfl ?_
  refine x_iconst (v := 1) dL_law_1126 (by decide) ?_
  refine x_iadd dL_law_1127 ?_
  refine x_sld (i + 1) (nI_add i 1) (by omega) (by omega) dL_law_1128 ?_
  refine x_aload_n dL_law_1129 rfl ?_
  refine x_iload_n dL_law_1130 rfl ?_
  refine x_iconst (v := 2) dL_law_1131 (by decide) ?_
  refine x_iadd dL_law_1132 ?_
  refine x_sld (i + 2) (nI_add i 2) (by omega) (by omega) dL_law_1133 ?_
  obtain ⟨fs, ho⟩ := hn.o
  refine x_rdV (c_X12_ruleOf hn) ho lkX12_ruleOf sL_128 dL_law_1134 rfl rfl (Nat.le_of_ble_eq_true rfl) ⟨Nat.le_of_ble_eq_true rfl, Nat.le_of_ble_eq_true rfl⟩ ⟨rfl, rfl, (by show _ ≤ 600000; omega), (by show _ ≤ 7302250; omega)⟩ ?_
  refine x_icmp_eq_t 1663 dL_law_1137 (by decide) rfl ?_
  refine x_widen (k' := k + 2) (n' := n + 42) (by omega) (by omega) ?_
  exact kk _ _ ⟨D, hx, hn, hD⟩
set_option maxRecDepth 10000 in
set_option maxHeartbeats 2000000 in
theorem lc_does {g : gG} {nm : String} {b L : Nat} {xs : Nat → Int32} {h : gH} {x i k n : Nat} {S : AS} (hL : L ≤ 384) (hi : i + 6 ≤ L) (hI : LI h x S) (hk : k + 2 ≤ 600000) (hn' : n + 42 ≤ 7302250) (kk : ∀ h' S', LI h' x S' → Ex g (mLw nm) (lwZ g b L xs) 1663 [some (.ref b), some (.ref x), some (.ref (x + 50)), some (.int (nI i))] [] h' (k + 2) (n + 42)) : Ex g (mLw nm) (lwZ g b L xs) 1142 [some (.ref b), some (.ref x), some (.ref (x + 50)), some (.int (nI i))] [] h k n := by
  obtain ⟨D, hx, hn, hD⟩ := hI
  refine x_aload_n dL_law_1142 rfl ?_
  refine x_aload_n dL_law_1143 rfl ?_
  refine x_iload_n dL_law_1144 rfl ?_
  refine x_iconst (v := 1) dL_law_1145 (by decide) ?_
  refine x_iadd dL_law_1146 ?_
  refine x_sld (i + 1) (nI_add i 1) (by omega) (by omega) dL_law_1147 ?_
  refine x_aload_n dL_law_1148 rfl ?_
  refine x_iload_n dL_law_1149 rfl ?_
  refine x_iconst (v := 2) dL_law_1150 (by decide) ?_
  refine x_iadd dL_law_1151 ?_
  refine x_sld (i + 2) (nI_add i 2) (by omega) (by omega) dL_law_1152 ?_
  refine x_cvV (k' := k) (n' := n) (c_X11_does hx) hx.2.1 lkX11_does sL_129 dL_law_1153 rfl rfl (Nat.le_of_ble_eq_true rfl) ⟨Nat.le_of_ble_eq_true rfl, Nat.le_of_ble_eq_true rfl⟩ ⟨rfl, rfl, (by show _ ≤ 600000; omega), (by show _ ≤ 7302250; omega)⟩ ?_
  rintro h1 ⟨hx1, F1⟩
  have hn1 := hn.px F1
  have hD1 := hD
  refine x_aload_n dL_law_1156 rfl ?_
  refine x_aload_n dL_law_1157 rfl ?_
  refine x_iload_n dL_law_1158 rfl ?_
  refine x_iconst (v := 1) dL_law_1159 (by decide) ?_
  refine x_iadd dL_law_1160 ?_
  refine x_sld (i + 1) (nI_add i 1) (by omega) (by omega) dL_law_1161 ?_
  refine x_aload_n dL_law_1162 rfl ?_
  refine x_iload_n dL_law_1163 rfl ?_
  refine x_iconst (v := 2) dL_law_1164 (by decide) ?_
  refine x_iadd dL_law_1165 ?_
  refine x_sld (i + 2) (nI_add i 2) (by omega) (by omega) dL_law_1166 ?_
  obtain ⟨fs, ho⟩ := hn1.o
  refine x_cvV (k' := k) (n' := n) (c_X12_does hn1) ho lkX12_does sL_132 dL_law_1167 rfl rfl (Nat.le_of_ble_eq_true rfl) ⟨Nat.le_of_ble_eq_true rfl, Nat.le_of_ble_eq_true rfl⟩ ⟨rfl, rfl, (by show _ ≤ 600000; omega), (by show _ ≤ 7302250; omega)⟩ ?_
  rintro h2 ⟨hn2, F2⟩
  have hx2 := hx1.fo hD1 F2
  refine x_icmp_eq_t 1663 dL_law_1170 (by decide) rfl ?_
  refine x_widen (k' := k + 2) (n' := n + 42) (by omega) (by omega) ?_
  exact kk _ _ ⟨_, hx2, hn2, hD1⟩
set_option maxRecDepth 10000 in
set_option maxHeartbeats 2000000 in
theorem lc_goes {g : gG} {nm : String} {b L : Nat} {xs : Nat → Int32} {h : gH} {x i k n : Nat} {S : AS} (hL : L ≤ 384) (hi : i + 6 ≤ L) (hI : LI h x S) (hk : k + 2 ≤ 600000) (hn' : n + 42 ≤ 7302250) (kk : ∀ h' S', LI h' x S' → Ex g (mLw nm) (lwZ g b L xs) 1663 [some (.ref b), some (.ref x), some (.ref (x + 50)), some (.int (nI i))] [] h' (k + 2) (n + 42)) : Ex g (mLw nm) (lwZ g b L xs) 1175 [some (.ref b), some (.ref x), some (.ref (x + 50)), some (.int (nI i))] [] h k n := by
  obtain ⟨D, hx, hn, hD⟩ := hI
  refine x_aload_n dL_law_1175 rfl ?_
  refine x_aload_n dL_law_1176 rfl ?_
  refine x_iload_n dL_law_1177 rfl ?_
  refine x_iconst (v := 1) dL_law_1178 (by decide) ?_
  refine x_iadd dL_law_1179 ?_
  refine x_sld (i + 1) (nI_add i 1) (by omega) (by omega) dL_law_1180 ?_
  refine x_aload_n dL_law_1181 rfl ?_
  refine x_iload_n dL_law_1182 rfl ?_
  refine x_iconst (v := 2) dL_law_1183 (by decide) ?_
  refine x_iadd dL_law_1184 ?_
  refine x_sld (i + 2) (nI_add i 2) (by omega) (by omega) dL_law_1185 ?_
  refine x_cvV (k' := k) (n' := n) (c_X11_goes hx) hx.2.1 lkX11_goes sL_133 dL_law_1186 rfl rfl (Nat.le_of_ble_eq_true rfl) ⟨Nat.le_of_ble_eq_true rfl, Nat.le_of_ble_eq_true rfl⟩ ⟨rfl, rfl, (by show _ ≤ 600000; omega), (by show _ ≤ 7302250; omega)⟩ ?_
  rintro h1 ⟨hx1, F1⟩
  have hn1 := hn.px F1
  have hD1 := hD
  refine x_aload_n dL_law_1189 rfl ?_
  refine x_aload_n dL_law_1190 rfl ?_
  refine x_iload_n dL_law_1191 rfl ?_
  refine x_iconst (v := 1) dL_law_1192 (by decide) ?_
  refine x_iadd dL_law_1193 ?_
  refine x_sld (i + 1) (nI_add i 1) (by omega) (by omega) dL_law_1194 ?_
  refine x_aload_n dL_law_1195 rfl ?_
  refine x_iload_n dL_law_1196 rfl ?_
  refine x_iconst (v := 2) dL_law_1197 (by decide) ?_
  refine x_iadd dL_law_1198 ?_
  refine x_sld (i + 2) (nI_add i 2) (by omega) (by omega) dL_law_1199 ?_
  obtain ⟨fs, ho⟩ := hn1.o
  refine x_cvV (k' := k) (n' := n) (c_X12_goes hn1) ho lkX12_goes sL_136 dL_law_1200 rfl rfl (Nat.le_of_ble_eq_true rfl) ⟨Nat.le_of_ble_eq_true rfl, Nat.le_of_ble_eq_true rfl⟩ ⟨rfl, rfl, (by show _ ≤ 600000; omega), (by show _ ≤ 7302250; omega)⟩ ?_
  rintro h2 ⟨hn2, F2⟩
  have hx2 := hx1.fo hD1 F2
  refine x_icmp_eq_t 1663 dL_law_1203 (by decide) rfl ?_
  refine x_widen (k' := k + 2) (n' := n + 42) (by omega) (by omega) ?_
  exact kk _ _ ⟨_, hx2, hn2, hD1⟩
set_option maxRecDepth 10000 in
set_option maxHeartbeats 2000000 in
theorem lc_prove {g : gG} {nm : String} {b L : Nat} {xs : Nat → Int32} {h : gH} {x i k n : Nat} {S : AS} (hL : L ≤ 384) (hi : i + 6 ≤ L) (hI : LI h x S) (hk : k + 2 ≤ 600000) (hn' : n + 42 ≤ 7302250) (kk : ∀ h' S', LI h' x S' → Ex g (mLw nm) (lwZ g b L xs) 1663 [some (.ref b), some (.ref x), some (.ref (x + 50)), some (.int (nI i))] [] h' (k + 2) (n + 42)) : Ex g (mLw nm) (lwZ g b L xs) 1208 [some (.ref b), some (.ref x), some (.ref (x + 50)), some (.int (nI i))] [] h k n := by
  obtain ⟨D, hx, hn, hD⟩ := hI
  refine x_aload_n dL_law_1208 rfl ?_
  refine x_aload_n dL_law_1209 rfl ?_
  refine x_iload_n dL_law_1210 rfl ?_
  refine x_iconst (v := 1) dL_law_1211 (by decide) ?_
  refine x_iadd dL_law_1212 ?_
  refine x_sld (i + 1) (nI_add i 1) (by omega) (by omega) dL_law_1213 ?_
  refine x_cvV (k' := k) (n' := n) (c_X11_prove hx) hx.2.1 lkX11_prove sL_137 dL_law_1214 rfl rfl (Nat.le_of_ble_eq_true rfl) ⟨Nat.le_of_ble_eq_true rfl, Nat.le_of_ble_eq_true rfl⟩ ⟨rfl, rfl, (by show _ ≤ 600000; omega), (by show _ ≤ 7302250; omega)⟩ ?_
  rintro h1 ⟨hx1, F1⟩
  have hn1 := hn.px F1
  have hD1 := hD
  refine x_aload_n dL_law_1217 rfl ?_
  refine x_aload_n dL_law_1218 rfl ?_
  refine x_iload_n dL_law_1219 rfl ?_
  refine x_iconst (v := 1) dL_law_1220 (by decide) ?_
  refine x_iadd dL_law_1221 ?_
  refine x_sld (i + 1) (nI_add i 1) (by omega) (by omega) dL_law_1222 ?_
  obtain ⟨fs, ho⟩ := hn1.o
  refine x_cvV (k' := k) (n' := n) (c_X12_prove hn1) ho lkX12_prove sL_140 dL_law_1223 rfl rfl (Nat.le_of_ble_eq_true rfl) ⟨Nat.le_of_ble_eq_true rfl, Nat.le_of_ble_eq_true rfl⟩ ⟨rfl, rfl, (by show _ ≤ 600000; omega), (by show _ ≤ 7302250; omega)⟩ ?_
  rintro h2 ⟨hn2, F2⟩
  have hx2 := hx1.fo hD1 F2
  refine x_icmp_eq_t 1663 dL_law_1226 (by decide) rfl ?_
  refine x_widen (k' := k + 2) (n' := n + 42) (by omega) (by omega) ?_
  exact kk _ _ ⟨_, hx2, hn2, hD1⟩
set_option maxRecDepth 10000 in
set_option maxHeartbeats 2000000 in
theorem lc_row {g : gG} {nm : String} {b L : Nat} {xs : Nat → Int32} {h : gH} {x i k n : Nat} {S : AS} (hL : L ≤ 384) (hi : i + 6 ≤ L) (hI : LI h x S) (hk : k + 2 ≤ 600000) (hn' : n + 42 ≤ 7302250) (kk : ∀ h' S', LI h' x S' → Ex g (mLw nm) (lwZ g b L xs) 1663 [some (.ref b), some (.ref x), some (.ref (x + 50)), some (.int (nI i))] [] h' (k + 2) (n + 42)) : Ex g (mLw nm) (lwZ g b L xs) 1231 [some (.ref b), some (.ref x), some (.ref (x + 50)), some (.int (nI i))] [] h k n := by
  obtain ⟨D, hx, hn, hD⟩ := hI
  refine x_aload_n dL_law_1231 rfl ?_
  refine x_aload_n dL_law_1232 rfl ?_
  refine x_iload_n dL_law_1233 rfl ?_
  refine x_iconst (v := 1) dL_law_1234 (by decide) ?_
  refine x_iadd dL_law_1235 ?_
  refine x_sld (i + 1) (nI_add i 1) (by omega) (by omega) dL_law_1236 ?_
  refine x_aload_n dL_law_1237 rfl ?_
  refine x_iload_n dL_law_1238 rfl ?_
  refine x_iconst (v := 2) dL_law_1239 (by decide) ?_
  refine x_iadd dL_law_1240 ?_
  refine x_sld (i + 2) (nI_add i 2) (by omega) (by omega) dL_law_1241 ?_
  refine x_rdV (c_X11_row hx) hx.2.1 lkX11_row sL_141 dL_law_1242 rfl rfl (Nat.le_of_ble_eq_true rfl) ⟨Nat.le_of_ble_eq_true rfl, Nat.le_of_ble_eq_true rfl⟩ ⟨rfl, rfl, (by show _ ≤ 600000; omega), (by show _ ≤ 7302250; omega)⟩ ?_
  refine x_aload_n dL_law_1245 rfl ?_
  refine x_aload_n dL_law_1246 rfl ?_
  refine x_iload_n dL_law_1247 rfl ?_
  refine x_iconst (v := 1) dL_law_1248 (by decide) ?_
  refine x_iadd dL_law_1249 ?_
  refine x_sld (i + 1) (nI_add i 1) (by omega) (by omega) dL_law_1250 ?_
  refine x_aload_n dL_law_1251 rfl ?_
  refine x_iload_n dL_law_1252 rfl ?_
  refine x_iconst (v := 2) dL_law_1253 (by decide) ?_
  refine x_iadd dL_law_1254 ?_
  refine x_sld (i + 2) (nI_add i 2) (by omega) (by omega) dL_law_1255 ?_
  obtain ⟨fs, ho⟩ := hn.o
  refine x_rdV (c_X12_row hn) ho lkX12_row sL_144 dL_law_1256 rfl rfl (Nat.le_of_ble_eq_true rfl) ⟨Nat.le_of_ble_eq_true rfl, Nat.le_of_ble_eq_true rfl⟩ ⟨rfl, rfl, (by show _ ≤ 600000; omega), (by show _ ≤ 7302250; omega)⟩ ?_
  refine x_icmp_eq_t 1663 dL_law_1259 (by decide) rfl ?_
  refine x_widen (k' := k + 2) (n' := n + 42) (by omega) (by omega) ?_
  exact kk _ _ ⟨D, hx, hn, hD⟩
set_option maxRecDepth 10000 in
set_option maxHeartbeats 2000000 in
theorem lc_alterRow {g : gG} {nm : String} {b L : Nat} {xs : Nat → Int32} {h : gH} {x i k n : Nat} {S : AS} (hL : L ≤ 384) (hi : i + 6 ≤ L) (hI : LI h x S) (hk : k + 2 ≤ 600000) (hn' : n + 42 ≤ 7302250) (kk : ∀ h' S', LI h' x S' → Ex g (mLw nm) (lwZ g b L xs) 1663 [some (.ref b), some (.ref x), some (.ref (x + 50)), some (.int (nI i))] [] h' (k + 2) (n + 42)) : Ex g (mLw nm) (lwZ g b L xs) 1264 [some (.ref b), some (.ref x), some (.ref (x + 50)), some (.int (nI i))] [] h k n := by
  obtain ⟨D, hx, hn, hD⟩ := hI
  refine x_aload_n dL_law_1264 rfl ?_
  refine x_aload_n dL_law_1265 rfl ?_
  refine x_iload_n dL_law_1266 rfl ?_
  refine x_iconst (v := 1) dL_law_1267 (by decide) ?_
  refine x_iadd dL_law_1268 ?_
  refine x_sld (i + 1) (nI_add i 1) (by omega) (by omega) dL_law_1269 ?_
  refine x_aload_n dL_law_1270 rfl ?_
  refine x_iload_n dL_law_1271 rfl ?_
  refine x_iconst (v := 2) dL_law_1272 (by decide) ?_
  refine x_iadd dL_law_1273 ?_
  refine x_sld (i + 2) (nI_add i 2) (by omega) (by omega) dL_law_1274 ?_
  refine x_aload_n dL_law_1275 rfl ?_
  refine x_iload_n dL_law_1276 rfl ?_
  refine x_iconst (v := 3) dL_law_1277 (by decide) ?_
  refine x_iadd dL_law_1278 ?_
  refine x_sld (i + 3) (nI_add i 3) (by omega) (by omega) dL_law_1279 ?_
  refine x_cvV (k' := k) (n' := n) (c_X11_alterRow hx) hx.2.1 lkX11_alterRow sL_145 dL_law_1280 rfl rfl (Nat.le_of_ble_eq_true rfl) ⟨Nat.le_of_ble_eq_true rfl, Nat.le_of_ble_eq_true rfl⟩ ⟨rfl, rfl, (by show _ ≤ 600000; omega), (by show _ ≤ 7302250; omega)⟩ ?_
  rintro h1 ⟨hx1, F1⟩
  have hn1 := hn.px F1
  have hD1 := hD
  refine x_aload_n dL_law_1283 rfl ?_
  refine x_aload_n dL_law_1284 rfl ?_
  refine x_iload_n dL_law_1285 rfl ?_
  refine x_iconst (v := 1) dL_law_1286 (by decide) ?_
  refine x_iadd dL_law_1287 ?_
  refine x_sld (i + 1) (nI_add i 1) (by omega) (by omega) dL_law_1288 ?_
  refine x_aload_n dL_law_1289 rfl ?_
  refine x_iload_n dL_law_1290 rfl ?_
  refine x_iconst (v := 2) dL_law_1291 (by decide) ?_
  refine x_iadd dL_law_1292 ?_
  refine x_sld (i + 2) (nI_add i 2) (by omega) (by omega) dL_law_1293 ?_
  refine x_aload_n dL_law_1294 rfl ?_
  refine x_iload_n dL_law_1295 rfl ?_
  refine x_iconst (v := 3) dL_law_1296 (by decide) ?_
  refine x_iadd dL_law_1297 ?_
  refine x_sld (i + 3) (nI_add i 3) (by omega) (by omega) dL_law_1298 ?_
  obtain ⟨fs, ho⟩ := hn1.o
  refine x_cvV (k' := k) (n' := n) (c_X12_alterRow hn1) ho lkX12_alterRow sL_148 dL_law_1299 rfl rfl (Nat.le_of_ble_eq_true rfl) ⟨Nat.le_of_ble_eq_true rfl, Nat.le_of_ble_eq_true rfl⟩ ⟨rfl, rfl, (by show _ ≤ 600000; omega), (by show _ ≤ 7302250; omega)⟩ ?_
  rintro h2 ⟨hn2, F2⟩
  have hx2 := hx1.fo hD1 F2
  refine x_icmp_eq_t 1663 dL_law_1302 (by decide) rfl ?_
  refine x_widen (k' := k + 2) (n' := n + 42) (by omega) (by omega) ?_
  exact kk _ _ ⟨_, hx2, hn2, hD1⟩
set_option maxRecDepth 10000 in
set_option maxHeartbeats 2000000 in
theorem lc_judge {g : gG} {nm : String} {b L : Nat} {xs : Nat → Int32} {h : gH} {x i k n : Nat} {S : AS} (hL : L ≤ 384) (hi : i + 6 ≤ L) (hI : LI h x S) (hk : k + 2 ≤ 600000) (hn' : n + 42 ≤ 7302250) (kk : ∀ h' S', LI h' x S' → Ex g (mLw nm) (lwZ g b L xs) 1663 [some (.ref b), some (.ref x), some (.ref (x + 50)), some (.int (nI i))] [] h' (k + 2) (n + 42)) : Ex g (mLw nm) (lwZ g b L xs) 1307 [some (.ref b), some (.ref x), some (.ref (x + 50)), some (.int (nI i))] [] h k n := by
  obtain ⟨D, hx, hn, hD⟩ := hI
  refine x_aload_n dL_law_1307 rfl ?_
  refine x_cvV (k' := k) (n' := n) (c_X11_judge hx) hx.2.1 lkX11_judge sL_149 dL_law_1308 rfl rfl (Nat.le_of_ble_eq_true rfl) ⟨Nat.le_of_ble_eq_true rfl, Nat.le_of_ble_eq_true rfl⟩ ⟨rfl, rfl, (by show _ ≤ 600000; omega), (by show _ ≤ 7302250; omega)⟩ ?_
  rintro h1 ⟨hx1, F1⟩
  have hn1 := hn.px F1
  have hD1 := hD
  refine x_aload_n dL_law_1311 rfl ?_
  obtain ⟨fs, ho⟩ := hn1.o
  refine x_cvV (k' := k) (n' := n) (c_X12_judge hn1) ho lkX12_judge sL_152 dL_law_1312 rfl rfl (Nat.le_of_ble_eq_true rfl) ⟨Nat.le_of_ble_eq_true rfl, Nat.le_of_ble_eq_true rfl⟩ ⟨rfl, rfl, (by show _ ≤ 600000; omega), (by show _ ≤ 7302250; omega)⟩ ?_
  rintro h2 ⟨hn2, F2⟩
  have hx2 := hx1.fo hD1 F2
  refine x_icmp_eq_t 1663 dL_law_1315 (by decide) rfl ?_
  refine x_widen (k' := k + 2) (n' := n + 42) (by omega) (by omega) ?_
  exact kk _ _ ⟨_, hx2, hn2, hD1⟩
set_option maxRecDepth 10000 in
set_option maxHeartbeats 2000000 in
theorem lc_lays {g : gG} {nm : String} {b L : Nat} {xs : Nat → Int32} {h : gH} {x i k n : Nat} {S : AS} (hL : L ≤ 384) (hi : i + 6 ≤ L) (hI : LI h x S) (hk : k + 2 ≤ 600000) (hn' : n + 42 ≤ 7302250) (kk : ∀ h' S', LI h' x S' → Ex g (mLw nm) (lwZ g b L xs) 1663 [some (.ref b), some (.ref x), some (.ref (x + 50)), some (.int (nI i))] [] h' (k + 2) (n + 42)) : Ex g (mLw nm) (lwZ g b L xs) 1320 [some (.ref b), some (.ref x), some (.ref (x + 50)), some (.int (nI i))] [] h k n := by
  obtain ⟨D, hx, hn, hD⟩ := hI
  refine x_aload_n dL_law_1320 rfl ?_
  refine x_aload_n dL_law_1321 rfl ?_
  refine x_iload_n dL_law_1322 rfl ?_
  refine x_iconst (v := 1) dL_law_1323 (by decide) ?_
  refine x_iadd dL_law_1324 ?_
  refine x_sld (i + 1) (nI_add i 1) (by omega) (by omega) dL_law_1325 ?_
  refine x_cvV (k' := k) (n' := n) (c_X11_lays hx) hx.2.1 lkX11_lays sL_153 dL_law_1326 rfl rfl (Nat.le_of_ble_eq_true rfl) ⟨Nat.le_of_ble_eq_true rfl, Nat.le_of_ble_eq_true rfl⟩ ⟨rfl, rfl, (by show _ ≤ 600000; omega), (by show _ ≤ 7302250; omega)⟩ ?_
  rintro h1 ⟨hx1, F1⟩
  have hn1 := hn.px F1
  have hD1 := hD
  refine x_aload_n dL_law_1329 rfl ?_
  refine x_aload_n dL_law_1330 rfl ?_
  refine x_iload_n dL_law_1331 rfl ?_
  refine x_iconst (v := 1) dL_law_1332 (by decide) ?_
  refine x_iadd dL_law_1333 ?_
  refine x_sld (i + 1) (nI_add i 1) (by omega) (by omega) dL_law_1334 ?_
  obtain ⟨fs, ho⟩ := hn1.o
  refine x_cvV (k' := k) (n' := n) (c_X12_lays hn1) ho lkX12_lays sL_156 dL_law_1335 rfl rfl (Nat.le_of_ble_eq_true rfl) ⟨Nat.le_of_ble_eq_true rfl, Nat.le_of_ble_eq_true rfl⟩ ⟨rfl, rfl, (by show _ ≤ 600000; omega), (by show _ ≤ 7302250; omega)⟩ ?_
  rintro h2 ⟨hn2, F2⟩
  have hx2 := hx1.fo hD1 F2
  refine x_icmp_eq_t 1663 dL_law_1338 (by decide) rfl ?_
  refine x_widen (k' := k + 2) (n' := n + 42) (by omega) (by omega) ?_
  exact kk _ _ ⟨_, hx2, hn2, hD1⟩
set_option maxRecDepth 10000 in
set_option maxHeartbeats 2000000 in
theorem lc_sheet {g : gG} {nm : String} {b L : Nat} {xs : Nat → Int32} {h : gH} {x i k n : Nat} {S : AS} (hL : L ≤ 384) (hi : i + 6 ≤ L) (hI : LI h x S) (hk : k + 2 ≤ 600000) (hn' : n + 42 ≤ 7302250) (kk : ∀ h' S', LI h' x S' → Ex g (mLw nm) (lwZ g b L xs) 1663 [some (.ref b), some (.ref x), some (.ref (x + 50)), some (.int (nI i))] [] h' (k + 2) (n + 42)) : Ex g (mLw nm) (lwZ g b L xs) 1343 [some (.ref b), some (.ref x), some (.ref (x + 50)), some (.int (nI i))] [] h k n := by
  obtain ⟨D, hx, hn, hD⟩ := hI
  refine x_aload_n dL_law_1343 rfl ?_
  refine x_aload_n dL_law_1344 rfl ?_
  refine x_iload_n dL_law_1345 rfl ?_
  refine x_iconst (v := 1) dL_law_1346 (by decide) ?_
  refine x_iadd dL_law_1347 ?_
  refine x_sld (i + 1) (nI_add i 1) (by omega) (by omega) dL_law_1348 ?_
  refine x_aload_n dL_law_1349 rfl ?_
  refine x_iload_n dL_law_1350 rfl ?_
  refine x_iconst (v := 2) dL_law_1351 (by decide) ?_
  refine x_iadd dL_law_1352 ?_
  refine x_sld (i + 2) (nI_add i 2) (by omega) (by omega) dL_law_1353 ?_
  refine x_aload_n dL_law_1354 rfl ?_
  refine x_iload_n dL_law_1355 rfl ?_
  refine x_iconst (v := 3) dL_law_1356 (by decide) ?_
  refine x_iadd dL_law_1357 ?_
  refine x_sld (i + 3) (nI_add i 3) (by omega) (by omega) dL_law_1358 ?_
  refine x_cvV (k' := k + 2) (n' := n + 42) (c_X11_sheet hx) hx.2.1 lkX11_sheet sL_157 dL_law_1359 rfl rfl (Nat.le_of_ble_eq_true rfl) ⟨Nat.le_of_ble_eq_true rfl, Nat.le_of_ble_eq_true rfl⟩ ⟨rfl, rfl, (by show _ ≤ 600000; omega), (by show _ ≤ 7302250; omega)⟩ ?_
  rintro h1 ⟨hx1, F1⟩
  obtain ⟨hn1, hD1⟩ := hn.py hD F1
  refine x_aload_n dL_law_1362 rfl ?_
  refine x_aload_n dL_law_1363 rfl ?_
  refine x_iload_n dL_law_1364 rfl ?_
  refine x_iconst (v := 1) dL_law_1365 (by decide) ?_
  refine x_iadd dL_law_1366 ?_
  refine x_sld (i + 1) (nI_add i 1) (by omega) (by omega) dL_law_1367 ?_
  refine x_aload_n dL_law_1368 rfl ?_
  refine x_iload_n dL_law_1369 rfl ?_
  refine x_iconst (v := 2) dL_law_1370 (by decide) ?_
  refine x_iadd dL_law_1371 ?_
  refine x_sld (i + 2) (nI_add i 2) (by omega) (by omega) dL_law_1372 ?_
  refine x_aload_n dL_law_1373 rfl ?_
  refine x_iload_n dL_law_1374 rfl ?_
  refine x_iconst (v := 3) dL_law_1375 (by decide) ?_
  refine x_iadd dL_law_1376 ?_
  refine x_sld (i + 3) (nI_add i 3) (by omega) (by omega) dL_law_1377 ?_
  obtain ⟨fs, ho⟩ := hn1.o
  refine x_cvV (k' := k + 2) (n' := n + 42) (c_X12_sheet hn1) ho lkX12_sheet sL_160 dL_law_1378 rfl rfl (Nat.le_of_ble_eq_true rfl) ⟨Nat.le_of_ble_eq_true rfl, Nat.le_of_ble_eq_true rfl⟩ ⟨rfl, rfl, (by show _ ≤ 600000; omega), (by show _ ≤ 7302250; omega)⟩ ?_
  rintro h2 ⟨hn2, F2⟩
  have hx2 := hx1.fo hD1 F2
  refine x_icmp_eq_t 1663 dL_law_1381 (by decide) rfl ?_
  refine x_widen (k' := k + 2) (n' := n + 42) (by omega) (by omega) ?_
  exact kk _ _ ⟨_, hx2, hn2, hD1⟩
set_option maxRecDepth 10000 in
set_option maxHeartbeats 2000000 in
theorem lc_write {g : gG} {nm : String} {b L : Nat} {xs : Nat → Int32} {h : gH} {x i k n : Nat} {S : AS} (hL : L ≤ 384) (hi : i + 6 ≤ L) (hI : LI h x S) (hk : k + 2 ≤ 600000) (hn' : n + 42 ≤ 7302250) (kk : ∀ h' S', LI h' x S' → Ex g (mLw nm) (lwZ g b L xs) 1663 [some (.ref b), some (.ref x), some (.ref (x + 50)), some (.int (nI i))] [] h' (k + 2) (n + 42)) : Ex g (mLw nm) (lwZ g b L xs) 1386 [some (.ref b), some (.ref x), some (.ref (x + 50)), some (.int (nI i))] [] h k n := by
  obtain ⟨D, hx, hn, hD⟩ := hI
  refine x_aload_n dL_law_1386 rfl ?_
  refine x_aload_n dL_law_1387 rfl ?_
  refine x_iload_n dL_law_1388 rfl ?_
  refine x_iconst (v := 1) dL_law_1389 (by decide) ?_
  refine x_iadd dL_law_1390 ?_
  refine x_sld (i + 1) (nI_add i 1) (by omega) (by omega) dL_law_1391 ?_
  refine x_aload_n dL_law_1392 rfl ?_
  refine x_iload_n dL_law_1393 rfl ?_
  refine x_iconst (v := 2) dL_law_1394 (by decide) ?_
  refine x_iadd dL_law_1395 ?_
  refine x_sld (i + 2) (nI_add i 2) (by omega) (by omega) dL_law_1396 ?_
  refine x_aload_n dL_law_1397 rfl ?_
  refine x_iload_n dL_law_1398 rfl ?_
  refine x_iconst (v := 3) dL_law_1399 (by decide) ?_
  refine x_iadd dL_law_1400 ?_
  refine x_sld (i + 3) (nI_add i 3) (by omega) (by omega) dL_law_1401 ?_
  refine x_cvV (k' := k) (n' := n) (c_X11_write hx) hx.2.1 lkX11_write sL_161 dL_law_1402 rfl rfl (Nat.le_of_ble_eq_true rfl) ⟨Nat.le_of_ble_eq_true rfl, Nat.le_of_ble_eq_true rfl⟩ ⟨rfl, rfl, (by show _ ≤ 600000; omega), (by show _ ≤ 7302250; omega)⟩ ?_
  rintro h1 ⟨hx1, F1⟩
  obtain ⟨hn1, hD1⟩ := hn.py hD F1
  refine x_aload_n dL_law_1405 rfl ?_
  refine x_aload_n dL_law_1406 rfl ?_
  refine x_iload_n dL_law_1407 rfl ?_
  refine x_iconst (v := 1) dL_law_1408 (by decide) ?_
  refine x_iadd dL_law_1409 ?_
  refine x_sld (i + 1) (nI_add i 1) (by omega) (by omega) dL_law_1410 ?_
  refine x_aload_n dL_law_1411 rfl ?_
  refine x_iload_n dL_law_1412 rfl ?_
  refine x_iconst (v := 2) dL_law_1413 (by decide) ?_
  refine x_iadd dL_law_1414 ?_
  refine x_sld (i + 2) (nI_add i 2) (by omega) (by omega) dL_law_1415 ?_
  refine x_aload_n dL_law_1416 rfl ?_
  refine x_iload_n dL_law_1417 rfl ?_
  refine x_iconst (v := 3) dL_law_1418 (by decide) ?_
  refine x_iadd dL_law_1419 ?_
  refine x_sld (i + 3) (nI_add i 3) (by omega) (by omega) dL_law_1420 ?_
  obtain ⟨fs, ho⟩ := hn1.o
  refine x_cvV (k' := k) (n' := n) (c_X12_write hn1) ho lkX12_write sL_164 dL_law_1421 rfl rfl (Nat.le_of_ble_eq_true rfl) ⟨Nat.le_of_ble_eq_true rfl, Nat.le_of_ble_eq_true rfl⟩ ⟨rfl, rfl, (by show _ ≤ 600000; omega), (by show _ ≤ 7302250; omega)⟩ ?_
  rintro h2 ⟨hn2, F2⟩
  have hx2 := hx1.fo hD1 F2
  refine x_icmp_eq_t 1663 dL_law_1424 (by decide) rfl ?_
  refine x_widen (k' := k + 2) (n' := n + 42) (by omega) (by omega) ?_
  exact kk _ _ ⟨_, hx2, hn2, hD1⟩
set_option maxRecDepth 10000 in
set_option maxHeartbeats 2000000 in
theorem lc_item {g : gG} {nm : String} {b L : Nat} {xs : Nat → Int32} {h : gH} {x i k n : Nat} {S : AS} (hL : L ≤ 384) (hi : i + 6 ≤ L) (hI : LI h x S) (hk : k + 2 ≤ 600000) (hn' : n + 42 ≤ 7302250) (kk : ∀ h' S', LI h' x S' → Ex g (mLw nm) (lwZ g b L xs) 1663 [some (.ref b), some (.ref x), some (.ref (x + 50)), some (.int (nI i))] [] h' (k + 2) (n + 42)) : Ex g (mLw nm) (lwZ g b L xs) 1429 [some (.ref b), some (.ref x), some (.ref (x + 50)), some (.int (nI i))] [] h k n := by
  obtain ⟨D, hx, hn, hD⟩ := hI
  refine x_aload_n dL_law_1429 rfl ?_
  refine x_aload_n dL_law_1430 rfl ?_
  refine x_iload_n dL_law_1431 rfl ?_
  refine x_iconst (v := 1) dL_law_1432 (by decide) ?_
  refine x_iadd dL_law_1433 ?_
  refine x_sld (i + 1) (nI_add i 1) (by omega) (by omega) dL_law_1434 ?_
  refine x_aload_n dL_law_1435 rfl ?_
  refine x_iload_n dL_law_1436 rfl ?_
  refine x_iconst (v := 2) dL_law_1437 (by decide) ?_
  refine x_iadd dL_law_1438 ?_
  refine x_sld (i + 2) (nI_add i 2) (by omega) (by omega) dL_law_1439 ?_
  refine x_aload_n dL_law_1440 rfl ?_
  refine x_iload_n dL_law_1441 rfl ?_
  refine x_iconst (v := 3) dL_law_1442 (by decide) ?_
  refine x_iadd dL_law_1443 ?_
  refine x_sld (i + 3) (nI_add i 3) (by omega) (by omega) dL_law_1444 ?_
  refine x_rdV (c_X11_item hx) hx.2.1 lkX11_item sL_165 dL_law_1445 rfl rfl (Nat.le_of_ble_eq_true rfl) ⟨Nat.le_of_ble_eq_true rfl, Nat.le_of_ble_eq_true rfl⟩ ⟨rfl, rfl, (by show _ ≤ 600000; omega), (by show _ ≤ 7302250; omega)⟩ ?_
  refine x_aload_n dL_law_1448 rfl ?_
  refine x_aload_n dL_law_1449 rfl ?_
  refine x_iload_n dL_law_1450 rfl ?_
  refine x_iconst (v := 1) dL_law_1451 (by decide) ?_
  refine x_iadd dL_law_1452 ?_
  refine x_sld (i + 1) (nI_add i 1) (by omega) (by omega) dL_law_1453 ?_
  refine x_aload_n dL_law_1454 rfl ?_
  refine x_iload_n dL_law_1455 rfl ?_
  refine x_iconst (v := 2) dL_law_1456 (by decide) ?_
  refine x_iadd dL_law_1457 ?_
  refine x_sld (i + 2) (nI_add i 2) (by omega) (by omega) dL_law_1458 ?_
  refine x_aload_n dL_law_1459 rfl ?_
  refine x_iload_n dL_law_1460 rfl ?_
  refine x_iconst (v := 3) dL_law_1461 (by decide) ?_
  refine x_iadd dL_law_1462 ?_
  refine x_sld (i + 3) (nI_add i 3) (by omega) (by omega) dL_law_1463 ?_
  obtain ⟨fs, ho⟩ := hn.o
  refine x_rdV (c_X12_item hn) ho lkX12_item sL_168 dL_law_1464 rfl rfl (Nat.le_of_ble_eq_true rfl) ⟨Nat.le_of_ble_eq_true rfl, Nat.le_of_ble_eq_true rfl⟩ ⟨rfl, rfl, (by show _ ≤ 600000; omega), (by show _ ≤ 7302250; omega)⟩ ?_
  refine x_icmp_eq_t 1663 dL_law_1467 (by decide) rfl ?_
  refine x_widen (k' := k + 2) (n' := n + 42) (by omega) (by omega) ?_
  exact kk _ _ ⟨D, hx, hn, hD⟩
set_option maxRecDepth 10000 in
set_option maxHeartbeats 2000000 in
theorem lc_shelf {g : gG} {nm : String} {b L : Nat} {xs : Nat → Int32} {h : gH} {x i k n : Nat} {S : AS} (hL : L ≤ 384) (hi : i + 6 ≤ L) (hI : LI h x S) (hk : k + 2 ≤ 600000) (hn' : n + 42 ≤ 7302250) (kk : ∀ h' S', LI h' x S' → Ex g (mLw nm) (lwZ g b L xs) 1663 [some (.ref b), some (.ref x), some (.ref (x + 50)), some (.int (nI i))] [] h' (k + 2) (n + 42)) : Ex g (mLw nm) (lwZ g b L xs) 1472 [some (.ref b), some (.ref x), some (.ref (x + 50)), some (.int (nI i))] [] h k n := by
  obtain ⟨D, hx, hn, hD⟩ := hI
  refine x_aload_n dL_law_1472 rfl ?_
  refine x_aload_n dL_law_1473 rfl ?_
  refine x_iload_n dL_law_1474 rfl ?_
  refine x_iconst (v := 1) dL_law_1475 (by decide) ?_
  refine x_iadd dL_law_1476 ?_
  refine x_sld (i + 1) (nI_add i 1) (by omega) (by omega) dL_law_1477 ?_
  refine x_aload_n dL_law_1478 rfl ?_
  refine x_iload_n dL_law_1479 rfl ?_
  refine x_iconst (v := 2) dL_law_1480 (by decide) ?_
  refine x_iadd dL_law_1481 ?_
  refine x_sld (i + 2) (nI_add i 2) (by omega) (by omega) dL_law_1482 ?_
  refine x_aload_n dL_law_1483 rfl ?_
  refine x_iload_n dL_law_1484 rfl ?_
  refine x_iconst (v := 3) dL_law_1485 (by decide) ?_
  refine x_iadd dL_law_1486 ?_
  refine x_sld (i + 3) (nI_add i 3) (by omega) (by omega) dL_law_1487 ?_
  refine x_cvV (k' := k) (n' := n) (c_X11_shelf hx) hx.2.1 lkX11_shelf sL_169 dL_law_1488 rfl rfl (Nat.le_of_ble_eq_true rfl) ⟨Nat.le_of_ble_eq_true rfl, Nat.le_of_ble_eq_true rfl⟩ ⟨rfl, rfl, (by show _ ≤ 600000; omega), (by show _ ≤ 7302250; omega)⟩ ?_
  rintro h1 ⟨hx1, F1⟩
  have hn1 := hn.px F1
  have hD1 := hD
  refine x_aload_n dL_law_1491 rfl ?_
  refine x_aload_n dL_law_1492 rfl ?_
  refine x_iload_n dL_law_1493 rfl ?_
  refine x_iconst (v := 1) dL_law_1494 (by decide) ?_
  refine x_iadd dL_law_1495 ?_
  refine x_sld (i + 1) (nI_add i 1) (by omega) (by omega) dL_law_1496 ?_
  refine x_aload_n dL_law_1497 rfl ?_
  refine x_iload_n dL_law_1498 rfl ?_
  refine x_iconst (v := 2) dL_law_1499 (by decide) ?_
  refine x_iadd dL_law_1500 ?_
  refine x_sld (i + 2) (nI_add i 2) (by omega) (by omega) dL_law_1501 ?_
  refine x_aload_n dL_law_1502 rfl ?_
  refine x_iload_n dL_law_1503 rfl ?_
  refine x_iconst (v := 3) dL_law_1504 (by decide) ?_
  refine x_iadd dL_law_1505 ?_
  refine x_sld (i + 3) (nI_add i 3) (by omega) (by omega) dL_law_1506 ?_
  obtain ⟨fs, ho⟩ := hn1.o
  refine x_cvV (k' := k) (n' := n) (c_X12_shelf hn1) ho lkX12_shelf sL_172 dL_law_1507 rfl rfl (Nat.le_of_ble_eq_true rfl) ⟨Nat.le_of_ble_eq_true rfl, Nat.le_of_ble_eq_true rfl⟩ ⟨rfl, rfl, (by show _ ≤ 600000; omega), (by show _ ≤ 7302250; omega)⟩ ?_
  rintro h2 ⟨hn2, F2⟩
  have hx2 := hx1.fo hD1 F2
  refine x_icmp_eq_t 1663 dL_law_1510 (by decide) rfl ?_
  refine x_widen (k' := k + 2) (n' := n + 42) (by omega) (by omega) ?_
  exact kk _ _ ⟨_, hx2, hn2, hD1⟩
set_option maxRecDepth 10000 in
set_option maxHeartbeats 2000000 in
theorem lc_taken {g : gG} {nm : String} {b L : Nat} {xs : Nat → Int32} {h : gH} {x i k n : Nat} {S : AS} (hL : L ≤ 384) (hi : i + 6 ≤ L) (hI : LI h x S) (hk : k + 2 ≤ 600000) (hn' : n + 42 ≤ 7302250) (kk : ∀ h' S', LI h' x S' → Ex g (mLw nm) (lwZ g b L xs) 1663 [some (.ref b), some (.ref x), some (.ref (x + 50)), some (.int (nI i))] [] h' (k + 2) (n + 42)) : Ex g (mLw nm) (lwZ g b L xs) 1515 [some (.ref b), some (.ref x), some (.ref (x + 50)), some (.int (nI i))] [] h k n := by
  obtain ⟨D, hx, hn, hD⟩ := hI
  refine x_aload_n dL_law_1515 rfl ?_
  refine x_aload_n dL_law_1516 rfl ?_
  refine x_iload_n dL_law_1517 rfl ?_
  refine x_iconst (v := 1) dL_law_1518 (by decide) ?_
  refine x_iadd dL_law_1519 ?_
  refine x_sld (i + 1) (nI_add i 1) (by omega) (by omega) dL_law_1520 ?_
  refine x_aload_n dL_law_1521 rfl ?_
  refine x_iload_n dL_law_1522 rfl ?_
  refine x_iconst (v := 2) dL_law_1523 (by decide) ?_
  refine x_iadd dL_law_1524 ?_
  refine x_sld (i + 2) (nI_add i 2) (by omega) (by omega) dL_law_1525 ?_
  refine x_rdV (c_X11_taken hx) hx.2.1 lkX11_taken sL_173 dL_law_1526 rfl rfl (Nat.le_of_ble_eq_true rfl) ⟨Nat.le_of_ble_eq_true rfl, Nat.le_of_ble_eq_true rfl⟩ ⟨rfl, rfl, (by show _ ≤ 600000; omega), (by show _ ≤ 7302250; omega)⟩ ?_
  refine x_aload_n dL_law_1529 rfl ?_
  refine x_aload_n dL_law_1530 rfl ?_
  refine x_iload_n dL_law_1531 rfl ?_
  refine x_iconst (v := 1) dL_law_1532 (by decide) ?_
  refine x_iadd dL_law_1533 ?_
  refine x_sld (i + 1) (nI_add i 1) (by omega) (by omega) dL_law_1534 ?_
  refine x_aload_n dL_law_1535 rfl ?_
  refine x_iload_n dL_law_1536 rfl ?_
  refine x_iconst (v := 2) dL_law_1537 (by decide) ?_
  refine x_iadd dL_law_1538 ?_
  refine x_sld (i + 2) (nI_add i 2) (by omega) (by omega) dL_law_1539 ?_
  obtain ⟨fs, ho⟩ := hn.o
  refine x_rdV (c_X12_taken hn) ho lkX12_taken sL_176 dL_law_1540 rfl rfl (Nat.le_of_ble_eq_true rfl) ⟨Nat.le_of_ble_eq_true rfl, Nat.le_of_ble_eq_true rfl⟩ ⟨rfl, rfl, (by show _ ≤ 600000; omega), (by show _ ≤ 7302250; omega)⟩ ?_
  refine x_icmp_eq_t 1663 dL_law_1543 (by decide) rfl ?_
  refine x_widen (k' := k + 2) (n' := n + 42) (by omega) (by omega) ?_
  exact kk _ _ ⟨D, hx, hn, hD⟩
set_option maxRecDepth 10000 in
set_option maxHeartbeats 2000000 in
theorem lc_act {g : gG} {nm : String} {b L : Nat} {xs : Nat → Int32} {h : gH} {x i k n : Nat} {S : AS} (hL : L ≤ 384) (hi : i + 6 ≤ L) (hI : LI h x S) (hk : k + 2 ≤ 600000) (hn' : n + 42 ≤ 7302250) (kk : ∀ h' S', LI h' x S' → Ex g (mLw nm) (lwZ g b L xs) 1663 [some (.ref b), some (.ref x), some (.ref (x + 50)), some (.int (nI i))] [] h' (k + 2) (n + 42)) : Ex g (mLw nm) (lwZ g b L xs) 1548 [some (.ref b), some (.ref x), some (.ref (x + 50)), some (.int (nI i))] [] h k n := by
  obtain ⟨D, hx, hn, hD⟩ := hI
  refine x_aload_n dL_law_1548 rfl ?_
  refine x_aload_n dL_law_1549 rfl ?_
  refine x_iload_n dL_law_1550 rfl ?_
  refine x_iconst (v := 1) dL_law_1551 (by decide) ?_
  refine x_iadd dL_law_1552 ?_
  refine x_sld (i + 1) (nI_add i 1) (by omega) (by omega) dL_law_1553 ?_
  refine x_aload_n dL_law_1554 rfl ?_
  refine x_iload_n dL_law_1555 rfl ?_
  refine x_iconst (v := 2) dL_law_1556 (by decide) ?_
  refine x_iadd dL_law_1557 ?_
  refine x_sld (i + 2) (nI_add i 2) (by omega) (by omega) dL_law_1558 ?_
  refine x_aload_n dL_law_1559 rfl ?_
  refine x_iload_n dL_law_1560 rfl ?_
  refine x_iconst (v := 3) dL_law_1561 (by decide) ?_
  refine x_iadd dL_law_1562 ?_
  refine x_sld (i + 3) (nI_add i 3) (by omega) (by omega) dL_law_1563 ?_
  refine x_cvV (k' := k + 1) (n' := n + 3) (c_X11_act hx) hx.2.1 lkX11_act sL_177 dL_law_1564 rfl rfl (Nat.le_of_ble_eq_true rfl) ⟨Nat.le_of_ble_eq_true rfl, Nat.le_of_ble_eq_true rfl⟩ ⟨rfl, rfl, (by show _ ≤ 600000; omega), (by show _ ≤ 7302250; omega)⟩ ?_
  rintro h1 ⟨hx1, F1⟩
  obtain ⟨hn1, hD1⟩ := hn.py hD F1
  refine x_aload_n dL_law_1567 rfl ?_
  refine x_aload_n dL_law_1568 rfl ?_
  refine x_iload_n dL_law_1569 rfl ?_
  refine x_iconst (v := 1) dL_law_1570 (by decide) ?_
  refine x_iadd dL_law_1571 ?_
  refine x_sld (i + 1) (nI_add i 1) (by omega) (by omega) dL_law_1572 ?_
  refine x_aload_n dL_law_1573 rfl ?_
  refine x_iload_n dL_law_1574 rfl ?_
  refine x_iconst (v := 2) dL_law_1575 (by decide) ?_
  refine x_iadd dL_law_1576 ?_
  refine x_sld (i + 2) (nI_add i 2) (by omega) (by omega) dL_law_1577 ?_
  refine x_aload_n dL_law_1578 rfl ?_
  refine x_iload_n dL_law_1579 rfl ?_
  refine x_iconst (v := 3) dL_law_1580 (by decide) ?_
  refine x_iadd dL_law_1581 ?_
  refine x_sld (i + 3) (nI_add i 3) (by omega) (by omega) dL_law_1582 ?_
  obtain ⟨fs, ho⟩ := hn1.o
  refine x_cvV (k' := k + 1) (n' := n + 3) (c_X12_act hn1) ho lkX12_act sL_180 dL_law_1583 rfl rfl (Nat.le_of_ble_eq_true rfl) ⟨Nat.le_of_ble_eq_true rfl, Nat.le_of_ble_eq_true rfl⟩ ⟨rfl, rfl, (by show _ ≤ 600000; omega), (by show _ ≤ 7302250; omega)⟩ ?_
  rintro h2 ⟨hn2, F2⟩
  have hx2 := hx1.fo hD1 F2
  refine x_icmp_eq_t 1663 dL_law_1586 (by decide) rfl ?_
  refine x_widen (k' := k + 2) (n' := n + 42) (by omega) (by omega) ?_
  exact kk _ _ ⟨_, hx2, hn2, hD1⟩
set_option maxRecDepth 10000 in
set_option maxHeartbeats 2000000 in
theorem lc_trace {g : gG} {nm : String} {b L : Nat} {xs : Nat → Int32} {h : gH} {x i k n : Nat} {S : AS} (hL : L ≤ 384) (hi : i + 6 ≤ L) (hI : LI h x S) (hk : k + 2 ≤ 600000) (hn' : n + 42 ≤ 7302250) (kk : ∀ h' S', LI h' x S' → Ex g (mLw nm) (lwZ g b L xs) 1663 [some (.ref b), some (.ref x), some (.ref (x + 50)), some (.int (nI i))] [] h' (k + 2) (n + 42)) : Ex g (mLw nm) (lwZ g b L xs) 1591 [some (.ref b), some (.ref x), some (.ref (x + 50)), some (.int (nI i))] [] h k n := by
  obtain ⟨D, hx, hn, hD⟩ := hI
  refine x_aload_n dL_law_1591 rfl ?_
  refine x_aload_n dL_law_1592 rfl ?_
  refine x_iload_n dL_law_1593 rfl ?_
  refine x_iconst (v := 1) dL_law_1594 (by decide) ?_
  refine x_iadd dL_law_1595 ?_
  refine x_sld (i + 1) (nI_add i 1) (by omega) (by omega) dL_law_1596 ?_
  refine x_rdV (c_X11_trace hx) hx.2.1 lkX11_trace sL_181 dL_law_1597 rfl rfl (Nat.le_of_ble_eq_true rfl) ⟨Nat.le_of_ble_eq_true rfl, Nat.le_of_ble_eq_true rfl⟩ ⟨rfl, rfl, (by show _ ≤ 600000; omega), (by show _ ≤ 7302250; omega)⟩ ?_
  refine x_aload_n dL_law_1600 rfl ?_
  refine x_aload_n dL_law_1601 rfl ?_
  refine x_iload_n dL_law_1602 rfl ?_
  refine x_iconst (v := 1) dL_law_1603 (by decide) ?_
  refine x_iadd dL_law_1604 ?_
  refine x_sld (i + 1) (nI_add i 1) (by omega) (by omega) dL_law_1605 ?_
  obtain ⟨fs, ho⟩ := hn.o
  refine x_rdV (c_X12_trace hn) ho lkX12_trace sL_184 dL_law_1606 rfl rfl (Nat.le_of_ble_eq_true rfl) ⟨Nat.le_of_ble_eq_true rfl, Nat.le_of_ble_eq_true rfl⟩ ⟨rfl, rfl, (by show _ ≤ 600000; omega), (by show _ ≤ 7302250; omega)⟩ ?_
  refine x_icmp_eq_t 1663 dL_law_1609 (by decide) rfl ?_
  refine x_widen (k' := k + 2) (n' := n + 42) (by omega) (by omega) ?_
  exact kk _ _ ⟨D, hx, hn, hD⟩
set_option maxRecDepth 10000 in
set_option maxHeartbeats 2000000 in
theorem lc_many {g : gG} {nm : String} {b L : Nat} {xs : Nat → Int32} {h : gH} {x i k n : Nat} {S : AS} (hL : L ≤ 384) (hi : i + 6 ≤ L) (hI : LI h x S) (hk : k + 2 ≤ 600000) (hn' : n + 42 ≤ 7302250) (kk : ∀ h' S', LI h' x S' → Ex g (mLw nm) (lwZ g b L xs) 1663 [some (.ref b), some (.ref x), some (.ref (x + 50)), some (.int (nI i))] [] h' (k + 2) (n + 42)) : Ex g (mLw nm) (lwZ g b L xs) 1614 [some (.ref b), some (.ref x), some (.ref (x + 50)), some (.int (nI i))] [] h k n := by
  obtain ⟨D, hx, hn, hD⟩ := hI
  refine x_aload_n dL_law_1614 rfl ?_
  refine x_aload_n dL_law_1615 rfl ?_
  refine x_iload_n dL_law_1616 rfl ?_
  refine x_iconst (v := 1) dL_law_1617 (by decide) ?_
  refine x_iadd dL_law_1618 ?_
  refine x_sld (i + 1) (nI_add i 1) (by omega) (by omega) dL_law_1619 ?_
  refine x_rdV (c_X11_many hx) hx.2.1 lkX11_many sL_185 dL_law_1620 rfl rfl (Nat.le_of_ble_eq_true rfl) ⟨Nat.le_of_ble_eq_true rfl, Nat.le_of_ble_eq_true rfl⟩ ⟨rfl, rfl, (by show _ ≤ 600000; omega), (by show _ ≤ 7302250; omega)⟩ ?_
  refine x_aload_n dL_law_1623 rfl ?_
  refine x_aload_n dL_law_1624 rfl ?_
  refine x_iload_n dL_law_1625 rfl ?_
  refine x_iconst (v := 1) dL_law_1626 (by decide) ?_
  refine x_iadd dL_law_1627 ?_
  refine x_sld (i + 1) (nI_add i 1) (by omega) (by omega) dL_law_1628 ?_
  obtain ⟨fs, ho⟩ := hn.o
  refine x_rdV (c_X12_many hn) ho lkX12_many sL_188 dL_law_1629 rfl rfl (Nat.le_of_ble_eq_true rfl) ⟨Nat.le_of_ble_eq_true rfl, Nat.le_of_ble_eq_true rfl⟩ ⟨rfl, rfl, (by show _ ≤ 600000; omega), (by show _ ≤ 7302250; omega)⟩ ?_
  refine x_icmp_eq_t 1663 dL_law_1632 (by decide) rfl ?_
  refine x_widen (k' := k + 2) (n' := n + 42) (by omega) (by omega) ?_
  exact kk _ _ ⟨D, hx, hn, hD⟩
set_option maxRecDepth 10000 in
set_option maxHeartbeats 2000000 in
theorem lc_keep {g : gG} {nm : String} {b L : Nat} {xs : Nat → Int32} {h : gH} {x i k n : Nat} {S : AS} (hL : L ≤ 384) (hi : i + 6 ≤ L) (hI : LI h x S) (hk : k + 2 ≤ 600000) (hn' : n + 42 ≤ 7302250) (kk : ∀ h' S', LI h' x S' → Ex g (mLw nm) (lwZ g b L xs) 1663 [some (.ref b), some (.ref x), some (.ref (x + 50)), some (.int (nI i))] [] h' (k + 2) (n + 42)) : Ex g (mLw nm) (lwZ g b L xs) 1637 [some (.ref b), some (.ref x), some (.ref (x + 50)), some (.int (nI i))] [] h k n := by
  obtain ⟨D, hx, hn, hD⟩ := hI
  refine x_aload_n dL_law_1637 rfl ?_
  refine x_cvV (k' := k) (n' := n) (c_X11_keep hx) hx.2.1 lkX11_keep sL_189 dL_law_1638 rfl rfl (Nat.le_of_ble_eq_true rfl) ⟨Nat.le_of_ble_eq_true rfl, Nat.le_of_ble_eq_true rfl⟩ ⟨rfl, rfl, (by show _ ≤ 600000; omega), (by show _ ≤ 7302250; omega)⟩ ?_
  rintro h1 ⟨hx1, F1⟩
  have hn1 := hn.px F1
  have hD1 := hD
  refine x_aload_n dL_law_1641 rfl ?_
  obtain ⟨fs, ho⟩ := hn1.o
  refine x_cvV (k' := k) (n' := n) (c_X12_keep hn1) ho lkX12_keep sL_192 dL_law_1642 rfl rfl (Nat.le_of_ble_eq_true rfl) ⟨Nat.le_of_ble_eq_true rfl, Nat.le_of_ble_eq_true rfl⟩ ⟨rfl, rfl, (by show _ ≤ 600000; omega), (by show _ ≤ 7302250; omega)⟩ ?_
  rintro h2 ⟨hn2, F2⟩
  have hx2 := hx1.fo hD1 F2
  refine x_icmp_eq_t 1663 dL_law_1645 (by decide) rfl ?_
  refine x_widen (k' := k + 2) (n' := n + 42) (by omega) (by omega) ?_
  exact kk _ _ ⟨_, hx2, hn2, hD1⟩
set_option maxRecDepth 10000 in
set_option maxHeartbeats 2000000 in
theorem lc_again {g : gG} {nm : String} {b L : Nat} {xs : Nat → Int32} {h : gH} {x i k n : Nat} {S : AS} (hL : L ≤ 384) (hi : i + 6 ≤ L) (hI : LI h x S) (hk : k + 2 ≤ 600000) (hn' : n + 42 ≤ 7302250) (kk : ∀ h' S', LI h' x S' → Ex g (mLw nm) (lwZ g b L xs) 1663 [some (.ref b), some (.ref x), some (.ref (x + 50)), some (.int (nI i))] [] h' (k + 2) (n + 42)) : Ex g (mLw nm) (lwZ g b L xs) 1650 [some (.ref b), some (.ref x), some (.ref (x + 50)), some (.int (nI i))] [] h k n := by
  obtain ⟨D, hx, hn, hD⟩ := hI
  refine x_aload_n dL_law_1650 rfl ?_
  refine x_cvV (k' := k) (n' := n) (c_X11_again hx) hx.2.1 lkX11_again sL_193 dL_law_1651 rfl rfl (Nat.le_of_ble_eq_true rfl) ⟨Nat.le_of_ble_eq_true rfl, Nat.le_of_ble_eq_true rfl⟩ ⟨rfl, rfl, (by show _ ≤ 600000; omega), (by show _ ≤ 7302250; omega)⟩ ?_
  rintro h1 ⟨hx1, F1⟩
  have hn1 := hn.px F1
  have hD1 := hD
  refine x_aload_n dL_law_1654 rfl ?_
  obtain ⟨fs, ho⟩ := hn1.o
  refine x_cvV (k' := k) (n' := n) (c_X12_again hn1) ho lkX12_again sL_196 dL_law_1655 rfl rfl (Nat.le_of_ble_eq_true rfl) ⟨Nat.le_of_ble_eq_true rfl, Nat.le_of_ble_eq_true rfl⟩ ⟨rfl, rfl, (by show _ ≤ 600000; omega), (by show _ ≤ 7302250; omega)⟩ ?_
  rintro h2 ⟨hn2, F2⟩
  have hx2 := hx1.fo hD1 F2
  refine x_icmp_eq_t 1663 dL_law_1658 (by decide) rfl ?_
  refine x_widen (k' := k + 2) (n' := n + 42) (by omega) (by omega) ?_
  exact kk _ _ ⟨_, hx2, hn2, hD1⟩
