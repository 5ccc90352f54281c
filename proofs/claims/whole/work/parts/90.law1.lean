/-! THE LAW: its cases -/
theorem ly5_31 (M : TM) (s : SS) (l t k : Int32) : mLay5 M s l t k 31 0 = M 31 0 := by
  unfold mLay5 lyM
  split
  · split
    · rfl
    · split
      · rfl
      · split <;> rfl
  · rfl
set_option maxRecDepth 100000 in
set_option maxHeartbeats 4000000 in
theorem law_writes {g : GT} {kc ks : Nat} (hk : kc ≤ 600000 ∧ ks ≤ 7302250) (hN : gN g < 2 ^ 31) (M : TM) (hI : Iv M) (p : Nat) (hp : p + 6 ≤ gN g) (hih : ∀ M2, Iv M2 → TR g room_1 RL cL_law 4 ret kc ks (ZL g) 1576 [some (.ref (gad g 52 0)), some (.ref (gad g 5 0)), some (.ref (gad g 6 0)), some (.int (nI p))] [] M2) : TR g room_1 RL cL_law 4 ret kc ks (ZL g) 224 [some (.ref (gad g 52 0)), some (.ref (gad g 5 0)), some (.ref (gad g 6 0)), some (.int (nI p))] [] M := by
  obtain ⟨hA, hB, hC, hD, hE, hF⟩ := id hI
  obtain ⟨hW, hR, hT⟩ := id hA
  obtain ⟨tp, h96, et⟩ := id hE.2.2.1
  obtain ⟨w, h60, ew⟩ := id hF.2.2
  refine q_aload_n 225 dL_law_224 rfl rfl ?_
  refine q_aload_n 226 dL_law_225 rfl rfl ?_
  refine q_iload_n 227 dL_law_226 rfl rfl ?_
  refine q_iconst (v := 1) 228 dL_law_227 rfl rfl ?_
  refine q_iadd 229 dL_law_228 rfl ?_
  refine q_sald 230 dL_law_229 rfl (nI_add p 1) (show p + 1 < gN g by omega) hN ?_
  refine q_aload_n 231 dL_law_230 rfl rfl ?_
  refine q_iload_n 232 dL_law_231 rfl rfl ?_
  refine q_iconst (v := 2) 233 dL_law_232 rfl rfl ?_
  refine q_iadd 234 dL_law_233 rfl ?_
  refine q_sald 235 dL_law_234 rfl (nI_add p 2) (show p + 2 < gN g by omega) hN ?_
  refine q_aload_n 236 dL_law_235 rfl rfl ?_
  refine q_iload_n 237 dL_law_236 rfl rfl ?_
  refine q_iconst (v := 3) 238 dL_law_237 rfl rfl ?_
  refine q_iadd 239 dL_law_238 rfl ?_
  refine q_sald 240 dL_law_239 rfl (nI_add p 3) (show p + 3 < gN g by omega) hN ?_
  refine q_aload_n 241 dL_law_240 rfl rfl ?_
  refine q_iload_n 242 dL_law_241 rfl rfl ?_
  refine q_iconst (v := 4) 243 dL_law_242 rfl rfl ?_
  refine q_iadd 244 dL_law_243 rfl ?_
  refine q_sald 245 dL_law_244 rfl (nI_add p 4) (show p + 4 < gN g by omega) hN ?_
  refine q_callV 248 dL_law_245 rfl (c5_writes M _ _ _ _ (M 31 0) hR hW hT) cw_L_13 (by decide) rfl rfl ⟨by decide, by decide⟩ hk (Nat.le_of_ble_eq_true rfl) ?_
  rintro _ M1 ⟨rfl, k1, hR1⟩
  have e31 : M1 31 0 = M 31 0 := k1 31 0 (by decide) (by decide)
  refine q_aload_n 249 dL_law_248 rfl rfl ?_
  refine q_aload_n 250 dL_law_249 rfl rfl ?_
  refine q_iload_n 251 dL_law_250 rfl rfl ?_
  refine q_iconst (v := 1) 252 dL_law_251 rfl rfl ?_
  refine q_iadd 253 dL_law_252 rfl ?_
  refine q_sald 254 dL_law_253 rfl (nI_add p 1) (show p + 1 < gN g by omega) hN ?_
  refine q_aload_n 255 dL_law_254 rfl rfl ?_
  refine q_iload_n 256 dL_law_255 rfl rfl ?_
  refine q_iconst (v := 2) 257 dL_law_256 rfl rfl ?_
  refine q_iadd 258 dL_law_257 rfl ?_
  refine q_sald 259 dL_law_258 rfl (nI_add p 2) (show p + 2 < gN g by omega) hN ?_
  refine q_aload_n 260 dL_law_259 rfl rfl ?_
  refine q_iload_n 261 dL_law_260 rfl rfl ?_
  refine q_iconst (v := 3) 262 dL_law_261 rfl rfl ?_
  refine q_iadd 263 dL_law_262 rfl ?_
  refine q_sald 264 dL_law_263 rfl (nI_add p 3) (show p + 3 < gN g by omega) hN ?_
  refine q_aload_n 265 dL_law_264 rfl rfl ?_
  refine q_iload_n 266 dL_law_265 rfl rfl ?_
  refine q_iconst (v := 4) 267 dL_law_266 rfl rfl ?_
  refine q_iadd 268 dL_law_267 rfl ?_
  refine q_sald 269 dL_law_268 rfl (nI_add p 4) (show p + 4 < gN g by omega) hN ?_
  refine q_callV 272 dL_law_269 rfl (c6_writes M1 _ _ _ _ (M 31 0) e31 hW.k) cw_L_17 (by decide) rfl rfl ⟨by decide, by decide⟩ hk (Nat.le_of_ble_eq_true rfl) ?_
  rintro _ M2 ⟨rfl, rfl⟩
  refine q_icmp_eq 1576 275 dL_law_272 rfl rfl (fun _ => ?_) (fun h_272 => absurd rfl h_272)
  exact hih _ (Iv_pa hI k1 hR1 (k_writes hW _ _ _ _))
set_option maxRecDepth 100000 in
set_option maxHeartbeats 4000000 in
theorem law_told {g : GT} {kc ks : Nat} (hk : kc ≤ 600000 ∧ ks ≤ 7302250) (hN : gN g < 2 ^ 31) (M : TM) (hI : Iv M) (p : Nat) (hp : p + 6 ≤ gN g) (hih : ∀ M2, Iv M2 → TR g room_1 RL cL_law 4 ret kc ks (ZL g) 1576 [some (.ref (gad g 52 0)), some (.ref (gad g 5 0)), some (.ref (gad g 6 0)), some (.int (nI p))] [] M2) : TR g room_1 RL cL_law 4 ret kc ks (ZL g) 277 [some (.ref (gad g 52 0)), some (.ref (gad g 5 0)), some (.ref (gad g 6 0)), some (.int (nI p))] [] M := by
  obtain ⟨hA, hB, hC, hD, hE, hF⟩ := id hI
  obtain ⟨hW, hR, hT⟩ := id hA
  obtain ⟨tp, h96, et⟩ := id hE.2.2.1
  obtain ⟨w, h60, ew⟩ := id hF.2.2
  refine q_aload_n 278 dL_law_277 rfl rfl ?_
  refine q_aload_n 279 dL_law_278 rfl rfl ?_
  refine q_iload_n 280 dL_law_279 rfl rfl ?_
  refine q_iconst (v := 1) 281 dL_law_280 rfl rfl ?_
  refine q_iadd 282 dL_law_281 rfl ?_
  refine q_sald 283 dL_law_282 rfl (nI_add p 1) (show p + 1 < gN g by omega) hN ?_
  refine q_aload_n 284 dL_law_283 rfl rfl ?_
  refine q_iload_n 285 dL_law_284 rfl rfl ?_
  refine q_iconst (v := 2) 286 dL_law_285 rfl rfl ?_
  refine q_iadd 287 dL_law_286 rfl ?_
  refine q_sald 288 dL_law_287 rfl (nI_add p 2) (show p + 2 < gN g by omega) hN ?_
  refine q_callV 291 dL_law_288 rfl (c5_told M _ _ (M 31 0) hR hW hT) cw_L_18 (by decide) rfl rfl ⟨by decide, by decide⟩ hk (Nat.le_of_ble_eq_true rfl) ?_
  rintro _ M1 ⟨rfl, pz, rfl⟩
  refine q_aload_n 292 dL_law_291 rfl rfl ?_
  refine q_aload_n 293 dL_law_292 rfl rfl ?_
  refine q_iload_n 294 dL_law_293 rfl rfl ?_
  refine q_iconst (v := 1) 295 dL_law_294 rfl rfl ?_
  refine q_iadd 296 dL_law_295 rfl ?_
  refine q_sald 297 dL_law_296 rfl (nI_add p 1) (show p + 1 < gN g by omega) hN ?_
  refine q_aload_n 298 dL_law_297 rfl rfl ?_
  refine q_iload_n 299 dL_law_298 rfl rfl ?_
  refine q_iconst (v := 2) 300 dL_law_299 rfl rfl ?_
  refine q_iadd 301 dL_law_300 rfl ?_
  refine q_sald 302 dL_law_301 rfl (nI_add p 2) (show p + 2 < gN g by omega) hN ?_
  refine q_callV 305 dL_law_302 rfl (c6_told _ _ _ (M 31 0) rfl hW.k) cw_L_22 (by decide) rfl rfl ⟨by decide, by decide⟩ hk (Nat.le_of_ble_eq_true rfl) ?_
  rintro _ M2 ⟨rfl, f, f2, rfl⟩
  refine q_icmp_eq 1576 308 dL_law_305 rfl rfl (fun _ => ?_) (fun h_305 => absurd rfl h_305)
  exact hih _ (Iv_KQ hI ((Kl.s17 M pz).q.sc f f2))
set_option maxRecDepth 100000 in
set_option maxHeartbeats 4000000 in
theorem law_as {g : GT} {kc ks : Nat} (hk : kc ≤ 600000 ∧ ks ≤ 7302250) (hN : gN g < 2 ^ 31) (M : TM) (hI : Iv M) (p : Nat) (hp : p + 6 ≤ gN g) (hih : ∀ M2, Iv M2 → TR g room_1 RL cL_law 4 ret kc ks (ZL g) 1576 [some (.ref (gad g 52 0)), some (.ref (gad g 5 0)), some (.ref (gad g 6 0)), some (.int (nI p))] [] M2) : TR g room_1 RL cL_law 4 ret kc ks (ZL g) 310 [some (.ref (gad g 52 0)), some (.ref (gad g 5 0)), some (.ref (gad g 6 0)), some (.int (nI p))] [] M := by
  obtain ⟨hA, hB, hC, hD, hE, hF⟩ := id hI
  obtain ⟨hW, hR, hT⟩ := id hA
  obtain ⟨tp, h96, et⟩ := id hE.2.2.1
  obtain ⟨w, h60, ew⟩ := id hF.2.2
  refine q_aload_n 311 dL_law_310 rfl rfl ?_
  refine q_aload_n 312 dL_law_311 rfl rfl ?_
  refine q_iload_n 313 dL_law_312 rfl rfl ?_
  refine q_iconst (v := 1) 314 dL_law_313 rfl rfl ?_
  refine q_iadd 315 dL_law_314 rfl ?_
  refine q_sald 316 dL_law_315 rfl (nI_add p 1) (show p + 1 < gN g by omega) hN ?_
  refine q_aload_n 317 dL_law_316 rfl rfl ?_
  refine q_iload_n 318 dL_law_317 rfl rfl ?_
  refine q_iconst (v := 2) 319 dL_law_318 rfl rfl ?_
  refine q_iadd 320 dL_law_319 rfl ?_
  refine q_sald 321 dL_law_320 rfl (nI_add p 2) (show p + 2 < gN g by omega) hN ?_
  refine q_callV 324 dL_law_321 rfl (c5_as M _ _ (M 31 0) hR hW hT) cw_L_23 (by decide) rfl rfl ⟨by decide, by decide⟩ hk (Nat.le_of_ble_eq_true rfl) ?_
  rintro _ M1 ⟨rfl, m1z⟩
  subst M1
  refine q_aload_n 325 dL_law_324 rfl rfl ?_
  refine q_aload_n 326 dL_law_325 rfl rfl ?_
  refine q_iload_n 327 dL_law_326 rfl rfl ?_
  refine q_iconst (v := 1) 328 dL_law_327 rfl rfl ?_
  refine q_iadd 329 dL_law_328 rfl ?_
  refine q_sald 330 dL_law_329 rfl (nI_add p 1) (show p + 1 < gN g by omega) hN ?_
  refine q_aload_n 331 dL_law_330 rfl rfl ?_
  refine q_iload_n 332 dL_law_331 rfl rfl ?_
  refine q_iconst (v := 2) 333 dL_law_332 rfl rfl ?_
  refine q_iadd 334 dL_law_333 rfl ?_
  refine q_sald 335 dL_law_334 rfl (nI_add p 2) (show p + 2 < gN g by omega) hN ?_
  refine q_callV 338 dL_law_335 rfl (c6_as M _ _ (M 31 0) rfl hW.k) cw_L_26 (by decide) rfl rfl ⟨by decide, by decide⟩ hk (Nat.le_of_ble_eq_true rfl) ?_
  rintro _ M2 ⟨rfl, rfl⟩
  refine q_icmp_eq 1576 341 dL_law_338 rfl rfl (fun _ => ?_) (fun h_338 => absurd rfl h_338)
  exact hih _ hI
set_option maxRecDepth 100000 in
set_option maxHeartbeats 4000000 in
theorem law_turns {g : GT} {kc ks : Nat} (hk : kc ≤ 600000 ∧ ks ≤ 7302250) (hN : gN g < 2 ^ 31) (M : TM) (hI : Iv M) (p : Nat) (hp : p + 6 ≤ gN g) (hih : ∀ M2, Iv M2 → TR g room_1 RL cL_law 4 ret kc ks (ZL g) 1576 [some (.ref (gad g 52 0)), some (.ref (gad g 5 0)), some (.ref (gad g 6 0)), some (.int (nI p))] [] M2) : TR g room_1 RL cL_law 4 ret kc ks (ZL g) 343 [some (.ref (gad g 52 0)), some (.ref (gad g 5 0)), some (.ref (gad g 6 0)), some (.int (nI p))] [] M := by
  obtain ⟨hA, hB, hC, hD, hE, hF⟩ := id hI
  obtain ⟨hW, hR, hT⟩ := id hA
  obtain ⟨tp, h96, et⟩ := id hE.2.2.1
  obtain ⟨w, h60, ew⟩ := id hF.2.2
  refine q_aload_n 344 dL_law_343 rfl rfl ?_
  refine q_aload_n 345 dL_law_344 rfl rfl ?_
  refine q_iload_n 346 dL_law_345 rfl rfl ?_
  refine q_iconst (v := 1) 347 dL_law_346 rfl rfl ?_
  refine q_iadd 348 dL_law_347 rfl ?_
  refine q_sald 349 dL_law_348 rfl (nI_add p 1) (show p + 1 < gN g by omega) hN ?_
  refine q_aload_n 350 dL_law_349 rfl rfl ?_
  refine q_iload_n 351 dL_law_350 rfl rfl ?_
  refine q_iconst (v := 2) 352 dL_law_351 rfl rfl ?_
  refine q_iadd 353 dL_law_352 rfl ?_
  refine q_sald 354 dL_law_353 rfl (nI_add p 2) (show p + 2 < gN g by omega) hN ?_
  refine q_callV 357 dL_law_354 rfl (c5_turns M _ _ (M 31 0) hR hW hT) cw_L_27 (by decide) rfl rfl ⟨by decide, by decide⟩ hk (Nat.le_of_ble_eq_true rfl) ?_
  rintro _ M1 ⟨rfl, k1, hR1⟩
  have e31 : M1 31 0 = M 31 0 := k1 31 0 (by decide) (by decide)
  refine q_aload_n 358 dL_law_357 rfl rfl ?_
  refine q_aload_n 359 dL_law_358 rfl rfl ?_
  refine q_iload_n 360 dL_law_359 rfl rfl ?_
  refine q_iconst (v := 1) 361 dL_law_360 rfl rfl ?_
  refine q_iadd 362 dL_law_361 rfl ?_
  refine q_sald 363 dL_law_362 rfl (nI_add p 1) (show p + 1 < gN g by omega) hN ?_
  refine q_aload_n 364 dL_law_363 rfl rfl ?_
  refine q_iload_n 365 dL_law_364 rfl rfl ?_
  refine q_iconst (v := 2) 366 dL_law_365 rfl rfl ?_
  refine q_iadd 367 dL_law_366 rfl ?_
  refine q_sald 368 dL_law_367 rfl (nI_add p 2) (show p + 2 < gN g by omega) hN ?_
  refine q_callV 371 dL_law_368 rfl (c6_turns M1 _ _ (M 31 0) e31 hW.k) cw_L_30 (by decide) rfl rfl ⟨by decide, by decide⟩ hk (Nat.le_of_ble_eq_true rfl) ?_
  rintro _ M2 ⟨rfl, rfl⟩
  refine q_icmp_eq 1576 374 dL_law_371 rfl rfl (fun _ => ?_) (fun h_371 => absurd rfl h_371)
  exact hih _ (Iv_pa hI k1 hR1 (k_turns hW _ _))
set_option maxRecDepth 100000 in
set_option maxHeartbeats 4000000 in
theorem law_set {g : GT} {kc ks : Nat} (hk : kc ≤ 600000 ∧ ks ≤ 7302250) (hN : gN g < 2 ^ 31) (M : TM) (hI : Iv M) (p : Nat) (hp : p + 6 ≤ gN g) (hih : ∀ M2, Iv M2 → TR g room_1 RL cL_law 4 ret kc ks (ZL g) 1576 [some (.ref (gad g 52 0)), some (.ref (gad g 5 0)), some (.ref (gad g 6 0)), some (.int (nI p))] [] M2) : TR g room_1 RL cL_law 4 ret kc ks (ZL g) 376 [some (.ref (gad g 52 0)), some (.ref (gad g 5 0)), some (.ref (gad g 6 0)), some (.int (nI p))] [] M := by
  obtain ⟨hA, hB, hC, hD, hE, hF⟩ := id hI
  obtain ⟨hW, hR, hT⟩ := id hA
  obtain ⟨tp, h96, et⟩ := id hE.2.2.1
  obtain ⟨w, h60, ew⟩ := id hF.2.2
  refine q_aload_n 377 dL_law_376 rfl rfl ?_
  refine q_aload_n 378 dL_law_377 rfl rfl ?_
  refine q_iload_n 379 dL_law_378 rfl rfl ?_
  refine q_iconst (v := 1) 380 dL_law_379 rfl rfl ?_
  refine q_iadd 381 dL_law_380 rfl ?_
  refine q_sald 382 dL_law_381 rfl (nI_add p 1) (show p + 1 < gN g by omega) hN ?_
  refine q_aload_n 383 dL_law_382 rfl rfl ?_
  refine q_iload_n 384 dL_law_383 rfl rfl ?_
  refine q_iconst (v := 2) 385 dL_law_384 rfl rfl ?_
  refine q_iadd 386 dL_law_385 rfl ?_
  refine q_sald 387 dL_law_386 rfl (nI_add p 2) (show p + 2 < gN g by omega) hN ?_
  refine q_aload_n 388 dL_law_387 rfl rfl ?_
  refine q_iload_n 389 dL_law_388 rfl rfl ?_
  refine q_iconst (v := 3) 390 dL_law_389 rfl rfl ?_
  refine q_iadd 391 dL_law_390 rfl ?_
  refine q_sald 392 dL_law_391 rfl (nI_add p 3) (show p + 3 < gN g by omega) hN ?_
  refine q_callV 395 dL_law_392 rfl (c5_set M _ _ _ (M 31 0) hR hW hT) cw_L_31 (by decide) rfl rfl ⟨by decide, by decide⟩ hk (Nat.le_of_ble_eq_true rfl) ?_
  rintro _ M1 ⟨rfl, k1, hR1⟩
  have e31 : M1 31 0 = M 31 0 := k1 31 0 (by decide) (by decide)
  refine q_aload_n 396 dL_law_395 rfl rfl ?_
  refine q_aload_n 397 dL_law_396 rfl rfl ?_
  refine q_iload_n 398 dL_law_397 rfl rfl ?_
  refine q_iconst (v := 1) 399 dL_law_398 rfl rfl ?_
  refine q_iadd 400 dL_law_399 rfl ?_
  refine q_sald 401 dL_law_400 rfl (nI_add p 1) (show p + 1 < gN g by omega) hN ?_
  refine q_aload_n 402 dL_law_401 rfl rfl ?_
  refine q_iload_n 403 dL_law_402 rfl rfl ?_
  refine q_iconst (v := 2) 404 dL_law_403 rfl rfl ?_
  refine q_iadd 405 dL_law_404 rfl ?_
  refine q_sald 406 dL_law_405 rfl (nI_add p 2) (show p + 2 < gN g by omega) hN ?_
  refine q_aload_n 407 dL_law_406 rfl rfl ?_
  refine q_iload_n 408 dL_law_407 rfl rfl ?_
  refine q_iconst (v := 3) 409 dL_law_408 rfl rfl ?_
  refine q_iadd 410 dL_law_409 rfl ?_
  refine q_sald 411 dL_law_410 rfl (nI_add p 3) (show p + 3 < gN g by omega) hN ?_
  refine q_callV 414 dL_law_411 rfl (c6_set M1 _ _ _ (M 31 0) e31 hW.k) cw_L_35 (by decide) rfl rfl ⟨by decide, by decide⟩ hk (Nat.le_of_ble_eq_true rfl) ?_
  rintro _ M2 ⟨rfl, rfl⟩
  refine q_icmp_eq 1576 417 dL_law_414 rfl rfl (fun _ => ?_) (fun h_414 => absurd rfl h_414)
  exact hih _ (Iv_pa hI k1 hR1 (k_set hW _ _ _))
set_option maxRecDepth 100000 in
set_option maxHeartbeats 4000000 in
theorem law_cell {g : GT} {kc ks : Nat} (hk : kc ≤ 600000 ∧ ks ≤ 7302250) (hN : gN g < 2 ^ 31) (M : TM) (hI : Iv M) (p : Nat) (hp : p + 6 ≤ gN g) (hih : ∀ M2, Iv M2 → TR g room_1 RL cL_law 4 ret kc ks (ZL g) 1576 [some (.ref (gad g 52 0)), some (.ref (gad g 5 0)), some (.ref (gad g 6 0)), some (.int (nI p))] [] M2) : TR g room_1 RL cL_law 4 ret kc ks (ZL g) 419 [some (.ref (gad g 52 0)), some (.ref (gad g 5 0)), some (.ref (gad g 6 0)), some (.int (nI p))] [] M := by
  obtain ⟨hA, hB, hC, hD, hE, hF⟩ := id hI
  obtain ⟨hW, hR, hT⟩ := id hA
  obtain ⟨tp, h96, et⟩ := id hE.2.2.1
  obtain ⟨w, h60, ew⟩ := id hF.2.2
  refine q_aload_n 420 dL_law_419 rfl rfl ?_
  refine q_aload_n 421 dL_law_420 rfl rfl ?_
  refine q_iload_n 422 dL_law_421 rfl rfl ?_
  refine q_iconst (v := 1) 423 dL_law_422 rfl rfl ?_
  refine q_iadd 424 dL_law_423 rfl ?_
  refine q_sald 425 dL_law_424 rfl (nI_add p 1) (show p + 1 < gN g by omega) hN ?_
  refine q_aload_n 426 dL_law_425 rfl rfl ?_
  refine q_iload_n 427 dL_law_426 rfl rfl ?_
  refine q_iconst (v := 2) 428 dL_law_427 rfl rfl ?_
  refine q_iadd 429 dL_law_428 rfl ?_
  refine q_sald 430 dL_law_429 rfl (nI_add p 2) (show p + 2 < gN g by omega) hN ?_
  refine q_aload_n 431 dL_law_430 rfl rfl ?_
  refine q_iload_n 432 dL_law_431 rfl rfl ?_
  refine q_iconst (v := 3) 433 dL_law_432 rfl rfl ?_
  refine q_iadd 434 dL_law_433 rfl ?_
  refine q_sald 435 dL_law_434 rfl (nI_add p 3) (show p + 3 < gN g by omega) hN ?_
  refine q_callV 438 dL_law_435 rfl (c5_cell M _ _ _ (M 31 0) hR hW hT) cw_L_36 (by decide) rfl rfl ⟨by decide, by decide⟩ hk (Nat.le_of_ble_eq_true rfl) ?_
  rintro _ M1 ⟨rfl, k1, hR1⟩
  have e31 : M1 31 0 = M 31 0 := k1 31 0 (by decide) (by decide)
  refine q_aload_n 439 dL_law_438 rfl rfl ?_
  refine q_aload_n 440 dL_law_439 rfl rfl ?_
  refine q_iload_n 441 dL_law_440 rfl rfl ?_
  refine q_iconst (v := 1) 442 dL_law_441 rfl rfl ?_
  refine q_iadd 443 dL_law_442 rfl ?_
  refine q_sald 444 dL_law_443 rfl (nI_add p 1) (show p + 1 < gN g by omega) hN ?_
  refine q_aload_n 445 dL_law_444 rfl rfl ?_
  refine q_iload_n 446 dL_law_445 rfl rfl ?_
  refine q_iconst (v := 2) 447 dL_law_446 rfl rfl ?_
  refine q_iadd 448 dL_law_447 rfl ?_
  refine q_sald 449 dL_law_448 rfl (nI_add p 2) (show p + 2 < gN g by omega) hN ?_
  refine q_aload_n 450 dL_law_449 rfl rfl ?_
  refine q_iload_n 451 dL_law_450 rfl rfl ?_
  refine q_iconst (v := 3) 452 dL_law_451 rfl rfl ?_
  refine q_iadd 453 dL_law_452 rfl ?_
  refine q_sald 454 dL_law_453 rfl (nI_add p 3) (show p + 3 < gN g by omega) hN ?_
  refine q_callV 457 dL_law_454 rfl (c6_cell M1 _ _ _ (M 31 0) e31 hW.k) cw_L_39 (by decide) rfl rfl ⟨by decide, by decide⟩ hk (Nat.le_of_ble_eq_true rfl) ?_
  rintro _ M2 ⟨rfl, rfl⟩
  refine q_icmp_eq 1576 460 dL_law_457 rfl rfl (fun _ => ?_) (fun h_457 => absurd rfl h_457)
  exact hih _ (Iv_pa hI k1 hR1 (k_cell hW _ _ _))
set_option maxRecDepth 100000 in
set_option maxHeartbeats 4000000 in
theorem law_cellOf {g : GT} {kc ks : Nat} (hk : kc ≤ 600000 ∧ ks ≤ 7302250) (hN : gN g < 2 ^ 31) (M : TM) (hI : Iv M) (p : Nat) (hp : p + 6 ≤ gN g) (hih : ∀ M2, Iv M2 → TR g room_1 RL cL_law 4 ret kc ks (ZL g) 1576 [some (.ref (gad g 52 0)), some (.ref (gad g 5 0)), some (.ref (gad g 6 0)), some (.int (nI p))] [] M2) : TR g room_1 RL cL_law 4 ret kc ks (ZL g) 462 [some (.ref (gad g 52 0)), some (.ref (gad g 5 0)), some (.ref (gad g 6 0)), some (.int (nI p))] [] M := by
  obtain ⟨hA, hB, hC, hD, hE, hF⟩ := id hI
  obtain ⟨hW, hR, hT⟩ := id hA
  obtain ⟨tp, h96, et⟩ := id hE.2.2.1
  obtain ⟨w, h60, ew⟩ := id hF.2.2
  refine q_aload_n 463 dL_law_462 rfl rfl ?_
  refine q_aload_n 464 dL_law_463 rfl rfl ?_
  refine q_iload_n 465 dL_law_464 rfl rfl ?_
  refine q_iconst (v := 1) 466 dL_law_465 rfl rfl ?_
  refine q_iadd 467 dL_law_466 rfl ?_
  refine q_sald 468 dL_law_467 rfl (nI_add p 1) (show p + 1 < gN g by omega) hN ?_
  refine q_aload_n 469 dL_law_468 rfl rfl ?_
  refine q_iload_n 470 dL_law_469 rfl rfl ?_
  refine q_iconst (v := 2) 471 dL_law_470 rfl rfl ?_
  refine q_iadd 472 dL_law_471 rfl ?_
  refine q_sald 473 dL_law_472 rfl (nI_add p 2) (show p + 2 < gN g by omega) hN ?_
  refine q_callV 476 dL_law_473 rfl (c5_cellOf M _ _ (M 31 0) hR hW hT) cw_L_40 (by decide) rfl rfl ⟨by decide, by decide⟩ hk (Nat.le_of_ble_eq_true rfl) ?_
  rintro _ M1 ⟨rfl, pz, rfl⟩
  refine q_aload_n 477 dL_law_476 rfl rfl ?_
  refine q_aload_n 478 dL_law_477 rfl rfl ?_
  refine q_iload_n 479 dL_law_478 rfl rfl ?_
  refine q_iconst (v := 1) 480 dL_law_479 rfl rfl ?_
  refine q_iadd 481 dL_law_480 rfl ?_
  refine q_sald 482 dL_law_481 rfl (nI_add p 1) (show p + 1 < gN g by omega) hN ?_
  refine q_aload_n 483 dL_law_482 rfl rfl ?_
  refine q_iload_n 484 dL_law_483 rfl rfl ?_
  refine q_iconst (v := 2) 485 dL_law_484 rfl rfl ?_
  refine q_iadd 486 dL_law_485 rfl ?_
  refine q_sald 487 dL_law_486 rfl (nI_add p 2) (show p + 2 < gN g by omega) hN ?_
  refine q_callV 490 dL_law_487 rfl (c6_cellOf _ _ _ (M 31 0) rfl hW.k) cw_L_43 (by decide) rfl rfl ⟨by decide, by decide⟩ hk (Nat.le_of_ble_eq_true rfl) ?_
  rintro _ M2 ⟨rfl, f, f2, rfl⟩
  refine q_icmp_eq 1576 493 dL_law_490 rfl rfl (fun _ => ?_) (fun h_490 => absurd rfl h_490)
  exact hih _ (Iv_KQ hI ((Kl.s17 M pz).q.sc f f2))
set_option maxRecDepth 100000 in
set_option maxHeartbeats 4000000 in
theorem law_rule {g : GT} {kc ks : Nat} (hk : kc ≤ 600000 ∧ ks ≤ 7302250) (hN : gN g < 2 ^ 31) (M : TM) (hI : Iv M) (p : Nat) (hp : p + 6 ≤ gN g) (hih : ∀ M2, Iv M2 → TR g room_1 RL cL_law 4 ret kc ks (ZL g) 1576 [some (.ref (gad g 52 0)), some (.ref (gad g 5 0)), some (.ref (gad g 6 0)), some (.int (nI p))] [] M2) : TR g room_1 RL cL_law 4 ret kc ks (ZL g) 495 [some (.ref (gad g 52 0)), some (.ref (gad g 5 0)), some (.ref (gad g 6 0)), some (.int (nI p))] [] M := by
  obtain ⟨hA, hB, hC, hD, hE, hF⟩ := id hI
  obtain ⟨hW, hR, hT⟩ := id hA
  obtain ⟨tp, h96, et⟩ := id hE.2.2.1
  obtain ⟨w, h60, ew⟩ := id hF.2.2
  refine q_aload_n 496 dL_law_495 rfl rfl ?_
  refine q_aload_n 497 dL_law_496 rfl rfl ?_
  refine q_iload_n 498 dL_law_497 rfl rfl ?_
  refine q_iconst (v := 1) 499 dL_law_498 rfl rfl ?_
  refine q_iadd 500 dL_law_499 rfl ?_
  refine q_sald 501 dL_law_500 rfl (nI_add p 1) (show p + 1 < gN g by omega) hN ?_
  refine q_aload_n 502 dL_law_501 rfl rfl ?_
  refine q_iload_n 503 dL_law_502 rfl rfl ?_
  refine q_iconst (v := 2) 504 dL_law_503 rfl rfl ?_
  refine q_iadd 505 dL_law_504 rfl ?_
  refine q_sald 506 dL_law_505 rfl (nI_add p 2) (show p + 2 < gN g by omega) hN ?_
  refine q_callV 509 dL_law_506 rfl (c5_rule M _ _ (M 31 0) hR hW hT) cw_L_44 (by decide) rfl rfl ⟨by decide, by decide⟩ hk (Nat.le_of_ble_eq_true rfl) ?_
  rintro _ M1 ⟨rfl, k1, hR1⟩
  have e31 : M1 31 0 = M 31 0 := k1 31 0 (by decide) (by decide)
  refine q_aload_n 510 dL_law_509 rfl rfl ?_
  refine q_aload_n 511 dL_law_510 rfl rfl ?_
  refine q_iload_n 512 dL_law_511 rfl rfl ?_
  refine q_iconst (v := 1) 513 dL_law_512 rfl rfl ?_
  refine q_iadd 514 dL_law_513 rfl ?_
  refine q_sald 515 dL_law_514 rfl (nI_add p 1) (show p + 1 < gN g by omega) hN ?_
  refine q_aload_n 516 dL_law_515 rfl rfl ?_
  refine q_iload_n 517 dL_law_516 rfl rfl ?_
  refine q_iconst (v := 2) 518 dL_law_517 rfl rfl ?_
  refine q_iadd 519 dL_law_518 rfl ?_
  refine q_sald 520 dL_law_519 rfl (nI_add p 2) (show p + 2 < gN g by omega) hN ?_
  refine q_callV 523 dL_law_520 rfl (c6_rule M1 _ _ (M 31 0) e31 hW.k) cw_L_47 (by decide) rfl rfl ⟨by decide, by decide⟩ hk (Nat.le_of_ble_eq_true rfl) ?_
  rintro _ M2 ⟨rfl, rfl⟩
  refine q_icmp_eq 1576 526 dL_law_523 rfl rfl (fun _ => ?_) (fun h_523 => absurd rfl h_523)
  exact hih _ (Iv_pa hI k1 hR1 (k_rule hW _ _))
set_option maxRecDepth 100000 in
set_option maxHeartbeats 4000000 in
theorem law_deal {g : GT} {kc ks : Nat} (hk : kc ≤ 600000 ∧ ks ≤ 7302250) (hN : gN g < 2 ^ 31) (M : TM) (hI : Iv M) (p : Nat) (hp : p + 6 ≤ gN g) (hih : ∀ M2, Iv M2 → TR g room_1 RL cL_law 4 ret kc ks (ZL g) 1576 [some (.ref (gad g 52 0)), some (.ref (gad g 5 0)), some (.ref (gad g 6 0)), some (.int (nI p))] [] M2) : TR g room_1 RL cL_law 4 ret kc ks (ZL g) 528 [some (.ref (gad g 52 0)), some (.ref (gad g 5 0)), some (.ref (gad g 6 0)), some (.int (nI p))] [] M := by
  obtain ⟨hA, hB, hC, hD, hE, hF⟩ := id hI
  obtain ⟨hW, hR, hT⟩ := id hA
  obtain ⟨tp, h96, et⟩ := id hE.2.2.1
  obtain ⟨w, h60, ew⟩ := id hF.2.2
  refine q_aload_n 529 dL_law_528 rfl rfl ?_
  refine q_aload_n 530 dL_law_529 rfl rfl ?_
  refine q_iload_n 531 dL_law_530 rfl rfl ?_
  refine q_iconst (v := 1) 532 dL_law_531 rfl rfl ?_
  refine q_iadd 533 dL_law_532 rfl ?_
  refine q_sald 534 dL_law_533 rfl (nI_add p 1) (show p + 1 < gN g by omega) hN ?_
  refine q_callV 537 dL_law_534 rfl (c5_deal M _ (M 31 0) hR hW hT) cw_L_48 (by decide) rfl rfl ⟨by decide, by decide⟩ hk (Nat.le_of_ble_eq_true rfl) ?_
  rintro _ M1 ⟨rfl, k1, hR1⟩
  have e31 : M1 31 0 = M 31 0 := k1 31 0 (by decide) (by decide)
  refine q_aload_n 538 dL_law_537 rfl rfl ?_
  refine q_aload_n 539 dL_law_538 rfl rfl ?_
  refine q_iload_n 540 dL_law_539 rfl rfl ?_
  refine q_iconst (v := 1) 541 dL_law_540 rfl rfl ?_
  refine q_iadd 542 dL_law_541 rfl ?_
  refine q_sald 543 dL_law_542 rfl (nI_add p 1) (show p + 1 < gN g by omega) hN ?_
  refine q_callV 546 dL_law_543 rfl (c6_deal M1 _ (M 31 0) e31 hW.k) cw_L_52 (by decide) rfl rfl ⟨by decide, by decide⟩ hk (Nat.le_of_ble_eq_true rfl) ?_
  rintro _ M2 ⟨rfl, rfl⟩
  refine q_icmp_eq 1576 549 dL_law_546 rfl rfl (fun _ => ?_) (fun h_546 => absurd rfl h_546)
  exact hih _ (Iv_pa hI k1 hR1 (k_deal hW _))
set_option maxRecDepth 100000 in
set_option maxHeartbeats 4000000 in
theorem law_seed {g : GT} {kc ks : Nat} (hk : kc ≤ 600000 ∧ ks ≤ 7302250) (hN : gN g < 2 ^ 31) (M : TM) (hI : Iv M) (p : Nat) (hp : p + 6 ≤ gN g) (hih : ∀ M2, Iv M2 → TR g room_1 RL cL_law 4 ret kc ks (ZL g) 1576 [some (.ref (gad g 52 0)), some (.ref (gad g 5 0)), some (.ref (gad g 6 0)), some (.int (nI p))] [] M2) : TR g room_1 RL cL_law 4 ret kc ks (ZL g) 551 [some (.ref (gad g 52 0)), some (.ref (gad g 5 0)), some (.ref (gad g 6 0)), some (.int (nI p))] [] M := by
  obtain ⟨hA, hB, hC, hD, hE, hF⟩ := id hI
  obtain ⟨hW, hR, hT⟩ := id hA
  obtain ⟨tp, h96, et⟩ := id hE.2.2.1
  obtain ⟨w, h60, ew⟩ := id hF.2.2
  refine q_aload_n 552 dL_law_551 rfl rfl ?_
  refine q_aload_n 553 dL_law_552 rfl rfl ?_
  refine q_iload_n 554 dL_law_553 rfl rfl ?_
  refine q_iconst (v := 1) 555 dL_law_554 rfl rfl ?_
  refine q_iadd 556 dL_law_555 rfl ?_
  refine q_sald 557 dL_law_556 rfl (nI_add p 1) (show p + 1 < gN g by omega) hN ?_
  refine q_callV 560 dL_law_557 rfl (c5_seed M _ (M 31 0) hR hW hT) cw_L_53 (by decide) rfl rfl ⟨by decide, by decide⟩ hk (Nat.le_of_ble_eq_true rfl) ?_
  rintro _ M1 ⟨rfl, k1, hR1⟩
  have e31 : M1 31 0 = M 31 0 := k1 31 0 (by decide) (by decide)
  refine q_aload_n 561 dL_law_560 rfl rfl ?_
  refine q_aload_n 562 dL_law_561 rfl rfl ?_
  refine q_iload_n 563 dL_law_562 rfl rfl ?_
  refine q_iconst (v := 1) 564 dL_law_563 rfl rfl ?_
  refine q_iadd 565 dL_law_564 rfl ?_
  refine q_sald 566 dL_law_565 rfl (nI_add p 1) (show p + 1 < gN g by omega) hN ?_
  refine q_callV 569 dL_law_566 rfl (c6_seed M1 _ (M 31 0) e31) cw_L_56 (by decide) rfl rfl ⟨by decide, by decide⟩ hk (Nat.le_of_ble_eq_true rfl) ?_
  rintro _ M2 ⟨rfl, rfl⟩
  refine q_icmp_eq 1576 572 dL_law_569 rfl rfl (fun _ => ?_) (fun h_569 => absurd rfl h_569)
  exact hih _ (Iv_pa hI k1 hR1 (k_seed hW _))
set_option maxRecDepth 100000 in
set_option maxHeartbeats 4000000 in
theorem law_fewest {g : GT} {kc ks : Nat} (hk : kc ≤ 600000 ∧ ks ≤ 7302250) (hN : gN g < 2 ^ 31) (M : TM) (hI : Iv M) (p : Nat) (hp : p + 6 ≤ gN g) (hih : ∀ M2, Iv M2 → TR g room_1 RL cL_law 4 ret kc ks (ZL g) 1576 [some (.ref (gad g 52 0)), some (.ref (gad g 5 0)), some (.ref (gad g 6 0)), some (.int (nI p))] [] M2) : TR g room_1 RL cL_law 4 ret kc ks (ZL g) 574 [some (.ref (gad g 52 0)), some (.ref (gad g 5 0)), some (.ref (gad g 6 0)), some (.int (nI p))] [] M := by
  obtain ⟨hA, hB, hC, hD, hE, hF⟩ := id hI
  obtain ⟨hW, hR, hT⟩ := id hA
  obtain ⟨tp, h96, et⟩ := id hE.2.2.1
  obtain ⟨w, h60, ew⟩ := id hF.2.2
  refine q_aload_n 575 dL_law_574 rfl rfl ?_
  refine q_aload_n 576 dL_law_575 rfl rfl ?_
  refine q_iload_n 577 dL_law_576 rfl rfl ?_
  refine q_iconst (v := 1) 578 dL_law_577 rfl rfl ?_
  refine q_iadd 579 dL_law_578 rfl ?_
  refine q_sald 580 dL_law_579 rfl (nI_add p 1) (show p + 1 < gN g by omega) hN ?_
  refine q_aload_n 581 dL_law_580 rfl rfl ?_
  refine q_iload_n 582 dL_law_581 rfl rfl ?_
  refine q_iconst (v := 2) 583 dL_law_582 rfl rfl ?_
  refine q_iadd 584 dL_law_583 rfl ?_
  refine q_sald 585 dL_law_584 rfl (nI_add p 2) (show p + 2 < gN g by omega) hN ?_
  refine q_callV 588 dL_law_585 rfl (c5_fewest M _ _ (M 31 0) hR hW hT) cw_L_57 (by decide) rfl rfl ⟨by decide, by decide⟩ hk (Nat.le_of_ble_eq_true rfl) ?_
  rintro _ M1 ⟨rfl, pz, F, rfl⟩
  refine q_aload_n 589 dL_law_588 rfl rfl ?_
  refine q_aload_n 590 dL_law_589 rfl rfl ?_
  refine q_iload_n 591 dL_law_590 rfl rfl ?_
  refine q_iconst (v := 1) 592 dL_law_591 rfl rfl ?_
  refine q_iadd 593 dL_law_592 rfl ?_
  refine q_sald 594 dL_law_593 rfl (nI_add p 1) (show p + 1 < gN g by omega) hN ?_
  refine q_aload_n 595 dL_law_594 rfl rfl ?_
  refine q_iload_n 596 dL_law_595 rfl rfl ?_
  refine q_iconst (v := 2) 597 dL_law_596 rfl rfl ?_
  refine q_iadd 598 dL_law_597 rfl ?_
  refine q_sald 599 dL_law_598 rfl (nI_add p 2) (show p + 2 < gN g by omega) hN ?_
  refine q_callV 602 dL_law_599 rfl (c6_fewest _ _ _ (M 31 0) rfl hW) cw_L_60 (by decide) rfl rfl ⟨by decide, by decide⟩ hk (Nat.le_of_ble_eq_true rfl) ?_
  rintro _ M2 ⟨rfl, f, f2, rfl⟩
  refine q_icmp_eq 1576 605 dL_law_602 rfl rfl (fun _ => ?_) (fun h_602 => absurd rfl h_602)
  exact hih _ (Iv_KQ hI (((Kl.s17 M pz).s30 F).q.sc f f2))
set_option maxRecDepth 100000 in
set_option maxHeartbeats 4000000 in
theorem law_breathe {g : GT} {kc ks : Nat} (hk : kc ≤ 600000 ∧ ks ≤ 7302250) (hN : gN g < 2 ^ 31) (M : TM) (hI : Iv M) (p : Nat) (hp : p + 6 ≤ gN g) (hih : ∀ M2, Iv M2 → TR g room_1 RL cL_law 4 ret kc ks (ZL g) 1576 [some (.ref (gad g 52 0)), some (.ref (gad g 5 0)), some (.ref (gad g 6 0)), some (.int (nI p))] [] M2) : TR g room_1 RL cL_law 4 ret kc ks (ZL g) 607 [some (.ref (gad g 52 0)), some (.ref (gad g 5 0)), some (.ref (gad g 6 0)), some (.int (nI p))] [] M := by
  obtain ⟨hA, hB, hC, hD, hE, hF⟩ := id hI
  obtain ⟨hW, hR, hT⟩ := id hA
  obtain ⟨tp, h96, et⟩ := id hE.2.2.1
  obtain ⟨w, h60, ew⟩ := id hF.2.2
  refine q_aload_n 608 dL_law_607 rfl rfl ?_
  refine q_aload_n 609 dL_law_608 rfl rfl ?_
  refine q_iload_n 610 dL_law_609 rfl rfl ?_
  refine q_iconst (v := 1) 611 dL_law_610 rfl rfl ?_
  refine q_iadd 612 dL_law_611 rfl ?_
  refine q_sald 613 dL_law_612 rfl (nI_add p 1) (show p + 1 < gN g by omega) hN ?_
  refine q_callV 616 dL_law_613 rfl (c5_breathe M _ (M 31 0) hR hW hT) cw_L_61 (by decide) rfl rfl ⟨by decide, by decide⟩ hk (Nat.le_of_ble_eq_true rfl) ?_
  rintro _ M1 ⟨rfl, k1, hR1⟩
  have e31 : M1 31 0 = M 31 0 := k1 31 0 (by decide) (by decide)
  refine q_aload_n 617 dL_law_616 rfl rfl ?_
  refine q_aload_n 618 dL_law_617 rfl rfl ?_
  refine q_iload_n 619 dL_law_618 rfl rfl ?_
  refine q_iconst (v := 1) 620 dL_law_619 rfl rfl ?_
  refine q_iadd 621 dL_law_620 rfl ?_
  refine q_sald 622 dL_law_621 rfl (nI_add p 1) (show p + 1 < gN g by omega) hN ?_
  refine q_callV 625 dL_law_622 rfl (c6_breathe M1 _ (M 31 0) e31 hW) cw_L_64 (by decide) rfl rfl ⟨by decide, by decide⟩ hk (Nat.le_of_ble_eq_true rfl) ?_
  rintro _ M2 ⟨rfl, f, f2, rfl⟩
  refine q_icmp_eq 1576 628 dL_law_625 rfl rfl (fun _ => ?_) (fun h_625 => absurd rfl h_625)
  exact hih _ (Iv_pb hI k1 hR1 (k_breathe hW _) f f2)
set_option maxRecDepth 100000 in
set_option maxHeartbeats 4000000 in
theorem law_dig {g : GT} {kc ks : Nat} (hk : kc ≤ 600000 ∧ ks ≤ 7302250) (hN : gN g < 2 ^ 31) (M : TM) (hI : Iv M) (p : Nat) (hp : p + 6 ≤ gN g) (hih : ∀ M2, Iv M2 → TR g room_1 RL cL_law 4 ret kc ks (ZL g) 1576 [some (.ref (gad g 52 0)), some (.ref (gad g 5 0)), some (.ref (gad g 6 0)), some (.int (nI p))] [] M2) : TR g room_1 RL cL_law 4 ret kc ks (ZL g) 630 [some (.ref (gad g 52 0)), some (.ref (gad g 5 0)), some (.ref (gad g 6 0)), some (.int (nI p))] [] M := by
  obtain ⟨hA, hB, hC, hD, hE, hF⟩ := id hI
  obtain ⟨hW, hR, hT⟩ := id hA
  obtain ⟨tp, h96, et⟩ := id hE.2.2.1
  obtain ⟨w, h60, ew⟩ := id hF.2.2
  refine q_aload_n 631 dL_law_630 rfl rfl ?_
  refine q_aload_n 632 dL_law_631 rfl rfl ?_
  refine q_iload_n 633 dL_law_632 rfl rfl ?_
  refine q_iconst (v := 1) 634 dL_law_633 rfl rfl ?_
  refine q_iadd 635 dL_law_634 rfl ?_
  refine q_sald 636 dL_law_635 rfl (nI_add p 1) (show p + 1 < gN g by omega) hN ?_
  refine q_aload_n 637 dL_law_636 rfl rfl ?_
  refine q_iload_n 638 dL_law_637 rfl rfl ?_
  refine q_iconst (v := 2) 639 dL_law_638 rfl rfl ?_
  refine q_iadd 640 dL_law_639 rfl ?_
  refine q_sald 641 dL_law_640 rfl (nI_add p 2) (show p + 2 < gN g by omega) hN ?_
  refine q_callV 644 dL_law_641 rfl (c5_dig M _ _ (M 31 0) hR hW hT) cw_L_65 (by decide) rfl rfl ⟨by decide, by decide⟩ hk (Nat.le_of_ble_eq_true rfl) ?_
  rintro _ M1 ⟨rfl, k1, hR1⟩
  have e31 : M1 31 0 = M 31 0 := k1 31 0 (by decide) (by decide)
  refine q_aload_n 645 dL_law_644 rfl rfl ?_
  refine q_aload_n 646 dL_law_645 rfl rfl ?_
  refine q_iload_n 647 dL_law_646 rfl rfl ?_
  refine q_iconst (v := 1) 648 dL_law_647 rfl rfl ?_
  refine q_iadd 649 dL_law_648 rfl ?_
  refine q_sald 650 dL_law_649 rfl (nI_add p 1) (show p + 1 < gN g by omega) hN ?_
  refine q_aload_n 651 dL_law_650 rfl rfl ?_
  refine q_iload_n 652 dL_law_651 rfl rfl ?_
  refine q_iconst (v := 2) 653 dL_law_652 rfl rfl ?_
  refine q_iadd 654 dL_law_653 rfl ?_
  refine q_sald 655 dL_law_654 rfl (nI_add p 2) (show p + 2 < gN g by omega) hN ?_
  refine q_callV 658 dL_law_655 rfl (c6_dig M1 _ _ (M 31 0) e31 hW) cw_L_68 (by decide) rfl rfl ⟨by decide, by decide⟩ hk (Nat.le_of_ble_eq_true rfl) ?_
  rintro _ M2 ⟨rfl, rfl⟩
  refine q_icmp_eq 1576 661 dL_law_658 rfl rfl (fun _ => ?_) (fun h_658 => absurd rfl h_658)
  exact hih _ (Iv_pa hI k1 hR1 (k_dig hW _ _))
set_option maxRecDepth 100000 in
set_option maxHeartbeats 4000000 in
theorem law_springs {g : GT} {kc ks : Nat} (hk : kc ≤ 600000 ∧ ks ≤ 7302250) (hN : gN g < 2 ^ 31) (M : TM) (hI : Iv M) (p : Nat) (hp : p + 6 ≤ gN g) (hih : ∀ M2, Iv M2 → TR g room_1 RL cL_law 4 ret kc ks (ZL g) 1576 [some (.ref (gad g 52 0)), some (.ref (gad g 5 0)), some (.ref (gad g 6 0)), some (.int (nI p))] [] M2) : TR g room_1 RL cL_law 4 ret kc ks (ZL g) 663 [some (.ref (gad g 52 0)), some (.ref (gad g 5 0)), some (.ref (gad g 6 0)), some (.int (nI p))] [] M := by
  obtain ⟨hA, hB, hC, hD, hE, hF⟩ := id hI
  obtain ⟨hW, hR, hT⟩ := id hA
  obtain ⟨tp, h96, et⟩ := id hE.2.2.1
  obtain ⟨w, h60, ew⟩ := id hF.2.2
  refine q_aload_n 664 dL_law_663 rfl rfl ?_
  refine q_aload_n 665 dL_law_664 rfl rfl ?_
  refine q_iload_n 666 dL_law_665 rfl rfl ?_
  refine q_iconst (v := 1) 667 dL_law_666 rfl rfl ?_
  refine q_iadd 668 dL_law_667 rfl ?_
  refine q_sald 669 dL_law_668 rfl (nI_add p 1) (show p + 1 < gN g by omega) hN ?_
  refine q_callV 672 dL_law_669 rfl (c5_springs M _ (M 31 0) hR hW hT) cw_L_69 (by decide) rfl rfl ⟨by decide, by decide⟩ hk (Nat.le_of_ble_eq_true rfl) ?_
  rintro _ M1 ⟨rfl, k1, hR1⟩
  have e31 : M1 31 0 = M 31 0 := k1 31 0 (by decide) (by decide)
  refine q_aload_n 673 dL_law_672 rfl rfl ?_
  refine q_aload_n 674 dL_law_673 rfl rfl ?_
  refine q_iload_n 675 dL_law_674 rfl rfl ?_
  refine q_iconst (v := 1) 676 dL_law_675 rfl rfl ?_
  refine q_iadd 677 dL_law_676 rfl ?_
  refine q_sald 678 dL_law_677 rfl (nI_add p 1) (show p + 1 < gN g by omega) hN ?_
  refine q_callV 681 dL_law_678 rfl (c6_springs M1 _ (M 31 0) e31 hW) cw_L_72 (by decide) rfl rfl ⟨by decide, by decide⟩ hk (Nat.le_of_ble_eq_true rfl) ?_
  rintro _ M2 ⟨rfl, f, f2, rfl⟩
  refine q_icmp_eq 1576 684 dL_law_681 rfl rfl (fun _ => ?_) (fun h_681 => absurd rfl h_681)
  exact hih _ (Iv_pb hI k1 hR1 (k_springs hW _) f f2)
set_option maxRecDepth 100000 in
set_option maxHeartbeats 4000000 in
theorem law_walls {g : GT} {kc ks : Nat} (hk : kc ≤ 600000 ∧ ks ≤ 7302250) (hN : gN g < 2 ^ 31) (M : TM) (hI : Iv M) (p : Nat) (hp : p + 6 ≤ gN g) (hih : ∀ M2, Iv M2 → TR g room_1 RL cL_law 4 ret kc ks (ZL g) 1576 [some (.ref (gad g 52 0)), some (.ref (gad g 5 0)), some (.ref (gad g 6 0)), some (.int (nI p))] [] M2) : TR g room_1 RL cL_law 4 ret kc ks (ZL g) 686 [some (.ref (gad g 52 0)), some (.ref (gad g 5 0)), some (.ref (gad g 6 0)), some (.int (nI p))] [] M := by
  obtain ⟨hA, hB, hC, hD, hE, hF⟩ := id hI
  obtain ⟨hW, hR, hT⟩ := id hA
  obtain ⟨tp, h96, et⟩ := id hE.2.2.1
  obtain ⟨w, h60, ew⟩ := id hF.2.2
  refine q_aload_n 687 dL_law_686 rfl rfl ?_
  refine q_aload_n 688 dL_law_687 rfl rfl ?_
  refine q_iload_n 689 dL_law_688 rfl rfl ?_
  refine q_iconst (v := 1) 690 dL_law_689 rfl rfl ?_
  refine q_iadd 691 dL_law_690 rfl ?_
  refine q_sald 692 dL_law_691 rfl (nI_add p 1) (show p + 1 < gN g by omega) hN ?_
  refine q_callV 695 dL_law_692 rfl (c5_walls M _ (M 31 0) hR hW hT) cw_L_73 (by decide) rfl rfl ⟨by decide, by decide⟩ hk (Nat.le_of_ble_eq_true rfl) ?_
  rintro _ M1 ⟨rfl, pz, rfl⟩
  refine q_aload_n 696 dL_law_695 rfl rfl ?_
  refine q_aload_n 697 dL_law_696 rfl rfl ?_
  refine q_iload_n 698 dL_law_697 rfl rfl ?_
  refine q_iconst (v := 1) 699 dL_law_698 rfl rfl ?_
  refine q_iadd 700 dL_law_699 rfl ?_
  refine q_sald 701 dL_law_700 rfl (nI_add p 1) (show p + 1 < gN g by omega) hN ?_
  refine q_callV 704 dL_law_701 rfl (c6_walls _ _ (M 31 0) rfl hW) cw_L_76 (by decide) rfl rfl ⟨by decide, by decide⟩ hk (Nat.le_of_ble_eq_true rfl) ?_
  rintro _ M2 ⟨rfl, f, f2, rfl⟩
  refine q_icmp_eq 1576 707 dL_law_704 rfl rfl (fun _ => ?_) (fun h_704 => absurd rfl h_704)
  exact hih _ (Iv_KQ hI ((Kl.s17 M pz).q.sc f f2))
set_option maxRecDepth 100000 in
set_option maxHeartbeats 4000000 in
theorem law_behind {g : GT} {kc ks : Nat} (hk : kc ≤ 600000 ∧ ks ≤ 7302250) (hN : gN g < 2 ^ 31) (M : TM) (hI : Iv M) (p : Nat) (hp : p + 6 ≤ gN g) (hih : ∀ M2, Iv M2 → TR g room_1 RL cL_law 4 ret kc ks (ZL g) 1576 [some (.ref (gad g 52 0)), some (.ref (gad g 5 0)), some (.ref (gad g 6 0)), some (.int (nI p))] [] M2) : TR g room_1 RL cL_law 4 ret kc ks (ZL g) 709 [some (.ref (gad g 52 0)), some (.ref (gad g 5 0)), some (.ref (gad g 6 0)), some (.int (nI p))] [] M := by
  obtain ⟨hA, hB, hC, hD, hE, hF⟩ := id hI
  obtain ⟨hW, hR, hT⟩ := id hA
  obtain ⟨tp, h96, et⟩ := id hE.2.2.1
  obtain ⟨w, h60, ew⟩ := id hF.2.2
  refine q_aload_n 710 dL_law_709 rfl rfl ?_
  refine q_aload_n 711 dL_law_710 rfl rfl ?_
  refine q_iload_n 712 dL_law_711 rfl rfl ?_
  refine q_iconst (v := 1) 713 dL_law_712 rfl rfl ?_
  refine q_iadd 714 dL_law_713 rfl ?_
  refine q_sald 715 dL_law_714 rfl (nI_add p 1) (show p + 1 < gN g by omega) hN ?_
  refine q_aload_n 716 dL_law_715 rfl rfl ?_
  refine q_iload_n 717 dL_law_716 rfl rfl ?_
  refine q_iconst (v := 2) 718 dL_law_717 rfl rfl ?_
  refine q_iadd 719 dL_law_718 rfl ?_
  refine q_sald 720 dL_law_719 rfl (nI_add p 2) (show p + 2 < gN g by omega) hN ?_
  refine q_callV 723 dL_law_720 rfl (c5_behind M _ _ (M 31 0) hR hW hT) cw_L_77 (by decide) rfl rfl ⟨by decide, by decide⟩ hk (Nat.le_of_ble_eq_true rfl) ?_
  rintro _ M1 ⟨rfl, k1⟩
  have e31 : M1 31 0 = M 31 0 := k1 31 0 (by decide) (by decide)
  refine q_aload_n 724 dL_law_723 rfl rfl ?_
  refine q_aload_n 725 dL_law_724 rfl rfl ?_
  refine q_iload_n 726 dL_law_725 rfl rfl ?_
  refine q_iconst (v := 1) 727 dL_law_726 rfl rfl ?_
  refine q_iadd 728 dL_law_727 rfl ?_
  refine q_sald 729 dL_law_728 rfl (nI_add p 1) (show p + 1 < gN g by omega) hN ?_
  refine q_aload_n 730 dL_law_729 rfl rfl ?_
  refine q_iload_n 731 dL_law_730 rfl rfl ?_
  refine q_iconst (v := 2) 732 dL_law_731 rfl rfl ?_
  refine q_iadd 733 dL_law_732 rfl ?_
  refine q_sald 734 dL_law_733 rfl (nI_add p 2) (show p + 2 < gN g by omega) hN ?_
  refine q_callV 737 dL_law_734 rfl (c6_behind M1 _ _ (M 31 0) e31 hW) cw_L_80 (by decide) rfl rfl ⟨by decide, by decide⟩ hk (Nat.le_of_ble_eq_true rfl) ?_
  rintro _ M2 ⟨rfl, C, f, f2, rfl⟩
  refine q_icmp_eq 1576 740 dL_law_737 rfl rfl (fun _ => ?_) (fun h_737 => absurd rfl h_737)
  exact hih _ (Iv_KQ hI (((Kl.p2 k1).q.s42 C).sc f f2).s31)
