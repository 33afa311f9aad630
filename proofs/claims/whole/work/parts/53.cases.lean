set_option maxRecDepth 100000 in
set_option maxHeartbeats 4000000 in
theorem law_row {E : jD} {nm : String} {b L : Nat} {xs : Nat → Int32} {ad ma : Nat → Nat} {C M : va_W} {i : Nat} (hL : L ≤ 3072) (hi : i + 6 ≤ L) (hRel : Rel E ad ma C M) (kk : ∀ C2 M2, Rel E ad ma C2 M2 → J E (YL nm) (ZL b L xs) 56 1618 1138 (lvL b ad ma i) [] (C2 ++ M2)) : J E (YL nm) (ZL b L xs) 56 1618 184 (lvL b ad ma i) [] (C ++ M) := by
  obtain ⟨z, QC, QM, h1, h2, h3, h4, h5⟩ := st_row E ad ma C M hRel (xs (i + 1)).toInt (xs (i + 2)).toInt (iI_rng _) (iI_rng _)
  refine j_aload_1 185 dL_law_184 rfl ?_
  refine j_aload_0 186 dL_law_185 rfl ?_
  refine j_iload_3 187 dL_law_186 rfl ?_
  refine j_iconst 188 dL_law_187 ?_
  refine j_iadd 189 dL_law_188 ?_
  refine j_sld 190 (i + 1) dL_law_189 (by omega) (by omega) hL ?_
  refine j_aload_0 191 dL_law_190 rfl ?_
  refine j_iload_3 192 dL_law_191 rfl ?_
  refine j_iconst 193 dL_law_192 ?_
  refine j_iadd 194 dL_law_193 ?_
  refine j_sld 195 (i + 2) dL_law_194 (by omega) (by omega) hL ?_
  refine j_callX 198 Y_X6_row [_, _] h1 h2 m_X6_row wml_L_13 dL_law_195 rfl rfl (Rel_at hRel).1 rfl rfl rfl rfl rfl (fun C2 g1 => ?_)
  refine j_aload_2 199 dL_law_198 rfl ?_
  refine j_aload_0 200 dL_law_199 rfl ?_
  refine j_iload_3 201 dL_law_200 rfl ?_
  refine j_iconst 202 dL_law_201 ?_
  refine j_iadd 203 dL_law_202 ?_
  refine j_sld 204 (i + 1) dL_law_203 (by omega) (by omega) hL ?_
  refine j_aload_0 205 dL_law_204 rfl ?_
  refine j_iload_3 206 dL_law_205 rfl ?_
  refine j_iconst 207 dL_law_206 ?_
  refine j_iadd 208 dL_law_207 ?_
  refine j_sld 209 (i + 2) dL_law_208 (by omega) (by omega) hL ?_
  refine j_callM 212 Y_X7_row [_, _] h3 h4 m_X7_row wml_L_17 dL_law_209 rfl rfl (Rel_at hRel).2 rfl rfl rfl rfl rfl (fun M2 g2 => ?_)
  exact j_same 1138 dL_law_212 (kk C2 M2 (h5 _ _ g1 g2))

set_option maxRecDepth 100000 in
set_option maxHeartbeats 4000000 in
theorem law_lay {E : jD} {nm : String} {b L : Nat} {xs : Nat → Int32} {ad ma : Nat → Nat} {C M : va_W} {i : Nat} (hL : L ≤ 3072) (hi : i + 6 ≤ L) (hRel : Rel E ad ma C M) (kk : ∀ C2 M2, Rel E ad ma C2 M2 → J E (YL nm) (ZL b L xs) 56 1618 1138 (lvL b ad ma i) [] (C2 ++ M2)) : J E (YL nm) (ZL b L xs) 56 1618 217 (lvL b ad ma i) [] (C ++ M) := by
  obtain ⟨z, QC, QM, h1, h2, h3, h4, h5⟩ := st_lay E ad ma C M hRel (xs (i + 1)).toInt (xs (i + 2)).toInt (xs (i + 3)).toInt (iI_rng _) (iI_rng _) (iI_rng _)
  refine j_aload_1 218 dL_law_217 rfl ?_
  refine j_aload_0 219 dL_law_218 rfl ?_
  refine j_iload_3 220 dL_law_219 rfl ?_
  refine j_iconst 221 dL_law_220 ?_
  refine j_iadd 222 dL_law_221 ?_
  refine j_sld 223 (i + 1) dL_law_222 (by omega) (by omega) hL ?_
  refine j_aload_0 224 dL_law_223 rfl ?_
  refine j_iload_3 225 dL_law_224 rfl ?_
  refine j_iconst 226 dL_law_225 ?_
  refine j_iadd 227 dL_law_226 ?_
  refine j_sld 228 (i + 2) dL_law_227 (by omega) (by omega) hL ?_
  refine j_aload_0 229 dL_law_228 rfl ?_
  refine j_iload_3 230 dL_law_229 rfl ?_
  refine j_iconst 231 dL_law_230 ?_
  refine j_iadd 232 dL_law_231 ?_
  refine j_sld 233 (i + 3) dL_law_232 (by omega) (by omega) hL ?_
  refine j_callX 236 Y_X6_lay [_, _, _] h1 h2 m_X6_lay wml_L_18 dL_law_233 rfl rfl (Rel_at hRel).1 rfl rfl rfl rfl rfl (fun C2 g1 => ?_)
  refine j_aload_2 237 dL_law_236 rfl ?_
  refine j_aload_0 238 dL_law_237 rfl ?_
  refine j_iload_3 239 dL_law_238 rfl ?_
  refine j_iconst 240 dL_law_239 ?_
  refine j_iadd 241 dL_law_240 ?_
  refine j_sld 242 (i + 1) dL_law_241 (by omega) (by omega) hL ?_
  refine j_aload_0 243 dL_law_242 rfl ?_
  refine j_iload_3 244 dL_law_243 rfl ?_
  refine j_iconst 245 dL_law_244 ?_
  refine j_iadd 246 dL_law_245 ?_
  refine j_sld 247 (i + 2) dL_law_246 (by omega) (by omega) hL ?_
  refine j_aload_0 248 dL_law_247 rfl ?_
  refine j_iload_3 249 dL_law_248 rfl ?_
  refine j_iconst 250 dL_law_249 ?_
  refine j_iadd 251 dL_law_250 ?_
  refine j_sld 252 (i + 3) dL_law_251 (by omega) (by omega) hL ?_
  refine j_callM 255 Y_X7_lay [_, _, _] h3 h4 m_X7_lay wml_L_22 dL_law_252 rfl rfl (Rel_at hRel).2 rfl rfl rfl rfl rfl (fun M2 g2 => ?_)
  exact j_same 1138 dL_law_255 (kk C2 M2 (h5 _ _ g1 g2))

set_option maxRecDepth 100000 in
set_option maxHeartbeats 4000000 in
theorem law_at {E : jD} {nm : String} {b L : Nat} {xs : Nat → Int32} {ad ma : Nat → Nat} {C M : va_W} {i : Nat} (hL : L ≤ 3072) (hi : i + 6 ≤ L) (hRel : Rel E ad ma C M) (kk : ∀ C2 M2, Rel E ad ma C2 M2 → J E (YL nm) (ZL b L xs) 56 1618 1138 (lvL b ad ma i) [] (C2 ++ M2)) : J E (YL nm) (ZL b L xs) 56 1618 260 (lvL b ad ma i) [] (C ++ M) := by
  obtain ⟨z, QC, QM, h1, h2, h3, h4, h5⟩ := st_at E ad ma C M hRel (xs (i + 1)).toInt (xs (i + 2)).toInt (iI_rng _) (iI_rng _)
  refine j_aload_1 261 dL_law_260 rfl ?_
  refine j_aload_0 262 dL_law_261 rfl ?_
  refine j_iload_3 263 dL_law_262 rfl ?_
  refine j_iconst 264 dL_law_263 ?_
  refine j_iadd 265 dL_law_264 ?_
  refine j_sld 266 (i + 1) dL_law_265 (by omega) (by omega) hL ?_
  refine j_aload_0 267 dL_law_266 rfl ?_
  refine j_iload_3 268 dL_law_267 rfl ?_
  refine j_iconst 269 dL_law_268 ?_
  refine j_iadd 270 dL_law_269 ?_
  refine j_sld 271 (i + 2) dL_law_270 (by omega) (by omega) hL ?_
  refine j_callX 274 Y_X6_at [_, _] h1 h2 m_X6_at wml_L_23 dL_law_271 rfl rfl (Rel_at hRel).1 rfl rfl rfl rfl rfl (fun C2 g1 => ?_)
  refine j_aload_2 275 dL_law_274 rfl ?_
  refine j_aload_0 276 dL_law_275 rfl ?_
  refine j_iload_3 277 dL_law_276 rfl ?_
  refine j_iconst 278 dL_law_277 ?_
  refine j_iadd 279 dL_law_278 ?_
  refine j_sld 280 (i + 1) dL_law_279 (by omega) (by omega) hL ?_
  refine j_aload_0 281 dL_law_280 rfl ?_
  refine j_iload_3 282 dL_law_281 rfl ?_
  refine j_iconst 283 dL_law_282 ?_
  refine j_iadd 284 dL_law_283 ?_
  refine j_sld 285 (i + 2) dL_law_284 (by omega) (by omega) hL ?_
  refine j_callM 288 Y_X7_at [_, _] h3 h4 m_X7_at wml_L_26 dL_law_285 rfl rfl (Rel_at hRel).2 rfl rfl rfl rfl rfl (fun M2 g2 => ?_)
  exact j_same 1138 dL_law_288 (kk C2 M2 (h5 _ _ g1 g2))

set_option maxRecDepth 100000 in
set_option maxHeartbeats 4000000 in
theorem law_tear {E : jD} {nm : String} {b L : Nat} {xs : Nat → Int32} {ad ma : Nat → Nat} {C M : va_W} {i : Nat} (hL : L ≤ 3072) (hi : i + 6 ≤ L) (hRel : Rel E ad ma C M) (kk : ∀ C2 M2, Rel E ad ma C2 M2 → J E (YL nm) (ZL b L xs) 56 1618 1138 (lvL b ad ma i) [] (C2 ++ M2)) : J E (YL nm) (ZL b L xs) 56 1618 293 (lvL b ad ma i) [] (C ++ M) := by
  obtain ⟨z, QC, QM, h1, h2, h3, h4, h5⟩ := st_tear E ad ma C M hRel (xs (i + 1)).toInt (iI_rng _)
  refine j_aload_1 294 dL_law_293 rfl ?_
  refine j_aload_0 295 dL_law_294 rfl ?_
  refine j_iload_3 296 dL_law_295 rfl ?_
  refine j_iconst 297 dL_law_296 ?_
  refine j_iadd 298 dL_law_297 ?_
  refine j_sld 299 (i + 1) dL_law_298 (by omega) (by omega) hL ?_
  refine j_callX 302 Y_X6_tear [_] h1 h2 m_X6_tear wml_L_27 dL_law_299 rfl rfl (Rel_at hRel).1 rfl rfl rfl rfl rfl (fun C2 g1 => ?_)
  refine j_aload_2 303 dL_law_302 rfl ?_
  refine j_aload_0 304 dL_law_303 rfl ?_
  refine j_iload_3 305 dL_law_304 rfl ?_
  refine j_iconst 306 dL_law_305 ?_
  refine j_iadd 307 dL_law_306 ?_
  refine j_sld 308 (i + 1) dL_law_307 (by omega) (by omega) hL ?_
  refine j_callM 311 Y_X7_tear [_] h3 h4 m_X7_tear wml_L_31 dL_law_308 rfl rfl (Rel_at hRel).2 rfl rfl rfl rfl rfl (fun M2 g2 => ?_)
  exact j_same 1138 dL_law_311 (kk C2 M2 (h5 _ _ g1 g2))

set_option maxRecDepth 100000 in
set_option maxHeartbeats 4000000 in
theorem law_copy {E : jD} {nm : String} {b L : Nat} {xs : Nat → Int32} {ad ma : Nat → Nat} {C M : va_W} {i : Nat} (hL : L ≤ 3072) (hi : i + 6 ≤ L) (hRel : Rel E ad ma C M) (kk : ∀ C2 M2, Rel E ad ma C2 M2 → J E (YL nm) (ZL b L xs) 56 1618 1138 (lvL b ad ma i) [] (C2 ++ M2)) : J E (YL nm) (ZL b L xs) 56 1618 316 (lvL b ad ma i) [] (C ++ M) := by
  obtain ⟨z, QC, QM, h1, h2, h3, h4, h5⟩ := st_copy E ad ma C M hRel (xs (i + 1)).toInt (xs (i + 2)).toInt (xs (i + 3)).toInt (xs (i + 4)).toInt (xs (i + 5)).toInt (iI_rng _) (iI_rng _) (iI_rng _) (iI_rng _) (iI_rng _)
  refine j_aload_1 317 dL_law_316 rfl ?_
  refine j_aload_0 318 dL_law_317 rfl ?_
  refine j_iload_3 319 dL_law_318 rfl ?_
  refine j_iconst 320 dL_law_319 ?_
  refine j_iadd 321 dL_law_320 ?_
  refine j_sld 322 (i + 1) dL_law_321 (by omega) (by omega) hL ?_
  refine j_aload_0 323 dL_law_322 rfl ?_
  refine j_iload_3 324 dL_law_323 rfl ?_
  refine j_iconst 325 dL_law_324 ?_
  refine j_iadd 326 dL_law_325 ?_
  refine j_sld 327 (i + 2) dL_law_326 (by omega) (by omega) hL ?_
  refine j_aload_0 328 dL_law_327 rfl ?_
  refine j_iload_3 329 dL_law_328 rfl ?_
  refine j_iconst 330 dL_law_329 ?_
  refine j_iadd 331 dL_law_330 ?_
  refine j_sld 332 (i + 3) dL_law_331 (by omega) (by omega) hL ?_
  refine j_aload_0 333 dL_law_332 rfl ?_
  refine j_iload_3 334 dL_law_333 rfl ?_
  refine j_iconst 335 dL_law_334 ?_
  refine j_iadd 336 dL_law_335 ?_
  refine j_sld 337 (i + 4) dL_law_336 (by omega) (by omega) hL ?_
  refine j_aload_0 338 dL_law_337 rfl ?_
  refine j_iload_3 339 dL_law_338 rfl ?_
  refine j_iconst 340 dL_law_339 ?_
  refine j_iadd 341 dL_law_340 ?_
  refine j_sld 342 (i + 5) dL_law_341 (by omega) (by omega) hL ?_
  refine j_callX 345 Y_X6_copy [_, _, _, _, _] h1 h2 m_X6_copy wml_L_32 dL_law_342 rfl rfl (Rel_at hRel).1 rfl rfl rfl rfl rfl (fun C2 g1 => ?_)
  refine j_aload_2 346 dL_law_345 rfl ?_
  refine j_aload_0 347 dL_law_346 rfl ?_
  refine j_iload_3 348 dL_law_347 rfl ?_
  refine j_iconst 349 dL_law_348 ?_
  refine j_iadd 350 dL_law_349 ?_
  refine j_sld 351 (i + 1) dL_law_350 (by omega) (by omega) hL ?_
  refine j_aload_0 352 dL_law_351 rfl ?_
  refine j_iload_3 353 dL_law_352 rfl ?_
  refine j_iconst 354 dL_law_353 ?_
  refine j_iadd 355 dL_law_354 ?_
  refine j_sld 356 (i + 2) dL_law_355 (by omega) (by omega) hL ?_
  refine j_aload_0 357 dL_law_356 rfl ?_
  refine j_iload_3 358 dL_law_357 rfl ?_
  refine j_iconst 359 dL_law_358 ?_
  refine j_iadd 360 dL_law_359 ?_
  refine j_sld 361 (i + 3) dL_law_360 (by omega) (by omega) hL ?_
  refine j_aload_0 362 dL_law_361 rfl ?_
  refine j_iload_3 363 dL_law_362 rfl ?_
  refine j_iconst 364 dL_law_363 ?_
  refine j_iadd 365 dL_law_364 ?_
  refine j_sld 366 (i + 4) dL_law_365 (by omega) (by omega) hL ?_
  refine j_aload_0 367 dL_law_366 rfl ?_
  refine j_iload_3 368 dL_law_367 rfl ?_
  refine j_iconst 369 dL_law_368 ?_
  refine j_iadd 370 dL_law_369 ?_
  refine j_sld 371 (i + 5) dL_law_370 (by omega) (by omega) hL ?_
  refine j_callM 374 Y_X7_copy [_, _, _, _, _] h3 h4 m_X7_copy wml_L_36 dL_law_371 rfl rfl (Rel_at hRel).2 rfl rfl rfl rfl rfl (fun M2 g2 => ?_)
  exact j_same 1138 dL_law_374 (kk C2 M2 (h5 _ _ g1 g2))

set_option maxRecDepth 100000 in
set_option maxHeartbeats 4000000 in
theorem law_build {E : jD} {nm : String} {b L : Nat} {xs : Nat → Int32} {ad ma : Nat → Nat} {C M : va_W} {i : Nat} (hL : L ≤ 3072) (hi : i + 6 ≤ L) (hRel : Rel E ad ma C M) (kk : ∀ C2 M2, Rel E ad ma C2 M2 → J E (YL nm) (ZL b L xs) 56 1618 1138 (lvL b ad ma i) [] (C2 ++ M2)) : J E (YL nm) (ZL b L xs) 56 1618 379 (lvL b ad ma i) [] (C ++ M) := by
  obtain ⟨z, QC, QM, h1, h2, h3, h4, h5⟩ := st_build E ad ma C M hRel (xs (i + 1)).toInt (xs (i + 2)).toInt (iI_rng _) (iI_rng _)
  refine j_aload_1 380 dL_law_379 rfl ?_
  refine j_aload_0 381 dL_law_380 rfl ?_
  refine j_iload_3 382 dL_law_381 rfl ?_
  refine j_iconst 383 dL_law_382 ?_
  refine j_iadd 384 dL_law_383 ?_
  refine j_sld 385 (i + 1) dL_law_384 (by omega) (by omega) hL ?_
  refine j_aload_0 386 dL_law_385 rfl ?_
  refine j_iload_3 387 dL_law_386 rfl ?_
  refine j_iconst 388 dL_law_387 ?_
  refine j_iadd 389 dL_law_388 ?_
  refine j_sld 390 (i + 2) dL_law_389 (by omega) (by omega) hL ?_
  refine j_callX 393 Y_X6_build [_, _] h1 h2 m_X6_build wml_L_37 dL_law_390 rfl rfl (Rel_at hRel).1 rfl rfl rfl rfl rfl (fun C2 g1 => ?_)
  refine j_aload_2 394 dL_law_393 rfl ?_
  refine j_aload_0 395 dL_law_394 rfl ?_
  refine j_iload_3 396 dL_law_395 rfl ?_
  refine j_iconst 397 dL_law_396 ?_
  refine j_iadd 398 dL_law_397 ?_
  refine j_sld 399 (i + 1) dL_law_398 (by omega) (by omega) hL ?_
  refine j_aload_0 400 dL_law_399 rfl ?_
  refine j_iload_3 401 dL_law_400 rfl ?_
  refine j_iconst 402 dL_law_401 ?_
  refine j_iadd 403 dL_law_402 ?_
  refine j_sld 404 (i + 2) dL_law_403 (by omega) (by omega) hL ?_
  refine j_callM 407 Y_X7_build [_, _] h3 h4 m_X7_build wml_L_40 dL_law_404 rfl rfl (Rel_at hRel).2 rfl rfl rfl rfl rfl (fun M2 g2 => ?_)
  exact j_same 1138 dL_law_407 (kk C2 M2 (h5 _ _ g1 g2))

set_option maxRecDepth 100000 in
set_option maxHeartbeats 4000000 in
theorem law_put {E : jD} {nm : String} {b L : Nat} {xs : Nat → Int32} {ad ma : Nat → Nat} {C M : va_W} {i : Nat} (hL : L ≤ 3072) (hi : i + 6 ≤ L) (hRel : Rel E ad ma C M) (kk : ∀ C2 M2, Rel E ad ma C2 M2 → J E (YL nm) (ZL b L xs) 56 1618 1138 (lvL b ad ma i) [] (C2 ++ M2)) : J E (YL nm) (ZL b L xs) 56 1618 412 (lvL b ad ma i) [] (C ++ M) := by
  obtain ⟨z, QC, QM, h1, h2, h3, h4, h5⟩ := st_put E ad ma C M hRel (xs (i + 1)).toInt (xs (i + 2)).toInt (iI_rng _) (iI_rng _)
  refine j_aload_1 413 dL_law_412 rfl ?_
  refine j_aload_0 414 dL_law_413 rfl ?_
  refine j_iload_3 415 dL_law_414 rfl ?_
  refine j_iconst 416 dL_law_415 ?_
  refine j_iadd 417 dL_law_416 ?_
  refine j_sld 418 (i + 1) dL_law_417 (by omega) (by omega) hL ?_
  refine j_aload_0 419 dL_law_418 rfl ?_
  refine j_iload_3 420 dL_law_419 rfl ?_
  refine j_iconst 421 dL_law_420 ?_
  refine j_iadd 422 dL_law_421 ?_
  refine j_sld 423 (i + 2) dL_law_422 (by omega) (by omega) hL ?_
  refine j_callX 426 Y_X6_put [_, _] h1 h2 m_X6_put wml_L_41 dL_law_423 rfl rfl (Rel_at hRel).1 rfl rfl rfl rfl rfl (fun C2 g1 => ?_)
  refine j_aload_2 427 dL_law_426 rfl ?_
  refine j_aload_0 428 dL_law_427 rfl ?_
  refine j_iload_3 429 dL_law_428 rfl ?_
  refine j_iconst 430 dL_law_429 ?_
  refine j_iadd 431 dL_law_430 ?_
  refine j_sld 432 (i + 1) dL_law_431 (by omega) (by omega) hL ?_
  refine j_aload_0 433 dL_law_432 rfl ?_
  refine j_iload_3 434 dL_law_433 rfl ?_
  refine j_iconst 435 dL_law_434 ?_
  refine j_iadd 436 dL_law_435 ?_
  refine j_sld 437 (i + 2) dL_law_436 (by omega) (by omega) hL ?_
  refine j_callM 440 Y_X7_put [_, _] h3 h4 m_X7_put wml_L_44 dL_law_437 rfl rfl (Rel_at hRel).2 rfl rfl rfl rfl rfl (fun M2 g2 => ?_)
  exact j_same 1138 dL_law_440 (kk C2 M2 (h5 _ _ g1 g2))

set_option maxRecDepth 100000 in
set_option maxHeartbeats 4000000 in
theorem law_undo {E : jD} {nm : String} {b L : Nat} {xs : Nat → Int32} {ad ma : Nat → Nat} {C M : va_W} {i : Nat} (hL : L ≤ 3072) (hi : i + 6 ≤ L) (hRel : Rel E ad ma C M) (kk : ∀ C2 M2, Rel E ad ma C2 M2 → J E (YL nm) (ZL b L xs) 56 1618 1138 (lvL b ad ma i) [] (C2 ++ M2)) : J E (YL nm) (ZL b L xs) 56 1618 445 (lvL b ad ma i) [] (C ++ M) := by
  obtain ⟨z, QC, QM, h1, h2, h3, h4, h5⟩ := st_undo E ad ma C M hRel  
  refine j_aload_1 446 dL_law_445 rfl ?_
  refine j_callX 449 Y_X6_undo [] h1 h2 m_X6_undo wml_L_45 dL_law_446 rfl rfl (Rel_at hRel).1 rfl rfl rfl rfl rfl (fun C2 g1 => ?_)
  refine j_aload_2 450 dL_law_449 rfl ?_
  refine j_callM 453 Y_X7_undo [] h3 h4 m_X7_undo wml_L_49 dL_law_450 rfl rfl (Rel_at hRel).2 rfl rfl rfl rfl rfl (fun M2 g2 => ?_)
  exact j_same 1138 dL_law_453 (kk C2 M2 (h5 _ _ g1 g2))

set_option maxRecDepth 100000 in
set_option maxHeartbeats 4000000 in
theorem law_keep {E : jD} {nm : String} {b L : Nat} {xs : Nat → Int32} {ad ma : Nat → Nat} {C M : va_W} {i : Nat} (hL : L ≤ 3072) (hi : i + 6 ≤ L) (hRel : Rel E ad ma C M) (kk : ∀ C2 M2, Rel E ad ma C2 M2 → J E (YL nm) (ZL b L xs) 56 1618 1138 (lvL b ad ma i) [] (C2 ++ M2)) : J E (YL nm) (ZL b L xs) 56 1618 458 (lvL b ad ma i) [] (C ++ M) := by
  obtain ⟨z, QC, QM, h1, h2, h3, h4, h5⟩ := st_keep E ad ma C M hRel (xs (i + 1)).toInt (iI_rng _)
  refine j_aload_1 459 dL_law_458 rfl ?_
  refine j_aload_0 460 dL_law_459 rfl ?_
  refine j_iload_3 461 dL_law_460 rfl ?_
  refine j_iconst 462 dL_law_461 ?_
  refine j_iadd 463 dL_law_462 ?_
  refine j_sld 464 (i + 1) dL_law_463 (by omega) (by omega) hL ?_
  refine j_callX 467 Y_X6_keep [_] h1 h2 m_X6_keep wml_L_50 dL_law_464 rfl rfl (Rel_at hRel).1 rfl rfl rfl rfl rfl (fun C2 g1 => ?_)
  refine j_aload_2 468 dL_law_467 rfl ?_
  refine j_aload_0 469 dL_law_468 rfl ?_
  refine j_iload_3 470 dL_law_469 rfl ?_
  refine j_iconst 471 dL_law_470 ?_
  refine j_iadd 472 dL_law_471 ?_
  refine j_sld 473 (i + 1) dL_law_472 (by omega) (by omega) hL ?_
  refine j_callM 476 Y_X7_keep [_] h3 h4 m_X7_keep wml_L_53 dL_law_473 rfl rfl (Rel_at hRel).2 rfl rfl rfl rfl rfl (fun M2 g2 => ?_)
  exact j_same 1138 dL_law_476 (kk C2 M2 (h5 _ _ g1 g2))

set_option maxRecDepth 100000 in
set_option maxHeartbeats 4000000 in
theorem law_on {E : jD} {nm : String} {b L : Nat} {xs : Nat → Int32} {ad ma : Nat → Nat} {C M : va_W} {i : Nat} (hL : L ≤ 3072) (hi : i + 6 ≤ L) (hRel : Rel E ad ma C M) (kk : ∀ C2 M2, Rel E ad ma C2 M2 → J E (YL nm) (ZL b L xs) 56 1618 1138 (lvL b ad ma i) [] (C2 ++ M2)) : J E (YL nm) (ZL b L xs) 56 1618 481 (lvL b ad ma i) [] (C ++ M) := by
  obtain ⟨z, QC, QM, h1, h2, h3, h4, h5⟩ := st_on E ad ma C M hRel (xs (i + 1)).toInt (iI_rng _)
  refine j_aload_1 482 dL_law_481 rfl ?_
  refine j_aload_0 483 dL_law_482 rfl ?_
  refine j_iload_3 484 dL_law_483 rfl ?_
  refine j_iconst 485 dL_law_484 ?_
  refine j_iadd 486 dL_law_485 ?_
  refine j_sld 487 (i + 1) dL_law_486 (by omega) (by omega) hL ?_
  refine j_callX 490 Y_X6_on [_] h1 h2 m_X6_on wml_L_54 dL_law_487 rfl rfl (Rel_at hRel).1 rfl rfl rfl rfl rfl (fun C2 g1 => ?_)
  refine j_aload_2 491 dL_law_490 rfl ?_
  refine j_aload_0 492 dL_law_491 rfl ?_
  refine j_iload_3 493 dL_law_492 rfl ?_
  refine j_iconst 494 dL_law_493 ?_
  refine j_iadd 495 dL_law_494 ?_
  refine j_sld 496 (i + 1) dL_law_495 (by omega) (by omega) hL ?_
  refine j_callM 499 Y_X7_on [_] h3 h4 m_X7_on wml_L_57 dL_law_496 rfl rfl (Rel_at hRel).2 rfl rfl rfl rfl rfl (fun M2 g2 => ?_)
  exact j_same 1138 dL_law_499 (kk C2 M2 (h5 _ _ g1 g2))

set_option maxRecDepth 100000 in
set_option maxHeartbeats 4000000 in
theorem law_item {E : jD} {nm : String} {b L : Nat} {xs : Nat → Int32} {ad ma : Nat → Nat} {C M : va_W} {i : Nat} (hL : L ≤ 3072) (hi : i + 6 ≤ L) (hRel : Rel E ad ma C M) (kk : ∀ C2 M2, Rel E ad ma C2 M2 → J E (YL nm) (ZL b L xs) 56 1618 1138 (lvL b ad ma i) [] (C2 ++ M2)) : J E (YL nm) (ZL b L xs) 56 1618 504 (lvL b ad ma i) [] (C ++ M) := by
  obtain ⟨z, QC, QM, h1, h2, h3, h4, h5⟩ := st_item E ad ma C M hRel (xs (i + 1)).toInt (iI_rng _)
  refine j_aload_1 505 dL_law_504 rfl ?_
  refine j_aload_0 506 dL_law_505 rfl ?_
  refine j_iload_3 507 dL_law_506 rfl ?_
  refine j_iconst 508 dL_law_507 ?_
  refine j_iadd 509 dL_law_508 ?_
  refine j_sld 510 (i + 1) dL_law_509 (by omega) (by omega) hL ?_
  refine j_callX 513 Y_X6_item [_] h1 h2 m_X6_item wml_L_58 dL_law_510 rfl rfl (Rel_at hRel).1 rfl rfl rfl rfl rfl (fun C2 g1 => ?_)
  refine j_aload_2 514 dL_law_513 rfl ?_
  refine j_aload_0 515 dL_law_514 rfl ?_
  refine j_iload_3 516 dL_law_515 rfl ?_
  refine j_iconst 517 dL_law_516 ?_
  refine j_iadd 518 dL_law_517 ?_
  refine j_sld 519 (i + 1) dL_law_518 (by omega) (by omega) hL ?_
  refine j_callM 522 Y_X7_item [_] h3 h4 m_X7_item wml_L_61 dL_law_519 rfl rfl (Rel_at hRel).2 rfl rfl rfl rfl rfl (fun M2 g2 => ?_)
  exact j_same 1138 dL_law_522 (kk C2 M2 (h5 _ _ g1 g2))

set_option maxRecDepth 100000 in
set_option maxHeartbeats 4000000 in
theorem law_shape {E : jD} {nm : String} {b L : Nat} {xs : Nat → Int32} {ad ma : Nat → Nat} {C M : va_W} {i : Nat} (hL : L ≤ 3072) (hi : i + 6 ≤ L) (hRel : Rel E ad ma C M) (kk : ∀ C2 M2, Rel E ad ma C2 M2 → J E (YL nm) (ZL b L xs) 56 1618 1138 (lvL b ad ma i) [] (C2 ++ M2)) : J E (YL nm) (ZL b L xs) 56 1618 527 (lvL b ad ma i) [] (C ++ M) := by
  obtain ⟨z, QC, QM, h1, h2, h3, h4, h5⟩ := st_shape E ad ma C M hRel (xs (i + 1)).toInt (iI_rng _)
  refine j_aload_1 528 dL_law_527 rfl ?_
  refine j_aload_0 529 dL_law_528 rfl ?_
  refine j_iload_3 530 dL_law_529 rfl ?_
  refine j_iconst 531 dL_law_530 ?_
  refine j_iadd 532 dL_law_531 ?_
  refine j_sld 533 (i + 1) dL_law_532 (by omega) (by omega) hL ?_
  refine j_callX 536 Y_X6_shape [_] h1 h2 m_X6_shape wml_L_62 dL_law_533 rfl rfl (Rel_at hRel).1 rfl rfl rfl rfl rfl (fun C2 g1 => ?_)
  refine j_aload_2 537 dL_law_536 rfl ?_
  refine j_aload_0 538 dL_law_537 rfl ?_
  refine j_iload_3 539 dL_law_538 rfl ?_
  refine j_iconst 540 dL_law_539 ?_
  refine j_iadd 541 dL_law_540 ?_
  refine j_sld 542 (i + 1) dL_law_541 (by omega) (by omega) hL ?_
  refine j_callM 545 Y_X7_shape [_] h3 h4 m_X7_shape wml_L_65 dL_law_542 rfl rfl (Rel_at hRel).2 rfl rfl rfl rfl rfl (fun M2 g2 => ?_)
  exact j_same 1138 dL_law_545 (kk C2 M2 (h5 _ _ g1 g2))

set_option maxRecDepth 100000 in
set_option maxHeartbeats 4000000 in
theorem law_entry {E : jD} {nm : String} {b L : Nat} {xs : Nat → Int32} {ad ma : Nat → Nat} {C M : va_W} {i : Nat} (hL : L ≤ 3072) (hi : i + 6 ≤ L) (hRel : Rel E ad ma C M) (kk : ∀ C2 M2, Rel E ad ma C2 M2 → J E (YL nm) (ZL b L xs) 56 1618 1138 (lvL b ad ma i) [] (C2 ++ M2)) : J E (YL nm) (ZL b L xs) 56 1618 550 (lvL b ad ma i) [] (C ++ M) := by
  obtain ⟨z, QC, QM, h1, h2, h3, h4, h5⟩ := st_entry E ad ma C M hRel (xs (i + 1)).toInt (xs (i + 2)).toInt (xs (i + 3)).toInt (iI_rng _) (iI_rng _) (iI_rng _)
  refine j_aload_1 551 dL_law_550 rfl ?_
  refine j_aload_0 552 dL_law_551 rfl ?_
  refine j_iload_3 553 dL_law_552 rfl ?_
  refine j_iconst 554 dL_law_553 ?_
  refine j_iadd 555 dL_law_554 ?_
  refine j_sld 556 (i + 1) dL_law_555 (by omega) (by omega) hL ?_
  refine j_aload_0 557 dL_law_556 rfl ?_
  refine j_iload_3 558 dL_law_557 rfl ?_
  refine j_iconst 559 dL_law_558 ?_
  refine j_iadd 560 dL_law_559 ?_
  refine j_sld 561 (i + 2) dL_law_560 (by omega) (by omega) hL ?_
  refine j_aload_0 562 dL_law_561 rfl ?_
  refine j_iload_3 563 dL_law_562 rfl ?_
  refine j_iconst 564 dL_law_563 ?_
  refine j_iadd 565 dL_law_564 ?_
  refine j_sld 566 (i + 3) dL_law_565 (by omega) (by omega) hL ?_
  refine j_callX 569 Y_X6_entry [_, _, _] h1 h2 m_X6_entry wml_L_66 dL_law_566 rfl rfl (Rel_at hRel).1 rfl rfl rfl rfl rfl (fun C2 g1 => ?_)
  refine j_aload_2 570 dL_law_569 rfl ?_
  refine j_aload_0 571 dL_law_570 rfl ?_
  refine j_iload_3 572 dL_law_571 rfl ?_
  refine j_iconst 573 dL_law_572 ?_
  refine j_iadd 574 dL_law_573 ?_
  refine j_sld 575 (i + 1) dL_law_574 (by omega) (by omega) hL ?_
  refine j_aload_0 576 dL_law_575 rfl ?_
  refine j_iload_3 577 dL_law_576 rfl ?_
  refine j_iconst 578 dL_law_577 ?_
  refine j_iadd 579 dL_law_578 ?_
  refine j_sld 580 (i + 2) dL_law_579 (by omega) (by omega) hL ?_
  refine j_aload_0 581 dL_law_580 rfl ?_
  refine j_iload_3 582 dL_law_581 rfl ?_
  refine j_iconst 583 dL_law_582 ?_
  refine j_iadd 584 dL_law_583 ?_
  refine j_sld 585 (i + 3) dL_law_584 (by omega) (by omega) hL ?_
  refine j_callM 588 Y_X7_entry [_, _, _] h3 h4 m_X7_entry wml_L_69 dL_law_585 rfl rfl (Rel_at hRel).2 rfl rfl rfl rfl rfl (fun M2 g2 => ?_)
  exact j_same 1138 dL_law_588 (kk C2 M2 (h5 _ _ g1 g2))

set_option maxRecDepth 100000 in
set_option maxHeartbeats 4000000 in
theorem law_least {E : jD} {nm : String} {b L : Nat} {xs : Nat → Int32} {ad ma : Nat → Nat} {C M : va_W} {i : Nat} (hL : L ≤ 3072) (hi : i + 6 ≤ L) (hRel : Rel E ad ma C M) (kk : ∀ C2 M2, Rel E ad ma C2 M2 → J E (YL nm) (ZL b L xs) 56 1618 1138 (lvL b ad ma i) [] (C2 ++ M2)) : J E (YL nm) (ZL b L xs) 56 1618 593 (lvL b ad ma i) [] (C ++ M) := by
  obtain ⟨z, QC, QM, h1, h2, h3, h4, h5⟩ := st_least E ad ma C M hRel (xs (i + 1)).toInt (xs (i + 2)).toInt (iI_rng _) (iI_rng _)
  refine j_aload_1 594 dL_law_593 rfl ?_
  refine j_aload_0 595 dL_law_594 rfl ?_
  refine j_iload_3 596 dL_law_595 rfl ?_
  refine j_iconst 597 dL_law_596 ?_
  refine j_iadd 598 dL_law_597 ?_
  refine j_sld 599 (i + 1) dL_law_598 (by omega) (by omega) hL ?_
  refine j_aload_0 600 dL_law_599 rfl ?_
  refine j_iload_3 601 dL_law_600 rfl ?_
  refine j_iconst 602 dL_law_601 ?_
  refine j_iadd 603 dL_law_602 ?_
  refine j_sld 604 (i + 2) dL_law_603 (by omega) (by omega) hL ?_
  refine j_callX 607 Y_X6_least [_, _] h1 h2 m_X6_least wml_L_70 dL_law_604 rfl rfl (Rel_at hRel).1 rfl rfl rfl rfl rfl (fun C2 g1 => ?_)
  refine j_aload_2 608 dL_law_607 rfl ?_
  refine j_aload_0 609 dL_law_608 rfl ?_
  refine j_iload_3 610 dL_law_609 rfl ?_
  refine j_iconst 611 dL_law_610 ?_
  refine j_iadd 612 dL_law_611 ?_
  refine j_sld 613 (i + 1) dL_law_612 (by omega) (by omega) hL ?_
  refine j_aload_0 614 dL_law_613 rfl ?_
  refine j_iload_3 615 dL_law_614 rfl ?_
  refine j_iconst 616 dL_law_615 ?_
  refine j_iadd 617 dL_law_616 ?_
  refine j_sld 618 (i + 2) dL_law_617 (by omega) (by omega) hL ?_
  refine j_callM 621 Y_X7_least [_, _] h3 h4 m_X7_least wml_L_73 dL_law_618 rfl rfl (Rel_at hRel).2 rfl rfl rfl rfl rfl (fun M2 g2 => ?_)
  exact j_same 1138 dL_law_621 (kk C2 M2 (h5 _ _ g1 g2))

set_option maxRecDepth 100000 in
set_option maxHeartbeats 4000000 in
theorem law_kth {E : jD} {nm : String} {b L : Nat} {xs : Nat → Int32} {ad ma : Nat → Nat} {C M : va_W} {i : Nat} (hL : L ≤ 3072) (hi : i + 6 ≤ L) (hRel : Rel E ad ma C M) (kk : ∀ C2 M2, Rel E ad ma C2 M2 → J E (YL nm) (ZL b L xs) 56 1618 1138 (lvL b ad ma i) [] (C2 ++ M2)) : J E (YL nm) (ZL b L xs) 56 1618 626 (lvL b ad ma i) [] (C ++ M) := by
  obtain ⟨z, QC, QM, h1, h2, h3, h4, h5⟩ := st_kth E ad ma C M hRel (xs (i + 1)).toInt (xs (i + 2)).toInt (xs (i + 3)).toInt (iI_rng _) (iI_rng _) (iI_rng _)
  refine j_aload_1 627 dL_law_626 rfl ?_
  refine j_aload_0 628 dL_law_627 rfl ?_
  refine j_iload_3 629 dL_law_628 rfl ?_
  refine j_iconst 630 dL_law_629 ?_
  refine j_iadd 631 dL_law_630 ?_
  refine j_sld 632 (i + 1) dL_law_631 (by omega) (by omega) hL ?_
  refine j_aload_0 633 dL_law_632 rfl ?_
  refine j_iload_3 634 dL_law_633 rfl ?_
  refine j_iconst 635 dL_law_634 ?_
  refine j_iadd 636 dL_law_635 ?_
  refine j_sld 637 (i + 2) dL_law_636 (by omega) (by omega) hL ?_
  refine j_aload_0 638 dL_law_637 rfl ?_
  refine j_iload_3 639 dL_law_638 rfl ?_
  refine j_iconst 640 dL_law_639 ?_
  refine j_iadd 641 dL_law_640 ?_
  refine j_sld 642 (i + 3) dL_law_641 (by omega) (by omega) hL ?_
  refine j_callX 645 Y_X6_kth [_, _, _] h1 h2 m_X6_kth wml_L_74 dL_law_642 rfl rfl (Rel_at hRel).1 rfl rfl rfl rfl rfl (fun C2 g1 => ?_)
  refine j_aload_2 646 dL_law_645 rfl ?_
  refine j_aload_0 647 dL_law_646 rfl ?_
  refine j_iload_3 648 dL_law_647 rfl ?_
  refine j_iconst 649 dL_law_648 ?_
  refine j_iadd 650 dL_law_649 ?_
  refine j_sld 651 (i + 1) dL_law_650 (by omega) (by omega) hL ?_
  refine j_aload_0 652 dL_law_651 rfl ?_
  refine j_iload_3 653 dL_law_652 rfl ?_
  refine j_iconst 654 dL_law_653 ?_
  refine j_iadd 655 dL_law_654 ?_
  refine j_sld 656 (i + 2) dL_law_655 (by omega) (by omega) hL ?_
  refine j_aload_0 657 dL_law_656 rfl ?_
  refine j_iload_3 658 dL_law_657 rfl ?_
  refine j_iconst 659 dL_law_658 ?_
  refine j_iadd 660 dL_law_659 ?_
  refine j_sld 661 (i + 3) dL_law_660 (by omega) (by omega) hL ?_
  refine j_callM 664 Y_X7_kth [_, _, _] h3 h4 m_X7_kth wml_L_77 dL_law_661 rfl rfl (Rel_at hRel).2 rfl rfl rfl rfl rfl (fun M2 g2 => ?_)
  exact j_same 1138 dL_law_664 (kk C2 M2 (h5 _ _ g1 g2))

set_option maxRecDepth 100000 in
set_option maxHeartbeats 4000000 in
theorem law_left {E : jD} {nm : String} {b L : Nat} {xs : Nat → Int32} {ad ma : Nat → Nat} {C M : va_W} {i : Nat} (hL : L ≤ 3072) (hi : i + 6 ≤ L) (hRel : Rel E ad ma C M) (kk : ∀ C2 M2, Rel E ad ma C2 M2 → J E (YL nm) (ZL b L xs) 56 1618 1138 (lvL b ad ma i) [] (C2 ++ M2)) : J E (YL nm) (ZL b L xs) 56 1618 669 (lvL b ad ma i) [] (C ++ M) := by
  obtain ⟨z, QC, QM, h1, h2, h3, h4, h5⟩ := st_left E ad ma C M hRel (xs (i + 1)).toInt (iI_rng _)
  refine j_aload_1 670 dL_law_669 rfl ?_
  refine j_aload_0 671 dL_law_670 rfl ?_
  refine j_iload_3 672 dL_law_671 rfl ?_
  refine j_iconst 673 dL_law_672 ?_
  refine j_iadd 674 dL_law_673 ?_
  refine j_sld 675 (i + 1) dL_law_674 (by omega) (by omega) hL ?_
  refine j_callX 678 Y_X6_left [_] h1 h2 m_X6_left wml_L_78 dL_law_675 rfl rfl (Rel_at hRel).1 rfl rfl rfl rfl rfl (fun C2 g1 => ?_)
  refine j_aload_2 679 dL_law_678 rfl ?_
  refine j_aload_0 680 dL_law_679 rfl ?_
  refine j_iload_3 681 dL_law_680 rfl ?_
  refine j_iconst 682 dL_law_681 ?_
  refine j_iadd 683 dL_law_682 ?_
  refine j_sld 684 (i + 1) dL_law_683 (by omega) (by omega) hL ?_
  refine j_callM 687 Y_X7_left [_] h3 h4 m_X7_left wml_L_81 dL_law_684 rfl rfl (Rel_at hRel).2 rfl rfl rfl rfl rfl (fun M2 g2 => ?_)
  exact j_same 1138 dL_law_687 (kk C2 M2 (h5 _ _ g1 g2))

set_option maxRecDepth 100000 in
set_option maxHeartbeats 4000000 in
theorem law_right {E : jD} {nm : String} {b L : Nat} {xs : Nat → Int32} {ad ma : Nat → Nat} {C M : va_W} {i : Nat} (hL : L ≤ 3072) (hi : i + 6 ≤ L) (hRel : Rel E ad ma C M) (kk : ∀ C2 M2, Rel E ad ma C2 M2 → J E (YL nm) (ZL b L xs) 56 1618 1138 (lvL b ad ma i) [] (C2 ++ M2)) : J E (YL nm) (ZL b L xs) 56 1618 692 (lvL b ad ma i) [] (C ++ M) := by
  obtain ⟨z, QC, QM, h1, h2, h3, h4, h5⟩ := st_right E ad ma C M hRel (xs (i + 1)).toInt (iI_rng _)
  refine j_aload_1 693 dL_law_692 rfl ?_
  refine j_aload_0 694 dL_law_693 rfl ?_
  refine j_iload_3 695 dL_law_694 rfl ?_
  refine j_iconst 696 dL_law_695 ?_
  refine j_iadd 697 dL_law_696 ?_
  refine j_sld 698 (i + 1) dL_law_697 (by omega) (by omega) hL ?_
  refine j_callX 701 Y_X6_right [_] h1 h2 m_X6_right wml_L_82 dL_law_698 rfl rfl (Rel_at hRel).1 rfl rfl rfl rfl rfl (fun C2 g1 => ?_)
  refine j_aload_2 702 dL_law_701 rfl ?_
  refine j_aload_0 703 dL_law_702 rfl ?_
  refine j_iload_3 704 dL_law_703 rfl ?_
  refine j_iconst 705 dL_law_704 ?_
  refine j_iadd 706 dL_law_705 ?_
  refine j_sld 707 (i + 1) dL_law_706 (by omega) (by omega) hL ?_
  refine j_callM 710 Y_X7_right [_] h3 h4 m_X7_right wml_L_85 dL_law_707 rfl rfl (Rel_at hRel).2 rfl rfl rfl rfl rfl (fun M2 g2 => ?_)
  exact j_same 1138 dL_law_710 (kk C2 M2 (h5 _ _ g1 g2))

set_option maxRecDepth 100000 in
set_option maxHeartbeats 4000000 in
theorem law_owns {E : jD} {nm : String} {b L : Nat} {xs : Nat → Int32} {ad ma : Nat → Nat} {C M : va_W} {i : Nat} (hL : L ≤ 3072) (hi : i + 6 ≤ L) (hRel : Rel E ad ma C M) (kk : ∀ C2 M2, Rel E ad ma C2 M2 → J E (YL nm) (ZL b L xs) 56 1618 1138 (lvL b ad ma i) [] (C2 ++ M2)) : J E (YL nm) (ZL b L xs) 56 1618 715 (lvL b ad ma i) [] (C ++ M) := by
  obtain ⟨z, QC, QM, h1, h2, h3, h4, h5⟩ := st_owns E ad ma C M hRel (xs (i + 1)).toInt (iI_rng _)
  refine j_aload_1 716 dL_law_715 rfl ?_
  refine j_aload_0 717 dL_law_716 rfl ?_
  refine j_iload_3 718 dL_law_717 rfl ?_
  refine j_iconst 719 dL_law_718 ?_
  refine j_iadd 720 dL_law_719 ?_
  refine j_sld 721 (i + 1) dL_law_720 (by omega) (by omega) hL ?_
  refine j_callX 724 Y_X6_owns [_] h1 h2 m_X6_owns wml_L_86 dL_law_721 rfl rfl (Rel_at hRel).1 rfl rfl rfl rfl rfl (fun C2 g1 => ?_)
  refine j_aload_2 725 dL_law_724 rfl ?_
  refine j_aload_0 726 dL_law_725 rfl ?_
  refine j_iload_3 727 dL_law_726 rfl ?_
  refine j_iconst 728 dL_law_727 ?_
  refine j_iadd 729 dL_law_728 ?_
  refine j_sld 730 (i + 1) dL_law_729 (by omega) (by omega) hL ?_
  refine j_callM 733 Y_X7_owns [_] h3 h4 m_X7_owns wml_L_89 dL_law_730 rfl rfl (Rel_at hRel).2 rfl rfl rfl rfl rfl (fun M2 g2 => ?_)
  exact j_same 1138 dL_law_733 (kk C2 M2 (h5 _ _ g1 g2))

set_option maxRecDepth 100000 in
set_option maxHeartbeats 4000000 in
theorem law_sum {E : jD} {nm : String} {b L : Nat} {xs : Nat → Int32} {ad ma : Nat → Nat} {C M : va_W} {i : Nat} (hL : L ≤ 3072) (hi : i + 6 ≤ L) (hRel : Rel E ad ma C M) (kk : ∀ C2 M2, Rel E ad ma C2 M2 → J E (YL nm) (ZL b L xs) 56 1618 1138 (lvL b ad ma i) [] (C2 ++ M2)) : J E (YL nm) (ZL b L xs) 56 1618 738 (lvL b ad ma i) [] (C ++ M) := by
  obtain ⟨z, QC, QM, h1, h2, h3, h4, h5⟩ := st_sum E ad ma C M hRel  
  refine j_aload_1 739 dL_law_738 rfl ?_
  refine j_callX 742 Y_X6_sum [] h1 h2 m_X6_sum wml_L_90 dL_law_739 rfl rfl (Rel_at hRel).1 rfl rfl rfl rfl rfl (fun C2 g1 => ?_)
  refine j_aload_2 743 dL_law_742 rfl ?_
  refine j_callM 746 Y_X7_sum [] h3 h4 m_X7_sum wml_L_94 dL_law_743 rfl rfl (Rel_at hRel).2 rfl rfl rfl rfl rfl (fun M2 g2 => ?_)
  exact j_lif_eq 1138 750 dL_law_746 dL_law_747 (fun _ => kk C2 M2 (h5 _ _ g1 g2)) (fun h => absurd rfl h)

set_option maxRecDepth 100000 in
set_option maxHeartbeats 4000000 in
theorem law_parent {E : jD} {nm : String} {b L : Nat} {xs : Nat → Int32} {ad ma : Nat → Nat} {C M : va_W} {i : Nat} (hL : L ≤ 3072) (hi : i + 6 ≤ L) (hRel : Rel E ad ma C M) (kk : ∀ C2 M2, Rel E ad ma C2 M2 → J E (YL nm) (ZL b L xs) 56 1618 1138 (lvL b ad ma i) [] (C2 ++ M2)) : J E (YL nm) (ZL b L xs) 56 1618 752 (lvL b ad ma i) [] (C ++ M) := by
  obtain ⟨z, QC, QM, h1, h2, h3, h4, h5⟩ := st_parent E ad ma C M hRel (xs (i + 1)).toInt (iI_rng _)
  refine j_aload_1 753 dL_law_752 rfl ?_
  refine j_aload_0 754 dL_law_753 rfl ?_
  refine j_iload_3 755 dL_law_754 rfl ?_
  refine j_iconst 756 dL_law_755 ?_
  refine j_iadd 757 dL_law_756 ?_
  refine j_sld 758 (i + 1) dL_law_757 (by omega) (by omega) hL ?_
  refine j_callX 761 Y_X6_parent [_] h1 h2 m_X6_parent wml_L_95 dL_law_758 rfl rfl (Rel_at hRel).1 rfl rfl rfl rfl rfl (fun C2 g1 => ?_)
  refine j_aload_2 762 dL_law_761 rfl ?_
  refine j_aload_0 763 dL_law_762 rfl ?_
  refine j_iload_3 764 dL_law_763 rfl ?_
  refine j_iconst 765 dL_law_764 ?_
  refine j_iadd 766 dL_law_765 ?_
  refine j_sld 767 (i + 1) dL_law_766 (by omega) (by omega) hL ?_
  refine j_callM 770 Y_X7_parent [_] h3 h4 m_X7_parent wml_L_98 dL_law_767 rfl rfl (Rel_at hRel).2 rfl rfl rfl rfl rfl (fun M2 g2 => ?_)
  exact j_same 1138 dL_law_770 (kk C2 M2 (h5 _ _ g1 g2))

set_option maxRecDepth 100000 in
set_option maxHeartbeats 4000000 in
theorem law_depth {E : jD} {nm : String} {b L : Nat} {xs : Nat → Int32} {ad ma : Nat → Nat} {C M : va_W} {i : Nat} (hL : L ≤ 3072) (hi : i + 6 ≤ L) (hRel : Rel E ad ma C M) (kk : ∀ C2 M2, Rel E ad ma C2 M2 → J E (YL nm) (ZL b L xs) 56 1618 1138 (lvL b ad ma i) [] (C2 ++ M2)) : J E (YL nm) (ZL b L xs) 56 1618 775 (lvL b ad ma i) [] (C ++ M) := by
  obtain ⟨z, QC, QM, h1, h2, h3, h4, h5⟩ := st_depth E ad ma C M hRel (xs (i + 1)).toInt (iI_rng _)
  refine j_aload_1 776 dL_law_775 rfl ?_
  refine j_aload_0 777 dL_law_776 rfl ?_
  refine j_iload_3 778 dL_law_777 rfl ?_
  refine j_iconst 779 dL_law_778 ?_
  refine j_iadd 780 dL_law_779 ?_
  refine j_sld 781 (i + 1) dL_law_780 (by omega) (by omega) hL ?_
  refine j_callX 784 Y_X6_depth [_] h1 h2 m_X6_depth wml_L_99 dL_law_781 rfl rfl (Rel_at hRel).1 rfl rfl rfl rfl rfl (fun C2 g1 => ?_)
  refine j_aload_2 785 dL_law_784 rfl ?_
  refine j_aload_0 786 dL_law_785 rfl ?_
  refine j_iload_3 787 dL_law_786 rfl ?_
  refine j_iconst 788 dL_law_787 ?_
  refine j_iadd 789 dL_law_788 ?_
  refine j_sld 790 (i + 1) dL_law_789 (by omega) (by omega) hL ?_
  refine j_callM 793 Y_X7_depth [_] h3 h4 m_X7_depth wml_L_102 dL_law_790 rfl rfl (Rel_at hRel).2 rfl rfl rfl rfl rfl (fun M2 g2 => ?_)
  exact j_same 1138 dL_law_793 (kk C2 M2 (h5 _ _ g1 g2))

set_option maxRecDepth 100000 in
set_option maxHeartbeats 4000000 in
theorem law_size {E : jD} {nm : String} {b L : Nat} {xs : Nat → Int32} {ad ma : Nat → Nat} {C M : va_W} {i : Nat} (hL : L ≤ 3072) (hi : i + 6 ≤ L) (hRel : Rel E ad ma C M) (kk : ∀ C2 M2, Rel E ad ma C2 M2 → J E (YL nm) (ZL b L xs) 56 1618 1138 (lvL b ad ma i) [] (C2 ++ M2)) : J E (YL nm) (ZL b L xs) 56 1618 798 (lvL b ad ma i) [] (C ++ M) := by
  obtain ⟨z, QC, QM, h1, h2, h3, h4, h5⟩ := st_size E ad ma C M hRel (xs (i + 1)).toInt (iI_rng _)
  refine j_aload_1 799 dL_law_798 rfl ?_
  refine j_aload_0 800 dL_law_799 rfl ?_
  refine j_iload_3 801 dL_law_800 rfl ?_
  refine j_iconst 802 dL_law_801 ?_
  refine j_iadd 803 dL_law_802 ?_
  refine j_sld 804 (i + 1) dL_law_803 (by omega) (by omega) hL ?_
  refine j_callX 807 Y_X6_size [_] h1 h2 m_X6_size wml_L_103 dL_law_804 rfl rfl (Rel_at hRel).1 rfl rfl rfl rfl rfl (fun C2 g1 => ?_)
  refine j_aload_2 808 dL_law_807 rfl ?_
  refine j_aload_0 809 dL_law_808 rfl ?_
  refine j_iload_3 810 dL_law_809 rfl ?_
  refine j_iconst 811 dL_law_810 ?_
  refine j_iadd 812 dL_law_811 ?_
  refine j_sld 813 (i + 1) dL_law_812 (by omega) (by omega) hL ?_
  refine j_callM 816 Y_X7_size [_] h3 h4 m_X7_size wml_L_106 dL_law_813 rfl rfl (Rel_at hRel).2 rfl rfl rfl rfl rfl (fun M2 g2 => ?_)
  exact j_same 1138 dL_law_816 (kk C2 M2 (h5 _ _ g1 g2))

set_option maxRecDepth 100000 in
set_option maxHeartbeats 4000000 in
theorem law_above {E : jD} {nm : String} {b L : Nat} {xs : Nat → Int32} {ad ma : Nat → Nat} {C M : va_W} {i : Nat} (hL : L ≤ 3072) (hi : i + 6 ≤ L) (hRel : Rel E ad ma C M) (kk : ∀ C2 M2, Rel E ad ma C2 M2 → J E (YL nm) (ZL b L xs) 56 1618 1138 (lvL b ad ma i) [] (C2 ++ M2)) : J E (YL nm) (ZL b L xs) 56 1618 821 (lvL b ad ma i) [] (C ++ M) := by
  obtain ⟨z, QC, QM, h1, h2, h3, h4, h5⟩ := st_above E ad ma C M hRel (xs (i + 1)).toInt (xs (i + 2)).toInt (iI_rng _) (iI_rng _)
  refine j_aload_1 822 dL_law_821 rfl ?_
  refine j_aload_0 823 dL_law_822 rfl ?_
  refine j_iload_3 824 dL_law_823 rfl ?_
  refine j_iconst 825 dL_law_824 ?_
  refine j_iadd 826 dL_law_825 ?_
  refine j_sld 827 (i + 1) dL_law_826 (by omega) (by omega) hL ?_
  refine j_aload_0 828 dL_law_827 rfl ?_
  refine j_iload_3 829 dL_law_828 rfl ?_
  refine j_iconst 830 dL_law_829 ?_
  refine j_iadd 831 dL_law_830 ?_
  refine j_sld 832 (i + 2) dL_law_831 (by omega) (by omega) hL ?_
  refine j_callX 835 Y_X6_above [_, _] h1 h2 m_X6_above wml_L_107 dL_law_832 rfl rfl (Rel_at hRel).1 rfl rfl rfl rfl rfl (fun C2 g1 => ?_)
  refine j_aload_2 836 dL_law_835 rfl ?_
  refine j_aload_0 837 dL_law_836 rfl ?_
  refine j_iload_3 838 dL_law_837 rfl ?_
  refine j_iconst 839 dL_law_838 ?_
  refine j_iadd 840 dL_law_839 ?_
  refine j_sld 841 (i + 1) dL_law_840 (by omega) (by omega) hL ?_
  refine j_aload_0 842 dL_law_841 rfl ?_
  refine j_iload_3 843 dL_law_842 rfl ?_
  refine j_iconst 844 dL_law_843 ?_
  refine j_iadd 845 dL_law_844 ?_
  refine j_sld 846 (i + 2) dL_law_845 (by omega) (by omega) hL ?_
  refine j_callM 849 Y_X7_above [_, _] h3 h4 m_X7_above wml_L_110 dL_law_846 rfl rfl (Rel_at hRel).2 rfl rfl rfl rfl rfl (fun M2 g2 => ?_)
  exact j_same 1138 dL_law_849 (kk C2 M2 (h5 _ _ g1 g2))

set_option maxRecDepth 100000 in
set_option maxHeartbeats 4000000 in
theorem law_alike {E : jD} {nm : String} {b L : Nat} {xs : Nat → Int32} {ad ma : Nat → Nat} {C M : va_W} {i : Nat} (hL : L ≤ 3072) (hi : i + 6 ≤ L) (hRel : Rel E ad ma C M) (kk : ∀ C2 M2, Rel E ad ma C2 M2 → J E (YL nm) (ZL b L xs) 56 1618 1138 (lvL b ad ma i) [] (C2 ++ M2)) : J E (YL nm) (ZL b L xs) 56 1618 854 (lvL b ad ma i) [] (C ++ M) := by
  obtain ⟨z, QC, QM, h1, h2, h3, h4, h5⟩ := st_alike E ad ma C M hRel (xs (i + 1)).toInt (xs (i + 2)).toInt (xs (i + 3)).toInt (iI_rng _) (iI_rng _) (iI_rng _)
  refine j_aload_1 855 dL_law_854 rfl ?_
  refine j_aload_0 856 dL_law_855 rfl ?_
  refine j_iload_3 857 dL_law_856 rfl ?_
  refine j_iconst 858 dL_law_857 ?_
  refine j_iadd 859 dL_law_858 ?_
  refine j_sld 860 (i + 1) dL_law_859 (by omega) (by omega) hL ?_
  refine j_aload_0 861 dL_law_860 rfl ?_
  refine j_iload_3 862 dL_law_861 rfl ?_
  refine j_iconst 863 dL_law_862 ?_
  refine j_iadd 864 dL_law_863 ?_
  refine j_sld 865 (i + 2) dL_law_864 (by omega) (by omega) hL ?_
  refine j_aload_0 866 dL_law_865 rfl ?_
  refine j_iload_3 867 dL_law_866 rfl ?_
  refine j_iconst 868 dL_law_867 ?_
  refine j_iadd 869 dL_law_868 ?_
  refine j_sld 870 (i + 3) dL_law_869 (by omega) (by omega) hL ?_
  refine j_callX 873 Y_X6_alike [_, _, _] h1 h2 m_X6_alike wml_L_111 dL_law_870 rfl rfl (Rel_at hRel).1 rfl rfl rfl rfl rfl (fun C2 g1 => ?_)
  refine j_aload_2 874 dL_law_873 rfl ?_
  refine j_aload_0 875 dL_law_874 rfl ?_
  refine j_iload_3 876 dL_law_875 rfl ?_
  refine j_iconst 877 dL_law_876 ?_
  refine j_iadd 878 dL_law_877 ?_
  refine j_sld 879 (i + 1) dL_law_878 (by omega) (by omega) hL ?_
  refine j_aload_0 880 dL_law_879 rfl ?_
  refine j_iload_3 881 dL_law_880 rfl ?_
  refine j_iconst 882 dL_law_881 ?_
  refine j_iadd 883 dL_law_882 ?_
  refine j_sld 884 (i + 2) dL_law_883 (by omega) (by omega) hL ?_
  refine j_aload_0 885 dL_law_884 rfl ?_
  refine j_iload_3 886 dL_law_885 rfl ?_
  refine j_iconst 887 dL_law_886 ?_
  refine j_iadd 888 dL_law_887 ?_
  refine j_sld 889 (i + 3) dL_law_888 (by omega) (by omega) hL ?_
  refine j_callM 892 Y_X7_alike [_, _, _] h3 h4 m_X7_alike wml_L_114 dL_law_889 rfl rfl (Rel_at hRel).2 rfl rfl rfl rfl rfl (fun M2 g2 => ?_)
  exact j_same 1138 dL_law_892 (kk C2 M2 (h5 _ _ g1 g2))

set_option maxRecDepth 100000 in
set_option maxHeartbeats 4000000 in
theorem law_tree {E : jD} {nm : String} {b L : Nat} {xs : Nat → Int32} {ad ma : Nat → Nat} {C M : va_W} {i : Nat} (hL : L ≤ 3072) (hi : i + 6 ≤ L) (hRel : Rel E ad ma C M) (kk : ∀ C2 M2, Rel E ad ma C2 M2 → J E (YL nm) (ZL b L xs) 56 1618 1138 (lvL b ad ma i) [] (C2 ++ M2)) : J E (YL nm) (ZL b L xs) 56 1618 897 (lvL b ad ma i) [] (C ++ M) := by
  obtain ⟨z, QC, QM, h1, h2, h3, h4, h5⟩ := st_tree E ad ma C M hRel (xs (i + 1)).toInt (iI_rng _)
  refine j_aload_1 898 dL_law_897 rfl ?_
  refine j_aload_0 899 dL_law_898 rfl ?_
  refine j_iload_3 900 dL_law_899 rfl ?_
  refine j_iconst 901 dL_law_900 ?_
  refine j_iadd 902 dL_law_901 ?_
  refine j_sld 903 (i + 1) dL_law_902 (by omega) (by omega) hL ?_
  refine j_callX 906 Y_X6_tree [_] h1 h2 m_X6_tree wml_L_115 dL_law_903 rfl rfl (Rel_at hRel).1 rfl rfl rfl rfl rfl (fun C2 g1 => ?_)
  refine j_aload_2 907 dL_law_906 rfl ?_
  refine j_aload_0 908 dL_law_907 rfl ?_
  refine j_iload_3 909 dL_law_908 rfl ?_
  refine j_iconst 910 dL_law_909 ?_
  refine j_iadd 911 dL_law_910 ?_
  refine j_sld 912 (i + 1) dL_law_911 (by omega) (by omega) hL ?_
  refine j_callM 915 Y_X7_tree [_] h3 h4 m_X7_tree wml_L_118 dL_law_912 rfl rfl (Rel_at hRel).2 rfl rfl rfl rfl rfl (fun M2 g2 => ?_)
  exact j_same 1138 dL_law_915 (kk C2 M2 (h5 _ _ g1 g2))

set_option maxRecDepth 100000 in
set_option maxHeartbeats 4000000 in
theorem law_meet {E : jD} {nm : String} {b L : Nat} {xs : Nat → Int32} {ad ma : Nat → Nat} {C M : va_W} {i : Nat} (hL : L ≤ 3072) (hi : i + 6 ≤ L) (hRel : Rel E ad ma C M) (kk : ∀ C2 M2, Rel E ad ma C2 M2 → J E (YL nm) (ZL b L xs) 56 1618 1138 (lvL b ad ma i) [] (C2 ++ M2)) : J E (YL nm) (ZL b L xs) 56 1618 920 (lvL b ad ma i) [] (C ++ M) := by
  obtain ⟨z, QC, QM, h1, h2, h3, h4, h5⟩ := st_meet E ad ma C M hRel (xs (i + 1)).toInt (xs (i + 2)).toInt (iI_rng _) (iI_rng _)
  refine j_aload_1 921 dL_law_920 rfl ?_
  refine j_aload_0 922 dL_law_921 rfl ?_
  refine j_iload_3 923 dL_law_922 rfl ?_
  refine j_iconst 924 dL_law_923 ?_
  refine j_iadd 925 dL_law_924 ?_
  refine j_sld 926 (i + 1) dL_law_925 (by omega) (by omega) hL ?_
  refine j_aload_0 927 dL_law_926 rfl ?_
  refine j_iload_3 928 dL_law_927 rfl ?_
  refine j_iconst 929 dL_law_928 ?_
  refine j_iadd 930 dL_law_929 ?_
  refine j_sld 931 (i + 2) dL_law_930 (by omega) (by omega) hL ?_
  refine j_callX 934 Y_X6_meet [_, _] h1 h2 m_X6_meet wml_L_119 dL_law_931 rfl rfl (Rel_at hRel).1 rfl rfl rfl rfl rfl (fun C2 g1 => ?_)
  refine j_aload_2 935 dL_law_934 rfl ?_
  refine j_aload_0 936 dL_law_935 rfl ?_
  refine j_iload_3 937 dL_law_936 rfl ?_
  refine j_iconst 938 dL_law_937 ?_
  refine j_iadd 939 dL_law_938 ?_
  refine j_sld 940 (i + 1) dL_law_939 (by omega) (by omega) hL ?_
  refine j_aload_0 941 dL_law_940 rfl ?_
  refine j_iload_3 942 dL_law_941 rfl ?_
  refine j_iconst 943 dL_law_942 ?_
  refine j_iadd 944 dL_law_943 ?_
  refine j_sld 945 (i + 2) dL_law_944 (by omega) (by omega) hL ?_
  refine j_callM 948 Y_X7_meet [_, _] h3 h4 m_X7_meet wml_L_122 dL_law_945 rfl rfl (Rel_at hRel).2 rfl rfl rfl rfl rfl (fun M2 g2 => ?_)
  exact j_same 1138 dL_law_948 (kk C2 M2 (h5 _ _ g1 g2))

set_option maxRecDepth 100000 in
set_option maxHeartbeats 4000000 in
theorem law_apart {E : jD} {nm : String} {b L : Nat} {xs : Nat → Int32} {ad ma : Nat → Nat} {C M : va_W} {i : Nat} (hL : L ≤ 3072) (hi : i + 6 ≤ L) (hRel : Rel E ad ma C M) (kk : ∀ C2 M2, Rel E ad ma C2 M2 → J E (YL nm) (ZL b L xs) 56 1618 1138 (lvL b ad ma i) [] (C2 ++ M2)) : J E (YL nm) (ZL b L xs) 56 1618 953 (lvL b ad ma i) [] (C ++ M) := by
  obtain ⟨z, QC, QM, h1, h2, h3, h4, h5⟩ := st_apart E ad ma C M hRel (xs (i + 1)).toInt (xs (i + 2)).toInt (iI_rng _) (iI_rng _)
  refine j_aload_1 954 dL_law_953 rfl ?_
  refine j_aload_0 955 dL_law_954 rfl ?_
  refine j_iload_3 956 dL_law_955 rfl ?_
  refine j_iconst 957 dL_law_956 ?_
  refine j_iadd 958 dL_law_957 ?_
  refine j_sld 959 (i + 1) dL_law_958 (by omega) (by omega) hL ?_
  refine j_aload_0 960 dL_law_959 rfl ?_
  refine j_iload_3 961 dL_law_960 rfl ?_
  refine j_iconst 962 dL_law_961 ?_
  refine j_iadd 963 dL_law_962 ?_
  refine j_sld 964 (i + 2) dL_law_963 (by omega) (by omega) hL ?_
  refine j_callX 967 Y_X6_apart [_, _] h1 h2 m_X6_apart wml_L_123 dL_law_964 rfl rfl (Rel_at hRel).1 rfl rfl rfl rfl rfl (fun C2 g1 => ?_)
  refine j_aload_2 968 dL_law_967 rfl ?_
  refine j_aload_0 969 dL_law_968 rfl ?_
  refine j_iload_3 970 dL_law_969 rfl ?_
  refine j_iconst 971 dL_law_970 ?_
  refine j_iadd 972 dL_law_971 ?_
  refine j_sld 973 (i + 1) dL_law_972 (by omega) (by omega) hL ?_
  refine j_aload_0 974 dL_law_973 rfl ?_
  refine j_iload_3 975 dL_law_974 rfl ?_
  refine j_iconst 976 dL_law_975 ?_
  refine j_iadd 977 dL_law_976 ?_
  refine j_sld 978 (i + 2) dL_law_977 (by omega) (by omega) hL ?_
  refine j_callM 981 Y_X7_apart [_, _] h3 h4 m_X7_apart wml_L_126 dL_law_978 rfl rfl (Rel_at hRel).2 rfl rfl rfl rfl rfl (fun M2 g2 => ?_)
  exact j_same 1138 dL_law_981 (kk C2 M2 (h5 _ _ g1 g2))

set_option maxRecDepth 100000 in
set_option maxHeartbeats 4000000 in
theorem law_up {E : jD} {nm : String} {b L : Nat} {xs : Nat → Int32} {ad ma : Nat → Nat} {C M : va_W} {i : Nat} (hL : L ≤ 3072) (hi : i + 6 ≤ L) (hRel : Rel E ad ma C M) (kk : ∀ C2 M2, Rel E ad ma C2 M2 → J E (YL nm) (ZL b L xs) 56 1618 1138 (lvL b ad ma i) [] (C2 ++ M2)) : J E (YL nm) (ZL b L xs) 56 1618 986 (lvL b ad ma i) [] (C ++ M) := by
  obtain ⟨z, QC, QM, h1, h2, h3, h4, h5⟩ := st_up E ad ma C M hRel (xs (i + 1)).toInt (xs (i + 2)).toInt (iI_rng _) (iI_rng _)
  refine j_aload_1 987 dL_law_986 rfl ?_
  refine j_aload_0 988 dL_law_987 rfl ?_
  refine j_iload_3 989 dL_law_988 rfl ?_
  refine j_iconst 990 dL_law_989 ?_
  refine j_iadd 991 dL_law_990 ?_
  refine j_sld 992 (i + 1) dL_law_991 (by omega) (by omega) hL ?_
  refine j_aload_0 993 dL_law_992 rfl ?_
  refine j_iload_3 994 dL_law_993 rfl ?_
  refine j_iconst 995 dL_law_994 ?_
  refine j_iadd 996 dL_law_995 ?_
  refine j_sld 997 (i + 2) dL_law_996 (by omega) (by omega) hL ?_
  refine j_callX 1000 Y_X6_up [_, _] h1 h2 m_X6_up wml_L_127 dL_law_997 rfl rfl (Rel_at hRel).1 rfl rfl rfl rfl rfl (fun C2 g1 => ?_)
  refine j_aload_2 1001 dL_law_1000 rfl ?_
  refine j_aload_0 1002 dL_law_1001 rfl ?_
  refine j_iload_3 1003 dL_law_1002 rfl ?_
  refine j_iconst 1004 dL_law_1003 ?_
  refine j_iadd 1005 dL_law_1004 ?_
  refine j_sld 1006 (i + 1) dL_law_1005 (by omega) (by omega) hL ?_
  refine j_aload_0 1007 dL_law_1006 rfl ?_
  refine j_iload_3 1008 dL_law_1007 rfl ?_
  refine j_iconst 1009 dL_law_1008 ?_
  refine j_iadd 1010 dL_law_1009 ?_
  refine j_sld 1011 (i + 2) dL_law_1010 (by omega) (by omega) hL ?_
  refine j_callM 1014 Y_X7_up [_, _] h3 h4 m_X7_up wml_L_130 dL_law_1011 rfl rfl (Rel_at hRel).2 rfl rfl rfl rfl rfl (fun M2 g2 => ?_)
  exact j_same 1138 dL_law_1014 (kk C2 M2 (h5 _ _ g1 g2))

set_option maxRecDepth 100000 in
set_option maxHeartbeats 4000000 in
theorem law_node {E : jD} {nm : String} {b L : Nat} {xs : Nat → Int32} {ad ma : Nat → Nat} {C M : va_W} {i : Nat} (hL : L ≤ 3072) (hi : i + 6 ≤ L) (hRel : Rel E ad ma C M) (kk : ∀ C2 M2, Rel E ad ma C2 M2 → J E (YL nm) (ZL b L xs) 56 1618 1138 (lvL b ad ma i) [] (C2 ++ M2)) : J E (YL nm) (ZL b L xs) 56 1618 1019 (lvL b ad ma i) [] (C ++ M) := by
  obtain ⟨z, QC, QM, h1, h2, h3, h4, h5⟩ := st_node E ad ma C M hRel (xs (i + 1)).toInt (xs (i + 2)).toInt (iI_rng _) (iI_rng _)
  refine j_aload_1 1020 dL_law_1019 rfl ?_
  refine j_aload_0 1021 dL_law_1020 rfl ?_
  refine j_iload_3 1022 dL_law_1021 rfl ?_
  refine j_iconst 1023 dL_law_1022 ?_
  refine j_iadd 1024 dL_law_1023 ?_
  refine j_sld 1025 (i + 1) dL_law_1024 (by omega) (by omega) hL ?_
  refine j_aload_0 1026 dL_law_1025 rfl ?_
  refine j_iload_3 1027 dL_law_1026 rfl ?_
  refine j_iconst 1028 dL_law_1027 ?_
  refine j_iadd 1029 dL_law_1028 ?_
  refine j_sld 1030 (i + 2) dL_law_1029 (by omega) (by omega) hL ?_
  refine j_callX 1033 Y_X6_node [_, _] h1 h2 m_X6_node wml_L_131 dL_law_1030 rfl rfl (Rel_at hRel).1 rfl rfl rfl rfl rfl (fun C2 g1 => ?_)
  refine j_aload_2 1034 dL_law_1033 rfl ?_
  refine j_aload_0 1035 dL_law_1034 rfl ?_
  refine j_iload_3 1036 dL_law_1035 rfl ?_
  refine j_iconst 1037 dL_law_1036 ?_
  refine j_iadd 1038 dL_law_1037 ?_
  refine j_sld 1039 (i + 1) dL_law_1038 (by omega) (by omega) hL ?_
  refine j_aload_0 1040 dL_law_1039 rfl ?_
  refine j_iload_3 1041 dL_law_1040 rfl ?_
  refine j_iconst 1042 dL_law_1041 ?_
  refine j_iadd 1043 dL_law_1042 ?_
  refine j_sld 1044 (i + 2) dL_law_1043 (by omega) (by omega) hL ?_
  refine j_callM 1047 Y_X7_node [_, _] h3 h4 m_X7_node wml_L_134 dL_law_1044 rfl rfl (Rel_at hRel).2 rfl rfl rfl rfl rfl (fun M2 g2 => ?_)
  exact j_same 1138 dL_law_1047 (kk C2 M2 (h5 _ _ g1 g2))

set_option maxRecDepth 100000 in
set_option maxHeartbeats 4000000 in
theorem law_asked {E : jD} {nm : String} {b L : Nat} {xs : Nat → Int32} {ad ma : Nat → Nat} {C M : va_W} {i : Nat} (hL : L ≤ 3072) (hi : i + 6 ≤ L) (hRel : Rel E ad ma C M) (kk : ∀ C2 M2, Rel E ad ma C2 M2 → J E (YL nm) (ZL b L xs) 56 1618 1138 (lvL b ad ma i) [] (C2 ++ M2)) : J E (YL nm) (ZL b L xs) 56 1618 1052 (lvL b ad ma i) [] (C ++ M) := by
  obtain ⟨z, QC, QM, h1, h2, h3, h4, h5⟩ := st_asked E ad ma C M hRel  
  refine j_aload_1 1053 dL_law_1052 rfl ?_
  refine j_callX 1056 Y_X6_asked [] h1 h2 m_X6_asked wml_L_135 dL_law_1053 rfl rfl (Rel_at hRel).1 rfl rfl rfl rfl rfl (fun C2 g1 => ?_)
  refine j_aload_2 1057 dL_law_1056 rfl ?_
  refine j_callM 1060 Y_X7_asked [] h3 h4 m_X7_asked wml_L_138 dL_law_1057 rfl rfl (Rel_at hRel).2 rfl rfl rfl rfl rfl (fun M2 g2 => ?_)
  exact j_same 1138 dL_law_1060 (kk C2 M2 (h5 _ _ g1 g2))

set_option maxRecDepth 100000 in
set_option maxHeartbeats 4000000 in
theorem law_count {E : jD} {nm : String} {b L : Nat} {xs : Nat → Int32} {ad ma : Nat → Nat} {C M : va_W} {i : Nat} (hL : L ≤ 3072) (hi : i + 6 ≤ L) (hRel : Rel E ad ma C M) (kk : ∀ C2 M2, Rel E ad ma C2 M2 → J E (YL nm) (ZL b L xs) 56 1618 1138 (lvL b ad ma i) [] (C2 ++ M2)) : J E (YL nm) (ZL b L xs) 56 1618 1065 (lvL b ad ma i) [] (C ++ M) := by
  obtain ⟨z, QC, QM, h1, h2, h3, h4, h5⟩ := st_count E ad ma C M hRel (xs (i + 1)).toInt (iI_rng _)
  refine j_aload_1 1066 dL_law_1065 rfl ?_
  refine j_aload_0 1067 dL_law_1066 rfl ?_
  refine j_iload_3 1068 dL_law_1067 rfl ?_
  refine j_iconst 1069 dL_law_1068 ?_
  refine j_iadd 1070 dL_law_1069 ?_
  refine j_sld 1071 (i + 1) dL_law_1070 (by omega) (by omega) hL ?_
  refine j_callX 1074 Y_X6_count [_] h1 h2 m_X6_count wml_L_139 dL_law_1071 rfl rfl (Rel_at hRel).1 rfl rfl rfl rfl rfl (fun C2 g1 => ?_)
  refine j_aload_2 1075 dL_law_1074 rfl ?_
  refine j_aload_0 1076 dL_law_1075 rfl ?_
  refine j_iload_3 1077 dL_law_1076 rfl ?_
  refine j_iconst 1078 dL_law_1077 ?_
  refine j_iadd 1079 dL_law_1078 ?_
  refine j_sld 1080 (i + 1) dL_law_1079 (by omega) (by omega) hL ?_
  refine j_callM 1083 Y_X7_count [_] h3 h4 m_X7_count wml_L_142 dL_law_1080 rfl rfl (Rel_at hRel).2 rfl rfl rfl rfl rfl (fun M2 g2 => ?_)
  exact j_same 1138 dL_law_1083 (kk C2 M2 (h5 _ _ g1 g2))

set_option maxRecDepth 100000 in
set_option maxHeartbeats 4000000 in
theorem law_finding {E : jD} {nm : String} {b L : Nat} {xs : Nat → Int32} {ad ma : Nat → Nat} {C M : va_W} {i : Nat} (hL : L ≤ 3072) (hi : i + 6 ≤ L) (hRel : Rel E ad ma C M) (kk : ∀ C2 M2, Rel E ad ma C2 M2 → J E (YL nm) (ZL b L xs) 56 1618 1138 (lvL b ad ma i) [] (C2 ++ M2)) : J E (YL nm) (ZL b L xs) 56 1618 1088 (lvL b ad ma i) [] (C ++ M) := by
  obtain ⟨z, QC, QM, h1, h2, h3, h4, h5⟩ := st_finding E ad ma C M hRel  
  refine j_aload_1 1089 dL_law_1088 rfl ?_
  refine j_callX 1092 Y_X6_finding [] h1 h2 m_X6_finding wml_L_143 dL_law_1089 rfl rfl (Rel_at hRel).1 rfl rfl rfl rfl rfl (fun C2 g1 => ?_)
  refine j_aload_2 1093 dL_law_1092 rfl ?_
  refine j_callM 1096 Y_X7_finding [] h3 h4 m_X7_finding wml_L_146 dL_law_1093 rfl rfl (Rel_at hRel).2 rfl rfl rfl rfl rfl (fun M2 g2 => ?_)
  exact j_same 1138 dL_law_1096 (kk C2 M2 (h5 _ _ g1 g2))

set_option maxRecDepth 100000 in
set_option maxHeartbeats 4000000 in
theorem law_findings {E : jD} {nm : String} {b L : Nat} {xs : Nat → Int32} {ad ma : Nat → Nat} {C M : va_W} {i : Nat} (hL : L ≤ 3072) (hi : i + 6 ≤ L) (hRel : Rel E ad ma C M) (kk : ∀ C2 M2, Rel E ad ma C2 M2 → J E (YL nm) (ZL b L xs) 56 1618 1138 (lvL b ad ma i) [] (C2 ++ M2)) : J E (YL nm) (ZL b L xs) 56 1618 1101 (lvL b ad ma i) [] (C ++ M) := by
  obtain ⟨z, QC, QM, h1, h2, h3, h4, h5⟩ := st_findings E ad ma C M hRel (xs (i + 1)).toInt (iI_rng _)
  refine j_aload_1 1102 dL_law_1101 rfl ?_
  refine j_aload_0 1103 dL_law_1102 rfl ?_
  refine j_iload_3 1104 dL_law_1103 rfl ?_
  refine j_iconst 1105 dL_law_1104 ?_
  refine j_iadd 1106 dL_law_1105 ?_
  refine j_sld 1107 (i + 1) dL_law_1106 (by omega) (by omega) hL ?_
  refine j_callX 1110 Y_X6_findings [_] h1 h2 m_X6_findings wml_L_147 dL_law_1107 rfl rfl (Rel_at hRel).1 rfl rfl rfl rfl rfl (fun C2 g1 => ?_)
  refine j_aload_2 1111 dL_law_1110 rfl ?_
  refine j_aload_0 1112 dL_law_1111 rfl ?_
  refine j_iload_3 1113 dL_law_1112 rfl ?_
  refine j_iconst 1114 dL_law_1113 ?_
  refine j_iadd 1115 dL_law_1114 ?_
  refine j_sld 1116 (i + 1) dL_law_1115 (by omega) (by omega) hL ?_
  refine j_callM 1119 Y_X7_findings [_] h3 h4 m_X7_findings wml_L_150 dL_law_1116 rfl rfl (Rel_at hRel).2 rfl rfl rfl rfl rfl (fun M2 g2 => ?_)
  exact j_same 1138 dL_law_1119 (kk C2 M2 (h5 _ _ g1 g2))

set_option maxRecDepth 100000 in
set_option maxHeartbeats 4000000 in
theorem law_digest {E : jD} {nm : String} {b L : Nat} {xs : Nat → Int32} {ad ma : Nat → Nat} {C M : va_W} {i : Nat} (hL : L ≤ 3072) (hi : i + 6 ≤ L) (hRel : Rel E ad ma C M) (kk : ∀ C2 M2, Rel E ad ma C2 M2 → J E (YL nm) (ZL b L xs) 56 1618 1138 (lvL b ad ma i) [] (C2 ++ M2)) : J E (YL nm) (ZL b L xs) 56 1618 1124 (lvL b ad ma i) [] (C ++ M) := by
  obtain ⟨z, QC, QM, h1, h2, h3, h4, h5⟩ := st_digest E ad ma C M hRel  
  refine j_aload_1 1125 dL_law_1124 rfl ?_
  refine j_callX 1128 Y_X6_digest [] h1 h2 m_X6_digest wml_L_151 dL_law_1125 rfl rfl (Rel_at hRel).1 rfl rfl rfl rfl rfl (fun C2 g1 => ?_)
  refine j_aload_2 1129 dL_law_1128 rfl ?_
  refine j_callM 1132 Y_X7_digest [] h3 h4 m_X7_digest wml_L_154 dL_law_1129 rfl rfl (Rel_at hRel).2 rfl rfl rfl rfl rfl (fun M2 g2 => ?_)
  exact j_lif_eq 1138 1136 dL_law_1132 dL_law_1133 (fun _ => kk C2 M2 (h5 _ _ g1 g2)) (fun h => absurd rfl h)
