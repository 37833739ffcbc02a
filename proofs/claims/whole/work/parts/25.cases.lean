/-! the law's cases (written by gen_law.py) -/
abbrev lvL (i : Nat) : List Value := [.ref 2, .ref 0, .ref 1, .int (nI i)]
theorem lc_0 {l : Launch} {b L i j : Nat} {xs : Nat → Int32} {g : Sg} {M1 M2 : Mm} (hL : L ≤ 2560) (hi : i + 5 ≤ L) (hj : j ≤ 511) (h1 : CS g M1) (h2 : MS g M2) (hJ : JV j g) (ih : ∀ (g : Sg) (M1 M2 : Mm), CS g M1 → MS g M2 → JV (j + 1) g → LG l b L xs 1224 (lvL i) [] M1 M2) : LG l b L xs 188 (lvL i) [] M1 M2 := by
  refine lg_aload1 189 rfl dL_law_188 ?_
  refine lg_aload0 190 rfl dL_law_189 ?_
  refine lg_iload3 191 rfl dL_law_190 ?_
  refine lg_iconst 192 rfl (v := 1) dL_law_191 (by decide) ?_
  refine lg_iadd 193 rfl dL_law_192 ?_
  refine lg_sld 194 rfl dL_law_193 (nI_add i 1) (by omega) hL ?_
  refine lg_i2l 195 rfl dL_law_194 ?_
  refine lg_bipush 197 rfl (v := 32) dL_law_195 (by decide) ?_
  refine lg_lshl 198 rfl dL_law_197 ?_
  refine lg_aload0 199 rfl dL_law_198 ?_
  refine lg_iload3 200 rfl dL_law_199 ?_
  refine lg_iconst 201 rfl (v := 2) dL_law_200 (by decide) ?_
  refine lg_iadd 202 rfl dL_law_201 ?_
  refine lg_sld 203 rfl dL_law_202 (nI_add i 2) (by omega) hL ?_
  refine lg_i2l 204 rfl dL_law_203 ?_
  refine lg_ldc2 207 rfl dL_law_204 cL_13 ?_
  refine lg_land 208 rfl dL_law_207 ?_
  refine lg_lor 209 rfl dL_law_208 ?_
  refine lg_callC (As := [.long (((xs (i + 1)).toInt64 <<< ((32 : Int32).toInt64 &&& 63)) ||| ((xs (i + 2)).toInt64 &&& 4294967295))]) 212 1 rfl kL_15 dL_law_209 ⟨rfl, rfl⟩ (fun _ => rfl) (pub_letters h1) rfl rfl rfl (fun r N1 hq => ?_)
  obtain ⟨rfl, g1⟩ := hq
  try simp only [rV, Option.toList, List.cons_append, List.nil_append]
  refine lg_aload2 213 rfl dL_law_212 ?_
  refine lg_aload0 214 rfl dL_law_213 ?_
  refine lg_iload3 215 rfl dL_law_214 ?_
  refine lg_iconst 216 rfl (v := 1) dL_law_215 (by decide) ?_
  refine lg_iadd 217 rfl dL_law_216 ?_
  refine lg_sld 218 rfl dL_law_217 (nI_add i 1) (by omega) hL ?_
  refine lg_i2l 219 rfl dL_law_218 ?_
  refine lg_bipush 221 rfl (v := 32) dL_law_219 (by decide) ?_
  refine lg_lshl 222 rfl dL_law_221 ?_
  refine lg_aload0 223 rfl dL_law_222 ?_
  refine lg_iload3 224 rfl dL_law_223 ?_
  refine lg_iconst 225 rfl (v := 2) dL_law_224 (by decide) ?_
  refine lg_iadd 226 rfl dL_law_225 ?_
  refine lg_sld 227 rfl dL_law_226 (nI_add i 2) (by omega) hL ?_
  refine lg_i2l 228 rfl dL_law_227 ?_
  refine lg_ldc2 231 rfl dL_law_228 cL_13 ?_
  refine lg_land 232 rfl dL_law_231 ?_
  refine lg_lor 233 rfl dL_law_232 ?_
  refine lg_callM (As := [.long (((xs (i + 1)).toInt64 <<< ((32 : Int32).toInt64 &&& 63)) ||| ((xs (i + 2)).toInt64 &&& 4294967295))]) 236 1 rfl kL_19 dL_law_233 ⟨rfl, rfl⟩ (fun _ => rfl) (mub_letters h2) rfl rfl rfl (fun r N2 hq => ?_)
  obtain ⟨rfl, g2⟩ := hq
  try simp only [rV, Option.toList, List.cons_append, List.nil_append]
  refine lg_cmpeq 1224 239 rfl dL_law_236 (by decide) (fun _ => ?_) (fun h => absurd rfl h)
  exact ih _ _ _ g1 g2 (jv_letters hJ)
theorem lc_1 {l : Launch} {b L i j : Nat} {xs : Nat → Int32} {g : Sg} {M1 M2 : Mm} (hL : L ≤ 2560) (hi : i + 5 ≤ L) (hj : j ≤ 511) (h1 : CS g M1) (h2 : MS g M2) (hJ : JV j g) (ih : ∀ (g : Sg) (M1 M2 : Mm), CS g M1 → MS g M2 → JV (j + 1) g → LG l b L xs 1224 (lvL i) [] M1 M2) : LG l b L xs 241 (lvL i) [] M1 M2 := by
  refine lg_aload1 242 rfl dL_law_241 ?_
  refine lg_callC (As := []) 245 0 rfl kL_20 dL_law_242 ⟨rfl, rfl⟩ (fun _ => rfl) (pub_blank h1) rfl rfl rfl (fun r N1 hq => ?_)
  obtain ⟨rfl, g1⟩ := hq
  try simp only [rV, Option.toList, List.cons_append, List.nil_append]
  refine lg_aload2 246 rfl dL_law_245 ?_
  refine lg_callM (As := []) 249 0 rfl kL_24 dL_law_246 ⟨rfl, rfl⟩ (fun _ => rfl) (mub_blank h2) rfl rfl rfl (fun r N2 hq => ?_)
  obtain ⟨rfl, g2⟩ := hq
  try simp only [rV, Option.toList, List.cons_append, List.nil_append]
  refine lg_cmpeq 1224 252 rfl dL_law_249 (by decide) (fun _ => ?_) (fun h => absurd rfl h)
  exact ih _ _ _ g1 g2 (jv_blank hJ)
theorem lc_2 {l : Launch} {b L i j : Nat} {xs : Nat → Int32} {g : Sg} {M1 M2 : Mm} (hL : L ≤ 2560) (hi : i + 5 ≤ L) (hj : j ≤ 511) (h1 : CS g M1) (h2 : MS g M2) (hJ : JV j g) (ih : ∀ (g : Sg) (M1 M2 : Mm), CS g M1 → MS g M2 → JV (j + 1) g → LG l b L xs 1224 (lvL i) [] M1 M2) : LG l b L xs 254 (lvL i) [] M1 M2 := by
  refine lg_aload1 255 rfl dL_law_254 ?_
  refine lg_aload0 256 rfl dL_law_255 ?_
  refine lg_iload3 257 rfl dL_law_256 ?_
  refine lg_iconst 258 rfl (v := 1) dL_law_257 (by decide) ?_
  refine lg_iadd 259 rfl dL_law_258 ?_
  refine lg_sld 260 rfl dL_law_259 (nI_add i 1) (by omega) hL ?_
  refine lg_callC (As := [.int (xs (i + 1))]) 263 1 rfl kL_25 dL_law_260 ⟨rfl, rfl⟩ (fun _ => rfl) (pub_fault h1) rfl rfl rfl (fun r N1 hq => ?_)
  obtain ⟨rfl, g1⟩ := hq
  try simp only [rV, Option.toList, List.cons_append, List.nil_append]
  refine lg_aload2 264 rfl dL_law_263 ?_
  refine lg_aload0 265 rfl dL_law_264 ?_
  refine lg_iload3 266 rfl dL_law_265 ?_
  refine lg_iconst 267 rfl (v := 1) dL_law_266 (by decide) ?_
  refine lg_iadd 268 rfl dL_law_267 ?_
  refine lg_sld 269 rfl dL_law_268 (nI_add i 1) (by omega) hL ?_
  refine lg_callM (As := [.int (xs (i + 1))]) 272 1 rfl kL_29 dL_law_269 ⟨rfl, rfl⟩ (fun _ => rfl) (mub_fault h2) rfl rfl rfl (fun r N2 hq => ?_)
  obtain ⟨rfl, g2⟩ := hq
  try simp only [rV, Option.toList, List.cons_append, List.nil_append]
  refine lg_cmpeq 1224 275 rfl dL_law_272 (by decide) (fun _ => ?_) (fun h => absurd rfl h)
  exact ih _ _ _ g1 g2 (hJ.keep)
theorem lc_3 {l : Launch} {b L i j : Nat} {xs : Nat → Int32} {g : Sg} {M1 M2 : Mm} (hL : L ≤ 2560) (hi : i + 5 ≤ L) (hj : j ≤ 511) (h1 : CS g M1) (h2 : MS g M2) (hJ : JV j g) (ih : ∀ (g : Sg) (M1 M2 : Mm), CS g M1 → MS g M2 → JV (j + 1) g → LG l b L xs 1224 (lvL i) [] M1 M2) : LG l b L xs 277 (lvL i) [] M1 M2 := by
  have hS : gS g < 999999 := by have := hJ.2; omega
  have hI : gI g ≤ gS g := h1.2.2.2.2.2.2.2.2.2.2.2.1
  refine lg_aload1 278 rfl dL_law_277 ?_
  refine lg_callC (As := []) 281 0 rfl kL_30 dL_law_278 ⟨rfl, rfl⟩ (fun _ => rfl) (pub_street h1 hS) rfl rfl rfl (fun r N1 hq => ?_)
  obtain ⟨rfl, g1⟩ := hq
  try simp only [rV, Option.toList, List.cons_append, List.nil_append]
  refine lg_aload2 282 rfl dL_law_281 ?_
  refine lg_callM (As := []) 285 0 rfl kL_33 dL_law_282 ⟨rfl, rfl⟩ (fun _ => rfl) (mub_street h2 hS) rfl rfl rfl (fun r N2 hq => ?_)
  obtain ⟨rfl, g2⟩ := hq
  try simp only [rV, Option.toList, List.cons_append, List.nil_append]
  refine lg_cmpeq 1224 288 rfl dL_law_285 (by decide) (fun _ => ?_) (fun h => absurd rfl h)
  exact ih _ _ _ g1 g2 (jv_street hI hJ)
theorem lc_4 {l : Launch} {b L i j : Nat} {xs : Nat → Int32} {g : Sg} {M1 M2 : Mm} (hL : L ≤ 2560) (hi : i + 5 ≤ L) (hj : j ≤ 511) (h1 : CS g M1) (h2 : MS g M2) (hJ : JV j g) (ih : ∀ (g : Sg) (M1 M2 : Mm), CS g M1 → MS g M2 → JV (j + 1) g → LG l b L xs 1224 (lvL i) [] M1 M2) : LG l b L xs 290 (lvL i) [] M1 M2 := by
  refine lg_aload1 291 rfl dL_law_290 ?_
  refine lg_callC (As := []) 294 0 rfl kL_34 dL_law_291 ⟨rfl, rfl⟩ (fun _ => rfl) (pub_carts h1) rfl rfl rfl (fun r N1 hq => ?_)
  obtain ⟨rfl, g1⟩ := hq
  try simp only [rV, Option.toList, List.cons_append, List.nil_append]
  refine lg_aload2 295 rfl dL_law_294 ?_
  refine lg_callM (As := []) 298 0 rfl kL_37 dL_law_295 ⟨rfl, rfl⟩ (fun _ => rfl) (mub_carts h2) rfl rfl rfl (fun r N2 hq => ?_)
  obtain ⟨rfl, g2⟩ := hq
  try simp only [rV, Option.toList, List.cons_append, List.nil_append]
  refine lg_cmpeq 1224 301 rfl dL_law_298 (by decide) (fun _ => ?_) (fun h => absurd rfl h)
  exact ih _ _ _ g1 g2 (jv_carts hJ)
theorem lc_5 {l : Launch} {b L i j : Nat} {xs : Nat → Int32} {g : Sg} {M1 M2 : Mm} (hL : L ≤ 2560) (hi : i + 5 ≤ L) (hj : j ≤ 511) (h1 : CS g M1) (h2 : MS g M2) (hJ : JV j g) (ih : ∀ (g : Sg) (M1 M2 : Mm), CS g M1 → MS g M2 → JV (j + 1) g → LG l b L xs 1224 (lvL i) [] M1 M2) : LG l b L xs 303 (lvL i) [] M1 M2 := by
  refine lg_aload1 304 rfl dL_law_303 ?_
  refine lg_aload0 305 rfl dL_law_304 ?_
  refine lg_iload3 306 rfl dL_law_305 ?_
  refine lg_iconst 307 rfl (v := 1) dL_law_306 (by decide) ?_
  refine lg_iadd 308 rfl dL_law_307 ?_
  refine lg_sld 309 rfl dL_law_308 (nI_add i 1) (by omega) hL ?_
  refine lg_aload0 310 rfl dL_law_309 ?_
  refine lg_iload3 311 rfl dL_law_310 ?_
  refine lg_iconst 312 rfl (v := 2) dL_law_311 (by decide) ?_
  refine lg_iadd 313 rfl dL_law_312 ?_
  refine lg_sld 314 rfl dL_law_313 (nI_add i 2) (by omega) hL ?_
  refine lg_callC (As := [.int (xs (i + 1)), .int (xs (i + 2))]) 317 2 rfl kL_38 dL_law_314 ⟨rfl, rfl⟩ (fun _ => rfl) (pub_cart h1) rfl rfl rfl (fun r N1 hq => ?_)
  obtain ⟨rfl, g1⟩ := hq
  try simp only [rV, Option.toList, List.cons_append, List.nil_append]
  refine lg_aload2 318 rfl dL_law_317 ?_
  refine lg_aload0 319 rfl dL_law_318 ?_
  refine lg_iload3 320 rfl dL_law_319 ?_
  refine lg_iconst 321 rfl (v := 1) dL_law_320 (by decide) ?_
  refine lg_iadd 322 rfl dL_law_321 ?_
  refine lg_sld 323 rfl dL_law_322 (nI_add i 1) (by omega) hL ?_
  refine lg_aload0 324 rfl dL_law_323 ?_
  refine lg_iload3 325 rfl dL_law_324 ?_
  refine lg_iconst 326 rfl (v := 2) dL_law_325 (by decide) ?_
  refine lg_iadd 327 rfl dL_law_326 ?_
  refine lg_sld 328 rfl dL_law_327 (nI_add i 2) (by omega) hL ?_
  refine lg_callM (As := [.int (xs (i + 1)), .int (xs (i + 2))]) 331 2 rfl kL_42 dL_law_328 ⟨rfl, rfl⟩ (fun _ => rfl) (mub_cart h2) rfl rfl rfl (fun r N2 hq => ?_)
  obtain ⟨rfl, g2⟩ := hq
  try simp only [rV, Option.toList, List.cons_append, List.nil_append]
  refine lg_cmpeq 1224 334 rfl dL_law_331 (by decide) (fun _ => ?_) (fun h => absurd rfl h)
  exact ih _ _ _ g1 g2 (hJ.keep)
theorem lc_6 {l : Launch} {b L i j : Nat} {xs : Nat → Int32} {g : Sg} {M1 M2 : Mm} (hL : L ≤ 2560) (hi : i + 5 ≤ L) (hj : j ≤ 511) (h1 : CS g M1) (h2 : MS g M2) (hJ : JV j g) (ih : ∀ (g : Sg) (M1 M2 : Mm), CS g M1 → MS g M2 → JV (j + 1) g → LG l b L xs 1224 (lvL i) [] M1 M2) : LG l b L xs 336 (lvL i) [] M1 M2 := by
  refine lg_aload1 337 rfl dL_law_336 ?_
  refine lg_aload0 338 rfl dL_law_337 ?_
  refine lg_iload3 339 rfl dL_law_338 ?_
  refine lg_iconst 340 rfl (v := 1) dL_law_339 (by decide) ?_
  refine lg_iadd 341 rfl dL_law_340 ?_
  refine lg_sld 342 rfl dL_law_341 (nI_add i 1) (by omega) hL ?_
  refine lg_aload0 343 rfl dL_law_342 ?_
  refine lg_iload3 344 rfl dL_law_343 ?_
  refine lg_iconst 345 rfl (v := 2) dL_law_344 (by decide) ?_
  refine lg_iadd 346 rfl dL_law_345 ?_
  refine lg_sld 347 rfl dL_law_346 (nI_add i 2) (by omega) hL ?_
  refine lg_callC (As := [.int (xs (i + 1)), .int (xs (i + 2))]) 350 2 rfl kL_43 dL_law_347 ⟨rfl, rfl⟩ (fun _ => rfl) (pub_cell h1) rfl rfl rfl (fun r N1 hq => ?_)
  obtain ⟨rfl, g1⟩ := hq
  try simp only [rV, Option.toList, List.cons_append, List.nil_append]
  refine lg_aload2 351 rfl dL_law_350 ?_
  refine lg_aload0 352 rfl dL_law_351 ?_
  refine lg_iload3 353 rfl dL_law_352 ?_
  refine lg_iconst 354 rfl (v := 1) dL_law_353 (by decide) ?_
  refine lg_iadd 355 rfl dL_law_354 ?_
  refine lg_sld 356 rfl dL_law_355 (nI_add i 1) (by omega) hL ?_
  refine lg_aload0 357 rfl dL_law_356 ?_
  refine lg_iload3 358 rfl dL_law_357 ?_
  refine lg_iconst 359 rfl (v := 2) dL_law_358 (by decide) ?_
  refine lg_iadd 360 rfl dL_law_359 ?_
  refine lg_sld 361 rfl dL_law_360 (nI_add i 2) (by omega) hL ?_
  refine lg_callM (As := [.int (xs (i + 1)), .int (xs (i + 2))]) 364 2 rfl kL_46 dL_law_361 ⟨rfl, rfl⟩ (fun _ => rfl) (mub_cell h2) rfl rfl rfl (fun r N2 hq => ?_)
  obtain ⟨rfl, g2⟩ := hq
  try simp only [rV, Option.toList, List.cons_append, List.nil_append]
  refine lg_cmpeq 1224 367 rfl dL_law_364 (by decide) (fun _ => ?_) (fun h => absurd rfl h)
  exact ih _ _ _ g1 g2 (hJ.keep)
theorem lc_7 {l : Launch} {b L i j : Nat} {xs : Nat → Int32} {g : Sg} {M1 M2 : Mm} (hL : L ≤ 2560) (hi : i + 5 ≤ L) (hj : j ≤ 511) (h1 : CS g M1) (h2 : MS g M2) (hJ : JV j g) (ih : ∀ (g : Sg) (M1 M2 : Mm), CS g M1 → MS g M2 → JV (j + 1) g → LG l b L xs 1224 (lvL i) [] M1 M2) : LG l b L xs 369 (lvL i) [] M1 M2 := by
  refine lg_aload1 370 rfl dL_law_369 ?_
  refine lg_aload0 371 rfl dL_law_370 ?_
  refine lg_iload3 372 rfl dL_law_371 ?_
  refine lg_iconst 373 rfl (v := 1) dL_law_372 (by decide) ?_
  refine lg_iadd 374 rfl dL_law_373 ?_
  refine lg_sld 375 rfl dL_law_374 (nI_add i 1) (by omega) hL ?_
  refine lg_aload0 376 rfl dL_law_375 ?_
  refine lg_iload3 377 rfl dL_law_376 ?_
  refine lg_iconst 378 rfl (v := 2) dL_law_377 (by decide) ?_
  refine lg_iadd 379 rfl dL_law_378 ?_
  refine lg_sld 380 rfl dL_law_379 (nI_add i 2) (by omega) hL ?_
  refine lg_callC (As := [.int (xs (i + 1)), .int (xs (i + 2))]) 383 2 rfl kL_47 dL_law_380 ⟨rfl, rfl⟩ (fun _ => rfl) (pub_as h1) rfl rfl rfl (fun r N1 hq => ?_)
  obtain ⟨rfl, g1⟩ := hq
  try simp only [rV, Option.toList, List.cons_append, List.nil_append]
  refine lg_aload2 384 rfl dL_law_383 ?_
  refine lg_aload0 385 rfl dL_law_384 ?_
  refine lg_iload3 386 rfl dL_law_385 ?_
  refine lg_iconst 387 rfl (v := 1) dL_law_386 (by decide) ?_
  refine lg_iadd 388 rfl dL_law_387 ?_
  refine lg_sld 389 rfl dL_law_388 (nI_add i 1) (by omega) hL ?_
  refine lg_aload0 390 rfl dL_law_389 ?_
  refine lg_iload3 391 rfl dL_law_390 ?_
  refine lg_iconst 392 rfl (v := 2) dL_law_391 (by decide) ?_
  refine lg_iadd 393 rfl dL_law_392 ?_
  refine lg_sld 394 rfl dL_law_393 (nI_add i 2) (by omega) hL ?_
  refine lg_callM (As := [.int (xs (i + 1)), .int (xs (i + 2))]) 397 2 rfl kL_50 dL_law_394 ⟨rfl, rfl⟩ (fun _ => rfl) (mub_as h2) rfl rfl rfl (fun r N2 hq => ?_)
  obtain ⟨rfl, g2⟩ := hq
  try simp only [rV, Option.toList, List.cons_append, List.nil_append]
  refine lg_cmpeq 1224 400 rfl dL_law_397 (by decide) (fun _ => ?_) (fun h => absurd rfl h)
  exact ih _ _ _ g1 g2 (hJ.keep)
theorem lc_8 {l : Launch} {b L i j : Nat} {xs : Nat → Int32} {g : Sg} {M1 M2 : Mm} (hL : L ≤ 2560) (hi : i + 5 ≤ L) (hj : j ≤ 511) (h1 : CS g M1) (h2 : MS g M2) (hJ : JV j g) (ih : ∀ (g : Sg) (M1 M2 : Mm), CS g M1 → MS g M2 → JV (j + 1) g → LG l b L xs 1224 (lvL i) [] M1 M2) : LG l b L xs 402 (lvL i) [] M1 M2 := by
  refine lg_aload1 403 rfl dL_law_402 ?_
  refine lg_aload0 404 rfl dL_law_403 ?_
  refine lg_iload3 405 rfl dL_law_404 ?_
  refine lg_iconst 406 rfl (v := 1) dL_law_405 (by decide) ?_
  refine lg_iadd 407 rfl dL_law_406 ?_
  refine lg_sld 408 rfl dL_law_407 (nI_add i 1) (by omega) hL ?_
  refine lg_callC (As := [.int (xs (i + 1))]) 411 1 rfl kL_51 dL_law_408 ⟨rfl, rfl⟩ (fun _ => rfl) (pub_set h1) rfl rfl rfl (fun r N1 hq => ?_)
  obtain ⟨rfl, g1⟩ := hq
  try simp only [rV, Option.toList, List.cons_append, List.nil_append]
  refine lg_aload2 412 rfl dL_law_411 ?_
  refine lg_aload0 413 rfl dL_law_412 ?_
  refine lg_iload3 414 rfl dL_law_413 ?_
  refine lg_iconst 415 rfl (v := 1) dL_law_414 (by decide) ?_
  refine lg_iadd 416 rfl dL_law_415 ?_
  refine lg_sld 417 rfl dL_law_416 (nI_add i 1) (by omega) hL ?_
  refine lg_callM (As := [.int (xs (i + 1))]) 420 1 rfl kL_54 dL_law_417 ⟨rfl, rfl⟩ (fun _ => rfl) (mub_set h2) rfl rfl rfl (fun r N2 hq => ?_)
  obtain ⟨rfl, g2⟩ := hq
  try simp only [rV, Option.toList, List.cons_append, List.nil_append]
  refine lg_cmpeq 1224 423 rfl dL_law_420 (by decide) (fun _ => ?_) (fun h => absurd rfl h)
  exact ih _ _ _ g1 g2 (jv_set hJ)
theorem lc_9 {l : Launch} {b L i j : Nat} {xs : Nat → Int32} {g : Sg} {M1 M2 : Mm} (hL : L ≤ 2560) (hi : i + 5 ≤ L) (hj : j ≤ 511) (h1 : CS g M1) (h2 : MS g M2) (hJ : JV j g) (ih : ∀ (g : Sg) (M1 M2 : Mm), CS g M1 → MS g M2 → JV (j + 1) g → LG l b L xs 1224 (lvL i) [] M1 M2) : LG l b L xs 425 (lvL i) [] M1 M2 := by
  refine lg_aload1 426 rfl dL_law_425 ?_
  refine lg_aload0 427 rfl dL_law_426 ?_
  refine lg_iload3 428 rfl dL_law_427 ?_
  refine lg_iconst 429 rfl (v := 1) dL_law_428 (by decide) ?_
  refine lg_iadd 430 rfl dL_law_429 ?_
  refine lg_sld 431 rfl dL_law_430 (nI_add i 1) (by omega) hL ?_
  refine lg_callC (As := [.int (xs (i + 1))]) 434 1 rfl kL_55 dL_law_431 ⟨rfl, rfl⟩ (fun _ => rfl) (pub_grit h1) rfl rfl rfl (fun r N1 hq => ?_)
  obtain ⟨rfl, g1⟩ := hq
  try simp only [rV, Option.toList, List.cons_append, List.nil_append]
  refine lg_aload2 435 rfl dL_law_434 ?_
  refine lg_aload0 436 rfl dL_law_435 ?_
  refine lg_iload3 437 rfl dL_law_436 ?_
  refine lg_iconst 438 rfl (v := 1) dL_law_437 (by decide) ?_
  refine lg_iadd 439 rfl dL_law_438 ?_
  refine lg_sld 440 rfl dL_law_439 (nI_add i 1) (by omega) hL ?_
  refine lg_callM (As := [.int (xs (i + 1))]) 443 1 rfl kL_58 dL_law_440 ⟨rfl, rfl⟩ (fun _ => rfl) (mub_grit h2) rfl rfl rfl (fun r N2 hq => ?_)
  obtain ⟨rfl, g2⟩ := hq
  try simp only [rV, Option.toList, List.cons_append, List.nil_append]
  refine lg_cmpeq 1224 446 rfl dL_law_443 (by decide) (fun _ => ?_) (fun h => absurd rfl h)
  exact ih _ _ _ g1 g2 (jv_grit hJ)
theorem lc_10 {l : Launch} {b L i j : Nat} {xs : Nat → Int32} {g : Sg} {M1 M2 : Mm} (hL : L ≤ 2560) (hi : i + 5 ≤ L) (hj : j ≤ 511) (h1 : CS g M1) (h2 : MS g M2) (hJ : JV j g) (ih : ∀ (g : Sg) (M1 M2 : Mm), CS g M1 → MS g M2 → JV (j + 1) g → LG l b L xs 1224 (lvL i) [] M1 M2) : LG l b L xs 448 (lvL i) [] M1 M2 := by
  have h30 : gN g ≤ 30 := h1.p.1.le
  refine lg_aload1 449 rfl dL_law_448 ?_
  refine lg_aload0 450 rfl dL_law_449 ?_
  refine lg_iload3 451 rfl dL_law_450 ?_
  refine lg_iconst 452 rfl (v := 1) dL_law_451 (by decide) ?_
  refine lg_iadd 453 rfl dL_law_452 ?_
  refine lg_sld 454 rfl dL_law_453 (nI_add i 1) (by omega) hL ?_
  refine lg_aload0 455 rfl dL_law_454 ?_
  refine lg_iload3 456 rfl dL_law_455 ?_
  refine lg_iconst 457 rfl (v := 2) dL_law_456 (by decide) ?_
  refine lg_iadd 458 rfl dL_law_457 ?_
  refine lg_sld 459 rfl dL_law_458 (nI_add i 2) (by omega) hL ?_
  refine lg_callC (As := [.int (xs (i + 1)), .int (xs (i + 2))]) 462 2 rfl kL_59 dL_law_459 ⟨rfl, rfl⟩ (fun _ => rfl) (pub_blow h1) rfl rfl rfl (fun r N1 hq => ?_)
  obtain ⟨rfl, g1⟩ := hq
  try simp only [rV, Option.toList, List.cons_append, List.nil_append]
  refine lg_aload2 463 rfl dL_law_462 ?_
  refine lg_aload0 464 rfl dL_law_463 ?_
  refine lg_iload3 465 rfl dL_law_464 ?_
  refine lg_iconst 466 rfl (v := 1) dL_law_465 (by decide) ?_
  refine lg_iadd 467 rfl dL_law_466 ?_
  refine lg_sld 468 rfl dL_law_467 (nI_add i 1) (by omega) hL ?_
  refine lg_aload0 469 rfl dL_law_468 ?_
  refine lg_iload3 470 rfl dL_law_469 ?_
  refine lg_iconst 471 rfl (v := 2) dL_law_470 (by decide) ?_
  refine lg_iadd 472 rfl dL_law_471 ?_
  refine lg_sld 473 rfl dL_law_472 (nI_add i 2) (by omega) hL ?_
  refine lg_callM (As := [.int (xs (i + 1)), .int (xs (i + 2))]) 476 2 rfl kL_62 dL_law_473 ⟨rfl, rfl⟩ (fun _ => rfl) (mub_blow h2 hJ.1) rfl rfl rfl (fun r N2 hq => ?_)
  obtain ⟨rfl, g2⟩ := hq
  try simp only [rV, Option.toList, List.cons_append, List.nil_append]
  refine lg_cmpeq 1224 479 rfl dL_law_476 (by decide) (fun _ => ?_) (fun h => absurd rfl h)
  exact ih _ _ _ g1 g2 (jv_blow (by omega) h30 hJ)
theorem lc_11 {l : Launch} {b L i j : Nat} {xs : Nat → Int32} {g : Sg} {M1 M2 : Mm} (hL : L ≤ 2560) (hi : i + 5 ≤ L) (hj : j ≤ 511) (h1 : CS g M1) (h2 : MS g M2) (hJ : JV j g) (ih : ∀ (g : Sg) (M1 M2 : Mm), CS g M1 → MS g M2 → JV (j + 1) g → LG l b L xs 1224 (lvL i) [] M1 M2) : LG l b L xs 481 (lvL i) [] M1 M2 := by
  have h30 : gN g ≤ 30 := h1.p.1.le
  refine lg_aload1 482 rfl dL_law_481 ?_
  refine lg_aload0 483 rfl dL_law_482 ?_
  refine lg_iload3 484 rfl dL_law_483 ?_
  refine lg_iconst 485 rfl (v := 1) dL_law_484 (by decide) ?_
  refine lg_iadd 486 rfl dL_law_485 ?_
  refine lg_sld 487 rfl dL_law_486 (nI_add i 1) (by omega) hL ?_
  refine lg_aload0 488 rfl dL_law_487 ?_
  refine lg_iload3 489 rfl dL_law_488 ?_
  refine lg_iconst 490 rfl (v := 2) dL_law_489 (by decide) ?_
  refine lg_iadd 491 rfl dL_law_490 ?_
  refine lg_sld 492 rfl dL_law_491 (nI_add i 2) (by omega) hL ?_
  refine lg_aload0 493 rfl dL_law_492 ?_
  refine lg_iload3 494 rfl dL_law_493 ?_
  refine lg_iconst 495 rfl (v := 3) dL_law_494 (by decide) ?_
  refine lg_iadd 496 rfl dL_law_495 ?_
  refine lg_sld 497 rfl dL_law_496 (nI_add i 3) (by omega) hL ?_
  refine lg_callC (As := [.int (xs (i + 1)), .int (xs (i + 2)), .int (xs (i + 3))]) 500 3 rfl kL_63 dL_law_497 ⟨rfl, rfl⟩ (fun _ => rfl) (pub_ram h1) rfl rfl rfl (fun r N1 hq => ?_)
  obtain ⟨rfl, g1⟩ := hq
  try simp only [rV, Option.toList, List.cons_append, List.nil_append]
  refine lg_aload2 501 rfl dL_law_500 ?_
  refine lg_aload0 502 rfl dL_law_501 ?_
  refine lg_iload3 503 rfl dL_law_502 ?_
  refine lg_iconst 504 rfl (v := 1) dL_law_503 (by decide) ?_
  refine lg_iadd 505 rfl dL_law_504 ?_
  refine lg_sld 506 rfl dL_law_505 (nI_add i 1) (by omega) hL ?_
  refine lg_aload0 507 rfl dL_law_506 ?_
  refine lg_iload3 508 rfl dL_law_507 ?_
  refine lg_iconst 509 rfl (v := 2) dL_law_508 (by decide) ?_
  refine lg_iadd 510 rfl dL_law_509 ?_
  refine lg_sld 511 rfl dL_law_510 (nI_add i 2) (by omega) hL ?_
  refine lg_aload0 512 rfl dL_law_511 ?_
  refine lg_iload3 513 rfl dL_law_512 ?_
  refine lg_iconst 514 rfl (v := 3) dL_law_513 (by decide) ?_
  refine lg_iadd 515 rfl dL_law_514 ?_
  refine lg_sld 516 rfl dL_law_515 (nI_add i 3) (by omega) hL ?_
  refine lg_callM (As := [.int (xs (i + 1)), .int (xs (i + 2)), .int (xs (i + 3))]) 519 3 rfl kL_67 dL_law_516 ⟨rfl, rfl⟩ (fun _ => rfl) (mub_ram h2 hJ.1) rfl rfl rfl (fun r N2 hq => ?_)
  obtain ⟨rfl, g2⟩ := hq
  try simp only [rV, Option.toList, List.cons_append, List.nil_append]
  refine lg_cmpeq 1224 522 rfl dL_law_519 (by decide) (fun _ => ?_) (fun h => absurd rfl h)
  exact ih _ _ _ g1 g2 (jv_ram (by omega) h30 hJ)
theorem lc_12 {l : Launch} {b L i j : Nat} {xs : Nat → Int32} {g : Sg} {M1 M2 : Mm} (hL : L ≤ 2560) (hi : i + 5 ≤ L) (hj : j ≤ 511) (h1 : CS g M1) (h2 : MS g M2) (hJ : JV j g) (ih : ∀ (g : Sg) (M1 M2 : Mm), CS g M1 → MS g M2 → JV (j + 1) g → LG l b L xs 1224 (lvL i) [] M1 M2) : LG l b L xs 524 (lvL i) [] M1 M2 := by
  refine lg_aload1 525 rfl dL_law_524 ?_
  refine lg_aload0 526 rfl dL_law_525 ?_
  refine lg_iload3 527 rfl dL_law_526 ?_
  refine lg_iconst 528 rfl (v := 1) dL_law_527 (by decide) ?_
  refine lg_iadd 529 rfl dL_law_528 ?_
  refine lg_sld 530 rfl dL_law_529 (nI_add i 1) (by omega) hL ?_
  refine lg_callC (As := [.int (xs (i + 1))]) 533 1 rfl kL_68 dL_law_530 ⟨rfl, rfl⟩ (fun _ => rfl) (pub_rings h1) rfl rfl rfl (fun r N1 hq => ?_)
  obtain ⟨rfl, g1⟩ := hq
  try simp only [rV, Option.toList, List.cons_append, List.nil_append]
  refine lg_aload2 534 rfl dL_law_533 ?_
  refine lg_aload0 535 rfl dL_law_534 ?_
  refine lg_iload3 536 rfl dL_law_535 ?_
  refine lg_iconst 537 rfl (v := 1) dL_law_536 (by decide) ?_
  refine lg_iadd 538 rfl dL_law_537 ?_
  refine lg_sld 539 rfl dL_law_538 (nI_add i 1) (by omega) hL ?_
  refine lg_callM (As := [.int (xs (i + 1))]) 542 1 rfl kL_71 dL_law_539 ⟨rfl, rfl⟩ (fun _ => rfl) (mub_rings h2 hJ.1) rfl rfl rfl (fun r N2 hq => ?_)
  obtain ⟨rfl, g2⟩ := hq
  try simp only [rV, Option.toList, List.cons_append, List.nil_append]
  refine lg_cmpeq 1224 545 rfl dL_law_542 (by decide) (fun _ => ?_) (fun h => absurd rfl h)
  exact ih _ _ _ g1 g2 (hJ.keep)
theorem lc_13 {l : Launch} {b L i j : Nat} {xs : Nat → Int32} {g : Sg} {M1 M2 : Mm} (hL : L ≤ 2560) (hi : i + 5 ≤ L) (hj : j ≤ 511) (h1 : CS g M1) (h2 : MS g M2) (hJ : JV j g) (ih : ∀ (g : Sg) (M1 M2 : Mm), CS g M1 → MS g M2 → JV (j + 1) g → LG l b L xs 1224 (lvL i) [] M1 M2) : LG l b L xs 547 (lvL i) [] M1 M2 := by
  refine lg_aload1 548 rfl dL_law_547 ?_
  refine lg_aload0 549 rfl dL_law_548 ?_
  refine lg_iload3 550 rfl dL_law_549 ?_
  refine lg_iconst 551 rfl (v := 1) dL_law_550 (by decide) ?_
  refine lg_iadd 552 rfl dL_law_551 ?_
  refine lg_sld 553 rfl dL_law_552 (nI_add i 1) (by omega) hL ?_
  refine lg_aload0 554 rfl dL_law_553 ?_
  refine lg_iload3 555 rfl dL_law_554 ?_
  refine lg_iconst 556 rfl (v := 2) dL_law_555 (by decide) ?_
  refine lg_iadd 557 rfl dL_law_556 ?_
  refine lg_sld 558 rfl dL_law_557 (nI_add i 2) (by omega) hL ?_
  refine lg_aload0 559 rfl dL_law_558 ?_
  refine lg_iload3 560 rfl dL_law_559 ?_
  refine lg_iconst 561 rfl (v := 3) dL_law_560 (by decide) ?_
  refine lg_iadd 562 rfl dL_law_561 ?_
  refine lg_sld 563 rfl dL_law_562 (nI_add i 3) (by omega) hL ?_
  refine lg_aload0 564 rfl dL_law_563 ?_
  refine lg_iload3 565 rfl dL_law_564 ?_
  refine lg_iconst 566 rfl (v := 4) dL_law_565 (by decide) ?_
  refine lg_iadd 567 rfl dL_law_566 ?_
  refine lg_sld 568 rfl dL_law_567 (nI_add i 4) (by omega) hL ?_
  refine lg_callC (As := [.int (xs (i + 1)), .int (xs (i + 2)), .int (xs (i + 3)), .int (xs (i + 4))]) 571 4 rfl kL_72 dL_law_568 ⟨rfl, rfl⟩ (fun _ => rfl) (pub_proud h1) rfl rfl rfl (fun r N1 hq => ?_)
  obtain ⟨rfl, g1⟩ := hq
  try simp only [rV, Option.toList, List.cons_append, List.nil_append]
  refine lg_aload2 572 rfl dL_law_571 ?_
  refine lg_aload0 573 rfl dL_law_572 ?_
  refine lg_iload3 574 rfl dL_law_573 ?_
  refine lg_iconst 575 rfl (v := 1) dL_law_574 (by decide) ?_
  refine lg_iadd 576 rfl dL_law_575 ?_
  refine lg_sld 577 rfl dL_law_576 (nI_add i 1) (by omega) hL ?_
  refine lg_aload0 578 rfl dL_law_577 ?_
  refine lg_iload3 579 rfl dL_law_578 ?_
  refine lg_iconst 580 rfl (v := 2) dL_law_579 (by decide) ?_
  refine lg_iadd 581 rfl dL_law_580 ?_
  refine lg_sld 582 rfl dL_law_581 (nI_add i 2) (by omega) hL ?_
  refine lg_aload0 583 rfl dL_law_582 ?_
  refine lg_iload3 584 rfl dL_law_583 ?_
  refine lg_iconst 585 rfl (v := 3) dL_law_584 (by decide) ?_
  refine lg_iadd 586 rfl dL_law_585 ?_
  refine lg_sld 587 rfl dL_law_586 (nI_add i 3) (by omega) hL ?_
  refine lg_aload0 588 rfl dL_law_587 ?_
  refine lg_iload3 589 rfl dL_law_588 ?_
  refine lg_iconst 590 rfl (v := 4) dL_law_589 (by decide) ?_
  refine lg_iadd 591 rfl dL_law_590 ?_
  refine lg_sld 592 rfl dL_law_591 (nI_add i 4) (by omega) hL ?_
  refine lg_callM (As := [.int (xs (i + 1)), .int (xs (i + 2)), .int (xs (i + 3)), .int (xs (i + 4))]) 595 4 rfl kL_76 dL_law_592 ⟨rfl, rfl⟩ (fun _ => rfl) (mub_proud h2 hJ.1) rfl rfl rfl (fun r N2 hq => ?_)
  obtain ⟨rfl, g2⟩ := hq
  try simp only [rV, Option.toList, List.cons_append, List.nil_append]
  refine lg_cmpeq 1224 598 rfl dL_law_595 (by decide) (fun _ => ?_) (fun h => absurd rfl h)
  exact ih _ _ _ g1 g2 (hJ.keep)
theorem lc_14 {l : Launch} {b L i j : Nat} {xs : Nat → Int32} {g : Sg} {M1 M2 : Mm} (hL : L ≤ 2560) (hi : i + 5 ≤ L) (hj : j ≤ 511) (h1 : CS g M1) (h2 : MS g M2) (hJ : JV j g) (ih : ∀ (g : Sg) (M1 M2 : Mm), CS g M1 → MS g M2 → JV (j + 1) g → LG l b L xs 1224 (lvL i) [] M1 M2) : LG l b L xs 600 (lvL i) [] M1 M2 := by
  refine lg_aload1 601 rfl dL_law_600 ?_
  refine lg_aload0 602 rfl dL_law_601 ?_
  refine lg_iload3 603 rfl dL_law_602 ?_
  refine lg_iconst 604 rfl (v := 1) dL_law_603 (by decide) ?_
  refine lg_iadd 605 rfl dL_law_604 ?_
  refine lg_sld 606 rfl dL_law_605 (nI_add i 1) (by omega) hL ?_
  refine lg_aload0 607 rfl dL_law_606 ?_
  refine lg_iload3 608 rfl dL_law_607 ?_
  refine lg_iconst 609 rfl (v := 2) dL_law_608 (by decide) ?_
  refine lg_iadd 610 rfl dL_law_609 ?_
  refine lg_sld 611 rfl dL_law_610 (nI_add i 2) (by omega) hL ?_
  refine lg_callC (As := [.int (xs (i + 1)), .int (xs (i + 2))]) 614 2 rfl kL_77 dL_law_611 ⟨rfl, rfl⟩ (fun _ => rfl) (pub_until h1) rfl rfl rfl (fun r N1 hq => ?_)
  obtain ⟨rfl, g1⟩ := hq
  try simp only [rV, Option.toList, List.cons_append, List.nil_append]
  refine lg_aload2 615 rfl dL_law_614 ?_
  refine lg_aload0 616 rfl dL_law_615 ?_
  refine lg_iload3 617 rfl dL_law_616 ?_
  refine lg_iconst 618 rfl (v := 1) dL_law_617 (by decide) ?_
  refine lg_iadd 619 rfl dL_law_618 ?_
  refine lg_sld 620 rfl dL_law_619 (nI_add i 1) (by omega) hL ?_
  refine lg_aload0 621 rfl dL_law_620 ?_
  refine lg_iload3 622 rfl dL_law_621 ?_
  refine lg_iconst 623 rfl (v := 2) dL_law_622 (by decide) ?_
  refine lg_iadd 624 rfl dL_law_623 ?_
  refine lg_sld 625 rfl dL_law_624 (nI_add i 2) (by omega) hL ?_
  refine lg_callM (As := [.int (xs (i + 1)), .int (xs (i + 2))]) 628 2 rfl kL_80 dL_law_625 ⟨rfl, rfl⟩ (fun _ => rfl) (mub_until h2 hJ.1) rfl rfl rfl (fun r N2 hq => ?_)
  obtain ⟨rfl, g2⟩ := hq
  try simp only [rV, Option.toList, List.cons_append, List.nil_append]
  refine lg_cmpeq 1224 631 rfl dL_law_628 (by decide) (fun _ => ?_) (fun h => absurd rfl h)
  exact ih _ _ _ g1 g2 (hJ.keep)
theorem lc_15 {l : Launch} {b L i j : Nat} {xs : Nat → Int32} {g : Sg} {M1 M2 : Mm} (hL : L ≤ 2560) (hi : i + 5 ≤ L) (hj : j ≤ 511) (h1 : CS g M1) (h2 : MS g M2) (hJ : JV j g) (ih : ∀ (g : Sg) (M1 M2 : Mm), CS g M1 → MS g M2 → JV (j + 1) g → LG l b L xs 1224 (lvL i) [] M1 M2) : LG l b L xs 633 (lvL i) [] M1 M2 := by
  refine lg_aload1 634 rfl dL_law_633 ?_
  refine lg_callC (As := []) 637 0 rfl kL_81 dL_law_634 ⟨rfl, rfl⟩ (fun _ => rfl) (pub_uneven h1) rfl rfl rfl (fun r N1 hq => ?_)
  obtain ⟨rfl, g1⟩ := hq
  try simp only [rV, Option.toList, List.cons_append, List.nil_append]
  refine lg_aload2 638 rfl dL_law_637 ?_
  refine lg_callM (As := []) 641 0 rfl kL_84 dL_law_638 ⟨rfl, rfl⟩ (fun _ => rfl) (mub_uneven h2 hJ.1 (by omega)) rfl rfl rfl (fun r N2 hq => ?_)
  obtain ⟨rfl, g2⟩ := hq
  try simp only [rV, Option.toList, List.cons_append, List.nil_append]
  refine lg_cmpeq 1224 644 rfl dL_law_641 (by decide) (fun _ => ?_) (fun h => absurd rfl h)
  exact ih _ _ _ g1 g2 (hJ.keep)
theorem lc_16 {l : Launch} {b L i j : Nat} {xs : Nat → Int32} {g : Sg} {M1 M2 : Mm} (hL : L ≤ 2560) (hi : i + 5 ≤ L) (hj : j ≤ 511) (h1 : CS g M1) (h2 : MS g M2) (hJ : JV j g) (ih : ∀ (g : Sg) (M1 M2 : Mm), CS g M1 → MS g M2 → JV (j + 1) g → LG l b L xs 1224 (lvL i) [] M1 M2) : LG l b L xs 646 (lvL i) [] M1 M2 := by
  refine lg_aload1 647 rfl dL_law_646 ?_
  refine lg_aload0 648 rfl dL_law_647 ?_
  refine lg_iload3 649 rfl dL_law_648 ?_
  refine lg_iconst 650 rfl (v := 1) dL_law_649 (by decide) ?_
  refine lg_iadd 651 rfl dL_law_650 ?_
  refine lg_sld 652 rfl dL_law_651 (nI_add i 1) (by omega) hL ?_
  refine lg_aload0 653 rfl dL_law_652 ?_
  refine lg_iload3 654 rfl dL_law_653 ?_
  refine lg_iconst 655 rfl (v := 2) dL_law_654 (by decide) ?_
  refine lg_iadd 656 rfl dL_law_655 ?_
  refine lg_sld 657 rfl dL_law_656 (nI_add i 2) (by omega) hL ?_
  refine lg_callC (As := [.int (xs (i + 1)), .int (xs (i + 2))]) 660 2 rfl kL_85 dL_law_657 ⟨rfl, rfl⟩ (fun _ => rfl) (pub_evenest h1) rfl rfl rfl (fun r N1 hq => ?_)
  obtain ⟨rfl, g1⟩ := hq
  try simp only [rV, Option.toList, List.cons_append, List.nil_append]
  refine lg_aload2 661 rfl dL_law_660 ?_
  refine lg_aload0 662 rfl dL_law_661 ?_
  refine lg_iload3 663 rfl dL_law_662 ?_
  refine lg_iconst 664 rfl (v := 1) dL_law_663 (by decide) ?_
  refine lg_iadd 665 rfl dL_law_664 ?_
  refine lg_sld 666 rfl dL_law_665 (nI_add i 1) (by omega) hL ?_
  refine lg_aload0 667 rfl dL_law_666 ?_
  refine lg_iload3 668 rfl dL_law_667 ?_
  refine lg_iconst 669 rfl (v := 2) dL_law_668 (by decide) ?_
  refine lg_iadd 670 rfl dL_law_669 ?_
  refine lg_sld 671 rfl dL_law_670 (nI_add i 2) (by omega) hL ?_
  refine lg_callM (As := [.int (xs (i + 1)), .int (xs (i + 2))]) 674 2 rfl kL_88 dL_law_671 ⟨rfl, rfl⟩ (fun _ => rfl) (mub_evenest h2 hJ.1 (by omega)) rfl rfl rfl (fun r N2 hq => ?_)
  obtain ⟨rfl, g2⟩ := hq
  try simp only [rV, Option.toList, List.cons_append, List.nil_append]
  refine lg_cmpeq 1224 677 rfl dL_law_674 (by decide) (fun _ => ?_) (fun h => absurd rfl h)
  exact ih _ _ _ g1 g2 (hJ.keep)
theorem lc_17 {l : Launch} {b L i j : Nat} {xs : Nat → Int32} {g : Sg} {M1 M2 : Mm} (hL : L ≤ 2560) (hi : i + 5 ≤ L) (hj : j ≤ 511) (h1 : CS g M1) (h2 : MS g M2) (hJ : JV j g) (ih : ∀ (g : Sg) (M1 M2 : Mm), CS g M1 → MS g M2 → JV (j + 1) g → LG l b L xs 1224 (lvL i) [] M1 M2) : LG l b L xs 679 (lvL i) [] M1 M2 := by
  refine lg_aload1 680 rfl dL_law_679 ?_
  refine lg_aload0 681 rfl dL_law_680 ?_
  refine lg_iload3 682 rfl dL_law_681 ?_
  refine lg_iconst 683 rfl (v := 1) dL_law_682 (by decide) ?_
  refine lg_iadd 684 rfl dL_law_683 ?_
  refine lg_sld 685 rfl dL_law_684 (nI_add i 1) (by omega) hL ?_
  refine lg_aload0 686 rfl dL_law_685 ?_
  refine lg_iload3 687 rfl dL_law_686 ?_
  refine lg_iconst 688 rfl (v := 2) dL_law_687 (by decide) ?_
  refine lg_iadd 689 rfl dL_law_688 ?_
  refine lg_sld 690 rfl dL_law_689 (nI_add i 2) (by omega) hL ?_
  refine lg_aload0 691 rfl dL_law_690 ?_
  refine lg_iload3 692 rfl dL_law_691 ?_
  refine lg_iconst 693 rfl (v := 3) dL_law_692 (by decide) ?_
  refine lg_iadd 694 rfl dL_law_693 ?_
  refine lg_sld 695 rfl dL_law_694 (nI_add i 3) (by omega) hL ?_
  refine lg_callC (As := [.int (xs (i + 1)), .int (xs (i + 2)), .int (xs (i + 3))]) 698 3 rfl kL_89 dL_law_695 ⟨rfl, rfl⟩ (fun _ => rfl) (pub_borne h1) rfl rfl rfl (fun r N1 hq => ?_)
  obtain ⟨rfl, g1⟩ := hq
  try simp only [rV, Option.toList, List.cons_append, List.nil_append]
  refine lg_aload2 699 rfl dL_law_698 ?_
  refine lg_aload0 700 rfl dL_law_699 ?_
  refine lg_iload3 701 rfl dL_law_700 ?_
  refine lg_iconst 702 rfl (v := 1) dL_law_701 (by decide) ?_
  refine lg_iadd 703 rfl dL_law_702 ?_
  refine lg_sld 704 rfl dL_law_703 (nI_add i 1) (by omega) hL ?_
  refine lg_aload0 705 rfl dL_law_704 ?_
  refine lg_iload3 706 rfl dL_law_705 ?_
  refine lg_iconst 707 rfl (v := 2) dL_law_706 (by decide) ?_
  refine lg_iadd 708 rfl dL_law_707 ?_
  refine lg_sld 709 rfl dL_law_708 (nI_add i 2) (by omega) hL ?_
  refine lg_aload0 710 rfl dL_law_709 ?_
  refine lg_iload3 711 rfl dL_law_710 ?_
  refine lg_iconst 712 rfl (v := 3) dL_law_711 (by decide) ?_
  refine lg_iadd 713 rfl dL_law_712 ?_
  refine lg_sld 714 rfl dL_law_713 (nI_add i 3) (by omega) hL ?_
  refine lg_callM (As := [.int (xs (i + 1)), .int (xs (i + 2)), .int (xs (i + 3))]) 717 3 rfl kL_92 dL_law_714 ⟨rfl, rfl⟩ (fun _ => rfl) (mub_borne h2) rfl rfl rfl (fun r N2 hq => ?_)
  obtain ⟨rfl, g2⟩ := hq
  try simp only [rV, Option.toList, List.cons_append, List.nil_append]
  refine lg_cmpeq 1224 720 rfl dL_law_717 (by decide) (fun _ => ?_) (fun h => absurd rfl h)
  exact ih _ _ _ g1 g2 (hJ.keep)
theorem lc_18 {l : Launch} {b L i j : Nat} {xs : Nat → Int32} {g : Sg} {M1 M2 : Mm} (hL : L ≤ 2560) (hi : i + 5 ≤ L) (hj : j ≤ 511) (h1 : CS g M1) (h2 : MS g M2) (hJ : JV j g) (ih : ∀ (g : Sg) (M1 M2 : Mm), CS g M1 → MS g M2 → JV (j + 1) g → LG l b L xs 1224 (lvL i) [] M1 M2) : LG l b L xs 722 (lvL i) [] M1 M2 := by
  refine lg_aload1 723 rfl dL_law_722 ?_
  refine lg_aload0 724 rfl dL_law_723 ?_
  refine lg_iload3 725 rfl dL_law_724 ?_
  refine lg_iconst 726 rfl (v := 1) dL_law_725 (by decide) ?_
  refine lg_iadd 727 rfl dL_law_726 ?_
  refine lg_sld 728 rfl dL_law_727 (nI_add i 1) (by omega) hL ?_
  refine lg_aload0 729 rfl dL_law_728 ?_
  refine lg_iload3 730 rfl dL_law_729 ?_
  refine lg_iconst 731 rfl (v := 2) dL_law_730 (by decide) ?_
  refine lg_iadd 732 rfl dL_law_731 ?_
  refine lg_sld 733 rfl dL_law_732 (nI_add i 2) (by omega) hL ?_
  refine lg_callC (As := [.int (xs (i + 1)), .int (xs (i + 2))]) 736 2 rfl kL_93 dL_law_733 ⟨rfl, rfl⟩ (fun _ => rfl) (pub_bearer h1) rfl rfl rfl (fun r N1 hq => ?_)
  obtain ⟨rfl, g1⟩ := hq
  try simp only [rV, Option.toList, List.cons_append, List.nil_append]
  refine lg_aload2 737 rfl dL_law_736 ?_
  refine lg_aload0 738 rfl dL_law_737 ?_
  refine lg_iload3 739 rfl dL_law_738 ?_
  refine lg_iconst 740 rfl (v := 1) dL_law_739 (by decide) ?_
  refine lg_iadd 741 rfl dL_law_740 ?_
  refine lg_sld 742 rfl dL_law_741 (nI_add i 1) (by omega) hL ?_
  refine lg_aload0 743 rfl dL_law_742 ?_
  refine lg_iload3 744 rfl dL_law_743 ?_
  refine lg_iconst 745 rfl (v := 2) dL_law_744 (by decide) ?_
  refine lg_iadd 746 rfl dL_law_745 ?_
  refine lg_sld 747 rfl dL_law_746 (nI_add i 2) (by omega) hL ?_
  refine lg_callM (As := [.int (xs (i + 1)), .int (xs (i + 2))]) 750 2 rfl kL_96 dL_law_747 ⟨rfl, rfl⟩ (fun _ => rfl) (mub_bearer h2) rfl rfl rfl (fun r N2 hq => ?_)
  obtain ⟨rfl, g2⟩ := hq
  try simp only [rV, Option.toList, List.cons_append, List.nil_append]
  refine lg_cmpeq 1224 753 rfl dL_law_750 (by decide) (fun _ => ?_) (fun h => absurd rfl h)
  exact ih _ _ _ g1 g2 (hJ.keep)
theorem lc_19 {l : Launch} {b L i j : Nat} {xs : Nat → Int32} {g : Sg} {M1 M2 : Mm} (hL : L ≤ 2560) (hi : i + 5 ≤ L) (hj : j ≤ 511) (h1 : CS g M1) (h2 : MS g M2) (hJ : JV j g) (ih : ∀ (g : Sg) (M1 M2 : Mm), CS g M1 → MS g M2 → JV (j + 1) g → LG l b L xs 1224 (lvL i) [] M1 M2) : LG l b L xs 755 (lvL i) [] M1 M2 := by
  refine lg_aload1 756 rfl dL_law_755 ?_
  refine lg_aload0 757 rfl dL_law_756 ?_
  refine lg_iload3 758 rfl dL_law_757 ?_
  refine lg_iconst 759 rfl (v := 1) dL_law_758 (by decide) ?_
  refine lg_iadd 760 rfl dL_law_759 ?_
  refine lg_sld 761 rfl dL_law_760 (nI_add i 1) (by omega) hL ?_
  refine lg_callC (As := [.int (xs (i + 1))]) 764 1 rfl kL_97 dL_law_761 ⟨rfl, rfl⟩ (fun _ => rfl) (pub_water h1) rfl rfl rfl (fun r N1 hq => ?_)
  obtain ⟨rfl, g1⟩ := hq
  try simp only [rV, Option.toList, List.cons_append, List.nil_append]
  refine lg_aload2 765 rfl dL_law_764 ?_
  refine lg_aload0 766 rfl dL_law_765 ?_
  refine lg_iload3 767 rfl dL_law_766 ?_
  refine lg_iconst 768 rfl (v := 1) dL_law_767 (by decide) ?_
  refine lg_iadd 769 rfl dL_law_768 ?_
  refine lg_sld 770 rfl dL_law_769 (nI_add i 1) (by omega) hL ?_
  refine lg_callM (As := [.int (xs (i + 1))]) 773 1 rfl kL_100 dL_law_770 ⟨rfl, rfl⟩ (fun _ => rfl) (mub_water h2 hJ.1 (by omega)) rfl rfl rfl (fun r N2 hq => ?_)
  obtain ⟨rfl, g2⟩ := hq
  try simp only [rV, Option.toList, List.cons_append, List.nil_append]
  refine lg_cmpeq 1224 776 rfl dL_law_773 (by decide) (fun _ => ?_) (fun h => absurd rfl h)
  exact ih _ _ _ g1 g2 (hJ.keep)
theorem lc_20 {l : Launch} {b L i j : Nat} {xs : Nat → Int32} {g : Sg} {M1 M2 : Mm} (hL : L ≤ 2560) (hi : i + 5 ≤ L) (hj : j ≤ 511) (h1 : CS g M1) (h2 : MS g M2) (hJ : JV j g) (ih : ∀ (g : Sg) (M1 M2 : Mm), CS g M1 → MS g M2 → JV (j + 1) g → LG l b L xs 1224 (lvL i) [] M1 M2) : LG l b L xs 778 (lvL i) [] M1 M2 := by
  refine lg_aload1 779 rfl dL_law_778 ?_
  refine lg_aload0 780 rfl dL_law_779 ?_
  refine lg_iload3 781 rfl dL_law_780 ?_
  refine lg_iconst 782 rfl (v := 1) dL_law_781 (by decide) ?_
  refine lg_iadd 783 rfl dL_law_782 ?_
  refine lg_sld 784 rfl dL_law_783 (nI_add i 1) (by omega) hL ?_
  refine lg_callC (As := [.int (xs (i + 1))]) 787 1 rfl kL_101 dL_law_784 ⟨rfl, rfl⟩ (fun _ => rfl) (pub_seed h1) rfl rfl rfl (fun r N1 hq => ?_)
  obtain ⟨rfl, g1⟩ := hq
  try simp only [rV, Option.toList, List.cons_append, List.nil_append]
  refine lg_aload2 788 rfl dL_law_787 ?_
  refine lg_aload0 789 rfl dL_law_788 ?_
  refine lg_iload3 790 rfl dL_law_789 ?_
  refine lg_iconst 791 rfl (v := 1) dL_law_790 (by decide) ?_
  refine lg_iadd 792 rfl dL_law_791 ?_
  refine lg_sld 793 rfl dL_law_792 (nI_add i 1) (by omega) hL ?_
  refine lg_callM (As := [.int (xs (i + 1))]) 796 1 rfl kL_104 dL_law_793 ⟨rfl, rfl⟩ (fun _ => rfl) (mub_seed h2) rfl rfl rfl (fun r N2 hq => ?_)
  obtain ⟨rfl, g2⟩ := hq
  try simp only [rV, Option.toList, List.cons_append, List.nil_append]
  refine lg_cmpeq 1224 799 rfl dL_law_796 (by decide) (fun _ => ?_) (fun h => absurd rfl h)
  exact ih _ _ _ g1 g2 (jv_seed hJ)
theorem lc_21 {l : Launch} {b L i j : Nat} {xs : Nat → Int32} {g : Sg} {M1 M2 : Mm} (hL : L ≤ 2560) (hi : i + 5 ≤ L) (hj : j ≤ 511) (h1 : CS g M1) (h2 : MS g M2) (hJ : JV j g) (ih : ∀ (g : Sg) (M1 M2 : Mm), CS g M1 → MS g M2 → JV (j + 1) g → LG l b L xs 1224 (lvL i) [] M1 M2) : LG l b L xs 801 (lvL i) [] M1 M2 := by
  refine lg_aload1 802 rfl dL_law_801 ?_
  refine lg_aload0 803 rfl dL_law_802 ?_
  refine lg_iload3 804 rfl dL_law_803 ?_
  refine lg_iconst 805 rfl (v := 1) dL_law_804 (by decide) ?_
  refine lg_iadd 806 rfl dL_law_805 ?_
  refine lg_sld 807 rfl dL_law_806 (nI_add i 1) (by omega) hL ?_
  refine lg_aload0 808 rfl dL_law_807 ?_
  refine lg_iload3 809 rfl dL_law_808 ?_
  refine lg_iconst 810 rfl (v := 2) dL_law_809 (by decide) ?_
  refine lg_iadd 811 rfl dL_law_810 ?_
  refine lg_sld 812 rfl dL_law_811 (nI_add i 2) (by omega) hL ?_
  refine lg_callC (As := [.int (xs (i + 1)), .int (xs (i + 2))]) 815 2 rfl kL_105 dL_law_812 ⟨rfl, rfl⟩ (fun _ => rfl) (pub_years h1) rfl rfl rfl (fun r N1 hq => ?_)
  obtain ⟨rfl, g1⟩ := hq
  try simp only [rV, Option.toList, List.cons_append, List.nil_append]
  refine lg_aload2 816 rfl dL_law_815 ?_
  refine lg_aload0 817 rfl dL_law_816 ?_
  refine lg_iload3 818 rfl dL_law_817 ?_
  refine lg_iconst 819 rfl (v := 1) dL_law_818 (by decide) ?_
  refine lg_iadd 820 rfl dL_law_819 ?_
  refine lg_sld 821 rfl dL_law_820 (nI_add i 1) (by omega) hL ?_
  refine lg_aload0 822 rfl dL_law_821 ?_
  refine lg_iload3 823 rfl dL_law_822 ?_
  refine lg_iconst 824 rfl (v := 2) dL_law_823 (by decide) ?_
  refine lg_iadd 825 rfl dL_law_824 ?_
  refine lg_sld 826 rfl dL_law_825 (nI_add i 2) (by omega) hL ?_
  refine lg_callM (As := [.int (xs (i + 1)), .int (xs (i + 2))]) 829 2 rfl kL_108 dL_law_826 ⟨rfl, rfl⟩ (fun _ => rfl) (mub_years h2 hJ.1 (by omega)) rfl rfl rfl (fun r N2 hq => ?_)
  obtain ⟨rfl, g2⟩ := hq
  try simp only [rV, Option.toList, List.cons_append, List.nil_append]
  refine lg_cmpeq 1224 832 rfl dL_law_829 (by decide) (fun _ => ?_) (fun h => absurd rfl h)
  exact ih _ _ _ g1 g2 (jv_years (by omega) hJ)
theorem lc_22 {l : Launch} {b L i j : Nat} {xs : Nat → Int32} {g : Sg} {M1 M2 : Mm} (hL : L ≤ 2560) (hi : i + 5 ≤ L) (hj : j ≤ 511) (h1 : CS g M1) (h2 : MS g M2) (hJ : JV j g) (ih : ∀ (g : Sg) (M1 M2 : Mm), CS g M1 → MS g M2 → JV (j + 1) g → LG l b L xs 1224 (lvL i) [] M1 M2) : LG l b L xs 834 (lvL i) [] M1 M2 := by
  refine lg_aload1 835 rfl dL_law_834 ?_
  refine lg_aload0 836 rfl dL_law_835 ?_
  refine lg_iload3 837 rfl dL_law_836 ?_
  refine lg_iconst 838 rfl (v := 1) dL_law_837 (by decide) ?_
  refine lg_iadd 839 rfl dL_law_838 ?_
  refine lg_sld 840 rfl dL_law_839 (nI_add i 1) (by omega) hL ?_
  refine lg_aload0 841 rfl dL_law_840 ?_
  refine lg_iload3 842 rfl dL_law_841 ?_
  refine lg_iconst 843 rfl (v := 2) dL_law_842 (by decide) ?_
  refine lg_iadd 844 rfl dL_law_843 ?_
  refine lg_sld 845 rfl dL_law_844 (nI_add i 2) (by omega) hL ?_
  refine lg_callC (As := [.int (xs (i + 1)), .int (xs (i + 2))]) 848 2 rfl kL_109 dL_law_845 ⟨rfl, rfl⟩ (fun _ => rfl) (pub_would h1) rfl rfl rfl (fun r N1 hq => ?_)
  obtain ⟨rfl, g1⟩ := hq
  try simp only [rV, Option.toList, List.cons_append, List.nil_append]
  refine lg_aload2 849 rfl dL_law_848 ?_
  refine lg_aload0 850 rfl dL_law_849 ?_
  refine lg_iload3 851 rfl dL_law_850 ?_
  refine lg_iconst 852 rfl (v := 1) dL_law_851 (by decide) ?_
  refine lg_iadd 853 rfl dL_law_852 ?_
  refine lg_sld 854 rfl dL_law_853 (nI_add i 1) (by omega) hL ?_
  refine lg_aload0 855 rfl dL_law_854 ?_
  refine lg_iload3 856 rfl dL_law_855 ?_
  refine lg_iconst 857 rfl (v := 2) dL_law_856 (by decide) ?_
  refine lg_iadd 858 rfl dL_law_857 ?_
  refine lg_sld 859 rfl dL_law_858 (nI_add i 2) (by omega) hL ?_
  refine lg_callM (As := [.int (xs (i + 1)), .int (xs (i + 2))]) 862 2 rfl kL_112 dL_law_859 ⟨rfl, rfl⟩ (fun _ => rfl) (mub_would h2 hJ.1 (by omega)) rfl rfl rfl (fun r N2 hq => ?_)
  obtain ⟨rfl, g2⟩ := hq
  try simp only [rV, Option.toList, List.cons_append, List.nil_append]
  refine lg_cmpeq 1224 865 rfl dL_law_862 (by decide) (fun _ => ?_) (fun h => absurd rfl h)
  exact ih _ _ _ g1 g2 (hJ.keep)
theorem lc_23 {l : Launch} {b L i j : Nat} {xs : Nat → Int32} {g : Sg} {M1 M2 : Mm} (hL : L ≤ 2560) (hi : i + 5 ≤ L) (hj : j ≤ 511) (h1 : CS g M1) (h2 : MS g M2) (hJ : JV j g) (ih : ∀ (g : Sg) (M1 M2 : Mm), CS g M1 → MS g M2 → JV (j + 1) g → LG l b L xs 1224 (lvL i) [] M1 M2) : LG l b L xs 867 (lvL i) [] M1 M2 := by
  refine lg_aload1 868 rfl dL_law_867 ?_
  refine lg_aload0 869 rfl dL_law_868 ?_
  refine lg_iload3 870 rfl dL_law_869 ?_
  refine lg_iconst 871 rfl (v := 1) dL_law_870 (by decide) ?_
  refine lg_iadd 872 rfl dL_law_871 ?_
  refine lg_sld 873 rfl dL_law_872 (nI_add i 1) (by omega) hL ?_
  refine lg_aload0 874 rfl dL_law_873 ?_
  refine lg_iload3 875 rfl dL_law_874 ?_
  refine lg_iconst 876 rfl (v := 2) dL_law_875 (by decide) ?_
  refine lg_iadd 877 rfl dL_law_876 ?_
  refine lg_sld 878 rfl dL_law_877 (nI_add i 2) (by omega) hL ?_
  refine lg_callC (As := [.int (xs (i + 1)), .int (xs (i + 2))]) 881 2 rfl kL_113 dL_law_878 ⟨rfl, rfl⟩ (fun _ => rfl) (pub_mend h1) rfl rfl rfl (fun r N1 hq => ?_)
  obtain ⟨rfl, g1⟩ := hq
  try simp only [rV, Option.toList, List.cons_append, List.nil_append]
  refine lg_aload2 882 rfl dL_law_881 ?_
  refine lg_aload0 883 rfl dL_law_882 ?_
  refine lg_iload3 884 rfl dL_law_883 ?_
  refine lg_iconst 885 rfl (v := 1) dL_law_884 (by decide) ?_
  refine lg_iadd 886 rfl dL_law_885 ?_
  refine lg_sld 887 rfl dL_law_886 (nI_add i 1) (by omega) hL ?_
  refine lg_aload0 888 rfl dL_law_887 ?_
  refine lg_iload3 889 rfl dL_law_888 ?_
  refine lg_iconst 890 rfl (v := 2) dL_law_889 (by decide) ?_
  refine lg_iadd 891 rfl dL_law_890 ?_
  refine lg_sld 892 rfl dL_law_891 (nI_add i 2) (by omega) hL ?_
  refine lg_callM (As := [.int (xs (i + 1)), .int (xs (i + 2))]) 895 2 rfl kL_116 dL_law_892 ⟨rfl, rfl⟩ (fun _ => rfl) (mub_mend h2) rfl rfl rfl (fun r N2 hq => ?_)
  obtain ⟨rfl, g2⟩ := hq
  try simp only [rV, Option.toList, List.cons_append, List.nil_append]
  refine lg_cmpeq 1224 898 rfl dL_law_895 (by decide) (fun _ => ?_) (fun h => absurd rfl h)
  exact ih _ _ _ g1 g2 (jv_mend hJ)
theorem lc_24 {l : Launch} {b L i j : Nat} {xs : Nat → Int32} {g : Sg} {M1 M2 : Mm} (hL : L ≤ 2560) (hi : i + 5 ≤ L) (hj : j ≤ 511) (h1 : CS g M1) (h2 : MS g M2) (hJ : JV j g) (ih : ∀ (g : Sg) (M1 M2 : Mm), CS g M1 → MS g M2 → JV (j + 1) g → LG l b L xs 1224 (lvL i) [] M1 M2) : LG l b L xs 900 (lvL i) [] M1 M2 := by
  refine lg_aload1 901 rfl dL_law_900 ?_
  refine lg_aload0 902 rfl dL_law_901 ?_
  refine lg_iload3 903 rfl dL_law_902 ?_
  refine lg_iconst 904 rfl (v := 1) dL_law_903 (by decide) ?_
  refine lg_iadd 905 rfl dL_law_904 ?_
  refine lg_sld 906 rfl dL_law_905 (nI_add i 1) (by omega) hL ?_
  refine lg_aload0 907 rfl dL_law_906 ?_
  refine lg_iload3 908 rfl dL_law_907 ?_
  refine lg_iconst 909 rfl (v := 2) dL_law_908 (by decide) ?_
  refine lg_iadd 910 rfl dL_law_909 ?_
  refine lg_sld 911 rfl dL_law_910 (nI_add i 2) (by omega) hL ?_
  refine lg_aload0 912 rfl dL_law_911 ?_
  refine lg_iload3 913 rfl dL_law_912 ?_
  refine lg_iconst 914 rfl (v := 3) dL_law_913 (by decide) ?_
  refine lg_iadd 915 rfl dL_law_914 ?_
  refine lg_sld 916 rfl dL_law_915 (nI_add i 3) (by omega) hL ?_
  refine lg_aload0 917 rfl dL_law_916 ?_
  refine lg_iload3 918 rfl dL_law_917 ?_
  refine lg_iconst 919 rfl (v := 4) dL_law_918 (by decide) ?_
  refine lg_iadd 920 rfl dL_law_919 ?_
  refine lg_sld 921 rfl dL_law_920 (nI_add i 4) (by omega) hL ?_
  refine lg_callC (As := [.int (xs (i + 1)), .int (xs (i + 2)), .int (xs (i + 3)), .int (xs (i + 4))]) 924 4 rfl kL_117 dL_law_921 ⟨rfl, rfl⟩ (fun _ => rfl) (pub_first h1) rfl rfl rfl (fun r N1 hq => ?_)
  obtain ⟨rfl, g1⟩ := hq
  try simp only [rV, Option.toList, List.cons_append, List.nil_append]
  refine lg_aload2 925 rfl dL_law_924 ?_
  refine lg_aload0 926 rfl dL_law_925 ?_
  refine lg_iload3 927 rfl dL_law_926 ?_
  refine lg_iconst 928 rfl (v := 1) dL_law_927 (by decide) ?_
  refine lg_iadd 929 rfl dL_law_928 ?_
  refine lg_sld 930 rfl dL_law_929 (nI_add i 1) (by omega) hL ?_
  refine lg_aload0 931 rfl dL_law_930 ?_
  refine lg_iload3 932 rfl dL_law_931 ?_
  refine lg_iconst 933 rfl (v := 2) dL_law_932 (by decide) ?_
  refine lg_iadd 934 rfl dL_law_933 ?_
  refine lg_sld 935 rfl dL_law_934 (nI_add i 2) (by omega) hL ?_
  refine lg_aload0 936 rfl dL_law_935 ?_
  refine lg_iload3 937 rfl dL_law_936 ?_
  refine lg_iconst 938 rfl (v := 3) dL_law_937 (by decide) ?_
  refine lg_iadd 939 rfl dL_law_938 ?_
  refine lg_sld 940 rfl dL_law_939 (nI_add i 3) (by omega) hL ?_
  refine lg_aload0 941 rfl dL_law_940 ?_
  refine lg_iload3 942 rfl dL_law_941 ?_
  refine lg_iconst 943 rfl (v := 4) dL_law_942 (by decide) ?_
  refine lg_iadd 944 rfl dL_law_943 ?_
  refine lg_sld 945 rfl dL_law_944 (nI_add i 4) (by omega) hL ?_
  refine lg_callM (As := [.int (xs (i + 1)), .int (xs (i + 2)), .int (xs (i + 3)), .int (xs (i + 4))]) 948 4 rfl kL_120 dL_law_945 ⟨rfl, rfl⟩ (fun _ => rfl) (mub_first h2 hJ.1 (by omega)) rfl rfl rfl (fun r N2 hq => ?_)
  obtain ⟨rfl, g2⟩ := hq
  try simp only [rV, Option.toList, List.cons_append, List.nil_append]
  refine lg_cmpeq 1224 951 rfl dL_law_948 (by decide) (fun _ => ?_) (fun h => absurd rfl h)
  exact ih _ _ _ g1 g2 (jv_first hJ)
theorem lc_25 {l : Launch} {b L i j : Nat} {xs : Nat → Int32} {g : Sg} {M1 M2 : Mm} (hL : L ≤ 2560) (hi : i + 5 ≤ L) (hj : j ≤ 511) (h1 : CS g M1) (h2 : MS g M2) (hJ : JV j g) (ih : ∀ (g : Sg) (M1 M2 : Mm), CS g M1 → MS g M2 → JV (j + 1) g → LG l b L xs 1224 (lvL i) [] M1 M2) : LG l b L xs 953 (lvL i) [] M1 M2 := by
  refine lg_aload1 954 rfl dL_law_953 ?_
  refine lg_aload0 955 rfl dL_law_954 ?_
  refine lg_iload3 956 rfl dL_law_955 ?_
  refine lg_iconst 957 rfl (v := 1) dL_law_956 (by decide) ?_
  refine lg_iadd 958 rfl dL_law_957 ?_
  refine lg_sld 959 rfl dL_law_958 (nI_add i 1) (by omega) hL ?_
  refine lg_aload0 960 rfl dL_law_959 ?_
  refine lg_iload3 961 rfl dL_law_960 ?_
  refine lg_iconst 962 rfl (v := 2) dL_law_961 (by decide) ?_
  refine lg_iadd 963 rfl dL_law_962 ?_
  refine lg_sld 964 rfl dL_law_963 (nI_add i 2) (by omega) hL ?_
  refine lg_aload0 965 rfl dL_law_964 ?_
  refine lg_iload3 966 rfl dL_law_965 ?_
  refine lg_iconst 967 rfl (v := 3) dL_law_966 (by decide) ?_
  refine lg_iadd 968 rfl dL_law_967 ?_
  refine lg_sld 969 rfl dL_law_968 (nI_add i 3) (by omega) hL ?_
  refine lg_callC (As := [.int (xs (i + 1)), .int (xs (i + 2)), .int (xs (i + 3))]) 972 3 rfl kL_121 dL_law_969 ⟨rfl, rfl⟩ (fun _ => rfl) (pub_trench h1) rfl rfl rfl (fun r N1 hq => ?_)
  obtain ⟨rfl, g1⟩ := hq
  try simp only [rV, Option.toList, List.cons_append, List.nil_append]
  refine lg_aload2 973 rfl dL_law_972 ?_
  refine lg_aload0 974 rfl dL_law_973 ?_
  refine lg_iload3 975 rfl dL_law_974 ?_
  refine lg_iconst 976 rfl (v := 1) dL_law_975 (by decide) ?_
  refine lg_iadd 977 rfl dL_law_976 ?_
  refine lg_sld 978 rfl dL_law_977 (nI_add i 1) (by omega) hL ?_
  refine lg_aload0 979 rfl dL_law_978 ?_
  refine lg_iload3 980 rfl dL_law_979 ?_
  refine lg_iconst 981 rfl (v := 2) dL_law_980 (by decide) ?_
  refine lg_iadd 982 rfl dL_law_981 ?_
  refine lg_sld 983 rfl dL_law_982 (nI_add i 2) (by omega) hL ?_
  refine lg_aload0 984 rfl dL_law_983 ?_
  refine lg_iload3 985 rfl dL_law_984 ?_
  refine lg_iconst 986 rfl (v := 3) dL_law_985 (by decide) ?_
  refine lg_iadd 987 rfl dL_law_986 ?_
  refine lg_sld 988 rfl dL_law_987 (nI_add i 3) (by omega) hL ?_
  refine lg_callM (As := [.int (xs (i + 1)), .int (xs (i + 2)), .int (xs (i + 3))]) 991 3 rfl kL_124 dL_law_988 ⟨rfl, rfl⟩ (fun _ => rfl) (mub_trench h2) rfl rfl rfl (fun r N2 hq => ?_)
  obtain ⟨rfl, g2⟩ := hq
  try simp only [rV, Option.toList, List.cons_append, List.nil_append]
  refine lg_cmpeq 1224 994 rfl dL_law_991 (by decide) (fun _ => ?_) (fun h => absurd rfl h)
  exact ih _ _ _ g1 g2 (hJ.keep)
theorem lc_26 {l : Launch} {b L i j : Nat} {xs : Nat → Int32} {g : Sg} {M1 M2 : Mm} (hL : L ≤ 2560) (hi : i + 5 ≤ L) (hj : j ≤ 511) (h1 : CS g M1) (h2 : MS g M2) (hJ : JV j g) (ih : ∀ (g : Sg) (M1 M2 : Mm), CS g M1 → MS g M2 → JV (j + 1) g → LG l b L xs 1224 (lvL i) [] M1 M2) : LG l b L xs 996 (lvL i) [] M1 M2 := by
  refine lg_aload1 997 rfl dL_law_996 ?_
  refine lg_aload0 998 rfl dL_law_997 ?_
  refine lg_iload3 999 rfl dL_law_998 ?_
  refine lg_iconst 1000 rfl (v := 1) dL_law_999 (by decide) ?_
  refine lg_iadd 1001 rfl dL_law_1000 ?_
  refine lg_sld 1002 rfl dL_law_1001 (nI_add i 1) (by omega) hL ?_
  refine lg_callC (As := [.int (xs (i + 1))]) 1005 1 rfl kL_125 dL_law_1002 ⟨rfl, rfl⟩ (fun _ => rfl) (pub_heap h1) rfl rfl rfl (fun r N1 hq => ?_)
  obtain ⟨rfl, g1⟩ := hq
  try simp only [rV, Option.toList, List.cons_append, List.nil_append]
  refine lg_aload2 1006 rfl dL_law_1005 ?_
  refine lg_aload0 1007 rfl dL_law_1006 ?_
  refine lg_iload3 1008 rfl dL_law_1007 ?_
  refine lg_iconst 1009 rfl (v := 1) dL_law_1008 (by decide) ?_
  refine lg_iadd 1010 rfl dL_law_1009 ?_
  refine lg_sld 1011 rfl dL_law_1010 (nI_add i 1) (by omega) hL ?_
  refine lg_callM (As := [.int (xs (i + 1))]) 1014 1 rfl kL_128 dL_law_1011 ⟨rfl, rfl⟩ (fun _ => rfl) (mub_heap h2) rfl rfl rfl (fun r N2 hq => ?_)
  obtain ⟨rfl, g2⟩ := hq
  try simp only [rV, Option.toList, List.cons_append, List.nil_append]
  refine lg_cmpeq 1224 1017 rfl dL_law_1014 (by decide) (fun _ => ?_) (fun h => absurd rfl h)
  exact ih _ _ _ g1 g2 (jv_heap hJ)
theorem lc_27 {l : Launch} {b L i j : Nat} {xs : Nat → Int32} {g : Sg} {M1 M2 : Mm} (hL : L ≤ 2560) (hi : i + 5 ≤ L) (hj : j ≤ 511) (h1 : CS g M1) (h2 : MS g M2) (hJ : JV j g) (ih : ∀ (g : Sg) (M1 M2 : Mm), CS g M1 → MS g M2 → JV (j + 1) g → LG l b L xs 1224 (lvL i) [] M1 M2) : LG l b L xs 1019 (lvL i) [] M1 M2 := by
  refine lg_aload1 1020 rfl dL_law_1019 ?_
  refine lg_aload0 1021 rfl dL_law_1020 ?_
  refine lg_iload3 1022 rfl dL_law_1021 ?_
  refine lg_iconst 1023 rfl (v := 1) dL_law_1022 (by decide) ?_
  refine lg_iadd 1024 rfl dL_law_1023 ?_
  refine lg_sld 1025 rfl dL_law_1024 (nI_add i 1) (by omega) hL ?_
  refine lg_aload0 1026 rfl dL_law_1025 ?_
  refine lg_iload3 1027 rfl dL_law_1026 ?_
  refine lg_iconst 1028 rfl (v := 2) dL_law_1027 (by decide) ?_
  refine lg_iadd 1029 rfl dL_law_1028 ?_
  refine lg_sld 1030 rfl dL_law_1029 (nI_add i 2) (by omega) hL ?_
  refine lg_callC (As := [.int (xs (i + 1)), .int (xs (i + 2))]) 1033 2 rfl kL_129 dL_law_1030 ⟨rfl, rfl⟩ (fun _ => rfl) (pub_fits h1) rfl rfl rfl (fun r N1 hq => ?_)
  obtain ⟨rfl, g1⟩ := hq
  try simp only [rV, Option.toList, List.cons_append, List.nil_append]
  refine lg_aload2 1034 rfl dL_law_1033 ?_
  refine lg_aload0 1035 rfl dL_law_1034 ?_
  refine lg_iload3 1036 rfl dL_law_1035 ?_
  refine lg_iconst 1037 rfl (v := 1) dL_law_1036 (by decide) ?_
  refine lg_iadd 1038 rfl dL_law_1037 ?_
  refine lg_sld 1039 rfl dL_law_1038 (nI_add i 1) (by omega) hL ?_
  refine lg_aload0 1040 rfl dL_law_1039 ?_
  refine lg_iload3 1041 rfl dL_law_1040 ?_
  refine lg_iconst 1042 rfl (v := 2) dL_law_1041 (by decide) ?_
  refine lg_iadd 1043 rfl dL_law_1042 ?_
  refine lg_sld 1044 rfl dL_law_1043 (nI_add i 2) (by omega) hL ?_
  refine lg_callM (As := [.int (xs (i + 1)), .int (xs (i + 2))]) 1047 2 rfl kL_132 dL_law_1044 ⟨rfl, rfl⟩ (fun _ => rfl) (mub_fits h2 hJ.1) rfl rfl rfl (fun r N2 hq => ?_)
  obtain ⟨rfl, g2⟩ := hq
  try simp only [rV, Option.toList, List.cons_append, List.nil_append]
  refine lg_cmpeq 1224 1050 rfl dL_law_1047 (by decide) (fun _ => ?_) (fun h => absurd rfl h)
  exact ih _ _ _ g1 g2 (hJ.keep)
theorem lc_28 {l : Launch} {b L i j : Nat} {xs : Nat → Int32} {g : Sg} {M1 M2 : Mm} (hL : L ≤ 2560) (hi : i + 5 ≤ L) (hj : j ≤ 511) (h1 : CS g M1) (h2 : MS g M2) (hJ : JV j g) (ih : ∀ (g : Sg) (M1 M2 : Mm), CS g M1 → MS g M2 → JV (j + 1) g → LG l b L xs 1224 (lvL i) [] M1 M2) : LG l b L xs 1052 (lvL i) [] M1 M2 := by
  refine lg_aload1 1053 rfl dL_law_1052 ?_
  refine lg_aload0 1054 rfl dL_law_1053 ?_
  refine lg_iload3 1055 rfl dL_law_1054 ?_
  refine lg_iconst 1056 rfl (v := 1) dL_law_1055 (by decide) ?_
  refine lg_iadd 1057 rfl dL_law_1056 ?_
  refine lg_sld 1058 rfl dL_law_1057 (nI_add i 1) (by omega) hL ?_
  refine lg_aload0 1059 rfl dL_law_1058 ?_
  refine lg_iload3 1060 rfl dL_law_1059 ?_
  refine lg_iconst 1061 rfl (v := 2) dL_law_1060 (by decide) ?_
  refine lg_iadd 1062 rfl dL_law_1061 ?_
  refine lg_sld 1063 rfl dL_law_1062 (nI_add i 2) (by omega) hL ?_
  refine lg_aload0 1064 rfl dL_law_1063 ?_
  refine lg_iload3 1065 rfl dL_law_1064 ?_
  refine lg_iconst 1066 rfl (v := 3) dL_law_1065 (by decide) ?_
  refine lg_iadd 1067 rfl dL_law_1066 ?_
  refine lg_sld 1068 rfl dL_law_1067 (nI_add i 3) (by omega) hL ?_
  refine lg_callC (As := [.int (xs (i + 1)), .int (xs (i + 2)), .int (xs (i + 3))]) 1071 3 rfl kL_133 dL_law_1068 ⟨rfl, rfl⟩ (fun _ => rfl) (pub_gaps h1) rfl rfl rfl (fun r N1 hq => ?_)
  obtain ⟨rfl, g1⟩ := hq
  try simp only [rV, Option.toList, List.cons_append, List.nil_append]
  refine lg_aload2 1072 rfl dL_law_1071 ?_
  refine lg_aload0 1073 rfl dL_law_1072 ?_
  refine lg_iload3 1074 rfl dL_law_1073 ?_
  refine lg_iconst 1075 rfl (v := 1) dL_law_1074 (by decide) ?_
  refine lg_iadd 1076 rfl dL_law_1075 ?_
  refine lg_sld 1077 rfl dL_law_1076 (nI_add i 1) (by omega) hL ?_
  refine lg_aload0 1078 rfl dL_law_1077 ?_
  refine lg_iload3 1079 rfl dL_law_1078 ?_
  refine lg_iconst 1080 rfl (v := 2) dL_law_1079 (by decide) ?_
  refine lg_iadd 1081 rfl dL_law_1080 ?_
  refine lg_sld 1082 rfl dL_law_1081 (nI_add i 2) (by omega) hL ?_
  refine lg_aload0 1083 rfl dL_law_1082 ?_
  refine lg_iload3 1084 rfl dL_law_1083 ?_
  refine lg_iconst 1085 rfl (v := 3) dL_law_1084 (by decide) ?_
  refine lg_iadd 1086 rfl dL_law_1085 ?_
  refine lg_sld 1087 rfl dL_law_1086 (nI_add i 3) (by omega) hL ?_
  refine lg_callM (As := [.int (xs (i + 1)), .int (xs (i + 2)), .int (xs (i + 3))]) 1090 3 rfl kL_136 dL_law_1087 ⟨rfl, rfl⟩ (fun _ => rfl) (mub_gaps h2) rfl rfl rfl (fun r N2 hq => ?_)
  obtain ⟨rfl, g2⟩ := hq
  try simp only [rV, Option.toList, List.cons_append, List.nil_append]
  refine lg_cmpeq 1224 1093 rfl dL_law_1090 (by decide) (fun _ => ?_) (fun h => absurd rfl h)
  exact ih _ _ _ g1 g2 (hJ.keep)
theorem lc_29 {l : Launch} {b L i j : Nat} {xs : Nat → Int32} {g : Sg} {M1 M2 : Mm} (hL : L ≤ 2560) (hi : i + 5 ≤ L) (hj : j ≤ 511) (h1 : CS g M1) (h2 : MS g M2) (hJ : JV j g) (ih : ∀ (g : Sg) (M1 M2 : Mm), CS g M1 → MS g M2 → JV (j + 1) g → LG l b L xs 1224 (lvL i) [] M1 M2) : LG l b L xs 1095 (lvL i) [] M1 M2 := by
  refine lg_aload1 1096 rfl dL_law_1095 ?_
  refine lg_aload0 1097 rfl dL_law_1096 ?_
  refine lg_iload3 1098 rfl dL_law_1097 ?_
  refine lg_iconst 1099 rfl (v := 1) dL_law_1098 (by decide) ?_
  refine lg_iadd 1100 rfl dL_law_1099 ?_
  refine lg_sld 1101 rfl dL_law_1100 (nI_add i 1) (by omega) hL ?_
  refine lg_aload0 1102 rfl dL_law_1101 ?_
  refine lg_iload3 1103 rfl dL_law_1102 ?_
  refine lg_iconst 1104 rfl (v := 2) dL_law_1103 (by decide) ?_
  refine lg_iadd 1105 rfl dL_law_1104 ?_
  refine lg_sld 1106 rfl dL_law_1105 (nI_add i 2) (by omega) hL ?_
  refine lg_aload0 1107 rfl dL_law_1106 ?_
  refine lg_iload3 1108 rfl dL_law_1107 ?_
  refine lg_iconst 1109 rfl (v := 3) dL_law_1108 (by decide) ?_
  refine lg_iadd 1110 rfl dL_law_1109 ?_
  refine lg_sld 1111 rfl dL_law_1110 (nI_add i 3) (by omega) hL ?_
  refine lg_callC (As := [.int (xs (i + 1)), .int (xs (i + 2)), .int (xs (i + 3))]) 1114 3 rfl kL_137 dL_law_1111 ⟨rfl, rfl⟩ (fun _ => rfl) (pub_shake h1) rfl rfl rfl (fun r N1 hq => ?_)
  obtain ⟨rfl, g1⟩ := hq
  try simp only [rV, Option.toList, List.cons_append, List.nil_append]
  refine lg_aload2 1115 rfl dL_law_1114 ?_
  refine lg_aload0 1116 rfl dL_law_1115 ?_
  refine lg_iload3 1117 rfl dL_law_1116 ?_
  refine lg_iconst 1118 rfl (v := 1) dL_law_1117 (by decide) ?_
  refine lg_iadd 1119 rfl dL_law_1118 ?_
  refine lg_sld 1120 rfl dL_law_1119 (nI_add i 1) (by omega) hL ?_
  refine lg_aload0 1121 rfl dL_law_1120 ?_
  refine lg_iload3 1122 rfl dL_law_1121 ?_
  refine lg_iconst 1123 rfl (v := 2) dL_law_1122 (by decide) ?_
  refine lg_iadd 1124 rfl dL_law_1123 ?_
  refine lg_sld 1125 rfl dL_law_1124 (nI_add i 2) (by omega) hL ?_
  refine lg_aload0 1126 rfl dL_law_1125 ?_
  refine lg_iload3 1127 rfl dL_law_1126 ?_
  refine lg_iconst 1128 rfl (v := 3) dL_law_1127 (by decide) ?_
  refine lg_iadd 1129 rfl dL_law_1128 ?_
  refine lg_sld 1130 rfl dL_law_1129 (nI_add i 3) (by omega) hL ?_
  refine lg_callM (As := [.int (xs (i + 1)), .int (xs (i + 2)), .int (xs (i + 3))]) 1133 3 rfl kL_140 dL_law_1130 ⟨rfl, rfl⟩ (fun _ => rfl) (mub_shake h2 hJ.1 (by omega)) rfl rfl rfl (fun r N2 hq => ?_)
  obtain ⟨rfl, g2⟩ := hq
  try simp only [rV, Option.toList, List.cons_append, List.nil_append]
  refine lg_cmpeq 1224 1136 rfl dL_law_1133 (by decide) (fun _ => ?_) (fun h => absurd rfl h)
  exact ih _ _ _ g1 g2 (hJ.keep)
theorem lc_30 {l : Launch} {b L i j : Nat} {xs : Nat → Int32} {g : Sg} {M1 M2 : Mm} (hL : L ≤ 2560) (hi : i + 5 ≤ L) (hj : j ≤ 511) (h1 : CS g M1) (h2 : MS g M2) (hJ : JV j g) (ih : ∀ (g : Sg) (M1 M2 : Mm), CS g M1 → MS g M2 → JV (j + 1) g → LG l b L xs 1224 (lvL i) [] M1 M2) : LG l b L xs 1138 (lvL i) [] M1 M2 := by
  refine lg_aload1 1139 rfl dL_law_1138 ?_
  refine lg_aload0 1140 rfl dL_law_1139 ?_
  refine lg_iload3 1141 rfl dL_law_1140 ?_
  refine lg_iconst 1142 rfl (v := 1) dL_law_1141 (by decide) ?_
  refine lg_iadd 1143 rfl dL_law_1142 ?_
  refine lg_sld 1144 rfl dL_law_1143 (nI_add i 1) (by omega) hL ?_
  refine lg_callC (As := [.int (xs (i + 1))]) 1147 1 rfl kL_141 dL_law_1144 ⟨rfl, rfl⟩ (fun _ => rfl) (pub_worst h1) rfl rfl rfl (fun r N1 hq => ?_)
  obtain ⟨rfl, g1⟩ := hq
  try simp only [rV, Option.toList, List.cons_append, List.nil_append]
  refine lg_aload2 1148 rfl dL_law_1147 ?_
  refine lg_aload0 1149 rfl dL_law_1148 ?_
  refine lg_iload3 1150 rfl dL_law_1149 ?_
  refine lg_iconst 1151 rfl (v := 1) dL_law_1150 (by decide) ?_
  refine lg_iadd 1152 rfl dL_law_1151 ?_
  refine lg_sld 1153 rfl dL_law_1152 (nI_add i 1) (by omega) hL ?_
  refine lg_callM (As := [.int (xs (i + 1))]) 1156 1 rfl kL_144 dL_law_1153 ⟨rfl, rfl⟩ (fun _ => rfl) (mub_worst h2 hJ.1 (by omega)) rfl rfl rfl (fun r N2 hq => ?_)
  obtain ⟨rfl, g2⟩ := hq
  try simp only [rV, Option.toList, List.cons_append, List.nil_append]
  refine lg_cmpeq 1224 1159 rfl dL_law_1156 (by decide) (fun _ => ?_) (fun h => absurd rfl h)
  exact ih _ _ _ g1 g2 (hJ.keep)
theorem lc_31 {l : Launch} {b L i j : Nat} {xs : Nat → Int32} {g : Sg} {M1 M2 : Mm} (hL : L ≤ 2560) (hi : i + 5 ≤ L) (hj : j ≤ 511) (h1 : CS g M1) (h2 : MS g M2) (hJ : JV j g) (ih : ∀ (g : Sg) (M1 M2 : Mm), CS g M1 → MS g M2 → JV (j + 1) g → LG l b L xs 1224 (lvL i) [] M1 M2) : LG l b L xs 1161 (lvL i) [] M1 M2 := by
  refine lg_aload1 1162 rfl dL_law_1161 ?_
  refine lg_callC (As := []) 1165 0 rfl kL_145 dL_law_1162 ⟨rfl, rfl⟩ (fun _ => rfl) (pub_image h1) rfl rfl rfl (fun r N1 hq => ?_)
  obtain ⟨rfl, g1⟩ := hq
  try simp only [rV, Option.toList, List.cons_append, List.nil_append]
  refine lg_aload2 1166 rfl dL_law_1165 ?_
  refine lg_callM (As := []) 1169 0 rfl kL_148 dL_law_1166 ⟨rfl, rfl⟩ (fun _ => rfl) (mub_image h2) rfl rfl rfl (fun r N2 hq => ?_)
  obtain ⟨rfl, g2⟩ := hq
  try simp only [rV, Option.toList, List.cons_append, List.nil_append]
  refine lg_cmpeq 1224 1172 rfl dL_law_1169 (by decide) (fun _ => ?_) (fun h => absurd rfl h)
  exact ih _ _ _ g1 g2 (jv_image hJ)
theorem lc_32 {l : Launch} {b L i j : Nat} {xs : Nat → Int32} {g : Sg} {M1 M2 : Mm} (hL : L ≤ 2560) (hi : i + 5 ≤ L) (hj : j ≤ 511) (h1 : CS g M1) (h2 : MS g M2) (hJ : JV j g) (ih : ∀ (g : Sg) (M1 M2 : Mm), CS g M1 → MS g M2 → JV (j + 1) g → LG l b L xs 1224 (lvL i) [] M1 M2) : LG l b L xs 1174 (lvL i) [] M1 M2 := by
  refine lg_aload1 1175 rfl dL_law_1174 ?_
  refine lg_callC (As := []) 1178 0 rfl kL_149 dL_law_1175 ⟨rfl, rfl⟩ (fun _ => rfl) (pub_restore h1) rfl rfl rfl (fun r N1 hq => ?_)
  obtain ⟨rfl, g1⟩ := hq
  try simp only [rV, Option.toList, List.cons_append, List.nil_append]
  refine lg_aload2 1179 rfl dL_law_1178 ?_
  refine lg_callM (As := []) 1182 0 rfl kL_152 dL_law_1179 ⟨rfl, rfl⟩ (fun _ => rfl) (mub_restore h2) rfl rfl rfl (fun r N2 hq => ?_)
  obtain ⟨rfl, g2⟩ := hq
  try simp only [rV, Option.toList, List.cons_append, List.nil_append]
  refine lg_cmpeq 1224 1185 rfl dL_law_1182 (by decide) (fun _ => ?_) (fun h => absurd rfl h)
  exact ih _ _ _ g1 g2 (jv_restore hJ)
theorem lc_33 {l : Launch} {b L i j : Nat} {xs : Nat → Int32} {g : Sg} {M1 M2 : Mm} (hL : L ≤ 2560) (hi : i + 5 ≤ L) (hj : j ≤ 511) (h1 : CS g M1) (h2 : MS g M2) (hJ : JV j g) (ih : ∀ (g : Sg) (M1 M2 : Mm), CS g M1 → MS g M2 → JV (j + 1) g → LG l b L xs 1224 (lvL i) [] M1 M2) : LG l b L xs 1187 (lvL i) [] M1 M2 := by
  refine lg_aload1 1188 rfl dL_law_1187 ?_
  refine lg_aload0 1189 rfl dL_law_1188 ?_
  refine lg_iload3 1190 rfl dL_law_1189 ?_
  refine lg_iconst 1191 rfl (v := 1) dL_law_1190 (by decide) ?_
  refine lg_iadd 1192 rfl dL_law_1191 ?_
  refine lg_sld 1193 rfl dL_law_1192 (nI_add i 1) (by omega) hL ?_
  refine lg_callC (As := [.int (xs (i + 1))]) 1196 1 rfl kL_153 dL_law_1193 ⟨rfl, rfl⟩ (fun _ => rfl) (pub_count h1) rfl rfl rfl (fun r N1 hq => ?_)
  obtain ⟨rfl, g1⟩ := hq
  try simp only [rV, Option.toList, List.cons_append, List.nil_append]
  refine lg_aload2 1197 rfl dL_law_1196 ?_
  refine lg_aload0 1198 rfl dL_law_1197 ?_
  refine lg_iload3 1199 rfl dL_law_1198 ?_
  refine lg_iconst 1200 rfl (v := 1) dL_law_1199 (by decide) ?_
  refine lg_iadd 1201 rfl dL_law_1200 ?_
  refine lg_sld 1202 rfl dL_law_1201 (nI_add i 1) (by omega) hL ?_
  refine lg_callM (As := [.int (xs (i + 1))]) 1205 1 rfl kL_156 dL_law_1202 ⟨rfl, rfl⟩ (fun _ => rfl) (mub_count h2) rfl rfl rfl (fun r N2 hq => ?_)
  obtain ⟨rfl, g2⟩ := hq
  try simp only [rV, Option.toList, List.cons_append, List.nil_append]
  refine lg_cmpeq 1224 1208 rfl dL_law_1205 (by decide) (fun _ => ?_) (fun h => absurd rfl h)
  exact ih _ _ _ g1 g2 (hJ.keep)
theorem lc_same (x : Int64) : lg_cmp x x = 0 := by unfold lg_cmp; simp
theorem lc_34 {l : Launch} {b L i j : Nat} {xs : Nat → Int32} {g : Sg} {M1 M2 : Mm} (hL : L ≤ 2560) (hi : i + 5 ≤ L) (hj : j ≤ 511) (h1 : CS g M1) (h2 : MS g M2) (hJ : JV j g) (ih : ∀ (g : Sg) (M1 M2 : Mm), CS g M1 → MS g M2 → JV (j + 1) g → LG l b L xs 1224 (lvL i) [] M1 M2) : LG l b L xs 1210 (lvL i) [] M1 M2 := by
  refine lg_aload1 1211 rfl dL_law_1210 ?_
  refine lg_callC (As := []) 1214 0 rfl kL_157 dL_law_1211 ⟨rfl, rfl⟩ (fun _ => rfl) (pub_digest h1) rfl rfl rfl (fun r N1 hq => ?_)
  obtain ⟨rfl, g1⟩ := hq
  try simp only [rV, Option.toList, List.cons_append, List.nil_append]
  refine lg_aload2 1215 rfl dL_law_1214 ?_
  refine lg_callM (As := []) 1218 0 rfl kL_161 dL_law_1215 ⟨rfl, rfl⟩ (fun _ => rfl) (mub_digest h2 hJ.1 (by omega)) rfl rfl rfl (fun r N2 hq => ?_)
  obtain ⟨rfl, g2⟩ := hq
  try simp only [rV, Option.toList, List.cons_append, List.nil_append]
  refine lg_lcmp 1219 rfl dL_law_1218 ?_
  refine lg_ifeq 1224 1222 rfl dL_law_1219 (by decide) (fun _ => ?_) (fun h => absurd (lc_same _) h)
  exact ih _ _ _ g1 g2 (hJ.keep)
