/-! THE LAW: its cases -/
set_option maxHeartbeats 400000 in
theorem lw_c0 (n : Nat) (xs : Nat → Int32) {i : Int32} {I : pI} {L : pL} (hn1 : mm_in (i + 1) n = true) (hn2 : mm_in (i + 2) n = true) (hn3 : mm_in (i + 3) n = true) (hn4 : mm_in (i + 4) n = true) (hn5 : mm_in (i + 5) n = true) (hR : RR I L) {Q : Option Value → mm_M → Prop} (hk : ∀ J K, RR J K → gP (lw_cs n xs) 40 10 false (some .boolean) code 1455 [some (.ref 1004), some (.ref 0), some (.ref 108), some (.int i)] [] (mm_sh, mm_R, J, K) Q) : gP (lw_cs n xs) 40 10 false (some .boolean) code 208 [some (.ref 1004), some (.ref 0), some (.ref 108), some (.int i)] [] (mm_sh, mm_R, I, L) Q := by
  obtain ⟨zv, J, L1, J2, L2, zqc, zqm, zqR⟩ := eq_row (xs (i + 1).toNatClampNeg) (xs (i + 2).toNatClampNeg) (xs (i + 3).toNatClampNeg) I L hR
  obtain ⟨zx, rfl⟩ := call_int me_60 rfl zqc
  refine gp_aload_n dL_208 rfl ?_
  refine gp_aload_n dL_209 rfl ?_
  refine gp_iload_n dL_210 rfl ?_
  refine gp_pu (st' := .int (1) :: _) dL_211 rfl ?_
  refine gp_pu (st' := .int _ :: _) dL_212 rfl ?_
  refine gp_iac dL_213 rfl hn1 ?_
  refine gp_aload_n dL_214 rfl ?_
  refine gp_iload_n dL_215 rfl ?_
  refine gp_pu (st' := .int (2) :: _) dL_216 rfl ?_
  refine gp_pu (st' := .int _ :: _) dL_217 rfl ?_
  refine gp_iac dL_218 rfl hn2 ?_
  refine gp_aload_n dL_219 rfl ?_
  refine gp_iload_n dL_220 rfl ?_
  refine gp_pu (st' := .int (3) :: _) dL_221 rfl ?_
  refine gp_pu (st' := .int _ :: _) dL_222 rfl ?_
  refine gp_iac dL_223 rfl hn3 ?_
  refine gp_call (kind := 1) (args := [.ref _, .int _, .int _, .int _]) (rest := _) dL_224 (Or.inr (Or.inl ⟨rfl, rfl⟩)) mk_10_13 (by decide) me_60 rfl rfl rfl rfl rfl (mm_rc_of (by first | rfl | assumption | (simp only [*]; done))) zqc rfl ?_
  refine gp_aload_n dL_227 rfl ?_
  refine gp_aload_n dL_228 rfl ?_
  refine gp_iload_n dL_229 rfl ?_
  refine gp_pu (st' := .int (1) :: _) dL_230 rfl ?_
  refine gp_pu (st' := .int _ :: _) dL_231 rfl ?_
  refine gp_iac dL_232 rfl hn1 ?_
  refine gp_aload_n dL_233 rfl ?_
  refine gp_iload_n dL_234 rfl ?_
  refine gp_pu (st' := .int (2) :: _) dL_235 rfl ?_
  refine gp_pu (st' := .int _ :: _) dL_236 rfl ?_
  refine gp_iac dL_237 rfl hn2 ?_
  refine gp_aload_n dL_238 rfl ?_
  refine gp_iload_n dL_239 rfl ?_
  refine gp_pu (st' := .int (3) :: _) dL_240 rfl ?_
  refine gp_pu (st' := .int _ :: _) dL_241 rfl ?_
  refine gp_iac dL_242 rfl hn3 ?_
  refine gp_call (kind := 1) (args := [.ref _, .int _, .int _, .int _]) (rest := _) dL_243 (Or.inr (Or.inl ⟨rfl, rfl⟩)) mk_10_17 (by decide) me_133 rfl rfl rfl rfl rfl (mm_rc_of (by first | rfl | assumption | (simp only [*]; done))) zqm rfl ?_
  refine gp_icc (t := 1455) dL_246 (by decide) c2_eq (fun h1 => ?_) (fun h1 => ?_)
  · exact hk _ _ zqR
  · exact absurd rfl h1

set_option maxHeartbeats 400000 in
theorem lw_c1 (n : Nat) (xs : Nat → Int32) {i : Int32} {I : pI} {L : pL} (hn1 : mm_in (i + 1) n = true) (hn2 : mm_in (i + 2) n = true) (hn3 : mm_in (i + 3) n = true) (hn4 : mm_in (i + 4) n = true) (hn5 : mm_in (i + 5) n = true) (hR : RR I L) {Q : Option Value → mm_M → Prop} (hk : ∀ J K, RR J K → gP (lw_cs n xs) 40 10 false (some .boolean) code 1455 [some (.ref 1004), some (.ref 0), some (.ref 108), some (.int i)] [] (mm_sh, mm_R, J, K) Q) : gP (lw_cs n xs) 40 10 false (some .boolean) code 251 [some (.ref 1004), some (.ref 0), some (.ref 108), some (.int i)] [] (mm_sh, mm_R, I, L) Q := by
  obtain ⟨zv, J, L1, J2, L2, zqc, zqm, zqR⟩ := eq_set (xs (i + 1).toNatClampNeg) (xs (i + 2).toNatClampNeg) (((xs (i + 3).toNatClampNeg).toInt64 <<< ((32 : Int32).toInt64 &&& 63)) ||| ((xs (i + 4).toNatClampNeg).toInt64 &&& 4294967295)) I L hR
  obtain ⟨zx, rfl⟩ := call_int me_61 rfl zqc
  refine gp_aload_n dL_251 rfl ?_
  refine gp_aload_n dL_252 rfl ?_
  refine gp_iload_n dL_253 rfl ?_
  refine gp_pu (st' := .int (1) :: _) dL_254 rfl ?_
  refine gp_pu (st' := .int _ :: _) dL_255 rfl ?_
  refine gp_iac dL_256 rfl hn1 ?_
  refine gp_aload_n dL_257 rfl ?_
  refine gp_iload_n dL_258 rfl ?_
  refine gp_pu (st' := .int (2) :: _) dL_259 rfl ?_
  refine gp_pu (st' := .int _ :: _) dL_260 rfl ?_
  refine gp_iac dL_261 rfl hn2 ?_
  refine gp_aload_n dL_262 rfl ?_
  refine gp_iload_n dL_263 rfl ?_
  refine gp_pu (st' := .int (3) :: _) dL_264 rfl ?_
  refine gp_pu (st' := .int _ :: _) dL_265 rfl ?_
  refine gp_iac dL_266 rfl hn3 ?_
  refine gp_pu (st' := .long _ :: _) dL_267 rfl ?_
  refine gp_pu (st' := .int (32) :: _) dL_268 rfl ?_
  refine gp_pu dL_270 rfl ?_
  refine gp_aload_n dL_271 rfl ?_
  refine gp_iload_n dL_272 rfl ?_
  refine gp_pu (st' := .int (4) :: _) dL_273 rfl ?_
  refine gp_pu (st' := .int _ :: _) dL_274 rfl ?_
  refine gp_iac dL_275 rfl hn4 ?_
  refine gp_pu (st' := .long _ :: _) dL_276 rfl ?_
  refine gp_ldc2 dL_277 ?_
  refine gp_pu dL_280 rfl ?_
  refine gp_pu dL_281 rfl ?_
  refine gp_call (kind := 1) (args := [.ref _, .int _, .int _, .long _]) (rest := _) dL_282 (Or.inr (Or.inl ⟨rfl, rfl⟩)) mk_10_20 (by decide) me_61 rfl rfl rfl rfl rfl (mm_rc_of (by first | rfl | assumption | (simp only [*]; done))) zqc rfl ?_
  refine gp_aload_n dL_285 rfl ?_
  refine gp_aload_n dL_286 rfl ?_
  refine gp_iload_n dL_287 rfl ?_
  refine gp_pu (st' := .int (1) :: _) dL_288 rfl ?_
  refine gp_pu (st' := .int _ :: _) dL_289 rfl ?_
  refine gp_iac dL_290 rfl hn1 ?_
  refine gp_aload_n dL_291 rfl ?_
  refine gp_iload_n dL_292 rfl ?_
  refine gp_pu (st' := .int (2) :: _) dL_293 rfl ?_
  refine gp_pu (st' := .int _ :: _) dL_294 rfl ?_
  refine gp_iac dL_295 rfl hn2 ?_
  refine gp_aload_n dL_296 rfl ?_
  refine gp_iload_n dL_297 rfl ?_
  refine gp_pu (st' := .int (3) :: _) dL_298 rfl ?_
  refine gp_pu (st' := .int _ :: _) dL_299 rfl ?_
  refine gp_iac dL_300 rfl hn3 ?_
  refine gp_pu (st' := .long _ :: _) dL_301 rfl ?_
  refine gp_pu (st' := .int (32) :: _) dL_302 rfl ?_
  refine gp_pu dL_304 rfl ?_
  refine gp_aload_n dL_305 rfl ?_
  refine gp_iload_n dL_306 rfl ?_
  refine gp_pu (st' := .int (4) :: _) dL_307 rfl ?_
  refine gp_pu (st' := .int _ :: _) dL_308 rfl ?_
  refine gp_iac dL_309 rfl hn4 ?_
  refine gp_pu (st' := .long _ :: _) dL_310 rfl ?_
  refine gp_ldc2 dL_311 ?_
  refine gp_pu dL_314 rfl ?_
  refine gp_pu dL_315 rfl ?_
  refine gp_call (kind := 1) (args := [.ref _, .int _, .int _, .long _]) (rest := _) dL_316 (Or.inr (Or.inl ⟨rfl, rfl⟩)) mk_10_24 (by decide) me_134 rfl rfl rfl rfl rfl (mm_rc_of (by first | rfl | assumption | (simp only [*]; done))) zqm rfl ?_
  refine gp_icc (t := 1455) dL_319 (by decide) c2_eq (fun h1 => ?_) (fun h1 => ?_)
  · exact hk _ _ zqR
  · exact absurd rfl h1

set_option maxHeartbeats 400000 in
theorem lw_c2 (n : Nat) (xs : Nat → Int32) {i : Int32} {I : pI} {L : pL} (hn1 : mm_in (i + 1) n = true) (hn2 : mm_in (i + 2) n = true) (hn3 : mm_in (i + 3) n = true) (hn4 : mm_in (i + 4) n = true) (hn5 : mm_in (i + 5) n = true) (hR : RR I L) {Q : Option Value → mm_M → Prop} (hk : ∀ J K, RR J K → gP (lw_cs n xs) 40 10 false (some .boolean) code 1455 [some (.ref 1004), some (.ref 0), some (.ref 108), some (.int i)] [] (mm_sh, mm_R, J, K) Q) : gP (lw_cs n xs) 40 10 false (some .boolean) code 324 [some (.ref 1004), some (.ref 0), some (.ref 108), some (.int i)] [] (mm_sh, mm_R, I, L) Q := by
  obtain ⟨zv, J, L1, J2, L2, zqc, zqm, zqR⟩ := eq_copy (xs (i + 1).toNatClampNeg) (xs (i + 2).toNatClampNeg) (xs (i + 3).toNatClampNeg) (xs (i + 4).toNatClampNeg) (xs (i + 5).toNatClampNeg) I L hR
  obtain ⟨zx, rfl⟩ := call_int me_62 rfl zqc
  refine gp_aload_n dL_324 rfl ?_
  refine gp_aload_n dL_325 rfl ?_
  refine gp_iload_n dL_326 rfl ?_
  refine gp_pu (st' := .int (1) :: _) dL_327 rfl ?_
  refine gp_pu (st' := .int _ :: _) dL_328 rfl ?_
  refine gp_iac dL_329 rfl hn1 ?_
  refine gp_aload_n dL_330 rfl ?_
  refine gp_iload_n dL_331 rfl ?_
  refine gp_pu (st' := .int (2) :: _) dL_332 rfl ?_
  refine gp_pu (st' := .int _ :: _) dL_333 rfl ?_
  refine gp_iac dL_334 rfl hn2 ?_
  refine gp_aload_n dL_335 rfl ?_
  refine gp_iload_n dL_336 rfl ?_
  refine gp_pu (st' := .int (3) :: _) dL_337 rfl ?_
  refine gp_pu (st' := .int _ :: _) dL_338 rfl ?_
  refine gp_iac dL_339 rfl hn3 ?_
  refine gp_aload_n dL_340 rfl ?_
  refine gp_iload_n dL_341 rfl ?_
  refine gp_pu (st' := .int (4) :: _) dL_342 rfl ?_
  refine gp_pu (st' := .int _ :: _) dL_343 rfl ?_
  refine gp_iac dL_344 rfl hn4 ?_
  refine gp_aload_n dL_345 rfl ?_
  refine gp_iload_n dL_346 rfl ?_
  refine gp_pu (st' := .int (5) :: _) dL_347 rfl ?_
  refine gp_pu (st' := .int _ :: _) dL_348 rfl ?_
  refine gp_iac dL_349 rfl hn5 ?_
  refine gp_call (kind := 1) (args := [.ref _, .int _, .int _, .int _, .int _, .int _]) (rest := _) dL_350 (Or.inr (Or.inl ⟨rfl, rfl⟩)) mk_10_25 (by decide) me_62 rfl rfl rfl rfl rfl (mm_rc_of (by first | rfl | assumption | (simp only [*]; done))) zqc rfl ?_
  refine gp_aload_n dL_353 rfl ?_
  refine gp_aload_n dL_354 rfl ?_
  refine gp_iload_n dL_355 rfl ?_
  refine gp_pu (st' := .int (1) :: _) dL_356 rfl ?_
  refine gp_pu (st' := .int _ :: _) dL_357 rfl ?_
  refine gp_iac dL_358 rfl hn1 ?_
  refine gp_aload_n dL_359 rfl ?_
  refine gp_iload_n dL_360 rfl ?_
  refine gp_pu (st' := .int (2) :: _) dL_361 rfl ?_
  refine gp_pu (st' := .int _ :: _) dL_362 rfl ?_
  refine gp_iac dL_363 rfl hn2 ?_
  refine gp_aload_n dL_364 rfl ?_
  refine gp_iload_n dL_365 rfl ?_
  refine gp_pu (st' := .int (3) :: _) dL_366 rfl ?_
  refine gp_pu (st' := .int _ :: _) dL_367 rfl ?_
  refine gp_iac dL_368 rfl hn3 ?_
  refine gp_aload_n dL_369 rfl ?_
  refine gp_iload_n dL_370 rfl ?_
  refine gp_pu (st' := .int (4) :: _) dL_371 rfl ?_
  refine gp_pu (st' := .int _ :: _) dL_372 rfl ?_
  refine gp_iac dL_373 rfl hn4 ?_
  refine gp_aload_n dL_374 rfl ?_
  refine gp_iload_n dL_375 rfl ?_
  refine gp_pu (st' := .int (5) :: _) dL_376 rfl ?_
  refine gp_pu (st' := .int _ :: _) dL_377 rfl ?_
  refine gp_iac dL_378 rfl hn5 ?_
  refine gp_call (kind := 1) (args := [.ref _, .int _, .int _, .int _, .int _, .int _]) (rest := _) dL_379 (Or.inr (Or.inl ⟨rfl, rfl⟩)) mk_10_29 (by decide) me_135 rfl rfl rfl rfl rfl (mm_rc_of (by first | rfl | assumption | (simp only [*]; done))) zqm rfl ?_
  refine gp_icc (t := 1455) dL_382 (by decide) c2_eq (fun h1 => ?_) (fun h1 => ?_)
  · exact hk _ _ zqR
  · exact absurd rfl h1

set_option maxHeartbeats 400000 in
theorem lw_c3 (n : Nat) (xs : Nat → Int32) {i : Int32} {I : pI} {L : pL} (hn1 : mm_in (i + 1) n = true) (hn2 : mm_in (i + 2) n = true) (hn3 : mm_in (i + 3) n = true) (hn4 : mm_in (i + 4) n = true) (hn5 : mm_in (i + 5) n = true) (hR : RR I L) {Q : Option Value → mm_M → Prop} (hk : ∀ J K, RR J K → gP (lw_cs n xs) 40 10 false (some .boolean) code 1455 [some (.ref 1004), some (.ref 0), some (.ref 108), some (.int i)] [] (mm_sh, mm_R, J, K) Q) : gP (lw_cs n xs) 40 10 false (some .boolean) code 387 [some (.ref 1004), some (.ref 0), some (.ref 108), some (.int i)] [] (mm_sh, mm_R, I, L) Q := by
  obtain ⟨zv, J, L1, J2, L2, zqc, zqm, zqR⟩ := eq_element (xs (i + 1).toNatClampNeg) (xs (i + 2).toNatClampNeg) I L hR
  obtain ⟨zx, rfl⟩ := call_long me_63 rfl zqc
  refine gp_aload_n dL_387 rfl ?_
  refine gp_aload_n dL_388 rfl ?_
  refine gp_iload_n dL_389 rfl ?_
  refine gp_pu (st' := .int (1) :: _) dL_390 rfl ?_
  refine gp_pu (st' := .int _ :: _) dL_391 rfl ?_
  refine gp_iac dL_392 rfl hn1 ?_
  refine gp_aload_n dL_393 rfl ?_
  refine gp_iload_n dL_394 rfl ?_
  refine gp_pu (st' := .int (2) :: _) dL_395 rfl ?_
  refine gp_pu (st' := .int _ :: _) dL_396 rfl ?_
  refine gp_iac dL_397 rfl hn2 ?_
  refine gp_call (kind := 1) (args := [.ref _, .int _, .int _]) (rest := _) dL_398 (Or.inr (Or.inl ⟨rfl, rfl⟩)) mk_10_30 (by decide) me_63 rfl rfl rfl rfl rfl (mm_rc_of (by first | rfl | assumption | (simp only [*]; done))) zqc rfl ?_
  refine gp_aload_n dL_401 rfl ?_
  refine gp_aload_n dL_402 rfl ?_
  refine gp_iload_n dL_403 rfl ?_
  refine gp_pu (st' := .int (1) :: _) dL_404 rfl ?_
  refine gp_pu (st' := .int _ :: _) dL_405 rfl ?_
  refine gp_iac dL_406 rfl hn1 ?_
  refine gp_aload_n dL_407 rfl ?_
  refine gp_iload_n dL_408 rfl ?_
  refine gp_pu (st' := .int (2) :: _) dL_409 rfl ?_
  refine gp_pu (st' := .int _ :: _) dL_410 rfl ?_
  refine gp_iac dL_411 rfl hn2 ?_
  refine gp_call (kind := 1) (args := [.ref _, .int _, .int _]) (rest := _) dL_412 (Or.inr (Or.inl ⟨rfl, rfl⟩)) mk_10_34 (by decide) me_136 rfl rfl rfl rfl rfl (mm_rc_of (by first | rfl | assumption | (simp only [*]; done))) zqm rfl ?_
  refine gp_pu (st' := .int _ :: _) dL_415 rfl ?_
  refine gp_ifc (t := 1455) dL_416 (by decide) c1_eq (fun h1 => ?_) (fun h1 => ?_)
  · exact hk _ _ zqR
  · exact absurd (lg_cmp_s _) h1

set_option maxHeartbeats 400000 in
theorem lw_c4 (n : Nat) (xs : Nat → Int32) {i : Int32} {I : pI} {L : pL} (hn1 : mm_in (i + 1) n = true) (hn2 : mm_in (i + 2) n = true) (hn3 : mm_in (i + 3) n = true) (hn4 : mm_in (i + 4) n = true) (hn5 : mm_in (i + 5) n = true) (hR : RR I L) {Q : Option Value → mm_M → Prop} (hk : ∀ J K, RR J K → gP (lw_cs n xs) 40 10 false (some .boolean) code 1455 [some (.ref 1004), some (.ref 0), some (.ref 108), some (.int i)] [] (mm_sh, mm_R, J, K) Q) : gP (lw_cs n xs) 40 10 false (some .boolean) code 421 [some (.ref 1004), some (.ref 0), some (.ref 108), some (.int i)] [] (mm_sh, mm_R, I, L) Q := by
  obtain ⟨zv, J, L1, J2, L2, zqc, zqm, zqR⟩ := eq_show (xs (i + 1).toNatClampNeg) (xs (i + 2).toNatClampNeg) I L hR
  obtain ⟨zx, rfl⟩ := call_int me_64 rfl zqc
  refine gp_aload_n dL_421 rfl ?_
  refine gp_aload_n dL_422 rfl ?_
  refine gp_iload_n dL_423 rfl ?_
  refine gp_pu (st' := .int (1) :: _) dL_424 rfl ?_
  refine gp_pu (st' := .int _ :: _) dL_425 rfl ?_
  refine gp_iac dL_426 rfl hn1 ?_
  refine gp_aload_n dL_427 rfl ?_
  refine gp_iload_n dL_428 rfl ?_
  refine gp_pu (st' := .int (2) :: _) dL_429 rfl ?_
  refine gp_pu (st' := .int _ :: _) dL_430 rfl ?_
  refine gp_iac dL_431 rfl hn2 ?_
  refine gp_call (kind := 1) (args := [.ref _, .int _, .int _]) (rest := _) dL_432 (Or.inr (Or.inl ⟨rfl, rfl⟩)) mk_10_35 (by decide) me_64 rfl rfl rfl rfl rfl (mm_rc_of (by first | rfl | assumption | (simp only [*]; done))) zqc rfl ?_
  refine gp_aload_n dL_435 rfl ?_
  refine gp_aload_n dL_436 rfl ?_
  refine gp_iload_n dL_437 rfl ?_
  refine gp_pu (st' := .int (1) :: _) dL_438 rfl ?_
  refine gp_pu (st' := .int _ :: _) dL_439 rfl ?_
  refine gp_iac dL_440 rfl hn1 ?_
  refine gp_aload_n dL_441 rfl ?_
  refine gp_iload_n dL_442 rfl ?_
  refine gp_pu (st' := .int (2) :: _) dL_443 rfl ?_
  refine gp_pu (st' := .int _ :: _) dL_444 rfl ?_
  refine gp_iac dL_445 rfl hn2 ?_
  refine gp_call (kind := 1) (args := [.ref _, .int _, .int _]) (rest := _) dL_446 (Or.inr (Or.inl ⟨rfl, rfl⟩)) mk_10_39 (by decide) me_137 rfl rfl rfl rfl rfl (mm_rc_of (by first | rfl | assumption | (simp only [*]; done))) zqm rfl ?_
  refine gp_icc (t := 1455) dL_449 (by decide) c2_eq (fun h1 => ?_) (fun h1 => ?_)
  · exact hk _ _ zqR
  · exact absurd rfl h1

set_option maxHeartbeats 400000 in
theorem lw_c5 (n : Nat) (xs : Nat → Int32) {i : Int32} {I : pI} {L : pL} (hn1 : mm_in (i + 1) n = true) (hn2 : mm_in (i + 2) n = true) (hn3 : mm_in (i + 3) n = true) (hn4 : mm_in (i + 4) n = true) (hn5 : mm_in (i + 5) n = true) (hR : RR I L) {Q : Option Value → mm_M → Prop} (hk : ∀ J K, RR J K → gP (lw_cs n xs) 40 10 false (some .boolean) code 1455 [some (.ref 1004), some (.ref 0), some (.ref 108), some (.int i)] [] (mm_sh, mm_R, J, K) Q) : gP (lw_cs n xs) 40 10 false (some .boolean) code 454 [some (.ref 1004), some (.ref 0), some (.ref 108), some (.int i)] [] (mm_sh, mm_R, I, L) Q := by
  obtain ⟨zv, J, L1, J2, L2, zqc, zqm, zqR⟩ := eq_holds (xs (i + 1).toNatClampNeg) I L hR
  obtain ⟨zx, rfl⟩ := call_int me_65 rfl zqc
  refine gp_aload_n dL_454 rfl ?_
  refine gp_aload_n dL_455 rfl ?_
  refine gp_iload_n dL_456 rfl ?_
  refine gp_pu (st' := .int (1) :: _) dL_457 rfl ?_
  refine gp_pu (st' := .int _ :: _) dL_458 rfl ?_
  refine gp_iac dL_459 rfl hn1 ?_
  refine gp_call (kind := 1) (args := [.ref _, .int _]) (rest := _) dL_460 (Or.inr (Or.inl ⟨rfl, rfl⟩)) mk_10_40 (by decide) me_65 rfl rfl rfl rfl rfl (mm_rc_of (by first | rfl | assumption | (simp only [*]; done))) zqc rfl ?_
  refine gp_aload_n dL_463 rfl ?_
  refine gp_aload_n dL_464 rfl ?_
  refine gp_iload_n dL_465 rfl ?_
  refine gp_pu (st' := .int (1) :: _) dL_466 rfl ?_
  refine gp_pu (st' := .int _ :: _) dL_467 rfl ?_
  refine gp_iac dL_468 rfl hn1 ?_
  refine gp_call (kind := 1) (args := [.ref _, .int _]) (rest := _) dL_469 (Or.inr (Or.inl ⟨rfl, rfl⟩)) mk_10_44 (by decide) me_138 rfl rfl rfl rfl rfl (mm_rc_of (by first | rfl | assumption | (simp only [*]; done))) zqm rfl ?_
  refine gp_icc (t := 1455) dL_472 (by decide) c2_eq (fun h1 => ?_) (fun h1 => ?_)
  · exact hk _ _ zqR
  · exact absurd rfl h1

set_option maxHeartbeats 400000 in
theorem lw_c6 (n : Nat) (xs : Nat → Int32) {i : Int32} {I : pI} {L : pL} (hn1 : mm_in (i + 1) n = true) (hn2 : mm_in (i + 2) n = true) (hn3 : mm_in (i + 3) n = true) (hn4 : mm_in (i + 4) n = true) (hn5 : mm_in (i + 5) n = true) (hR : RR I L) {Q : Option Value → mm_M → Prop} (hk : ∀ J K, RR J K → gP (lw_cs n xs) 40 10 false (some .boolean) code 1455 [some (.ref 1004), some (.ref 0), some (.ref 108), some (.int i)] [] (mm_sh, mm_R, J, K) Q) : gP (lw_cs n xs) 40 10 false (some .boolean) code 477 [some (.ref 1004), some (.ref 0), some (.ref 108), some (.int i)] [] (mm_sh, mm_R, I, L) Q := by
  obtain ⟨zv, J, L1, J2, L2, zqc, zqm, zqR⟩ := eq_says (xs (i + 1).toNatClampNeg) (xs (i + 2).toNatClampNeg) I L hR
  obtain ⟨zx, rfl⟩ := call_int me_66 rfl zqc
  refine gp_aload_n dL_477 rfl ?_
  refine gp_aload_n dL_478 rfl ?_
  refine gp_iload_n dL_479 rfl ?_
  refine gp_pu (st' := .int (1) :: _) dL_480 rfl ?_
  refine gp_pu (st' := .int _ :: _) dL_481 rfl ?_
  refine gp_iac dL_482 rfl hn1 ?_
  refine gp_aload_n dL_483 rfl ?_
  refine gp_iload_n dL_484 rfl ?_
  refine gp_pu (st' := .int (2) :: _) dL_485 rfl ?_
  refine gp_pu (st' := .int _ :: _) dL_486 rfl ?_
  refine gp_iac dL_487 rfl hn2 ?_
  refine gp_call (kind := 1) (args := [.ref _, .int _, .int _]) (rest := _) dL_488 (Or.inr (Or.inl ⟨rfl, rfl⟩)) mk_10_45 (by decide) me_66 rfl rfl rfl rfl rfl (mm_rc_of (by first | rfl | assumption | (simp only [*]; done))) zqc rfl ?_
  refine gp_aload_n dL_491 rfl ?_
  refine gp_aload_n dL_492 rfl ?_
  refine gp_iload_n dL_493 rfl ?_
  refine gp_pu (st' := .int (1) :: _) dL_494 rfl ?_
  refine gp_pu (st' := .int _ :: _) dL_495 rfl ?_
  refine gp_iac dL_496 rfl hn1 ?_
  refine gp_aload_n dL_497 rfl ?_
  refine gp_iload_n dL_498 rfl ?_
  refine gp_pu (st' := .int (2) :: _) dL_499 rfl ?_
  refine gp_pu (st' := .int _ :: _) dL_500 rfl ?_
  refine gp_iac dL_501 rfl hn2 ?_
  refine gp_call (kind := 1) (args := [.ref _, .int _, .int _]) (rest := _) dL_502 (Or.inr (Or.inl ⟨rfl, rfl⟩)) mk_10_48 (by decide) me_139 rfl rfl rfl rfl rfl (mm_rc_of (by first | rfl | assumption | (simp only [*]; done))) zqm rfl ?_
  refine gp_icc (t := 1455) dL_505 (by decide) c2_eq (fun h1 => ?_) (fun h1 => ?_)
  · exact hk _ _ zqR
  · exact absurd rfl h1

set_option maxHeartbeats 400000 in
theorem lw_c7 (n : Nat) (xs : Nat → Int32) {i : Int32} {I : pI} {L : pL} (hn1 : mm_in (i + 1) n = true) (hn2 : mm_in (i + 2) n = true) (hn3 : mm_in (i + 3) n = true) (hn4 : mm_in (i + 4) n = true) (hn5 : mm_in (i + 5) n = true) (hR : RR I L) {Q : Option Value → mm_M → Prop} (hk : ∀ J K, RR J K → gP (lw_cs n xs) 40 10 false (some .boolean) code 1455 [some (.ref 1004), some (.ref 0), some (.ref 108), some (.int i)] [] (mm_sh, mm_R, J, K) Q) : gP (lw_cs n xs) 40 10 false (some .boolean) code 510 [some (.ref 1004), some (.ref 0), some (.ref 108), some (.int i)] [] (mm_sh, mm_R, I, L) Q := by
  obtain ⟨zv, J, L1, J2, L2, zqc, zqm, zqR⟩ := eq_child (xs (i + 1).toNatClampNeg) (xs (i + 2).toNatClampNeg) (xs (i + 3).toNatClampNeg) I L hR
  obtain ⟨zx, rfl⟩ := call_int me_67 rfl zqc
  refine gp_aload_n dL_510 rfl ?_
  refine gp_aload_n dL_511 rfl ?_
  refine gp_iload_n dL_512 rfl ?_
  refine gp_pu (st' := .int (1) :: _) dL_513 rfl ?_
  refine gp_pu (st' := .int _ :: _) dL_514 rfl ?_
  refine gp_iac dL_515 rfl hn1 ?_
  refine gp_aload_n dL_516 rfl ?_
  refine gp_iload_n dL_517 rfl ?_
  refine gp_pu (st' := .int (2) :: _) dL_518 rfl ?_
  refine gp_pu (st' := .int _ :: _) dL_519 rfl ?_
  refine gp_iac dL_520 rfl hn2 ?_
  refine gp_aload_n dL_521 rfl ?_
  refine gp_iload_n dL_522 rfl ?_
  refine gp_pu (st' := .int (3) :: _) dL_523 rfl ?_
  refine gp_pu (st' := .int _ :: _) dL_524 rfl ?_
  refine gp_iac dL_525 rfl hn3 ?_
  refine gp_call (kind := 1) (args := [.ref _, .int _, .int _, .int _]) (rest := _) dL_526 (Or.inr (Or.inl ⟨rfl, rfl⟩)) mk_10_49 (by decide) me_67 rfl rfl rfl rfl rfl (mm_rc_of (by first | rfl | assumption | (simp only [*]; done))) zqc rfl ?_
  refine gp_aload_n dL_529 rfl ?_
  refine gp_aload_n dL_530 rfl ?_
  refine gp_iload_n dL_531 rfl ?_
  refine gp_pu (st' := .int (1) :: _) dL_532 rfl ?_
  refine gp_pu (st' := .int _ :: _) dL_533 rfl ?_
  refine gp_iac dL_534 rfl hn1 ?_
  refine gp_aload_n dL_535 rfl ?_
  refine gp_iload_n dL_536 rfl ?_
  refine gp_pu (st' := .int (2) :: _) dL_537 rfl ?_
  refine gp_pu (st' := .int _ :: _) dL_538 rfl ?_
  refine gp_iac dL_539 rfl hn2 ?_
  refine gp_aload_n dL_540 rfl ?_
  refine gp_iload_n dL_541 rfl ?_
  refine gp_pu (st' := .int (3) :: _) dL_542 rfl ?_
  refine gp_pu (st' := .int _ :: _) dL_543 rfl ?_
  refine gp_iac dL_544 rfl hn3 ?_
  refine gp_call (kind := 1) (args := [.ref _, .int _, .int _, .int _]) (rest := _) dL_545 (Or.inr (Or.inl ⟨rfl, rfl⟩)) mk_10_52 (by decide) me_144 rfl rfl rfl rfl rfl (mm_rc_of (by first | rfl | assumption | (simp only [*]; done))) zqm rfl ?_
  refine gp_icc (t := 1455) dL_548 (by decide) c2_eq (fun h1 => ?_) (fun h1 => ?_)
  · exact hk _ _ zqR
  · exact absurd rfl h1

set_option maxHeartbeats 400000 in
theorem lw_c8 (n : Nat) (xs : Nat → Int32) {i : Int32} {I : pI} {L : pL} (hn1 : mm_in (i + 1) n = true) (hn2 : mm_in (i + 2) n = true) (hn3 : mm_in (i + 3) n = true) (hn4 : mm_in (i + 4) n = true) (hn5 : mm_in (i + 5) n = true) (hR : RR I L) {Q : Option Value → mm_M → Prop} (hk : ∀ J K, RR J K → gP (lw_cs n xs) 40 10 false (some .boolean) code 1455 [some (.ref 1004), some (.ref 0), some (.ref 108), some (.int i)] [] (mm_sh, mm_R, J, K) Q) : gP (lw_cs n xs) 40 10 false (some .boolean) code 553 [some (.ref 1004), some (.ref 0), some (.ref 108), some (.int i)] [] (mm_sh, mm_R, I, L) Q := by
  obtain ⟨zv, J, L1, J2, L2, zqc, zqm, zqR⟩ := eq_sack (xs (i + 1).toNatClampNeg) (xs (i + 2).toNatClampNeg) I L hR
  obtain ⟨zx, rfl⟩ := call_int me_68 rfl zqc
  refine gp_aload_n dL_553 rfl ?_
  refine gp_aload_n dL_554 rfl ?_
  refine gp_iload_n dL_555 rfl ?_
  refine gp_pu (st' := .int (1) :: _) dL_556 rfl ?_
  refine gp_pu (st' := .int _ :: _) dL_557 rfl ?_
  refine gp_iac dL_558 rfl hn1 ?_
  refine gp_aload_n dL_559 rfl ?_
  refine gp_iload_n dL_560 rfl ?_
  refine gp_pu (st' := .int (2) :: _) dL_561 rfl ?_
  refine gp_pu (st' := .int _ :: _) dL_562 rfl ?_
  refine gp_iac dL_563 rfl hn2 ?_
  refine gp_call (kind := 1) (args := [.ref _, .int _, .int _]) (rest := _) dL_564 (Or.inr (Or.inl ⟨rfl, rfl⟩)) mk_10_53 (by decide) me_68 rfl rfl rfl rfl rfl (mm_rc_of (by first | rfl | assumption | (simp only [*]; done))) zqc rfl ?_
  refine gp_aload_n dL_567 rfl ?_
  refine gp_aload_n dL_568 rfl ?_
  refine gp_iload_n dL_569 rfl ?_
  refine gp_pu (st' := .int (1) :: _) dL_570 rfl ?_
  refine gp_pu (st' := .int _ :: _) dL_571 rfl ?_
  refine gp_iac dL_572 rfl hn1 ?_
  refine gp_aload_n dL_573 rfl ?_
  refine gp_iload_n dL_574 rfl ?_
  refine gp_pu (st' := .int (2) :: _) dL_575 rfl ?_
  refine gp_pu (st' := .int _ :: _) dL_576 rfl ?_
  refine gp_iac dL_577 rfl hn2 ?_
  refine gp_call (kind := 1) (args := [.ref _, .int _, .int _]) (rest := _) dL_578 (Or.inr (Or.inl ⟨rfl, rfl⟩)) mk_10_56 (by decide) me_145 rfl rfl rfl rfl rfl (mm_rc_of (by first | rfl | assumption | (simp only [*]; done))) zqm rfl ?_
  refine gp_icc (t := 1455) dL_581 (by decide) c2_eq (fun h1 => ?_) (fun h1 => ?_)
  · exact hk _ _ zqR
  · exact absurd rfl h1

set_option maxHeartbeats 400000 in
theorem lw_c9 (n : Nat) (xs : Nat → Int32) {i : Int32} {I : pI} {L : pL} (hn1 : mm_in (i + 1) n = true) (hn2 : mm_in (i + 2) n = true) (hn3 : mm_in (i + 3) n = true) (hn4 : mm_in (i + 4) n = true) (hn5 : mm_in (i + 5) n = true) (hR : RR I L) {Q : Option Value → mm_M → Prop} (hk : ∀ J K, RR J K → gP (lw_cs n xs) 40 10 false (some .boolean) code 1455 [some (.ref 1004), some (.ref 0), some (.ref 108), some (.int i)] [] (mm_sh, mm_R, J, K) Q) : gP (lw_cs n xs) 40 10 false (some .boolean) code 586 [some (.ref 1004), some (.ref 0), some (.ref 108), some (.int i)] [] (mm_sh, mm_R, I, L) Q := by
  obtain ⟨zv, J, L1, J2, L2, zqc, zqm, zqR⟩ := eq_childOf (xs (i + 1).toNatClampNeg) (xs (i + 2).toNatClampNeg) I L hR
  obtain ⟨zx, rfl⟩ := call_int me_69 rfl zqc
  refine gp_aload_n dL_586 rfl ?_
  refine gp_aload_n dL_587 rfl ?_
  refine gp_iload_n dL_588 rfl ?_
  refine gp_pu (st' := .int (1) :: _) dL_589 rfl ?_
  refine gp_pu (st' := .int _ :: _) dL_590 rfl ?_
  refine gp_iac dL_591 rfl hn1 ?_
  refine gp_aload_n dL_592 rfl ?_
  refine gp_iload_n dL_593 rfl ?_
  refine gp_pu (st' := .int (2) :: _) dL_594 rfl ?_
  refine gp_pu (st' := .int _ :: _) dL_595 rfl ?_
  refine gp_iac dL_596 rfl hn2 ?_
  refine gp_call (kind := 1) (args := [.ref _, .int _, .int _]) (rest := _) dL_597 (Or.inr (Or.inl ⟨rfl, rfl⟩)) mk_10_57 (by decide) me_69 rfl rfl rfl rfl rfl (mm_rc_of (by first | rfl | assumption | (simp only [*]; done))) zqc rfl ?_
  refine gp_aload_n dL_600 rfl ?_
  refine gp_aload_n dL_601 rfl ?_
  refine gp_iload_n dL_602 rfl ?_
  refine gp_pu (st' := .int (1) :: _) dL_603 rfl ?_
  refine gp_pu (st' := .int _ :: _) dL_604 rfl ?_
  refine gp_iac dL_605 rfl hn1 ?_
  refine gp_aload_n dL_606 rfl ?_
  refine gp_iload_n dL_607 rfl ?_
  refine gp_pu (st' := .int (2) :: _) dL_608 rfl ?_
  refine gp_pu (st' := .int _ :: _) dL_609 rfl ?_
  refine gp_iac dL_610 rfl hn2 ?_
  refine gp_call (kind := 1) (args := [.ref _, .int _, .int _]) (rest := _) dL_611 (Or.inr (Or.inl ⟨rfl, rfl⟩)) mk_10_60 (by decide) me_146 rfl rfl rfl rfl rfl (mm_rc_of (by first | rfl | assumption | (simp only [*]; done))) zqm rfl ?_
  refine gp_icc (t := 1455) dL_614 (by decide) c2_eq (fun h1 => ?_) (fun h1 => ?_)
  · exact hk _ _ zqR
  · exact absurd rfl h1

set_option maxHeartbeats 400000 in
theorem lw_c10 (n : Nat) (xs : Nat → Int32) {i : Int32} {I : pI} {L : pL} (hn1 : mm_in (i + 1) n = true) (hn2 : mm_in (i + 2) n = true) (hn3 : mm_in (i + 3) n = true) (hn4 : mm_in (i + 4) n = true) (hn5 : mm_in (i + 5) n = true) (hR : RR I L) {Q : Option Value → mm_M → Prop} (hk : ∀ J K, RR J K → gP (lw_cs n xs) 40 10 false (some .boolean) code 1455 [some (.ref 1004), some (.ref 0), some (.ref 108), some (.int i)] [] (mm_sh, mm_R, J, K) Q) : gP (lw_cs n xs) 40 10 false (some .boolean) code 619 [some (.ref 1004), some (.ref 0), some (.ref 108), some (.int i)] [] (mm_sh, mm_R, I, L) Q := by
  obtain ⟨zv, J, L1, J2, L2, zqc, zqm, zqR⟩ := eq_sackOf (xs (i + 1).toNatClampNeg) (xs (i + 2).toNatClampNeg) I L hR
  obtain ⟨zx, rfl⟩ := call_int me_70 rfl zqc
  refine gp_aload_n dL_619 rfl ?_
  refine gp_aload_n dL_620 rfl ?_
  refine gp_iload_n dL_621 rfl ?_
  refine gp_pu (st' := .int (1) :: _) dL_622 rfl ?_
  refine gp_pu (st' := .int _ :: _) dL_623 rfl ?_
  refine gp_iac dL_624 rfl hn1 ?_
  refine gp_aload_n dL_625 rfl ?_
  refine gp_iload_n dL_626 rfl ?_
  refine gp_pu (st' := .int (2) :: _) dL_627 rfl ?_
  refine gp_pu (st' := .int _ :: _) dL_628 rfl ?_
  refine gp_iac dL_629 rfl hn2 ?_
  refine gp_call (kind := 1) (args := [.ref _, .int _, .int _]) (rest := _) dL_630 (Or.inr (Or.inl ⟨rfl, rfl⟩)) mk_10_61 (by decide) me_70 rfl rfl rfl rfl rfl (mm_rc_of (by first | rfl | assumption | (simp only [*]; done))) zqc rfl ?_
  refine gp_aload_n dL_633 rfl ?_
  refine gp_aload_n dL_634 rfl ?_
  refine gp_iload_n dL_635 rfl ?_
  refine gp_pu (st' := .int (1) :: _) dL_636 rfl ?_
  refine gp_pu (st' := .int _ :: _) dL_637 rfl ?_
  refine gp_iac dL_638 rfl hn1 ?_
  refine gp_aload_n dL_639 rfl ?_
  refine gp_iload_n dL_640 rfl ?_
  refine gp_pu (st' := .int (2) :: _) dL_641 rfl ?_
  refine gp_pu (st' := .int _ :: _) dL_642 rfl ?_
  refine gp_iac dL_643 rfl hn2 ?_
  refine gp_call (kind := 1) (args := [.ref _, .int _, .int _]) (rest := _) dL_644 (Or.inr (Or.inl ⟨rfl, rfl⟩)) mk_10_64 (by decide) me_147 rfl rfl rfl rfl rfl (mm_rc_of (by first | rfl | assumption | (simp only [*]; done))) zqm rfl ?_
  refine gp_icc (t := 1455) dL_647 (by decide) c2_eq (fun h1 => ?_) (fun h1 => ?_)
  · exact hk _ _ zqR
  · exact absurd rfl h1

set_option maxHeartbeats 400000 in
theorem lw_c11 (n : Nat) (xs : Nat → Int32) {i : Int32} {I : pI} {L : pL} (hn1 : mm_in (i + 1) n = true) (hn2 : mm_in (i + 2) n = true) (hn3 : mm_in (i + 3) n = true) (hn4 : mm_in (i + 4) n = true) (hn5 : mm_in (i + 5) n = true) (hR : RR I L) {Q : Option Value → mm_M → Prop} (hk : ∀ J K, RR J K → gP (lw_cs n xs) 40 10 false (some .boolean) code 1455 [some (.ref 1004), some (.ref 0), some (.ref 108), some (.int i)] [] (mm_sh, mm_R, J, K) Q) : gP (lw_cs n xs) 40 10 false (some .boolean) code 652 [some (.ref 1004), some (.ref 0), some (.ref 108), some (.int i)] [] (mm_sh, mm_R, I, L) Q := by
  obtain ⟨zv, J, L1, J2, L2, zqc, zqm, zqR⟩ := eq_wears (xs (i + 1).toNatClampNeg) (xs (i + 2).toNatClampNeg) I L hR
  obtain ⟨zx, rfl⟩ := call_int me_71 rfl zqc
  refine gp_aload_n dL_652 rfl ?_
  refine gp_aload_n dL_653 rfl ?_
  refine gp_iload_n dL_654 rfl ?_
  refine gp_pu (st' := .int (1) :: _) dL_655 rfl ?_
  refine gp_pu (st' := .int _ :: _) dL_656 rfl ?_
  refine gp_iac dL_657 rfl hn1 ?_
  refine gp_aload_n dL_658 rfl ?_
  refine gp_iload_n dL_659 rfl ?_
  refine gp_pu (st' := .int (2) :: _) dL_660 rfl ?_
  refine gp_pu (st' := .int _ :: _) dL_661 rfl ?_
  refine gp_iac dL_662 rfl hn2 ?_
  refine gp_call (kind := 1) (args := [.ref _, .int _, .int _]) (rest := _) dL_663 (Or.inr (Or.inl ⟨rfl, rfl⟩)) mk_10_65 (by decide) me_71 rfl rfl rfl rfl rfl (mm_rc_of (by first | rfl | assumption | (simp only [*]; done))) zqc rfl ?_
  refine gp_aload_n dL_666 rfl ?_
  refine gp_aload_n dL_667 rfl ?_
  refine gp_iload_n dL_668 rfl ?_
  refine gp_pu (st' := .int (1) :: _) dL_669 rfl ?_
  refine gp_pu (st' := .int _ :: _) dL_670 rfl ?_
  refine gp_iac dL_671 rfl hn1 ?_
  refine gp_aload_n dL_672 rfl ?_
  refine gp_iload_n dL_673 rfl ?_
  refine gp_pu (st' := .int (2) :: _) dL_674 rfl ?_
  refine gp_pu (st' := .int _ :: _) dL_675 rfl ?_
  refine gp_iac dL_676 rfl hn2 ?_
  refine gp_call (kind := 1) (args := [.ref _, .int _, .int _]) (rest := _) dL_677 (Or.inr (Or.inl ⟨rfl, rfl⟩)) mk_10_68 (by decide) me_148 rfl rfl rfl rfl rfl (mm_rc_of (by first | rfl | assumption | (simp only [*]; done))) zqm rfl ?_
  refine gp_icc (t := 1455) dL_680 (by decide) c2_eq (fun h1 => ?_) (fun h1 => ?_)
  · exact hk _ _ zqR
  · exact absurd rfl h1

set_option maxHeartbeats 400000 in
theorem lw_c12 (n : Nat) (xs : Nat → Int32) {i : Int32} {I : pI} {L : pL} (hn1 : mm_in (i + 1) n = true) (hn2 : mm_in (i + 2) n = true) (hn3 : mm_in (i + 3) n = true) (hn4 : mm_in (i + 4) n = true) (hn5 : mm_in (i + 5) n = true) (hR : RR I L) {Q : Option Value → mm_M → Prop} (hk : ∀ J K, RR J K → gP (lw_cs n xs) 40 10 false (some .boolean) code 1455 [some (.ref 1004), some (.ref 0), some (.ref 108), some (.int i)] [] (mm_sh, mm_R, J, K) Q) : gP (lw_cs n xs) 40 10 false (some .boolean) code 685 [some (.ref 1004), some (.ref 0), some (.ref 108), some (.int i)] [] (mm_sh, mm_R, I, L) Q := by
  obtain ⟨zv, J, L1, J2, L2, zqc, zqm, zqR⟩ := eq_ahead (xs (i + 1).toNatClampNeg) (xs (i + 2).toNatClampNeg) I L hR
  obtain ⟨zx, rfl⟩ := call_int me_72 rfl zqc
  refine gp_aload_n dL_685 rfl ?_
  refine gp_aload_n dL_686 rfl ?_
  refine gp_iload_n dL_687 rfl ?_
  refine gp_pu (st' := .int (1) :: _) dL_688 rfl ?_
  refine gp_pu (st' := .int _ :: _) dL_689 rfl ?_
  refine gp_iac dL_690 rfl hn1 ?_
  refine gp_aload_n dL_691 rfl ?_
  refine gp_iload_n dL_692 rfl ?_
  refine gp_pu (st' := .int (2) :: _) dL_693 rfl ?_
  refine gp_pu (st' := .int _ :: _) dL_694 rfl ?_
  refine gp_iac dL_695 rfl hn2 ?_
  refine gp_call (kind := 1) (args := [.ref _, .int _, .int _]) (rest := _) dL_696 (Or.inr (Or.inl ⟨rfl, rfl⟩)) mk_10_69 (by decide) me_72 rfl rfl rfl rfl rfl (mm_rc_of (by first | rfl | assumption | (simp only [*]; done))) zqc rfl ?_
  refine gp_aload_n dL_699 rfl ?_
  refine gp_aload_n dL_700 rfl ?_
  refine gp_iload_n dL_701 rfl ?_
  refine gp_pu (st' := .int (1) :: _) dL_702 rfl ?_
  refine gp_pu (st' := .int _ :: _) dL_703 rfl ?_
  refine gp_iac dL_704 rfl hn1 ?_
  refine gp_aload_n dL_705 rfl ?_
  refine gp_iload_n dL_706 rfl ?_
  refine gp_pu (st' := .int (2) :: _) dL_707 rfl ?_
  refine gp_pu (st' := .int _ :: _) dL_708 rfl ?_
  refine gp_iac dL_709 rfl hn2 ?_
  refine gp_call (kind := 1) (args := [.ref _, .int _, .int _]) (rest := _) dL_710 (Or.inr (Or.inl ⟨rfl, rfl⟩)) mk_10_72 (by decide) me_149 rfl rfl rfl rfl rfl (mm_rc_of (by first | rfl | assumption | (simp only [*]; done))) zqm rfl ?_
  refine gp_icc (t := 1455) dL_713 (by decide) c2_eq (fun h1 => ?_) (fun h1 => ?_)
  · exact hk _ _ zqR
  · exact absurd rfl h1

set_option maxHeartbeats 400000 in
theorem lw_c13 (n : Nat) (xs : Nat → Int32) {i : Int32} {I : pI} {L : pL} (hn1 : mm_in (i + 1) n = true) (hn2 : mm_in (i + 2) n = true) (hn3 : mm_in (i + 3) n = true) (hn4 : mm_in (i + 4) n = true) (hn5 : mm_in (i + 5) n = true) (hR : RR I L) {Q : Option Value → mm_M → Prop} (hk : ∀ J K, RR J K → gP (lw_cs n xs) 40 10 false (some .boolean) code 1455 [some (.ref 1004), some (.ref 0), some (.ref 108), some (.int i)] [] (mm_sh, mm_R, J, K) Q) : gP (lw_cs n xs) 40 10 false (some .boolean) code 718 [some (.ref 1004), some (.ref 0), some (.ref 108), some (.int i)] [] (mm_sh, mm_R, I, L) Q := by
  obtain ⟨zv, J, L1, J2, L2, zqc, zqm, zqR⟩ := eq_ask (xs (i + 1).toNatClampNeg) (xs (i + 2).toNatClampNeg) I L hR
  obtain ⟨zx, rfl⟩ := call_int me_73 rfl zqc
  refine gp_aload_n dL_718 rfl ?_
  refine gp_aload_n dL_719 rfl ?_
  refine gp_iload_n dL_720 rfl ?_
  refine gp_pu (st' := .int (1) :: _) dL_721 rfl ?_
  refine gp_pu (st' := .int _ :: _) dL_722 rfl ?_
  refine gp_iac dL_723 rfl hn1 ?_
  refine gp_aload_n dL_724 rfl ?_
  refine gp_iload_n dL_725 rfl ?_
  refine gp_pu (st' := .int (2) :: _) dL_726 rfl ?_
  refine gp_pu (st' := .int _ :: _) dL_727 rfl ?_
  refine gp_iac dL_728 rfl hn2 ?_
  refine gp_call (kind := 1) (args := [.ref _, .int _, .int _]) (rest := _) dL_729 (Or.inr (Or.inl ⟨rfl, rfl⟩)) mk_10_73 (by decide) me_73 rfl rfl rfl rfl rfl (mm_rc_of (by first | rfl | assumption | (simp only [*]; done))) zqc rfl ?_
  refine gp_aload_n dL_732 rfl ?_
  refine gp_aload_n dL_733 rfl ?_
  refine gp_iload_n dL_734 rfl ?_
  refine gp_pu (st' := .int (1) :: _) dL_735 rfl ?_
  refine gp_pu (st' := .int _ :: _) dL_736 rfl ?_
  refine gp_iac dL_737 rfl hn1 ?_
  refine gp_aload_n dL_738 rfl ?_
  refine gp_iload_n dL_739 rfl ?_
  refine gp_pu (st' := .int (2) :: _) dL_740 rfl ?_
  refine gp_pu (st' := .int _ :: _) dL_741 rfl ?_
  refine gp_iac dL_742 rfl hn2 ?_
  refine gp_call (kind := 1) (args := [.ref _, .int _, .int _]) (rest := _) dL_743 (Or.inr (Or.inl ⟨rfl, rfl⟩)) mk_10_76 (by decide) me_153 rfl rfl rfl rfl rfl (mm_rc_of (by first | rfl | assumption | (simp only [*]; done))) zqm rfl ?_
  refine gp_icc (t := 1455) dL_746 (by decide) c2_eq (fun h1 => ?_) (fun h1 => ?_)
  · exact hk _ _ zqR
  · exact absurd rfl h1

set_option maxHeartbeats 400000 in
theorem lw_c14z (n : Nat) (xs : Nat → Int32) {i : Int32} {I : pI} {L : pL} (hz : xs (i + 1).toNatClampNeg = 0) (hn1 : mm_in (i + 1) n = true) (hn2 : mm_in (i + 2) n = true) (hn3 : mm_in (i + 3) n = true) (hn4 : mm_in (i + 4) n = true) (hn5 : mm_in (i + 5) n = true) (hR : RR I L) {Q : Option Value → mm_M → Prop} (hk : ∀ J K, RR J K → gP (lw_cs n xs) 40 10 false (some .boolean) code 1455 [some (.ref 1004), some (.ref 0), some (.ref 108), some (.int i)] [] (mm_sh, mm_R, J, K) Q) : gP (lw_cs n xs) 40 10 false (some .boolean) code 751 [some (.ref 1004), some (.ref 0), some (.ref 108), some (.int i)] [] (mm_sh, mm_R, I, L) Q := by
  obtain ⟨zv, J, L1, J2, L2, zqc, zqm, zqR⟩ := eq_roll 0 (Or.inl rfl) I L hR
  obtain ⟨zx, rfl⟩ := call_int me_74 rfl zqc
  refine gp_aload_n dL_751 rfl ?_
  refine gp_aload_n dL_752 rfl ?_
  refine gp_iload_n dL_753 rfl ?_
  refine gp_pu (st' := .int (1) :: _) dL_754 rfl ?_
  refine gp_pu (st' := .int _ :: _) dL_755 rfl ?_
  refine gp_iac dL_756 rfl hn1 ?_
  refine gp_ifc (t := 764) dL_757 (by decide) c1_eq (fun h1 => ?_) (fun h1 => ?_)
  · refine gp_pu (st' := .int (0) :: _) dL_764 rfl ?_
    refine gp_call (kind := 1) (args := [.ref _, .int _]) (rest := _) dL_765 (Or.inr (Or.inl ⟨rfl, rfl⟩)) mk_10_77 (by decide) me_74 rfl rfl rfl rfl rfl (mm_rc_of (by first | rfl | assumption | (simp only [*]; done))) zqc rfl ?_
    refine gp_aload_n dL_768 rfl ?_
    refine gp_aload_n dL_769 rfl ?_
    refine gp_iload_n dL_770 rfl ?_
    refine gp_pu (st' := .int (1) :: _) dL_771 rfl ?_
    refine gp_pu (st' := .int _ :: _) dL_772 rfl ?_
    refine gp_iac dL_773 rfl hn1 ?_
    refine gp_ifc (t := 781) dL_774 (by decide) c1_eq (fun h2 => ?_) (fun h2 => ?_)
    · refine gp_pu (st' := .int (0) :: _) dL_781 rfl ?_
      refine gp_call (kind := 1) (args := [.ref _, .int _]) (rest := _) dL_782 (Or.inr (Or.inl ⟨rfl, rfl⟩)) mk_10_81 (by decide) me_154 rfl rfl rfl rfl rfl (mm_rc_of (by first | rfl | assumption | (simp only [*]; done))) zqm rfl ?_
      refine gp_icc (t := 1455) dL_785 (by decide) c2_eq (fun h3 => ?_) (fun h3 => ?_)
      · exact hk _ _ zqR
      · exact absurd rfl h3
    · exact absurd hz h2
  · exact absurd hz h1

set_option maxHeartbeats 400000 in
theorem lw_c14n (n : Nat) (xs : Nat → Int32) {i : Int32} {I : pI} {L : pL} (hz : ¬ xs (i + 1).toNatClampNeg = 0) (hn1 : mm_in (i + 1) n = true) (hn2 : mm_in (i + 2) n = true) (hn3 : mm_in (i + 3) n = true) (hn4 : mm_in (i + 4) n = true) (hn5 : mm_in (i + 5) n = true) (hR : RR I L) {Q : Option Value → mm_M → Prop} (hk : ∀ J K, RR J K → gP (lw_cs n xs) 40 10 false (some .boolean) code 1455 [some (.ref 1004), some (.ref 0), some (.ref 108), some (.int i)] [] (mm_sh, mm_R, J, K) Q) : gP (lw_cs n xs) 40 10 false (some .boolean) code 751 [some (.ref 1004), some (.ref 0), some (.ref 108), some (.int i)] [] (mm_sh, mm_R, I, L) Q := by
  obtain ⟨zv, J, L1, J2, L2, zqc, zqm, zqR⟩ := eq_roll 1 (Or.inr rfl) I L hR
  obtain ⟨zx, rfl⟩ := call_int me_74 rfl zqc
  refine gp_aload_n dL_751 rfl ?_
  refine gp_aload_n dL_752 rfl ?_
  refine gp_iload_n dL_753 rfl ?_
  refine gp_pu (st' := .int (1) :: _) dL_754 rfl ?_
  refine gp_pu (st' := .int _ :: _) dL_755 rfl ?_
  refine gp_iac dL_756 rfl hn1 ?_
  refine gp_ifc (t := 764) dL_757 (by decide) c1_eq (fun h1 => ?_) (fun h1 => ?_)
  · exact absurd h1 hz
  · refine gp_pu (st' := .int (1) :: _) dL_760 rfl ?_
    refine gp_goto (t := 765) dL_761 (by decide) ?_
    refine gp_call (kind := 1) (args := [.ref _, .int _]) (rest := _) dL_765 (Or.inr (Or.inl ⟨rfl, rfl⟩)) mk_10_77 (by decide) me_74 rfl rfl rfl rfl rfl (mm_rc_of (by first | rfl | assumption | (simp only [*]; done))) zqc rfl ?_
    refine gp_aload_n dL_768 rfl ?_
    refine gp_aload_n dL_769 rfl ?_
    refine gp_iload_n dL_770 rfl ?_
    refine gp_pu (st' := .int (1) :: _) dL_771 rfl ?_
    refine gp_pu (st' := .int _ :: _) dL_772 rfl ?_
    refine gp_iac dL_773 rfl hn1 ?_
    refine gp_ifc (t := 781) dL_774 (by decide) c1_eq (fun h2 => ?_) (fun h2 => ?_)
    · exact absurd h2 hz
    · refine gp_pu (st' := .int (1) :: _) dL_777 rfl ?_
      refine gp_goto (t := 782) dL_778 (by decide) ?_
      refine gp_call (kind := 1) (args := [.ref _, .int _]) (rest := _) dL_782 (Or.inr (Or.inl ⟨rfl, rfl⟩)) mk_10_81 (by decide) me_154 rfl rfl rfl rfl rfl (mm_rc_of (by first | rfl | assumption | (simp only [*]; done))) zqm rfl ?_
      refine gp_icc (t := 1455) dL_785 (by decide) c2_eq (fun h3 => ?_) (fun h3 => ?_)
      · exact hk _ _ zqR
      · exact absurd rfl h3

set_option maxHeartbeats 400000 in
theorem lw_c15 (n : Nat) (xs : Nat → Int32) {i : Int32} {I : pI} {L : pL} (hn1 : mm_in (i + 1) n = true) (hn2 : mm_in (i + 2) n = true) (hn3 : mm_in (i + 3) n = true) (hn4 : mm_in (i + 4) n = true) (hn5 : mm_in (i + 5) n = true) (hR : RR I L) {Q : Option Value → mm_M → Prop} (hk : ∀ J K, RR J K → gP (lw_cs n xs) 40 10 false (some .boolean) code 1455 [some (.ref 1004), some (.ref 0), some (.ref 108), some (.int i)] [] (mm_sh, mm_R, J, K) Q) : gP (lw_cs n xs) 40 10 false (some .boolean) code 790 [some (.ref 1004), some (.ref 0), some (.ref 108), some (.int i)] [] (mm_sh, mm_R, I, L) Q := by
  obtain ⟨zv, J, L1, J2, L2, zqc, zqm, zqR⟩ := eq_field (xs (i + 1).toNatClampNeg) I L hR
  obtain ⟨zx, rfl⟩ := call_int me_75 rfl zqc
  refine gp_aload_n dL_790 rfl ?_
  refine gp_aload_n dL_791 rfl ?_
  refine gp_iload_n dL_792 rfl ?_
  refine gp_pu (st' := .int (1) :: _) dL_793 rfl ?_
  refine gp_pu (st' := .int _ :: _) dL_794 rfl ?_
  refine gp_iac dL_795 rfl hn1 ?_
  refine gp_call (kind := 1) (args := [.ref _, .int _]) (rest := _) dL_796 (Or.inr (Or.inl ⟨rfl, rfl⟩)) mk_10_82 (by decide) me_75 rfl rfl rfl rfl rfl (mm_rc_of (by first | rfl | assumption | (simp only [*]; done))) zqc rfl ?_
  refine gp_aload_n dL_799 rfl ?_
  refine gp_aload_n dL_800 rfl ?_
  refine gp_iload_n dL_801 rfl ?_
  refine gp_pu (st' := .int (1) :: _) dL_802 rfl ?_
  refine gp_pu (st' := .int _ :: _) dL_803 rfl ?_
  refine gp_iac dL_804 rfl hn1 ?_
  refine gp_call (kind := 1) (args := [.ref _, .int _]) (rest := _) dL_805 (Or.inr (Or.inl ⟨rfl, rfl⟩)) mk_10_85 (by decide) me_164 rfl rfl rfl rfl rfl (mm_rc_of (by first | rfl | assumption | (simp only [*]; done))) zqm rfl ?_
  refine gp_icc (t := 1455) dL_808 (by decide) c2_eq (fun h1 => ?_) (fun h1 => ?_)
  · exact hk _ _ zqR
  · exact absurd rfl h1

set_option maxHeartbeats 400000 in
theorem lw_c16 (n : Nat) (xs : Nat → Int32) {i : Int32} {I : pI} {L : pL} (hn1 : mm_in (i + 1) n = true) (hn2 : mm_in (i + 2) n = true) (hn3 : mm_in (i + 3) n = true) (hn4 : mm_in (i + 4) n = true) (hn5 : mm_in (i + 5) n = true) (hR : RR I L) {Q : Option Value → mm_M → Prop} (hk : ∀ J K, RR J K → gP (lw_cs n xs) 40 10 false (some .boolean) code 1455 [some (.ref 1004), some (.ref 0), some (.ref 108), some (.int i)] [] (mm_sh, mm_R, J, K) Q) : gP (lw_cs n xs) 40 10 false (some .boolean) code 813 [some (.ref 1004), some (.ref 0), some (.ref 108), some (.int i)] [] (mm_sh, mm_R, I, L) Q := by
  obtain ⟨zv, J, L1, J2, L2, zqc, zqm, zqR⟩ := eq_fault I L hR
  obtain ⟨zx, rfl⟩ := call_int me_76 rfl zqc
  refine gp_aload_n dL_813 rfl ?_
  refine gp_call (kind := 1) (args := [.ref _]) (rest := _) dL_814 (Or.inr (Or.inl ⟨rfl, rfl⟩)) mk_10_86 (by decide) me_76 rfl rfl rfl rfl rfl (mm_rc_of (by first | rfl | assumption | (simp only [*]; done))) zqc rfl ?_
  refine gp_aload_n dL_817 rfl ?_
  refine gp_call (kind := 1) (args := [.ref _]) (rest := _) dL_818 (Or.inr (Or.inl ⟨rfl, rfl⟩)) mk_10_90 (by decide) me_165 rfl rfl rfl rfl rfl (mm_rc_of (by first | rfl | assumption | (simp only [*]; done))) zqm rfl ?_
  refine gp_icc (t := 1455) dL_821 (by decide) c2_eq (fun h1 => ?_) (fun h1 => ?_)
  · exact hk _ _ zqR
  · exact absurd rfl h1

set_option maxHeartbeats 400000 in
theorem lw_c17 (n : Nat) (xs : Nat → Int32) {i : Int32} {I : pI} {L : pL} (hn1 : mm_in (i + 1) n = true) (hn2 : mm_in (i + 2) n = true) (hn3 : mm_in (i + 3) n = true) (hn4 : mm_in (i + 4) n = true) (hn5 : mm_in (i + 5) n = true) (hR : RR I L) {Q : Option Value → mm_M → Prop} (hk : ∀ J K, RR J K → gP (lw_cs n xs) 40 10 false (some .boolean) code 1455 [some (.ref 1004), some (.ref 0), some (.ref 108), some (.int i)] [] (mm_sh, mm_R, J, K) Q) : gP (lw_cs n xs) 40 10 false (some .boolean) code 826 [some (.ref 1004), some (.ref 0), some (.ref 108), some (.int i)] [] (mm_sh, mm_R, I, L) Q := by
  obtain ⟨zv, J, L1, J2, L2, zqc, zqm, zqR⟩ := eq_behind (xs (i + 1).toNatClampNeg) (xs (i + 2).toNatClampNeg) (xs (i + 3).toNatClampNeg) I L hR
  obtain ⟨zx, rfl⟩ := call_int me_77 rfl zqc
  refine gp_aload_n dL_826 rfl ?_
  refine gp_aload_n dL_827 rfl ?_
  refine gp_iload_n dL_828 rfl ?_
  refine gp_pu (st' := .int (1) :: _) dL_829 rfl ?_
  refine gp_pu (st' := .int _ :: _) dL_830 rfl ?_
  refine gp_iac dL_831 rfl hn1 ?_
  refine gp_aload_n dL_832 rfl ?_
  refine gp_iload_n dL_833 rfl ?_
  refine gp_pu (st' := .int (2) :: _) dL_834 rfl ?_
  refine gp_pu (st' := .int _ :: _) dL_835 rfl ?_
  refine gp_iac dL_836 rfl hn2 ?_
  refine gp_aload_n dL_837 rfl ?_
  refine gp_iload_n dL_838 rfl ?_
  refine gp_pu (st' := .int (3) :: _) dL_839 rfl ?_
  refine gp_pu (st' := .int _ :: _) dL_840 rfl ?_
  refine gp_iac dL_841 rfl hn3 ?_
  refine gp_call (kind := 1) (args := [.ref _, .int _, .int _, .int _]) (rest := _) dL_842 (Or.inr (Or.inl ⟨rfl, rfl⟩)) mk_10_91 (by decide) me_77 rfl rfl rfl rfl rfl (mm_rc_of (by first | rfl | assumption | (simp only [*]; done))) zqc rfl ?_
  refine gp_aload_n dL_845 rfl ?_
  refine gp_aload_n dL_846 rfl ?_
  refine gp_iload_n dL_847 rfl ?_
  refine gp_pu (st' := .int (1) :: _) dL_848 rfl ?_
  refine gp_pu (st' := .int _ :: _) dL_849 rfl ?_
  refine gp_iac dL_850 rfl hn1 ?_
  refine gp_aload_n dL_851 rfl ?_
  refine gp_iload_n dL_852 rfl ?_
  refine gp_pu (st' := .int (2) :: _) dL_853 rfl ?_
  refine gp_pu (st' := .int _ :: _) dL_854 rfl ?_
  refine gp_iac dL_855 rfl hn2 ?_
  refine gp_aload_n dL_856 rfl ?_
  refine gp_iload_n dL_857 rfl ?_
  refine gp_pu (st' := .int (3) :: _) dL_858 rfl ?_
  refine gp_pu (st' := .int _ :: _) dL_859 rfl ?_
  refine gp_iac dL_860 rfl hn3 ?_
  refine gp_call (kind := 1) (args := [.ref _, .int _, .int _, .int _]) (rest := _) dL_861 (Or.inr (Or.inl ⟨rfl, rfl⟩)) mk_10_94 (by decide) me_185 rfl rfl rfl rfl rfl (mm_rc_of (by first | rfl | assumption | (simp only [*]; done))) zqm rfl ?_
  refine gp_icc (t := 1455) dL_864 (by decide) c2_eq (fun h1 => ?_) (fun h1 => ?_)
  · exact hk _ _ zqR
  · exact absurd rfl h1

set_option maxHeartbeats 400000 in
theorem lw_c18 (n : Nat) (xs : Nat → Int32) {i : Int32} {I : pI} {L : pL} (hn1 : mm_in (i + 1) n = true) (hn2 : mm_in (i + 2) n = true) (hn3 : mm_in (i + 3) n = true) (hn4 : mm_in (i + 4) n = true) (hn5 : mm_in (i + 5) n = true) (hR : RR I L) {Q : Option Value → mm_M → Prop} (hk : ∀ J K, RR J K → gP (lw_cs n xs) 40 10 false (some .boolean) code 1455 [some (.ref 1004), some (.ref 0), some (.ref 108), some (.int i)] [] (mm_sh, mm_R, J, K) Q) : gP (lw_cs n xs) 40 10 false (some .boolean) code 869 [some (.ref 1004), some (.ref 0), some (.ref 108), some (.int i)] [] (mm_sh, mm_R, I, L) Q := by
  obtain ⟨zv, J, L1, J2, L2, zqc, zqm, zqR⟩ := eq_comesIn (xs (i + 1).toNatClampNeg) I L hR
  obtain ⟨zx, rfl⟩ := call_int me_78 rfl zqc
  refine gp_aload_n dL_869 rfl ?_
  refine gp_aload_n dL_870 rfl ?_
  refine gp_iload_n dL_871 rfl ?_
  refine gp_pu (st' := .int (1) :: _) dL_872 rfl ?_
  refine gp_pu (st' := .int _ :: _) dL_873 rfl ?_
  refine gp_iac dL_874 rfl hn1 ?_
  refine gp_call (kind := 1) (args := [.ref _, .int _]) (rest := _) dL_875 (Or.inr (Or.inl ⟨rfl, rfl⟩)) mk_10_95 (by decide) me_78 rfl rfl rfl rfl rfl (mm_rc_of (by first | rfl | assumption | (simp only [*]; done))) zqc rfl ?_
  refine gp_aload_n dL_878 rfl ?_
  refine gp_aload_n dL_879 rfl ?_
  refine gp_iload_n dL_880 rfl ?_
  refine gp_pu (st' := .int (1) :: _) dL_881 rfl ?_
  refine gp_pu (st' := .int _ :: _) dL_882 rfl ?_
  refine gp_iac dL_883 rfl hn1 ?_
  refine gp_call (kind := 1) (args := [.ref _, .int _]) (rest := _) dL_884 (Or.inr (Or.inl ⟨rfl, rfl⟩)) mk_10_98 (by decide) me_186 rfl rfl rfl rfl rfl (mm_rc_of (by first | rfl | assumption | (simp only [*]; done))) zqm rfl ?_
  refine gp_icc (t := 1455) dL_887 (by decide) c2_eq (fun h1 => ?_) (fun h1 => ?_)
  · exact hk _ _ zqR
  · exact absurd rfl h1

