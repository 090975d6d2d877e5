/-! the law's forty cases -/
def LI (h : Hp) (σ : Sg) : Prop := DI h σ ∧ RI h σ ∧ KP σ ∧ h 15 4 = nI 0
section LCASES
variable {Y : Lc} {G : Gt} {Lx : Nat} {xs : Nat → Int32} {pc : Nat} {S : List Value} {h : Hp} {σ : Sg} {i : Nat}
theorem lw_arg {k : Nat} {n : Int} {a1 a2 : Option Value} (C : CY Y G Lx xs) (h1 : decode cL_law pc = .ok (.aload_n 0, 1)) (h2 : decode cL_law (pc + 1) = .ok (.iload_n 3, 1)) (h3 : decode cL_law (pc + 1 + 1) = .ok (.iconst n, 1)) (h4 : decode cL_law (pc + 1 + 1 + 1) = .ok (.iadd, 1)) (h5 : decode cL_law (pc + 1 + 1 + 1 + 1) = .ok (.iaload, 1)) (hn : Int32.ofInt n = nI k) (hk : i + k < Lx) (hL : Lx ≤ 384) (kk : LW Y G (pc + 1 + 1 + 1 + 1 + 1) [some (.ref 113), a1, a2, some (.int (nI i))] (.int (xs (i + k)) :: S) h) : LW Y G pc [some (.ref 113), a1, a2, some (.int (nI i))] S h := by
  refine lw_aload_n (i := 0) C h1 rfl rfl ?_
  refine lw_iload_n (i := 3) C h2 rfl rfl ?_
  refine lw_iconst (v := nI k) C h3 hn ?_
  refine lw_iadd C h4 ?_
  rw [nI_add]
  exact lw_sld C h5 hk (by omega) kk
theorem lc_row (C : CY Y G Lx xs) (hi : i + 6 ≤ Lx) (hL : Lx ≤ 384) (hI : LI h σ) (k : ∀ h' σ', LI h' σ' → LW Y G 1509 [some (.ref 113), some (.ref 0), some (.ref 89), some (.int (nI i))] [] h') : LW Y G 208 [some (.ref 113), some (.ref 0), some (.ref 89), some (.int (nI i))] [] h := by
  obtain ⟨hD, hR, hK, hz⟩ := hI
  have hO := hK.1
  have hN := hK.2
  have hT := hO.1.1
  have hd := hO.1.2
  have hW := hD.1
  have hzz := kp_zz hK
  refine lw_aload_n (pc := 208) (i := 1) C dL_law_208 rfl rfl ?_
  refine lw_arg (pc := 209) (k := 1) C dL_law_209 dL_law_210 dL_law_211 dL_law_212 dL_law_213 rfl (by omega) (by omega) ?_
  refine lw_arg (pc := 214) (k := 2) C dL_law_214 dL_law_215 dL_law_216 dL_law_217 dL_law_218 rfl (by omega) (by omega) ?_
  refine lw_arg (pc := 219) (k := 3) C dL_law_219 dL_law_220 dL_law_221 dL_law_222 dL_law_223 rfl (by omega) (by omega) ?_
  refine lw_c3i (pc := 224) (d := 20) C lk_L_13 dL_law_224 (b := 0) rfl rfl rfl (by decide) (sd_row hD (fun h1 D1 r1 => ?_))
  have R1 := hR.rs r1
  refine lw_aload_n (pc := 227) (i := 2) C dL_law_227 rfl rfl ?_
  refine lw_arg (pc := 228) (k := 1) C dL_law_228 dL_law_229 dL_law_230 dL_law_231 dL_law_232 rfl (by omega) (by omega) ?_
  refine lw_arg (pc := 233) (k := 2) C dL_law_233 dL_law_234 dL_law_235 dL_law_236 dL_law_237 rfl (by omega) (by omega) ?_
  refine lw_arg (pc := 238) (k := 3) C dL_law_238 dL_law_239 dL_law_240 dL_law_241 dL_law_242 rfl (by omega) (by omega) ?_
  refine lw_c3i (pc := 243) (d := 20) C lk_L_17 dL_law_243 (b := 89) rfl rfl rfl (by decide) (sr_row R1 hO (fun h2 R2 d2 => ?_))
  refine lw_icmp_eq (pc := 246) (tgt := 1509) C dL_law_246 (by decide) (fun _ => ?_) (fun q => absurd rfl q)
  exact k h2 _ ⟨D1.ds d2, R2, kp_Row hK (xs (i + 1)) (xs (i + 2)) (xs (i + 3)), by rw [d2 15 (by omega), r1 15 (Or.inr rfl)]; exact hz⟩
theorem lc_set (C : CY Y G Lx xs) (hi : i + 6 ≤ Lx) (hL : Lx ≤ 384) (hI : LI h σ) (k : ∀ h' σ', LI h' σ' → LW Y G 1509 [some (.ref 113), some (.ref 0), some (.ref 89), some (.int (nI i))] [] h') : LW Y G 251 [some (.ref 113), some (.ref 0), some (.ref 89), some (.int (nI i))] [] h := by
  obtain ⟨hD, hR, hK, hz⟩ := hI
  have hO := hK.1
  have hN := hK.2
  have hT := hO.1.1
  have hd := hO.1.2
  have hW := hD.1
  have hzz := kp_zz hK
  refine lw_aload_n (pc := 251) (i := 1) C dL_law_251 rfl rfl ?_
  refine lw_arg (pc := 252) (k := 1) C dL_law_252 dL_law_253 dL_law_254 dL_law_255 dL_law_256 rfl (by omega) (by omega) ?_
  refine lw_arg (pc := 257) (k := 2) C dL_law_257 dL_law_258 dL_law_259 dL_law_260 dL_law_261 rfl (by omega) (by omega) ?_
  refine lw_arg (pc := 262) (k := 3) C dL_law_262 dL_law_263 dL_law_264 dL_law_265 dL_law_266 rfl (by omega) (by omega) ?_
  refine lw_c3i (pc := 267) (d := 20) C lk_L_18 dL_law_267 (b := 0) rfl rfl rfl (by decide) (sd_set hD hO (fun h1 D1 r1 => ?_))
  have R1 := hR.rs r1
  refine lw_aload_n (pc := 270) (i := 2) C dL_law_270 rfl rfl ?_
  refine lw_arg (pc := 271) (k := 1) C dL_law_271 dL_law_272 dL_law_273 dL_law_274 dL_law_275 rfl (by omega) (by omega) ?_
  refine lw_arg (pc := 276) (k := 2) C dL_law_276 dL_law_277 dL_law_278 dL_law_279 dL_law_280 rfl (by omega) (by omega) ?_
  refine lw_arg (pc := 281) (k := 3) C dL_law_281 dL_law_282 dL_law_283 dL_law_284 dL_law_285 rfl (by omega) (by omega) ?_
  refine lw_c3i (pc := 286) (d := 20) C lk_L_21 dL_law_286 (b := 89) rfl rfl rfl (by decide) (sr_set R1 hO (fun h2 R2 d2 => ?_))
  refine lw_icmp_eq (pc := 289) (tgt := 1509) C dL_law_289 (by decide) (fun _ => ?_) (fun q => absurd rfl q)
  exact k h2 _ ⟨D1.ds d2, R2, kp_Set hK (xs (i + 1)) (xs (i + 2)) (xs (i + 3)), by rw [d2 15 (by omega), r1 15 (Or.inr rfl)]; exact hz⟩
theorem lc_copy (C : CY Y G Lx xs) (hi : i + 6 ≤ Lx) (hL : Lx ≤ 384) (hI : LI h σ) (k : ∀ h' σ', LI h' σ' → LW Y G 1509 [some (.ref 113), some (.ref 0), some (.ref 89), some (.int (nI i))] [] h') : LW Y G 294 [some (.ref 113), some (.ref 0), some (.ref 89), some (.int (nI i))] [] h := by
  obtain ⟨hD, hR, hK, hz⟩ := hI
  have hO := hK.1
  have hN := hK.2
  have hT := hO.1.1
  have hd := hO.1.2
  have hW := hD.1
  have hzz := kp_zz hK
  refine lw_aload_n (pc := 294) (i := 1) C dL_law_294 rfl rfl ?_
  refine lw_arg (pc := 295) (k := 1) C dL_law_295 dL_law_296 dL_law_297 dL_law_298 dL_law_299 rfl (by omega) (by omega) ?_
  refine lw_arg (pc := 300) (k := 2) C dL_law_300 dL_law_301 dL_law_302 dL_law_303 dL_law_304 rfl (by omega) (by omega) ?_
  refine lw_arg (pc := 305) (k := 3) C dL_law_305 dL_law_306 dL_law_307 dL_law_308 dL_law_309 rfl (by omega) (by omega) ?_
  refine lw_arg (pc := 310) (k := 4) C dL_law_310 dL_law_311 dL_law_312 dL_law_313 dL_law_314 rfl (by omega) (by omega) ?_
  refine lw_arg (pc := 315) (k := 5) C dL_law_315 dL_law_316 dL_law_317 dL_law_318 dL_law_319 rfl (by omega) (by omega) ?_
  refine lw_c5i (pc := 320) (d := 20) C lk_L_22 dL_law_320 (b := 0) rfl rfl rfl (by decide) (sd_copy hD hO (fun h1 D1 r1 => ?_))
  have R1 := hR.rs r1
  refine lw_aload_n (pc := 323) (i := 2) C dL_law_323 rfl rfl ?_
  refine lw_arg (pc := 324) (k := 1) C dL_law_324 dL_law_325 dL_law_326 dL_law_327 dL_law_328 rfl (by omega) (by omega) ?_
  refine lw_arg (pc := 329) (k := 2) C dL_law_329 dL_law_330 dL_law_331 dL_law_332 dL_law_333 rfl (by omega) (by omega) ?_
  refine lw_arg (pc := 334) (k := 3) C dL_law_334 dL_law_335 dL_law_336 dL_law_337 dL_law_338 rfl (by omega) (by omega) ?_
  refine lw_arg (pc := 339) (k := 4) C dL_law_339 dL_law_340 dL_law_341 dL_law_342 dL_law_343 rfl (by omega) (by omega) ?_
  refine lw_arg (pc := 344) (k := 5) C dL_law_344 dL_law_345 dL_law_346 dL_law_347 dL_law_348 rfl (by omega) (by omega) ?_
  refine lw_c5i (pc := 349) (d := 20) C lk_L_26 dL_law_349 (b := 89) rfl rfl rfl (by decide) (sr_copy R1 hO (fun h2 R2 d2 => ?_))
  refine lw_icmp_eq (pc := 352) (tgt := 1509) C dL_law_352 (by decide) (fun _ => ?_) (fun q => absurd rfl q)
  exact k h2 _ ⟨D1.ds d2, R2, kp_Copy hK (xs (i + 1)) (xs (i + 2)) (xs (i + 3)) (xs (i + 4)) (xs (i + 5)), by rw [d2 15 (by omega), r1 15 (Or.inr rfl)]; exact hz⟩
theorem lc_drop (C : CY Y G Lx xs) (hi : i + 6 ≤ Lx) (hL : Lx ≤ 384) (hI : LI h σ) (k : ∀ h' σ', LI h' σ' → LW Y G 1509 [some (.ref 113), some (.ref 0), some (.ref 89), some (.int (nI i))] [] h') : LW Y G 357 [some (.ref 113), some (.ref 0), some (.ref 89), some (.int (nI i))] [] h := by
  obtain ⟨hD, hR, hK, hz⟩ := hI
  have hO := hK.1
  have hN := hK.2
  have hT := hO.1.1
  have hd := hO.1.2
  have hW := hD.1
  have hzz := kp_zz hK
  refine lw_aload_n (pc := 357) (i := 1) C dL_law_357 rfl rfl ?_
  refine lw_arg (pc := 358) (k := 1) C dL_law_358 dL_law_359 dL_law_360 dL_law_361 dL_law_362 rfl (by omega) (by omega) ?_
  refine lw_c1i (pc := 363) (d := 20) C lk_L_27 dL_law_363 (b := 0) rfl rfl rfl (by decide) (sd_drop hD hO (fun h1 D1 r1 => ?_))
  have R1 := hR.rs r1
  refine lw_aload_n (pc := 366) (i := 2) C dL_law_366 rfl rfl ?_
  refine lw_arg (pc := 367) (k := 1) C dL_law_367 dL_law_368 dL_law_369 dL_law_370 dL_law_371 rfl (by omega) (by omega) ?_
  refine lw_c1i (pc := 372) (d := 20) C lk_L_31 dL_law_372 (b := 89) rfl rfl rfl (by decide) (sr_drop R1 hO (fun h2 R2 d2 => ?_))
  refine lw_icmp_eq (pc := 375) (tgt := 1509) C dL_law_375 (by decide) (fun _ => ?_) (fun q => absurd rfl q)
  exact k h2 _ ⟨D1.ds d2, R2, kp_Drop hK (xs (i + 1)), by rw [d2 15 (by omega), r1 15 (Or.inr rfl)]; exact hz⟩
theorem lc_feed (C : CY Y G Lx xs) (hi : i + 6 ≤ Lx) (hL : Lx ≤ 384) (hI : LI h σ) (k : ∀ h' σ', LI h' σ' → LW Y G 1509 [some (.ref 113), some (.ref 0), some (.ref 89), some (.int (nI i))] [] h') : LW Y G 380 [some (.ref 113), some (.ref 0), some (.ref 89), some (.int (nI i))] [] h := by
  obtain ⟨hD, hR, hK, hz⟩ := hI
  have hO := hK.1
  have hN := hK.2
  have hT := hO.1.1
  have hd := hO.1.2
  have hW := hD.1
  have hzz := kp_zz hK
  refine lw_aload_n (pc := 380) (i := 1) C dL_law_380 rfl rfl ?_
  refine lw_arg (pc := 381) (k := 1) C dL_law_381 dL_law_382 dL_law_383 dL_law_384 dL_law_385 rfl (by omega) (by omega) ?_
  refine lw_c1i (pc := 386) (d := 20) C lk_L_32 dL_law_386 (b := 0) rfl rfl rfl (by decide) (sd_feed hD hO (fun h1 D1 r1 => ?_))
  have R1 := hR.rs r1
  refine lw_aload_n (pc := 389) (i := 2) C dL_law_389 rfl rfl ?_
  refine lw_arg (pc := 390) (k := 1) C dL_law_390 dL_law_391 dL_law_392 dL_law_393 dL_law_394 rfl (by omega) (by omega) ?_
  refine lw_c1i (pc := 395) (d := 20) C lk_L_35 dL_law_395 (b := 89) rfl rfl rfl (by decide) (sr_feed R1 hO (fun h2 R2 d2 => ?_))
  refine lw_icmp_eq (pc := 398) (tgt := 1509) C dL_law_398 (by decide) (fun _ => ?_) (fun q => absurd rfl q)
  exact k h2 _ ⟨D1.ds d2, R2, kp_Feed hK (xs (i + 1)), by rw [d2 15 (by omega), r1 15 (Or.inr rfl)]; exact hz⟩
theorem lc_town (C : CY Y G Lx xs) (hi : i + 6 ≤ Lx) (hL : Lx ≤ 384) (hI : LI h σ) (k : ∀ h' σ', LI h' σ' → LW Y G 1509 [some (.ref 113), some (.ref 0), some (.ref 89), some (.int (nI i))] [] h') : LW Y G 403 [some (.ref 113), some (.ref 0), some (.ref 89), some (.int (nI i))] [] h := by
  obtain ⟨hD, hR, hK, hz⟩ := hI
  have hO := hK.1
  have hN := hK.2
  have hT := hO.1.1
  have hd := hO.1.2
  have hW := hD.1
  have hzz := kp_zz hK
  refine lw_aload_n (pc := 403) (i := 1) C dL_law_403 rfl rfl ?_
  refine lw_c0i (pc := 404) (d := 20) C lk_L_36 dL_law_404 (b := 0) rfl rfl rfl (by decide) (sd_town hD hO hz (fun w a e w3 h1 D1 f1 z1 => ?_) (fun T a e ok t1 h1 D1 f1 z1 => ?_))
  · have R1 := hR.rs0 (fun a ha => f1 a ha.1)
    refine lw_aload_n (pc := 407) (i := 2) C dL_law_407 rfl rfl ?_
    refine lw_c0i (pc := 408) (d := 20) C lk_L_40 dL_law_408 (b := 89) rfl rfl rfl (by decide) (sr_town R1 hO (fun w' a' e' h2 R2 d2 => ?_) (fun T' a' e' h2 R2 d2 => ?_))
    · obtain ⟨rfl, rfl⟩ := Prod.mk.inj (Sum.inl.inj (show (Sum.inl (w, a) : Rd) = Sum.inl (w', a') from e.symm.trans e'))
      refine lw_icmp_eq (pc := 411) (tgt := 1509) C dL_law_411 (by decide) (fun _ => ?_) (fun q => absurd rfl q)
      exact k h2 _ ⟨D1.ds d2, R2, kp_BF hK w3, by rw [d2 15 (by omega)]; exact z1⟩
    · exact absurd (show (Sum.inl (w, a) : Rd) = Sum.inr (T', a') from e.symm.trans e') (by simp)
  · have R1 := hR.rs0 (fun a ha => f1 a ha.1)
    refine lw_aload_n (pc := 407) (i := 2) C dL_law_407 rfl rfl ?_
    refine lw_c0i (pc := 408) (d := 20) C lk_L_40 dL_law_408 (b := 89) rfl rfl rfl (by decide) (sr_town R1 hO (fun w' a' e' h2 R2 d2 => ?_) (fun T' a' e' h2 R2 d2 => ?_))
    · exact absurd (show (Sum.inr (T, a) : Rd) = Sum.inl (w', a') from e.symm.trans e') (by simp)
    · obtain ⟨rfl, rfl⟩ := Prod.mk.inj (Sum.inr.inj (show (Sum.inr (T, a) : Rd) = Sum.inr (T', a') from e.symm.trans e'))
      refine lw_icmp_eq (pc := 411) (tgt := 1509) C dL_law_411 (by decide) (fun _ => ?_) (fun q => absurd rfl q)
      exact k h2 _ ⟨D1.ds d2, R2, kp_TB hK ok t1, by rw [d2 15 (by omega)]; exact z1⟩
theorem lc_fault (C : CY Y G Lx xs) (hi : i + 6 ≤ Lx) (hL : Lx ≤ 384) (hI : LI h σ) (k : ∀ h' σ', LI h' σ' → LW Y G 1509 [some (.ref 113), some (.ref 0), some (.ref 89), some (.int (nI i))] [] h') : LW Y G 416 [some (.ref 113), some (.ref 0), some (.ref 89), some (.int (nI i))] [] h := by
  obtain ⟨hD, hR, hK, hz⟩ := hI
  have hO := hK.1
  have hN := hK.2
  have hT := hO.1.1
  have hd := hO.1.2
  have hW := hD.1
  have hzz := kp_zz hK
  refine lw_aload_n (pc := 416) (i := 1) C dL_law_416 rfl rfl ?_
  refine lw_c0i (pc := 417) (d := 20) C lk_L_41 dL_law_417 (b := 0) rfl rfl rfl (by decide) (sd_fault hD ?_)
  have R1 := hR
  refine lw_aload_n (pc := 420) (i := 2) C dL_law_420 rfl rfl ?_
  refine lw_c0i (pc := 421) (d := 20) C lk_L_44 dL_law_421 (b := 89) rfl rfl rfl (by decide) (sr_fault R1 ?_)
  refine lw_icmp_eq (pc := 424) (tgt := 1509) C dL_law_424 (by decide) (fun _ => ?_) (fun q => absurd rfl q)
  exact k h σ ⟨hD, R1, hK, hz⟩
theorem lc_undo (C : CY Y G Lx xs) (hi : i + 6 ≤ Lx) (hL : Lx ≤ 384) (hI : LI h σ) (k : ∀ h' σ', LI h' σ' → LW Y G 1509 [some (.ref 113), some (.ref 0), some (.ref 89), some (.int (nI i))] [] h') : LW Y G 429 [some (.ref 113), some (.ref 0), some (.ref 89), some (.int (nI i))] [] h := by
  obtain ⟨hD, hR, hK, hz⟩ := hI
  have hO := hK.1
  have hN := hK.2
  have hT := hO.1.1
  have hd := hO.1.2
  have hW := hD.1
  have hzz := kp_zz hK
  refine lw_aload_n (pc := 429) (i := 1) C dL_law_429 rfl rfl ?_
  refine lw_c0i (pc := 430) (d := 20) C lk_L_45 dL_law_430 (b := 0) rfl rfl rfl (by decide) (sd_undo hD hO (fun h1 D1 r1 => ?_))
  have R1 := hR.rs r1
  refine lw_aload_n (pc := 433) (i := 2) C dL_law_433 rfl rfl ?_
  refine lw_c0i (pc := 434) (d := 20) C lk_L_48 dL_law_434 (b := 89) rfl rfl rfl (by decide) (sr_undo R1 hO hN (fun h2 R2 d2 => ?_))
  refine lw_icmp_eq (pc := 437) (tgt := 1509) C dL_law_437 (by decide) (fun _ => ?_) (fun q => absurd rfl q)
  exact k h2 _ ⟨D1.ds d2, R2, kp_Undo hK , by rw [d2 15 (by omega), r1 15 (Or.inr rfl)]; exact hz⟩
theorem lc_days (C : CY Y G Lx xs) (hi : i + 6 ≤ Lx) (hL : Lx ≤ 384) (hI : LI h σ) (k : ∀ h' σ', LI h' σ' → LW Y G 1509 [some (.ref 113), some (.ref 0), some (.ref 89), some (.int (nI i))] [] h') : LW Y G 442 [some (.ref 113), some (.ref 0), some (.ref 89), some (.int (nI i))] [] h := by
  obtain ⟨hD, hR, hK, hz⟩ := hI
  have hO := hK.1
  have hN := hK.2
  have hT := hO.1.1
  have hd := hO.1.2
  have hW := hD.1
  have hzz := kp_zz hK
  refine lw_aload_n (pc := 442) (i := 1) C dL_law_442 rfl rfl ?_
  refine lw_arg (pc := 443) (k := 1) C dL_law_443 dL_law_444 dL_law_445 dL_law_446 dL_law_447 rfl (by omega) (by omega) ?_
  refine lw_c1i (pc := 448) (d := 20) C lk_L_49 dL_law_448 (b := 0) rfl rfl rfl (by decide) (sd_days hD hO (fun h1 D1 r1 => ?_))
  have R1 := hR.rs r1
  refine lw_aload_n (pc := 451) (i := 2) C dL_law_451 rfl rfl ?_
  refine lw_arg (pc := 452) (k := 1) C dL_law_452 dL_law_453 dL_law_454 dL_law_455 dL_law_456 rfl (by omega) (by omega) ?_
  refine lw_c1i (pc := 457) (d := 20) C lk_L_52 dL_law_457 (b := 89) rfl rfl rfl (by decide) (sr_days R1 hO (fun h2 R2 d2 => ?_))
  refine lw_icmp_eq (pc := 460) (tgt := 1509) C dL_law_460 (by decide) (fun _ => ?_) (fun q => absurd rfl q)
  exact k h2 _ ⟨D1.ds d2, R2, kp_Days hK (xs (i + 1)), by rw [d2 15 (by omega), r1 15 (Or.inr rfl)]; exact hz⟩
theorem lc_sick (C : CY Y G Lx xs) (hi : i + 6 ≤ Lx) (hL : Lx ≤ 384) (hI : LI h σ) (k : ∀ h' σ', LI h' σ' → LW Y G 1509 [some (.ref 113), some (.ref 0), some (.ref 89), some (.int (nI i))] [] h') : LW Y G 465 [some (.ref 113), some (.ref 0), some (.ref 89), some (.int (nI i))] [] h := by
  obtain ⟨hD, hR, hK, hz⟩ := hI
  have hO := hK.1
  have hN := hK.2
  have hT := hO.1.1
  have hd := hO.1.2
  have hW := hD.1
  have hzz := kp_zz hK
  refine lw_aload_n (pc := 465) (i := 1) C dL_law_465 rfl rfl ?_
  refine lw_arg (pc := 466) (k := 1) C dL_law_466 dL_law_467 dL_law_468 dL_law_469 dL_law_470 rfl (by omega) (by omega) ?_
  refine lw_arg (pc := 471) (k := 2) C dL_law_471 dL_law_472 dL_law_473 dL_law_474 dL_law_475 rfl (by omega) (by omega) ?_
  refine lw_c2i (pc := 476) (d := 20) C lk_L_53 dL_law_476 (b := 0) rfl rfl rfl (by decide) (sd_sick hD hT (fun h1 D1 r1 => ?_))
  have R1 := hR.rs r1
  refine lw_aload_n (pc := 479) (i := 2) C dL_law_479 rfl rfl ?_
  refine lw_arg (pc := 480) (k := 1) C dL_law_480 dL_law_481 dL_law_482 dL_law_483 dL_law_484 rfl (by omega) (by omega) ?_
  refine lw_arg (pc := 485) (k := 2) C dL_law_485 dL_law_486 dL_law_487 dL_law_488 dL_law_489 rfl (by omega) (by omega) ?_
  refine lw_c2i (pc := 490) (d := 20) C lk_L_57 dL_law_490 (b := 89) rfl rfl rfl (by decide) (sr_sick R1 hT (fun h2 R2 d2 => ?_))
  refine lw_icmp_eq (pc := 493) (tgt := 1509) C dL_law_493 (by decide) (fun _ => ?_) (fun q => absurd rfl q)
  exact k h2 _ ⟨D1.ds d2, R2, kp_Sick hK (xs (i + 1)) (xs (i + 2)), by rw [d2 15 (by omega), r1 15 (Or.inr rfl)]; exact hz⟩
theorem lc_swap (C : CY Y G Lx xs) (hi : i + 6 ≤ Lx) (hL : Lx ≤ 384) (hI : LI h σ) (k : ∀ h' σ', LI h' σ' → LW Y G 1509 [some (.ref 113), some (.ref 0), some (.ref 89), some (.int (nI i))] [] h') : LW Y G 498 [some (.ref 113), some (.ref 0), some (.ref 89), some (.int (nI i))] [] h := by
  obtain ⟨hD, hR, hK, hz⟩ := hI
  have hO := hK.1
  have hN := hK.2
  have hT := hO.1.1
  have hd := hO.1.2
  have hW := hD.1
  have hzz := kp_zz hK
  refine lw_aload_n (pc := 498) (i := 1) C dL_law_498 rfl rfl ?_
  refine lw_arg (pc := 499) (k := 1) C dL_law_499 dL_law_500 dL_law_501 dL_law_502 dL_law_503 rfl (by omega) (by omega) ?_
  refine lw_arg (pc := 504) (k := 2) C dL_law_504 dL_law_505 dL_law_506 dL_law_507 dL_law_508 rfl (by omega) (by omega) ?_
  refine lw_c2i (pc := 509) (d := 20) C lk_L_58 dL_law_509 (b := 0) rfl rfl rfl (by decide) (sd_swap hD hT (fun h1 D1 r1 => ?_))
  have R1 := hR.rs r1
  refine lw_aload_n (pc := 512) (i := 2) C dL_law_512 rfl rfl ?_
  refine lw_arg (pc := 513) (k := 1) C dL_law_513 dL_law_514 dL_law_515 dL_law_516 dL_law_517 rfl (by omega) (by omega) ?_
  refine lw_arg (pc := 518) (k := 2) C dL_law_518 dL_law_519 dL_law_520 dL_law_521 dL_law_522 rfl (by omega) (by omega) ?_
  refine lw_c2i (pc := 523) (d := 20) C lk_L_61 dL_law_523 (b := 89) rfl rfl rfl (by decide) (sr_swap R1 hT (fun h2 R2 d2 => ?_))
  refine lw_icmp_eq (pc := 526) (tgt := 1509) C dL_law_526 (by decide) (fun _ => ?_) (fun q => absurd rfl q)
  exact k h2 _ ⟨D1.ds d2, R2, kp_Swap hK (xs (i + 1)) (xs (i + 2)), by rw [d2 15 (by omega), r1 15 (Or.inr rfl)]; exact hz⟩
theorem lc_pace (C : CY Y G Lx xs) (hi : i + 6 ≤ Lx) (hL : Lx ≤ 384) (hI : LI h σ) (k : ∀ h' σ', LI h' σ' → LW Y G 1509 [some (.ref 113), some (.ref 0), some (.ref 89), some (.int (nI i))] [] h') : LW Y G 531 [some (.ref 113), some (.ref 0), some (.ref 89), some (.int (nI i))] [] h := by
  obtain ⟨hD, hR, hK, hz⟩ := hI
  have hO := hK.1
  have hN := hK.2
  have hT := hO.1.1
  have hd := hO.1.2
  have hW := hD.1
  have hzz := kp_zz hK
  refine lw_aload_n (pc := 531) (i := 1) C dL_law_531 rfl rfl ?_
  refine lw_arg (pc := 532) (k := 1) C dL_law_532 dL_law_533 dL_law_534 dL_law_535 dL_law_536 rfl (by omega) (by omega) ?_
  refine lw_arg (pc := 537) (k := 2) C dL_law_537 dL_law_538 dL_law_539 dL_law_540 dL_law_541 rfl (by omega) (by omega) ?_
  refine lw_c2i (pc := 542) (d := 20) C lk_L_62 dL_law_542 (b := 0) rfl rfl rfl (by decide) (sd_pace hD hT (fun h1 D1 r1 => ?_))
  have R1 := hR.rs r1
  refine lw_aload_n (pc := 545) (i := 2) C dL_law_545 rfl rfl ?_
  refine lw_arg (pc := 546) (k := 1) C dL_law_546 dL_law_547 dL_law_548 dL_law_549 dL_law_550 rfl (by omega) (by omega) ?_
  refine lw_arg (pc := 551) (k := 2) C dL_law_551 dL_law_552 dL_law_553 dL_law_554 dL_law_555 rfl (by omega) (by omega) ?_
  refine lw_c2i (pc := 556) (d := 20) C lk_L_65 dL_law_556 (b := 89) rfl rfl rfl (by decide) (sr_pace R1 hT (fun h2 R2 d2 => ?_))
  refine lw_icmp_eq (pc := 559) (tgt := 1509) C dL_law_559 (by decide) (fun _ => ?_) (fun q => absurd rfl q)
  exact k h2 _ ⟨D1.ds d2, R2, kp_Pace hK (xs (i + 1)) (xs (i + 2)), by rw [d2 15 (by omega), r1 15 (Or.inr rfl)]; exact hz⟩
theorem lc_quarrel (C : CY Y G Lx xs) (hi : i + 6 ≤ Lx) (hL : Lx ≤ 384) (hI : LI h σ) (k : ∀ h' σ', LI h' σ' → LW Y G 1509 [some (.ref 113), some (.ref 0), some (.ref 89), some (.int (nI i))] [] h') : LW Y G 564 [some (.ref 113), some (.ref 0), some (.ref 89), some (.int (nI i))] [] h := by
  obtain ⟨hD, hR, hK, hz⟩ := hI
  have hO := hK.1
  have hN := hK.2
  have hT := hO.1.1
  have hd := hO.1.2
  have hW := hD.1
  have hzz := kp_zz hK
  refine lw_aload_n (pc := 564) (i := 1) C dL_law_564 rfl rfl ?_
  refine lw_arg (pc := 565) (k := 1) C dL_law_565 dL_law_566 dL_law_567 dL_law_568 dL_law_569 rfl (by omega) (by omega) ?_
  refine lw_arg (pc := 570) (k := 2) C dL_law_570 dL_law_571 dL_law_572 dL_law_573 dL_law_574 rfl (by omega) (by omega) ?_
  refine lw_arg (pc := 575) (k := 3) C dL_law_575 dL_law_576 dL_law_577 dL_law_578 dL_law_579 rfl (by omega) (by omega) ?_
  refine lw_c3i (pc := 580) (d := 20) C lk_L_66 dL_law_580 (b := 0) rfl rfl rfl (by decide) (sd_quarrel hD hT (fun h1 D1 r1 => ?_))
  have R1 := hR.rs r1
  refine lw_aload_n (pc := 583) (i := 2) C dL_law_583 rfl rfl ?_
  refine lw_arg (pc := 584) (k := 1) C dL_law_584 dL_law_585 dL_law_586 dL_law_587 dL_law_588 rfl (by omega) (by omega) ?_
  refine lw_arg (pc := 589) (k := 2) C dL_law_589 dL_law_590 dL_law_591 dL_law_592 dL_law_593 rfl (by omega) (by omega) ?_
  refine lw_arg (pc := 594) (k := 3) C dL_law_594 dL_law_595 dL_law_596 dL_law_597 dL_law_598 rfl (by omega) (by omega) ?_
  refine lw_c3i (pc := 599) (d := 20) C lk_L_69 dL_law_599 (b := 89) rfl rfl rfl (by decide) (sr_quarrel R1 hT (fun h2 R2 d2 => ?_))
  refine lw_icmp_eq (pc := 602) (tgt := 1509) C dL_law_602 (by decide) (fun _ => ?_) (fun q => absurd rfl q)
  exact k h2 _ ⟨D1.ds d2, R2, kp_Quarrel hK (xs (i + 1)) (xs (i + 2)) (xs (i + 3)), by rw [d2 15 (by omega), r1 15 (Or.inr rfl)]; exact hz⟩
theorem lc_spoil (C : CY Y G Lx xs) (hi : i + 6 ≤ Lx) (hL : Lx ≤ 384) (hI : LI h σ) (k : ∀ h' σ', LI h' σ' → LW Y G 1509 [some (.ref 113), some (.ref 0), some (.ref 89), some (.int (nI i))] [] h') : LW Y G 607 [some (.ref 113), some (.ref 0), some (.ref 89), some (.int (nI i))] [] h := by
  obtain ⟨hD, hR, hK, hz⟩ := hI
  have hO := hK.1
  have hN := hK.2
  have hT := hO.1.1
  have hd := hO.1.2
  have hW := hD.1
  have hzz := kp_zz hK
  refine lw_aload_n (pc := 607) (i := 1) C dL_law_607 rfl rfl ?_
  refine lw_arg (pc := 608) (k := 1) C dL_law_608 dL_law_609 dL_law_610 dL_law_611 dL_law_612 rfl (by omega) (by omega) ?_
  refine lw_arg (pc := 613) (k := 2) C dL_law_613 dL_law_614 dL_law_615 dL_law_616 dL_law_617 rfl (by omega) (by omega) ?_
  refine lw_c2i (pc := 618) (d := 20) C lk_L_70 dL_law_618 (b := 0) rfl rfl rfl (by decide) (sd_spoil hD hT (fun h1 D1 r1 => ?_))
  have R1 := hR.rs r1
  refine lw_aload_n (pc := 621) (i := 2) C dL_law_621 rfl rfl ?_
  refine lw_arg (pc := 622) (k := 1) C dL_law_622 dL_law_623 dL_law_624 dL_law_625 dL_law_626 rfl (by omega) (by omega) ?_
  refine lw_arg (pc := 627) (k := 2) C dL_law_627 dL_law_628 dL_law_629 dL_law_630 dL_law_631 rfl (by omega) (by omega) ?_
  refine lw_c2i (pc := 632) (d := 20) C lk_L_73 dL_law_632 (b := 89) rfl rfl rfl (by decide) (sr_spoil R1 hT (fun h2 R2 d2 => ?_))
  refine lw_icmp_eq (pc := 635) (tgt := 1509) C dL_law_635 (by decide) (fun _ => ?_) (fun q => absurd rfl q)
  exact k h2 _ ⟨D1.ds d2, R2, kp_Spoil hK (xs (i + 1)) (xs (i + 2)), by rw [d2 15 (by omega), r1 15 (Or.inr rfl)]; exact hz⟩
theorem lc_gran (C : CY Y G Lx xs) (hi : i + 6 ≤ Lx) (hL : Lx ≤ 384) (hI : LI h σ) (k : ∀ h' σ', LI h' σ' → LW Y G 1509 [some (.ref 113), some (.ref 0), some (.ref 89), some (.int (nI i))] [] h') : LW Y G 640 [some (.ref 113), some (.ref 0), some (.ref 89), some (.int (nI i))] [] h := by
  obtain ⟨hD, hR, hK, hz⟩ := hI
  have hO := hK.1
  have hN := hK.2
  have hT := hO.1.1
  have hd := hO.1.2
  have hW := hD.1
  have hzz := kp_zz hK
  refine lw_aload_n (pc := 640) (i := 1) C dL_law_640 rfl rfl ?_
  refine lw_arg (pc := 641) (k := 1) C dL_law_641 dL_law_642 dL_law_643 dL_law_644 dL_law_645 rfl (by omega) (by omega) ?_
  refine lw_arg (pc := 646) (k := 2) C dL_law_646 dL_law_647 dL_law_648 dL_law_649 dL_law_650 rfl (by omega) (by omega) ?_
  refine lw_c2i (pc := 651) (d := 20) C lk_L_74 dL_law_651 (b := 0) rfl rfl rfl (by decide) (sd_gran hW hT (fun h1 s1 => ?_))
  have R1 := hR.rs0 (fun a ha => s1 a (by omega))
  refine lw_aload_n (pc := 654) (i := 2) C dL_law_654 rfl rfl ?_
  refine lw_arg (pc := 655) (k := 1) C dL_law_655 dL_law_656 dL_law_657 dL_law_658 dL_law_659 rfl (by omega) (by omega) ?_
  refine lw_arg (pc := 660) (k := 2) C dL_law_660 dL_law_661 dL_law_662 dL_law_663 dL_law_664 rfl (by omega) (by omega) ?_
  refine lw_c2i (pc := 665) (d := 20) C lk_L_77 dL_law_665 (b := 89) rfl rfl rfl (by decide) (sr_gran R1.1 hT ?_)
  refine lw_icmp_eq (pc := 668) (tgt := 1509) C dL_law_668 (by decide) (fun _ => ?_) (fun q => absurd rfl q)
  exact k h1 σ ⟨hD.sc s1, R1, hK, by rw [s1 15 (by omega)]; exact hz⟩
theorem lc_child (C : CY Y G Lx xs) (hi : i + 6 ≤ Lx) (hL : Lx ≤ 384) (hI : LI h σ) (k : ∀ h' σ', LI h' σ' → LW Y G 1509 [some (.ref 113), some (.ref 0), some (.ref 89), some (.int (nI i))] [] h') : LW Y G 673 [some (.ref 113), some (.ref 0), some (.ref 89), some (.int (nI i))] [] h := by
  obtain ⟨hD, hR, hK, hz⟩ := hI
  have hO := hK.1
  have hN := hK.2
  have hT := hO.1.1
  have hd := hO.1.2
  have hW := hD.1
  have hzz := kp_zz hK
  refine lw_aload_n (pc := 673) (i := 1) C dL_law_673 rfl rfl ?_
  refine lw_arg (pc := 674) (k := 1) C dL_law_674 dL_law_675 dL_law_676 dL_law_677 dL_law_678 rfl (by omega) (by omega) ?_
  refine lw_arg (pc := 679) (k := 2) C dL_law_679 dL_law_680 dL_law_681 dL_law_682 dL_law_683 rfl (by omega) (by omega) ?_
  refine lw_c2i (pc := 684) (d := 20) C lk_L_78 dL_law_684 (b := 0) rfl rfl rfl (by decide) (sd_child hW hT (fun h1 s1 => ?_))
  have R1 := hR.rs0 (fun a ha => s1 a (by omega))
  refine lw_aload_n (pc := 687) (i := 2) C dL_law_687 rfl rfl ?_
  refine lw_arg (pc := 688) (k := 1) C dL_law_688 dL_law_689 dL_law_690 dL_law_691 dL_law_692 rfl (by omega) (by omega) ?_
  refine lw_arg (pc := 693) (k := 2) C dL_law_693 dL_law_694 dL_law_695 dL_law_696 dL_law_697 rfl (by omega) (by omega) ?_
  refine lw_c2i (pc := 698) (d := 20) C lk_L_81 dL_law_698 (b := 89) rfl rfl rfl (by decide) (sr_child R1.1 hT ?_)
  refine lw_icmp_eq (pc := 701) (tgt := 1509) C dL_law_701 (by decide) (fun _ => ?_) (fun q => absurd rfl q)
  exact k h1 σ ⟨hD.sc s1, R1, hK, by rw [s1 15 (by omega)]; exact hz⟩
theorem lc_ahead (C : CY Y G Lx xs) (hi : i + 6 ≤ Lx) (hL : Lx ≤ 384) (hI : LI h σ) (k : ∀ h' σ', LI h' σ' → LW Y G 1509 [some (.ref 113), some (.ref 0), some (.ref 89), some (.int (nI i))] [] h') : LW Y G 706 [some (.ref 113), some (.ref 0), some (.ref 89), some (.int (nI i))] [] h := by
  obtain ⟨hD, hR, hK, hz⟩ := hI
  have hO := hK.1
  have hN := hK.2
  have hT := hO.1.1
  have hd := hO.1.2
  have hW := hD.1
  have hzz := kp_zz hK
  refine lw_aload_n (pc := 706) (i := 1) C dL_law_706 rfl rfl ?_
  refine lw_arg (pc := 707) (k := 1) C dL_law_707 dL_law_708 dL_law_709 dL_law_710 dL_law_711 rfl (by omega) (by omega) ?_
  refine lw_arg (pc := 712) (k := 2) C dL_law_712 dL_law_713 dL_law_714 dL_law_715 dL_law_716 rfl (by omega) (by omega) ?_
  refine lw_arg (pc := 717) (k := 3) C dL_law_717 dL_law_718 dL_law_719 dL_law_720 dL_law_721 rfl (by omega) (by omega) ?_
  refine lw_c3i (pc := 722) (d := 20) C lk_L_82 dL_law_722 (b := 0) rfl rfl rfl (by decide) (sd_ahead hW hT hzz hd (fun h1 s1 => ?_))
  have R1 := hR.rs0 (fun a ha => s1 a (by omega))
  refine lw_aload_n (pc := 725) (i := 2) C dL_law_725 rfl rfl ?_
  refine lw_arg (pc := 726) (k := 1) C dL_law_726 dL_law_727 dL_law_728 dL_law_729 dL_law_730 rfl (by omega) (by omega) ?_
  refine lw_arg (pc := 731) (k := 2) C dL_law_731 dL_law_732 dL_law_733 dL_law_734 dL_law_735 rfl (by omega) (by omega) ?_
  refine lw_arg (pc := 736) (k := 3) C dL_law_736 dL_law_737 dL_law_738 dL_law_739 dL_law_740 rfl (by omega) (by omega) ?_
  refine lw_c3i (pc := 741) (d := 20) C lk_L_85 dL_law_741 (b := 89) rfl rfl rfl (by decide) (sr_ahead R1.1 hT hzz hd (fun h2 s2 => ?_))
  refine lw_icmp_eq (pc := 744) (tgt := 1509) C dL_law_744 (by decide) (fun _ => ?_) (fun q => absurd rfl q)
  exact k h2 σ ⟨(hD.sc s1).ds s2.ds, R1.sr s2, hK, by rw [s2.ds 15 (by omega), s1 15 (by omega)]; exact hz⟩
theorem lc_withWhom (C : CY Y G Lx xs) (hi : i + 6 ≤ Lx) (hL : Lx ≤ 384) (hI : LI h σ) (k : ∀ h' σ', LI h' σ' → LW Y G 1509 [some (.ref 113), some (.ref 0), some (.ref 89), some (.int (nI i))] [] h') : LW Y G 749 [some (.ref 113), some (.ref 0), some (.ref 89), some (.int (nI i))] [] h := by
  obtain ⟨hD, hR, hK, hz⟩ := hI
  have hO := hK.1
  have hN := hK.2
  have hT := hO.1.1
  have hd := hO.1.2
  have hW := hD.1
  have hzz := kp_zz hK
  refine lw_aload_n (pc := 749) (i := 1) C dL_law_749 rfl rfl ?_
  refine lw_arg (pc := 750) (k := 1) C dL_law_750 dL_law_751 dL_law_752 dL_law_753 dL_law_754 rfl (by omega) (by omega) ?_
  refine lw_arg (pc := 755) (k := 2) C dL_law_755 dL_law_756 dL_law_757 dL_law_758 dL_law_759 rfl (by omega) (by omega) ?_
  refine lw_c2i (pc := 760) (d := 20) C lk_L_86 dL_law_760 (b := 0) rfl rfl rfl (by decide) (sd_withWhom hW hT ?_)
  have R1 := hR
  refine lw_aload_n (pc := 763) (i := 2) C dL_law_763 rfl rfl ?_
  refine lw_arg (pc := 764) (k := 1) C dL_law_764 dL_law_765 dL_law_766 dL_law_767 dL_law_768 rfl (by omega) (by omega) ?_
  refine lw_arg (pc := 769) (k := 2) C dL_law_769 dL_law_770 dL_law_771 dL_law_772 dL_law_773 rfl (by omega) (by omega) ?_
  refine lw_c2i (pc := 774) (d := 20) C lk_L_89 dL_law_774 (b := 89) rfl rfl rfl (by decide) (sr_withWhom R1.1 hT hd (fun h2 s2 => ?_))
  refine lw_icmp_eq (pc := 777) (tgt := 1509) C dL_law_777 (by decide) (fun _ => ?_) (fun q => absurd rfl q)
  exact k h2 σ ⟨hD.ds s2.ds, R1.sr s2, hK, by rw [s2.ds 15 (by omega)]; exact hz⟩
theorem lc_whole (C : CY Y G Lx xs) (hi : i + 6 ≤ Lx) (hL : Lx ≤ 384) (hI : LI h σ) (k : ∀ h' σ', LI h' σ' → LW Y G 1509 [some (.ref 113), some (.ref 0), some (.ref 89), some (.int (nI i))] [] h') : LW Y G 782 [some (.ref 113), some (.ref 0), some (.ref 89), some (.int (nI i))] [] h := by
  obtain ⟨hD, hR, hK, hz⟩ := hI
  have hO := hK.1
  have hN := hK.2
  have hT := hO.1.1
  have hd := hO.1.2
  have hW := hD.1
  have hzz := kp_zz hK
  refine lw_aload_n (pc := 782) (i := 1) C dL_law_782 rfl rfl ?_
  refine lw_arg (pc := 783) (k := 1) C dL_law_783 dL_law_784 dL_law_785 dL_law_786 dL_law_787 rfl (by omega) (by omega) ?_
  refine lw_c1i (pc := 788) (d := 20) C lk_L_90 dL_law_788 (b := 0) rfl rfl rfl (by decide) (sd_whole hW hT hzz hd (fun h1 s1 => ?_))
  have R1 := hR.rs0 (fun a ha => s1 a (by omega))
  refine lw_aload_n (pc := 791) (i := 2) C dL_law_791 rfl rfl ?_
  refine lw_arg (pc := 792) (k := 1) C dL_law_792 dL_law_793 dL_law_794 dL_law_795 dL_law_796 rfl (by omega) (by omega) ?_
  refine lw_c1i (pc := 797) (d := 20) C lk_L_93 dL_law_797 (b := 89) rfl rfl rfl (by decide) (sr_whole R1.1 hT hzz hd (fun h2 s2 => ?_))
  refine lw_icmp_eq (pc := 800) (tgt := 1509) C dL_law_800 (by decide) (fun _ => ?_) (fun q => absurd rfl q)
  exact k h2 σ ⟨(hD.sc s1).ds s2.ds, R1.sr s2, hK, by rw [s2.ds 15 (by omega), s1 15 (by omega)]; exact hz⟩
theorem lc_hungry (C : CY Y G Lx xs) (hi : i + 6 ≤ Lx) (hL : Lx ≤ 384) (hI : LI h σ) (k : ∀ h' σ', LI h' σ' → LW Y G 1509 [some (.ref 113), some (.ref 0), some (.ref 89), some (.int (nI i))] [] h') : LW Y G 805 [some (.ref 113), some (.ref 0), some (.ref 89), some (.int (nI i))] [] h := by
  obtain ⟨hD, hR, hK, hz⟩ := hI
  have hO := hK.1
  have hN := hK.2
  have hT := hO.1.1
  have hd := hO.1.2
  have hW := hD.1
  have hzz := kp_zz hK
  refine lw_aload_n (pc := 805) (i := 1) C dL_law_805 rfl rfl ?_
  refine lw_arg (pc := 806) (k := 1) C dL_law_806 dL_law_807 dL_law_808 dL_law_809 dL_law_810 rfl (by omega) (by omega) ?_
  refine lw_c1i (pc := 811) (d := 20) C lk_L_94 dL_law_811 (b := 0) rfl rfl rfl (by decide) (sd_hungry hW hT hzz hd (fun h1 s1 => ?_))
  have R1 := hR.rs0 (fun a ha => s1 a (by omega))
  refine lw_aload_n (pc := 814) (i := 2) C dL_law_814 rfl rfl ?_
  refine lw_arg (pc := 815) (k := 1) C dL_law_815 dL_law_816 dL_law_817 dL_law_818 dL_law_819 rfl (by omega) (by omega) ?_
  refine lw_c1i (pc := 820) (d := 20) C lk_L_97 dL_law_820 (b := 89) rfl rfl rfl (by decide) (sr_hungry R1.1 hT hzz hd (fun h2 s2 => ?_))
  refine lw_icmp_eq (pc := 823) (tgt := 1509) C dL_law_823 (by decide) (fun _ => ?_) (fun q => absurd rfl q)
  exact k h2 σ ⟨(hD.sc s1).ds s2.ds, R1.sr s2, hK, by rw [s2.ds 15 (by omega), s1 15 (by omega)]; exact hz⟩
theorem lc_without (C : CY Y G Lx xs) (hi : i + 6 ≤ Lx) (hL : Lx ≤ 384) (hI : LI h σ) (k : ∀ h' σ', LI h' σ' → LW Y G 1509 [some (.ref 113), some (.ref 0), some (.ref 89), some (.int (nI i))] [] h') : LW Y G 828 [some (.ref 113), some (.ref 0), some (.ref 89), some (.int (nI i))] [] h := by
  obtain ⟨hD, hR, hK, hz⟩ := hI
  have hO := hK.1
  have hN := hK.2
  have hT := hO.1.1
  have hd := hO.1.2
  have hW := hD.1
  have hzz := kp_zz hK
  refine lw_aload_n (pc := 828) (i := 1) C dL_law_828 rfl rfl ?_
  refine lw_arg (pc := 829) (k := 1) C dL_law_829 dL_law_830 dL_law_831 dL_law_832 dL_law_833 rfl (by omega) (by omega) ?_
  refine lw_c1i (pc := 834) (d := 20) C lk_L_98 dL_law_834 (b := 0) rfl rfl rfl (by decide) (sd_without hW hT (fun h1 s1 => ?_))
  have R1 := hR.rs0 (fun a ha => s1 a (by omega))
  refine lw_aload_n (pc := 837) (i := 2) C dL_law_837 rfl rfl ?_
  refine lw_arg (pc := 838) (k := 1) C dL_law_838 dL_law_839 dL_law_840 dL_law_841 dL_law_842 rfl (by omega) (by omega) ?_
  refine lw_c1i (pc := 843) (d := 20) C lk_L_101 dL_law_843 (b := 89) rfl rfl rfl (by decide) (sr_without R1.1 R1.2.1 hT hd (fun h2 s2 => ?_))
  refine lw_icmp_eq (pc := 846) (tgt := 1509) C dL_law_846 (by decide) (fun _ => ?_) (fun q => absurd rfl q)
  exact k h2 σ ⟨(hD.sc s1).ds s2.ds, R1.sr s2, hK, by rw [s2.ds 15 (by omega), s1 15 (by omega)]; exact hz⟩
theorem lc_rota (C : CY Y G Lx xs) (hi : i + 6 ≤ Lx) (hL : Lx ≤ 384) (hI : LI h σ) (k : ∀ h' σ', LI h' σ' → LW Y G 1509 [some (.ref 113), some (.ref 0), some (.ref 89), some (.int (nI i))] [] h') : LW Y G 851 [some (.ref 113), some (.ref 0), some (.ref 89), some (.int (nI i))] [] h := by
  obtain ⟨hD, hR, hK, hz⟩ := hI
  have hO := hK.1
  have hN := hK.2
  have hT := hO.1.1
  have hd := hO.1.2
  have hW := hD.1
  have hzz := kp_zz hK
  refine lw_aload_n (pc := 851) (i := 1) C dL_law_851 rfl rfl ?_
  refine lw_arg (pc := 852) (k := 1) C dL_law_852 dL_law_853 dL_law_854 dL_law_855 dL_law_856 rfl (by omega) (by omega) ?_
  refine lw_arg (pc := 857) (k := 2) C dL_law_857 dL_law_858 dL_law_859 dL_law_860 dL_law_861 rfl (by omega) (by omega) ?_
  refine lw_arg (pc := 862) (k := 3) C dL_law_862 dL_law_863 dL_law_864 dL_law_865 dL_law_866 rfl (by omega) (by omega) ?_
  refine lw_c3i (pc := 867) (d := 20) C lk_L_102 dL_law_867 (b := 0) rfl rfl rfl (by decide) (sd_rota hW hT (fun h1 s1 => ?_))
  have R1 := hR.rs0 (fun a ha => s1 a (by omega))
  refine lw_aload_n (pc := 870) (i := 2) C dL_law_870 rfl rfl ?_
  refine lw_arg (pc := 871) (k := 1) C dL_law_871 dL_law_872 dL_law_873 dL_law_874 dL_law_875 rfl (by omega) (by omega) ?_
  refine lw_arg (pc := 876) (k := 2) C dL_law_876 dL_law_877 dL_law_878 dL_law_879 dL_law_880 rfl (by omega) (by omega) ?_
  refine lw_arg (pc := 881) (k := 3) C dL_law_881 dL_law_882 dL_law_883 dL_law_884 dL_law_885 rfl (by omega) (by omega) ?_
  refine lw_c3i (pc := 886) (d := 20) C lk_L_105 dL_law_886 (b := 89) rfl rfl rfl (by decide) (sr_rota R1.1 R1.2.1 hT hd (fun h2 s2 => ?_))
  refine lw_icmp_eq (pc := 889) (tgt := 1509) C dL_law_889 (by decide) (fun _ => ?_) (fun q => absurd rfl q)
  exact k h2 σ ⟨(hD.sc s1).ds s2.ds, R1.sr s2, hK, by rw [s2.ds 15 (by omega), s1 15 (by omega)]; exact hz⟩
theorem lc_meets (C : CY Y G Lx xs) (hi : i + 6 ≤ Lx) (hL : Lx ≤ 384) (hI : LI h σ) (k : ∀ h' σ', LI h' σ' → LW Y G 1509 [some (.ref 113), some (.ref 0), some (.ref 89), some (.int (nI i))] [] h') : LW Y G 894 [some (.ref 113), some (.ref 0), some (.ref 89), some (.int (nI i))] [] h := by
  obtain ⟨hD, hR, hK, hz⟩ := hI
  have hO := hK.1
  have hN := hK.2
  have hT := hO.1.1
  have hd := hO.1.2
  have hW := hD.1
  have hzz := kp_zz hK
  refine lw_aload_n (pc := 894) (i := 1) C dL_law_894 rfl rfl ?_
  refine lw_arg (pc := 895) (k := 1) C dL_law_895 dL_law_896 dL_law_897 dL_law_898 dL_law_899 rfl (by omega) (by omega) ?_
  refine lw_arg (pc := 900) (k := 2) C dL_law_900 dL_law_901 dL_law_902 dL_law_903 dL_law_904 rfl (by omega) (by omega) ?_
  refine lw_c2i (pc := 905) (d := 20) C lk_L_106 dL_law_905 (b := 0) rfl rfl rfl (by decide) (sd_meets hW hT ?_)
  have R1 := hR
  refine lw_aload_n (pc := 908) (i := 2) C dL_law_908 rfl rfl ?_
  refine lw_arg (pc := 909) (k := 1) C dL_law_909 dL_law_910 dL_law_911 dL_law_912 dL_law_913 rfl (by omega) (by omega) ?_
  refine lw_arg (pc := 914) (k := 2) C dL_law_914 dL_law_915 dL_law_916 dL_law_917 dL_law_918 rfl (by omega) (by omega) ?_
  refine lw_c2i (pc := 919) (d := 20) C lk_L_109 dL_law_919 (b := 89) rfl rfl rfl (by decide) (sr_meets R1.1 hT hd (fun h2 s2 => ?_))
  refine lw_icmp_eq (pc := 922) (tgt := 1509) C dL_law_922 (by decide) (fun _ => ?_) (fun q => absurd rfl q)
  exact k h2 σ ⟨hD.ds s2.ds, R1.sr s2, hK, by rw [s2.ds 15 (by omega)]; exact hz⟩
theorem lc_lost (C : CY Y G Lx xs) (hi : i + 6 ≤ Lx) (hL : Lx ≤ 384) (hI : LI h σ) (k : ∀ h' σ', LI h' σ' → LW Y G 1509 [some (.ref 113), some (.ref 0), some (.ref 89), some (.int (nI i))] [] h') : LW Y G 927 [some (.ref 113), some (.ref 0), some (.ref 89), some (.int (nI i))] [] h := by
  obtain ⟨hD, hR, hK, hz⟩ := hI
  have hO := hK.1
  have hN := hK.2
  have hT := hO.1.1
  have hd := hO.1.2
  have hW := hD.1
  have hzz := kp_zz hK
  refine lw_aload_n (pc := 927) (i := 1) C dL_law_927 rfl rfl ?_
  refine lw_arg (pc := 928) (k := 1) C dL_law_928 dL_law_929 dL_law_930 dL_law_931 dL_law_932 rfl (by omega) (by omega) ?_
  refine lw_c1i (pc := 933) (d := 20) C lk_L_110 dL_law_933 (b := 0) rfl rfl rfl (by decide) (sd_lost hW hT (fun h1 s1 => ?_))
  have R1 := hR.rs0 (fun a ha => s1 a (by omega))
  refine lw_aload_n (pc := 936) (i := 2) C dL_law_936 rfl rfl ?_
  refine lw_arg (pc := 937) (k := 1) C dL_law_937 dL_law_938 dL_law_939 dL_law_940 dL_law_941 rfl (by omega) (by omega) ?_
  refine lw_c1i (pc := 942) (d := 20) C lk_L_113 dL_law_942 (b := 89) rfl rfl rfl (by decide) (sr_lost R1.1 R1.2.1 hT hd (fun h2 s2 => ?_))
  refine lw_icmp_eq (pc := 945) (tgt := 1509) C dL_law_945 (by decide) (fun _ => ?_) (fun q => absurd rfl q)
  exact k h2 σ ⟨(hD.sc s1).ds s2.ds, R1.sr s2, hK, by rw [s2.ds 15 (by omega), s1 15 (by omega)]; exact hz⟩
theorem lc_swaps (C : CY Y G Lx xs) (hi : i + 6 ≤ Lx) (hL : Lx ≤ 384) (hI : LI h σ) (k : ∀ h' σ', LI h' σ' → LW Y G 1509 [some (.ref 113), some (.ref 0), some (.ref 89), some (.int (nI i))] [] h') : LW Y G 950 [some (.ref 113), some (.ref 0), some (.ref 89), some (.int (nI i))] [] h := by
  obtain ⟨hD, hR, hK, hz⟩ := hI
  have hO := hK.1
  have hN := hK.2
  have hT := hO.1.1
  have hd := hO.1.2
  have hW := hD.1
  have hzz := kp_zz hK
  refine lw_aload_n (pc := 950) (i := 1) C dL_law_950 rfl rfl ?_
  refine lw_arg (pc := 951) (k := 1) C dL_law_951 dL_law_952 dL_law_953 dL_law_954 dL_law_955 rfl (by omega) (by omega) ?_
  refine lw_arg (pc := 956) (k := 2) C dL_law_956 dL_law_957 dL_law_958 dL_law_959 dL_law_960 rfl (by omega) (by omega) ?_
  refine lw_c2i (pc := 961) (d := 20) C lk_L_114 dL_law_961 (b := 0) rfl rfl rfl (by decide) (sd_swaps hW hT hd (fun h1 s1 => ?_))
  have R1 := hR.rs0 (fun a ha => s1 a (by omega))
  refine lw_aload_n (pc := 964) (i := 2) C dL_law_964 rfl rfl ?_
  refine lw_arg (pc := 965) (k := 1) C dL_law_965 dL_law_966 dL_law_967 dL_law_968 dL_law_969 rfl (by omega) (by omega) ?_
  refine lw_arg (pc := 970) (k := 2) C dL_law_970 dL_law_971 dL_law_972 dL_law_973 dL_law_974 rfl (by omega) (by omega) ?_
  refine lw_c2i (pc := 975) (d := 20) C lk_L_117 dL_law_975 (b := 89) rfl rfl rfl (by decide) (sr_swaps R1.1 R1.2.1 hT hd (fun h2 s2 => ?_))
  refine lw_icmp_eq (pc := 978) (tgt := 1509) C dL_law_978 (by decide) (fun _ => ?_) (fun q => absurd rfl q)
  exact k h2 σ ⟨(hD.sc s1).ds s2.ds, R1.sr s2, hK, by rw [s2.ds 15 (by omega), s1 15 (by omega)]; exact hz⟩
theorem lc_soon (C : CY Y G Lx xs) (hi : i + 6 ≤ Lx) (hL : Lx ≤ 384) (hI : LI h σ) (k : ∀ h' σ', LI h' σ' → LW Y G 1509 [some (.ref 113), some (.ref 0), some (.ref 89), some (.int (nI i))] [] h') : LW Y G 983 [some (.ref 113), some (.ref 0), some (.ref 89), some (.int (nI i))] [] h := by
  obtain ⟨hD, hR, hK, hz⟩ := hI
  have hO := hK.1
  have hN := hK.2
  have hT := hO.1.1
  have hd := hO.1.2
  have hW := hD.1
  have hzz := kp_zz hK
  refine lw_aload_n (pc := 983) (i := 1) C dL_law_983 rfl rfl ?_
  refine lw_arg (pc := 984) (k := 1) C dL_law_984 dL_law_985 dL_law_986 dL_law_987 dL_law_988 rfl (by omega) (by omega) ?_
  refine lw_arg (pc := 989) (k := 2) C dL_law_989 dL_law_990 dL_law_991 dL_law_992 dL_law_993 rfl (by omega) (by omega) ?_
  refine lw_c2i (pc := 994) (d := 20) C lk_L_118 dL_law_994 (b := 0) rfl rfl rfl (by decide) (sd_soon hW hT hzz hd (fun h1 s1 => ?_))
  have R1 := hR.rs0 (fun a ha => s1 a (by omega))
  refine lw_aload_n (pc := 997) (i := 2) C dL_law_997 rfl rfl ?_
  refine lw_arg (pc := 998) (k := 1) C dL_law_998 dL_law_999 dL_law_1000 dL_law_1001 dL_law_1002 rfl (by omega) (by omega) ?_
  refine lw_arg (pc := 1003) (k := 2) C dL_law_1003 dL_law_1004 dL_law_1005 dL_law_1006 dL_law_1007 rfl (by omega) (by omega) ?_
  refine lw_c2i (pc := 1008) (d := 20) C lk_L_121 dL_law_1008 (b := 89) rfl rfl rfl (by decide) (sr_soon R1.1 hT hzz hd (fun h2 s2 => ?_))
  refine lw_icmp_eq (pc := 1011) (tgt := 1509) C dL_law_1011 (by decide) (fun _ => ?_) (fun q => absurd rfl q)
  exact k h2 σ ⟨(hD.sc s1).ds s2.ds, R1.sr s2, hK, by rw [s2.ds 15 (by omega), s1 15 (by omega)]; exact hz⟩
theorem lc_who (C : CY Y G Lx xs) (hi : i + 6 ≤ Lx) (hL : Lx ≤ 384) (hI : LI h σ) (k : ∀ h' σ', LI h' σ' → LW Y G 1509 [some (.ref 113), some (.ref 0), some (.ref 89), some (.int (nI i))] [] h') : LW Y G 1016 [some (.ref 113), some (.ref 0), some (.ref 89), some (.int (nI i))] [] h := by
  obtain ⟨hD, hR, hK, hz⟩ := hI
  have hO := hK.1
  have hN := hK.2
  have hT := hO.1.1
  have hd := hO.1.2
  have hW := hD.1
  have hzz := kp_zz hK
  refine lw_aload_n (pc := 1016) (i := 1) C dL_law_1016 rfl rfl ?_
  refine lw_arg (pc := 1017) (k := 1) C dL_law_1017 dL_law_1018 dL_law_1019 dL_law_1020 dL_law_1021 rfl (by omega) (by omega) ?_
  refine lw_arg (pc := 1022) (k := 2) C dL_law_1022 dL_law_1023 dL_law_1024 dL_law_1025 dL_law_1026 rfl (by omega) (by omega) ?_
  refine lw_arg (pc := 1027) (k := 3) C dL_law_1027 dL_law_1028 dL_law_1029 dL_law_1030 dL_law_1031 rfl (by omega) (by omega) ?_
  refine lw_arg (pc := 1032) (k := 4) C dL_law_1032 dL_law_1033 dL_law_1034 dL_law_1035 dL_law_1036 rfl (by omega) (by omega) ?_
  refine lw_arg (pc := 1037) (k := 5) C dL_law_1037 dL_law_1038 dL_law_1039 dL_law_1040 dL_law_1041 rfl (by omega) (by omega) ?_
  refine lw_c5i (pc := 1042) (d := 20) C lk_L_122 dL_law_1042 (b := 0) rfl rfl rfl (by decide) (sd_who hD hO (fun h1 D1 r1 => ?_))
  have R1 := hR.rs r1
  refine lw_aload_n (pc := 1045) (i := 2) C dL_law_1045 rfl rfl ?_
  refine lw_arg (pc := 1046) (k := 1) C dL_law_1046 dL_law_1047 dL_law_1048 dL_law_1049 dL_law_1050 rfl (by omega) (by omega) ?_
  refine lw_arg (pc := 1051) (k := 2) C dL_law_1051 dL_law_1052 dL_law_1053 dL_law_1054 dL_law_1055 rfl (by omega) (by omega) ?_
  refine lw_arg (pc := 1056) (k := 3) C dL_law_1056 dL_law_1057 dL_law_1058 dL_law_1059 dL_law_1060 rfl (by omega) (by omega) ?_
  refine lw_arg (pc := 1061) (k := 4) C dL_law_1061 dL_law_1062 dL_law_1063 dL_law_1064 dL_law_1065 rfl (by omega) (by omega) ?_
  refine lw_arg (pc := 1066) (k := 5) C dL_law_1066 dL_law_1067 dL_law_1068 dL_law_1069 dL_law_1070 rfl (by omega) (by omega) ?_
  refine lw_c5i (pc := 1071) (d := 20) C lk_L_125 dL_law_1071 (b := 89) rfl rfl rfl (by decide) (sr_who R1 hO (fun h2 R2 d2 => ?_))
  refine lw_icmp_eq (pc := 1074) (tgt := 1509) C dL_law_1074 (by decide) (fun _ => ?_) (fun q => absurd rfl q)
  exact k h2 _ ⟨D1.ds d2, R2, kp_Who hK (xs (i + 1)) (xs (i + 2)) (xs (i + 3)) (xs (i + 4)) (xs (i + 5)), by rw [d2 15 (by omega), r1 15 (Or.inr rfl)]; exact hz⟩
theorem lc_firsts (C : CY Y G Lx xs) (hi : i + 6 ≤ Lx) (hL : Lx ≤ 384) (hI : LI h σ) (k : ∀ h' σ', LI h' σ' → LW Y G 1509 [some (.ref 113), some (.ref 0), some (.ref 89), some (.int (nI i))] [] h') : LW Y G 1079 [some (.ref 113), some (.ref 0), some (.ref 89), some (.int (nI i))] [] h := by
  obtain ⟨hD, hR, hK, hz⟩ := hI
  have hO := hK.1
  have hN := hK.2
  have hT := hO.1.1
  have hd := hO.1.2
  have hW := hD.1
  have hzz := kp_zz hK
  refine lw_aload_n (pc := 1079) (i := 1) C dL_law_1079 rfl rfl ?_
  refine lw_arg (pc := 1080) (k := 1) C dL_law_1080 dL_law_1081 dL_law_1082 dL_law_1083 dL_law_1084 rfl (by omega) (by omega) ?_
  refine lw_arg (pc := 1085) (k := 2) C dL_law_1085 dL_law_1086 dL_law_1087 dL_law_1088 dL_law_1089 rfl (by omega) (by omega) ?_
  refine lw_arg (pc := 1090) (k := 3) C dL_law_1090 dL_law_1091 dL_law_1092 dL_law_1093 dL_law_1094 rfl (by omega) (by omega) ?_
  refine lw_arg (pc := 1095) (k := 4) C dL_law_1095 dL_law_1096 dL_law_1097 dL_law_1098 dL_law_1099 rfl (by omega) (by omega) ?_
  refine lw_arg (pc := 1100) (k := 5) C dL_law_1100 dL_law_1101 dL_law_1102 dL_law_1103 dL_law_1104 rfl (by omega) (by omega) ?_
  refine lw_c5i (pc := 1105) (d := 20) C lk_L_126 dL_law_1105 (b := 0) rfl rfl rfl (by decide) (sd_firsts hD hO (fun h1 D1 r1 => ?_))
  have R1 := hR.rs r1
  refine lw_aload_n (pc := 1108) (i := 2) C dL_law_1108 rfl rfl ?_
  refine lw_arg (pc := 1109) (k := 1) C dL_law_1109 dL_law_1110 dL_law_1111 dL_law_1112 dL_law_1113 rfl (by omega) (by omega) ?_
  refine lw_arg (pc := 1114) (k := 2) C dL_law_1114 dL_law_1115 dL_law_1116 dL_law_1117 dL_law_1118 rfl (by omega) (by omega) ?_
  refine lw_arg (pc := 1119) (k := 3) C dL_law_1119 dL_law_1120 dL_law_1121 dL_law_1122 dL_law_1123 rfl (by omega) (by omega) ?_
  refine lw_arg (pc := 1124) (k := 4) C dL_law_1124 dL_law_1125 dL_law_1126 dL_law_1127 dL_law_1128 rfl (by omega) (by omega) ?_
  refine lw_arg (pc := 1129) (k := 5) C dL_law_1129 dL_law_1130 dL_law_1131 dL_law_1132 dL_law_1133 rfl (by omega) (by omega) ?_
  refine lw_c5i (pc := 1134) (d := 20) C lk_L_129 dL_law_1134 (b := 89) rfl rfl rfl (by decide) (sr_firsts R1 hO (fun h2 R2 d2 => ?_))
  refine lw_icmp_eq (pc := 1137) (tgt := 1509) C dL_law_1137 (by decide) (fun _ => ?_) (fun q => absurd rfl q)
  exact k h2 _ ⟨D1.ds d2, R2, kp_Firsts hK (xs (i + 1)) (xs (i + 2)) (xs (i + 3)) (xs (i + 4)) (xs (i + 5)), by rw [d2 15 (by omega), r1 15 (Or.inr rfl)]; exact hz⟩
theorem lc_steps (C : CY Y G Lx xs) (hi : i + 6 ≤ Lx) (hL : Lx ≤ 384) (hI : LI h σ) (k : ∀ h' σ', LI h' σ' → LW Y G 1509 [some (.ref 113), some (.ref 0), some (.ref 89), some (.int (nI i))] [] h') : LW Y G 1142 [some (.ref 113), some (.ref 0), some (.ref 89), some (.int (nI i))] [] h := by
  obtain ⟨hD, hR, hK, hz⟩ := hI
  have hO := hK.1
  have hN := hK.2
  have hT := hO.1.1
  have hd := hO.1.2
  have hW := hD.1
  have hzz := kp_zz hK
  refine lw_aload_n (pc := 1142) (i := 1) C dL_law_1142 rfl rfl ?_
  refine lw_arg (pc := 1143) (k := 1) C dL_law_1143 dL_law_1144 dL_law_1145 dL_law_1146 dL_law_1147 rfl (by omega) (by omega) ?_
  refine lw_arg (pc := 1148) (k := 2) C dL_law_1148 dL_law_1149 dL_law_1150 dL_law_1151 dL_law_1152 rfl (by omega) (by omega) ?_
  refine lw_arg (pc := 1153) (k := 3) C dL_law_1153 dL_law_1154 dL_law_1155 dL_law_1156 dL_law_1157 rfl (by omega) (by omega) ?_
  refine lw_arg (pc := 1158) (k := 4) C dL_law_1158 dL_law_1159 dL_law_1160 dL_law_1161 dL_law_1162 rfl (by omega) (by omega) ?_
  refine lw_arg (pc := 1163) (k := 5) C dL_law_1163 dL_law_1164 dL_law_1165 dL_law_1166 dL_law_1167 rfl (by omega) (by omega) ?_
  refine lw_c5i (pc := 1168) (d := 20) C lk_L_130 dL_law_1168 (b := 0) rfl rfl rfl (by decide) (sd_steps hD hO (fun h1 D1 r1 => ?_))
  have R1 := hR.rs r1
  refine lw_aload_n (pc := 1171) (i := 2) C dL_law_1171 rfl rfl ?_
  refine lw_arg (pc := 1172) (k := 1) C dL_law_1172 dL_law_1173 dL_law_1174 dL_law_1175 dL_law_1176 rfl (by omega) (by omega) ?_
  refine lw_arg (pc := 1177) (k := 2) C dL_law_1177 dL_law_1178 dL_law_1179 dL_law_1180 dL_law_1181 rfl (by omega) (by omega) ?_
  refine lw_arg (pc := 1182) (k := 3) C dL_law_1182 dL_law_1183 dL_law_1184 dL_law_1185 dL_law_1186 rfl (by omega) (by omega) ?_
  refine lw_arg (pc := 1187) (k := 4) C dL_law_1187 dL_law_1188 dL_law_1189 dL_law_1190 dL_law_1191 rfl (by omega) (by omega) ?_
  refine lw_arg (pc := 1192) (k := 5) C dL_law_1192 dL_law_1193 dL_law_1194 dL_law_1195 dL_law_1196 rfl (by omega) (by omega) ?_
  refine lw_c5i (pc := 1197) (d := 20) C lk_L_133 dL_law_1197 (b := 89) rfl rfl rfl (by decide) (sr_steps R1 hO (fun h2 R2 d2 => ?_))
  refine lw_icmp_eq (pc := 1200) (tgt := 1509) C dL_law_1200 (by decide) (fun _ => ?_) (fun q => absurd rfl q)
  exact k h2 _ ⟨D1.ds d2, R2, kp_Steps hK (xs (i + 1)) (xs (i + 2)) (xs (i + 3)) (xs (i + 4)) (xs (i + 5)), by rw [d2 15 (by omega), r1 15 (Or.inr rfl)]; exact hz⟩
theorem lc_even (C : CY Y G Lx xs) (hi : i + 6 ≤ Lx) (hL : Lx ≤ 384) (hI : LI h σ) (k : ∀ h' σ', LI h' σ' → LW Y G 1509 [some (.ref 113), some (.ref 0), some (.ref 89), some (.int (nI i))] [] h') : LW Y G 1205 [some (.ref 113), some (.ref 0), some (.ref 89), some (.int (nI i))] [] h := by
  obtain ⟨hD, hR, hK, hz⟩ := hI
  have hO := hK.1
  have hN := hK.2
  have hT := hO.1.1
  have hd := hO.1.2
  have hW := hD.1
  have hzz := kp_zz hK
  refine lw_aload_n (pc := 1205) (i := 1) C dL_law_1205 rfl rfl ?_
  refine lw_arg (pc := 1206) (k := 1) C dL_law_1206 dL_law_1207 dL_law_1208 dL_law_1209 dL_law_1210 rfl (by omega) (by omega) ?_
  refine lw_c1i (pc := 1211) (d := 20) C lk_L_134 dL_law_1211 (b := 0) rfl rfl rfl (by decide) (sd_even hW hT hd (fun h1 s1 => ?_))
  have R1 := hR.rs0 (fun a ha => s1 a (by omega))
  refine lw_aload_n (pc := 1214) (i := 2) C dL_law_1214 rfl rfl ?_
  refine lw_arg (pc := 1215) (k := 1) C dL_law_1215 dL_law_1216 dL_law_1217 dL_law_1218 dL_law_1219 rfl (by omega) (by omega) ?_
  refine lw_c1i (pc := 1220) (d := 20) C lk_L_137 dL_law_1220 (b := 89) rfl rfl rfl (by decide) (sr_even R1.1 R1.2.1 hT hd (fun h2 s2 => ?_))
  refine lw_icmp_eq (pc := 1223) (tgt := 1509) C dL_law_1223 (by decide) (fun _ => ?_) (fun q => absurd rfl q)
  exact k h2 σ ⟨(hD.sc s1).ds s2.ds, R1.sr s2, hK, by rw [s2.ds 15 (by omega), s1 15 (by omega)]; exact hz⟩
theorem lc_fever (C : CY Y G Lx xs) (hi : i + 6 ≤ Lx) (hL : Lx ≤ 384) (hI : LI h σ) (k : ∀ h' σ', LI h' σ' → LW Y G 1509 [some (.ref 113), some (.ref 0), some (.ref 89), some (.int (nI i))] [] h') : LW Y G 1228 [some (.ref 113), some (.ref 0), some (.ref 89), some (.int (nI i))] [] h := by
  obtain ⟨hD, hR, hK, hz⟩ := hI
  have hO := hK.1
  have hN := hK.2
  have hT := hO.1.1
  have hd := hO.1.2
  have hW := hD.1
  have hzz := kp_zz hK
  refine lw_aload_n (pc := 1228) (i := 1) C dL_law_1228 rfl rfl ?_
  refine lw_arg (pc := 1229) (k := 1) C dL_law_1229 dL_law_1230 dL_law_1231 dL_law_1232 dL_law_1233 rfl (by omega) (by omega) ?_
  refine lw_arg (pc := 1234) (k := 2) C dL_law_1234 dL_law_1235 dL_law_1236 dL_law_1237 dL_law_1238 rfl (by omega) (by omega) ?_
  refine lw_arg (pc := 1239) (k := 3) C dL_law_1239 dL_law_1240 dL_law_1241 dL_law_1242 dL_law_1243 rfl (by omega) (by omega) ?_
  refine lw_c3j (pc := 1244) (d := 20) C lk_L_138 dL_law_1244 (b := 0) rfl rfl rfl (by decide) (sd_fever hW hT (fun h1 s1 => ?_))
  have R1 := hR.rs0 (fun a ha => s1 a (by omega))
  refine lw_aload_n (pc := 1247) (i := 2) C dL_law_1247 rfl rfl ?_
  refine lw_arg (pc := 1248) (k := 1) C dL_law_1248 dL_law_1249 dL_law_1250 dL_law_1251 dL_law_1252 rfl (by omega) (by omega) ?_
  refine lw_arg (pc := 1253) (k := 2) C dL_law_1253 dL_law_1254 dL_law_1255 dL_law_1256 dL_law_1257 rfl (by omega) (by omega) ?_
  refine lw_arg (pc := 1258) (k := 3) C dL_law_1258 dL_law_1259 dL_law_1260 dL_law_1261 dL_law_1262 rfl (by omega) (by omega) ?_
  refine lw_c3j (pc := 1263) (d := 20) C lk_L_142 dL_law_1263 (b := 89) rfl rfl rfl (by decide) (sr_fever R1.1 hT (fun h2 s2 => ?_))
  refine lw_lcmp (pc := 1266) C dL_law_1266 ?_
  refine lw_if_eq (pc := 1267) (tgt := 1509) C dL_law_1267 (by decide) (fun _ => ?_) (fun q => absurd ((lg_cmp_eq _ _).mpr rfl) q)
  exact k h2 σ ⟨(hD.sc s1).ds s2.ds, R1.sr s2, hK, by rw [s2.ds 15 (by omega), s1 15 (by omega)]; exact hz⟩
theorem lc_drawn (C : CY Y G Lx xs) (hi : i + 6 ≤ Lx) (hL : Lx ≤ 384) (hI : LI h σ) (k : ∀ h' σ', LI h' σ' → LW Y G 1509 [some (.ref 113), some (.ref 0), some (.ref 89), some (.int (nI i))] [] h') : LW Y G 1272 [some (.ref 113), some (.ref 0), some (.ref 89), some (.int (nI i))] [] h := by
  obtain ⟨hD, hR, hK, hz⟩ := hI
  have hO := hK.1
  have hN := hK.2
  have hT := hO.1.1
  have hd := hO.1.2
  have hW := hD.1
  have hzz := kp_zz hK
  refine lw_aload_n (pc := 1272) (i := 1) C dL_law_1272 rfl rfl ?_
  refine lw_arg (pc := 1273) (k := 1) C dL_law_1273 dL_law_1274 dL_law_1275 dL_law_1276 dL_law_1277 rfl (by omega) (by omega) ?_
  refine lw_arg (pc := 1278) (k := 2) C dL_law_1278 dL_law_1279 dL_law_1280 dL_law_1281 dL_law_1282 rfl (by omega) (by omega) ?_
  refine lw_arg (pc := 1283) (k := 3) C dL_law_1283 dL_law_1284 dL_law_1285 dL_law_1286 dL_law_1287 rfl (by omega) (by omega) ?_
  refine lw_c3i (pc := 1288) (d := 20) C lk_L_143 dL_law_1288 (b := 0) rfl rfl rfl (by decide) (sd_drawn hW hT hd (fun h1 s1 => ?_))
  have R1 := hR.rs0 (fun a ha => s1 a (by omega))
  refine lw_aload_n (pc := 1291) (i := 2) C dL_law_1291 rfl rfl ?_
  refine lw_arg (pc := 1292) (k := 1) C dL_law_1292 dL_law_1293 dL_law_1294 dL_law_1295 dL_law_1296 rfl (by omega) (by omega) ?_
  refine lw_arg (pc := 1297) (k := 2) C dL_law_1297 dL_law_1298 dL_law_1299 dL_law_1300 dL_law_1301 rfl (by omega) (by omega) ?_
  refine lw_arg (pc := 1302) (k := 3) C dL_law_1302 dL_law_1303 dL_law_1304 dL_law_1305 dL_law_1306 rfl (by omega) (by omega) ?_
  refine lw_c3i (pc := 1307) (d := 20) C lk_L_146 dL_law_1307 (b := 89) rfl rfl rfl (by decide) (sr_drawn R1.1 R1.2.1 hT hd (fun h2 s2 => ?_))
  refine lw_icmp_eq (pc := 1310) (tgt := 1509) C dL_law_1310 (by decide) (fun _ => ?_) (fun q => absurd rfl q)
  exact k h2 σ ⟨(hD.sc s1).ds s2.ds, R1.sr s2, hK, by rw [s2.ds 15 (by omega), s1 15 (by omega)]; exact hz⟩
theorem lc_image (C : CY Y G Lx xs) (hi : i + 6 ≤ Lx) (hL : Lx ≤ 384) (hI : LI h σ) (k : ∀ h' σ', LI h' σ' → LW Y G 1509 [some (.ref 113), some (.ref 0), some (.ref 89), some (.int (nI i))] [] h') : LW Y G 1315 [some (.ref 113), some (.ref 0), some (.ref 89), some (.int (nI i))] [] h := by
  obtain ⟨hD, hR, hK, hz⟩ := hI
  have hO := hK.1
  have hN := hK.2
  have hT := hO.1.1
  have hd := hO.1.2
  have hW := hD.1
  have hzz := kp_zz hK
  refine lw_aload_n (pc := 1315) (i := 1) C dL_law_1315 rfl rfl ?_
  refine lw_arg (pc := 1316) (k := 1) C dL_law_1316 dL_law_1317 dL_law_1318 dL_law_1319 dL_law_1320 rfl (by omega) (by omega) ?_
  refine lw_c1i (pc := 1321) (d := 20) C lk_L_147 dL_law_1321 (b := 0) rfl rfl rfl (by decide) (sd_image hD hT (fun h1 D1 r1 => ?_))
  have R1 := hR.rs r1
  refine lw_aload_n (pc := 1324) (i := 2) C dL_law_1324 rfl rfl ?_
  refine lw_arg (pc := 1325) (k := 1) C dL_law_1325 dL_law_1326 dL_law_1327 dL_law_1328 dL_law_1329 rfl (by omega) (by omega) ?_
  refine lw_c1i (pc := 1330) (d := 20) C lk_L_150 dL_law_1330 (b := 89) rfl rfl rfl (by decide) (sr_image R1 (fun h2 R2 d2 => ?_))
  refine lw_icmp_eq (pc := 1333) (tgt := 1509) C dL_law_1333 (by decide) (fun _ => ?_) (fun q => absurd rfl q)
  exact k h2 _ ⟨D1.ds d2, R2, kp_Image hK (xs (i + 1)), by rw [d2 15 (by omega), r1 15 (Or.inr rfl)]; exact hz⟩
theorem lc_restore (C : CY Y G Lx xs) (hi : i + 6 ≤ Lx) (hL : Lx ≤ 384) (hI : LI h σ) (k : ∀ h' σ', LI h' σ' → LW Y G 1509 [some (.ref 113), some (.ref 0), some (.ref 89), some (.int (nI i))] [] h') : LW Y G 1338 [some (.ref 113), some (.ref 0), some (.ref 89), some (.int (nI i))] [] h := by
  obtain ⟨hD, hR, hK, hz⟩ := hI
  have hO := hK.1
  have hN := hK.2
  have hT := hO.1.1
  have hd := hO.1.2
  have hW := hD.1
  have hzz := kp_zz hK
  refine lw_aload_n (pc := 1338) (i := 1) C dL_law_1338 rfl rfl ?_
  refine lw_arg (pc := 1339) (k := 1) C dL_law_1339 dL_law_1340 dL_law_1341 dL_law_1342 dL_law_1343 rfl (by omega) (by omega) ?_
  refine lw_c1i (pc := 1344) (d := 20) C lk_L_151 dL_law_1344 (b := 0) rfl rfl rfl (by decide) (sd_restore hD hO (fun h1 D1 r1 => ?_))
  have R1 := hR.rs r1
  refine lw_aload_n (pc := 1347) (i := 2) C dL_law_1347 rfl rfl ?_
  refine lw_arg (pc := 1348) (k := 1) C dL_law_1348 dL_law_1349 dL_law_1350 dL_law_1351 dL_law_1352 rfl (by omega) (by omega) ?_
  refine lw_c1i (pc := 1353) (d := 20) C lk_L_154 dL_law_1353 (b := 89) rfl rfl rfl (by decide) (sr_restore R1 hO hN (fun h2 R2 d2 => ?_))
  refine lw_icmp_eq (pc := 1356) (tgt := 1509) C dL_law_1356 (by decide) (fun _ => ?_) (fun q => absurd rfl q)
  exact k h2 _ ⟨D1.ds d2, R2, kp_Restore hK (xs (i + 1)), by rw [d2 15 (by omega), r1 15 (Or.inr rfl)]; exact hz⟩
theorem lc_kind (C : CY Y G Lx xs) (hi : i + 6 ≤ Lx) (hL : Lx ≤ 384) (hI : LI h σ) (k : ∀ h' σ', LI h' σ' → LW Y G 1509 [some (.ref 113), some (.ref 0), some (.ref 89), some (.int (nI i))] [] h') : LW Y G 1361 [some (.ref 113), some (.ref 0), some (.ref 89), some (.int (nI i))] [] h := by
  obtain ⟨hD, hR, hK, hz⟩ := hI
  have hO := hK.1
  have hN := hK.2
  have hT := hO.1.1
  have hd := hO.1.2
  have hW := hD.1
  have hzz := kp_zz hK
  refine lw_aload_n (pc := 1361) (i := 1) C dL_law_1361 rfl rfl ?_
  refine lw_arg (pc := 1362) (k := 1) C dL_law_1362 dL_law_1363 dL_law_1364 dL_law_1365 dL_law_1366 rfl (by omega) (by omega) ?_
  refine lw_c1i (pc := 1367) (d := 20) C lk_L_155 dL_law_1367 (b := 0) rfl rfl rfl (by decide) (sd_kind hW hT ?_)
  have R1 := hR
  refine lw_aload_n (pc := 1370) (i := 2) C dL_law_1370 rfl rfl ?_
  refine lw_arg (pc := 1371) (k := 1) C dL_law_1371 dL_law_1372 dL_law_1373 dL_law_1374 dL_law_1375 rfl (by omega) (by omega) ?_
  refine lw_c1i (pc := 1376) (d := 20) C lk_L_158 dL_law_1376 (b := 89) rfl rfl rfl (by decide) (sr_kind R1.1 hT ?_)
  refine lw_icmp_eq (pc := 1379) (tgt := 1509) C dL_law_1379 (by decide) (fun _ => ?_) (fun q => absurd rfl q)
  exact k h σ ⟨hD, R1, hK, hz⟩
theorem lc_as (C : CY Y G Lx xs) (hi : i + 6 ≤ Lx) (hL : Lx ≤ 384) (hI : LI h σ) (k : ∀ h' σ', LI h' σ' → LW Y G 1509 [some (.ref 113), some (.ref 0), some (.ref 89), some (.int (nI i))] [] h') : LW Y G 1384 [some (.ref 113), some (.ref 0), some (.ref 89), some (.int (nI i))] [] h := by
  obtain ⟨hD, hR, hK, hz⟩ := hI
  have hO := hK.1
  have hN := hK.2
  have hT := hO.1.1
  have hd := hO.1.2
  have hW := hD.1
  have hzz := kp_zz hK
  refine lw_aload_n (pc := 1384) (i := 1) C dL_law_1384 rfl rfl ?_
  refine lw_arg (pc := 1385) (k := 1) C dL_law_1385 dL_law_1386 dL_law_1387 dL_law_1388 dL_law_1389 rfl (by omega) (by omega) ?_
  refine lw_arg (pc := 1390) (k := 2) C dL_law_1390 dL_law_1391 dL_law_1392 dL_law_1393 dL_law_1394 rfl (by omega) (by omega) ?_
  refine lw_c2i (pc := 1395) (d := 20) C lk_L_159 dL_law_1395 (b := 0) rfl rfl rfl (by decide) (sd_as hD hT (fun h1 D1 r1 => ?_))
  have R1 := hR.rs r1
  refine lw_aload_n (pc := 1398) (i := 2) C dL_law_1398 rfl rfl ?_
  refine lw_arg (pc := 1399) (k := 1) C dL_law_1399 dL_law_1400 dL_law_1401 dL_law_1402 dL_law_1403 rfl (by omega) (by omega) ?_
  refine lw_arg (pc := 1404) (k := 2) C dL_law_1404 dL_law_1405 dL_law_1406 dL_law_1407 dL_law_1408 rfl (by omega) (by omega) ?_
  refine lw_c2i (pc := 1409) (d := 20) C lk_L_162 dL_law_1409 (b := 89) rfl rfl rfl (by decide) (sr_as R1 hT (fun h2 R2 d2 => ?_))
  refine lw_icmp_eq (pc := 1412) (tgt := 1509) C dL_law_1412 (by decide) (fun _ => ?_) (fun q => absurd rfl q)
  exact k h2 _ ⟨D1.ds d2, R2, kp_As hK (xs (i + 1)) (xs (i + 2)), by rw [d2 15 (by omega), r1 15 (Or.inr rfl)]; exact hz⟩
theorem lc_ask (C : CY Y G Lx xs) (hi : i + 6 ≤ Lx) (hL : Lx ≤ 384) (hI : LI h σ) (k : ∀ h' σ', LI h' σ' → LW Y G 1509 [some (.ref 113), some (.ref 0), some (.ref 89), some (.int (nI i))] [] h') : LW Y G 1417 [some (.ref 113), some (.ref 0), some (.ref 89), some (.int (nI i))] [] h := by
  obtain ⟨hD, hR, hK, hz⟩ := hI
  have hO := hK.1
  have hN := hK.2
  have hT := hO.1.1
  have hd := hO.1.2
  have hW := hD.1
  have hzz := kp_zz hK
  refine lw_aload_n (pc := 1417) (i := 1) C dL_law_1417 rfl rfl ?_
  refine lw_arg (pc := 1418) (k := 1) C dL_law_1418 dL_law_1419 dL_law_1420 dL_law_1421 dL_law_1422 rfl (by omega) (by omega) ?_
  refine lw_arg (pc := 1423) (k := 2) C dL_law_1423 dL_law_1424 dL_law_1425 dL_law_1426 dL_law_1427 rfl (by omega) (by omega) ?_
  refine lw_c2i (pc := 1428) (d := 20) C lk_L_163 dL_law_1428 (b := 0) rfl rfl rfl (by decide) (sd_ask hD hT (fun h1 D1 r1 => ?_))
  have R1 := hR.rs r1
  refine lw_aload_n (pc := 1431) (i := 2) C dL_law_1431 rfl rfl ?_
  refine lw_arg (pc := 1432) (k := 1) C dL_law_1432 dL_law_1433 dL_law_1434 dL_law_1435 dL_law_1436 rfl (by omega) (by omega) ?_
  refine lw_arg (pc := 1437) (k := 2) C dL_law_1437 dL_law_1438 dL_law_1439 dL_law_1440 dL_law_1441 rfl (by omega) (by omega) ?_
  refine lw_c2i (pc := 1442) (d := 20) C lk_L_166 dL_law_1442 (b := 89) rfl rfl rfl (by decide) (sr_ask R1 hT (fun h2 R2 d2 => ?_))
  refine lw_icmp_eq (pc := 1445) (tgt := 1509) C dL_law_1445 (by decide) (fun _ => ?_) (fun q => absurd rfl q)
  exact k h2 _ ⟨D1.ds d2, R2, kp_Ask hK (xs (i + 1)) (xs (i + 2)), by rw [d2 15 (by omega), r1 15 (Or.inr rfl)]; exact hz⟩
theorem lc_trace (C : CY Y G Lx xs) (hi : i + 6 ≤ Lx) (hL : Lx ≤ 384) (hI : LI h σ) (k : ∀ h' σ', LI h' σ' → LW Y G 1509 [some (.ref 113), some (.ref 0), some (.ref 89), some (.int (nI i))] [] h') : LW Y G 1450 [some (.ref 113), some (.ref 0), some (.ref 89), some (.int (nI i))] [] h := by
  obtain ⟨hD, hR, hK, hz⟩ := hI
  have hO := hK.1
  have hN := hK.2
  have hT := hO.1.1
  have hd := hO.1.2
  have hW := hD.1
  have hzz := kp_zz hK
  refine lw_aload_n (pc := 1450) (i := 1) C dL_law_1450 rfl rfl ?_
  refine lw_arg (pc := 1451) (k := 1) C dL_law_1451 dL_law_1452 dL_law_1453 dL_law_1454 dL_law_1455 rfl (by omega) (by omega) ?_
  refine lw_c1i (pc := 1456) (d := 20) C lk_L_167 dL_law_1456 (b := 0) rfl rfl rfl (by decide) (sd_trace hD hO ?_)
  have R1 := hR
  refine lw_aload_n (pc := 1459) (i := 2) C dL_law_1459 rfl rfl ?_
  refine lw_arg (pc := 1460) (k := 1) C dL_law_1460 dL_law_1461 dL_law_1462 dL_law_1463 dL_law_1464 rfl (by omega) (by omega) ?_
  refine lw_c1i (pc := 1465) (d := 20) C lk_L_170 dL_law_1465 (b := 89) rfl rfl rfl (by decide) (sr_trace R1 hO ?_)
  refine lw_icmp_eq (pc := 1468) (tgt := 1509) C dL_law_1468 (by decide) (fun _ => ?_) (fun q => absurd rfl q)
  exact k h σ ⟨hD, R1, hK, hz⟩
theorem lc_count (C : CY Y G Lx xs) (hi : i + 6 ≤ Lx) (hL : Lx ≤ 384) (hI : LI h σ) (k : ∀ h' σ', LI h' σ' → LW Y G 1509 [some (.ref 113), some (.ref 0), some (.ref 89), some (.int (nI i))] [] h') : LW Y G 1473 [some (.ref 113), some (.ref 0), some (.ref 89), some (.int (nI i))] [] h := by
  obtain ⟨hD, hR, hK, hz⟩ := hI
  have hO := hK.1
  have hN := hK.2
  have hT := hO.1.1
  have hd := hO.1.2
  have hW := hD.1
  have hzz := kp_zz hK
  refine lw_aload_n (pc := 1473) (i := 1) C dL_law_1473 rfl rfl ?_
  refine lw_arg (pc := 1474) (k := 1) C dL_law_1474 dL_law_1475 dL_law_1476 dL_law_1477 dL_law_1478 rfl (by omega) (by omega) ?_
  refine lw_c1i (pc := 1479) (d := 20) C lk_L_171 dL_law_1479 (b := 0) rfl rfl rfl (by decide) (sd_count hD hO ?_)
  have R1 := hR
  refine lw_aload_n (pc := 1482) (i := 2) C dL_law_1482 rfl rfl ?_
  refine lw_arg (pc := 1483) (k := 1) C dL_law_1483 dL_law_1484 dL_law_1485 dL_law_1486 dL_law_1487 rfl (by omega) (by omega) ?_
  refine lw_c1i (pc := 1488) (d := 20) C lk_L_174 dL_law_1488 (b := 89) rfl rfl rfl (by decide) (sr_count R1 hO ?_)
  refine lw_icmp_eq (pc := 1491) (tgt := 1509) C dL_law_1491 (by decide) (fun _ => ?_) (fun q => absurd rfl q)
  exact k h σ ⟨hD, R1, hK, hz⟩
theorem lc_status (C : CY Y G Lx xs) (hi : i + 6 ≤ Lx) (hL : Lx ≤ 384) (hI : LI h σ) (k : ∀ h' σ', LI h' σ' → LW Y G 1509 [some (.ref 113), some (.ref 0), some (.ref 89), some (.int (nI i))] [] h') : LW Y G 1496 [some (.ref 113), some (.ref 0), some (.ref 89), some (.int (nI i))] [] h := by
  obtain ⟨hD, hR, hK, hz⟩ := hI
  have hO := hK.1
  have hN := hK.2
  have hT := hO.1.1
  have hd := hO.1.2
  have hW := hD.1
  have hzz := kp_zz hK
  refine lw_aload_n (pc := 1496) (i := 1) C dL_law_1496 rfl rfl ?_
  refine lw_c0i (pc := 1497) (d := 20) C lk_L_175 dL_law_1497 (b := 0) rfl rfl rfl (by decide) (sd_status hD ?_)
  have R1 := hR
  refine lw_aload_n (pc := 1500) (i := 2) C dL_law_1500 rfl rfl ?_
  refine lw_c0i (pc := 1501) (d := 20) C lk_L_178 dL_law_1501 (b := 89) rfl rfl rfl (by decide) (sr_status R1 ?_)
  refine lw_icmp_eq (pc := 1504) (tgt := 1509) C dL_law_1504 (by decide) (fun _ => ?_) (fun q => absurd rfl q)
  exact k h σ ⟨hD, R1, hK, hz⟩
end LCASES
