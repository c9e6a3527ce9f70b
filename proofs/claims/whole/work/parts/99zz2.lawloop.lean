section LAWLOOP
variable {D : va_G} {ty : Nat → ClassId} {b : Bs} {p : Program} {l : Launch} {e : Env} {s : State} {mm : MethodId} {bs : Nat} {below : List Frame} {meth : Method} {c : Code} {Ln : Nat} {xs : Nat → Int32}
abbrev LLs (i : Nat) : List (Option Value) := [some (.retAddr 200), some (.ref 0), some (.ref 274), some (.int (nI i))]
theorem Rl.o0 {M : Nat} {m : Me} (h : Rl M m) : Is m.1 0 (0, 11) := by
  obtain ⟨P, pl, dr, lv, k⟩ := h
  exact k.cx.o
theorem Rl.o1 {M : Nat} {m : Me} (h : Rl M m) : m.1 = 328 := by
  obtain ⟨P, pl, dr, lv, k⟩ := h
  exact k.1
theorem Rl.le {M M' : Nat} {m : Me} (h : Rl M m) (q : M ≤ M') : Rl M' m := by
  obtain ⟨P, pl, dr, lv, k⟩ := h
  exact ⟨P, pl, dr, lv, k.le q⟩
theorem x63 (x : Int32) : ∃ q, q < 64 ∧ x &&& nI 63 = nI q := by
  refine ⟨(x &&& nI 63).toBitVec.toNat, ?_, ?_⟩
  · show (x.toBitVec &&& 63#32).toNat < 64
    rw [BitVec.toNat_and]
    exact Nat.lt_of_le_of_lt Nat.and_le_right (by decide)
  · apply Int32.toBitVec_inj.mp
    show _ = BitVec.ofNat 32 _
    rw [BitVec.ofNat_toNat, BitVec.setWidth_eq]
theorem nI_le6 {a n : Nat} (ha : a ≤ 4000) (hn : n ≤ 3072) (h : ¬ nI n - nI 6 < nI a) : a + 6 ≤ n := by
  have ea : (nI a).toInt = (a : Int) := Int32.toInt_ofNat_of_lt (by omega)
  by_cases h6 : 6 ≤ n
  · rw [pk_sub h6] at h
    have en : (nI (n - 6)).toInt = ((n - 6 : Nat) : Int) := Int32.toInt_ofNat_of_lt (by omega)
    have h2 : ¬ (nI (n - 6)).toInt < (nI a).toInt := fun q => h (Int32.lt_iff_toInt_lt.mpr q)
    omega
  · exfalso
    apply h
    rw [Int32.lt_iff_toInt_lt, ea]
    have hlt : (nI n - nI 6).toInt < 0 := by
      rcases (show n = 0 ∨ n = 1 ∨ n = 2 ∨ n = 3 ∨ n = 4 ∨ n = 5 by omega) with h | h | h | h | h | h <;> subst h <;> decide
    omega
set_option maxRecDepth 100000 in
theorem law_0 (C : Cx mL D ty b p s mm #[Value.ref bs] meth c) (X : Scr b s bs Ln xs) {m : Me} {M i : Nat} (h : Rl M m) (hM : M < 2 ^ 18) (hi : i + 6 ≤ Ln) (hn : Ln ≤ 3072) (next : ∀ m2, Rl (M + 48) m2 → GL D ty b p l e s mm bs below meth c 1410 (LLs i) [] m2 328 27773) : GL D ty b p l e s mm bs below meth c 192 (LLs i) [] m 328 27773 := by
  refine gl_aload_n C (q := 1) (i := 1) rfl rfl dL_law_192 ?_
  refine gl_arg C X (kk := 1) rfl rfl rfl (by omega) hn dL_law_193 dL_law_194 dL_law_195 dL_law_196 dL_law_197 ?_
  refine gl_arg C X (kk := 2) rfl rfl rfl (by omega) hn dL_law_198 dL_law_199 dL_law_200 dL_law_201 dL_law_202 ?_
  refine gl_arg C X (kk := 3) rfl rfl rfl (by omega) hn dL_law_203 dL_law_204 dL_law_205 dL_law_206 dL_law_207 ?_
  refine gl_arg C X (kk := 4) rfl rfl rfl (by omega) hn dL_law_208 dL_law_209 dL_law_210 dL_law_211 dL_law_212 ?_
  refine gl_arg C X (kk := 5) rfl rfl rfl (by omega) hn dL_law_213 dL_law_214 dL_law_215 dL_law_216 dL_law_217 ?_
  refine gl_callV C okmX11_feed lmL_13 ⟨nle rfl, nle rfl⟩ h.o0 ⟨by decide, rfl⟩ (pr_feed h hM) npmX11_feed rfl (nle rfl) ⟨nle rfl, nle rfl⟩ dL_law_218 ?_
  rintro _ m1 hle ⟨v, rfl, hE⟩
  refine gl_c1 ?_
  refine gl_aload_n C (q := 2) (i := 2) rfl rfl dL_law_221 ?_
  refine gl_arg C X (kk := 1) rfl rfl rfl (by omega) hn dL_law_222 dL_law_223 dL_law_224 dL_law_225 dL_law_226 ?_
  refine gl_arg C X (kk := 2) rfl rfl rfl (by omega) hn dL_law_227 dL_law_228 dL_law_229 dL_law_230 dL_law_231 ?_
  refine gl_arg C X (kk := 3) rfl rfl rfl (by omega) hn dL_law_232 dL_law_233 dL_law_234 dL_law_235 dL_law_236 ?_
  refine gl_arg C X (kk := 4) rfl rfl rfl (by omega) hn dL_law_237 dL_law_238 dL_law_239 dL_law_240 dL_law_241 ?_
  refine gl_arg C X (kk := 5) rfl rfl rfl (by omega) hn dL_law_242 dL_law_243 dL_law_244 dL_law_245 dL_law_246 ?_
  have hw : Is m1.1 274 (0, 12) := ⟨by decide +kernel, by have := h.o1; omega⟩
  refine gl_callV C okmX12_feed lmL_17 ⟨nle rfl, nle rfl⟩ hw ⟨by decide, rfl⟩ hE npmX12_feed rfl (nle rfl) ⟨nle rfl, nle rfl⟩ dL_law_247 ?_
  rintro _ m2 - ⟨rfl, h2⟩
  refine gl_c1 ?_
  exact gl_icmp_eq C (tgt := 1410) dL_law_250 (by decide) (fun _ => next m2 h2) (fun hv => absurd rfl hv)
set_option maxRecDepth 100000 in
theorem law_1 (C : Cx mL D ty b p s mm #[Value.ref bs] meth c) (X : Scr b s bs Ln xs) {m : Me} {M i : Nat} (h : Rl M m) (hM : M < 2 ^ 18) (hi : i + 6 ≤ Ln) (hn : Ln ≤ 3072) (next : ∀ m2, Rl (M + 48) m2 → GL D ty b p l e s mm bs below meth c 1410 (LLs i) [] m2 328 27773) : GL D ty b p l e s mm bs below meth c 255 (LLs i) [] m 328 27773 := by
  refine gl_aload_n C (q := 1) (i := 1) rfl rfl dL_law_255 ?_
  refine gl_arg C X (kk := 1) rfl rfl rfl (by omega) hn dL_law_256 dL_law_257 dL_law_258 dL_law_259 dL_law_260 ?_
  refine gl_callV C okmX11_back lmL_18 ⟨nle rfl, nle rfl⟩ h.o0 ⟨by decide, rfl⟩ (pr_back h hM) npmX11_back rfl (nle rfl) ⟨nle rfl, nle rfl⟩ dL_law_261 ?_
  rintro _ m1 hle ⟨v, rfl, hE⟩
  refine gl_c1 ?_
  refine gl_aload_n C (q := 2) (i := 2) rfl rfl dL_law_264 ?_
  refine gl_arg C X (kk := 1) rfl rfl rfl (by omega) hn dL_law_265 dL_law_266 dL_law_267 dL_law_268 dL_law_269 ?_
  have hw : Is m1.1 274 (0, 12) := ⟨by decide +kernel, by have := h.o1; omega⟩
  refine gl_callV C okmX12_back lmL_22 ⟨nle rfl, nle rfl⟩ hw ⟨by decide, rfl⟩ hE npmX12_back rfl (nle rfl) ⟨nle rfl, nle rfl⟩ dL_law_270 ?_
  rintro _ m2 - ⟨rfl, h2⟩
  refine gl_c1 ?_
  exact gl_icmp_eq C (tgt := 1410) dL_law_273 (by decide) (fun _ => next m2 h2) (fun hv => absurd rfl hv)
set_option maxRecDepth 100000 in
theorem law_2 (C : Cx mL D ty b p s mm #[Value.ref bs] meth c) (X : Scr b s bs Ln xs) {m : Me} {M i : Nat} (h : Rl M m) (hM : M < 2 ^ 18) (hi : i + 6 ≤ Ln) (hn : Ln ≤ 3072) (next : ∀ m2, Rl (M + 48) m2 → GL D ty b p l e s mm bs below meth c 1410 (LLs i) [] m2 328 27773) : GL D ty b p l e s mm bs below meth c 278 (LLs i) [] m 328 27773 := by
  refine gl_aload_n C (q := 1) (i := 1) rfl rfl dL_law_278 ?_
  refine gl_callV C okmX11_read lmL_23 ⟨nle rfl, nle rfl⟩ h.o0 ⟨by decide, rfl⟩ (pr_read h hM) npmX11_read rfl (nle rfl) ⟨nle rfl, nle rfl⟩ dL_law_279 ?_
  rintro _ m1 hle ⟨v, rfl, hE⟩
  refine gl_c1 ?_
  refine gl_aload_n C (q := 2) (i := 2) rfl rfl dL_law_282 ?_
  have hw : Is m1.1 274 (0, 12) := ⟨by decide +kernel, by have := h.o1; omega⟩
  refine gl_callV C okmX12_read lmL_27 ⟨nle rfl, nle rfl⟩ hw ⟨by decide, rfl⟩ hE npmX12_read rfl (nle rfl) ⟨nle rfl, nle rfl⟩ dL_law_283 ?_
  rintro _ m2 - ⟨rfl, h2⟩
  refine gl_c1 ?_
  exact gl_icmp_eq C (tgt := 1410) dL_law_286 (by decide) (fun _ => next m2 h2) (fun hv => absurd rfl hv)
set_option maxRecDepth 100000 in
theorem law_3 (C : Cx mL D ty b p s mm #[Value.ref bs] meth c) (X : Scr b s bs Ln xs) {m : Me} {M i : Nat} (h : Rl M m) (hM : M < 2 ^ 18) (hi : i + 6 ≤ Ln) (hn : Ln ≤ 3072) (next : ∀ m2, Rl (M + 48) m2 → GL D ty b p l e s mm bs below meth c 1410 (LLs i) [] m2 328 27773) : GL D ty b p l e s mm bs below meth c 291 (LLs i) [] m 328 27773 := by
  refine gl_aload_n C (q := 1) (i := 1) rfl rfl dL_law_291 ?_
  refine gl_callV C okmX11_place lmL_28 ⟨nle rfl, nle rfl⟩ h.o0 ⟨by decide, rfl⟩ (pr_place h hM) npmX11_place rfl (nle rfl) ⟨nle rfl, nle rfl⟩ dL_law_292 ?_
  rintro _ m1 hle ⟨v, rfl, hE⟩
  refine gl_c1 ?_
  refine gl_aload_n C (q := 2) (i := 2) rfl rfl dL_law_295 ?_
  have hw : Is m1.1 274 (0, 12) := ⟨by decide +kernel, by have := h.o1; omega⟩
  refine gl_callV C okmX12_place lmL_31 ⟨nle rfl, nle rfl⟩ hw ⟨by decide, rfl⟩ hE npmX12_place rfl (nle rfl) ⟨nle rfl, nle rfl⟩ dL_law_296 ?_
  rintro _ m2 - ⟨rfl, h2⟩
  refine gl_c1 ?_
  exact gl_icmp_eq C (tgt := 1410) dL_law_299 (by decide) (fun _ => next m2 h2) (fun hv => absurd rfl hv)
set_option maxRecDepth 100000 in
theorem law_4 (C : Cx mL D ty b p s mm #[Value.ref bs] meth c) (X : Scr b s bs Ln xs) {m : Me} {M i : Nat} (h : Rl M m) (hM : M < 2 ^ 18) (hi : i + 6 ≤ Ln) (hn : Ln ≤ 3072) (next : ∀ m2, Rl (M + 48) m2 → GL D ty b p l e s mm bs below meth c 1410 (LLs i) [] m2 328 27773) : GL D ty b p l e s mm bs below meth c 304 (LLs i) [] m 328 27773 := by
  refine gl_aload_n C (q := 1) (i := 1) rfl rfl dL_law_304 ?_
  refine gl_arg C X (kk := 1) rfl rfl rfl (by omega) hn dL_law_305 dL_law_306 dL_law_307 dL_law_308 dL_law_309 ?_
  refine gl_arg C X (kk := 2) rfl rfl rfl (by omega) hn dL_law_310 dL_law_311 dL_law_312 dL_law_313 dL_law_314 ?_
  refine gl_arg C X (kk := 3) rfl rfl rfl (by omega) hn dL_law_315 dL_law_316 dL_law_317 dL_law_318 dL_law_319 ?_
  refine gl_callV C okmX11_cell lmL_32 ⟨nle rfl, nle rfl⟩ h.o0 ⟨by decide, rfl⟩ (pr_cell h hM) npmX11_cell rfl (nle rfl) ⟨nle rfl, nle rfl⟩ dL_law_320 ?_
  rintro _ m1 hle ⟨v, rfl, hE⟩
  refine gl_c1 ?_
  refine gl_aload_n C (q := 2) (i := 2) rfl rfl dL_law_323 ?_
  refine gl_arg C X (kk := 1) rfl rfl rfl (by omega) hn dL_law_324 dL_law_325 dL_law_326 dL_law_327 dL_law_328 ?_
  refine gl_arg C X (kk := 2) rfl rfl rfl (by omega) hn dL_law_329 dL_law_330 dL_law_331 dL_law_332 dL_law_333 ?_
  refine gl_arg C X (kk := 3) rfl rfl rfl (by omega) hn dL_law_334 dL_law_335 dL_law_336 dL_law_337 dL_law_338 ?_
  have hw : Is m1.1 274 (0, 12) := ⟨by decide +kernel, by have := h.o1; omega⟩
  refine gl_callV C okmX12_cell lmL_36 ⟨nle rfl, nle rfl⟩ hw ⟨by decide, rfl⟩ hE npmX12_cell rfl (nle rfl) ⟨nle rfl, nle rfl⟩ dL_law_339 ?_
  rintro _ m2 - ⟨rfl, h2⟩
  refine gl_c1 ?_
  exact gl_icmp_eq C (tgt := 1410) dL_law_342 (by decide) (fun _ => next m2 h2) (fun hv => absurd rfl hv)
set_option maxRecDepth 100000 in
theorem law_5 (C : Cx mL D ty b p s mm #[Value.ref bs] meth c) (X : Scr b s bs Ln xs) {m : Me} {M i : Nat} (h : Rl M m) (hM : M < 2 ^ 18) (hi : i + 6 ≤ Ln) (hn : Ln ≤ 3072) (next : ∀ m2, Rl (M + 48) m2 → GL D ty b p l e s mm bs below meth c 1410 (LLs i) [] m2 328 27773) : GL D ty b p l e s mm bs below meth c 347 (LLs i) [] m 328 27773 := by
  refine gl_aload_n C (q := 1) (i := 1) rfl rfl dL_law_347 ?_
  refine gl_arg C X (kk := 1) rfl rfl rfl (by omega) hn dL_law_348 dL_law_349 dL_law_350 dL_law_351 dL_law_352 ?_
  refine gl_arg C X (kk := 2) rfl rfl rfl (by omega) hn dL_law_353 dL_law_354 dL_law_355 dL_law_356 dL_law_357 ?_
  refine gl_callV C okmX11_holding lmL_37 ⟨nle rfl, nle rfl⟩ h.o0 ⟨by decide, rfl⟩ (pr_holding h hM) npmX11_holding rfl (nle rfl) ⟨nle rfl, nle rfl⟩ dL_law_358 ?_
  rintro _ m1 hle ⟨v, rfl, hE⟩
  refine gl_c1 ?_
  refine gl_aload_n C (q := 2) (i := 2) rfl rfl dL_law_361 ?_
  refine gl_arg C X (kk := 1) rfl rfl rfl (by omega) hn dL_law_362 dL_law_363 dL_law_364 dL_law_365 dL_law_366 ?_
  refine gl_arg C X (kk := 2) rfl rfl rfl (by omega) hn dL_law_367 dL_law_368 dL_law_369 dL_law_370 dL_law_371 ?_
  have hw : Is m1.1 274 (0, 12) := ⟨by decide +kernel, by have := h.o1; omega⟩
  refine gl_callV C okmX12_holding lmL_41 ⟨nle rfl, nle rfl⟩ hw ⟨by decide, rfl⟩ hE npmX12_holding rfl (nle rfl) ⟨nle rfl, nle rfl⟩ dL_law_372 ?_
  rintro _ m2 - ⟨rfl, h2⟩
  refine gl_c1 ?_
  exact gl_icmp_eq C (tgt := 1410) dL_law_375 (by decide) (fun _ => next m2 h2) (fun hv => absurd rfl hv)
set_option maxRecDepth 100000 in
theorem law_6 (C : Cx mL D ty b p s mm #[Value.ref bs] meth c) (X : Scr b s bs Ln xs) {m : Me} {M i : Nat} (h : Rl M m) (hM : M < 2 ^ 18) (hi : i + 6 ≤ Ln) (hn : Ln ≤ 3072) (next : ∀ m2, Rl (M + 48) m2 → GL D ty b p l e s mm bs below meth c 1410 (LLs i) [] m2 328 27773) : GL D ty b p l e s mm bs below meth c 380 (LLs i) [] m 328 27773 := by
  refine gl_aload_n C (q := 1) (i := 1) rfl rfl dL_law_380 ?_
  refine gl_arg C X (kk := 1) rfl rfl rfl (by omega) hn dL_law_381 dL_law_382 dL_law_383 dL_law_384 dL_law_385 ?_
  refine gl_arg C X (kk := 2) rfl rfl rfl (by omega) hn dL_law_386 dL_law_387 dL_law_388 dL_law_389 dL_law_390 ?_
  refine gl_callV C okmX11_use lmL_42 ⟨nle rfl, nle rfl⟩ h.o0 ⟨by decide, rfl⟩ (pr_use h hM) npmX11_use rfl (nle rfl) ⟨nle rfl, nle rfl⟩ dL_law_391 ?_
  rintro _ m1 hle ⟨v, rfl, hE⟩
  refine gl_c1 ?_
  refine gl_aload_n C (q := 2) (i := 2) rfl rfl dL_law_394 ?_
  refine gl_arg C X (kk := 1) rfl rfl rfl (by omega) hn dL_law_395 dL_law_396 dL_law_397 dL_law_398 dL_law_399 ?_
  refine gl_arg C X (kk := 2) rfl rfl rfl (by omega) hn dL_law_400 dL_law_401 dL_law_402 dL_law_403 dL_law_404 ?_
  have hw : Is m1.1 274 (0, 12) := ⟨by decide +kernel, by have := h.o1; omega⟩
  refine gl_callV C okmX12_use lmL_45 ⟨nle rfl, nle rfl⟩ hw ⟨by decide, rfl⟩ hE npmX12_use rfl (nle rfl) ⟨nle rfl, nle rfl⟩ dL_law_405 ?_
  rintro _ m2 - ⟨rfl, h2⟩
  refine gl_c1 ?_
  exact gl_icmp_eq C (tgt := 1410) dL_law_408 (by decide) (fun _ => next m2 h2) (fun hv => absurd rfl hv)
set_option maxRecDepth 100000 in
theorem law_7 (C : Cx mL D ty b p s mm #[Value.ref bs] meth c) (X : Scr b s bs Ln xs) {m : Me} {M i : Nat} (h : Rl M m) (hM : M < 2 ^ 18) (hi : i + 6 ≤ Ln) (hn : Ln ≤ 3072) (next : ∀ m2, Rl (M + 48) m2 → GL D ty b p l e s mm bs below meth c 1410 (LLs i) [] m2 328 27773) : GL D ty b p l e s mm bs below meth c 413 (LLs i) [] m 328 27773 := by
  refine gl_aload_n C (q := 1) (i := 1) rfl rfl dL_law_413 ?_
  refine gl_arg C X (kk := 1) rfl rfl rfl (by omega) hn dL_law_414 dL_law_415 dL_law_416 dL_law_417 dL_law_418 ?_
  refine gl_arg C X (kk := 2) rfl rfl rfl (by omega) hn dL_law_419 dL_law_420 dL_law_421 dL_law_422 dL_law_423 ?_
  refine gl_arg C X (kk := 3) rfl rfl rfl (by omega) hn dL_law_424 dL_law_425 dL_law_426 dL_law_427 dL_law_428 ?_
  refine gl_arg C X (kk := 4) rfl rfl rfl (by omega) hn dL_law_429 dL_law_430 dL_law_431 dL_law_432 dL_law_433 ?_
  refine gl_callV C okmX11_draw lmL_46 ⟨nle rfl, nle rfl⟩ h.o0 ⟨by decide, rfl⟩ (pr_draw h hM) npmX11_draw rfl (nle rfl) ⟨nle rfl, nle rfl⟩ dL_law_434 ?_
  rintro _ m1 hle ⟨v, rfl, hE⟩
  refine gl_c1 ?_
  refine gl_aload_n C (q := 2) (i := 2) rfl rfl dL_law_437 ?_
  refine gl_arg C X (kk := 1) rfl rfl rfl (by omega) hn dL_law_438 dL_law_439 dL_law_440 dL_law_441 dL_law_442 ?_
  refine gl_arg C X (kk := 2) rfl rfl rfl (by omega) hn dL_law_443 dL_law_444 dL_law_445 dL_law_446 dL_law_447 ?_
  refine gl_arg C X (kk := 3) rfl rfl rfl (by omega) hn dL_law_448 dL_law_449 dL_law_450 dL_law_451 dL_law_452 ?_
  refine gl_arg C X (kk := 4) rfl rfl rfl (by omega) hn dL_law_453 dL_law_454 dL_law_455 dL_law_456 dL_law_457 ?_
  have hw : Is m1.1 274 (0, 12) := ⟨by decide +kernel, by have := h.o1; omega⟩
  refine gl_callV C okmX12_draw lmL_50 ⟨nle rfl, nle rfl⟩ hw ⟨by decide, rfl⟩ hE npmX12_draw rfl (nle rfl) ⟨nle rfl, nle rfl⟩ dL_law_458 ?_
  rintro _ m2 - ⟨rfl, h2⟩
  refine gl_c1 ?_
  exact gl_icmp_eq C (tgt := 1410) dL_law_461 (by decide) (fun _ => next m2 h2) (fun hv => absurd rfl hv)
set_option maxRecDepth 100000 in
theorem law_8 (C : Cx mL D ty b p s mm #[Value.ref bs] meth c) (X : Scr b s bs Ln xs) {m : Me} {M i : Nat} (h : Rl M m) (hM : M < 2 ^ 18) (hi : i + 6 ≤ Ln) (hn : Ln ≤ 3072) (next : ∀ m2, Rl (M + 48) m2 → GL D ty b p l e s mm bs below meth c 1410 (LLs i) [] m2 328 27773) : GL D ty b p l e s mm bs below meth c 466 (LLs i) [] m 328 27773 := by
  refine gl_aload_n C (q := 1) (i := 1) rfl rfl dL_law_466 ?_
  refine gl_arg C X (kk := 1) rfl rfl rfl (by omega) hn dL_law_467 dL_law_468 dL_law_469 dL_law_470 dL_law_471 ?_
  refine gl_arg C X (kk := 2) rfl rfl rfl (by omega) hn dL_law_472 dL_law_473 dL_law_474 dL_law_475 dL_law_476 ?_
  refine gl_arg C X (kk := 3) rfl rfl rfl (by omega) hn dL_law_477 dL_law_478 dL_law_479 dL_law_480 dL_law_481 ?_
  refine gl_callV C okmX11_lend lmL_51 ⟨nle rfl, nle rfl⟩ h.o0 ⟨by decide, rfl⟩ (pr_lend h hM) npmX11_lend rfl (nle rfl) ⟨nle rfl, nle rfl⟩ dL_law_482 ?_
  rintro _ m1 hle ⟨v, rfl, hE⟩
  refine gl_c1 ?_
  refine gl_aload_n C (q := 2) (i := 2) rfl rfl dL_law_485 ?_
  refine gl_arg C X (kk := 1) rfl rfl rfl (by omega) hn dL_law_486 dL_law_487 dL_law_488 dL_law_489 dL_law_490 ?_
  refine gl_arg C X (kk := 2) rfl rfl rfl (by omega) hn dL_law_491 dL_law_492 dL_law_493 dL_law_494 dL_law_495 ?_
  refine gl_arg C X (kk := 3) rfl rfl rfl (by omega) hn dL_law_496 dL_law_497 dL_law_498 dL_law_499 dL_law_500 ?_
  have hw : Is m1.1 274 (0, 12) := ⟨by decide +kernel, by have := h.o1; omega⟩
  refine gl_callV C okmX12_lend lmL_54 ⟨nle rfl, nle rfl⟩ hw ⟨by decide, rfl⟩ hE npmX12_lend rfl (nle rfl) ⟨nle rfl, nle rfl⟩ dL_law_501 ?_
  rintro _ m2 - ⟨rfl, h2⟩
  refine gl_c1 ?_
  exact gl_icmp_eq C (tgt := 1410) dL_law_504 (by decide) (fun _ => next m2 h2) (fun hv => absurd rfl hv)
set_option maxRecDepth 100000 in
theorem law_9 (C : Cx mL D ty b p s mm #[Value.ref bs] meth c) (X : Scr b s bs Ln xs) {m : Me} {M i : Nat} (h : Rl M m) (hM : M < 2 ^ 18) (hi : i + 6 ≤ Ln) (hn : Ln ≤ 3072) (next : ∀ m2, Rl (M + 48) m2 → GL D ty b p l e s mm bs below meth c 1410 (LLs i) [] m2 328 27773) : GL D ty b p l e s mm bs below meth c 509 (LLs i) [] m 328 27773 := by
  refine gl_aload_n C (q := 1) (i := 1) rfl rfl dL_law_509 ?_
  refine gl_arg C X (kk := 1) rfl rfl rfl (by omega) hn dL_law_510 dL_law_511 dL_law_512 dL_law_513 dL_law_514 ?_
  refine gl_arg C X (kk := 2) rfl rfl rfl (by omega) hn dL_law_515 dL_law_516 dL_law_517 dL_law_518 dL_law_519 ?_
  refine gl_arg C X (kk := 3) rfl rfl rfl (by omega) hn dL_law_520 dL_law_521 dL_law_522 dL_law_523 dL_law_524 ?_
  refine gl_callV C okmX11_move lmL_55 ⟨nle rfl, nle rfl⟩ h.o0 ⟨by decide, rfl⟩ (pr_move h hM) npmX11_move rfl (nle rfl) ⟨nle rfl, nle rfl⟩ dL_law_525 ?_
  rintro _ m1 hle ⟨v, rfl, hE⟩
  refine gl_c1 ?_
  refine gl_aload_n C (q := 2) (i := 2) rfl rfl dL_law_528 ?_
  refine gl_arg C X (kk := 1) rfl rfl rfl (by omega) hn dL_law_529 dL_law_530 dL_law_531 dL_law_532 dL_law_533 ?_
  refine gl_arg C X (kk := 2) rfl rfl rfl (by omega) hn dL_law_534 dL_law_535 dL_law_536 dL_law_537 dL_law_538 ?_
  refine gl_arg C X (kk := 3) rfl rfl rfl (by omega) hn dL_law_539 dL_law_540 dL_law_541 dL_law_542 dL_law_543 ?_
  have hw : Is m1.1 274 (0, 12) := ⟨by decide +kernel, by have := h.o1; omega⟩
  refine gl_callV C okmX12_move lmL_59 ⟨nle rfl, nle rfl⟩ hw ⟨by decide, rfl⟩ hE npmX12_move rfl (nle rfl) ⟨nle rfl, nle rfl⟩ dL_law_544 ?_
  rintro _ m2 - ⟨rfl, h2⟩
  refine gl_c1 ?_
  exact gl_icmp_eq C (tgt := 1410) dL_law_547 (by decide) (fun _ => next m2 h2) (fun hv => absurd rfl hv)
set_option maxRecDepth 100000 in
theorem law_10 (C : Cx mL D ty b p s mm #[Value.ref bs] meth c) (X : Scr b s bs Ln xs) {m : Me} {M i : Nat} (h : Rl M m) (hM : M < 2 ^ 18) (hi : i + 6 ≤ Ln) (hn : Ln ≤ 3072) (next : ∀ m2, Rl (M + 48) m2 → GL D ty b p l e s mm bs below meth c 1410 (LLs i) [] m2 328 27773) : GL D ty b p l e s mm bs below meth c 552 (LLs i) [] m 328 27773 := by
  refine gl_aload_n C (q := 1) (i := 1) rfl rfl dL_law_552 ?_
  refine gl_arg C X (kk := 1) rfl rfl rfl (by omega) hn dL_law_553 dL_law_554 dL_law_555 dL_law_556 dL_law_557 ?_
  refine gl_callV C okmX11_hours lmL_60 ⟨nle rfl, nle rfl⟩ h.o0 ⟨by decide, rfl⟩ (pr_hours h hM) npmX11_hours rfl (nle rfl) ⟨nle rfl, nle rfl⟩ dL_law_558 ?_
  rintro _ m1 hle ⟨v, rfl, hE⟩
  refine gl_c1 ?_
  refine gl_aload_n C (q := 2) (i := 2) rfl rfl dL_law_561 ?_
  refine gl_arg C X (kk := 1) rfl rfl rfl (by omega) hn dL_law_562 dL_law_563 dL_law_564 dL_law_565 dL_law_566 ?_
  have hw : Is m1.1 274 (0, 12) := ⟨by decide +kernel, by have := h.o1; omega⟩
  refine gl_callV C okmX12_hours lmL_63 ⟨nle rfl, nle rfl⟩ hw ⟨by decide, rfl⟩ hE npmX12_hours rfl (nle rfl) ⟨nle rfl, nle rfl⟩ dL_law_567 ?_
  rintro _ m2 - ⟨rfl, h2⟩
  refine gl_c1 ?_
  exact gl_icmp_eq C (tgt := 1410) dL_law_570 (by decide) (fun _ => next m2 h2) (fun hv => absurd rfl hv)
set_option maxRecDepth 100000 in
theorem law_11 (C : Cx mL D ty b p s mm #[Value.ref bs] meth c) (X : Scr b s bs Ln xs) {m : Me} {M i : Nat} (h : Rl M m) (hM : M < 2 ^ 18) (hi : i + 6 ≤ Ln) (hn : Ln ≤ 3072) (next : ∀ m2, Rl (M + 48) m2 → GL D ty b p l e s mm bs below meth c 1410 (LLs i) [] m2 328 27773) : GL D ty b p l e s mm bs below meth c 575 (LLs i) [] m 328 27773 := by
  refine gl_aload_n C (q := 1) (i := 1) rfl rfl dL_law_575 ?_
  refine gl_callV C okmX11_undo lmL_64 ⟨nle rfl, nle rfl⟩ h.o0 ⟨by decide, rfl⟩ (pr_undo h hM) npmX11_undo rfl (nle rfl) ⟨nle rfl, nle rfl⟩ dL_law_576 ?_
  rintro _ m1 hle ⟨v, rfl, hE⟩
  refine gl_c1 ?_
  refine gl_aload_n C (q := 2) (i := 2) rfl rfl dL_law_579 ?_
  have hw : Is m1.1 274 (0, 12) := ⟨by decide +kernel, by have := h.o1; omega⟩
  refine gl_callV C okmX12_undo lmL_68 ⟨nle rfl, nle rfl⟩ hw ⟨by decide, rfl⟩ hE npmX12_undo rfl (nle rfl) ⟨nle rfl, nle rfl⟩ dL_law_580 ?_
  rintro _ m2 - ⟨rfl, h2⟩
  refine gl_c1 ?_
  exact gl_icmp_eq C (tgt := 1410) dL_law_583 (by decide) (fun _ => next m2 h2) (fun hv => absurd rfl hv)
set_option maxRecDepth 100000 in
theorem law_12 (C : Cx mL D ty b p s mm #[Value.ref bs] meth c) (X : Scr b s bs Ln xs) {m : Me} {M i : Nat} (h : Rl M m) (hM : M < 2 ^ 18) (hi : i + 6 ≤ Ln) (hn : Ln ≤ 3072) (next : ∀ m2, Rl (M + 48) m2 → GL D ty b p l e s mm bs below meth c 1410 (LLs i) [] m2 328 27773) : GL D ty b p l e s mm bs below meth c 588 (LLs i) [] m 328 27773 := by
  refine gl_aload_n C (q := 1) (i := 1) rfl rfl dL_law_588 ?_
  refine gl_arg C X (kk := 1) rfl rfl rfl (by omega) hn dL_law_589 dL_law_590 dL_law_591 dL_law_592 dL_law_593 ?_
  refine gl_arg C X (kk := 2) rfl rfl rfl (by omega) hn dL_law_594 dL_law_595 dL_law_596 dL_law_597 dL_law_598 ?_
  refine gl_arg C X (kk := 3) rfl rfl rfl (by omega) hn dL_law_599 dL_law_600 dL_law_601 dL_law_602 dL_law_603 ?_
  refine gl_callV C okmX11_then lmL_69 ⟨nle rfl, nle rfl⟩ h.o0 ⟨by decide, rfl⟩ (pr_then h hM) npmX11_then rfl (nle rfl) ⟨nle rfl, nle rfl⟩ dL_law_604 ?_
  rintro _ m1 hle ⟨v, rfl, hE⟩
  refine gl_c1 ?_
  refine gl_aload_n C (q := 2) (i := 2) rfl rfl dL_law_607 ?_
  refine gl_arg C X (kk := 1) rfl rfl rfl (by omega) hn dL_law_608 dL_law_609 dL_law_610 dL_law_611 dL_law_612 ?_
  refine gl_arg C X (kk := 2) rfl rfl rfl (by omega) hn dL_law_613 dL_law_614 dL_law_615 dL_law_616 dL_law_617 ?_
  refine gl_arg C X (kk := 3) rfl rfl rfl (by omega) hn dL_law_618 dL_law_619 dL_law_620 dL_law_621 dL_law_622 ?_
  have hw : Is m1.1 274 (0, 12) := ⟨by decide +kernel, by have := h.o1; omega⟩
  refine gl_callV C okmX12_then lmL_72 ⟨nle rfl, nle rfl⟩ hw ⟨by decide, rfl⟩ hE npmX12_then rfl (nle rfl) ⟨nle rfl, nle rfl⟩ dL_law_623 ?_
  rintro _ m2 - ⟨rfl, h2⟩
  refine gl_c1 ?_
  exact gl_icmp_eq C (tgt := 1410) dL_law_626 (by decide) (fun _ => next m2 h2) (fun hv => absurd rfl hv)
set_option maxRecDepth 100000 in
theorem law_13 (C : Cx mL D ty b p s mm #[Value.ref bs] meth c) (X : Scr b s bs Ln xs) {m : Me} {M i : Nat} (h : Rl M m) (hM : M < 2 ^ 18) (hi : i + 6 ≤ Ln) (hn : Ln ≤ 3072) (next : ∀ m2, Rl (M + 48) m2 → GL D ty b p l e s mm bs below meth c 1410 (LLs i) [] m2 328 27773) : GL D ty b p l e s mm bs below meth c 631 (LLs i) [] m 328 27773 := by
  refine gl_aload_n C (q := 1) (i := 1) rfl rfl dL_law_631 ?_
  refine gl_arg C X (kk := 1) rfl rfl rfl (by omega) hn dL_law_632 dL_law_633 dL_law_634 dL_law_635 dL_law_636 ?_
  refine gl_arg C X (kk := 2) rfl rfl rfl (by omega) hn dL_law_637 dL_law_638 dL_law_639 dL_law_640 dL_law_641 ?_
  refine gl_arg C X (kk := 3) rfl rfl rfl (by omega) hn dL_law_642 dL_law_643 dL_law_644 dL_law_645 dL_law_646 ?_
  refine gl_callV C okmX11_all lmL_73 ⟨nle rfl, nle rfl⟩ h.o0 ⟨by decide, rfl⟩ (pr_all h hM) npmX11_all rfl (nle rfl) ⟨nle rfl, nle rfl⟩ dL_law_647 ?_
  rintro _ m1 hle ⟨v, rfl, hE⟩
  refine gl_c1 ?_
  refine gl_aload_n C (q := 2) (i := 2) rfl rfl dL_law_650 ?_
  refine gl_arg C X (kk := 1) rfl rfl rfl (by omega) hn dL_law_651 dL_law_652 dL_law_653 dL_law_654 dL_law_655 ?_
  refine gl_arg C X (kk := 2) rfl rfl rfl (by omega) hn dL_law_656 dL_law_657 dL_law_658 dL_law_659 dL_law_660 ?_
  refine gl_arg C X (kk := 3) rfl rfl rfl (by omega) hn dL_law_661 dL_law_662 dL_law_663 dL_law_664 dL_law_665 ?_
  have hw : Is m1.1 274 (0, 12) := ⟨by decide +kernel, by have := h.o1; omega⟩
  refine gl_callV C okmX12_all lmL_76 ⟨nle rfl, nle rfl⟩ hw ⟨by decide, rfl⟩ hE npmX12_all rfl (nle rfl) ⟨nle rfl, nle rfl⟩ dL_law_666 ?_
  rintro _ m2 - ⟨rfl, h2⟩
  refine gl_c1 ?_
  exact gl_icmp_eq C (tgt := 1410) dL_law_669 (by decide) (fun _ => next m2 h2) (fun hv => absurd rfl hv)
set_option maxRecDepth 100000 in
theorem law_14 (C : Cx mL D ty b p s mm #[Value.ref bs] meth c) (X : Scr b s bs Ln xs) {m : Me} {M i : Nat} (h : Rl M m) (hM : M < 2 ^ 18) (hi : i + 6 ≤ Ln) (hn : Ln ≤ 3072) (next : ∀ m2, Rl (M + 48) m2 → GL D ty b p l e s mm bs below meth c 1410 (LLs i) [] m2 328 27773) : GL D ty b p l e s mm bs below meth c 674 (LLs i) [] m 328 27773 := by
  refine gl_aload_n C (q := 1) (i := 1) rfl rfl dL_law_674 ?_
  refine gl_arg C X (kk := 1) rfl rfl rfl (by omega) hn dL_law_675 dL_law_676 dL_law_677 dL_law_678 dL_law_679 ?_
  refine gl_arg C X (kk := 2) rfl rfl rfl (by omega) hn dL_law_680 dL_law_681 dL_law_682 dL_law_683 dL_law_684 ?_
  refine gl_callV C okmX11_thickest lmL_77 ⟨nle rfl, nle rfl⟩ h.o0 ⟨by decide, rfl⟩ (pr_thickest h hM) npmX11_thickest rfl (nle rfl) ⟨nle rfl, nle rfl⟩ dL_law_685 ?_
  rintro _ m1 hle ⟨v, rfl, hE⟩
  refine gl_c1 ?_
  refine gl_aload_n C (q := 2) (i := 2) rfl rfl dL_law_688 ?_
  refine gl_arg C X (kk := 1) rfl rfl rfl (by omega) hn dL_law_689 dL_law_690 dL_law_691 dL_law_692 dL_law_693 ?_
  refine gl_arg C X (kk := 2) rfl rfl rfl (by omega) hn dL_law_694 dL_law_695 dL_law_696 dL_law_697 dL_law_698 ?_
  have hw : Is m1.1 274 (0, 12) := ⟨by decide +kernel, by have := h.o1; omega⟩
  refine gl_callV C okmX12_thickest lmL_80 ⟨nle rfl, nle rfl⟩ hw ⟨by decide, rfl⟩ hE npmX12_thickest rfl (nle rfl) ⟨nle rfl, nle rfl⟩ dL_law_699 ?_
  rintro _ m2 - ⟨rfl, h2⟩
  refine gl_c1 ?_
  exact gl_icmp_eq C (tgt := 1410) dL_law_702 (by decide) (fun _ => next m2 h2) (fun hv => absurd rfl hv)
set_option maxRecDepth 100000 in
theorem law_15 (C : Cx mL D ty b p s mm #[Value.ref bs] meth c) (X : Scr b s bs Ln xs) {m : Me} {M i : Nat} (h : Rl M m) (hM : M < 2 ^ 18) (hi : i + 6 ≤ Ln) (hn : Ln ≤ 3072) (next : ∀ m2, Rl (M + 48) m2 → GL D ty b p l e s mm bs below meth c 1410 (LLs i) [] m2 328 27773) : GL D ty b p l e s mm bs below meth c 707 (LLs i) [] m 328 27773 := by
  refine gl_aload_n C (q := 1) (i := 1) rfl rfl dL_law_707 ?_
  refine gl_arg C X (kk := 1) rfl rfl rfl (by omega) hn dL_law_708 dL_law_709 dL_law_710 dL_law_711 dL_law_712 ?_
  refine gl_arg C X (kk := 2) rfl rfl rfl (by omega) hn dL_law_713 dL_law_714 dL_law_715 dL_law_716 dL_law_717 ?_
  refine gl_arg C X (kk := 3) rfl rfl rfl (by omega) hn dL_law_718 dL_law_719 dL_law_720 dL_law_721 dL_law_722 ?_
  refine gl_arg C X (kk := 4) rfl rfl rfl (by omega) hn dL_law_723 dL_law_724 dL_law_725 dL_law_726 dL_law_727 ?_
  refine gl_callV C okmX11_hid lmL_81 ⟨nle rfl, nle rfl⟩ h.o0 ⟨by decide, rfl⟩ (pr_hid h hM) npmX11_hid rfl (nle rfl) ⟨nle rfl, nle rfl⟩ dL_law_728 ?_
  rintro _ m1 hle ⟨v, rfl, hE⟩
  refine gl_c1 ?_
  refine gl_aload_n C (q := 2) (i := 2) rfl rfl dL_law_731 ?_
  refine gl_arg C X (kk := 1) rfl rfl rfl (by omega) hn dL_law_732 dL_law_733 dL_law_734 dL_law_735 dL_law_736 ?_
  refine gl_arg C X (kk := 2) rfl rfl rfl (by omega) hn dL_law_737 dL_law_738 dL_law_739 dL_law_740 dL_law_741 ?_
  refine gl_arg C X (kk := 3) rfl rfl rfl (by omega) hn dL_law_742 dL_law_743 dL_law_744 dL_law_745 dL_law_746 ?_
  refine gl_arg C X (kk := 4) rfl rfl rfl (by omega) hn dL_law_747 dL_law_748 dL_law_749 dL_law_750 dL_law_751 ?_
  have hw : Is m1.1 274 (0, 12) := ⟨by decide +kernel, by have := h.o1; omega⟩
  refine gl_callV C okmX12_hid lmL_84 ⟨nle rfl, nle rfl⟩ hw ⟨by decide, rfl⟩ hE npmX12_hid rfl (nle rfl) ⟨nle rfl, nle rfl⟩ dL_law_752 ?_
  rintro _ m2 - ⟨rfl, h2⟩
  refine gl_c1 ?_
  exact gl_icmp_eq C (tgt := 1410) dL_law_755 (by decide) (fun _ => next m2 h2) (fun hv => absurd rfl hv)
set_option maxRecDepth 100000 in
theorem law_16 (C : Cx mL D ty b p s mm #[Value.ref bs] meth c) (X : Scr b s bs Ln xs) {m : Me} {M i : Nat} (h : Rl M m) (hM : M < 2 ^ 18) (hi : i + 6 ≤ Ln) (hn : Ln ≤ 3072) (next : ∀ m2, Rl (M + 48) m2 → GL D ty b p l e s mm bs below meth c 1410 (LLs i) [] m2 328 27773) : GL D ty b p l e s mm bs below meth c 760 (LLs i) [] m 328 27773 := by
  refine gl_aload_n C (q := 1) (i := 1) rfl rfl dL_law_760 ?_
  refine gl_arg C X (kk := 1) rfl rfl rfl (by omega) hn dL_law_761 dL_law_762 dL_law_763 dL_law_764 dL_law_765 ?_
  refine gl_callV C okmX11_lost lmL_85 ⟨nle rfl, nle rfl⟩ h.o0 ⟨by decide, rfl⟩ (pr_lost h hM) npmX11_lost rfl (nle rfl) ⟨nle rfl, nle rfl⟩ dL_law_766 ?_
  rintro _ m1 hle ⟨v, rfl, hE⟩
  refine gl_c1 ?_
  refine gl_aload_n C (q := 2) (i := 2) rfl rfl dL_law_769 ?_
  refine gl_arg C X (kk := 1) rfl rfl rfl (by omega) hn dL_law_770 dL_law_771 dL_law_772 dL_law_773 dL_law_774 ?_
  have hw : Is m1.1 274 (0, 12) := ⟨by decide +kernel, by have := h.o1; omega⟩
  refine gl_callV C okmX12_lost lmL_88 ⟨nle rfl, nle rfl⟩ hw ⟨by decide, rfl⟩ hE npmX12_lost rfl (nle rfl) ⟨nle rfl, nle rfl⟩ dL_law_775 ?_
  rintro _ m2 - ⟨rfl, h2⟩
  refine gl_c1 ?_
  exact gl_icmp_eq C (tgt := 1410) dL_law_778 (by decide) (fun _ => next m2 h2) (fun hv => absurd rfl hv)
set_option maxRecDepth 100000 in
theorem law_17 (C : Cx mL D ty b p s mm #[Value.ref bs] meth c) (X : Scr b s bs Ln xs) {m : Me} {M i : Nat} (h : Rl M m) (hM : M < 2 ^ 18) (hi : i + 6 ≤ Ln) (hn : Ln ≤ 3072) (next : ∀ m2, Rl (M + 48) m2 → GL D ty b p l e s mm bs below meth c 1410 (LLs i) [] m2 328 27773) : GL D ty b p l e s mm bs below meth c 783 (LLs i) [] m 328 27773 := by
  refine gl_aload_n C (q := 1) (i := 1) rfl rfl dL_law_783 ?_
  refine gl_arg C X (kk := 1) rfl rfl rfl (by omega) hn dL_law_784 dL_law_785 dL_law_786 dL_law_787 dL_law_788 ?_
  refine gl_arg C X (kk := 2) rfl rfl rfl (by omega) hn dL_law_789 dL_law_790 dL_law_791 dL_law_792 dL_law_793 ?_
  refine gl_callV C okmX11_served lmL_89 ⟨nle rfl, nle rfl⟩ h.o0 ⟨by decide, rfl⟩ (pr_served h hM) npmX11_served rfl (nle rfl) ⟨nle rfl, nle rfl⟩ dL_law_794 ?_
  rintro _ m1 hle ⟨v, rfl, hE⟩
  refine gl_c1 ?_
  refine gl_aload_n C (q := 2) (i := 2) rfl rfl dL_law_797 ?_
  refine gl_arg C X (kk := 1) rfl rfl rfl (by omega) hn dL_law_798 dL_law_799 dL_law_800 dL_law_801 dL_law_802 ?_
  refine gl_arg C X (kk := 2) rfl rfl rfl (by omega) hn dL_law_803 dL_law_804 dL_law_805 dL_law_806 dL_law_807 ?_
  have hw : Is m1.1 274 (0, 12) := ⟨by decide +kernel, by have := h.o1; omega⟩
  refine gl_callV C okmX12_served lmL_92 ⟨nle rfl, nle rfl⟩ hw ⟨by decide, rfl⟩ hE npmX12_served rfl (nle rfl) ⟨nle rfl, nle rfl⟩ dL_law_808 ?_
  rintro _ m2 - ⟨rfl, h2⟩
  refine gl_c1 ?_
  exact gl_icmp_eq C (tgt := 1410) dL_law_811 (by decide) (fun _ => next m2 h2) (fun hv => absurd rfl hv)
set_option maxRecDepth 100000 in
theorem law_18 (C : Cx mL D ty b p s mm #[Value.ref bs] meth c) (X : Scr b s bs Ln xs) {m : Me} {M i : Nat} (h : Rl M m) (hM : M < 2 ^ 18) (hi : i + 6 ≤ Ln) (hn : Ln ≤ 3072) (next : ∀ m2, Rl (M + 48) m2 → GL D ty b p l e s mm bs below meth c 1410 (LLs i) [] m2 328 27773) : GL D ty b p l e s mm bs below meth c 816 (LLs i) [] m 328 27773 := by
  refine gl_aload_n C (q := 1) (i := 1) rfl rfl dL_law_816 ?_
  refine gl_arg C X (kk := 1) rfl rfl rfl (by omega) hn dL_law_817 dL_law_818 dL_law_819 dL_law_820 dL_law_821 ?_
  refine gl_arg C X (kk := 2) rfl rfl rfl (by omega) hn dL_law_822 dL_law_823 dL_law_824 dL_law_825 dL_law_826 ?_
  refine gl_callV C okmX11_missed lmL_93 ⟨nle rfl, nle rfl⟩ h.o0 ⟨by decide, rfl⟩ (pr_missed h hM) npmX11_missed rfl (nle rfl) ⟨nle rfl, nle rfl⟩ dL_law_827 ?_
  rintro _ m1 hle ⟨v, rfl, hE⟩
  refine gl_c1 ?_
  refine gl_aload_n C (q := 2) (i := 2) rfl rfl dL_law_830 ?_
  refine gl_arg C X (kk := 1) rfl rfl rfl (by omega) hn dL_law_831 dL_law_832 dL_law_833 dL_law_834 dL_law_835 ?_
  refine gl_arg C X (kk := 2) rfl rfl rfl (by omega) hn dL_law_836 dL_law_837 dL_law_838 dL_law_839 dL_law_840 ?_
  have hw : Is m1.1 274 (0, 12) := ⟨by decide +kernel, by have := h.o1; omega⟩
  refine gl_callV C okmX12_missed lmL_96 ⟨nle rfl, nle rfl⟩ hw ⟨by decide, rfl⟩ hE npmX12_missed rfl (nle rfl) ⟨nle rfl, nle rfl⟩ dL_law_841 ?_
  rintro _ m2 - ⟨rfl, h2⟩
  refine gl_c1 ?_
  exact gl_icmp_eq C (tgt := 1410) dL_law_844 (by decide) (fun _ => next m2 h2) (fun hv => absurd rfl hv)
set_option maxRecDepth 100000 in
theorem law_19 (C : Cx mL D ty b p s mm #[Value.ref bs] meth c) (X : Scr b s bs Ln xs) {m : Me} {M i : Nat} (h : Rl M m) (hM : M < 2 ^ 18) (hi : i + 6 ≤ Ln) (hn : Ln ≤ 3072) (next : ∀ m2, Rl (M + 48) m2 → GL D ty b p l e s mm bs below meth c 1410 (LLs i) [] m2 328 27773) : GL D ty b p l e s mm bs below meth c 849 (LLs i) [] m 328 27773 := by
  refine gl_aload_n C (q := 1) (i := 1) rfl rfl dL_law_849 ?_
  refine gl_callV C okmX11_over lmL_97 ⟨nle rfl, nle rfl⟩ h.o0 ⟨by decide, rfl⟩ (pr_over h hM) npmX11_over rfl (nle rfl) ⟨nle rfl, nle rfl⟩ dL_law_850 ?_
  rintro _ m1 hle ⟨v, rfl, hE⟩
  refine gl_c1 ?_
  refine gl_aload_n C (q := 2) (i := 2) rfl rfl dL_law_853 ?_
  have hw : Is m1.1 274 (0, 12) := ⟨by decide +kernel, by have := h.o1; omega⟩
  refine gl_callV C okmX12_over lmL_100 ⟨nle rfl, nle rfl⟩ hw ⟨by decide, rfl⟩ hE npmX12_over rfl (nle rfl) ⟨nle rfl, nle rfl⟩ dL_law_854 ?_
  rintro _ m2 - ⟨rfl, h2⟩
  refine gl_c1 ?_
  exact gl_icmp_eq C (tgt := 1410) dL_law_857 (by decide) (fun _ => next m2 h2) (fun hv => absurd rfl hv)
set_option maxRecDepth 100000 in
theorem law_20 (C : Cx mL D ty b p s mm #[Value.ref bs] meth c) (X : Scr b s bs Ln xs) {m : Me} {M i : Nat} (h : Rl M m) (hM : M < 2 ^ 18) (hi : i + 6 ≤ Ln) (hn : Ln ≤ 3072) (next : ∀ m2, Rl (M + 48) m2 → GL D ty b p l e s mm bs below meth c 1410 (LLs i) [] m2 328 27773) : GL D ty b p l e s mm bs below meth c 862 (LLs i) [] m 328 27773 := by
  refine gl_aload_n C (q := 1) (i := 1) rfl rfl dL_law_862 ?_
  refine gl_arg C X (kk := 1) rfl rfl rfl (by omega) hn dL_law_863 dL_law_864 dL_law_865 dL_law_866 dL_law_867 ?_
  refine gl_arg C X (kk := 2) rfl rfl rfl (by omega) hn dL_law_868 dL_law_869 dL_law_870 dL_law_871 dL_law_872 ?_
  refine gl_arg C X (kk := 3) rfl rfl rfl (by omega) hn dL_law_873 dL_law_874 dL_law_875 dL_law_876 dL_law_877 ?_
  refine gl_arg C X (kk := 4) rfl rfl rfl (by omega) hn dL_law_878 dL_law_879 dL_law_880 dL_law_881 dL_law_882 ?_
  refine gl_callV C okmX11_least lmL_101 ⟨nle rfl, nle rfl⟩ h.o0 ⟨by decide, rfl⟩ (pr_least h hM) npmX11_least rfl (nle rfl) ⟨nle rfl, nle rfl⟩ dL_law_883 ?_
  rintro _ m1 hle ⟨v, rfl, hE⟩
  refine gl_c1 ?_
  refine gl_aload_n C (q := 2) (i := 2) rfl rfl dL_law_886 ?_
  refine gl_arg C X (kk := 1) rfl rfl rfl (by omega) hn dL_law_887 dL_law_888 dL_law_889 dL_law_890 dL_law_891 ?_
  refine gl_arg C X (kk := 2) rfl rfl rfl (by omega) hn dL_law_892 dL_law_893 dL_law_894 dL_law_895 dL_law_896 ?_
  refine gl_arg C X (kk := 3) rfl rfl rfl (by omega) hn dL_law_897 dL_law_898 dL_law_899 dL_law_900 dL_law_901 ?_
  refine gl_arg C X (kk := 4) rfl rfl rfl (by omega) hn dL_law_902 dL_law_903 dL_law_904 dL_law_905 dL_law_906 ?_
  have hw : Is m1.1 274 (0, 12) := ⟨by decide +kernel, by have := h.o1; omega⟩
  refine gl_callV C okmX12_least lmL_104 ⟨nle rfl, nle rfl⟩ hw ⟨by decide, rfl⟩ hE npmX12_least rfl (nle rfl) ⟨nle rfl, nle rfl⟩ dL_law_907 ?_
  rintro _ m2 - ⟨rfl, h2⟩
  refine gl_c1 ?_
  exact gl_icmp_eq C (tgt := 1410) dL_law_910 (by decide) (fun _ => next m2 h2) (fun hv => absurd rfl hv)
set_option maxRecDepth 100000 in
theorem law_21 (C : Cx mL D ty b p s mm #[Value.ref bs] meth c) (X : Scr b s bs Ln xs) {m : Me} {M i : Nat} (h : Rl M m) (hM : M < 2 ^ 18) (hi : i + 6 ≤ Ln) (hn : Ln ≤ 3072) (next : ∀ m2, Rl (M + 48) m2 → GL D ty b p l e s mm bs below meth c 1410 (LLs i) [] m2 328 27773) : GL D ty b p l e s mm bs below meth c 915 (LLs i) [] m 328 27773 := by
  refine gl_aload_n C (q := 1) (i := 1) rfl rfl dL_law_915 ?_
  refine gl_arg C X (kk := 1) rfl rfl rfl (by omega) hn dL_law_916 dL_law_917 dL_law_918 dL_law_919 dL_law_920 ?_
  refine gl_arg C X (kk := 2) rfl rfl rfl (by omega) hn dL_law_921 dL_law_922 dL_law_923 dL_law_924 dL_law_925 ?_
  refine gl_arg C X (kk := 3) rfl rfl rfl (by omega) hn dL_law_926 dL_law_927 dL_law_928 dL_law_929 dL_law_930 ?_
  refine gl_arg C X (kk := 4) rfl rfl rfl (by omega) hn dL_law_931 dL_law_932 dL_law_933 dL_law_934 dL_law_935 ?_
  refine gl_arg C X (kk := 5) rfl rfl rfl (by omega) hn dL_law_936 dL_law_937 dL_law_938 dL_law_939 dL_law_940 ?_
  refine gl_callV C okmX11_unseen lmL_105 ⟨nle rfl, nle rfl⟩ h.o0 ⟨by decide, rfl⟩ (pr_unseen h hM) npmX11_unseen rfl (nle rfl) ⟨nle rfl, nle rfl⟩ dL_law_941 ?_
  rintro _ m1 hle ⟨v, rfl, hE⟩
  refine gl_c1 ?_
  refine gl_aload_n C (q := 2) (i := 2) rfl rfl dL_law_944 ?_
  refine gl_arg C X (kk := 1) rfl rfl rfl (by omega) hn dL_law_945 dL_law_946 dL_law_947 dL_law_948 dL_law_949 ?_
  refine gl_arg C X (kk := 2) rfl rfl rfl (by omega) hn dL_law_950 dL_law_951 dL_law_952 dL_law_953 dL_law_954 ?_
  refine gl_arg C X (kk := 3) rfl rfl rfl (by omega) hn dL_law_955 dL_law_956 dL_law_957 dL_law_958 dL_law_959 ?_
  refine gl_arg C X (kk := 4) rfl rfl rfl (by omega) hn dL_law_960 dL_law_961 dL_law_962 dL_law_963 dL_law_964 ?_
  refine gl_arg C X (kk := 5) rfl rfl rfl (by omega) hn dL_law_965 dL_law_966 dL_law_967 dL_law_968 dL_law_969 ?_
  have hw : Is m1.1 274 (0, 12) := ⟨by decide +kernel, by have := h.o1; omega⟩
  refine gl_callV C okmX12_unseen lmL_108 ⟨nle rfl, nle rfl⟩ hw ⟨by decide, rfl⟩ hE npmX12_unseen rfl (nle rfl) ⟨nle rfl, nle rfl⟩ dL_law_970 ?_
  rintro _ m2 - ⟨rfl, h2⟩
  refine gl_c1 ?_
  exact gl_icmp_eq C (tgt := 1410) dL_law_973 (by decide) (fun _ => next m2 h2) (fun hv => absurd rfl hv)
set_option maxRecDepth 100000 in
theorem law_22 (C : Cx mL D ty b p s mm #[Value.ref bs] meth c) (X : Scr b s bs Ln xs) {m : Me} {M i : Nat} (h : Rl M m) (hM : M < 2 ^ 18) (hi : i + 6 ≤ Ln) (hn : Ln ≤ 3072) (next : ∀ m2, Rl (M + 48) m2 → GL D ty b p l e s mm bs below meth c 1410 (LLs i) [] m2 328 27773) : GL D ty b p l e s mm bs below meth c 978 (LLs i) [] m 328 27773 := by
  refine gl_aload_n C (q := 1) (i := 1) rfl rfl dL_law_978 ?_
  refine gl_arg C X (kk := 1) rfl rfl rfl (by omega) hn dL_law_979 dL_law_980 dL_law_981 dL_law_982 dL_law_983 ?_
  refine gl_arg C X (kk := 2) rfl rfl rfl (by omega) hn dL_law_984 dL_law_985 dL_law_986 dL_law_987 dL_law_988 ?_
  refine gl_arg C X (kk := 3) rfl rfl rfl (by omega) hn dL_law_989 dL_law_990 dL_law_991 dL_law_992 dL_law_993 ?_
  refine gl_arg C X (kk := 4) rfl rfl rfl (by omega) hn dL_law_994 dL_law_995 dL_law_996 dL_law_997 dL_law_998 ?_
  refine gl_callV C okmX11_watch lmL_109 ⟨nle rfl, nle rfl⟩ h.o0 ⟨by decide, rfl⟩ (pr_watch h hM) npmX11_watch rfl (nle rfl) ⟨nle rfl, nle rfl⟩ dL_law_999 ?_
  rintro _ m1 hle ⟨v, rfl, hE⟩
  refine gl_c1 ?_
  refine gl_aload_n C (q := 2) (i := 2) rfl rfl dL_law_1002 ?_
  refine gl_arg C X (kk := 1) rfl rfl rfl (by omega) hn dL_law_1003 dL_law_1004 dL_law_1005 dL_law_1006 dL_law_1007 ?_
  refine gl_arg C X (kk := 2) rfl rfl rfl (by omega) hn dL_law_1008 dL_law_1009 dL_law_1010 dL_law_1011 dL_law_1012 ?_
  refine gl_arg C X (kk := 3) rfl rfl rfl (by omega) hn dL_law_1013 dL_law_1014 dL_law_1015 dL_law_1016 dL_law_1017 ?_
  refine gl_arg C X (kk := 4) rfl rfl rfl (by omega) hn dL_law_1018 dL_law_1019 dL_law_1020 dL_law_1021 dL_law_1022 ?_
  have hw : Is m1.1 274 (0, 12) := ⟨by decide +kernel, by have := h.o1; omega⟩
  refine gl_callV C okmX12_watch lmL_112 ⟨nle rfl, nle rfl⟩ hw ⟨by decide, rfl⟩ hE npmX12_watch rfl (nle rfl) ⟨nle rfl, nle rfl⟩ dL_law_1023 ?_
  rintro _ m2 - ⟨rfl, h2⟩
  refine gl_c1 ?_
  exact gl_icmp_eq C (tgt := 1410) dL_law_1026 (by decide) (fun _ => next m2 h2) (fun hv => absurd rfl hv)
set_option maxRecDepth 100000 in
theorem law_23 (C : Cx mL D ty b p s mm #[Value.ref bs] meth c) (X : Scr b s bs Ln xs) {m : Me} {M i : Nat} (h : Rl M m) (hM : M < 2 ^ 18) (hi : i + 6 ≤ Ln) (hn : Ln ≤ 3072) (next : ∀ m2, Rl (M + 48) m2 → GL D ty b p l e s mm bs below meth c 1410 (LLs i) [] m2 328 27773) : GL D ty b p l e s mm bs below meth c 1031 (LLs i) [] m 328 27773 := by
  refine gl_aload_n C (q := 1) (i := 1) rfl rfl dL_law_1031 ?_
  refine gl_arg C X (kk := 1) rfl rfl rfl (by omega) hn dL_law_1032 dL_law_1033 dL_law_1034 dL_law_1035 dL_law_1036 ?_
  refine gl_arg C X (kk := 2) rfl rfl rfl (by omega) hn dL_law_1037 dL_law_1038 dL_law_1039 dL_law_1040 dL_law_1041 ?_
  refine gl_arg C X (kk := 3) rfl rfl rfl (by omega) hn dL_law_1042 dL_law_1043 dL_law_1044 dL_law_1045 dL_law_1046 ?_
  refine gl_callV C okmX11_sight lmL_113 ⟨nle rfl, nle rfl⟩ h.o0 ⟨by decide, rfl⟩ (pr_sight h hM) npmX11_sight rfl (nle rfl) ⟨nle rfl, nle rfl⟩ dL_law_1047 ?_
  rintro _ m1 hle ⟨v, rfl, hE⟩
  refine gl_c1 ?_
  refine gl_aload_n C (q := 2) (i := 2) rfl rfl dL_law_1050 ?_
  refine gl_arg C X (kk := 1) rfl rfl rfl (by omega) hn dL_law_1051 dL_law_1052 dL_law_1053 dL_law_1054 dL_law_1055 ?_
  refine gl_arg C X (kk := 2) rfl rfl rfl (by omega) hn dL_law_1056 dL_law_1057 dL_law_1058 dL_law_1059 dL_law_1060 ?_
  refine gl_arg C X (kk := 3) rfl rfl rfl (by omega) hn dL_law_1061 dL_law_1062 dL_law_1063 dL_law_1064 dL_law_1065 ?_
  have hw : Is m1.1 274 (0, 12) := ⟨by decide +kernel, by have := h.o1; omega⟩
  refine gl_callV C okmX12_sight lmL_116 ⟨nle rfl, nle rfl⟩ hw ⟨by decide, rfl⟩ hE npmX12_sight rfl (nle rfl) ⟨nle rfl, nle rfl⟩ dL_law_1066 ?_
  rintro _ m2 - ⟨rfl, h2⟩
  refine gl_c1 ?_
  exact gl_icmp_eq C (tgt := 1410) dL_law_1069 (by decide) (fun _ => next m2 h2) (fun hv => absurd rfl hv)
set_option maxRecDepth 100000 in
theorem law_24 (C : Cx mL D ty b p s mm #[Value.ref bs] meth c) (X : Scr b s bs Ln xs) {m : Me} {M i : Nat} (h : Rl M m) (hM : M < 2 ^ 18) (hi : i + 6 ≤ Ln) (hn : Ln ≤ 3072) (next : ∀ m2, Rl (M + 48) m2 → GL D ty b p l e s mm bs below meth c 1410 (LLs i) [] m2 328 27773) : GL D ty b p l e s mm bs below meth c 1074 (LLs i) [] m 328 27773 := by
  refine gl_aload_n C (q := 1) (i := 1) rfl rfl dL_law_1074 ?_
  refine gl_arg C X (kk := 1) rfl rfl rfl (by omega) hn dL_law_1075 dL_law_1076 dL_law_1077 dL_law_1078 dL_law_1079 ?_
  refine gl_callV C okmX11_wind lmL_117 ⟨nle rfl, nle rfl⟩ h.o0 ⟨by decide, rfl⟩ (pr_wind h hM) npmX11_wind rfl (nle rfl) ⟨nle rfl, nle rfl⟩ dL_law_1080 ?_
  rintro _ m1 hle ⟨v, rfl, hE⟩
  refine gl_c1 ?_
  refine gl_aload_n C (q := 2) (i := 2) rfl rfl dL_law_1083 ?_
  refine gl_arg C X (kk := 1) rfl rfl rfl (by omega) hn dL_law_1084 dL_law_1085 dL_law_1086 dL_law_1087 dL_law_1088 ?_
  have hw : Is m1.1 274 (0, 12) := ⟨by decide +kernel, by have := h.o1; omega⟩
  refine gl_callV C okmX12_wind lmL_120 ⟨nle rfl, nle rfl⟩ hw ⟨by decide, rfl⟩ hE npmX12_wind rfl (nle rfl) ⟨nle rfl, nle rfl⟩ dL_law_1089 ?_
  rintro _ m2 - ⟨rfl, h2⟩
  refine gl_c1 ?_
  exact gl_icmp_eq C (tgt := 1410) dL_law_1092 (by decide) (fun _ => next m2 h2) (fun hv => absurd rfl hv)
set_option maxRecDepth 100000 in
theorem law_25 (C : Cx mL D ty b p s mm #[Value.ref bs] meth c) (X : Scr b s bs Ln xs) {m : Me} {M i : Nat} (h : Rl M m) (hM : M < 2 ^ 18) (hi : i + 6 ≤ Ln) (hn : Ln ≤ 3072) (next : ∀ m2, Rl (M + 48) m2 → GL D ty b p l e s mm bs below meth c 1410 (LLs i) [] m2 328 27773) : GL D ty b p l e s mm bs below meth c 1097 (LLs i) [] m 328 27773 := by
  refine gl_aload_n C (q := 1) (i := 1) rfl rfl dL_law_1097 ?_
  refine gl_arg C X (kk := 1) rfl rfl rfl (by omega) hn dL_law_1098 dL_law_1099 dL_law_1100 dL_law_1101 dL_law_1102 ?_
  refine gl_arg C X (kk := 2) rfl rfl rfl (by omega) hn dL_law_1103 dL_law_1104 dL_law_1105 dL_law_1106 dL_law_1107 ?_
  refine gl_callV C okmX11_lent lmL_121 ⟨nle rfl, nle rfl⟩ h.o0 ⟨by decide, rfl⟩ (pr_lent h hM) npmX11_lent rfl (nle rfl) ⟨nle rfl, nle rfl⟩ dL_law_1108 ?_
  rintro _ m1 hle ⟨v, rfl, hE⟩
  refine gl_c1 ?_
  refine gl_aload_n C (q := 2) (i := 2) rfl rfl dL_law_1111 ?_
  refine gl_arg C X (kk := 1) rfl rfl rfl (by omega) hn dL_law_1112 dL_law_1113 dL_law_1114 dL_law_1115 dL_law_1116 ?_
  refine gl_arg C X (kk := 2) rfl rfl rfl (by omega) hn dL_law_1117 dL_law_1118 dL_law_1119 dL_law_1120 dL_law_1121 ?_
  have hw : Is m1.1 274 (0, 12) := ⟨by decide +kernel, by have := h.o1; omega⟩
  refine gl_callV C okmX12_lent lmL_124 ⟨nle rfl, nle rfl⟩ hw ⟨by decide, rfl⟩ hE npmX12_lent rfl (nle rfl) ⟨nle rfl, nle rfl⟩ dL_law_1122 ?_
  rintro _ m2 - ⟨rfl, h2⟩
  refine gl_c1 ?_
  exact gl_icmp_eq C (tgt := 1410) dL_law_1125 (by decide) (fun _ => next m2 h2) (fun hv => absurd rfl hv)
set_option maxRecDepth 100000 in
theorem law_26 (C : Cx mL D ty b p s mm #[Value.ref bs] meth c) (X : Scr b s bs Ln xs) {m : Me} {M i : Nat} (h : Rl M m) (hM : M < 2 ^ 18) (hi : i + 6 ≤ Ln) (hn : Ln ≤ 3072) (next : ∀ m2, Rl (M + 48) m2 → GL D ty b p l e s mm bs below meth c 1410 (LLs i) [] m2 328 27773) : GL D ty b p l e s mm bs below meth c 1130 (LLs i) [] m 328 27773 := by
  refine gl_aload_n C (q := 1) (i := 1) rfl rfl dL_law_1130 ?_
  refine gl_arg C X (kk := 1) rfl rfl rfl (by omega) hn dL_law_1131 dL_law_1132 dL_law_1133 dL_law_1134 dL_law_1135 ?_
  refine gl_callV C okmX11_gone lmL_125 ⟨nle rfl, nle rfl⟩ h.o0 ⟨by decide, rfl⟩ (pr_gone h hM) npmX11_gone rfl (nle rfl) ⟨nle rfl, nle rfl⟩ dL_law_1136 ?_
  rintro _ m1 hle ⟨v, rfl, hE⟩
  refine gl_c1 ?_
  refine gl_aload_n C (q := 2) (i := 2) rfl rfl dL_law_1139 ?_
  refine gl_arg C X (kk := 1) rfl rfl rfl (by omega) hn dL_law_1140 dL_law_1141 dL_law_1142 dL_law_1143 dL_law_1144 ?_
  have hw : Is m1.1 274 (0, 12) := ⟨by decide +kernel, by have := h.o1; omega⟩
  refine gl_callV C okmX12_gone lmL_128 ⟨nle rfl, nle rfl⟩ hw ⟨by decide, rfl⟩ hE npmX12_gone rfl (nle rfl) ⟨nle rfl, nle rfl⟩ dL_law_1145 ?_
  rintro _ m2 - ⟨rfl, h2⟩
  refine gl_c1 ?_
  exact gl_icmp_eq C (tgt := 1410) dL_law_1148 (by decide) (fun _ => next m2 h2) (fun hv => absurd rfl hv)
set_option maxRecDepth 100000 in
theorem law_27 (C : Cx mL D ty b p s mm #[Value.ref bs] meth c) (X : Scr b s bs Ln xs) {m : Me} {M i : Nat} (h : Rl M m) (hM : M < 2 ^ 18) (hi : i + 6 ≤ Ln) (hn : Ln ≤ 3072) (next : ∀ m2, Rl (M + 48) m2 → GL D ty b p l e s mm bs below meth c 1410 (LLs i) [] m2 328 27773) : GL D ty b p l e s mm bs below meth c 1153 (LLs i) [] m 328 27773 := by
  refine gl_aload_n C (q := 1) (i := 1) rfl rfl dL_law_1153 ?_
  refine gl_arg C X (kk := 1) rfl rfl rfl (by omega) hn dL_law_1154 dL_law_1155 dL_law_1156 dL_law_1157 dL_law_1158 ?_
  refine gl_arg C X (kk := 2) rfl rfl rfl (by omega) hn dL_law_1159 dL_law_1160 dL_law_1161 dL_law_1162 dL_law_1163 ?_
  refine gl_arg C X (kk := 3) rfl rfl rfl (by omega) hn dL_law_1164 dL_law_1165 dL_law_1166 dL_law_1167 dL_law_1168 ?_
  refine gl_callV C okmX11_year lmL_129 ⟨nle rfl, nle rfl⟩ h.o0 ⟨by decide, rfl⟩ (pr_year h hM) npmX11_year rfl (nle rfl) ⟨nle rfl, nle rfl⟩ dL_law_1169 ?_
  rintro _ m1 hle ⟨v, rfl, hE⟩
  refine gl_c1 ?_
  refine gl_aload_n C (q := 2) (i := 2) rfl rfl dL_law_1172 ?_
  refine gl_arg C X (kk := 1) rfl rfl rfl (by omega) hn dL_law_1173 dL_law_1174 dL_law_1175 dL_law_1176 dL_law_1177 ?_
  refine gl_arg C X (kk := 2) rfl rfl rfl (by omega) hn dL_law_1178 dL_law_1179 dL_law_1180 dL_law_1181 dL_law_1182 ?_
  refine gl_arg C X (kk := 3) rfl rfl rfl (by omega) hn dL_law_1183 dL_law_1184 dL_law_1185 dL_law_1186 dL_law_1187 ?_
  have hw : Is m1.1 274 (0, 12) := ⟨by decide +kernel, by have := h.o1; omega⟩
  refine gl_callV C okmX12_year lmL_132 ⟨nle rfl, nle rfl⟩ hw ⟨by decide, rfl⟩ hE npmX12_year rfl (nle rfl) ⟨nle rfl, nle rfl⟩ dL_law_1188 ?_
  rintro _ m2 - ⟨rfl, h2⟩
  refine gl_c1 ?_
  exact gl_icmp_eq C (tgt := 1410) dL_law_1191 (by decide) (fun _ => next m2 h2) (fun hv => absurd rfl hv)
set_option maxRecDepth 100000 in
theorem law_28 (C : Cx mL D ty b p s mm #[Value.ref bs] meth c) (X : Scr b s bs Ln xs) {m : Me} {M i : Nat} (h : Rl M m) (hM : M < 2 ^ 18) (hi : i + 6 ≤ Ln) (hn : Ln ≤ 3072) (next : ∀ m2, Rl (M + 48) m2 → GL D ty b p l e s mm bs below meth c 1410 (LLs i) [] m2 328 27773) : GL D ty b p l e s mm bs below meth c 1196 (LLs i) [] m 328 27773 := by
  refine gl_aload_n C (q := 1) (i := 1) rfl rfl dL_law_1196 ?_
  refine gl_arg C X (kk := 1) rfl rfl rfl (by omega) hn dL_law_1197 dL_law_1198 dL_law_1199 dL_law_1200 dL_law_1201 ?_
  refine gl_arg C X (kk := 2) rfl rfl rfl (by omega) hn dL_law_1202 dL_law_1203 dL_law_1204 dL_law_1205 dL_law_1206 ?_
  refine gl_arg C X (kk := 3) rfl rfl rfl (by omega) hn dL_law_1207 dL_law_1208 dL_law_1209 dL_law_1210 dL_law_1211 ?_
  refine gl_arg C X (kk := 4) rfl rfl rfl (by omega) hn dL_law_1212 dL_law_1213 dL_law_1214 dL_law_1215 dL_law_1216 ?_
  refine gl_callV C okmX11_tell lmL_133 ⟨nle rfl, nle rfl⟩ h.o0 ⟨by decide, rfl⟩ (pr_tell h hM) npmX11_tell rfl (nle rfl) ⟨nle rfl, nle rfl⟩ dL_law_1217 ?_
  rintro _ m1 hle ⟨v, rfl, hE⟩
  refine gl_c1 ?_
  refine gl_aload_n C (q := 2) (i := 2) rfl rfl dL_law_1220 ?_
  refine gl_arg C X (kk := 1) rfl rfl rfl (by omega) hn dL_law_1221 dL_law_1222 dL_law_1223 dL_law_1224 dL_law_1225 ?_
  refine gl_arg C X (kk := 2) rfl rfl rfl (by omega) hn dL_law_1226 dL_law_1227 dL_law_1228 dL_law_1229 dL_law_1230 ?_
  refine gl_arg C X (kk := 3) rfl rfl rfl (by omega) hn dL_law_1231 dL_law_1232 dL_law_1233 dL_law_1234 dL_law_1235 ?_
  refine gl_arg C X (kk := 4) rfl rfl rfl (by omega) hn dL_law_1236 dL_law_1237 dL_law_1238 dL_law_1239 dL_law_1240 ?_
  have hw : Is m1.1 274 (0, 12) := ⟨by decide +kernel, by have := h.o1; omega⟩
  refine gl_callV C okmX12_tell lmL_136 ⟨nle rfl, nle rfl⟩ hw ⟨by decide, rfl⟩ hE npmX12_tell rfl (nle rfl) ⟨nle rfl, nle rfl⟩ dL_law_1241 ?_
  rintro _ m2 - ⟨rfl, h2⟩
  refine gl_c1 ?_
  exact gl_icmp_eq C (tgt := 1410) dL_law_1244 (by decide) (fun _ => next m2 h2) (fun hv => absurd rfl hv)
set_option maxRecDepth 100000 in
theorem law_29 (C : Cx mL D ty b p s mm #[Value.ref bs] meth c) (X : Scr b s bs Ln xs) {m : Me} {M i : Nat} (h : Rl M m) (hM : M < 2 ^ 18) (hi : i + 6 ≤ Ln) (hn : Ln ≤ 3072) (next : ∀ m2, Rl (M + 48) m2 → GL D ty b p l e s mm bs below meth c 1410 (LLs i) [] m2 328 27773) : GL D ty b p l e s mm bs below meth c 1249 (LLs i) [] m 328 27773 := by
  refine gl_aload_n C (q := 1) (i := 1) rfl rfl dL_law_1249 ?_
  refine gl_callV C okmX11_forget lmL_137 ⟨nle rfl, nle rfl⟩ h.o0 ⟨by decide, rfl⟩ (pr_forget h hM) npmX11_forget rfl (nle rfl) ⟨nle rfl, nle rfl⟩ dL_law_1250 ?_
  rintro _ m1 hle ⟨v, rfl, hE⟩
  refine gl_c1 ?_
  refine gl_aload_n C (q := 2) (i := 2) rfl rfl dL_law_1253 ?_
  have hw : Is m1.1 274 (0, 12) := ⟨by decide +kernel, by have := h.o1; omega⟩
  refine gl_callV C okmX12_forget lmL_140 ⟨nle rfl, nle rfl⟩ hw ⟨by decide, rfl⟩ hE npmX12_forget rfl (nle rfl) ⟨nle rfl, nle rfl⟩ dL_law_1254 ?_
  rintro _ m2 - ⟨rfl, h2⟩
  refine gl_c1 ?_
  exact gl_icmp_eq C (tgt := 1410) dL_law_1257 (by decide) (fun _ => next m2 h2) (fun hv => absurd rfl hv)
set_option maxRecDepth 100000 in
theorem law_30 (C : Cx mL D ty b p s mm #[Value.ref bs] meth c) (X : Scr b s bs Ln xs) {m : Me} {M i : Nat} (h : Rl M m) (hM : M < 2 ^ 18) (hi : i + 6 ≤ Ln) (hn : Ln ≤ 3072) (next : ∀ m2, Rl (M + 48) m2 → GL D ty b p l e s mm bs below meth c 1410 (LLs i) [] m2 328 27773) : GL D ty b p l e s mm bs below meth c 1262 (LLs i) [] m 328 27773 := by
  refine gl_aload_n C (q := 1) (i := 1) rfl rfl dL_law_1262 ?_
  refine gl_arg C X (kk := 1) rfl rfl rfl (by omega) hn dL_law_1263 dL_law_1264 dL_law_1265 dL_law_1266 dL_law_1267 ?_
  refine gl_callV C okmX11_leaks lmL_141 ⟨nle rfl, nle rfl⟩ h.o0 ⟨by decide, rfl⟩ (pr_leaks h hM) npmX11_leaks rfl (nle rfl) ⟨nle rfl, nle rfl⟩ dL_law_1268 ?_
  rintro _ m1 hle ⟨v, rfl, hE⟩
  refine gl_c1 ?_
  refine gl_aload_n C (q := 2) (i := 2) rfl rfl dL_law_1271 ?_
  refine gl_arg C X (kk := 1) rfl rfl rfl (by omega) hn dL_law_1272 dL_law_1273 dL_law_1274 dL_law_1275 dL_law_1276 ?_
  have hw : Is m1.1 274 (0, 12) := ⟨by decide +kernel, by have := h.o1; omega⟩
  refine gl_callV C okmX12_leaks lmL_144 ⟨nle rfl, nle rfl⟩ hw ⟨by decide, rfl⟩ hE npmX12_leaks rfl (nle rfl) ⟨nle rfl, nle rfl⟩ dL_law_1277 ?_
  rintro _ m2 - ⟨rfl, h2⟩
  refine gl_c1 ?_
  exact gl_icmp_eq C (tgt := 1410) dL_law_1280 (by decide) (fun _ => next m2 h2) (fun hv => absurd rfl hv)
set_option maxRecDepth 100000 in
theorem law_31 (C : Cx mL D ty b p s mm #[Value.ref bs] meth c) (X : Scr b s bs Ln xs) {m : Me} {M i : Nat} (h : Rl M m) (hM : M < 2 ^ 18) (hi : i + 6 ≤ Ln) (hn : Ln ≤ 3072) (next : ∀ m2, Rl (M + 48) m2 → GL D ty b p l e s mm bs below meth c 1410 (LLs i) [] m2 328 27773) : GL D ty b p l e s mm bs below meth c 1285 (LLs i) [] m 328 27773 := by
  refine gl_aload_n C (q := 1) (i := 1) rfl rfl dL_law_1285 ?_
  refine gl_arg C X (kk := 1) rfl rfl rfl (by omega) hn dL_law_1286 dL_law_1287 dL_law_1288 dL_law_1289 dL_law_1290 ?_
  refine gl_callV C okmX11_sure lmL_145 ⟨nle rfl, nle rfl⟩ h.o0 ⟨by decide, rfl⟩ (pr_sure h hM) npmX11_sure rfl (nle rfl) ⟨nle rfl, nle rfl⟩ dL_law_1291 ?_
  rintro _ m1 hle ⟨v, rfl, hE⟩
  refine gl_c1 ?_
  refine gl_aload_n C (q := 2) (i := 2) rfl rfl dL_law_1294 ?_
  refine gl_arg C X (kk := 1) rfl rfl rfl (by omega) hn dL_law_1295 dL_law_1296 dL_law_1297 dL_law_1298 dL_law_1299 ?_
  have hw : Is m1.1 274 (0, 12) := ⟨by decide +kernel, by have := h.o1; omega⟩
  refine gl_callV C okmX12_sure lmL_148 ⟨nle rfl, nle rfl⟩ hw ⟨by decide, rfl⟩ hE npmX12_sure rfl (nle rfl) ⟨nle rfl, nle rfl⟩ dL_law_1300 ?_
  rintro _ m2 - ⟨rfl, h2⟩
  refine gl_c1 ?_
  exact gl_icmp_eq C (tgt := 1410) dL_law_1303 (by decide) (fun _ => next m2 h2) (fun hv => absurd rfl hv)
set_option maxRecDepth 100000 in
theorem law_32 (C : Cx mL D ty b p s mm #[Value.ref bs] meth c) (X : Scr b s bs Ln xs) {m : Me} {M i : Nat} (h : Rl M m) (hM : M < 2 ^ 18) (hi : i + 6 ≤ Ln) (hn : Ln ≤ 3072) (next : ∀ m2, Rl (M + 48) m2 → GL D ty b p l e s mm bs below meth c 1410 (LLs i) [] m2 328 27773) : GL D ty b p l e s mm bs below meth c 1308 (LLs i) [] m 328 27773 := by
  refine gl_aload_n C (q := 1) (i := 1) rfl rfl dL_law_1308 ?_
  refine gl_arg C X (kk := 1) rfl rfl rfl (by omega) hn dL_law_1309 dL_law_1310 dL_law_1311 dL_law_1312 dL_law_1313 ?_
  refine gl_arg C X (kk := 2) rfl rfl rfl (by omega) hn dL_law_1314 dL_law_1315 dL_law_1316 dL_law_1317 dL_law_1318 ?_
  refine gl_callV C okmX11_ask lmL_149 ⟨nle rfl, nle rfl⟩ h.o0 ⟨by decide, rfl⟩ (pr_ask h hM) npmX11_ask rfl (nle rfl) ⟨nle rfl, nle rfl⟩ dL_law_1319 ?_
  rintro _ m1 hle ⟨v, rfl, hE⟩
  refine gl_c1 ?_
  refine gl_aload_n C (q := 2) (i := 2) rfl rfl dL_law_1322 ?_
  refine gl_arg C X (kk := 1) rfl rfl rfl (by omega) hn dL_law_1323 dL_law_1324 dL_law_1325 dL_law_1326 dL_law_1327 ?_
  refine gl_arg C X (kk := 2) rfl rfl rfl (by omega) hn dL_law_1328 dL_law_1329 dL_law_1330 dL_law_1331 dL_law_1332 ?_
  have hw : Is m1.1 274 (0, 12) := ⟨by decide +kernel, by have := h.o1; omega⟩
  refine gl_callV C okmX12_ask lmL_152 ⟨nle rfl, nle rfl⟩ hw ⟨by decide, rfl⟩ hE npmX12_ask rfl (nle rfl) ⟨nle rfl, nle rfl⟩ dL_law_1333 ?_
  rintro _ m2 - ⟨rfl, h2⟩
  refine gl_c1 ?_
  exact gl_icmp_eq C (tgt := 1410) dL_law_1336 (by decide) (fun _ => next m2 h2) (fun hv => absurd rfl hv)
set_option maxRecDepth 100000 in
theorem law_33 (C : Cx mL D ty b p s mm #[Value.ref bs] meth c) (X : Scr b s bs Ln xs) {m : Me} {M i : Nat} (h : Rl M m) (hM : M < 2 ^ 18) (hi : i + 6 ≤ Ln) (hn : Ln ≤ 3072) (next : ∀ m2, Rl (M + 48) m2 → GL D ty b p l e s mm bs below meth c 1410 (LLs i) [] m2 328 27773) : GL D ty b p l e s mm bs below meth c 1341 (LLs i) [] m 328 27773 := by
  refine gl_aload_n C (q := 1) (i := 1) rfl rfl dL_law_1341 ?_
  refine gl_arg C X (kk := 1) rfl rfl rfl (by omega) hn dL_law_1342 dL_law_1343 dL_law_1344 dL_law_1345 dL_law_1346 ?_
  refine gl_callV C okmX11_hold lmL_153 ⟨nle rfl, nle rfl⟩ h.o0 ⟨by decide, rfl⟩ (pr_hold h hM) npmX11_hold rfl (nle rfl) ⟨nle rfl, nle rfl⟩ dL_law_1347 ?_
  rintro _ m1 hle ⟨v, rfl, hE⟩
  refine gl_c1 ?_
  refine gl_aload_n C (q := 2) (i := 2) rfl rfl dL_law_1350 ?_
  refine gl_arg C X (kk := 1) rfl rfl rfl (by omega) hn dL_law_1351 dL_law_1352 dL_law_1353 dL_law_1354 dL_law_1355 ?_
  have hw : Is m1.1 274 (0, 12) := ⟨by decide +kernel, by have := h.o1; omega⟩
  refine gl_callV C okmX12_hold lmL_157 ⟨nle rfl, nle rfl⟩ hw ⟨by decide, rfl⟩ hE npmX12_hold rfl (nle rfl) ⟨nle rfl, nle rfl⟩ dL_law_1356 ?_
  rintro _ m2 - ⟨rfl, h2⟩
  refine gl_c1 ?_
  exact gl_icmp_eq C (tgt := 1410) dL_law_1359 (by decide) (fun _ => next m2 h2) (fun hv => absurd rfl hv)
set_option maxRecDepth 100000 in
theorem law_34 (C : Cx mL D ty b p s mm #[Value.ref bs] meth c) (X : Scr b s bs Ln xs) {m : Me} {M i : Nat} (h : Rl M m) (hM : M < 2 ^ 18) (hi : i + 6 ≤ Ln) (hn : Ln ≤ 3072) (next : ∀ m2, Rl (M + 48) m2 → GL D ty b p l e s mm bs below meth c 1410 (LLs i) [] m2 328 27773) : GL D ty b p l e s mm bs below meth c 1364 (LLs i) [] m 328 27773 := by
  refine gl_aload_n C (q := 1) (i := 1) rfl rfl dL_law_1364 ?_
  refine gl_arg C X (kk := 1) rfl rfl rfl (by omega) hn dL_law_1365 dL_law_1366 dL_law_1367 dL_law_1368 dL_law_1369 ?_
  refine gl_callV C okmX11_restore lmL_158 ⟨nle rfl, nle rfl⟩ h.o0 ⟨by decide, rfl⟩ (pr_restore h hM) npmX11_restore rfl (nle rfl) ⟨nle rfl, nle rfl⟩ dL_law_1370 ?_
  rintro _ m1 hle ⟨v, rfl, hE⟩
  refine gl_c1 ?_
  refine gl_aload_n C (q := 2) (i := 2) rfl rfl dL_law_1373 ?_
  refine gl_arg C X (kk := 1) rfl rfl rfl (by omega) hn dL_law_1374 dL_law_1375 dL_law_1376 dL_law_1377 dL_law_1378 ?_
  have hw : Is m1.1 274 (0, 12) := ⟨by decide +kernel, by have := h.o1; omega⟩
  refine gl_callV C okmX12_restore lmL_161 ⟨nle rfl, nle rfl⟩ hw ⟨by decide, rfl⟩ hE npmX12_restore rfl (nle rfl) ⟨nle rfl, nle rfl⟩ dL_law_1379 ?_
  rintro _ m2 - ⟨rfl, h2⟩
  refine gl_c1 ?_
  exact gl_icmp_eq C (tgt := 1410) dL_law_1382 (by decide) (fun _ => next m2 h2) (fun hv => absurd rfl hv)
set_option maxRecDepth 100000 in
theorem law_35 (C : Cx mL D ty b p s mm #[Value.ref bs] meth c) (X : Scr b s bs Ln xs) {m : Me} {M i : Nat} (h : Rl M m) (hM : M < 2 ^ 18) (hi : i + 6 ≤ Ln) (hn : Ln ≤ 3072) (next : ∀ m2, Rl (M + 48) m2 → GL D ty b p l e s mm bs below meth c 1410 (LLs i) [] m2 328 27773) : GL D ty b p l e s mm bs below meth c 1387 (LLs i) [] m 328 27773 := by
  refine gl_aload_n C (q := 1) (i := 1) rfl rfl dL_law_1387 ?_
  refine gl_arg C X (kk := 1) rfl rfl rfl (by omega) hn dL_law_1388 dL_law_1389 dL_law_1390 dL_law_1391 dL_law_1392 ?_
  refine gl_callV C okmX11_count lmL_162 ⟨nle rfl, nle rfl⟩ h.o0 ⟨by decide, rfl⟩ (pr_count h hM) npmX11_count rfl (nle rfl) ⟨nle rfl, nle rfl⟩ dL_law_1393 ?_
  rintro _ m1 hle ⟨v, rfl, hE⟩
  refine gl_c1 ?_
  refine gl_aload_n C (q := 2) (i := 2) rfl rfl dL_law_1396 ?_
  refine gl_arg C X (kk := 1) rfl rfl rfl (by omega) hn dL_law_1397 dL_law_1398 dL_law_1399 dL_law_1400 dL_law_1401 ?_
  have hw : Is m1.1 274 (0, 12) := ⟨by decide +kernel, by have := h.o1; omega⟩
  refine gl_callV C okmX12_count lmL_165 ⟨nle rfl, nle rfl⟩ hw ⟨by decide, rfl⟩ hE npmX12_count rfl (nle rfl) ⟨nle rfl, nle rfl⟩ dL_law_1402 ?_
  rintro _ m2 - ⟨rfl, h2⟩
  refine gl_c1 ?_
  exact gl_icmp_eq C (tgt := 1410) dL_law_1405 (by decide) (fun _ => next m2 h2) (fun hv => absurd rfl hv)
set_option maxRecDepth 100000 in
set_option maxHeartbeats 8000000 in
/-- the law's loop: t calls are done -/
theorem law_loop (C : Cx mL D ty b p s mm #[Value.ref bs] meth c) (X : Scr b s bs Ln xs) (hn : Ln ≤ 3072) : ∀ (n t : Nat) (m : Me), Rl (48 * t) m → 6 * t ≤ Ln + 5 → Ln + 6 ≤ 6 * t + n → GL D ty b p l e s mm bs below meth c 18 (LLs (6 * t)) [] m 328 27773 := by
  intro n
  induction n with
  | zero => intro t m h h1 h2; exfalso; omega
  | succ n ih =>
    intro t m h h1 h2
    refine gl_iload_n C (q := 3) (i := 3) rfl rfl dL_law_18 ?_
    refine gl_scr C X rfl dL_law_19 ?_
    refine gl_slen C X dL_law_20 ?_
    refine gl_bipush C (v := nI 6) (by decide) dL_law_21 ?_
    refine gl_isub C dL_law_23 ?_
    refine gl_icmp_gt C (tgt := 1416) dL_law_24 (by decide) (fun hgt => ?_) (fun hle => ?_)
    · refine gl_iconst C (v := 1) (by decide) dL_law_1416 ?_
      intro H locs ls hl hH hS
      refine va_forget (fun q hq => by rw [X.2.2.2]; exact hS.2.2 q hq) ?_
      refine W.widen (k := 600000) (n := 7302249) (Nat.le_of_ble_eq_true rfl) (Nat.le_of_ble_eq_true rfl) ?_
      exact lw_ret C.1 C.2.1 C.2.2.2.1 C.2.2.2.2.2.2.1 dL_law_1417
    · have hlt : 6 * t + 6 ≤ Ln := nI_le6 (by omega) hn hle
      have nxt : ∀ m2, Rl (48 * t + 48) m2 → GL D ty b p l e s mm bs below meth c 1410 (LLs (6 * t)) [] m2 328 27773 := fun m2 h2 => by
        refine gl_iinc C (i := 3) dL_law_1410 (nle rfl) rfl ?_
        refine gl_goto C (tgt := 18) dL_law_1413 (by decide) ?_
        refine gl_L (LLs (6 * (t + 1))) ?_ (ih (t + 1) m2 h2 (by omega) (by omega))
        show ([some (.retAddr 200), some (.ref 0), some (.ref 274), some (.int (nI (6 * t + 6)))] : List (Option Value)) = [some (.retAddr 200), some (.ref 0), some (.ref 274), some (.int (nI (6 * t) + nI 6))]
        rw [nI_add]
      refine gl_scr C X rfl dL_law_27 ?_
      refine gl_iload_n C (q := 3) (i := 3) rfl rfl dL_law_28 ?_
      refine gl_sld C X (j := 6 * t) rfl (by omega) hn dL_law_29 ?_
      refine gl_bipush C (v := nI 63) (by decide) dL_law_30 ?_
      refine gl_iand C dL_law_32 ?_
      obtain ⟨q, hq, hx⟩ := x63 (xs (6 * t))
      rw [hx]
      by_cases h36 : 36 ≤ q
      · refine gl_tswOut C (tgt := 1410) dL_law_33 (Or.inr ?_) (by decide) (nxt m (Rl.le h (by omega)))
        rw [show (nI q).toInt = (q : Int) from Int32.toInt_ofNat_of_lt (by omega)]
        omega
      rcases (show q = 0 ∨ q = 1 ∨ q = 2 ∨ q = 3 ∨ q = 4 ∨ q = 5 ∨ q = 6 ∨ q = 7 ∨ q = 8 ∨ q = 9 ∨ q = 10 ∨ q = 11 ∨ q = 12 ∨ q = 13 ∨ q = 14 ∨ q = 15 ∨ q = 16 ∨ q = 17 ∨ q = 18 ∨ q = 19 ∨ q = 20 ∨ q = 21 ∨ q = 22 ∨ q = 23 ∨ q = 24 ∨ q = 25 ∨ q = 26 ∨ q = 27 ∨ q = 28 ∨ q = 29 ∨ q = 30 ∨ q = 31 ∨ q = 32 ∨ q = 33 ∨ q = 34 ∨ q = 35 by omega) with rfl | rfl | rfl | rfl | rfl | rfl | rfl | rfl | rfl | rfl | rfl | rfl | rfl | rfl | rfl | rfl | rfl | rfl | rfl | rfl | rfl | rfl | rfl | rfl | rfl | rfl | rfl | rfl | rfl | rfl | rfl | rfl | rfl | rfl | rfl | rfl
      · exact gl_tswIn C (off := 159) (tgt := 192) dL_law_33 (by decide) (by decide) (by decide) (by decide) (law_0 C X h (by omega) hlt hn nxt)
      · exact gl_tswIn C (off := 222) (tgt := 255) dL_law_33 (by decide) (by decide) (by decide) (by decide) (law_1 C X h (by omega) hlt hn nxt)
      · exact gl_tswIn C (off := 245) (tgt := 278) dL_law_33 (by decide) (by decide) (by decide) (by decide) (law_2 C X h (by omega) hlt hn nxt)
      · exact gl_tswIn C (off := 258) (tgt := 291) dL_law_33 (by decide) (by decide) (by decide) (by decide) (law_3 C X h (by omega) hlt hn nxt)
      · exact gl_tswIn C (off := 271) (tgt := 304) dL_law_33 (by decide) (by decide) (by decide) (by decide) (law_4 C X h (by omega) hlt hn nxt)
      · exact gl_tswIn C (off := 314) (tgt := 347) dL_law_33 (by decide) (by decide) (by decide) (by decide) (law_5 C X h (by omega) hlt hn nxt)
      · exact gl_tswIn C (off := 347) (tgt := 380) dL_law_33 (by decide) (by decide) (by decide) (by decide) (law_6 C X h (by omega) hlt hn nxt)
      · exact gl_tswIn C (off := 380) (tgt := 413) dL_law_33 (by decide) (by decide) (by decide) (by decide) (law_7 C X h (by omega) hlt hn nxt)
      · exact gl_tswIn C (off := 433) (tgt := 466) dL_law_33 (by decide) (by decide) (by decide) (by decide) (law_8 C X h (by omega) hlt hn nxt)
      · exact gl_tswIn C (off := 476) (tgt := 509) dL_law_33 (by decide) (by decide) (by decide) (by decide) (law_9 C X h (by omega) hlt hn nxt)
      · exact gl_tswIn C (off := 519) (tgt := 552) dL_law_33 (by decide) (by decide) (by decide) (by decide) (law_10 C X h (by omega) hlt hn nxt)
      · exact gl_tswIn C (off := 542) (tgt := 575) dL_law_33 (by decide) (by decide) (by decide) (by decide) (law_11 C X h (by omega) hlt hn nxt)
      · exact gl_tswIn C (off := 555) (tgt := 588) dL_law_33 (by decide) (by decide) (by decide) (by decide) (law_12 C X h (by omega) hlt hn nxt)
      · exact gl_tswIn C (off := 598) (tgt := 631) dL_law_33 (by decide) (by decide) (by decide) (by decide) (law_13 C X h (by omega) hlt hn nxt)
      · exact gl_tswIn C (off := 641) (tgt := 674) dL_law_33 (by decide) (by decide) (by decide) (by decide) (law_14 C X h (by omega) hlt hn nxt)
      · exact gl_tswIn C (off := 674) (tgt := 707) dL_law_33 (by decide) (by decide) (by decide) (by decide) (law_15 C X h (by omega) hlt hn nxt)
      · exact gl_tswIn C (off := 727) (tgt := 760) dL_law_33 (by decide) (by decide) (by decide) (by decide) (law_16 C X h (by omega) hlt hn nxt)
      · exact gl_tswIn C (off := 750) (tgt := 783) dL_law_33 (by decide) (by decide) (by decide) (by decide) (law_17 C X h (by omega) hlt hn nxt)
      · exact gl_tswIn C (off := 783) (tgt := 816) dL_law_33 (by decide) (by decide) (by decide) (by decide) (law_18 C X h (by omega) hlt hn nxt)
      · exact gl_tswIn C (off := 816) (tgt := 849) dL_law_33 (by decide) (by decide) (by decide) (by decide) (law_19 C X h (by omega) hlt hn nxt)
      · exact gl_tswIn C (off := 829) (tgt := 862) dL_law_33 (by decide) (by decide) (by decide) (by decide) (law_20 C X h (by omega) hlt hn nxt)
      · exact gl_tswIn C (off := 882) (tgt := 915) dL_law_33 (by decide) (by decide) (by decide) (by decide) (law_21 C X h (by omega) hlt hn nxt)
      · exact gl_tswIn C (off := 945) (tgt := 978) dL_law_33 (by decide) (by decide) (by decide) (by decide) (law_22 C X h (by omega) hlt hn nxt)
      · exact gl_tswIn C (off := 998) (tgt := 1031) dL_law_33 (by decide) (by decide) (by decide) (by decide) (law_23 C X h (by omega) hlt hn nxt)
      · exact gl_tswIn C (off := 1041) (tgt := 1074) dL_law_33 (by decide) (by decide) (by decide) (by decide) (law_24 C X h (by omega) hlt hn nxt)
      · exact gl_tswIn C (off := 1064) (tgt := 1097) dL_law_33 (by decide) (by decide) (by decide) (by decide) (law_25 C X h (by omega) hlt hn nxt)
      · exact gl_tswIn C (off := 1097) (tgt := 1130) dL_law_33 (by decide) (by decide) (by decide) (by decide) (law_26 C X h (by omega) hlt hn nxt)
      · exact gl_tswIn C (off := 1120) (tgt := 1153) dL_law_33 (by decide) (by decide) (by decide) (by decide) (law_27 C X h (by omega) hlt hn nxt)
      · exact gl_tswIn C (off := 1163) (tgt := 1196) dL_law_33 (by decide) (by decide) (by decide) (by decide) (law_28 C X h (by omega) hlt hn nxt)
      · exact gl_tswIn C (off := 1216) (tgt := 1249) dL_law_33 (by decide) (by decide) (by decide) (by decide) (law_29 C X h (by omega) hlt hn nxt)
      · exact gl_tswIn C (off := 1229) (tgt := 1262) dL_law_33 (by decide) (by decide) (by decide) (by decide) (law_30 C X h (by omega) hlt hn nxt)
      · exact gl_tswIn C (off := 1252) (tgt := 1285) dL_law_33 (by decide) (by decide) (by decide) (by decide) (law_31 C X h (by omega) hlt hn nxt)
      · exact gl_tswIn C (off := 1275) (tgt := 1308) dL_law_33 (by decide) (by decide) (by decide) (by decide) (law_32 C X h (by omega) hlt hn nxt)
      · exact gl_tswIn C (off := 1308) (tgt := 1341) dL_law_33 (by decide) (by decide) (by decide) (by decide) (law_33 C X h (by omega) hlt hn nxt)
      · exact gl_tswIn C (off := 1331) (tgt := 1364) dL_law_33 (by decide) (by decide) (by decide) (by decide) (law_34 C X h (by omega) hlt hn nxt)
      · exact gl_tswIn C (off := 1354) (tgt := 1387) dL_law_33 (by decide) (by decide) (by decide) (by decide) (law_35 C X h (by omega) hlt hn nxt)
end LAWLOOP
