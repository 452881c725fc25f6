/-! the law's cases -/
section ZLC
variable {X : zX} {p : Program} {l : Launch} {e : Env} {s : State} {m : MethodId} {below : List Frame} {meth : Method} {c : Code} {σ0 σ : zHp} {loc0 : zK → Nat} {b n : Nat} {xs : Nat → Int32} {cells slots : Nat}
set_option maxRecDepth 100000 in
set_option maxHeartbeats 4000000 in
theorem lw_c0 (K : LwC X p l s m b meth c n xs) {x : Nat → Int32} {a : Nat → Nat → Int32} {i : Nat} (hS : lwS x a σ) (hi : i + 6 ≤ n) (hc : cells + 10 ≤ 601024 ∧ slots + 200 ≤ 7293034) (kk : ∀ (x : Nat → Int32) (a : Nat → Nat → Int32) (σ : zHp), lwS x a σ → LwG X p l e s m b below meth c σ0 loc0 (cells + 10) (slots + 200) σ 1733 (lw_L b i) []) : LwG X p l e s m b below meth c σ0 loc0 cells slots σ 156 (lw_L b i) [] := by
  have C := K.1
  obtain ⟨-, hX, hbl, hz, hn, -⟩ := id K
  obtain ⟨hI, hD, hM, f0, h14⟩ := hS
  refine z_aload_n (i := 1) C dL_law_156 rfl rfl ?_
  refine z_arg C hX hbl hz (i := i) (j := 1) (by omega) hn (by decide) rfl rfl dL_law_157 dL_law_158 dL_law_160 dL_law_161 dL_law_162 ?_
  refine z_aload_n (i := 3) C dL_law_163 rfl rfl ?_
  refine z_callSX C Y_L_pass sm_yL_pass ml_RL_100 (c_L_pass l hD hI h14) dL_law_164 rfl rfl (fun _ => Nat.le_of_ble_eq_true rfl) ⟨Nat.le_of_ble_eq_true rfl, Nat.le_of_ble_eq_true rfl⟩ hc (z_ri (fun r9 σ1 h1 => ?_)) z_nx
  refine z_istore C dL_law_167 (by decide) ?_
  have e9 := h1.1
  subst e9
  have hM1 := hM.mv h1.2.1
  refine z_aload_n (i := 2) C dL_law_169 rfl rfl ?_
  refine z_arg C hX hbl hz (i := i) (j := 1) (by omega) hn (by decide) rfl rfl dL_law_170 dL_law_171 dL_law_173 dL_law_174 dL_law_175 ?_
  refine z_callV C Y_X7_pass V_X7_pass ml_RL_105 (c_X7_pass l hM1 hI.1) dL_law_176 rfl rfl hM1.1 ⟨_, _, rfl⟩ (fun _ => Nat.le_of_ble_eq_true rfl) ⟨Nat.le_of_ble_eq_true rfl, Nat.le_of_ble_eq_true rfl⟩ hc (z_ri (fun r8 σ2 h2 => ?_)) (z_nx)
  obtain ⟨x2, a2, f2, hM2, hD2, hI2, h31, h142, hv⟩ := lw_mid h1 h2 hI (ik_pass hI)
  exact lw_tail K hM2 hD2 hI2 h31 h142 (fun h => hv h trivial) dL_law_179 dL_law_181 dL_law_182 dL_law_185 dL_law_187 dL_law_192 dL_law_194 dL_law_197 dL_law_198 dL_law_199 dL_law_200 dL_law_202 dL_law_203 dL_law_204 dL_law_209 (by decide) hc kk
set_option maxRecDepth 100000 in
set_option maxHeartbeats 4000000 in
theorem lw_c1 (K : LwC X p l s m b meth c n xs) {x : Nat → Int32} {a : Nat → Nat → Int32} {i : Nat} (hS : lwS x a σ) (hi : i + 6 ≤ n) (hc : cells + 10 ≤ 601024 ∧ slots + 200 ≤ 7293034) (kk : ∀ (x : Nat → Int32) (a : Nat → Nat → Int32) (σ : zHp), lwS x a σ → LwG X p l e s m b below meth c σ0 loc0 (cells + 10) (slots + 200) σ 1733 (lw_L b i) []) : LwG X p l e s m b below meth c σ0 loc0 cells slots σ 212 (lw_L b i) [] := by
  have C := K.1
  obtain ⟨-, hX, hbl, hz, hn, -⟩ := id K
  obtain ⟨hI, hD, hM, f0, h14⟩ := hS
  refine z_aload_n (i := 1) C dL_law_212 rfl rfl ?_
  refine z_arg C hX hbl hz (i := i) (j := 1) (by omega) hn (by decide) rfl rfl dL_law_213 dL_law_214 dL_law_216 dL_law_217 dL_law_218 ?_
  refine z_arg C hX hbl hz (i := i) (j := 2) (by omega) hn (by decide) rfl rfl dL_law_219 dL_law_220 dL_law_222 dL_law_223 dL_law_224 ?_
  refine z_arg C hX hbl hz (i := i) (j := 3) (by omega) hn (by decide) rfl rfl dL_law_225 dL_law_226 dL_law_228 dL_law_229 dL_law_230 ?_
  refine z_aload_n (i := 3) C dL_law_231 rfl rfl ?_
  refine z_callSX C Y_L_addAccount sm_yL_addAccount ml_RL_109 (c_L_addAccount l hD hI h14) dL_law_232 rfl rfl (fun _ => Nat.le_of_ble_eq_true rfl) ⟨Nat.le_of_ble_eq_true rfl, Nat.le_of_ble_eq_true rfl⟩ hc (z_ri (fun r9 σ1 h1 => ?_)) z_nx
  refine z_istore C dL_law_235 (by decide) ?_
  have e9 := h1.1
  subst e9
  have hM1 := hM.mv h1.2.1
  refine z_aload_n (i := 2) C dL_law_237 rfl rfl ?_
  refine z_arg C hX hbl hz (i := i) (j := 1) (by omega) hn (by decide) rfl rfl dL_law_238 dL_law_239 dL_law_241 dL_law_242 dL_law_243 ?_
  refine z_arg C hX hbl hz (i := i) (j := 2) (by omega) hn (by decide) rfl rfl dL_law_244 dL_law_245 dL_law_247 dL_law_248 dL_law_249 ?_
  refine z_arg C hX hbl hz (i := i) (j := 3) (by omega) hn (by decide) rfl rfl dL_law_250 dL_law_251 dL_law_253 dL_law_254 dL_law_255 ?_
  refine z_callV C Y_X7_addAccount V_X7_addAccount ml_RL_112 (c_X7_addAccount l hM1 hI.1) dL_law_256 rfl rfl hM1.1 ⟨_, _, rfl⟩ (fun _ => Nat.le_of_ble_eq_true rfl) ⟨Nat.le_of_ble_eq_true rfl, Nat.le_of_ble_eq_true rfl⟩ hc (z_ri (fun r8 σ2 h2 => ?_)) (z_nx)
  obtain ⟨x2, a2, f2, hM2, hD2, hI2, h31, h142, hv⟩ := lw_mid h1 h2 hI (ik_addAccount hI)
  exact lw_tail K hM2 hD2 hI2 h31 h142 (fun h => hv h trivial) dL_law_259 dL_law_261 dL_law_262 dL_law_265 dL_law_267 dL_law_272 dL_law_274 dL_law_277 dL_law_278 dL_law_279 dL_law_280 dL_law_282 dL_law_283 dL_law_284 dL_law_289 (by decide) hc kk
set_option maxRecDepth 100000 in
set_option maxHeartbeats 4000000 in
theorem lw_c2 (K : LwC X p l s m b meth c n xs) {x : Nat → Int32} {a : Nat → Nat → Int32} {i : Nat} (hS : lwS x a σ) (hi : i + 6 ≤ n) (hc : cells + 10 ≤ 601024 ∧ slots + 200 ≤ 7293034) (kk : ∀ (x : Nat → Int32) (a : Nat → Nat → Int32) (σ : zHp), lwS x a σ → LwG X p l e s m b below meth c σ0 loc0 (cells + 10) (slots + 200) σ 1733 (lw_L b i) []) : LwG X p l e s m b below meth c σ0 loc0 cells slots σ 292 (lw_L b i) [] := by
  have C := K.1
  obtain ⟨-, hX, hbl, hz, hn, -⟩ := id K
  obtain ⟨hI, hD, hM, f0, h14⟩ := hS
  refine z_aload_n (i := 1) C dL_law_292 rfl rfl ?_
  refine z_arg C hX hbl hz (i := i) (j := 1) (by omega) hn (by decide) rfl rfl dL_law_293 dL_law_294 dL_law_296 dL_law_297 dL_law_298 ?_
  refine z_arg C hX hbl hz (i := i) (j := 2) (by omega) hn (by decide) rfl rfl dL_law_299 dL_law_300 dL_law_302 dL_law_303 dL_law_304 ?_
  refine z_arg C hX hbl hz (i := i) (j := 3) (by omega) hn (by decide) rfl rfl dL_law_305 dL_law_306 dL_law_308 dL_law_309 dL_law_310 ?_
  refine z_arg C hX hbl hz (i := i) (j := 4) (by omega) hn (by decide) rfl rfl dL_law_311 dL_law_312 dL_law_314 dL_law_315 dL_law_316 ?_
  refine z_arg C hX hbl hz (i := i) (j := 5) (by omega) hn (by decide) rfl rfl dL_law_317 dL_law_318 dL_law_320 dL_law_321 dL_law_322 ?_
  refine z_aload_n (i := 3) C dL_law_323 rfl rfl ?_
  refine z_callSX C Y_L_putRule sm_yL_putRule ml_RL_113 (c_L_putRule l hD hI h14) dL_law_324 rfl rfl (fun _ => Nat.le_of_ble_eq_true rfl) ⟨Nat.le_of_ble_eq_true rfl, Nat.le_of_ble_eq_true rfl⟩ hc (z_ri (fun r9 σ1 h1 => ?_)) z_nx
  refine z_istore C dL_law_327 (by decide) ?_
  have e9 := h1.1
  subst e9
  have hM1 := hM.mv h1.2.1
  refine z_aload_n (i := 2) C dL_law_329 rfl rfl ?_
  refine z_arg C hX hbl hz (i := i) (j := 1) (by omega) hn (by decide) rfl rfl dL_law_330 dL_law_331 dL_law_333 dL_law_334 dL_law_335 ?_
  refine z_arg C hX hbl hz (i := i) (j := 2) (by omega) hn (by decide) rfl rfl dL_law_336 dL_law_337 dL_law_339 dL_law_340 dL_law_341 ?_
  refine z_arg C hX hbl hz (i := i) (j := 3) (by omega) hn (by decide) rfl rfl dL_law_342 dL_law_343 dL_law_345 dL_law_346 dL_law_347 ?_
  refine z_arg C hX hbl hz (i := i) (j := 4) (by omega) hn (by decide) rfl rfl dL_law_348 dL_law_349 dL_law_351 dL_law_352 dL_law_353 ?_
  refine z_arg C hX hbl hz (i := i) (j := 5) (by omega) hn (by decide) rfl rfl dL_law_354 dL_law_355 dL_law_357 dL_law_358 dL_law_359 ?_
  refine z_callV C Y_X7_putRule V_X7_putRule ml_RL_116 (c_X7_putRule l hM1 hI.1) dL_law_360 rfl rfl hM1.1 ⟨_, _, rfl⟩ (fun _ => Nat.le_of_ble_eq_true rfl) ⟨Nat.le_of_ble_eq_true rfl, Nat.le_of_ble_eq_true rfl⟩ hc (z_ri (fun r8 σ2 h2 => ?_)) (z_nx)
  obtain ⟨x2, a2, f2, hM2, hD2, hI2, h31, h142, hv⟩ := lw_mid h1 h2 hI (ik_putRule hI)
  exact lw_tail K hM2 hD2 hI2 h31 h142 (fun h => hv h trivial) dL_law_363 dL_law_365 dL_law_366 dL_law_369 dL_law_371 dL_law_376 dL_law_378 dL_law_381 dL_law_382 dL_law_383 dL_law_384 dL_law_386 dL_law_387 dL_law_388 dL_law_393 (by decide) hc kk
set_option maxRecDepth 100000 in
set_option maxHeartbeats 4000000 in
theorem lw_c3 (K : LwC X p l s m b meth c n xs) {x : Nat → Int32} {a : Nat → Nat → Int32} {i : Nat} (hS : lwS x a σ) (hi : i + 6 ≤ n) (hc : cells + 10 ≤ 601024 ∧ slots + 200 ≤ 7293034) (kk : ∀ (x : Nat → Int32) (a : Nat → Nat → Int32) (σ : zHp), lwS x a σ → LwG X p l e s m b below meth c σ0 loc0 (cells + 10) (slots + 200) σ 1733 (lw_L b i) []) : LwG X p l e s m b below meth c σ0 loc0 cells slots σ 396 (lw_L b i) [] := by
  have C := K.1
  obtain ⟨-, hX, hbl, hz, hn, -⟩ := id K
  obtain ⟨hI, hD, hM, f0, h14⟩ := hS
  refine z_aload_n (i := 1) C dL_law_396 rfl rfl ?_
  refine z_arg C hX hbl hz (i := i) (j := 1) (by omega) hn (by decide) rfl rfl dL_law_397 dL_law_398 dL_law_400 dL_law_401 dL_law_402 ?_
  refine z_aload_n (i := 3) C dL_law_403 rfl rfl ?_
  refine z_callSX C Y_L_removeRule sm_yL_removeRule ml_RL_117 (c_L_removeRule l hD hI h14) dL_law_404 rfl rfl (fun _ => Nat.le_of_ble_eq_true rfl) ⟨Nat.le_of_ble_eq_true rfl, Nat.le_of_ble_eq_true rfl⟩ hc (z_ri (fun r9 σ1 h1 => ?_)) z_nx
  refine z_istore C dL_law_407 (by decide) ?_
  have e9 := h1.1
  subst e9
  have hM1 := hM.mv h1.2.1
  refine z_aload_n (i := 2) C dL_law_409 rfl rfl ?_
  refine z_arg C hX hbl hz (i := i) (j := 1) (by omega) hn (by decide) rfl rfl dL_law_410 dL_law_411 dL_law_413 dL_law_414 dL_law_415 ?_
  refine z_callV C Y_X7_removeRule V_X7_removeRule ml_RL_119 (c_X7_removeRule l hM1 hI.1) dL_law_416 rfl rfl hM1.1 ⟨_, _, rfl⟩ (fun _ => Nat.le_of_ble_eq_true rfl) ⟨Nat.le_of_ble_eq_true rfl, Nat.le_of_ble_eq_true rfl⟩ hc (z_ri (fun r8 σ2 h2 => ?_)) (z_nx)
  obtain ⟨x2, a2, f2, hM2, hD2, hI2, h31, h142, hv⟩ := lw_mid h1 h2 hI (ik_removeRule hI)
  exact lw_tail K hM2 hD2 hI2 h31 h142 (fun h => hv h trivial) dL_law_419 dL_law_421 dL_law_422 dL_law_425 dL_law_427 dL_law_432 dL_law_434 dL_law_437 dL_law_438 dL_law_439 dL_law_440 dL_law_442 dL_law_443 dL_law_444 dL_law_449 (by decide) hc kk
set_option maxRecDepth 100000 in
set_option maxHeartbeats 4000000 in
theorem lw_c4 (K : LwC X p l s m b meth c n xs) {x : Nat → Int32} {a : Nat → Nat → Int32} {i : Nat} (hS : lwS x a σ) (hi : i + 6 ≤ n) (hc : cells + 10 ≤ 601024 ∧ slots + 200 ≤ 7293034) (kk : ∀ (x : Nat → Int32) (a : Nat → Nat → Int32) (σ : zHp), lwS x a σ → LwG X p l e s m b below meth c σ0 loc0 (cells + 10) (slots + 200) σ 1733 (lw_L b i) []) : LwG X p l e s m b below meth c σ0 loc0 cells slots σ 452 (lw_L b i) [] := by
  have C := K.1
  obtain ⟨-, hX, hbl, hz, hn, -⟩ := id K
  obtain ⟨hI, hD, hM, f0, h14⟩ := hS
  refine z_aload_n (i := 1) C dL_law_452 rfl rfl ?_
  refine z_arg C hX hbl hz (i := i) (j := 1) (by omega) hn (by decide) rfl rfl dL_law_453 dL_law_454 dL_law_456 dL_law_457 dL_law_458 ?_
  refine z_arg C hX hbl hz (i := i) (j := 2) (by omega) hn (by decide) rfl rfl dL_law_459 dL_law_460 dL_law_462 dL_law_463 dL_law_464 ?_
  refine z_aload_n (i := 3) C dL_law_465 rfl rfl ?_
  refine z_callSX C Y_L_except sm_yL_except ml_RL_120 (c_L_except l hD hI h14) dL_law_466 rfl rfl (fun _ => Nat.le_of_ble_eq_true rfl) ⟨Nat.le_of_ble_eq_true rfl, Nat.le_of_ble_eq_true rfl⟩ hc (z_ri (fun r9 σ1 h1 => ?_)) z_nx
  refine z_istore C dL_law_469 (by decide) ?_
  have e9 := h1.1
  subst e9
  have hM1 := hM.mv h1.2.1
  refine z_aload_n (i := 2) C dL_law_471 rfl rfl ?_
  refine z_arg C hX hbl hz (i := i) (j := 1) (by omega) hn (by decide) rfl rfl dL_law_472 dL_law_473 dL_law_475 dL_law_476 dL_law_477 ?_
  refine z_arg C hX hbl hz (i := i) (j := 2) (by omega) hn (by decide) rfl rfl dL_law_478 dL_law_479 dL_law_481 dL_law_482 dL_law_483 ?_
  refine z_callV C Y_X7_except V_X7_except ml_RL_123 (c_X7_except l hM1 hI.1) dL_law_484 rfl rfl hM1.1 ⟨_, _, rfl⟩ (fun _ => Nat.le_of_ble_eq_true rfl) ⟨Nat.le_of_ble_eq_true rfl, Nat.le_of_ble_eq_true rfl⟩ hc (z_ri (fun r8 σ2 h2 => ?_)) (z_nx)
  obtain ⟨x2, a2, f2, hM2, hD2, hI2, h31, h142, hv⟩ := lw_mid h1 h2 hI (ik_except hI)
  exact lw_tail K hM2 hD2 hI2 h31 h142 (fun h => hv h trivial) dL_law_487 dL_law_489 dL_law_490 dL_law_493 dL_law_495 dL_law_500 dL_law_502 dL_law_505 dL_law_506 dL_law_507 dL_law_508 dL_law_510 dL_law_511 dL_law_512 dL_law_517 (by decide) hc kk
set_option maxRecDepth 100000 in
set_option maxHeartbeats 4000000 in
theorem lw_c5 (K : LwC X p l s m b meth c n xs) {x : Nat → Int32} {a : Nat → Nat → Int32} {i : Nat} (hS : lwS x a σ) (hi : i + 6 ≤ n) (hc : cells + 10 ≤ 601024 ∧ slots + 200 ≤ 7293034) (kk : ∀ (x : Nat → Int32) (a : Nat → Nat → Int32) (σ : zHp), lwS x a σ → LwG X p l e s m b below meth c σ0 loc0 (cells + 10) (slots + 200) σ 1733 (lw_L b i) []) : LwG X p l e s m b below meth c σ0 loc0 cells slots σ 520 (lw_L b i) [] := by
  have C := K.1
  obtain ⟨-, hX, hbl, hz, hn, -⟩ := id K
  obtain ⟨hI, hD, hM, f0, h14⟩ := hS
  refine z_aload_n (i := 1) C dL_law_520 rfl rfl ?_
  refine z_arg C hX hbl hz (i := i) (j := 1) (by omega) hn (by decide) rfl rfl dL_law_521 dL_law_522 dL_law_524 dL_law_525 dL_law_526 ?_
  refine z_aload_n (i := 3) C dL_law_527 rfl rfl ?_
  refine z_callSX C Y_L_regionOf sm_yL_regionOf ml_RL_124 (c_L_regionOf l hD hI h14) dL_law_528 rfl rfl (fun _ => Nat.le_of_ble_eq_true rfl) ⟨Nat.le_of_ble_eq_true rfl, Nat.le_of_ble_eq_true rfl⟩ hc (z_ri (fun r9 σ1 h1 => ?_)) z_nx
  refine z_istore C dL_law_531 (by decide) ?_
  have e9 := h1.1
  subst e9
  have hM1 := hM.mv h1.2.1
  refine z_aload_n (i := 2) C dL_law_533 rfl rfl ?_
  refine z_arg C hX hbl hz (i := i) (j := 1) (by omega) hn (by decide) rfl rfl dL_law_534 dL_law_535 dL_law_537 dL_law_538 dL_law_539 ?_
  refine z_callV C Y_X7_regionOf V_X7_regionOf ml_RL_126 (c_X7_regionOf l hM1 hI.1) dL_law_540 rfl rfl hM1.1 ⟨_, _, rfl⟩ (fun _ => Nat.le_of_ble_eq_true rfl) ⟨Nat.le_of_ble_eq_true rfl, Nat.le_of_ble_eq_true rfl⟩ hc (z_ri (fun r8 σ2 h2 => ?_)) (z_nx)
  obtain ⟨x2, a2, f2, hM2, hD2, hI2, h31, h142, hv⟩ := lw_mid h1 h2 hI (ik_regionOf hI)
  exact lw_tail K hM2 hD2 hI2 h31 h142 (fun h => hv h trivial) dL_law_543 dL_law_545 dL_law_546 dL_law_549 dL_law_551 dL_law_556 dL_law_558 dL_law_561 dL_law_562 dL_law_563 dL_law_564 dL_law_566 dL_law_567 dL_law_568 dL_law_573 (by decide) hc kk
set_option maxRecDepth 100000 in
set_option maxHeartbeats 4000000 in
theorem lw_c6 (K : LwC X p l s m b meth c n xs) {x : Nat → Int32} {a : Nat → Nat → Int32} {i : Nat} (hS : lwS x a σ) (hi : i + 6 ≤ n) (hc : cells + 10 ≤ 601024 ∧ slots + 200 ≤ 7293034) (kk : ∀ (x : Nat → Int32) (a : Nat → Nat → Int32) (σ : zHp), lwS x a σ → LwG X p l e s m b below meth c σ0 loc0 (cells + 10) (slots + 200) σ 1733 (lw_L b i) []) : LwG X p l e s m b below meth c σ0 loc0 cells slots σ 576 (lw_L b i) [] := by
  have C := K.1
  obtain ⟨-, hX, hbl, hz, hn, -⟩ := id K
  obtain ⟨hI, hD, hM, f0, h14⟩ := hS
  refine z_aload_n (i := 1) C dL_law_576 rfl rfl ?_
  refine z_arg C hX hbl hz (i := i) (j := 1) (by omega) hn (by decide) rfl rfl dL_law_577 dL_law_578 dL_law_580 dL_law_581 dL_law_582 ?_
  refine z_arg C hX hbl hz (i := i) (j := 2) (by omega) hn (by decide) rfl rfl dL_law_583 dL_law_584 dL_law_586 dL_law_587 dL_law_588 ?_
  refine z_aload_n (i := 3) C dL_law_589 rfl rfl ?_
  refine z_callSX C Y_L_addSeller sm_yL_addSeller ml_RL_127 (c_L_addSeller l hD hI h14) dL_law_590 rfl rfl (fun _ => Nat.le_of_ble_eq_true rfl) ⟨Nat.le_of_ble_eq_true rfl, Nat.le_of_ble_eq_true rfl⟩ hc (z_ri (fun r9 σ1 h1 => ?_)) z_nx
  refine z_istore C dL_law_593 (by decide) ?_
  have e9 := h1.1
  subst e9
  have hM1 := hM.mv h1.2.1
  refine z_aload_n (i := 2) C dL_law_595 rfl rfl ?_
  refine z_arg C hX hbl hz (i := i) (j := 1) (by omega) hn (by decide) rfl rfl dL_law_596 dL_law_597 dL_law_599 dL_law_600 dL_law_601 ?_
  refine z_arg C hX hbl hz (i := i) (j := 2) (by omega) hn (by decide) rfl rfl dL_law_602 dL_law_603 dL_law_605 dL_law_606 dL_law_607 ?_
  refine z_callV C Y_X7_addSeller V_X7_addSeller ml_RL_129 (c_X7_addSeller l hM1 hI.1) dL_law_608 rfl rfl hM1.1 ⟨_, _, rfl⟩ (fun _ => Nat.le_of_ble_eq_true rfl) ⟨Nat.le_of_ble_eq_true rfl, Nat.le_of_ble_eq_true rfl⟩ hc (z_ri (fun r8 σ2 h2 => ?_)) (z_nx)
  obtain ⟨x2, a2, f2, hM2, hD2, hI2, h31, h142, hv⟩ := lw_mid h1 h2 hI (ik_addSeller hI)
  exact lw_tail K hM2 hD2 hI2 h31 h142 (fun h => hv h trivial) dL_law_611 dL_law_613 dL_law_614 dL_law_617 dL_law_619 dL_law_624 dL_law_626 dL_law_629 dL_law_630 dL_law_631 dL_law_632 dL_law_634 dL_law_635 dL_law_636 dL_law_641 (by decide) hc kk
set_option maxRecDepth 100000 in
set_option maxHeartbeats 4000000 in
theorem lw_c7 (K : LwC X p l s m b meth c n xs) {x : Nat → Int32} {a : Nat → Nat → Int32} {i : Nat} (hS : lwS x a σ) (hi : i + 6 ≤ n) (hc : cells + 10 ≤ 601024 ∧ slots + 200 ≤ 7293034) (kk : ∀ (x : Nat → Int32) (a : Nat → Nat → Int32) (σ : zHp), lwS x a σ → LwG X p l e s m b below meth c σ0 loc0 (cells + 10) (slots + 200) σ 1733 (lw_L b i) []) : LwG X p l e s m b below meth c σ0 loc0 cells slots σ 644 (lw_L b i) [] := by
  have C := K.1
  obtain ⟨-, hX, hbl, hz, hn, -⟩ := id K
  obtain ⟨hI, hD, hM, f0, h14⟩ := hS
  refine z_aload_n (i := 1) C dL_law_644 rfl rfl ?_
  refine z_arg C hX hbl hz (i := i) (j := 1) (by omega) hn (by decide) rfl rfl dL_law_645 dL_law_646 dL_law_648 dL_law_649 dL_law_650 ?_
  refine z_arg C hX hbl hz (i := i) (j := 2) (by omega) hn (by decide) rfl rfl dL_law_651 dL_law_652 dL_law_654 dL_law_655 dL_law_656 ?_
  refine z_aload_n (i := 3) C dL_law_657 rfl rfl ?_
  refine z_callSX C Y_L_adjust sm_yL_adjust ml_RL_130 (c_L_adjust l hD hI h14) dL_law_658 rfl rfl (fun _ => Nat.le_of_ble_eq_true rfl) ⟨Nat.le_of_ble_eq_true rfl, Nat.le_of_ble_eq_true rfl⟩ hc (z_ri (fun r9 σ1 h1 => ?_)) z_nx
  refine z_istore C dL_law_661 (by decide) ?_
  have e9 := h1.1
  subst e9
  have hM1 := hM.mv h1.2.1
  refine z_aload_n (i := 2) C dL_law_663 rfl rfl ?_
  refine z_arg C hX hbl hz (i := i) (j := 1) (by omega) hn (by decide) rfl rfl dL_law_664 dL_law_665 dL_law_667 dL_law_668 dL_law_669 ?_
  refine z_arg C hX hbl hz (i := i) (j := 2) (by omega) hn (by decide) rfl rfl dL_law_670 dL_law_671 dL_law_673 dL_law_674 dL_law_675 ?_
  refine z_callV C Y_X7_adjust V_X7_adjust ml_RL_132 (c_X7_adjust l hM1 hI.1) dL_law_676 rfl rfl hM1.1 ⟨_, _, rfl⟩ (fun _ => Nat.le_of_ble_eq_true rfl) ⟨Nat.le_of_ble_eq_true rfl, Nat.le_of_ble_eq_true rfl⟩ hc (z_ri (fun r8 σ2 h2 => ?_)) (z_nx)
  obtain ⟨x2, a2, f2, hM2, hD2, hI2, h31, h142, hv⟩ := lw_mid h1 h2 hI (ik_adjust hI)
  exact lw_tail K hM2 hD2 hI2 h31 h142 (fun h => hv h trivial) dL_law_679 dL_law_681 dL_law_682 dL_law_685 dL_law_687 dL_law_692 dL_law_694 dL_law_697 dL_law_698 dL_law_699 dL_law_700 dL_law_702 dL_law_703 dL_law_704 dL_law_709 (by decide) hc kk
set_option maxRecDepth 100000 in
set_option maxHeartbeats 4000000 in
theorem lw_c8 (K : LwC X p l s m b meth c n xs) {x : Nat → Int32} {a : Nat → Nat → Int32} {i : Nat} (hS : lwS x a σ) (hi : i + 6 ≤ n) (hc : cells + 10 ≤ 601024 ∧ slots + 200 ≤ 7293034) (kk : ∀ (x : Nat → Int32) (a : Nat → Nat → Int32) (σ : zHp), lwS x a σ → LwG X p l e s m b below meth c σ0 loc0 (cells + 10) (slots + 200) σ 1733 (lw_L b i) []) : LwG X p l e s m b below meth c σ0 loc0 cells slots σ 712 (lw_L b i) [] := by
  have C := K.1
  obtain ⟨-, hX, hbl, hz, hn, -⟩ := id K
  obtain ⟨hI, hD, hM, f0, h14⟩ := hS
  refine z_aload_n (i := 1) C dL_law_712 rfl rfl ?_
  refine z_arg C hX hbl hz (i := i) (j := 1) (by omega) hn (by decide) rfl rfl dL_law_713 dL_law_714 dL_law_716 dL_law_717 dL_law_718 ?_
  refine z_arg C hX hbl hz (i := i) (j := 2) (by omega) hn (by decide) rfl rfl dL_law_719 dL_law_720 dL_law_722 dL_law_723 dL_law_724 ?_
  refine z_arg C hX hbl hz (i := i) (j := 3) (by omega) hn (by decide) rfl rfl dL_law_725 dL_law_726 dL_law_728 dL_law_729 dL_law_730 ?_
  refine z_aload_n (i := 3) C dL_law_731 rfl rfl ?_
  refine z_callSX C Y_L_addChance sm_yL_addChance ml_RL_133 (c_L_addChance l hD hI h14) dL_law_732 rfl rfl (fun _ => Nat.le_of_ble_eq_true rfl) ⟨Nat.le_of_ble_eq_true rfl, Nat.le_of_ble_eq_true rfl⟩ hc (z_ri (fun r9 σ1 h1 => ?_)) z_nx
  refine z_istore C dL_law_735 (by decide) ?_
  have e9 := h1.1
  subst e9
  have hM1 := hM.mv h1.2.1
  refine z_aload_n (i := 2) C dL_law_737 rfl rfl ?_
  refine z_arg C hX hbl hz (i := i) (j := 1) (by omega) hn (by decide) rfl rfl dL_law_738 dL_law_739 dL_law_741 dL_law_742 dL_law_743 ?_
  refine z_arg C hX hbl hz (i := i) (j := 2) (by omega) hn (by decide) rfl rfl dL_law_744 dL_law_745 dL_law_747 dL_law_748 dL_law_749 ?_
  refine z_arg C hX hbl hz (i := i) (j := 3) (by omega) hn (by decide) rfl rfl dL_law_750 dL_law_751 dL_law_753 dL_law_754 dL_law_755 ?_
  refine z_callV C Y_X7_addChance V_X7_addChance ml_RL_135 (c_X7_addChance l hM1 hI.1) dL_law_756 rfl rfl hM1.1 ⟨_, _, rfl⟩ (fun _ => Nat.le_of_ble_eq_true rfl) ⟨Nat.le_of_ble_eq_true rfl, Nat.le_of_ble_eq_true rfl⟩ hc (z_ri (fun r8 σ2 h2 => ?_)) (z_nx)
  obtain ⟨x2, a2, f2, hM2, hD2, hI2, h31, h142, hv⟩ := lw_mid h1 h2 hI (ik_addChance hI)
  exact lw_tail K hM2 hD2 hI2 h31 h142 (fun h => hv h trivial) dL_law_759 dL_law_761 dL_law_762 dL_law_765 dL_law_767 dL_law_772 dL_law_774 dL_law_777 dL_law_778 dL_law_779 dL_law_780 dL_law_782 dL_law_783 dL_law_784 dL_law_789 (by decide) hc kk
set_option maxRecDepth 100000 in
set_option maxHeartbeats 4000000 in
theorem lw_c9 (K : LwC X p l s m b meth c n xs) {x : Nat → Int32} {a : Nat → Nat → Int32} {i : Nat} (hS : lwS x a σ) (hi : i + 6 ≤ n) (hc : cells + 10 ≤ 601024 ∧ slots + 200 ≤ 7293034) (kk : ∀ (x : Nat → Int32) (a : Nat → Nat → Int32) (σ : zHp), lwS x a σ → LwG X p l e s m b below meth c σ0 loc0 (cells + 10) (slots + 200) σ 1733 (lw_L b i) []) : LwG X p l e s m b below meth c σ0 loc0 cells slots σ 792 (lw_L b i) [] := by
  have C := K.1
  obtain ⟨-, hX, hbl, hz, hn, -⟩ := id K
  obtain ⟨hI, hD, hM, f0, h14⟩ := hS
  refine z_aload_n (i := 1) C dL_law_792 rfl rfl ?_
  refine z_arg C hX hbl hz (i := i) (j := 1) (by omega) hn (by decide) rfl rfl dL_law_793 dL_law_794 dL_law_796 dL_law_797 dL_law_798 ?_
  refine z_arg C hX hbl hz (i := i) (j := 2) (by omega) hn (by decide) rfl rfl dL_law_799 dL_law_800 dL_law_802 dL_law_803 dL_law_804 ?_
  refine z_arg C hX hbl hz (i := i) (j := 3) (by omega) hn (by decide) rfl rfl dL_law_805 dL_law_806 dL_law_808 dL_law_809 dL_law_810 ?_
  refine z_arg C hX hbl hz (i := i) (j := 4) (by omega) hn (by decide) rfl rfl dL_law_811 dL_law_812 dL_law_814 dL_law_815 dL_law_816 ?_
  refine z_aload_n (i := 3) C dL_law_817 rfl rfl ?_
  refine z_callSX C Y_L_giveShare sm_yL_giveShare ml_RL_136 (c_L_giveShare l hD hI h14) dL_law_818 rfl rfl (fun _ => Nat.le_of_ble_eq_true rfl) ⟨Nat.le_of_ble_eq_true rfl, Nat.le_of_ble_eq_true rfl⟩ hc (z_ri (fun r9 σ1 h1 => ?_)) z_nx
  refine z_istore C dL_law_821 (by decide) ?_
  have e9 := h1.1
  subst e9
  have hM1 := hM.mv h1.2.1
  refine z_aload_n (i := 2) C dL_law_823 rfl rfl ?_
  refine z_arg C hX hbl hz (i := i) (j := 1) (by omega) hn (by decide) rfl rfl dL_law_824 dL_law_825 dL_law_827 dL_law_828 dL_law_829 ?_
  refine z_arg C hX hbl hz (i := i) (j := 2) (by omega) hn (by decide) rfl rfl dL_law_830 dL_law_831 dL_law_833 dL_law_834 dL_law_835 ?_
  refine z_arg C hX hbl hz (i := i) (j := 3) (by omega) hn (by decide) rfl rfl dL_law_836 dL_law_837 dL_law_839 dL_law_840 dL_law_841 ?_
  refine z_arg C hX hbl hz (i := i) (j := 4) (by omega) hn (by decide) rfl rfl dL_law_842 dL_law_843 dL_law_845 dL_law_846 dL_law_847 ?_
  refine z_callV C Y_X7_giveShare V_X7_giveShare ml_RL_139 (c_X7_giveShare l hM1 hI.1) dL_law_848 rfl rfl hM1.1 ⟨_, _, rfl⟩ (fun _ => Nat.le_of_ble_eq_true rfl) ⟨Nat.le_of_ble_eq_true rfl, Nat.le_of_ble_eq_true rfl⟩ hc (z_ri (fun r8 σ2 h2 => ?_)) (z_nx)
  obtain ⟨x2, a2, f2, hM2, hD2, hI2, h31, h142, hv⟩ := lw_mid h1 h2 hI (ik_giveShare hI)
  exact lw_tail K hM2 hD2 hI2 h31 h142 (fun h => hv h trivial) dL_law_851 dL_law_853 dL_law_854 dL_law_857 dL_law_859 dL_law_864 dL_law_866 dL_law_869 dL_law_870 dL_law_871 dL_law_872 dL_law_874 dL_law_875 dL_law_876 dL_law_881 (by decide) hc kk
set_option maxRecDepth 100000 in
set_option maxHeartbeats 4000000 in
theorem lw_c10 (K : LwC X p l s m b meth c n xs) {x : Nat → Int32} {a : Nat → Nat → Int32} {i : Nat} (hS : lwS x a σ) (hi : i + 6 ≤ n) (hc : cells + 10 ≤ 601024 ∧ slots + 200 ≤ 7293034) (kk : ∀ (x : Nat → Int32) (a : Nat → Nat → Int32) (σ : zHp), lwS x a σ → LwG X p l e s m b below meth c σ0 loc0 (cells + 10) (slots + 200) σ 1733 (lw_L b i) []) : LwG X p l e s m b below meth c σ0 loc0 cells slots σ 884 (lw_L b i) [] := by
  have C := K.1
  obtain ⟨-, hX, hbl, hz, hn, -⟩ := id K
  obtain ⟨hI, hD, hM, f0, h14⟩ := hS
  refine z_aload_n (i := 1) C dL_law_884 rfl rfl ?_
  refine z_arg C hX hbl hz (i := i) (j := 1) (by omega) hn (by decide) rfl rfl dL_law_885 dL_law_886 dL_law_888 dL_law_889 dL_law_890 ?_
  refine z_arg C hX hbl hz (i := i) (j := 2) (by omega) hn (by decide) rfl rfl dL_law_891 dL_law_892 dL_law_894 dL_law_895 dL_law_896 ?_
  refine z_aload_n (i := 3) C dL_law_897 rfl rfl ?_
  refine z_callSX C Y_L_move sm_yL_move ml_RL_140 (c_L_move l hD hI h14) dL_law_898 rfl rfl (fun _ => Nat.le_of_ble_eq_true rfl) ⟨Nat.le_of_ble_eq_true rfl, Nat.le_of_ble_eq_true rfl⟩ hc (z_ri (fun r9 σ1 h1 => ?_)) z_nx
  refine z_istore C dL_law_901 (by decide) ?_
  have e9 := h1.1
  subst e9
  have hM1 := hM.mv h1.2.1
  refine z_aload_n (i := 2) C dL_law_903 rfl rfl ?_
  refine z_arg C hX hbl hz (i := i) (j := 1) (by omega) hn (by decide) rfl rfl dL_law_904 dL_law_905 dL_law_907 dL_law_908 dL_law_909 ?_
  refine z_arg C hX hbl hz (i := i) (j := 2) (by omega) hn (by decide) rfl rfl dL_law_910 dL_law_911 dL_law_913 dL_law_914 dL_law_915 ?_
  refine z_callV C Y_X7_move V_X7_move ml_RL_142 (c_X7_move l hM1 hI.1) dL_law_916 rfl rfl hM1.1 ⟨_, _, rfl⟩ (fun _ => Nat.le_of_ble_eq_true rfl) ⟨Nat.le_of_ble_eq_true rfl, Nat.le_of_ble_eq_true rfl⟩ hc (z_ri (fun r8 σ2 h2 => ?_)) (z_nx)
  obtain ⟨x2, a2, f2, hM2, hD2, hI2, h31, h142, hv⟩ := lw_mid h1 h2 hI (ik_move hI)
  exact lw_tail K hM2 hD2 hI2 h31 h142 (fun h => hv h trivial) dL_law_919 dL_law_921 dL_law_922 dL_law_925 dL_law_927 dL_law_932 dL_law_934 dL_law_937 dL_law_938 dL_law_939 dL_law_940 dL_law_942 dL_law_943 dL_law_944 dL_law_949 (by decide) hc kk
set_option maxRecDepth 100000 in
set_option maxHeartbeats 4000000 in
theorem lw_c11 (K : LwC X p l s m b meth c n xs) {x : Nat → Int32} {a : Nat → Nat → Int32} {i : Nat} (hS : lwS x a σ) (hi : i + 6 ≤ n) (hc : cells + 10 ≤ 601024 ∧ slots + 200 ≤ 7293034) (kk : ∀ (x : Nat → Int32) (a : Nat → Nat → Int32) (σ : zHp), lwS x a σ → LwG X p l e s m b below meth c σ0 loc0 (cells + 10) (slots + 200) σ 1733 (lw_L b i) []) : LwG X p l e s m b below meth c σ0 loc0 cells slots σ 952 (lw_L b i) [] := by
  have C := K.1
  obtain ⟨-, hX, hbl, hz, hn, -⟩ := id K
  obtain ⟨hI, hD, hM, f0, h14⟩ := hS
  refine z_aload_n (i := 1) C dL_law_952 rfl rfl ?_
  refine z_arg C hX hbl hz (i := i) (j := 1) (by omega) hn (by decide) rfl rfl dL_law_953 dL_law_954 dL_law_956 dL_law_957 dL_law_958 ?_
  refine z_aload_n (i := 3) C dL_law_959 rfl rfl ?_
  refine z_callSX C Y_L_stage sm_yL_stage ml_RL_143 (c_L_stage l hD hI h14) dL_law_960 rfl rfl (fun _ => Nat.le_of_ble_eq_true rfl) ⟨Nat.le_of_ble_eq_true rfl, Nat.le_of_ble_eq_true rfl⟩ hc (z_ri (fun r9 σ1 h1 => ?_)) z_nx
  refine z_istore C dL_law_963 (by decide) ?_
  have e9 := h1.1
  subst e9
  have hM1 := hM.mv h1.2.1
  refine z_aload_n (i := 2) C dL_law_965 rfl rfl ?_
  refine z_arg C hX hbl hz (i := i) (j := 1) (by omega) hn (by decide) rfl rfl dL_law_966 dL_law_967 dL_law_969 dL_law_970 dL_law_971 ?_
  refine z_callV C Y_X7_stage V_X7_stage ml_RL_145 (c_X7_stage l hM1 hI.1) dL_law_972 rfl rfl hM1.1 ⟨_, _, rfl⟩ (fun _ => Nat.le_of_ble_eq_true rfl) ⟨Nat.le_of_ble_eq_true rfl, Nat.le_of_ble_eq_true rfl⟩ hc (z_ri (fun r8 σ2 h2 => ?_)) (z_nx)
  obtain ⟨x2, a2, f2, hM2, hD2, hI2, h31, h142, hv⟩ := lw_mid h1 h2 hI (ik_stage hI)
  exact lw_tail K hM2 hD2 hI2 h31 h142 (fun h => hv h trivial) dL_law_975 dL_law_977 dL_law_978 dL_law_981 dL_law_983 dL_law_988 dL_law_990 dL_law_993 dL_law_994 dL_law_995 dL_law_996 dL_law_998 dL_law_999 dL_law_1000 dL_law_1005 (by decide) hc kk
end ZLC
