def Lk (k : Nat) : List (Option Value) := [some (.ref 96), some (.ref 0), some (.ref 50), some (.int (nI k))]
theorem lw_c149 : Cond.constantLong R_law 149 4294967295 ∈ gt := gt_at 1301 (by decide +kernel) (by decide +kernel)
set_option maxRecDepth 100000 in
set_option maxHeartbeats 1000000 in
theorem lwc_0 {G : GT} {b Ln : Nat} {xs : Nat → Int32} {k n : Nat} {σ : Sg} (hk : k + 6 ≤ Ln) (h3 : Ln ≤ 3072) (hC : RC σ (obs σ) n) (go : ∀ σ2 n2, RC σ2 (obs σ2) n2 → LWp G b Ln xs 1480 (Lk k) [] σ2) : LWp G b Ln xs 220 (Lk k) [] σ := by
  refine l_aload dLw_220 rfl ?_
  refine l_arg (k := k) (j := 1) dLw_221 dLw_222 dLw_223 dLw_224 dLw_225 rfl rfl rfl (by omega) h3 ?_
  refine l_arg (k := k) (j := 2) dLw_226 dLw_227 dLw_228 dLw_229 dLw_230 rfl rfl rfl (by omega) h3 ?_
  refine l_call (M' := mX6_cloud) (c := 0) (ci := 6) (as := [.int (xs (k + 1)), .int (xs (k + 2))]) (rest := []) dLw_231 ml_L_13 mv_X6_cloud rfl rfl (by decide) rfl (k_cloud G σ (obs σ) n hC _ _) rfl rfl (Nat.le_of_ble_eq_true rfl) (fun v τ hv => ?_)
  obtain ⟨rfl, ⟨n1, hC1⟩, hM⟩ := hv
  have ho := Mo_obs hM
  obtain ⟨hn, h8, hfk, ⟨tt, htt, ht120⟩, zs, hzs⟩ := hC.mod hM
  dsimp only [Option.toList, List.cons_append, List.nil_append]
  refine l_aload dLw_234 rfl ?_
  refine l_arg (k := k) (j := 1) dLw_235 dLw_236 dLw_237 dLw_238 dLw_239 rfl rfl rfl (by omega) h3 ?_
  refine l_arg (k := k) (j := 2) dLw_240 dLw_241 dLw_242 dLw_243 dLw_244 rfl rfl rfl (by omega) h3 ?_
  refine l_call (M' := mX7_cloud) (c := 50) (ci := 7) (as := [.int (xs (k + 1)), .int (xs (k + 2))]) (rest := [_]) dLw_245 ml_L_17 mv_X7_cloud rfl rfl (by decide) rfl (m_cloud G τ _ _ n hn h8) rfl rfl (Nat.le_of_ble_eq_true rfl) (fun v τ2 hv => ?_)
  obtain ⟨rfl, ho2, hco⟩ := hv
  rw [ho] at ho2
  dsimp only [Option.toList, List.cons_append, List.nil_append]
  refine l_eq (t := 1480) dLw_248 (by decide) (by rw [ho]) ?_
  exact go τ2 n1 (ho2.symm ▸ hC1.co hco)
set_option maxRecDepth 100000 in
set_option maxHeartbeats 1000000 in
theorem lwc_1 {G : GT} {b Ln : Nat} {xs : Nat → Int32} {k n : Nat} {σ : Sg} (hk : k + 6 ≤ Ln) (h3 : Ln ≤ 3072) (hC : RC σ (obs σ) n) (go : ∀ σ2 n2, RC σ2 (obs σ2) n2 → LWp G b Ln xs 1480 (Lk k) [] σ2) : LWp G b Ln xs 253 (Lk k) [] σ := by
  refine l_aload dLw_253 rfl ?_
  refine l_arg (k := k) (j := 1) dLw_254 dLw_255 dLw_256 dLw_257 dLw_258 rfl rfl rfl (by omega) h3 ?_
  refine l_call (M' := mX6_cloudOf) (c := 0) (ci := 6) (as := [.int (xs (k + 1))]) (rest := []) dLw_259 ml_L_18 mv_X6_cloudOf rfl rfl (by decide) rfl (k_cloudOf G σ (obs σ) n hC _) rfl rfl (Nat.le_of_ble_eq_true rfl) (fun v τ hv => ?_)
  obtain ⟨rfl, ⟨n1, hC1⟩, hM⟩ := hv
  have ho := Mo_obs hM
  obtain ⟨hn, h8, hfk, ⟨tt, htt, ht120⟩, zs, hzs⟩ := hC.mod hM
  dsimp only [Option.toList, List.cons_append, List.nil_append]
  refine l_aload dLw_262 rfl ?_
  refine l_arg (k := k) (j := 1) dLw_263 dLw_264 dLw_265 dLw_266 dLw_267 rfl rfl rfl (by omega) h3 ?_
  refine l_call (M' := mX7_cloudOf) (c := 50) (ci := 7) (as := [.int (xs (k + 1))]) (rest := [_]) dLw_268 ml_L_22 mv_X7_cloudOf rfl rfl (by decide) rfl (m_cloudOf G τ _ n hn h8) rfl rfl (Nat.le_of_ble_eq_true rfl) (fun v τ2 hv => ?_)
  obtain ⟨rfl, ho2, hco⟩ := hv
  rw [ho] at ho2
  dsimp only [Option.toList, List.cons_append, List.nil_append]
  refine l_eq (t := 1480) dLw_271 (by decide) (by rw [ho]) ?_
  exact go τ2 n1 (ho2.symm ▸ hC1.co hco)
set_option maxRecDepth 100000 in
set_option maxHeartbeats 1000000 in
theorem lwc_2 {G : GT} {b Ln : Nat} {xs : Nat → Int32} {k n : Nat} {σ : Sg} (hk : k + 6 ≤ Ln) (h3 : Ln ≤ 3072) (hC : RC σ (obs σ) n) (go : ∀ σ2 n2, RC σ2 (obs σ2) n2 → LWp G b Ln xs 1480 (Lk k) [] σ2) : LWp G b Ln xs 276 (Lk k) [] σ := by
  refine l_aload dLw_276 rfl ?_
  refine l_arg (k := k) (j := 1) dLw_277 dLw_278 dLw_279 dLw_280 dLw_281 rfl rfl rfl (by omega) h3 ?_
  refine l_arg (k := k) (j := 2) dLw_282 dLw_283 dLw_284 dLw_285 dLw_286 rfl rfl rfl (by omega) h3 ?_
  refine l_call (M' := mX6_rod) (c := 0) (ci := 6) (as := [.int (xs (k + 1)), .int (xs (k + 2))]) (rest := []) dLw_287 ml_L_23 mv_X6_rod rfl rfl (by decide) rfl (k_rod G σ (obs σ) n hC _ _) rfl rfl (Nat.le_of_ble_eq_true rfl) (fun v τ hv => ?_)
  obtain ⟨rfl, ⟨n1, hC1⟩, hM⟩ := hv
  have ho := Mo_obs hM
  obtain ⟨hn, h8, hfk, ⟨tt, htt, ht120⟩, zs, hzs⟩ := hC.mod hM
  dsimp only [Option.toList, List.cons_append, List.nil_append]
  refine l_aload dLw_290 rfl ?_
  refine l_arg (k := k) (j := 1) dLw_291 dLw_292 dLw_293 dLw_294 dLw_295 rfl rfl rfl (by omega) h3 ?_
  refine l_arg (k := k) (j := 2) dLw_296 dLw_297 dLw_298 dLw_299 dLw_300 rfl rfl rfl (by omega) h3 ?_
  refine l_call (M' := mX7_rod) (c := 50) (ci := 7) (as := [.int (xs (k + 1)), .int (xs (k + 2))]) (rest := [_]) dLw_301 ml_L_26 mv_X7_rod rfl rfl (by decide) rfl (m_rod G τ _ _ n hn h8) rfl rfl (Nat.le_of_ble_eq_true rfl) (fun v τ2 hv => ?_)
  obtain ⟨rfl, ho2, hco⟩ := hv
  rw [ho] at ho2
  dsimp only [Option.toList, List.cons_append, List.nil_append]
  refine l_eq (t := 1480) dLw_304 (by decide) (by rw [ho]) ?_
  exact go τ2 n1 (ho2.symm ▸ hC1.co hco)
set_option maxRecDepth 100000 in
set_option maxHeartbeats 1000000 in
theorem lwc_3 {G : GT} {b Ln : Nat} {xs : Nat → Int32} {k n : Nat} {σ : Sg} (hk : k + 6 ≤ Ln) (h3 : Ln ≤ 3072) (hC : RC σ (obs σ) n) (go : ∀ σ2 n2, RC σ2 (obs σ2) n2 → LWp G b Ln xs 1480 (Lk k) [] σ2) : LWp G b Ln xs 309 (Lk k) [] σ := by
  refine l_aload dLw_309 rfl ?_
  refine l_arg (k := k) (j := 1) dLw_310 dLw_311 dLw_312 dLw_313 dLw_314 rfl rfl rfl (by omega) h3 ?_
  refine l_arg (k := k) (j := 2) dLw_315 dLw_316 dLw_317 dLw_318 dLw_319 rfl rfl rfl (by omega) h3 ?_
  refine l_call (M' := mX6_of) (c := 0) (ci := 6) (as := [.int (xs (k + 1)), .int (xs (k + 2))]) (rest := []) dLw_320 ml_L_27 mv_X6_of rfl rfl (by decide) rfl (k_of G σ (obs σ) n hC _ _) rfl rfl (Nat.le_of_ble_eq_true rfl) (fun v τ hv => ?_)
  obtain ⟨rfl, ⟨n1, hC1⟩, hM⟩ := hv
  have ho := Mo_obs hM
  obtain ⟨hn, h8, hfk, ⟨tt, htt, ht120⟩, zs, hzs⟩ := hC.mod hM
  dsimp only [Option.toList, List.cons_append, List.nil_append]
  refine l_aload dLw_323 rfl ?_
  refine l_arg (k := k) (j := 1) dLw_324 dLw_325 dLw_326 dLw_327 dLw_328 rfl rfl rfl (by omega) h3 ?_
  refine l_arg (k := k) (j := 2) dLw_329 dLw_330 dLw_331 dLw_332 dLw_333 rfl rfl rfl (by omega) h3 ?_
  refine l_call (M' := mX7_of) (c := 50) (ci := 7) (as := [.int (xs (k + 1)), .int (xs (k + 2))]) (rest := [_]) dLw_334 ml_L_30 mv_X7_of rfl rfl (by decide) rfl (m_of G τ _ _ n hn h8) rfl rfl (Nat.le_of_ble_eq_true rfl) (fun v τ2 hv => ?_)
  obtain ⟨rfl, ho2, hco⟩ := hv
  rw [ho] at ho2
  dsimp only [Option.toList, List.cons_append, List.nil_append]
  refine l_eq (t := 1480) dLw_337 (by decide) (by rw [ho]) ?_
  exact go τ2 n1 (ho2.symm ▸ hC1.co hco)
set_option maxRecDepth 100000 in
set_option maxHeartbeats 1000000 in
theorem lwc_4 {G : GT} {b Ln : Nat} {xs : Nat → Int32} {k n : Nat} {σ : Sg} (hk : k + 6 ≤ Ln) (h3 : Ln ≤ 3072) (hC : RC σ (obs σ) n) (go : ∀ σ2 n2, RC σ2 (obs σ2) n2 → LWp G b Ln xs 1480 (Lk k) [] σ2) : LWp G b Ln xs 342 (Lk k) [] σ := by
  refine l_aload dLw_342 rfl ?_
  refine l_arg (k := k) (j := 1) dLw_343 dLw_344 dLw_345 dLw_346 dLw_347 rfl rfl rfl (by omega) h3 ?_
  refine l_arg (k := k) (j := 2) dLw_348 dLw_349 dLw_350 dLw_351 dLw_352 rfl rfl rfl (by omega) h3 ?_
  refine l_arg (k := k) (j := 3) dLw_353 dLw_354 dLw_355 dLw_356 dLw_357 rfl rfl rfl (by omega) h3 ?_
  refine l_call (M' := mX6_set) (c := 0) (ci := 6) (as := [.int (xs (k + 1)), .int (xs (k + 2)), .int (xs (k + 3))]) (rest := []) dLw_358 ml_L_31 mv_X6_set rfl rfl (by decide) rfl (k_set G σ (obs σ) n hC _ _ _) rfl rfl (Nat.le_of_ble_eq_true rfl) (fun v τ hv => ?_)
  obtain ⟨rfl, ⟨n1, hC1⟩, hM⟩ := hv
  have ho := Mo_obs hM
  obtain ⟨hn, h8, hfk, ⟨tt, htt, ht120⟩, zs, hzs⟩ := hC.mod hM
  dsimp only [Option.toList, List.cons_append, List.nil_append]
  refine l_aload dLw_361 rfl ?_
  refine l_arg (k := k) (j := 1) dLw_362 dLw_363 dLw_364 dLw_365 dLw_366 rfl rfl rfl (by omega) h3 ?_
  refine l_arg (k := k) (j := 2) dLw_367 dLw_368 dLw_369 dLw_370 dLw_371 rfl rfl rfl (by omega) h3 ?_
  refine l_arg (k := k) (j := 3) dLw_372 dLw_373 dLw_374 dLw_375 dLw_376 rfl rfl rfl (by omega) h3 ?_
  refine l_call (M' := mX7_set) (c := 50) (ci := 7) (as := [.int (xs (k + 1)), .int (xs (k + 2)), .int (xs (k + 3))]) (rest := [_]) dLw_377 ml_L_35 mv_X7_set rfl rfl (by decide) rfl (m_set G τ _ _ _ n hn h8) rfl rfl (Nat.le_of_ble_eq_true rfl) (fun v τ2 hv => ?_)
  obtain ⟨rfl, ho2, hco⟩ := hv
  rw [ho] at ho2
  dsimp only [Option.toList, List.cons_append, List.nil_append]
  refine l_eq (t := 1480) dLw_380 (by decide) (by rw [ho]) ?_
  exact go τ2 n1 (ho2.symm ▸ hC1.co hco)
set_option maxRecDepth 100000 in
set_option maxHeartbeats 1000000 in
theorem lwc_5 {G : GT} {b Ln : Nat} {xs : Nat → Int32} {k n : Nat} {σ : Sg} (hk : k + 6 ≤ Ln) (h3 : Ln ≤ 3072) (hC : RC σ (obs σ) n) (go : ∀ σ2 n2, RC σ2 (obs σ2) n2 → LWp G b Ln xs 1480 (Lk k) [] σ2) : LWp G b Ln xs 385 (Lk k) [] σ := by
  refine l_aload dLw_385 rfl ?_
  refine l_arg (k := k) (j := 1) dLw_386 dLw_387 dLw_388 dLw_389 dLw_390 rfl rfl rfl (by omega) h3 ?_
  refine l_arg (k := k) (j := 2) dLw_391 dLw_392 dLw_393 dLw_394 dLw_395 rfl rfl rfl (by omega) h3 ?_
  refine l_arg (k := k) (j := 3) dLw_396 dLw_397 dLw_398 dLw_399 dLw_400 rfl rfl rfl (by omega) h3 ?_
  refine l_call (M' := mX6_pays) (c := 0) (ci := 6) (as := [.int (xs (k + 1)), .int (xs (k + 2)), .int (xs (k + 3))]) (rest := []) dLw_401 ml_L_36 mv_X6_pays rfl rfl (by decide) rfl (k_pays G σ (obs σ) n hC _ _ _) rfl rfl (Nat.le_of_ble_eq_true rfl) (fun v τ hv => ?_)
  obtain ⟨rfl, ⟨n1, hC1⟩, hM⟩ := hv
  have ho := Mo_obs hM
  obtain ⟨hn, h8, hfk, ⟨tt, htt, ht120⟩, zs, hzs⟩ := hC.mod hM
  dsimp only [Option.toList, List.cons_append, List.nil_append]
  refine l_aload dLw_404 rfl ?_
  refine l_arg (k := k) (j := 1) dLw_405 dLw_406 dLw_407 dLw_408 dLw_409 rfl rfl rfl (by omega) h3 ?_
  refine l_arg (k := k) (j := 2) dLw_410 dLw_411 dLw_412 dLw_413 dLw_414 rfl rfl rfl (by omega) h3 ?_
  refine l_arg (k := k) (j := 3) dLw_415 dLw_416 dLw_417 dLw_418 dLw_419 rfl rfl rfl (by omega) h3 ?_
  refine l_call (M' := mX7_pays) (c := 50) (ci := 7) (as := [.int (xs (k + 1)), .int (xs (k + 2)), .int (xs (k + 3))]) (rest := [_]) dLw_420 ml_L_39 mv_X7_pays rfl rfl (by decide) rfl (m_pays G τ _ _ _ n hn h8) rfl rfl (Nat.le_of_ble_eq_true rfl) (fun v τ2 hv => ?_)
  obtain ⟨rfl, ho2, hco⟩ := hv
  rw [ho] at ho2
  dsimp only [Option.toList, List.cons_append, List.nil_append]
  refine l_eq (t := 1480) dLw_423 (by decide) (by rw [ho]) ?_
  exact go τ2 n1 (ho2.symm ▸ hC1.co hco)
set_option maxRecDepth 100000 in
set_option maxHeartbeats 1000000 in
theorem lwc_6 {G : GT} {b Ln : Nat} {xs : Nat → Int32} {k n : Nat} {σ : Sg} (hk : k + 6 ≤ Ln) (h3 : Ln ≤ 3072) (hC : RC σ (obs σ) n) (go : ∀ σ2 n2, RC σ2 (obs σ2) n2 → LWp G b Ln xs 1480 (Lk k) [] σ2) : LWp G b Ln xs 428 (Lk k) [] σ := by
  refine l_aload dLw_428 rfl ?_
  refine l_arg (k := k) (j := 1) dLw_429 dLw_430 dLw_431 dLw_432 dLw_433 rfl rfl rfl (by omega) h3 ?_
  refine l_arg (k := k) (j := 2) dLw_434 dLw_435 dLw_436 dLw_437 dLw_438 rfl rfl rfl (by omega) h3 ?_
  refine l_call (M' := mX6_turn) (c := 0) (ci := 6) (as := [.int (xs (k + 1)), .int (xs (k + 2))]) (rest := []) dLw_439 ml_L_40 mv_X6_turn rfl rfl (by decide) rfl (k_turn G σ (obs σ) n hC _ _) rfl rfl (Nat.le_of_ble_eq_true rfl) (fun v τ hv => ?_)
  obtain ⟨rfl, ⟨n1, hC1⟩, hM⟩ := hv
  have ho := Mo_obs hM
  obtain ⟨hn, h8, hfk, ⟨tt, htt, ht120⟩, zs, hzs⟩ := hC.mod hM
  dsimp only [Option.toList, List.cons_append, List.nil_append]
  refine l_aload dLw_442 rfl ?_
  refine l_arg (k := k) (j := 1) dLw_443 dLw_444 dLw_445 dLw_446 dLw_447 rfl rfl rfl (by omega) h3 ?_
  refine l_arg (k := k) (j := 2) dLw_448 dLw_449 dLw_450 dLw_451 dLw_452 rfl rfl rfl (by omega) h3 ?_
  refine l_call (M' := mX7_turn) (c := 50) (ci := 7) (as := [.int (xs (k + 1)), .int (xs (k + 2))]) (rest := [_]) dLw_453 ml_L_43 mv_X7_turn rfl rfl (by decide) rfl (m_turn G τ _ _ n hn h8) rfl rfl (Nat.le_of_ble_eq_true rfl) (fun v τ2 hv => ?_)
  obtain ⟨rfl, ho2, hco⟩ := hv
  rw [ho] at ho2
  dsimp only [Option.toList, List.cons_append, List.nil_append]
  refine l_eq (t := 1480) dLw_456 (by decide) (by rw [ho]) ?_
  exact go τ2 n1 (ho2.symm ▸ hC1.co hco)
set_option maxRecDepth 100000 in
set_option maxHeartbeats 1000000 in
theorem lwc_7 {G : GT} {b Ln : Nat} {xs : Nat → Int32} {k n : Nat} {σ : Sg} (hk : k + 6 ≤ Ln) (h3 : Ln ≤ 3072) (hC : RC σ (obs σ) n) (go : ∀ σ2 n2, RC σ2 (obs σ2) n2 → LWp G b Ln xs 1480 (Lk k) [] σ2) : LWp G b Ln xs 461 (Lk k) [] σ := by
  refine l_aload dLw_461 rfl ?_
  refine l_arg (k := k) (j := 1) dLw_462 dLw_463 dLw_464 dLw_465 dLw_466 rfl rfl rfl (by omega) h3 ?_
  refine l_arg (k := k) (j := 2) dLw_467 dLw_468 dLw_469 dLw_470 dLw_471 rfl rfl rfl (by omega) h3 ?_
  refine l_call (M' := mX6_as) (c := 0) (ci := 6) (as := [.int (xs (k + 1)), .int (xs (k + 2))]) (rest := []) dLw_472 ml_L_44 mv_X6_as rfl rfl (by decide) rfl (k_as G σ (obs σ) n hC _ _) rfl rfl (Nat.le_of_ble_eq_true rfl) (fun v τ hv => ?_)
  obtain ⟨rfl, ⟨n1, hC1⟩, hM⟩ := hv
  have ho := Mo_obs hM
  obtain ⟨hn, h8, hfk, ⟨tt, htt, ht120⟩, zs, hzs⟩ := hC.mod hM
  dsimp only [Option.toList, List.cons_append, List.nil_append]
  refine l_aload dLw_475 rfl ?_
  refine l_arg (k := k) (j := 1) dLw_476 dLw_477 dLw_478 dLw_479 dLw_480 rfl rfl rfl (by omega) h3 ?_
  refine l_arg (k := k) (j := 2) dLw_481 dLw_482 dLw_483 dLw_484 dLw_485 rfl rfl rfl (by omega) h3 ?_
  refine l_call (M' := mX7_as) (c := 50) (ci := 7) (as := [.int (xs (k + 1)), .int (xs (k + 2))]) (rest := [_]) dLw_486 ml_L_47 mv_X7_as rfl rfl (by decide) rfl (m_as G τ _ _ n hn h8) rfl rfl (Nat.le_of_ble_eq_true rfl) (fun v τ2 hv => ?_)
  obtain ⟨rfl, ho2, hco⟩ := hv
  rw [ho] at ho2
  dsimp only [Option.toList, List.cons_append, List.nil_append]
  refine l_eq (t := 1480) dLw_489 (by decide) (by rw [ho]) ?_
  exact go τ2 n1 (ho2.symm ▸ hC1.co hco)
set_option maxRecDepth 100000 in
set_option maxHeartbeats 1000000 in
theorem lwc_8 {G : GT} {b Ln : Nat} {xs : Nat → Int32} {k n : Nat} {σ : Sg} (hk : k + 6 ≤ Ln) (h3 : Ln ≤ 3072) (hC : RC σ (obs σ) n) (go : ∀ σ2 n2, RC σ2 (obs σ2) n2 → LWp G b Ln xs 1480 (Lk k) [] σ2) : LWp G b Ln xs 494 (Lk k) [] σ := by
  refine l_aload dLw_494 rfl ?_
  refine l_arg (k := k) (j := 1) dLw_495 dLw_496 dLw_497 dLw_498 dLw_499 rfl rfl rfl (by omega) h3 ?_
  refine l_call (M' := mX6_down) (c := 0) (ci := 6) (as := [.int (xs (k + 1))]) (rest := []) dLw_500 ml_L_48 mv_X6_down rfl rfl (by decide) rfl (k_down G σ (obs σ) n hC _) rfl rfl (Nat.le_of_ble_eq_true rfl) (fun v τ hv => ?_)
  obtain ⟨rfl, ⟨n1, hC1⟩, hM⟩ := hv
  have ho := Mo_obs hM
  obtain ⟨hn, h8, hfk, ⟨tt, htt, ht120⟩, zs, hzs⟩ := hC.mod hM
  dsimp only [Option.toList, List.cons_append, List.nil_append]
  refine l_aload dLw_503 rfl ?_
  refine l_arg (k := k) (j := 1) dLw_504 dLw_505 dLw_506 dLw_507 dLw_508 rfl rfl rfl (by omega) h3 ?_
  refine l_call (M' := mX7_down) (c := 50) (ci := 7) (as := [.int (xs (k + 1))]) (rest := [_]) dLw_509 ml_L_51 mv_X7_down rfl rfl (by decide) rfl (m_down G τ _ n hn h8) rfl rfl (Nat.le_of_ble_eq_true rfl) (fun v τ2 hv => ?_)
  obtain ⟨rfl, ho2, hco⟩ := hv
  rw [ho] at ho2
  dsimp only [Option.toList, List.cons_append, List.nil_append]
  refine l_eq (t := 1480) dLw_512 (by decide) (by rw [ho]) ?_
  exact go τ2 n1 (ho2.symm ▸ hC1.co hco)
set_option maxRecDepth 100000 in
set_option maxHeartbeats 1000000 in
theorem lwc_9 {G : GT} {b Ln : Nat} {xs : Nat → Int32} {k n : Nat} {σ : Sg} (hk : k + 6 ≤ Ln) (h3 : Ln ≤ 3072) (hC : RC σ (obs σ) n) (go : ∀ σ2 n2, RC σ2 (obs σ2) n2 → LWp G b Ln xs 1480 (Lk k) [] σ2) : LWp G b Ln xs 517 (Lk k) [] σ := by
  refine l_aload dLw_517 rfl ?_
  refine l_arg (k := k) (j := 1) dLw_518 dLw_519 dLw_520 dLw_521 dLw_522 rfl rfl rfl (by omega) h3 ?_
  refine l_call (M' := mX6_settle) (c := 0) (ci := 6) (as := [.int (xs (k + 1))]) (rest := []) dLw_523 ml_L_52 mv_X6_settle rfl rfl (by decide) rfl (k_settle G σ (obs σ) n hC _) rfl rfl (Nat.le_of_ble_eq_true rfl) (fun v τ hv => ?_)
  obtain ⟨rfl, ⟨n1, hC1⟩, hM⟩ := hv
  have ho := Mo_obs hM
  obtain ⟨hn, h8, hfk, ⟨tt, htt, ht120⟩, zs, hzs⟩ := hC.mod hM
  dsimp only [Option.toList, List.cons_append, List.nil_append]
  refine l_aload dLw_526 rfl ?_
  refine l_arg (k := k) (j := 1) dLw_527 dLw_528 dLw_529 dLw_530 dLw_531 rfl rfl rfl (by omega) h3 ?_
  refine l_call (M' := mX7_settle) (c := 50) (ci := 7) (as := [.int (xs (k + 1))]) (rest := [_]) dLw_532 ml_L_55 mv_X7_settle rfl rfl (by decide) rfl (m_settle G τ _ n hn h8) rfl rfl (Nat.le_of_ble_eq_true rfl) (fun v τ2 hv => ?_)
  obtain ⟨rfl, ho2, hco⟩ := hv
  rw [ho] at ho2
  dsimp only [Option.toList, List.cons_append, List.nil_append]
  refine l_eq (t := 1480) dLw_535 (by decide) (by rw [ho]) ?_
  exact go τ2 n1 (ho2.symm ▸ hC1.co hco)
set_option maxRecDepth 100000 in
set_option maxHeartbeats 1000000 in
theorem lwc_10 {G : GT} {b Ln : Nat} {xs : Nat → Int32} {k n : Nat} {σ : Sg} (hk : k + 6 ≤ Ln) (h3 : Ln ≤ 3072) (hC : RC σ (obs σ) n) (go : ∀ σ2 n2, RC σ2 (obs σ2) n2 → LWp G b Ln xs 1480 (Lk k) [] σ2) : LWp G b Ln xs 540 (Lk k) [] σ := by
  refine l_aload dLw_540 rfl ?_
  refine l_arg (k := k) (j := 1) dLw_541 dLw_542 dLw_543 dLw_544 dLw_545 rfl rfl rfl (by omega) h3 ?_
  refine l_call (M' := mX6_hours) (c := 0) (ci := 6) (as := [.int (xs (k + 1))]) (rest := []) dLw_546 ml_L_56 mv_X6_hours rfl rfl (by decide) rfl (k_hours G σ (obs σ) n hC _) rfl rfl (Nat.le_of_ble_eq_true rfl) (fun v τ hv => ?_)
  obtain ⟨rfl, ⟨n1, hC1⟩, hM⟩ := hv
  have ho := Mo_obs hM
  obtain ⟨hn, h8, hfk, ⟨tt, htt, ht120⟩, zs, hzs⟩ := hC.mod hM
  dsimp only [Option.toList, List.cons_append, List.nil_append]
  refine l_aload dLw_549 rfl ?_
  refine l_arg (k := k) (j := 1) dLw_550 dLw_551 dLw_552 dLw_553 dLw_554 rfl rfl rfl (by omega) h3 ?_
  refine l_call (M' := mX7_hours) (c := 50) (ci := 7) (as := [.int (xs (k + 1))]) (rest := [_]) dLw_555 ml_L_59 mv_X7_hours rfl rfl (by decide) rfl (m_hours G τ _ n hn h8) rfl rfl (Nat.le_of_ble_eq_true rfl) (fun v τ2 hv => ?_)
  obtain ⟨rfl, ho2, hco⟩ := hv
  rw [ho] at ho2
  dsimp only [Option.toList, List.cons_append, List.nil_append]
  refine l_eq (t := 1480) dLw_558 (by decide) (by rw [ho]) ?_
  exact go τ2 n1 (ho2.symm ▸ hC1.co hco)
set_option maxRecDepth 100000 in
set_option maxHeartbeats 1000000 in
theorem lwc_11 {G : GT} {b Ln : Nat} {xs : Nat → Int32} {k n : Nat} {σ : Sg} (hk : k + 6 ≤ Ln) (h3 : Ln ≤ 3072) (hC : RC σ (obs σ) n) (go : ∀ σ2 n2, RC σ2 (obs σ2) n2 → LWp G b Ln xs 1480 (Lk k) [] σ2) : LWp G b Ln xs 563 (Lk k) [] σ := by
  refine l_aload dLw_563 rfl ?_
  refine l_arg (k := k) (j := 1) dLw_564 dLw_565 dLw_566 dLw_567 dLw_568 rfl rfl rfl (by omega) h3 ?_
  refine l_call (M' := mX6_days) (c := 0) (ci := 6) (as := [.int (xs (k + 1))]) (rest := []) dLw_569 ml_L_60 mv_X6_days rfl rfl (by decide) rfl (k_days G σ (obs σ) n hC _) rfl rfl (Nat.le_of_ble_eq_true rfl) (fun v τ hv => ?_)
  obtain ⟨rfl, ⟨n1, hC1⟩, hM⟩ := hv
  have ho := Mo_obs hM
  obtain ⟨hn, h8, hfk, ⟨tt, htt, ht120⟩, zs, hzs⟩ := hC.mod hM
  dsimp only [Option.toList, List.cons_append, List.nil_append]
  refine l_aload dLw_572 rfl ?_
  refine l_arg (k := k) (j := 1) dLw_573 dLw_574 dLw_575 dLw_576 dLw_577 rfl rfl rfl (by omega) h3 ?_
  refine l_call (M' := mX7_days) (c := 50) (ci := 7) (as := [.int (xs (k + 1))]) (rest := [_]) dLw_578 ml_L_63 mv_X7_days rfl rfl (by decide) rfl (m_days G τ _ n hn h8) rfl rfl (Nat.le_of_ble_eq_true rfl) (fun v τ2 hv => ?_)
  obtain ⟨rfl, ho2, hco⟩ := hv
  rw [ho] at ho2
  dsimp only [Option.toList, List.cons_append, List.nil_append]
  refine l_eq (t := 1480) dLw_581 (by decide) (by rw [ho]) ?_
  exact go τ2 n1 (ho2.symm ▸ hC1.co hco)
set_option maxRecDepth 100000 in
set_option maxHeartbeats 1000000 in
theorem lwc_12 {G : GT} {b Ln : Nat} {xs : Nat → Int32} {k n : Nat} {σ : Sg} (hk : k + 6 ≤ Ln) (h3 : Ln ≤ 3072) (hC : RC σ (obs σ) n) (go : ∀ σ2 n2, RC σ2 (obs σ2) n2 → LWp G b Ln xs 1480 (Lk k) [] σ2) : LWp G b Ln xs 586 (Lk k) [] σ := by
  refine l_aload dLw_586 rfl ?_
  refine l_arg (k := k) (j := 1) dLw_587 dLw_588 dLw_589 dLw_590 dLw_591 rfl rfl rfl (by omega) h3 ?_
  refine l_call (M' := mX6_seed) (c := 0) (ci := 6) (as := [.int (xs (k + 1))]) (rest := []) dLw_592 ml_L_64 mv_X6_seed rfl rfl (by decide) rfl (k_seed G σ (obs σ) n hC _) rfl rfl (Nat.le_of_ble_eq_true rfl) (fun v τ hv => ?_)
  obtain ⟨rfl, ⟨n1, hC1⟩, hM⟩ := hv
  have ho := Mo_obs hM
  obtain ⟨hn, h8, hfk, ⟨tt, htt, ht120⟩, zs, hzs⟩ := hC.mod hM
  dsimp only [Option.toList, List.cons_append, List.nil_append]
  refine l_aload dLw_595 rfl ?_
  refine l_arg (k := k) (j := 1) dLw_596 dLw_597 dLw_598 dLw_599 dLw_600 rfl rfl rfl (by omega) h3 ?_
  refine l_call (M' := mX7_seed) (c := 50) (ci := 7) (as := [.int (xs (k + 1))]) (rest := [_]) dLw_601 ml_L_67 mv_X7_seed rfl rfl (by decide) rfl (m_seed G τ _ n hn h8) rfl rfl (Nat.le_of_ble_eq_true rfl) (fun v τ2 hv => ?_)
  obtain ⟨rfl, ho2, hco⟩ := hv
  rw [ho] at ho2
  dsimp only [Option.toList, List.cons_append, List.nil_append]
  refine l_eq (t := 1480) dLw_604 (by decide) (by rw [ho]) ?_
  exact go τ2 n1 (ho2.symm ▸ hC1.co hco)
set_option maxRecDepth 100000 in
set_option maxHeartbeats 1000000 in
theorem lwc_13 {G : GT} {b Ln : Nat} {xs : Nat → Int32} {k n : Nat} {σ : Sg} (hk : k + 6 ≤ Ln) (h3 : Ln ≤ 3072) (hC : RC σ (obs σ) n) (go : ∀ σ2 n2, RC σ2 (obs σ2) n2 → LWp G b Ln xs 1480 (Lk k) [] σ2) : LWp G b Ln xs 609 (Lk k) [] σ := by
  refine l_aload dLw_609 rfl ?_
  refine l_arg (k := k) (j := 1) dLw_610 dLw_611 dLw_612 dLw_613 dLw_614 rfl rfl rfl (by omega) h3 ?_
  refine l_call (M' := mX6_now) (c := 0) (ci := 6) (as := [.int (xs (k + 1))]) (rest := []) dLw_615 ml_L_68 mv_X6_now rfl rfl (by decide) rfl (k_now G σ (obs σ) n hC _) rfl rfl (Nat.le_of_ble_eq_true rfl) (fun v τ hv => ?_)
  obtain ⟨rfl, ⟨n1, hC1⟩, hM⟩ := hv
  have ho := Mo_obs hM
  obtain ⟨hn, h8, hfk, ⟨tt, htt, ht120⟩, zs, hzs⟩ := hC.mod hM
  dsimp only [Option.toList, List.cons_append, List.nil_append]
  refine l_aload dLw_618 rfl ?_
  refine l_arg (k := k) (j := 1) dLw_619 dLw_620 dLw_621 dLw_622 dLw_623 rfl rfl rfl (by omega) h3 ?_
  refine l_call (M' := mX7_now) (c := 50) (ci := 7) (as := [.int (xs (k + 1))]) (rest := [_]) dLw_624 ml_L_71 mv_X7_now rfl rfl (by decide) rfl (m_now G τ _ n hn h8) rfl rfl (Nat.le_of_ble_eq_true rfl) (fun v τ2 hv => ?_)
  obtain ⟨rfl, ho2, hco⟩ := hv
  rw [ho] at ho2
  dsimp only [Option.toList, List.cons_append, List.nil_append]
  refine l_eq (t := 1480) dLw_627 (by decide) (by rw [ho]) ?_
  exact go τ2 n1 (ho2.symm ▸ hC1.co hco)
set_option maxRecDepth 100000 in
set_option maxHeartbeats 1000000 in
theorem lwc_14 {G : GT} {b Ln : Nat} {xs : Nat → Int32} {k n : Nat} {σ : Sg} (hk : k + 6 ≤ Ln) (h3 : Ln ≤ 3072) (hC : RC σ (obs σ) n) (go : ∀ σ2 n2, RC σ2 (obs σ2) n2 → LWp G b Ln xs 1480 (Lk k) [] σ2) : LWp G b Ln xs 632 (Lk k) [] σ := by
  refine l_aload dLw_632 rfl ?_
  refine l_arg (k := k) (j := 1) dLw_633 dLw_634 dLw_635 dLw_636 dLw_637 rfl rfl rfl (by omega) h3 ?_
  refine l_arg (k := k) (j := 2) dLw_638 dLw_639 dLw_640 dLw_641 dLw_642 rfl rfl rfl (by omega) h3 ?_
  refine l_arg (k := k) (j := 3) dLw_643 dLw_644 dLw_645 dLw_646 dLw_647 rfl rfl rfl (by omega) h3 ?_
  refine l_call (M' := mX6_on) (c := 0) (ci := 6) (as := [.int (xs (k + 1)), .int (xs (k + 2)), .int (xs (k + 3))]) (rest := []) dLw_648 ml_L_72 mv_X6_on rfl rfl (by decide) rfl (k_on_ G σ (obs σ) n hC _ _ _) rfl rfl (Nat.le_of_ble_eq_true rfl) (fun v τ hv => ?_)
  obtain ⟨rfl, ⟨n1, hC1⟩, hM⟩ := hv
  have ho := Mo_obs hM
  obtain ⟨hn, h8, hfk, ⟨tt, htt, ht120⟩, zs, hzs⟩ := hC.mod hM
  dsimp only [Option.toList, List.cons_append, List.nil_append]
  refine l_aload dLw_651 rfl ?_
  refine l_arg (k := k) (j := 1) dLw_652 dLw_653 dLw_654 dLw_655 dLw_656 rfl rfl rfl (by omega) h3 ?_
  refine l_arg (k := k) (j := 2) dLw_657 dLw_658 dLw_659 dLw_660 dLw_661 rfl rfl rfl (by omega) h3 ?_
  refine l_arg (k := k) (j := 3) dLw_662 dLw_663 dLw_664 dLw_665 dLw_666 rfl rfl rfl (by omega) h3 ?_
  refine l_call (M' := mX7_on) (c := 50) (ci := 7) (as := [.int (xs (k + 1)), .int (xs (k + 2)), .int (xs (k + 3))]) (rest := [_]) dLw_667 ml_L_75 mv_X7_on rfl rfl (by decide) rfl (m_on G τ _ _ _ n hn h8) rfl rfl (Nat.le_of_ble_eq_true rfl) (fun v τ2 hv => ?_)
  obtain ⟨rfl, ho2, hco⟩ := hv
  rw [ho] at ho2
  dsimp only [Option.toList, List.cons_append, List.nil_append]
  refine l_eq (t := 1480) dLw_670 (by decide) (by rw [ho]) ?_
  exact go τ2 n1 (ho2.symm ▸ hC1.co hco)
set_option maxRecDepth 100000 in
set_option maxHeartbeats 1000000 in
theorem lwc_15 {G : GT} {b Ln : Nat} {xs : Nat → Int32} {k n : Nat} {σ : Sg} (hk : k + 6 ≤ Ln) (h3 : Ln ≤ 3072) (hC : RC σ (obs σ) n) (go : ∀ σ2 n2, RC σ2 (obs σ2) n2 → LWp G b Ln xs 1480 (Lk k) [] σ2) : LWp G b Ln xs 675 (Lk k) [] σ := by
  refine l_aload dLw_675 rfl ?_
  refine l_arg (k := k) (j := 1) dLw_676 dLw_677 dLw_678 dLw_679 dLw_680 rfl rfl rfl (by omega) h3 ?_
  refine l_call (M' := mX6_next) (c := 0) (ci := 6) (as := [.int (xs (k + 1))]) (rest := []) dLw_681 ml_L_76 mv_X6_next rfl rfl (by decide) rfl (k_next G σ (obs σ) n hC _) rfl rfl (Nat.le_of_ble_eq_true rfl) (fun v τ hv => ?_)
  obtain ⟨rfl, ⟨n1, hC1⟩, hM⟩ := hv
  have ho := Mo_obs hM
  obtain ⟨hn, h8, hfk, ⟨tt, htt, ht120⟩, zs, hzs⟩ := hC.mod hM
  dsimp only [Option.toList, List.cons_append, List.nil_append]
  refine l_aload dLw_684 rfl ?_
  refine l_arg (k := k) (j := 1) dLw_685 dLw_686 dLw_687 dLw_688 dLw_689 rfl rfl rfl (by omega) h3 ?_
  refine l_call (M' := mX7_next) (c := 50) (ci := 7) (as := [.int (xs (k + 1))]) (rest := [_]) dLw_690 ml_L_79 mv_X7_next rfl rfl (by decide) rfl (m_next G τ _ n hn h8) rfl rfl (Nat.le_of_ble_eq_true rfl) (fun v τ2 hv => ?_)
  obtain ⟨rfl, ho2, hco⟩ := hv
  rw [ho] at ho2
  dsimp only [Option.toList, List.cons_append, List.nil_append]
  refine l_eq (t := 1480) dLw_693 (by decide) (by rw [ho]) ?_
  exact go τ2 n1 (ho2.symm ▸ hC1.co hco)
set_option maxRecDepth 100000 in
set_option maxHeartbeats 1000000 in
theorem lwc_16 {G : GT} {b Ln : Nat} {xs : Nat → Int32} {k n : Nat} {σ : Sg} (hk : k + 6 ≤ Ln) (h3 : Ln ≤ 3072) (hC : RC σ (obs σ) n) (go : ∀ σ2 n2, RC σ2 (obs σ2) n2 → LWp G b Ln xs 1480 (Lk k) [] σ2) : LWp G b Ln xs 698 (Lk k) [] σ := by
  refine l_aload dLw_698 rfl ?_
  refine l_arg (k := k) (j := 1) dLw_699 dLw_700 dLw_701 dLw_702 dLw_703 rfl rfl rfl (by omega) h3 ?_
  refine l_call (M' := mX6_struck) (c := 0) (ci := 6) (as := [.int (xs (k + 1))]) (rest := []) dLw_704 ml_L_80 mv_X6_struck rfl rfl (by decide) rfl (k_struck G σ (obs σ) n hC _) rfl rfl (Nat.le_of_ble_eq_true rfl) (fun v τ hv => ?_)
  obtain ⟨rfl, ⟨n1, hC1⟩, hM⟩ := hv
  have ho := Mo_obs hM
  obtain ⟨hn, h8, hfk, ⟨tt, htt, ht120⟩, zs, hzs⟩ := hC.mod hM
  dsimp only [Option.toList, List.cons_append, List.nil_append]
  refine l_aload dLw_707 rfl ?_
  refine l_arg (k := k) (j := 1) dLw_708 dLw_709 dLw_710 dLw_711 dLw_712 rfl rfl rfl (by omega) h3 ?_
  refine l_call (M' := mX7_struck) (c := 50) (ci := 7) (as := [.int (xs (k + 1))]) (rest := [_]) dLw_713 ml_L_83 mv_X7_struck rfl rfl (by decide) rfl (m_struck G τ _ n hn h8) rfl rfl (Nat.le_of_ble_eq_true rfl) (fun v τ2 hv => ?_)
  obtain ⟨rfl, ho2, hco⟩ := hv
  rw [ho] at ho2
  dsimp only [Option.toList, List.cons_append, List.nil_append]
  refine l_eq (t := 1480) dLw_716 (by decide) (by rw [ho]) ?_
  exact go τ2 n1 (ho2.symm ▸ hC1.co hco)
set_option maxRecDepth 100000 in
set_option maxHeartbeats 1000000 in
theorem lwc_17 {G : GT} {b Ln : Nat} {xs : Nat → Int32} {k n : Nat} {σ : Sg} (hk : k + 6 ≤ Ln) (h3 : Ln ≤ 3072) (hC : RC σ (obs σ) n) (go : ∀ σ2 n2, RC σ2 (obs σ2) n2 → LWp G b Ln xs 1480 (Lk k) [] σ2) : LWp G b Ln xs 721 (Lk k) [] σ := by
  refine l_aload dLw_721 rfl ?_
  refine l_arg (k := k) (j := 1) dLw_722 dLw_723 dLw_724 dLw_725 dLw_726 rfl rfl rfl (by omega) h3 ?_
  refine l_call (M' := mX6_reach) (c := 0) (ci := 6) (as := [.int (xs (k + 1))]) (rest := []) dLw_727 ml_L_84 mv_X6_reach rfl rfl (by decide) rfl (k_reach G σ (obs σ) n hC _) rfl rfl (Nat.le_of_ble_eq_true rfl) (fun v τ hv => ?_)
  obtain ⟨rfl, ⟨n1, hC1⟩, hM⟩ := hv
  have ho := Mo_obs hM
  obtain ⟨hn, h8, hfk, ⟨tt, htt, ht120⟩, zs, hzs⟩ := hC.mod hM
  dsimp only [Option.toList, List.cons_append, List.nil_append]
  refine l_aload dLw_730 rfl ?_
  refine l_arg (k := k) (j := 1) dLw_731 dLw_732 dLw_733 dLw_734 dLw_735 rfl rfl rfl (by omega) h3 ?_
  refine l_call (M' := mX7_reach) (c := 50) (ci := 7) (as := [.int (xs (k + 1))]) (rest := [_]) dLw_736 ml_L_87 mv_X7_reach rfl rfl (by decide) rfl (m_reach G τ _ n hn h8) rfl rfl (Nat.le_of_ble_eq_true rfl) (fun v τ2 hv => ?_)
  obtain ⟨rfl, ho2, hco⟩ := hv
  rw [ho] at ho2
  dsimp only [Option.toList, List.cons_append, List.nil_append]
  refine l_eq (t := 1480) dLw_739 (by decide) (by rw [ho]) ?_
  exact go τ2 n1 (ho2.symm ▸ hC1.co hco)
set_option maxRecDepth 100000 in
set_option maxHeartbeats 1000000 in
theorem lwc_18 {G : GT} {b Ln : Nat} {xs : Nat → Int32} {k n : Nat} {σ : Sg} (hk : k + 6 ≤ Ln) (h3 : Ln ≤ 3072) (hC : RC σ (obs σ) n) (go : ∀ σ2 n2, RC σ2 (obs σ2) n2 → LWp G b Ln xs 1480 (Lk k) [] σ2) : LWp G b Ln xs 744 (Lk k) [] σ := by
  refine l_aload dLw_744 rfl ?_
  refine l_arg (k := k) (j := 1) dLw_745 dLw_746 dLw_747 dLw_748 dLw_749 rfl rfl rfl (by omega) h3 ?_
  refine l_call (M' := mX6_steals) (c := 0) (ci := 6) (as := [.int (xs (k + 1))]) (rest := []) dLw_750 ml_L_88 mv_X6_steals rfl rfl (by decide) rfl (k_steals G σ (obs σ) n hC _) rfl rfl (Nat.le_of_ble_eq_true rfl) (fun v τ hv => ?_)
  obtain ⟨rfl, ⟨n1, hC1⟩, hM⟩ := hv
  have ho := Mo_obs hM
  obtain ⟨hn, h8, hfk, ⟨tt, htt, ht120⟩, zs, hzs⟩ := hC.mod hM
  dsimp only [Option.toList, List.cons_append, List.nil_append]
  refine l_aload dLw_753 rfl ?_
  refine l_arg (k := k) (j := 1) dLw_754 dLw_755 dLw_756 dLw_757 dLw_758 rfl rfl rfl (by omega) h3 ?_
  refine l_call (M' := mX7_steals) (c := 50) (ci := 7) (as := [.int (xs (k + 1))]) (rest := [_]) dLw_759 ml_L_91 mv_X7_steals rfl rfl (by decide) rfl (m_steals G τ _ n hn h8) rfl rfl (Nat.le_of_ble_eq_true rfl) (fun v τ2 hv => ?_)
  obtain ⟨rfl, ho2, hco⟩ := hv
  rw [ho] at ho2
  dsimp only [Option.toList, List.cons_append, List.nil_append]
  refine l_eq (t := 1480) dLw_762 (by decide) (by rw [ho]) ?_
  exact go τ2 n1 (ho2.symm ▸ hC1.co hco)
set_option maxRecDepth 100000 in
set_option maxHeartbeats 1000000 in
theorem lwc_19 {G : GT} {b Ln : Nat} {xs : Nat → Int32} {k n : Nat} {σ : Sg} (hk : k + 6 ≤ Ln) (h3 : Ln ≤ 3072) (hC : RC σ (obs σ) n) (go : ∀ σ2 n2, RC σ2 (obs σ2) n2 → LWp G b Ln xs 1480 (Lk k) [] σ2) : LWp G b Ln xs 767 (Lk k) [] σ := by
  refine l_aload dLw_767 rfl ?_
  refine l_arg (k := k) (j := 1) dLw_768 dLw_769 dLw_770 dLw_771 dLw_772 rfl rfl rfl (by omega) h3 ?_
  refine l_call (M' := mX6_ducks) (c := 0) (ci := 6) (as := [.int (xs (k + 1))]) (rest := []) dLw_773 ml_L_92 mv_X6_ducks rfl rfl (by decide) rfl (k_ducks G σ (obs σ) n hC _) rfl rfl (Nat.le_of_ble_eq_true rfl) (fun v τ hv => ?_)
  obtain ⟨rfl, ⟨n1, hC1⟩, hM⟩ := hv
  have ho := Mo_obs hM
  obtain ⟨hn, h8, hfk, ⟨tt, htt, ht120⟩, zs, hzs⟩ := hC.mod hM
  dsimp only [Option.toList, List.cons_append, List.nil_append]
  refine l_aload dLw_776 rfl ?_
  refine l_arg (k := k) (j := 1) dLw_777 dLw_778 dLw_779 dLw_780 dLw_781 rfl rfl rfl (by omega) h3 ?_
  refine l_call (M' := mX7_ducks) (c := 50) (ci := 7) (as := [.int (xs (k + 1))]) (rest := [_]) dLw_782 ml_L_95 mv_X7_ducks rfl rfl (by decide) rfl (m_ducks G τ _ n hn h8) rfl rfl (Nat.le_of_ble_eq_true rfl) (fun v τ2 hv => ?_)
  obtain ⟨rfl, ho2, hco⟩ := hv
  rw [ho] at ho2
  dsimp only [Option.toList, List.cons_append, List.nil_append]
  refine l_eq (t := 1480) dLw_785 (by decide) (by rw [ho]) ?_
  exact go τ2 n1 (ho2.symm ▸ hC1.co hco)
set_option maxRecDepth 100000 in
set_option maxHeartbeats 1000000 in
theorem lwc_20 {G : GT} {b Ln : Nat} {xs : Nat → Int32} {k n : Nat} {σ : Sg} (hk : k + 6 ≤ Ln) (h3 : Ln ≤ 3072) (hC : RC σ (obs σ) n) (go : ∀ σ2 n2, RC σ2 (obs σ2) n2 → LWp G b Ln xs 1480 (Lk k) [] σ2) : LWp G b Ln xs 790 (Lk k) [] σ := by
  refine l_aload dLw_790 rfl ?_
  refine l_arg (k := k) (j := 1) dLw_791 dLw_792 dLw_793 dLw_794 dLw_795 rfl rfl rfl (by omega) h3 ?_
  refine l_arg (k := k) (j := 2) dLw_796 dLw_797 dLw_798 dLw_799 dLw_800 rfl rfl rfl (by omega) h3 ?_
  refine l_call (M' := mX6_place) (c := 0) (ci := 6) (as := [.int (xs (k + 1)), .int (xs (k + 2))]) (rest := []) dLw_801 ml_L_96 mv_X6_place rfl rfl (by decide) rfl (k_place G σ (obs σ) n hC _ _) rfl rfl (Nat.le_of_ble_eq_true rfl) (fun v τ hv => ?_)
  obtain ⟨rfl, ⟨n1, hC1⟩, hM⟩ := hv
  have ho := Mo_obs hM
  obtain ⟨hn, h8, hfk, ⟨tt, htt, ht120⟩, zs, hzs⟩ := hC.mod hM
  dsimp only [Option.toList, List.cons_append, List.nil_append]
  refine l_aload dLw_804 rfl ?_
  refine l_arg (k := k) (j := 1) dLw_805 dLw_806 dLw_807 dLw_808 dLw_809 rfl rfl rfl (by omega) h3 ?_
  refine l_arg (k := k) (j := 2) dLw_810 dLw_811 dLw_812 dLw_813 dLw_814 rfl rfl rfl (by omega) h3 ?_
  refine l_call (M' := mX7_place) (c := 50) (ci := 7) (as := [.int (xs (k + 1)), .int (xs (k + 2))]) (rest := [_]) dLw_815 ml_L_99 mv_X7_place rfl rfl (by decide) rfl (m_place G τ _ _ n hn h8) rfl rfl (Nat.le_of_ble_eq_true rfl) (fun v τ2 hv => ?_)
  obtain ⟨rfl, ho2, hco⟩ := hv
  rw [ho] at ho2
  dsimp only [Option.toList, List.cons_append, List.nil_append]
  refine l_eq (t := 1480) dLw_818 (by decide) (by rw [ho]) ?_
  exact go τ2 n1 (ho2.symm ▸ hC1.co hco)
set_option maxRecDepth 100000 in
set_option maxHeartbeats 1000000 in
theorem lwc_21 {G : GT} {b Ln : Nat} {xs : Nat → Int32} {k n : Nat} {σ : Sg} (hk : k + 6 ≤ Ln) (h3 : Ln ≤ 3072) (hC : RC σ (obs σ) n) (go : ∀ σ2 n2, RC σ2 (obs σ2) n2 → LWp G b Ln xs 1480 (Lk k) [] σ2) : LWp G b Ln xs 823 (Lk k) [] σ := by
  refine l_aload dLw_823 rfl ?_
  refine l_arg (k := k) (j := 1) dLw_824 dLw_825 dLw_826 dLw_827 dLw_828 rfl rfl rfl (by omega) h3 ?_
  refine l_arg (k := k) (j := 2) dLw_829 dLw_830 dLw_831 dLw_832 dLw_833 rfl rfl rfl (by omega) h3 ?_
  refine l_call (M' := mX6_thief) (c := 0) (ci := 6) (as := [.int (xs (k + 1)), .int (xs (k + 2))]) (rest := []) dLw_834 ml_L_100 mv_X6_thief rfl rfl (by decide) rfl (k_thief G σ (obs σ) n hC _ _) rfl rfl (Nat.le_of_ble_eq_true rfl) (fun v τ hv => ?_)
  obtain ⟨rfl, ⟨n1, hC1⟩, hM⟩ := hv
  have ho := Mo_obs hM
  obtain ⟨hn, h8, hfk, ⟨tt, htt, ht120⟩, zs, hzs⟩ := hC.mod hM
  dsimp only [Option.toList, List.cons_append, List.nil_append]
  refine l_aload dLw_837 rfl ?_
  refine l_arg (k := k) (j := 1) dLw_838 dLw_839 dLw_840 dLw_841 dLw_842 rfl rfl rfl (by omega) h3 ?_
  refine l_arg (k := k) (j := 2) dLw_843 dLw_844 dLw_845 dLw_846 dLw_847 rfl rfl rfl (by omega) h3 ?_
  refine l_call (M' := mX7_thief) (c := 50) (ci := 7) (as := [.int (xs (k + 1)), .int (xs (k + 2))]) (rest := [_]) dLw_848 ml_L_103 mv_X7_thief rfl rfl (by decide) rfl (m_thief G τ _ _ n hn h8) rfl rfl (Nat.le_of_ble_eq_true rfl) (fun v τ2 hv => ?_)
  obtain ⟨rfl, ho2, hco⟩ := hv
  rw [ho] at ho2
  dsimp only [Option.toList, List.cons_append, List.nil_append]
  refine l_eq (t := 1480) dLw_851 (by decide) (by rw [ho]) ?_
  exact go τ2 n1 (ho2.symm ▸ hC1.co hco)
set_option maxRecDepth 100000 in
set_option maxHeartbeats 1000000 in
theorem lwc_22 {G : GT} {b Ln : Nat} {xs : Nat → Int32} {k n : Nat} {σ : Sg} (hk : k + 6 ≤ Ln) (h3 : Ln ≤ 3072) (hC : RC σ (obs σ) n) (go : ∀ σ2 n2, RC σ2 (obs σ2) n2 → LWp G b Ln xs 1480 (Lk k) [] σ2) : LWp G b Ln xs 856 (Lk k) [] σ := by
  refine l_aload dLw_856 rfl ?_
  refine l_arg (k := k) (j := 1) dLw_857 dLw_858 dLw_859 dLw_860 dLw_861 rfl rfl rfl (by omega) h3 ?_
  refine l_arg (k := k) (j := 2) dLw_862 dLw_863 dLw_864 dLw_865 dLw_866 rfl rfl rfl (by omega) h3 ?_
  refine l_call (M' := mX6_kind) (c := 0) (ci := 6) (as := [.int (xs (k + 1)), .int (xs (k + 2))]) (rest := []) dLw_867 ml_L_104 mv_X6_kind rfl rfl (by decide) rfl (k_kind G σ (obs σ) n hC _ _) rfl rfl (Nat.le_of_ble_eq_true rfl) (fun v τ hv => ?_)
  obtain ⟨rfl, ⟨n1, hC1⟩, hM⟩ := hv
  have ho := Mo_obs hM
  obtain ⟨hn, h8, hfk, ⟨tt, htt, ht120⟩, zs, hzs⟩ := hC.mod hM
  dsimp only [Option.toList, List.cons_append, List.nil_append]
  refine l_aload dLw_870 rfl ?_
  refine l_arg (k := k) (j := 1) dLw_871 dLw_872 dLw_873 dLw_874 dLw_875 rfl rfl rfl (by omega) h3 ?_
  refine l_arg (k := k) (j := 2) dLw_876 dLw_877 dLw_878 dLw_879 dLw_880 rfl rfl rfl (by omega) h3 ?_
  refine l_call (M' := mX7_kind) (c := 50) (ci := 7) (as := [.int (xs (k + 1)), .int (xs (k + 2))]) (rest := [_]) dLw_881 ml_L_107 mv_X7_kind rfl rfl (by decide) rfl (m_kind G τ _ _ n hn h8) rfl rfl (Nat.le_of_ble_eq_true rfl) (fun v τ2 hv => ?_)
  obtain ⟨rfl, ho2, hco⟩ := hv
  rw [ho] at ho2
  dsimp only [Option.toList, List.cons_append, List.nil_append]
  refine l_eq (t := 1480) dLw_884 (by decide) (by rw [ho]) ?_
  exact go τ2 n1 (ho2.symm ▸ hC1.co hco)
set_option maxRecDepth 100000 in
set_option maxHeartbeats 1000000 in
theorem lwc_23 {G : GT} {b Ln : Nat} {xs : Nat → Int32} {k n : Nat} {σ : Sg} (hk : k + 6 ≤ Ln) (h3 : Ln ≤ 3072) (hC : RC σ (obs σ) n) (go : ∀ σ2 n2, RC σ2 (obs σ2) n2 → LWp G b Ln xs 1480 (Lk k) [] σ2) : LWp G b Ln xs 889 (Lk k) [] σ := by
  refine l_aload dLw_889 rfl ?_
  refine l_arg (k := k) (j := 1) dLw_890 dLw_891 dLw_892 dLw_893 dLw_894 rfl rfl rfl (by omega) h3 ?_
  refine l_arg (k := k) (j := 2) dLw_895 dLw_896 dLw_897 dLw_898 dLw_899 rfl rfl rfl (by omega) h3 ?_
  refine l_call (M' := mX6_clocks) (c := 0) (ci := 6) (as := [.int (xs (k + 1)), .int (xs (k + 2))]) (rest := []) dLw_900 ml_L_108 mv_X6_clocks rfl rfl (by decide) rfl (k_clocks G σ (obs σ) n hC _ _) rfl rfl (Nat.le_of_ble_eq_true rfl) (fun v τ hv => ?_)
  obtain ⟨rfl, ⟨n1, hC1⟩, hM⟩ := hv
  have ho := Mo_obs hM
  obtain ⟨hn, h8, hfk, ⟨tt, htt, ht120⟩, zs, hzs⟩ := hC.mod hM
  dsimp only [Option.toList, List.cons_append, List.nil_append]
  refine l_aload dLw_903 rfl ?_
  refine l_arg (k := k) (j := 1) dLw_904 dLw_905 dLw_906 dLw_907 dLw_908 rfl rfl rfl (by omega) h3 ?_
  refine l_arg (k := k) (j := 2) dLw_909 dLw_910 dLw_911 dLw_912 dLw_913 rfl rfl rfl (by omega) h3 ?_
  refine l_call (M' := mX7_clocks) (c := 50) (ci := 7) (as := [.int (xs (k + 1)), .int (xs (k + 2))]) (rest := [_]) dLw_914 ml_L_111 mv_X7_clocks rfl rfl (by decide) rfl (m_clocks G τ _ _ n hn h8) rfl rfl (Nat.le_of_ble_eq_true rfl) (fun v τ2 hv => ?_)
  obtain ⟨rfl, ho2, hco⟩ := hv
  rw [ho] at ho2
  dsimp only [Option.toList, List.cons_append, List.nil_append]
  refine l_eq (t := 1480) dLw_917 (by decide) (by rw [ho]) ?_
  exact go τ2 n1 (ho2.symm ▸ hC1.co hco)
set_option maxRecDepth 100000 in
set_option maxHeartbeats 1000000 in
theorem lwc_24 {G : GT} {b Ln : Nat} {xs : Nat → Int32} {k n : Nat} {σ : Sg} (hk : k + 6 ≤ Ln) (h3 : Ln ≤ 3072) (hC : RC σ (obs σ) n) (go : ∀ σ2 n2, RC σ2 (obs σ2) n2 → LWp G b Ln xs 1480 (Lk k) [] σ2) : LWp G b Ln xs 922 (Lk k) [] σ := by
  refine l_aload dLw_922 rfl ?_
  refine l_arg (k := k) (j := 1) dLw_923 dLw_924 dLw_925 dLw_926 dLw_927 rfl rfl rfl (by omega) h3 ?_
  refine l_arg (k := k) (j := 2) dLw_928 dLw_929 dLw_930 dLw_931 dLw_932 rfl rfl rfl (by omega) h3 ?_
  refine l_call (M' := mX6_covers) (c := 0) (ci := 6) (as := [.int (xs (k + 1)), .int (xs (k + 2))]) (rest := []) dLw_933 ml_L_112 mv_X6_covers rfl rfl (by decide) rfl (k_covers G σ (obs σ) n hC _ _) rfl rfl (Nat.le_of_ble_eq_true rfl) (fun v τ hv => ?_)
  obtain ⟨rfl, ⟨n1, hC1⟩, hM⟩ := hv
  have ho := Mo_obs hM
  obtain ⟨hn, h8, hfk, ⟨tt, htt, ht120⟩, zs, hzs⟩ := hC.mod hM
  dsimp only [Option.toList, List.cons_append, List.nil_append]
  refine l_aload dLw_936 rfl ?_
  refine l_arg (k := k) (j := 1) dLw_937 dLw_938 dLw_939 dLw_940 dLw_941 rfl rfl rfl (by omega) h3 ?_
  refine l_arg (k := k) (j := 2) dLw_942 dLw_943 dLw_944 dLw_945 dLw_946 rfl rfl rfl (by omega) h3 ?_
  refine l_call (M' := mX7_covers) (c := 50) (ci := 7) (as := [.int (xs (k + 1)), .int (xs (k + 2))]) (rest := [_]) dLw_947 ml_L_115 mv_X7_covers rfl rfl (by decide) rfl (m_covers G τ _ _ n hn h8) rfl rfl (Nat.le_of_ble_eq_true rfl) (fun v τ2 hv => ?_)
  obtain ⟨rfl, ho2, hco⟩ := hv
  rw [ho] at ho2
  dsimp only [Option.toList, List.cons_append, List.nil_append]
  refine l_eq (t := 1480) dLw_950 (by decide) (by rw [ho]) ?_
  exact go τ2 n1 (ho2.symm ▸ hC1.co hco)
set_option maxRecDepth 100000 in
set_option maxHeartbeats 1000000 in
theorem lwc_25 {G : GT} {b Ln : Nat} {xs : Nat → Int32} {k n : Nat} {σ : Sg} (hk : k + 6 ≤ Ln) (h3 : Ln ≤ 3072) (hC : RC σ (obs σ) n) (go : ∀ σ2 n2, RC σ2 (obs σ2) n2 → LWp G b Ln xs 1480 (Lk k) [] σ2) : LWp G b Ln xs 955 (Lk k) [] σ := by
  refine l_aload dLw_955 rfl ?_
  refine l_arg (k := k) (j := 1) dLw_956 dLw_957 dLw_958 dLw_959 dLw_960 rfl rfl rfl (by omega) h3 ?_
  refine l_arg (k := k) (j := 2) dLw_961 dLw_962 dLw_963 dLw_964 dLw_965 rfl rfl rfl (by omega) h3 ?_
  refine l_call (M' := mX6_from) (c := 0) (ci := 6) (as := [.int (xs (k + 1)), .int (xs (k + 2))]) (rest := []) dLw_966 ml_L_116 mv_X6_from rfl rfl (by decide) rfl (k_from G σ (obs σ) n hC _ _) rfl rfl (Nat.le_of_ble_eq_true rfl) (fun v τ hv => ?_)
  obtain ⟨rfl, ⟨n1, hC1⟩, hM⟩ := hv
  have ho := Mo_obs hM
  obtain ⟨hn, h8, hfk, ⟨tt, htt, ht120⟩, zs, hzs⟩ := hC.mod hM
  dsimp only [Option.toList, List.cons_append, List.nil_append]
  refine l_aload dLw_969 rfl ?_
  refine l_arg (k := k) (j := 1) dLw_970 dLw_971 dLw_972 dLw_973 dLw_974 rfl rfl rfl (by omega) h3 ?_
  refine l_arg (k := k) (j := 2) dLw_975 dLw_976 dLw_977 dLw_978 dLw_979 rfl rfl rfl (by omega) h3 ?_
  refine l_call (M' := mX7_from) (c := 50) (ci := 7) (as := [.int (xs (k + 1)), .int (xs (k + 2))]) (rest := [_]) dLw_980 ml_L_119 mv_X7_from rfl rfl (by decide) rfl (m_from G τ _ _ n hn h8) rfl rfl (Nat.le_of_ble_eq_true rfl) (fun v τ2 hv => ?_)
  obtain ⟨rfl, ho2, hco⟩ := hv
  rw [ho] at ho2
  dsimp only [Option.toList, List.cons_append, List.nil_append]
  refine l_eq (t := 1480) dLw_983 (by decide) (by rw [ho]) ?_
  exact go τ2 n1 (ho2.symm ▸ hC1.co hco)
set_option maxRecDepth 100000 in
set_option maxHeartbeats 1000000 in
theorem lwc_26 {G : GT} {b Ln : Nat} {xs : Nat → Int32} {k n : Nat} {σ : Sg} (hk : k + 6 ≤ Ln) (h3 : Ln ≤ 3072) (hC : RC σ (obs σ) n) (go : ∀ σ2 n2, RC σ2 (obs σ2) n2 → LWp G b Ln xs 1480 (Lk k) [] σ2) : LWp G b Ln xs 988 (Lk k) [] σ := by
  refine l_aload dLw_988 rfl ?_
  refine l_arg (k := k) (j := 1) dLw_989 dLw_990 dLw_991 dLw_992 dLw_993 rfl rfl rfl (by omega) h3 ?_
  refine l_call (M' := mX6_strays) (c := 0) (ci := 6) (as := [.int (xs (k + 1))]) (rest := []) dLw_994 ml_L_120 mv_X6_strays rfl rfl (by decide) rfl (k_strays G σ (obs σ) n hC _) rfl rfl (Nat.le_of_ble_eq_true rfl) (fun v τ hv => ?_)
  obtain ⟨rfl, ⟨n1, hC1⟩, hM⟩ := hv
  have ho := Mo_obs hM
  obtain ⟨hn, h8, hfk, ⟨tt, htt, ht120⟩, zs, hzs⟩ := hC.mod hM
  dsimp only [Option.toList, List.cons_append, List.nil_append]
  refine l_aload dLw_997 rfl ?_
  refine l_arg (k := k) (j := 1) dLw_998 dLw_999 dLw_1000 dLw_1001 dLw_1002 rfl rfl rfl (by omega) h3 ?_
  refine l_call (M' := mX7_strays) (c := 50) (ci := 7) (as := [.int (xs (k + 1))]) (rest := [_]) dLw_1003 ml_L_123 mv_X7_strays rfl rfl (by decide) rfl (m_strays G τ _ n hn h8) rfl rfl (Nat.le_of_ble_eq_true rfl) (fun v τ2 hv => ?_)
  obtain ⟨rfl, ho2, hco⟩ := hv
  rw [ho] at ho2
  dsimp only [Option.toList, List.cons_append, List.nil_append]
  refine l_eq (t := 1480) dLw_1006 (by decide) (by rw [ho]) ?_
  exact go τ2 n1 (ho2.symm ▸ hC1.co hco)
set_option maxRecDepth 100000 in
set_option maxHeartbeats 1000000 in
theorem lwc_27 {G : GT} {b Ln : Nat} {xs : Nat → Int32} {k n : Nat} {σ : Sg} (hk : k + 6 ≤ Ln) (h3 : Ln ≤ 3072) (hC : RC σ (obs σ) n) (go : ∀ σ2 n2, RC σ2 (obs σ2) n2 → LWp G b Ln xs 1480 (Lk k) [] σ2) : LWp G b Ln xs 1011 (Lk k) [] σ := by
  refine l_aload dLw_1011 rfl ?_
  refine l_arg (k := k) (j := 1) dLw_1012 dLw_1013 dLw_1014 dLw_1015 dLw_1016 rfl rfl rfl (by omega) h3 ?_
  refine l_arg (k := k) (j := 2) dLw_1017 dLw_1018 dLw_1019 dLw_1020 dLw_1021 rfl rfl rfl (by omega) h3 ?_
  refine l_call (M' := mX6_fork) (c := 0) (ci := 6) (as := [.int (xs (k + 1)), .int (xs (k + 2))]) (rest := []) dLw_1022 ml_L_124 mv_X6_fork rfl rfl (by decide) rfl (k_fork G σ (obs σ) n hC _ _) rfl rfl (Nat.le_of_ble_eq_true rfl) (fun v τ hv => ?_)
  obtain ⟨rfl, ⟨n1, hC1⟩, hM⟩ := hv
  have ho := Mo_obs hM
  obtain ⟨hn, h8, hfk, ⟨tt, htt, ht120⟩, zs, hzs⟩ := hC.mod hM
  dsimp only [Option.toList, List.cons_append, List.nil_append]
  refine l_aload dLw_1025 rfl ?_
  refine l_arg (k := k) (j := 1) dLw_1026 dLw_1027 dLw_1028 dLw_1029 dLw_1030 rfl rfl rfl (by omega) h3 ?_
  refine l_arg (k := k) (j := 2) dLw_1031 dLw_1032 dLw_1033 dLw_1034 dLw_1035 rfl rfl rfl (by omega) h3 ?_
  refine l_call (M' := mX7_fork) (c := 50) (ci := 7) (as := [.int (xs (k + 1)), .int (xs (k + 2))]) (rest := [_]) dLw_1036 ml_L_127 mv_X7_fork rfl rfl (by decide) rfl (m_fork G τ _ _ n hn h8 hfk) rfl rfl (Nat.le_of_ble_eq_true rfl) (fun v τ2 hv => ?_)
  obtain ⟨rfl, ho2, hco⟩ := hv
  rw [ho] at ho2
  dsimp only [Option.toList, List.cons_append, List.nil_append]
  refine l_eq (t := 1480) dLw_1039 (by decide) (by rw [ho]) ?_
  exact go τ2 n1 (ho2.symm ▸ hC1.co hco)
set_option maxRecDepth 100000 in
set_option maxHeartbeats 1000000 in
theorem lwc_28 {G : GT} {b Ln : Nat} {xs : Nat → Int32} {k n : Nat} {σ : Sg} (hk : k + 6 ≤ Ln) (h3 : Ln ≤ 3072) (hC : RC σ (obs σ) n) (go : ∀ σ2 n2, RC σ2 (obs σ2) n2 → LWp G b Ln xs 1480 (Lk k) [] σ2) : LWp G b Ln xs 1044 (Lk k) [] σ := by
  refine l_aload dLw_1044 rfl ?_
  refine l_arg (k := k) (j := 1) dLw_1045 dLw_1046 dLw_1047 dLw_1048 dLw_1049 rfl rfl rfl (by omega) h3 ?_
  refine l_call (M' := mX6_share) (c := 0) (ci := 6) (as := [.int (xs (k + 1))]) (rest := []) dLw_1050 ml_L_128 mv_X6_share rfl rfl (by decide) rfl (k_share G σ (obs σ) n hC _) rfl rfl (Nat.le_of_ble_eq_true rfl) (fun v τ hv => ?_)
  obtain ⟨rfl, ⟨n1, hC1⟩, hM⟩ := hv
  have ho := Mo_obs hM
  obtain ⟨hn, h8, hfk, ⟨tt, htt, ht120⟩, zs, hzs⟩ := hC.mod hM
  dsimp only [Option.toList, List.cons_append, List.nil_append]
  refine l_aload dLw_1053 rfl ?_
  refine l_arg (k := k) (j := 1) dLw_1054 dLw_1055 dLw_1056 dLw_1057 dLw_1058 rfl rfl rfl (by omega) h3 ?_
  refine l_call (M' := mX7_share) (c := 50) (ci := 7) (as := [.int (xs (k + 1))]) (rest := [_]) dLw_1059 ml_L_131 mv_X7_share rfl rfl (by decide) rfl (m_share G τ _ n hn h8) rfl rfl (Nat.le_of_ble_eq_true rfl) (fun v τ2 hv => ?_)
  obtain ⟨rfl, ho2, hco⟩ := hv
  rw [ho] at ho2
  dsimp only [Option.toList, List.cons_append, List.nil_append]
  refine l_eq (t := 1480) dLw_1062 (by decide) (by rw [ho]) ?_
  exact go τ2 n1 (ho2.symm ▸ hC1.co hco)
set_option maxRecDepth 100000 in
set_option maxHeartbeats 1000000 in
theorem lwc_29 {G : GT} {b Ln : Nat} {xs : Nat → Int32} {k n : Nat} {σ : Sg} (hk : k + 6 ≤ Ln) (h3 : Ln ≤ 3072) (hC : RC σ (obs σ) n) (go : ∀ σ2 n2, RC σ2 (obs σ2) n2 → LWp G b Ln xs 1480 (Lk k) [] σ2) : LWp G b Ln xs 1067 (Lk k) [] σ := by
  refine l_aload dLw_1067 rfl ?_
  refine l_arg (k := k) (j := 1) dLw_1068 dLw_1069 dLw_1070 dLw_1071 dLw_1072 rfl rfl rfl (by omega) h3 ?_
  refine l_arg (k := k) (j := 2) dLw_1073 dLw_1074 dLw_1075 dLw_1076 dLw_1077 rfl rfl rfl (by omega) h3 ?_
  refine l_call (M' := mX6_feed) (c := 0) (ci := 6) (as := [.int (xs (k + 1)), .int (xs (k + 2))]) (rest := []) dLw_1078 ml_L_132 mv_X6_feed rfl rfl (by decide) rfl (k_feed G σ (obs σ) n hC _ _) rfl rfl (Nat.le_of_ble_eq_true rfl) (fun v τ hv => ?_)
  obtain ⟨rfl, ⟨n1, hC1⟩, hM⟩ := hv
  have ho := Mo_obs hM
  obtain ⟨hn, h8, hfk, ⟨tt, htt, ht120⟩, zs, hzs⟩ := hC.mod hM
  dsimp only [Option.toList, List.cons_append, List.nil_append]
  refine l_aload dLw_1081 rfl ?_
  refine l_arg (k := k) (j := 1) dLw_1082 dLw_1083 dLw_1084 dLw_1085 dLw_1086 rfl rfl rfl (by omega) h3 ?_
  refine l_arg (k := k) (j := 2) dLw_1087 dLw_1088 dLw_1089 dLw_1090 dLw_1091 rfl rfl rfl (by omega) h3 ?_
  refine l_call (M' := mX7_feed) (c := 50) (ci := 7) (as := [.int (xs (k + 1)), .int (xs (k + 2))]) (rest := [_]) dLw_1092 ml_L_135 mv_X7_feed rfl rfl (by decide) rfl (m_feed G τ _ _ tt htt ht120) rfl rfl (Nat.le_of_ble_eq_true rfl) (fun v τ2 hv => ?_)
  obtain ⟨rfl, ho2, hco⟩ := hv
  rw [ho] at ho2
  dsimp only [Option.toList, List.cons_append, List.nil_append]
  refine l_eq (t := 1480) dLw_1095 (by decide) (by rw [ho]) ?_
  exact go τ2 n1 (ho2.symm ▸ hC1.co hco)
set_option maxRecDepth 100000 in
set_option maxHeartbeats 1000000 in
theorem lwc_30 {G : GT} {b Ln : Nat} {xs : Nat → Int32} {k n : Nat} {σ : Sg} (hk : k + 6 ≤ Ln) (h3 : Ln ≤ 3072) (hC : RC σ (obs σ) n) (go : ∀ σ2 n2, RC σ2 (obs σ2) n2 → LWp G b Ln xs 1480 (Lk k) [] σ2) : LWp G b Ln xs 1100 (Lk k) [] σ := by
  refine l_aload dLw_1100 rfl ?_
  refine l_call (M' := mX6_wipe) (c := 0) (ci := 6) (as := []) (rest := []) dLw_1101 ml_L_136 mv_X6_wipe rfl rfl (by decide) rfl (k_wipe G σ (obs σ) n hC ) rfl rfl (Nat.le_of_ble_eq_true rfl) (fun v τ hv => ?_)
  obtain ⟨rfl, ⟨n1, hC1⟩, hM⟩ := hv
  have ho := Mo_obs hM
  obtain ⟨hn, h8, hfk, ⟨tt, htt, ht120⟩, zs, hzs⟩ := hC.mod hM
  dsimp only [Option.toList, List.cons_append, List.nil_append]
  refine l_aload dLw_1104 rfl ?_
  refine l_call (M' := mX7_wipe) (c := 50) (ci := 7) (as := []) (rest := [_]) dLw_1105 ml_L_140 mv_X7_wipe rfl rfl (by decide) rfl (m_wipe G τ  n hn h8) rfl rfl (Nat.le_of_ble_eq_true rfl) (fun v τ2 hv => ?_)
  obtain ⟨rfl, ho2, hco⟩ := hv
  rw [ho] at ho2
  dsimp only [Option.toList, List.cons_append, List.nil_append]
  refine l_eq (t := 1480) dLw_1108 (by decide) (by rw [ho]) ?_
  exact go τ2 n1 (ho2.symm ▸ hC1.co hco)
set_option maxRecDepth 100000 in
set_option maxHeartbeats 1000000 in
theorem lwc_31 {G : GT} {b Ln : Nat} {xs : Nat → Int32} {k n : Nat} {σ : Sg} (hk : k + 6 ≤ Ln) (h3 : Ln ≤ 3072) (hC : RC σ (obs σ) n) (go : ∀ σ2 n2, RC σ2 (obs σ2) n2 → LWp G b Ln xs 1480 (Lk k) [] σ2) : LWp G b Ln xs 1113 (Lk k) [] σ := by
  refine l_aload dLw_1113 rfl ?_
  refine l_call (M' := mX6_plain) (c := 0) (ci := 6) (as := []) (rest := []) dLw_1114 ml_L_141 mv_X6_plain rfl rfl (by decide) rfl (k_plain G σ (obs σ) n hC ) rfl rfl (Nat.le_of_ble_eq_true rfl) (fun v τ hv => ?_)
  obtain ⟨rfl, ⟨n1, hC1⟩, hM⟩ := hv
  have ho := Mo_obs hM
  obtain ⟨hn, h8, hfk, ⟨tt, htt, ht120⟩, zs, hzs⟩ := hC.mod hM
  dsimp only [Option.toList, List.cons_append, List.nil_append]
  refine l_aload dLw_1117 rfl ?_
  refine l_call (M' := mX7_plain) (c := 50) (ci := 7) (as := []) (rest := [_]) dLw_1118 ml_L_144 mv_X7_plain rfl rfl (by decide) rfl (m_plain G τ  n hn h8 tt htt ht120) rfl rfl (Nat.le_of_ble_eq_true rfl) (fun v τ2 hv => ?_)
  obtain ⟨rfl, ho2, hco⟩ := hv
  rw [ho] at ho2
  dsimp only [Option.toList, List.cons_append, List.nil_append]
  refine l_eq (t := 1480) dLw_1121 (by decide) (by rw [ho]) ?_
  exact go τ2 n1 (ho2.symm ▸ hC1.co hco)
set_option maxRecDepth 100000 in
set_option maxHeartbeats 1000000 in
theorem lwc_32 {G : GT} {b Ln : Nat} {xs : Nat → Int32} {k n : Nat} {σ : Sg} (hk : k + 6 ≤ Ln) (h3 : Ln ≤ 3072) (hC : RC σ (obs σ) n) (go : ∀ σ2 n2, RC σ2 (obs σ2) n2 → LWp G b Ln xs 1480 (Lk k) [] σ2) : LWp G b Ln xs 1126 (Lk k) [] σ := by
  refine l_aload dLw_1126 rfl ?_
  refine l_arg (k := k) (j := 1) dLw_1127 dLw_1128 dLw_1129 dLw_1130 dLw_1131 rfl rfl rfl (by omega) h3 ?_
  refine l_arg (k := k) (j := 2) dLw_1132 dLw_1133 dLw_1134 dLw_1135 dLw_1136 rfl rfl rfl (by omega) h3 ?_
  refine l_arg (k := k) (j := 3) dLw_1137 dLw_1138 dLw_1139 dLw_1140 dLw_1141 rfl rfl rfl (by omega) h3 ?_
  refine l_call (M' := mX6_sheet) (c := 0) (ci := 6) (as := [.int (xs (k + 1)), .int (xs (k + 2)), .int (xs (k + 3))]) (rest := []) dLw_1142 ml_L_145 mv_X6_sheet rfl rfl (by decide) rfl (k_sheet G σ (obs σ) n hC _ _ _) rfl rfl (Nat.le_of_ble_eq_true rfl) (fun v τ hv => ?_)
  obtain ⟨rfl, ⟨n1, hC1⟩, hM⟩ := hv
  have ho := Mo_obs hM
  obtain ⟨hn, h8, hfk, ⟨tt, htt, ht120⟩, zs, hzs⟩ := hC.mod hM
  dsimp only [Option.toList, List.cons_append, List.nil_append]
  refine l_aload dLw_1145 rfl ?_
  refine l_arg (k := k) (j := 1) dLw_1146 dLw_1147 dLw_1148 dLw_1149 dLw_1150 rfl rfl rfl (by omega) h3 ?_
  refine l_arg (k := k) (j := 2) dLw_1151 dLw_1152 dLw_1153 dLw_1154 dLw_1155 rfl rfl rfl (by omega) h3 ?_
  refine l_arg (k := k) (j := 3) dLw_1156 dLw_1157 dLw_1158 dLw_1159 dLw_1160 rfl rfl rfl (by omega) h3 ?_
  refine l_call (M' := mX7_sheet) (c := 50) (ci := 7) (as := [.int (xs (k + 1)), .int (xs (k + 2)), .int (xs (k + 3))]) (rest := [_]) dLw_1161 ml_L_148 mv_X7_sheet rfl rfl (by decide) rfl (m_sheet G τ _ _ _ ) rfl rfl (Nat.le_of_ble_eq_true rfl) (fun v τ2 hv => ?_)
  obtain ⟨rfl, ho2, hco⟩ := hv
  rw [ho] at ho2
  dsimp only [Option.toList, List.cons_append, List.nil_append]
  refine l_eq (t := 1480) dLw_1164 (by decide) (by rw [ho]) ?_
  exact go τ2 n1 (ho2.symm ▸ hC1.co hco)
set_option maxRecDepth 100000 in
set_option maxHeartbeats 1000000 in
theorem lwc_33 {G : GT} {b Ln : Nat} {xs : Nat → Int32} {k n : Nat} {σ : Sg} (hk : k + 6 ≤ Ln) (h3 : Ln ≤ 3072) (hC : RC σ (obs σ) n) (go : ∀ σ2 n2, RC σ2 (obs σ2) n2 → LWp G b Ln xs 1480 (Lk k) [] σ2) : LWp G b Ln xs 1169 (Lk k) [] σ := by
  refine l_aload dLw_1169 rfl ?_
  refine l_arg (k := k) (j := 1) dLw_1170 dLw_1171 dLw_1172 dLw_1173 dLw_1174 rfl rfl rfl (by omega) h3 ?_
  refine l_arg (k := k) (j := 2) dLw_1175 dLw_1176 dLw_1177 dLw_1178 dLw_1179 rfl rfl rfl (by omega) h3 ?_
  refine l_arg (k := k) (j := 3) dLw_1180 dLw_1181 dLw_1182 dLw_1183 dLw_1184 rfl rfl rfl (by omega) h3 ?_
  refine l_i2l dLw_1185 ?_
  refine l_bipush (v := 32) dLw_1186 (by decide) ?_
  refine l_lshl dLw_1188 ?_
  refine l_arg (k := k) (j := 4) dLw_1189 dLw_1190 dLw_1191 dLw_1192 dLw_1193 rfl rfl rfl (by omega) h3 ?_
  refine l_i2l dLw_1194 ?_
  refine l_ldc2 dLw_1195 lw_c149 ?_
  refine l_land dLw_1198 ?_
  refine l_lor dLw_1199 ?_
  refine l_call (M' := mX6_write) (c := 0) (ci := 6) (as := [.int (xs (k + 1)), .int (xs (k + 2)), .long _]) (rest := []) dLw_1200 ml_L_151 mv_X6_write rfl rfl (by decide) rfl (k_write G σ (obs σ) n hC _ _ _) rfl rfl (Nat.le_of_ble_eq_true rfl) (fun v τ hv => ?_)
  obtain ⟨rfl, ⟨n1, hC1⟩, hM⟩ := hv
  have ho := Mo_obs hM
  obtain ⟨hn, h8, hfk, ⟨tt, htt, ht120⟩, zs, hzs⟩ := hC.mod hM
  dsimp only [Option.toList, List.cons_append, List.nil_append]
  refine l_aload dLw_1203 rfl ?_
  refine l_arg (k := k) (j := 1) dLw_1204 dLw_1205 dLw_1206 dLw_1207 dLw_1208 rfl rfl rfl (by omega) h3 ?_
  refine l_arg (k := k) (j := 2) dLw_1209 dLw_1210 dLw_1211 dLw_1212 dLw_1213 rfl rfl rfl (by omega) h3 ?_
  refine l_arg (k := k) (j := 3) dLw_1214 dLw_1215 dLw_1216 dLw_1217 dLw_1218 rfl rfl rfl (by omega) h3 ?_
  refine l_i2l dLw_1219 ?_
  refine l_bipush (v := 32) dLw_1220 (by decide) ?_
  refine l_lshl dLw_1222 ?_
  refine l_arg (k := k) (j := 4) dLw_1223 dLw_1224 dLw_1225 dLw_1226 dLw_1227 rfl rfl rfl (by omega) h3 ?_
  refine l_i2l dLw_1228 ?_
  refine l_ldc2 dLw_1229 lw_c149 ?_
  refine l_land dLw_1232 ?_
  refine l_lor dLw_1233 ?_
  refine l_call (M' := mX7_write) (c := 50) (ci := 7) (as := [.int (xs (k + 1)), .int (xs (k + 2)), .long _]) (rest := [_]) dLw_1234 ml_L_155 mv_X7_write rfl rfl (by decide) rfl (m_write G τ _ _ _ zs hzs) rfl rfl (Nat.le_of_ble_eq_true rfl) (fun v τ2 hv => ?_)
  obtain ⟨rfl, ho2, hco⟩ := hv
  rw [ho] at ho2
  dsimp only [Option.toList, List.cons_append, List.nil_append]
  refine l_lcmp0 dLw_1237 (by rw [ho]) ?_
  refine l_if0 (t := 1480) dLw_1238 (by decide) ?_
  exact go τ2 n1 (ho2.symm ▸ hC1.co hco)
set_option maxRecDepth 100000 in
set_option maxHeartbeats 1000000 in
theorem lwc_34 {G : GT} {b Ln : Nat} {xs : Nat → Int32} {k n : Nat} {σ : Sg} (hk : k + 6 ≤ Ln) (h3 : Ln ≤ 3072) (hC : RC σ (obs σ) n) (go : ∀ σ2 n2, RC σ2 (obs σ2) n2 → LWp G b Ln xs 1480 (Lk k) [] σ2) : LWp G b Ln xs 1243 (Lk k) [] σ := by
  refine l_aload dLw_1243 rfl ?_
  refine l_arg (k := k) (j := 1) dLw_1244 dLw_1245 dLw_1246 dLw_1247 dLw_1248 rfl rfl rfl (by omega) h3 ?_
  refine l_arg (k := k) (j := 2) dLw_1249 dLw_1250 dLw_1251 dLw_1252 dLw_1253 rfl rfl rfl (by omega) h3 ?_
  refine l_arg (k := k) (j := 3) dLw_1254 dLw_1255 dLw_1256 dLw_1257 dLw_1258 rfl rfl rfl (by omega) h3 ?_
  refine l_arg (k := k) (j := 4) dLw_1259 dLw_1260 dLw_1261 dLw_1262 dLw_1263 rfl rfl rfl (by omega) h3 ?_
  refine l_arg (k := k) (j := 5) dLw_1264 dLw_1265 dLw_1266 dLw_1267 dLw_1268 rfl rfl rfl (by omega) h3 ?_
  refine l_call (M' := mX6_copy) (c := 0) (ci := 6) (as := [.int (xs (k + 1)), .int (xs (k + 2)), .int (xs (k + 3)), .int (xs (k + 4)), .int (xs (k + 5))]) (rest := []) dLw_1269 ml_L_156 mv_X6_copy rfl rfl (by decide) rfl (k_copy G σ (obs σ) n hC _ _ _ _ _) rfl rfl (Nat.le_of_ble_eq_true rfl) (fun v τ hv => ?_)
  obtain ⟨rfl, ⟨n1, hC1⟩, hM⟩ := hv
  have ho := Mo_obs hM
  obtain ⟨hn, h8, hfk, ⟨tt, htt, ht120⟩, zs, hzs⟩ := hC.mod hM
  dsimp only [Option.toList, List.cons_append, List.nil_append]
  refine l_aload dLw_1272 rfl ?_
  refine l_arg (k := k) (j := 1) dLw_1273 dLw_1274 dLw_1275 dLw_1276 dLw_1277 rfl rfl rfl (by omega) h3 ?_
  refine l_arg (k := k) (j := 2) dLw_1278 dLw_1279 dLw_1280 dLw_1281 dLw_1282 rfl rfl rfl (by omega) h3 ?_
  refine l_arg (k := k) (j := 3) dLw_1283 dLw_1284 dLw_1285 dLw_1286 dLw_1287 rfl rfl rfl (by omega) h3 ?_
  refine l_arg (k := k) (j := 4) dLw_1288 dLw_1289 dLw_1290 dLw_1291 dLw_1292 rfl rfl rfl (by omega) h3 ?_
  refine l_arg (k := k) (j := 5) dLw_1293 dLw_1294 dLw_1295 dLw_1296 dLw_1297 rfl rfl rfl (by omega) h3 ?_
  refine l_call (M' := mX7_copy) (c := 50) (ci := 7) (as := [.int (xs (k + 1)), .int (xs (k + 2)), .int (xs (k + 3)), .int (xs (k + 4)), .int (xs (k + 5))]) (rest := [_]) dLw_1298 ml_L_160 mv_X7_copy rfl rfl (by decide) rfl (m_copy G τ _ _ _ _ _ zs hzs) rfl rfl (Nat.le_of_ble_eq_true rfl) (fun v τ2 hv => ?_)
  obtain ⟨rfl, ho2, hco⟩ := hv
  rw [ho] at ho2
  dsimp only [Option.toList, List.cons_append, List.nil_append]
  refine l_eq (t := 1480) dLw_1301 (by decide) (by rw [ho]) ?_
  exact go τ2 n1 (ho2.symm ▸ hC1.co hco)
set_option maxRecDepth 100000 in
set_option maxHeartbeats 1000000 in
theorem lwc_35 {G : GT} {b Ln : Nat} {xs : Nat → Int32} {k n : Nat} {σ : Sg} (hk : k + 6 ≤ Ln) (h3 : Ln ≤ 3072) (hC : RC σ (obs σ) n) (go : ∀ σ2 n2, RC σ2 (obs σ2) n2 → LWp G b Ln xs 1480 (Lk k) [] σ2) : LWp G b Ln xs 1306 (Lk k) [] σ := by
  refine l_aload dLw_1306 rfl ?_
  refine l_arg (k := k) (j := 1) dLw_1307 dLw_1308 dLw_1309 dLw_1310 dLw_1311 rfl rfl rfl (by omega) h3 ?_
  refine l_call (M' := mX6_lays) (c := 0) (ci := 6) (as := [.int (xs (k + 1))]) (rest := []) dLw_1312 ml_L_161 mv_X6_lays rfl rfl (by decide) rfl (k_lays G σ (obs σ) n hC _) rfl rfl (Nat.le_of_ble_eq_true rfl) (fun v τ hv => ?_)
  obtain ⟨rfl, ⟨n1, hC1⟩, hM⟩ := hv
  have ho := Mo_obs hM
  obtain ⟨hn, h8, hfk, ⟨tt, htt, ht120⟩, zs, hzs⟩ := hC.mod hM
  dsimp only [Option.toList, List.cons_append, List.nil_append]
  refine l_aload dLw_1315 rfl ?_
  refine l_arg (k := k) (j := 1) dLw_1316 dLw_1317 dLw_1318 dLw_1319 dLw_1320 rfl rfl rfl (by omega) h3 ?_
  refine l_call (M' := mX7_lays) (c := 50) (ci := 7) (as := [.int (xs (k + 1))]) (rest := [_]) dLw_1321 ml_L_164 mv_X7_lays rfl rfl (by decide) rfl (m_lays G τ _ n hn h8 zs hzs) rfl rfl (Nat.le_of_ble_eq_true rfl) (fun v τ2 hv => ?_)
  obtain ⟨rfl, ho2, hco⟩ := hv
  rw [ho] at ho2
  dsimp only [Option.toList, List.cons_append, List.nil_append]
  refine l_eq (t := 1480) dLw_1324 (by decide) (by rw [ho]) ?_
  exact go τ2 n1 (ho2.symm ▸ hC1.co hco)
set_option maxRecDepth 100000 in
set_option maxHeartbeats 1000000 in
theorem lwc_36 {G : GT} {b Ln : Nat} {xs : Nat → Int32} {k n : Nat} {σ : Sg} (hk : k + 6 ≤ Ln) (h3 : Ln ≤ 3072) (hC : RC σ (obs σ) n) (go : ∀ σ2 n2, RC σ2 (obs σ2) n2 → LWp G b Ln xs 1480 (Lk k) [] σ2) : LWp G b Ln xs 1329 (Lk k) [] σ := by
  refine l_aload dLw_1329 rfl ?_
  refine l_arg (k := k) (j := 1) dLw_1330 dLw_1331 dLw_1332 dLw_1333 dLw_1334 rfl rfl rfl (by omega) h3 ?_
  refine l_arg (k := k) (j := 2) dLw_1335 dLw_1336 dLw_1337 dLw_1338 dLw_1339 rfl rfl rfl (by omega) h3 ?_
  refine l_call (M' := mX6_book) (c := 0) (ci := 6) (as := [.int (xs (k + 1)), .int (xs (k + 2))]) (rest := []) dLw_1340 ml_L_165 mv_X6_book rfl rfl (by decide) rfl (k_book G σ (obs σ) n hC _ _) rfl rfl (Nat.le_of_ble_eq_true rfl) (fun v τ hv => ?_)
  obtain ⟨rfl, ⟨n1, hC1⟩, hM⟩ := hv
  have ho := Mo_obs hM
  obtain ⟨hn, h8, hfk, ⟨tt, htt, ht120⟩, zs, hzs⟩ := hC.mod hM
  dsimp only [Option.toList, List.cons_append, List.nil_append]
  refine l_aload dLw_1343 rfl ?_
  refine l_arg (k := k) (j := 1) dLw_1344 dLw_1345 dLw_1346 dLw_1347 dLw_1348 rfl rfl rfl (by omega) h3 ?_
  refine l_arg (k := k) (j := 2) dLw_1349 dLw_1350 dLw_1351 dLw_1352 dLw_1353 rfl rfl rfl (by omega) h3 ?_
  refine l_call (M' := mX7_book) (c := 50) (ci := 7) (as := [.int (xs (k + 1)), .int (xs (k + 2))]) (rest := [_]) dLw_1354 ml_L_168 mv_X7_book rfl rfl (by decide) rfl (m_book G τ _ _ n hn h8 zs hzs) rfl rfl (Nat.le_of_ble_eq_true rfl) (fun v τ2 hv => ?_)
  obtain ⟨rfl, ho2, hco⟩ := hv
  rw [ho] at ho2
  dsimp only [Option.toList, List.cons_append, List.nil_append]
  refine l_eq (t := 1480) dLw_1357 (by decide) (by rw [ho]) ?_
  exact go τ2 n1 (ho2.symm ▸ hC1.co hco)
set_option maxRecDepth 100000 in
set_option maxHeartbeats 1000000 in
theorem lwc_37 {G : GT} {b Ln : Nat} {xs : Nat → Int32} {k n : Nat} {σ : Sg} (hk : k + 6 ≤ Ln) (h3 : Ln ≤ 3072) (hC : RC σ (obs σ) n) (go : ∀ σ2 n2, RC σ2 (obs σ2) n2 → LWp G b Ln xs 1480 (Lk k) [] σ2) : LWp G b Ln xs 1362 (Lk k) [] σ := by
  refine l_aload dLw_1362 rfl ?_
  refine l_arg (k := k) (j := 1) dLw_1363 dLw_1364 dLw_1365 dLw_1366 dLw_1367 rfl rfl rfl (by omega) h3 ?_
  refine l_arg (k := k) (j := 2) dLw_1368 dLw_1369 dLw_1370 dLw_1371 dLw_1372 rfl rfl rfl (by omega) h3 ?_
  refine l_call (M' := mX6_read) (c := 0) (ci := 6) (as := [.int (xs (k + 1)), .int (xs (k + 2))]) (rest := []) dLw_1373 ml_L_169 mv_X6_read rfl rfl (by decide) rfl (k_read G σ (obs σ) n hC _ _) rfl rfl (Nat.le_of_ble_eq_true rfl) (fun v τ hv => ?_)
  obtain ⟨rfl, ⟨n1, hC1⟩, hM⟩ := hv
  have ho := Mo_obs hM
  obtain ⟨hn, h8, hfk, ⟨tt, htt, ht120⟩, zs, hzs⟩ := hC.mod hM
  dsimp only [Option.toList, List.cons_append, List.nil_append]
  refine l_aload dLw_1376 rfl ?_
  refine l_arg (k := k) (j := 1) dLw_1377 dLw_1378 dLw_1379 dLw_1380 dLw_1381 rfl rfl rfl (by omega) h3 ?_
  refine l_arg (k := k) (j := 2) dLw_1382 dLw_1383 dLw_1384 dLw_1385 dLw_1386 rfl rfl rfl (by omega) h3 ?_
  refine l_call (M' := mX7_read) (c := 50) (ci := 7) (as := [.int (xs (k + 1)), .int (xs (k + 2))]) (rest := [_]) dLw_1387 ml_L_172 mv_X7_read rfl rfl (by decide) rfl (m_read G τ _ _ n hn h8 zs hzs) rfl rfl (Nat.le_of_ble_eq_true rfl) (fun v τ2 hv => ?_)
  obtain ⟨rfl, ho2, hco⟩ := hv
  rw [ho] at ho2
  dsimp only [Option.toList, List.cons_append, List.nil_append]
  refine l_eq (t := 1480) dLw_1390 (by decide) (by rw [ho]) ?_
  exact go τ2 n1 (ho2.symm ▸ hC1.co hco)
set_option maxRecDepth 100000 in
set_option maxHeartbeats 1000000 in
theorem lwc_38 {G : GT} {b Ln : Nat} {xs : Nat → Int32} {k n : Nat} {σ : Sg} (hk : k + 6 ≤ Ln) (h3 : Ln ≤ 3072) (hC : RC σ (obs σ) n) (go : ∀ σ2 n2, RC σ2 (obs σ2) n2 → LWp G b Ln xs 1480 (Lk k) [] σ2) : LWp G b Ln xs 1395 (Lk k) [] σ := by
  refine l_aload dLw_1395 rfl ?_
  refine l_call (M' := mX6_image) (c := 0) (ci := 6) (as := []) (rest := []) dLw_1396 ml_L_173 mv_X6_image rfl rfl (by decide) rfl (k_image G σ (obs σ) n hC ) rfl rfl (Nat.le_of_ble_eq_true rfl) (fun v τ hv => ?_)
  obtain ⟨rfl, ⟨n1, hC1⟩, hM⟩ := hv
  have ho := Mo_obs hM
  obtain ⟨hn, h8, hfk, ⟨tt, htt, ht120⟩, zs, hzs⟩ := hC.mod hM
  dsimp only [Option.toList, List.cons_append, List.nil_append]
  refine l_aload dLw_1399 rfl ?_
  refine l_call (M' := mX7_image) (c := 50) (ci := 7) (as := []) (rest := [_]) dLw_1400 ml_L_176 mv_X7_image rfl rfl (by decide) rfl (m_image G τ  n hn h8) rfl rfl (Nat.le_of_ble_eq_true rfl) (fun v τ2 hv => ?_)
  obtain ⟨rfl, ho2, hco⟩ := hv
  rw [ho] at ho2
  dsimp only [Option.toList, List.cons_append, List.nil_append]
  refine l_eq (t := 1480) dLw_1403 (by decide) (by rw [ho]) ?_
  exact go τ2 n1 (ho2.symm ▸ hC1.co hco)
set_option maxRecDepth 100000 in
set_option maxHeartbeats 1000000 in
theorem lwc_39 {G : GT} {b Ln : Nat} {xs : Nat → Int32} {k n : Nat} {σ : Sg} (hk : k + 6 ≤ Ln) (h3 : Ln ≤ 3072) (hC : RC σ (obs σ) n) (go : ∀ σ2 n2, RC σ2 (obs σ2) n2 → LWp G b Ln xs 1480 (Lk k) [] σ2) : LWp G b Ln xs 1408 (Lk k) [] σ := by
  refine l_aload dLw_1408 rfl ?_
  refine l_call (M' := mX6_undo) (c := 0) (ci := 6) (as := []) (rest := []) dLw_1409 ml_L_177 mv_X6_undo rfl rfl (by decide) rfl (k_undo G σ (obs σ) n hC ) rfl rfl (Nat.le_of_ble_eq_true rfl) (fun v τ hv => ?_)
  obtain ⟨rfl, ⟨n1, hC1⟩, hM⟩ := hv
  have ho := Mo_obs hM
  obtain ⟨hn, h8, hfk, ⟨tt, htt, ht120⟩, zs, hzs⟩ := hC.mod hM
  dsimp only [Option.toList, List.cons_append, List.nil_append]
  refine l_aload dLw_1412 rfl ?_
  refine l_call (M' := mX7_undo) (c := 50) (ci := 7) (as := []) (rest := [_]) dLw_1413 ml_L_180 mv_X7_undo rfl rfl (by decide) rfl (m_undo G τ  n hn h8) rfl rfl (Nat.le_of_ble_eq_true rfl) (fun v τ2 hv => ?_)
  obtain ⟨rfl, ho2, hco⟩ := hv
  rw [ho] at ho2
  dsimp only [Option.toList, List.cons_append, List.nil_append]
  refine l_eq (t := 1480) dLw_1416 (by decide) (by rw [ho]) ?_
  exact go τ2 n1 (ho2.symm ▸ hC1.co hco)
set_option maxRecDepth 100000 in
set_option maxHeartbeats 1000000 in
theorem lwc_40 {G : GT} {b Ln : Nat} {xs : Nat → Int32} {k n : Nat} {σ : Sg} (hk : k + 6 ≤ Ln) (h3 : Ln ≤ 3072) (hC : RC σ (obs σ) n) (go : ∀ σ2 n2, RC σ2 (obs σ2) n2 → LWp G b Ln xs 1480 (Lk k) [] σ2) : LWp G b Ln xs 1421 (Lk k) [] σ := by
  refine l_aload dLw_1421 rfl ?_
  refine l_call (M' := mX6_tear) (c := 0) (ci := 6) (as := []) (rest := []) dLw_1422 ml_L_181 mv_X6_tear rfl rfl (by decide) rfl (k_tear G σ (obs σ) n hC ) rfl rfl (Nat.le_of_ble_eq_true rfl) (fun v τ hv => ?_)
  obtain ⟨rfl, ⟨n1, hC1⟩, hM⟩ := hv
  have ho := Mo_obs hM
  obtain ⟨hn, h8, hfk, ⟨tt, htt, ht120⟩, zs, hzs⟩ := hC.mod hM
  dsimp only [Option.toList, List.cons_append, List.nil_append]
  refine l_aload dLw_1425 rfl ?_
  refine l_call (M' := mX7_tear) (c := 50) (ci := 7) (as := []) (rest := [_]) dLw_1426 ml_L_184 mv_X7_tear rfl rfl (by decide) rfl (m_tear G τ  n hn h8) rfl rfl (Nat.le_of_ble_eq_true rfl) (fun v τ2 hv => ?_)
  obtain ⟨rfl, ho2, hco⟩ := hv
  rw [ho] at ho2
  dsimp only [Option.toList, List.cons_append, List.nil_append]
  refine l_eq (t := 1480) dLw_1429 (by decide) (by rw [ho]) ?_
  exact go τ2 n1 (ho2.symm ▸ hC1.co hco)
set_option maxRecDepth 100000 in
set_option maxHeartbeats 1000000 in
theorem lwc_41 {G : GT} {b Ln : Nat} {xs : Nat → Int32} {k n : Nat} {σ : Sg} (hk : k + 6 ≤ Ln) (h3 : Ln ≤ 3072) (hC : RC σ (obs σ) n) (go : ∀ σ2 n2, RC σ2 (obs σ2) n2 → LWp G b Ln xs 1480 (Lk k) [] σ2) : LWp G b Ln xs 1434 (Lk k) [] σ := by
  refine l_aload dLw_1434 rfl ?_
  refine l_arg (k := k) (j := 1) dLw_1435 dLw_1436 dLw_1437 dLw_1438 dLw_1439 rfl rfl rfl (by omega) h3 ?_
  refine l_call (M' := mX6_count) (c := 0) (ci := 6) (as := [.int (xs (k + 1))]) (rest := []) dLw_1440 ml_L_185 mv_X6_count rfl rfl (by decide) rfl (k_count G σ (obs σ) n hC _) rfl rfl (Nat.le_of_ble_eq_true rfl) (fun v τ hv => ?_)
  obtain ⟨rfl, ⟨n1, hC1⟩, hM⟩ := hv
  have ho := Mo_obs hM
  obtain ⟨hn, h8, hfk, ⟨tt, htt, ht120⟩, zs, hzs⟩ := hC.mod hM
  dsimp only [Option.toList, List.cons_append, List.nil_append]
  refine l_aload dLw_1443 rfl ?_
  refine l_arg (k := k) (j := 1) dLw_1444 dLw_1445 dLw_1446 dLw_1447 dLw_1448 rfl rfl rfl (by omega) h3 ?_
  refine l_call (M' := mX7_count) (c := 50) (ci := 7) (as := [.int (xs (k + 1))]) (rest := [_]) dLw_1449 ml_L_188 mv_X7_count rfl rfl (by decide) rfl (m_count G τ _ n hn h8) rfl rfl (Nat.le_of_ble_eq_true rfl) (fun v τ2 hv => ?_)
  obtain ⟨rfl, ho2, hco⟩ := hv
  rw [ho] at ho2
  dsimp only [Option.toList, List.cons_append, List.nil_append]
  refine l_eq (t := 1480) dLw_1452 (by decide) (by rw [ho]) ?_
  exact go τ2 n1 (ho2.symm ▸ hC1.co hco)
set_option maxRecDepth 100000 in
set_option maxHeartbeats 1000000 in
theorem lwc_42 {G : GT} {b Ln : Nat} {xs : Nat → Int32} {k n : Nat} {σ : Sg} (hk : k + 6 ≤ Ln) (h3 : Ln ≤ 3072) (hC : RC σ (obs σ) n) (go : ∀ σ2 n2, RC σ2 (obs σ2) n2 → LWp G b Ln xs 1480 (Lk k) [] σ2) : LWp G b Ln xs 1457 (Lk k) [] σ := by
  refine l_aload dLw_1457 rfl ?_
  refine l_arg (k := k) (j := 1) dLw_1458 dLw_1459 dLw_1460 dLw_1461 dLw_1462 rfl rfl rfl (by omega) h3 ?_
  refine l_call (M' := mX6_status) (c := 0) (ci := 6) (as := [.int (xs (k + 1))]) (rest := []) dLw_1463 ml_L_189 mv_X6_status rfl rfl (by decide) rfl (k_status G σ (obs σ) n hC _) rfl rfl (Nat.le_of_ble_eq_true rfl) (fun v τ hv => ?_)
  obtain ⟨rfl, ⟨n1, hC1⟩, hM⟩ := hv
  have ho := Mo_obs hM
  obtain ⟨hn, h8, hfk, ⟨tt, htt, ht120⟩, zs, hzs⟩ := hC.mod hM
  dsimp only [Option.toList, List.cons_append, List.nil_append]
  refine l_aload dLw_1466 rfl ?_
  refine l_arg (k := k) (j := 1) dLw_1467 dLw_1468 dLw_1469 dLw_1470 dLw_1471 rfl rfl rfl (by omega) h3 ?_
  refine l_call (M' := mX7_status) (c := 50) (ci := 7) (as := [.int (xs (k + 1))]) (rest := [_]) dLw_1472 ml_L_192 mv_X7_status rfl rfl (by decide) rfl (m_status G τ _ n hn h8) rfl rfl (Nat.le_of_ble_eq_true rfl) (fun v τ2 hv => ?_)
  obtain ⟨rfl, ho2, hco⟩ := hv
  rw [ho] at ho2
  dsimp only [Option.toList, List.cons_append, List.nil_append]
  refine l_eq (t := 1480) dLw_1475 (by decide) (by rw [ho]) ?_
  exact go τ2 n1 (ho2.symm ▸ hC1.co hco)
