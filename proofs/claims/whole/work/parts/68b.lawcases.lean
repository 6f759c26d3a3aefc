/-! ===== the law: cases ===== -/
set_option maxHeartbeats 1600000 in
theorem LC_addBasket {X : eXT} {a : Nat → Nat} {b b' : Nat × Nat} {bb L : Nat} {xs : Nat → Int32} {i N : Int} {z : Nat → Int} {ln : Int → Int} {F : eFs} {P : Int → Int} {D : eFs} {DQ : Int → Int} {S : eFs} {SP : Int → Int} {c n : Int} {h : eHs} {g rc : Int → Int} {T : eFs} {Mt : Int → Int → Int} {M : eFs} {o : Int → Int} {od : Nat → UInt64} (hX : X.2 = some (bb, L, xs)) (hL : L ≤ 2147483647) (hi : 0 ≤ i ∧ i + 4 ≤ L) (hb : 2 + b'.1 ≤ b.1 ∧ 12 + b'.2 ≤ b.2) (hN : N + 2400 ≤ 90000000) (hs : SIM N z ln F S c n h g rc T Mt M) (kk : lG X a bb (N + 2400) i b') :
    EV (lK X) a b (wA a z ln F P D DQ S SP c n h g rc T Mt [] ++ (wM (fun k => a (131 + k)) M ++ [eJ 1 1 o, eDd 1 od])) 276 (lLs a bb i) [] := by
  have hs0 := hs
  obtain ⟨⟨hF, hC, hA, hR⟩, -, -, ⟨n1, n2, n3, n4, n5, n6, n7, n8, n9, n10⟩, ⟨l1, l2, l3⟩, ⟨hg, hr⟩, hT, hz, ⟨hw, hw4⟩, hN0⟩ := hs
  have hc9 := hF.1
  have g1 := sc_in (xs := xs) (z := i + 1)
  have g2 := sc_in (xs := xs) (z := i + 2)
  have g3 := sc_in (xs := xs) (z := i + 3)
  have hTE : mTh (mHC (sHin F 0 (sc xs (i + 1)) (sc xs (i + 2)) (sc xs (i + 3)))) 0 1 2 3 0 = exK (eEx (sHin F 0 (sc xs (i + 1)) (sc xs (i + 2)) (sc xs (i + 3)))) xAr xSt xUn := by
    rcases hk_0 (F := F) (p := (sc xs (i + 1))) (q := (sc xs (i + 2))) (r := (sc xs (i + 3))) with w | w | w | w
    · rw [w]; show (0 : Int) = exK none _ _ _; rfl
    · rw [w]; show (1 : Int) = exK (some xAr) _ _ _; exact (exK_s1 ).symm
    · rw [w]; show (2 : Int) = exK (some xSt) _ _ _; exact (exK_s2 (by decide)).symm
    · rw [w]; show (3 : Int) = exK (some xUn) _ _ _; exact (exK_s3 (by decide) (by decide)).symm
  have hV : mTh (mHC (sHin F 0 (sc xs (i + 1)) (sc xs (i + 2)) (sc xs (i + 3)))) 0 1 2 3 0 = 0 → (if mTh (mHC (sHin F 0 (sc xs (i + 1)) (sc xs (i + 2)) (sc xs (i + 3)))) 0 1 2 3 0 = 0 then sDoR F 0 (sc xs (i + 1)) (sc xs (i + 2)) (sc xs (i + 3)) else 0 : Int) = sDoR F 0 (sc xs (i + 1)) (sc xs (i + 2)) (sc xs (i + 3)) := fun q => if_pos q
  have e0 : eEx (sHin F 0 (sc xs (i + 1)) (sc xs (i + 2)) (sc xs (i + 3))) = none ↔ (sHin F 0 (sc xs (i + 1)) (sc xs (i + 2)) (sc xs (i + 3))) = 0 := by
    rcases hk_0 (F := F) (p := (sc xs (i + 1))) (q := (sc xs (i + 2))) (r := (sc xs (i + 3))) with w | w | w | w <;> rw [w] <;> decide
  refine e_aload_n (K := lK X) (i := 1) (n := 277) dL_law_276 rfl rfl ?_
  refine lArg (k := 1) dL_law_277 dL_law_278 dL_law_280 dL_law_281 dL_law_282 hX hL rfl rfl (by omega) ?_
  refine lArg (k := 2) dL_law_283 dL_law_284 dL_law_286 dL_law_287 dL_law_288 hX hL rfl rfl (by omega) ?_
  refine lArg (k := 3) dL_law_289 dL_law_290 dL_law_292 dL_law_293 dL_law_294 hX hL rfl rfl (by omega) ?_
  refine e_aload_n (K := lK X) (i := 3) (n := 296) dL_law_295 rfl rfl ?_
  refine e_lawW (K := lK X) (b' := b') (n := 299) lk_L_148 (by decide) dL_law_296 rfl (W_addBasket hF n1 n2 g1 g2 g3) rfl rfl (Nat.le_of_ble_eq_true rfl) (Nat.le_of_ble_eq_true rfl) (Nat.le_of_ble_eq_true rfl) ⟨hb.1, hb.2⟩ wA_len wA_len wA_len wM_6 (fun he => ?_) (fun he => ?_)
  · refine EV.eq (st' := [vi 0]) (by show [vi (exK (eEx (sHin F 0 (sc xs (i + 1)) (sc xs (i + 2)) (sc xs (i + 3)))) xAr xSt xUn)] = _; rw [exK_n he]) ?_
    refine f_istore (K := lK X) (n := 301) dL_law_299 rfl (Nat.le_of_ble_eq_true rfl) rfl ?_
    refine e_aload_n (K := lK X) (i := 2) (n := 302) dL_law_301 rfl rfl ?_
    refine lArg (k := 1) dL_law_302 dL_law_303 dL_law_305 dL_law_306 dL_law_307 hX hL rfl rfl (by omega) ?_
    refine lArg (k := 2) dL_law_308 dL_law_309 dL_law_311 dL_law_312 dL_law_313 hX hL rfl rfl (by omega) ?_
    refine lArg (k := 3) dL_law_314 dL_law_315 dL_law_317 dL_law_318 dL_law_319 hX hL rfl rfl (by omega) ?_
    refine e_lawP (K := lK X) (n := 323) (Pr := fun M2 => mPo M M2 F 0 (sc xs (i + 1)) (sc xs (i + 2)) (sc xs (i + 3)) (mTh (mHC (sHin F 0 (sc xs (i + 1)) (sc xs (i + 2)) (sc xs (i + 3)))) 0 1 2 3 0)) lk_L_153 rfl dL_law_320 rfl (C_X7_addBasket (M := M) hF hR (by omega) (by omega) g1 g2 g3) (fun _ q => q) rfl rfl (Nat.le_of_ble_eq_true rfl) (Nat.le_of_ble_eq_true rfl) (Nat.le_of_ble_eq_true rfl) ⟨rfl, rfl⟩ wA_len rfl rfl (fun M2 m => ?_)
    refine EV.eq (st' := [vi (w32 (sDoR F 0 (sc xs (i + 1)) (sc xs (i + 2)) (sc xs (i + 3))))]) (by show [vi (if mTh (mHC (sHin F 0 (sc xs (i + 1)) (sc xs (i + 2)) (sc xs (i + 3)))) 0 1 2 3 0 = 0 then sDoR F 0 (sc xs (i + 1)) (sc xs (i + 2)) (sc xs (i + 3)) else 0)] = _; rw [hV (hTE.trans (exK_n he))]; exact congrArg (fun v => [v]) w32_v) ?_
    refine f_istore (K := lK X) (n := 325) dL_law_323 rfl (Nat.le_of_ble_eq_true rfl) rfl ?_
    exact lTail (bb := bb) (i := i) (e := 0) (v := (w32 (sDoR F 0 (sc xs (i + 1)) (sc xs (i + 2)) (sc xs (i + 3))))) (off := 2276) dL_law_325 dL_law_326 dL_law_329 dL_law_331 dL_law_336 dL_law_338 dL_law_341 dL_law_342 dL_law_343 dL_law_344 dL_law_346 dL_law_347 dL_law_348 dL_law_353 (by decide) wA_len (by decide) (m.1.trans (hTE.trans (exK_n he))) (fun _ => eU_self) w32_in (kk _ _ _ _ _ _ _ _ _ _ _ _ _ _ _ _ _ _ (SIM_up ((SIM_chg (by decide) hs0 (by omega) m).1 (e0.mp he)) (by omega) hN))
  · have hx3 := exK_in (e1 := xAr) (e2 := xSt) (e3 := xUn) he
    refine f_istore (K := lK X) (n := 301) dL_law_299 rfl (Nat.le_of_ble_eq_true rfl) rfl ?_
    refine e_aload_n (K := lK X) (i := 2) (n := 302) dL_law_301 rfl rfl ?_
    refine lArg (k := 1) dL_law_302 dL_law_303 dL_law_305 dL_law_306 dL_law_307 hX hL rfl rfl (by omega) ?_
    refine lArg (k := 2) dL_law_308 dL_law_309 dL_law_311 dL_law_312 dL_law_313 hX hL rfl rfl (by omega) ?_
    refine lArg (k := 3) dL_law_314 dL_law_315 dL_law_317 dL_law_318 dL_law_319 hX hL rfl rfl (by omega) ?_
    refine e_lawP (K := lK X) (n := 323) (Pr := fun M2 => mPo M M2 F 0 (sc xs (i + 1)) (sc xs (i + 2)) (sc xs (i + 3)) (mTh (mHC (sHin F 0 (sc xs (i + 1)) (sc xs (i + 2)) (sc xs (i + 3)))) 0 1 2 3 0)) lk_L_153 rfl dL_law_320 rfl (C_X7_addBasket (M := M) hF hR (by omega) (by omega) g1 g2 g3) (fun _ q => q) rfl rfl (Nat.le_of_ble_eq_true rfl) (Nat.le_of_ble_eq_true rfl) (Nat.le_of_ble_eq_true rfl) ⟨rfl, rfl⟩ wA_len rfl rfl (fun M2 m => ?_)
    refine EV.eq (st' := [vi (w32 (if mTh (mHC (sHin F 0 (sc xs (i + 1)) (sc xs (i + 2)) (sc xs (i + 3)))) 0 1 2 3 0 = 0 then sDoR F 0 (sc xs (i + 1)) (sc xs (i + 2)) (sc xs (i + 3)) else 0))]) (congrArg (fun v => [v]) w32_v) ?_
    refine f_istore (K := lK X) (n := 325) dL_law_323 rfl (Nat.le_of_ble_eq_true rfl) rfl ?_
    exact lTail (bb := bb) (i := i) (e := (exK (eEx (sHin F 0 (sc xs (i + 1)) (sc xs (i + 2)) (sc xs (i + 3)))) xAr xSt xUn)) (v := (w32 (if mTh (mHC (sHin F 0 (sc xs (i + 1)) (sc xs (i + 2)) (sc xs (i + 3)))) 0 1 2 3 0 = 0 then sDoR F 0 (sc xs (i + 1)) (sc xs (i + 2)) (sc xs (i + 3)) else 0))) (off := 2276) dL_law_325 dL_law_326 dL_law_329 dL_law_331 dL_law_336 dL_law_338 dL_law_341 dL_law_342 dL_law_343 dL_law_344 dL_law_346 dL_law_347 dL_law_348 dL_law_353 (by decide) wA_len (by omega) (Eq.trans m.1 hTE) (fun q => by exfalso; omega) w32_in (kk _ _ _ _ _ _ _ _ _ _ _ _ _ _ _ _ _ _ (SIM_up ((SIM_chg (by decide) hs0 (by omega) m).2 (fun q => he (e0.mpr q))) (by omega) hN))
set_option maxHeartbeats 1600000 in
theorem LC_jump {X : eXT} {a : Nat → Nat} {b b' : Nat × Nat} {bb L : Nat} {xs : Nat → Int32} {i N : Int} {z : Nat → Int} {ln : Int → Int} {F : eFs} {P : Int → Int} {D : eFs} {DQ : Int → Int} {S : eFs} {SP : Int → Int} {c n : Int} {h : eHs} {g rc : Int → Int} {T : eFs} {Mt : Int → Int → Int} {M : eFs} {o : Int → Int} {od : Nat → UInt64} (hX : X.2 = some (bb, L, xs)) (hL : L ≤ 2147483647) (hi : 0 ≤ i ∧ i + 4 ≤ L) (hb : 2 + b'.1 ≤ b.1 ∧ 12 + b'.2 ≤ b.2) (hN : N + 2400 ≤ 90000000) (hs : SIM N z ln F S c n h g rc T Mt M) (kk : lG X a bb (N + 2400) i b') :
    EV (lK X) a b (wA a z ln F P D DQ S SP c n h g rc T Mt [] ++ (wM (fun k => a (131 + k)) M ++ [eJ 1 1 o, eDd 1 od])) 356 (lLs a bb i) [] := by
  have hs0 := hs
  obtain ⟨⟨hF, hC, hA, hR⟩, -, -, ⟨n1, n2, n3, n4, n5, n6, n7, n8, n9, n10⟩, ⟨l1, l2, l3⟩, ⟨hg, hr⟩, hT, hz, ⟨hw, hw4⟩, hN0⟩ := hs
  have hc9 := hF.1
  have g1 := sc_in (xs := xs) (z := i + 1)
  have g2 := sc_in (xs := xs) (z := i + 2)
  have g3 := sc_in (xs := xs) (z := i + 3)
  have hTE : mTh (mHC (sHin F 1 (sc xs (i + 1)) (sc xs (i + 2)) (sc xs (i + 3)))) 1 2 0 3 0 = exK (eEx (sHin F 1 (sc xs (i + 1)) (sc xs (i + 2)) (sc xs (i + 3)))) xIx xAr xUn := by
    rcases hk_1 (F := F) (p := (sc xs (i + 1))) (q := (sc xs (i + 2))) (r := (sc xs (i + 3))) with w | w | w | w
    · rw [w]; show (0 : Int) = exK none _ _ _; rfl
    · rw [w]; show (1 : Int) = exK (some xIx) _ _ _; exact (exK_s1 ).symm
    · rw [w]; show (2 : Int) = exK (some xAr) _ _ _; exact (exK_s2 (by decide)).symm
    · rw [w]; show (3 : Int) = exK (some xUn) _ _ _; exact (exK_s3 (by decide) (by decide)).symm
  have hV : mTh (mHC (sHin F 1 (sc xs (i + 1)) (sc xs (i + 2)) (sc xs (i + 3)))) 1 2 0 3 0 = 0 → (if mTh (mHC (sHin F 1 (sc xs (i + 1)) (sc xs (i + 2)) (sc xs (i + 3)))) 1 2 0 3 0 = 0 then sDoR F 1 (sc xs (i + 1)) (sc xs (i + 2)) (sc xs (i + 3)) else 0 : Int) = sDoR F 1 (sc xs (i + 1)) (sc xs (i + 2)) (sc xs (i + 3)) := fun q => if_pos q
  have e0 : eEx (sHin F 1 (sc xs (i + 1)) (sc xs (i + 2)) (sc xs (i + 3))) = none ↔ (sHin F 1 (sc xs (i + 1)) (sc xs (i + 2)) (sc xs (i + 3))) = 0 := by
    rcases hk_1 (F := F) (p := (sc xs (i + 1))) (q := (sc xs (i + 2))) (r := (sc xs (i + 3))) with w | w | w | w <;> rw [w] <;> decide
  refine e_aload_n (K := lK X) (i := 1) (n := 357) dL_law_356 rfl rfl ?_
  refine lArg (k := 1) dL_law_357 dL_law_358 dL_law_360 dL_law_361 dL_law_362 hX hL rfl rfl (by omega) ?_
  refine lArg (k := 2) dL_law_363 dL_law_364 dL_law_366 dL_law_367 dL_law_368 hX hL rfl rfl (by omega) ?_
  refine lArg (k := 3) dL_law_369 dL_law_370 dL_law_372 dL_law_373 dL_law_374 hX hL rfl rfl (by omega) ?_
  refine e_aload_n (K := lK X) (i := 3) (n := 376) dL_law_375 rfl rfl ?_
  refine e_lawW (K := lK X) (b' := b') (n := 379) lk_L_157 (by decide) dL_law_376 rfl (W_jump hF n1 n2 g1 g2 g3) rfl rfl (Nat.le_of_ble_eq_true rfl) (Nat.le_of_ble_eq_true rfl) (Nat.le_of_ble_eq_true rfl) ⟨hb.1, hb.2⟩ wA_len wA_len wA_len wM_6 (fun he => ?_) (fun he => ?_)
  · refine EV.eq (st' := [vi 0]) (by show [vi (exK (eEx (sHin F 1 (sc xs (i + 1)) (sc xs (i + 2)) (sc xs (i + 3)))) xIx xAr xUn)] = _; rw [exK_n he]) ?_
    refine f_istore (K := lK X) (n := 381) dL_law_379 rfl (Nat.le_of_ble_eq_true rfl) rfl ?_
    refine e_aload_n (K := lK X) (i := 2) (n := 382) dL_law_381 rfl rfl ?_
    refine lArg (k := 1) dL_law_382 dL_law_383 dL_law_385 dL_law_386 dL_law_387 hX hL rfl rfl (by omega) ?_
    refine lArg (k := 2) dL_law_388 dL_law_389 dL_law_391 dL_law_392 dL_law_393 hX hL rfl rfl (by omega) ?_
    refine lArg (k := 3) dL_law_394 dL_law_395 dL_law_397 dL_law_398 dL_law_399 hX hL rfl rfl (by omega) ?_
    refine e_lawP (K := lK X) (n := 403) (Pr := fun M2 => mPo M M2 F 1 (sc xs (i + 1)) (sc xs (i + 2)) (sc xs (i + 3)) (mTh (mHC (sHin F 1 (sc xs (i + 1)) (sc xs (i + 2)) (sc xs (i + 3)))) 1 2 0 3 0)) lk_L_159 rfl dL_law_400 rfl (C_X7_jump (M := M) hF hR (by omega) (by omega) g1 g2 g3) (fun _ q => q) rfl rfl (Nat.le_of_ble_eq_true rfl) (Nat.le_of_ble_eq_true rfl) (Nat.le_of_ble_eq_true rfl) ⟨rfl, rfl⟩ wA_len rfl rfl (fun M2 m => ?_)
    refine EV.eq (st' := [vi (w32 (sDoR F 1 (sc xs (i + 1)) (sc xs (i + 2)) (sc xs (i + 3))))]) (by show [vi (if mTh (mHC (sHin F 1 (sc xs (i + 1)) (sc xs (i + 2)) (sc xs (i + 3)))) 1 2 0 3 0 = 0 then sDoR F 1 (sc xs (i + 1)) (sc xs (i + 2)) (sc xs (i + 3)) else 0)] = _; rw [hV (hTE.trans (exK_n he))]; exact congrArg (fun v => [v]) w32_v) ?_
    refine f_istore (K := lK X) (n := 405) dL_law_403 rfl (Nat.le_of_ble_eq_true rfl) rfl ?_
    exact lTail (bb := bb) (i := i) (e := 0) (v := (w32 (sDoR F 1 (sc xs (i + 1)) (sc xs (i + 2)) (sc xs (i + 3))))) (off := 2196) dL_law_405 dL_law_406 dL_law_409 dL_law_411 dL_law_416 dL_law_418 dL_law_421 dL_law_422 dL_law_423 dL_law_424 dL_law_426 dL_law_427 dL_law_428 dL_law_433 (by decide) wA_len (by decide) (m.1.trans (hTE.trans (exK_n he))) (fun _ => eU_self) w32_in (kk _ _ _ _ _ _ _ _ _ _ _ _ _ _ _ _ _ _ (SIM_up ((SIM_chg (by decide) hs0 (by omega) m).1 (e0.mp he)) (by omega) hN))
  · have hx3 := exK_in (e1 := xIx) (e2 := xAr) (e3 := xUn) he
    refine f_istore (K := lK X) (n := 381) dL_law_379 rfl (Nat.le_of_ble_eq_true rfl) rfl ?_
    refine e_aload_n (K := lK X) (i := 2) (n := 382) dL_law_381 rfl rfl ?_
    refine lArg (k := 1) dL_law_382 dL_law_383 dL_law_385 dL_law_386 dL_law_387 hX hL rfl rfl (by omega) ?_
    refine lArg (k := 2) dL_law_388 dL_law_389 dL_law_391 dL_law_392 dL_law_393 hX hL rfl rfl (by omega) ?_
    refine lArg (k := 3) dL_law_394 dL_law_395 dL_law_397 dL_law_398 dL_law_399 hX hL rfl rfl (by omega) ?_
    refine e_lawP (K := lK X) (n := 403) (Pr := fun M2 => mPo M M2 F 1 (sc xs (i + 1)) (sc xs (i + 2)) (sc xs (i + 3)) (mTh (mHC (sHin F 1 (sc xs (i + 1)) (sc xs (i + 2)) (sc xs (i + 3)))) 1 2 0 3 0)) lk_L_159 rfl dL_law_400 rfl (C_X7_jump (M := M) hF hR (by omega) (by omega) g1 g2 g3) (fun _ q => q) rfl rfl (Nat.le_of_ble_eq_true rfl) (Nat.le_of_ble_eq_true rfl) (Nat.le_of_ble_eq_true rfl) ⟨rfl, rfl⟩ wA_len rfl rfl (fun M2 m => ?_)
    refine EV.eq (st' := [vi (w32 (if mTh (mHC (sHin F 1 (sc xs (i + 1)) (sc xs (i + 2)) (sc xs (i + 3)))) 1 2 0 3 0 = 0 then sDoR F 1 (sc xs (i + 1)) (sc xs (i + 2)) (sc xs (i + 3)) else 0))]) (congrArg (fun v => [v]) w32_v) ?_
    refine f_istore (K := lK X) (n := 405) dL_law_403 rfl (Nat.le_of_ble_eq_true rfl) rfl ?_
    exact lTail (bb := bb) (i := i) (e := (exK (eEx (sHin F 1 (sc xs (i + 1)) (sc xs (i + 2)) (sc xs (i + 3)))) xIx xAr xUn)) (v := (w32 (if mTh (mHC (sHin F 1 (sc xs (i + 1)) (sc xs (i + 2)) (sc xs (i + 3)))) 1 2 0 3 0 = 0 then sDoR F 1 (sc xs (i + 1)) (sc xs (i + 2)) (sc xs (i + 3)) else 0))) (off := 2196) dL_law_405 dL_law_406 dL_law_409 dL_law_411 dL_law_416 dL_law_418 dL_law_421 dL_law_422 dL_law_423 dL_law_424 dL_law_426 dL_law_427 dL_law_428 dL_law_433 (by decide) wA_len (by omega) (Eq.trans m.1 hTE) (fun q => by exfalso; omega) w32_in (kk _ _ _ _ _ _ _ _ _ _ _ _ _ _ _ _ _ _ (SIM_up ((SIM_chg (by decide) hs0 (by omega) m).2 (fun q => he (e0.mpr q))) (by omega) hN))
set_option maxHeartbeats 1600000 in
theorem LC_setHandle {X : eXT} {a : Nat → Nat} {b b' : Nat × Nat} {bb L : Nat} {xs : Nat → Int32} {i N : Int} {z : Nat → Int} {ln : Int → Int} {F : eFs} {P : Int → Int} {D : eFs} {DQ : Int → Int} {S : eFs} {SP : Int → Int} {c n : Int} {h : eHs} {g rc : Int → Int} {T : eFs} {Mt : Int → Int → Int} {M : eFs} {o : Int → Int} {od : Nat → UInt64} (hX : X.2 = some (bb, L, xs)) (hL : L ≤ 2147483647) (hi : 0 ≤ i ∧ i + 4 ≤ L) (hb : 2 + b'.1 ≤ b.1 ∧ 12 + b'.2 ≤ b.2) (hN : N + 2400 ≤ 90000000) (hs : SIM N z ln F S c n h g rc T Mt M) (kk : lG X a bb (N + 2400) i b') :
    EV (lK X) a b (wA a z ln F P D DQ S SP c n h g rc T Mt [] ++ (wM (fun k => a (131 + k)) M ++ [eJ 1 1 o, eDd 1 od])) 436 (lLs a bb i) [] := by
  have hs0 := hs
  obtain ⟨⟨hF, hC, hA, hR⟩, -, -, ⟨n1, n2, n3, n4, n5, n6, n7, n8, n9, n10⟩, ⟨l1, l2, l3⟩, ⟨hg, hr⟩, hT, hz, ⟨hw, hw4⟩, hN0⟩ := hs
  have hc9 := hF.1
  have g1 := sc_in (xs := xs) (z := i + 1)
  have g2 := sc_in (xs := xs) (z := i + 2)
  have hTE : mTh (mHC (sHin F 2 (sc xs (i + 1)) (sc xs (i + 2)) 0)) 1 2 0 0 0 = exK (eEx (sHin F 2 (sc xs (i + 1)) (sc xs (i + 2)) 0)) xIx xAr "" := by
    rcases hk_2 (F := F) (p := (sc xs (i + 1))) (q := (sc xs (i + 2))) (r := 0) with w | w | w
    · rw [w]; show (0 : Int) = exK none _ _ _; rfl
    · rw [w]; show (1 : Int) = exK (some xIx) _ _ _; exact (exK_s1 ).symm
    · rw [w]; show (2 : Int) = exK (some xAr) _ _ _; exact (exK_s2 (by decide)).symm
  have hV : mTh (mHC (sHin F 2 (sc xs (i + 1)) (sc xs (i + 2)) 0)) 1 2 0 0 0 = 0 → (if mTh (mHC (sHin F 2 (sc xs (i + 1)) (sc xs (i + 2)) 0)) 1 2 0 0 0 = 0 then sDoR F 2 (sc xs (i + 1)) (sc xs (i + 2)) 0 else 0 : Int) = sDoR F 2 (sc xs (i + 1)) (sc xs (i + 2)) 0 := fun q => if_pos q
  have e0 : eEx (sHin F 2 (sc xs (i + 1)) (sc xs (i + 2)) 0) = none ↔ (sHin F 2 (sc xs (i + 1)) (sc xs (i + 2)) 0) = 0 := by
    rcases hk_2 (F := F) (p := (sc xs (i + 1))) (q := (sc xs (i + 2))) (r := 0) with w | w | w <;> rw [w] <;> decide
  refine e_aload_n (K := lK X) (i := 1) (n := 437) dL_law_436 rfl rfl ?_
  refine lArg (k := 1) dL_law_437 dL_law_438 dL_law_440 dL_law_441 dL_law_442 hX hL rfl rfl (by omega) ?_
  refine lArg (k := 2) dL_law_443 dL_law_444 dL_law_446 dL_law_447 dL_law_448 hX hL rfl rfl (by omega) ?_
  refine e_aload_n (K := lK X) (i := 3) (n := 450) dL_law_449 rfl rfl ?_
  refine e_lawW (K := lK X) (b' := b') (n := 453) lk_L_160 (by decide) dL_law_450 rfl (W_setHandle hF n1 n2 g1 g2) rfl rfl (Nat.le_of_ble_eq_true rfl) (Nat.le_of_ble_eq_true rfl) (Nat.le_of_ble_eq_true rfl) ⟨hb.1, hb.2⟩ wA_len wA_len wA_len wM_6 (fun he => ?_) (fun he => ?_)
  · refine EV.eq (st' := [vi 0]) (by show [vi (exK (eEx (sHin F 2 (sc xs (i + 1)) (sc xs (i + 2)) 0)) xIx xAr "")] = _; rw [exK_n he]) ?_
    refine f_istore (K := lK X) (n := 455) dL_law_453 rfl (Nat.le_of_ble_eq_true rfl) rfl ?_
    refine e_aload_n (K := lK X) (i := 2) (n := 456) dL_law_455 rfl rfl ?_
    refine lArg (k := 1) dL_law_456 dL_law_457 dL_law_459 dL_law_460 dL_law_461 hX hL rfl rfl (by omega) ?_
    refine lArg (k := 2) dL_law_462 dL_law_463 dL_law_465 dL_law_466 dL_law_467 hX hL rfl rfl (by omega) ?_
    refine e_lawP (K := lK X) (n := 471) (Pr := fun M2 => mPo M M2 F 2 (sc xs (i + 1)) (sc xs (i + 2)) 0 (mTh (mHC (sHin F 2 (sc xs (i + 1)) (sc xs (i + 2)) 0)) 1 2 0 0 0)) lk_L_163 rfl dL_law_468 rfl (C_X7_setHandle (M := M) hF hR (by omega) (by omega) g1 g2) (fun _ q => q) rfl rfl (Nat.le_of_ble_eq_true rfl) (Nat.le_of_ble_eq_true rfl) (Nat.le_of_ble_eq_true rfl) ⟨rfl, rfl⟩ wA_len rfl rfl (fun M2 m => ?_)
    refine EV.eq (st' := [vi (w32 (sDoR F 2 (sc xs (i + 1)) (sc xs (i + 2)) 0))]) (by show [vi (if mTh (mHC (sHin F 2 (sc xs (i + 1)) (sc xs (i + 2)) 0)) 1 2 0 0 0 = 0 then sDoR F 2 (sc xs (i + 1)) (sc xs (i + 2)) 0 else 0)] = _; rw [hV (hTE.trans (exK_n he))]; exact congrArg (fun v => [v]) w32_v) ?_
    refine f_istore (K := lK X) (n := 473) dL_law_471 rfl (Nat.le_of_ble_eq_true rfl) rfl ?_
    exact lTail (bb := bb) (i := i) (e := 0) (v := (w32 (sDoR F 2 (sc xs (i + 1)) (sc xs (i + 2)) 0))) (off := 2128) dL_law_473 dL_law_474 dL_law_477 dL_law_479 dL_law_484 dL_law_486 dL_law_489 dL_law_490 dL_law_491 dL_law_492 dL_law_494 dL_law_495 dL_law_496 dL_law_501 (by decide) wA_len (by decide) (m.1.trans (hTE.trans (exK_n he))) (fun _ => eU_self) w32_in (kk _ _ _ _ _ _ _ _ _ _ _ _ _ _ _ _ _ _ (SIM_up ((SIM_chg (by decide) hs0 (by omega) m).1 (e0.mp he)) (by omega) hN))
  · have hx3 := exK_in (e1 := xIx) (e2 := xAr) (e3 := "") he
    refine f_istore (K := lK X) (n := 455) dL_law_453 rfl (Nat.le_of_ble_eq_true rfl) rfl ?_
    refine e_aload_n (K := lK X) (i := 2) (n := 456) dL_law_455 rfl rfl ?_
    refine lArg (k := 1) dL_law_456 dL_law_457 dL_law_459 dL_law_460 dL_law_461 hX hL rfl rfl (by omega) ?_
    refine lArg (k := 2) dL_law_462 dL_law_463 dL_law_465 dL_law_466 dL_law_467 hX hL rfl rfl (by omega) ?_
    refine e_lawP (K := lK X) (n := 471) (Pr := fun M2 => mPo M M2 F 2 (sc xs (i + 1)) (sc xs (i + 2)) 0 (mTh (mHC (sHin F 2 (sc xs (i + 1)) (sc xs (i + 2)) 0)) 1 2 0 0 0)) lk_L_163 rfl dL_law_468 rfl (C_X7_setHandle (M := M) hF hR (by omega) (by omega) g1 g2) (fun _ q => q) rfl rfl (Nat.le_of_ble_eq_true rfl) (Nat.le_of_ble_eq_true rfl) (Nat.le_of_ble_eq_true rfl) ⟨rfl, rfl⟩ wA_len rfl rfl (fun M2 m => ?_)
    refine EV.eq (st' := [vi (w32 (if mTh (mHC (sHin F 2 (sc xs (i + 1)) (sc xs (i + 2)) 0)) 1 2 0 0 0 = 0 then sDoR F 2 (sc xs (i + 1)) (sc xs (i + 2)) 0 else 0))]) (congrArg (fun v => [v]) w32_v) ?_
    refine f_istore (K := lK X) (n := 473) dL_law_471 rfl (Nat.le_of_ble_eq_true rfl) rfl ?_
    exact lTail (bb := bb) (i := i) (e := (exK (eEx (sHin F 2 (sc xs (i + 1)) (sc xs (i + 2)) 0)) xIx xAr "")) (v := (w32 (if mTh (mHC (sHin F 2 (sc xs (i + 1)) (sc xs (i + 2)) 0)) 1 2 0 0 0 = 0 then sDoR F 2 (sc xs (i + 1)) (sc xs (i + 2)) 0 else 0))) (off := 2128) dL_law_473 dL_law_474 dL_law_477 dL_law_479 dL_law_484 dL_law_486 dL_law_489 dL_law_490 dL_law_491 dL_law_492 dL_law_494 dL_law_495 dL_law_496 dL_law_501 (by decide) wA_len (by omega) (Eq.trans m.1 hTE) (fun q => by exfalso; omega) w32_in (kk _ _ _ _ _ _ _ _ _ _ _ _ _ _ _ _ _ _ (SIM_up ((SIM_chg (by decide) hs0 (by omega) m).2 (fun q => he (e0.mpr q))) (by omega) hN))
set_option maxHeartbeats 1600000 in
theorem LC_xOf {X : eXT} {a : Nat → Nat} {b b' : Nat × Nat} {bb L : Nat} {xs : Nat → Int32} {i N : Int} {z : Nat → Int} {ln : Int → Int} {F : eFs} {P : Int → Int} {D : eFs} {DQ : Int → Int} {S : eFs} {SP : Int → Int} {c n : Int} {h : eHs} {g rc : Int → Int} {T : eFs} {Mt : Int → Int → Int} {M : eFs} {o : Int → Int} {od : Nat → UInt64} (hX : X.2 = some (bb, L, xs)) (hL : L ≤ 2147483647) (hi : 0 ≤ i ∧ i + 4 ≤ L) (hb : 2 + b'.1 ≤ b.1 ∧ 12 + b'.2 ≤ b.2) (hN : N + 2400 ≤ 90000000) (hs : SIM N z ln F S c n h g rc T Mt M) (kk : lG X a bb (N + 2400) i b') :
    EV (lK X) a b (wA a z ln F P D DQ S SP c n h g rc T Mt [] ++ (wM (fun k => a (131 + k)) M ++ [eJ 1 1 o, eDd 1 od])) 517 (lLs a bb i) [] := by
  have hs0 := hs
  obtain ⟨⟨hF, hC, hA, hR⟩, -, -, ⟨n1, n2, n3, n4, n5, n6, n7, n8, n9, n10⟩, ⟨l1, l2, l3⟩, ⟨hg, hr⟩, hT, hz, ⟨hw, hw4⟩, hN0⟩ := hs
  have hc9 := hF.1
  have g1 := sc_in (xs := xs) (z := i + 1)
  have hTE : (if sHas F (sc xs (i + 1)) then (0 : Int) else 1) = exK ((if sHas F (sc xs (i + 1)) then none else some xIx)) xIx "" "" := by
    exact exK_i1.symm
  have hV : (if sHas F (sc xs (i + 1)) then (0 : Int) else 1) = 0 → (if (if sHas F (sc xs (i + 1)) then (0 : Int) else 1) = 0 then F.2 0 (sc xs (i + 1)) else 0 : Int) = F.2 0 (sc xs (i + 1)) := fun q => if_pos q
  refine e_aload_n (K := lK X) (i := 1) (n := 518) dL_law_517 rfl rfl ?_
  refine lArg (k := 1) dL_law_518 dL_law_519 dL_law_521 dL_law_522 dL_law_523 hX hL rfl rfl (by omega) ?_
  refine e_aload_n (K := lK X) (i := 3) (n := 525) dL_law_524 rfl rfl ?_
  refine e_lawW (K := lK X) (b' := b') (n := 528) lk_L_168 (by decide) dL_law_525 rfl (W_xOf hF g1) rfl rfl (Nat.le_of_ble_eq_true rfl) (Nat.le_of_ble_eq_true rfl) (Nat.le_of_ble_eq_true rfl) ⟨hb.1, hb.2⟩ wA_len wA_len wA_len wM_6 (fun he => ?_) (fun he => ?_)
  · refine EV.eq (st' := [vi 0]) (by show [vi (exK ((if sHas F (sc xs (i + 1)) then none else some xIx)) xIx "" "")] = _; rw [exK_n he]) ?_
    refine f_istore (K := lK X) (n := 530) dL_law_528 rfl (Nat.le_of_ble_eq_true rfl) rfl ?_
    refine e_aload_n (K := lK X) (i := 2) (n := 531) dL_law_530 rfl rfl ?_
    refine lArg (k := 1) dL_law_531 dL_law_532 dL_law_534 dL_law_535 dL_law_536 hX hL rfl rfl (by omega) ?_
    refine e_lawQ (K := lK X) (n := 540) (M2 := sS M 0 (if sHas F (sc xs (i + 1)) then (0 : Int) else 1)) lk_L_171 rfl dL_law_537 rfl (C_X7_xOf (M := M) hF hR g1) rfl rfl (Nat.le_of_ble_eq_true rfl) (Nat.le_of_ble_eq_true rfl) (Nat.le_of_ble_eq_true rfl) ⟨rfl, rfl⟩ wA_len rfl rfl ?_
    refine EV.eq (st' := [vi (w32 (F.2 0 (sc xs (i + 1))))]) (by show [vi (if (if sHas F (sc xs (i + 1)) then (0 : Int) else 1) = 0 then F.2 0 (sc xs (i + 1)) else 0)] = _; rw [hV (hTE.trans (exK_n he))]; exact congrArg (fun v => [v]) w32_v) ?_
    refine f_istore (K := lK X) (n := 542) dL_law_540 rfl (Nat.le_of_ble_eq_true rfl) rfl ?_
    exact lTail (bb := bb) (i := i) (e := 0) (v := (w32 (F.2 0 (sc xs (i + 1))))) (off := 2059) dL_law_542 dL_law_543 dL_law_546 dL_law_548 dL_law_553 dL_law_555 dL_law_558 dL_law_559 dL_law_560 dL_law_561 dL_law_563 dL_law_564 dL_law_565 dL_law_570 (by decide) wA_len (by decide) (sS_0.trans (hTE.trans (exK_n he))) (fun _ => eU_self) w32_in (kk _ _ _ _ _ _ _ _ _ _ _ _ _ _ _ _ _ _ (SIM_up (SIM_eq hs0 mEq_0) (by omega) hN))
  · have hx3 := exK_in (e1 := xIx) (e2 := "") (e3 := "") he
    refine f_istore (K := lK X) (n := 530) dL_law_528 rfl (Nat.le_of_ble_eq_true rfl) rfl ?_
    refine e_aload_n (K := lK X) (i := 2) (n := 531) dL_law_530 rfl rfl ?_
    refine lArg (k := 1) dL_law_531 dL_law_532 dL_law_534 dL_law_535 dL_law_536 hX hL rfl rfl (by omega) ?_
    refine e_lawQ (K := lK X) (n := 540) (M2 := sS M 0 (if sHas F (sc xs (i + 1)) then (0 : Int) else 1)) lk_L_171 rfl dL_law_537 rfl (C_X7_xOf (M := M) hF hR g1) rfl rfl (Nat.le_of_ble_eq_true rfl) (Nat.le_of_ble_eq_true rfl) (Nat.le_of_ble_eq_true rfl) ⟨rfl, rfl⟩ wA_len rfl rfl ?_
    refine EV.eq (st' := [vi (w32 (if (if sHas F (sc xs (i + 1)) then (0 : Int) else 1) = 0 then F.2 0 (sc xs (i + 1)) else 0))]) (congrArg (fun v => [v]) w32_v) ?_
    refine f_istore (K := lK X) (n := 542) dL_law_540 rfl (Nat.le_of_ble_eq_true rfl) rfl ?_
    exact lTail (bb := bb) (i := i) (e := (exK ((if sHas F (sc xs (i + 1)) then none else some xIx)) xIx "" "")) (v := (w32 (if (if sHas F (sc xs (i + 1)) then (0 : Int) else 1) = 0 then F.2 0 (sc xs (i + 1)) else 0))) (off := 2059) dL_law_542 dL_law_543 dL_law_546 dL_law_548 dL_law_553 dL_law_555 dL_law_558 dL_law_559 dL_law_560 dL_law_561 dL_law_563 dL_law_564 dL_law_565 dL_law_570 (by decide) wA_len (by omega) (Eq.trans sS_0 hTE) (fun q => by exfalso; omega) w32_in (kk _ _ _ _ _ _ _ _ _ _ _ _ _ _ _ _ _ _ (SIM_up (SIM_eq hs0 mEq_0) (by omega) hN))
set_option maxHeartbeats 1600000 in
theorem LC_yOf {X : eXT} {a : Nat → Nat} {b b' : Nat × Nat} {bb L : Nat} {xs : Nat → Int32} {i N : Int} {z : Nat → Int} {ln : Int → Int} {F : eFs} {P : Int → Int} {D : eFs} {DQ : Int → Int} {S : eFs} {SP : Int → Int} {c n : Int} {h : eHs} {g rc : Int → Int} {T : eFs} {Mt : Int → Int → Int} {M : eFs} {o : Int → Int} {od : Nat → UInt64} (hX : X.2 = some (bb, L, xs)) (hL : L ≤ 2147483647) (hi : 0 ≤ i ∧ i + 4 ≤ L) (hb : 2 + b'.1 ≤ b.1 ∧ 12 + b'.2 ≤ b.2) (hN : N + 2400 ≤ 90000000) (hs : SIM N z ln F S c n h g rc T Mt M) (kk : lG X a bb (N + 2400) i b') :
    EV (lK X) a b (wA a z ln F P D DQ S SP c n h g rc T Mt [] ++ (wM (fun k => a (131 + k)) M ++ [eJ 1 1 o, eDd 1 od])) 573 (lLs a bb i) [] := by
  have hs0 := hs
  obtain ⟨⟨hF, hC, hA, hR⟩, -, -, ⟨n1, n2, n3, n4, n5, n6, n7, n8, n9, n10⟩, ⟨l1, l2, l3⟩, ⟨hg, hr⟩, hT, hz, ⟨hw, hw4⟩, hN0⟩ := hs
  have hc9 := hF.1
  have g1 := sc_in (xs := xs) (z := i + 1)
  have hTE : (if sHas F (sc xs (i + 1)) then (0 : Int) else 1) = exK ((if sHas F (sc xs (i + 1)) then none else some xIx)) xIx "" "" := by
    exact exK_i1.symm
  have hV : (if sHas F (sc xs (i + 1)) then (0 : Int) else 1) = 0 → (if (if sHas F (sc xs (i + 1)) then (0 : Int) else 1) = 0 then F.2 1 (sc xs (i + 1)) else 0 : Int) = F.2 1 (sc xs (i + 1)) := fun q => if_pos q
  refine e_aload_n (K := lK X) (i := 1) (n := 574) dL_law_573 rfl rfl ?_
  refine lArg (k := 1) dL_law_574 dL_law_575 dL_law_577 dL_law_578 dL_law_579 hX hL rfl rfl (by omega) ?_
  refine e_aload_n (K := lK X) (i := 3) (n := 581) dL_law_580 rfl rfl ?_
  refine e_lawW (K := lK X) (b' := b') (n := 584) lk_L_172 (by decide) dL_law_581 rfl (W_yOf hF g1) rfl rfl (Nat.le_of_ble_eq_true rfl) (Nat.le_of_ble_eq_true rfl) (Nat.le_of_ble_eq_true rfl) ⟨hb.1, hb.2⟩ wA_len wA_len wA_len wM_6 (fun he => ?_) (fun he => ?_)
  · refine EV.eq (st' := [vi 0]) (by show [vi (exK ((if sHas F (sc xs (i + 1)) then none else some xIx)) xIx "" "")] = _; rw [exK_n he]) ?_
    refine f_istore (K := lK X) (n := 586) dL_law_584 rfl (Nat.le_of_ble_eq_true rfl) rfl ?_
    refine e_aload_n (K := lK X) (i := 2) (n := 587) dL_law_586 rfl rfl ?_
    refine lArg (k := 1) dL_law_587 dL_law_588 dL_law_590 dL_law_591 dL_law_592 hX hL rfl rfl (by omega) ?_
    refine e_lawQ (K := lK X) (n := 596) (M2 := sS M 0 (if sHas F (sc xs (i + 1)) then (0 : Int) else 1)) lk_L_174 rfl dL_law_593 rfl (C_X7_yOf (M := M) hF hR g1) rfl rfl (Nat.le_of_ble_eq_true rfl) (Nat.le_of_ble_eq_true rfl) (Nat.le_of_ble_eq_true rfl) ⟨rfl, rfl⟩ wA_len rfl rfl ?_
    refine EV.eq (st' := [vi (w32 (F.2 1 (sc xs (i + 1))))]) (by show [vi (if (if sHas F (sc xs (i + 1)) then (0 : Int) else 1) = 0 then F.2 1 (sc xs (i + 1)) else 0)] = _; rw [hV (hTE.trans (exK_n he))]; exact congrArg (fun v => [v]) w32_v) ?_
    refine f_istore (K := lK X) (n := 598) dL_law_596 rfl (Nat.le_of_ble_eq_true rfl) rfl ?_
    exact lTail (bb := bb) (i := i) (e := 0) (v := (w32 (F.2 1 (sc xs (i + 1))))) (off := 2003) dL_law_598 dL_law_599 dL_law_602 dL_law_604 dL_law_609 dL_law_611 dL_law_614 dL_law_615 dL_law_616 dL_law_617 dL_law_619 dL_law_620 dL_law_621 dL_law_626 (by decide) wA_len (by decide) (sS_0.trans (hTE.trans (exK_n he))) (fun _ => eU_self) w32_in (kk _ _ _ _ _ _ _ _ _ _ _ _ _ _ _ _ _ _ (SIM_up (SIM_eq hs0 mEq_0) (by omega) hN))
  · have hx3 := exK_in (e1 := xIx) (e2 := "") (e3 := "") he
    refine f_istore (K := lK X) (n := 586) dL_law_584 rfl (Nat.le_of_ble_eq_true rfl) rfl ?_
    refine e_aload_n (K := lK X) (i := 2) (n := 587) dL_law_586 rfl rfl ?_
    refine lArg (k := 1) dL_law_587 dL_law_588 dL_law_590 dL_law_591 dL_law_592 hX hL rfl rfl (by omega) ?_
    refine e_lawQ (K := lK X) (n := 596) (M2 := sS M 0 (if sHas F (sc xs (i + 1)) then (0 : Int) else 1)) lk_L_174 rfl dL_law_593 rfl (C_X7_yOf (M := M) hF hR g1) rfl rfl (Nat.le_of_ble_eq_true rfl) (Nat.le_of_ble_eq_true rfl) (Nat.le_of_ble_eq_true rfl) ⟨rfl, rfl⟩ wA_len rfl rfl ?_
    refine EV.eq (st' := [vi (w32 (if (if sHas F (sc xs (i + 1)) then (0 : Int) else 1) = 0 then F.2 1 (sc xs (i + 1)) else 0))]) (congrArg (fun v => [v]) w32_v) ?_
    refine f_istore (K := lK X) (n := 598) dL_law_596 rfl (Nat.le_of_ble_eq_true rfl) rfl ?_
    exact lTail (bb := bb) (i := i) (e := (exK ((if sHas F (sc xs (i + 1)) then none else some xIx)) xIx "" "")) (v := (w32 (if (if sHas F (sc xs (i + 1)) then (0 : Int) else 1) = 0 then F.2 1 (sc xs (i + 1)) else 0))) (off := 2003) dL_law_598 dL_law_599 dL_law_602 dL_law_604 dL_law_609 dL_law_611 dL_law_614 dL_law_615 dL_law_616 dL_law_617 dL_law_619 dL_law_620 dL_law_621 dL_law_626 (by decide) wA_len (by omega) (Eq.trans sS_0 hTE) (fun q => by exfalso; omega) w32_in (kk _ _ _ _ _ _ _ _ _ _ _ _ _ _ _ _ _ _ (SIM_up (SIM_eq hs0 mEq_0) (by omega) hN))
set_option maxHeartbeats 1600000 in
theorem LC_handleOf {X : eXT} {a : Nat → Nat} {b b' : Nat × Nat} {bb L : Nat} {xs : Nat → Int32} {i N : Int} {z : Nat → Int} {ln : Int → Int} {F : eFs} {P : Int → Int} {D : eFs} {DQ : Int → Int} {S : eFs} {SP : Int → Int} {c n : Int} {h : eHs} {g rc : Int → Int} {T : eFs} {Mt : Int → Int → Int} {M : eFs} {o : Int → Int} {od : Nat → UInt64} (hX : X.2 = some (bb, L, xs)) (hL : L ≤ 2147483647) (hi : 0 ≤ i ∧ i + 4 ≤ L) (hb : 2 + b'.1 ≤ b.1 ∧ 12 + b'.2 ≤ b.2) (hN : N + 2400 ≤ 90000000) (hs : SIM N z ln F S c n h g rc T Mt M) (kk : lG X a bb (N + 2400) i b') :
    EV (lK X) a b (wA a z ln F P D DQ S SP c n h g rc T Mt [] ++ (wM (fun k => a (131 + k)) M ++ [eJ 1 1 o, eDd 1 od])) 629 (lLs a bb i) [] := by
  have hs0 := hs
  obtain ⟨⟨hF, hC, hA, hR⟩, -, -, ⟨n1, n2, n3, n4, n5, n6, n7, n8, n9, n10⟩, ⟨l1, l2, l3⟩, ⟨hg, hr⟩, hT, hz, ⟨hw, hw4⟩, hN0⟩ := hs
  have hc9 := hF.1
  have g1 := sc_in (xs := xs) (z := i + 1)
  have hTE : (if sHas F (sc xs (i + 1)) then (0 : Int) else 1) = exK ((if sHas F (sc xs (i + 1)) then none else some xIx)) xIx "" "" := by
    exact exK_i1.symm
  have hV : (if sHas F (sc xs (i + 1)) then (0 : Int) else 1) = 0 → (if (if sHas F (sc xs (i + 1)) then (0 : Int) else 1) = 0 then F.2 2 (sc xs (i + 1)) else 0 : Int) = F.2 2 (sc xs (i + 1)) := fun q => if_pos q
  refine e_aload_n (K := lK X) (i := 1) (n := 630) dL_law_629 rfl rfl ?_
  refine lArg (k := 1) dL_law_630 dL_law_631 dL_law_633 dL_law_634 dL_law_635 hX hL rfl rfl (by omega) ?_
  refine e_aload_n (K := lK X) (i := 3) (n := 637) dL_law_636 rfl rfl ?_
  refine e_lawW (K := lK X) (b' := b') (n := 640) lk_L_175 (by decide) dL_law_637 rfl (W_handleOf hF g1) rfl rfl (Nat.le_of_ble_eq_true rfl) (Nat.le_of_ble_eq_true rfl) (Nat.le_of_ble_eq_true rfl) ⟨hb.1, hb.2⟩ wA_len wA_len wA_len wM_6 (fun he => ?_) (fun he => ?_)
  · refine EV.eq (st' := [vi 0]) (by show [vi (exK ((if sHas F (sc xs (i + 1)) then none else some xIx)) xIx "" "")] = _; rw [exK_n he]) ?_
    refine f_istore (K := lK X) (n := 642) dL_law_640 rfl (Nat.le_of_ble_eq_true rfl) rfl ?_
    refine e_aload_n (K := lK X) (i := 2) (n := 643) dL_law_642 rfl rfl ?_
    refine lArg (k := 1) dL_law_643 dL_law_644 dL_law_646 dL_law_647 dL_law_648 hX hL rfl rfl (by omega) ?_
    refine e_lawQ (K := lK X) (n := 652) (M2 := sS M 0 (if sHas F (sc xs (i + 1)) then (0 : Int) else 1)) lk_L_177 rfl dL_law_649 rfl (C_X7_handleOf (M := M) hF hR g1) rfl rfl (Nat.le_of_ble_eq_true rfl) (Nat.le_of_ble_eq_true rfl) (Nat.le_of_ble_eq_true rfl) ⟨rfl, rfl⟩ wA_len rfl rfl ?_
    refine EV.eq (st' := [vi (w32 (F.2 2 (sc xs (i + 1))))]) (by show [vi (if (if sHas F (sc xs (i + 1)) then (0 : Int) else 1) = 0 then F.2 2 (sc xs (i + 1)) else 0)] = _; rw [hV (hTE.trans (exK_n he))]; exact congrArg (fun v => [v]) w32_v) ?_
    refine f_istore (K := lK X) (n := 654) dL_law_652 rfl (Nat.le_of_ble_eq_true rfl) rfl ?_
    exact lTail (bb := bb) (i := i) (e := 0) (v := (w32 (F.2 2 (sc xs (i + 1))))) (off := 1947) dL_law_654 dL_law_655 dL_law_658 dL_law_660 dL_law_665 dL_law_667 dL_law_670 dL_law_671 dL_law_672 dL_law_673 dL_law_675 dL_law_676 dL_law_677 dL_law_682 (by decide) wA_len (by decide) (sS_0.trans (hTE.trans (exK_n he))) (fun _ => eU_self) w32_in (kk _ _ _ _ _ _ _ _ _ _ _ _ _ _ _ _ _ _ (SIM_up (SIM_eq hs0 mEq_0) (by omega) hN))
  · have hx3 := exK_in (e1 := xIx) (e2 := "") (e3 := "") he
    refine f_istore (K := lK X) (n := 642) dL_law_640 rfl (Nat.le_of_ble_eq_true rfl) rfl ?_
    refine e_aload_n (K := lK X) (i := 2) (n := 643) dL_law_642 rfl rfl ?_
    refine lArg (k := 1) dL_law_643 dL_law_644 dL_law_646 dL_law_647 dL_law_648 hX hL rfl rfl (by omega) ?_
    refine e_lawQ (K := lK X) (n := 652) (M2 := sS M 0 (if sHas F (sc xs (i + 1)) then (0 : Int) else 1)) lk_L_177 rfl dL_law_649 rfl (C_X7_handleOf (M := M) hF hR g1) rfl rfl (Nat.le_of_ble_eq_true rfl) (Nat.le_of_ble_eq_true rfl) (Nat.le_of_ble_eq_true rfl) ⟨rfl, rfl⟩ wA_len rfl rfl ?_
    refine EV.eq (st' := [vi (w32 (if (if sHas F (sc xs (i + 1)) then (0 : Int) else 1) = 0 then F.2 2 (sc xs (i + 1)) else 0))]) (congrArg (fun v => [v]) w32_v) ?_
    refine f_istore (K := lK X) (n := 654) dL_law_652 rfl (Nat.le_of_ble_eq_true rfl) rfl ?_
    exact lTail (bb := bb) (i := i) (e := (exK ((if sHas F (sc xs (i + 1)) then none else some xIx)) xIx "" "")) (v := (w32 (if (if sHas F (sc xs (i + 1)) then (0 : Int) else 1) = 0 then F.2 2 (sc xs (i + 1)) else 0))) (off := 1947) dL_law_654 dL_law_655 dL_law_658 dL_law_660 dL_law_665 dL_law_667 dL_law_670 dL_law_671 dL_law_672 dL_law_673 dL_law_675 dL_law_676 dL_law_677 dL_law_682 (by decide) wA_len (by omega) (Eq.trans sS_0 hTE) (fun q => by exfalso; omega) w32_in (kk _ _ _ _ _ _ _ _ _ _ _ _ _ _ _ _ _ _ (SIM_up (SIM_eq hs0 mEq_0) (by omega) hN))
set_option maxHeartbeats 1600000 in
theorem LC_basketAt {X : eXT} {a : Nat → Nat} {b b' : Nat × Nat} {bb L : Nat} {xs : Nat → Int32} {i N : Int} {z : Nat → Int} {ln : Int → Int} {F : eFs} {P : Int → Int} {D : eFs} {DQ : Int → Int} {S : eFs} {SP : Int → Int} {c n : Int} {h : eHs} {g rc : Int → Int} {T : eFs} {Mt : Int → Int → Int} {M : eFs} {o : Int → Int} {od : Nat → UInt64} (hX : X.2 = some (bb, L, xs)) (hL : L ≤ 2147483647) (hi : 0 ≤ i ∧ i + 4 ≤ L) (hb : 2 + b'.1 ≤ b.1 ∧ 12 + b'.2 ≤ b.2) (hN : N + 2400 ≤ 90000000) (hs : SIM N z ln F S c n h g rc T Mt M) (kk : lG X a bb (N + 2400) i b') :
    EV (lK X) a b (wA a z ln F P D DQ S SP c n h g rc T Mt [] ++ (wM (fun k => a (131 + k)) M ++ [eJ 1 1 o, eDd 1 od])) 685 (lLs a bb i) [] := by
  have hs0 := hs
  obtain ⟨⟨hF, hC, hA, hR⟩, -, -, ⟨n1, n2, n3, n4, n5, n6, n7, n8, n9, n10⟩, ⟨l1, l2, l3⟩, ⟨hg, hr⟩, hT, hz, ⟨hw, hw4⟩, hN0⟩ := hs
  have hc9 := hF.1
  have g1 := sc_in (xs := xs) (z := i + 1)
  have g2 := sc_in (xs := xs) (z := i + 2)
  have hTE : (if ¬ sIn (sc xs (i + 1)) (sc xs (i + 2)) then (1 : Int) else if sAt F (sc xs (i + 1)) (sc xs (i + 2)) = -1 then 2 else 0) = exK ((if sIn (sc xs (i + 1)) (sc xs (i + 2)) then (if ¬ sAt F (sc xs (i + 1)) (sc xs (i + 2)) = -1 then none else some xNo) else some xAr)) xAr xNo "" := by
    rw [exK_i2 (by decide)]
    (repeat' split) <;> first | rfl | contradiction | (exfalso; omega)
  have hV : (if ¬ sIn (sc xs (i + 1)) (sc xs (i + 2)) then (1 : Int) else if sAt F (sc xs (i + 1)) (sc xs (i + 2)) = -1 then 2 else 0) = 0 → (if (if ¬ sIn (sc xs (i + 1)) (sc xs (i + 2)) then (1 : Int) else if sAt F (sc xs (i + 1)) (sc xs (i + 2)) = -1 then 2 else 0) = 0 then sAt F (sc xs (i + 1)) (sc xs (i + 2)) else 0 : Int) = sAt F (sc xs (i + 1)) (sc xs (i + 2)) := fun q => if_pos q
  refine e_aload_n (K := lK X) (i := 1) (n := 686) dL_law_685 rfl rfl ?_
  refine lArg (k := 1) dL_law_686 dL_law_687 dL_law_689 dL_law_690 dL_law_691 hX hL rfl rfl (by omega) ?_
  refine lArg (k := 2) dL_law_692 dL_law_693 dL_law_695 dL_law_696 dL_law_697 hX hL rfl rfl (by omega) ?_
  refine e_aload_n (K := lK X) (i := 3) (n := 699) dL_law_698 rfl rfl ?_
  refine e_lawW (K := lK X) (b' := b') (n := 702) lk_L_178 (by decide) dL_law_699 rfl (W_basketAt hF g1 g2) rfl rfl (Nat.le_of_ble_eq_true rfl) (Nat.le_of_ble_eq_true rfl) (Nat.le_of_ble_eq_true rfl) ⟨hb.1, hb.2⟩ wA_len wA_len wA_len wM_6 (fun he => ?_) (fun he => ?_)
  · refine EV.eq (st' := [vi 0]) (by show [vi (exK ((if sIn (sc xs (i + 1)) (sc xs (i + 2)) then (if ¬ sAt F (sc xs (i + 1)) (sc xs (i + 2)) = -1 then none else some xNo) else some xAr)) xAr xNo "")] = _; rw [exK_n he]) ?_
    refine f_istore (K := lK X) (n := 704) dL_law_702 rfl (Nat.le_of_ble_eq_true rfl) rfl ?_
    refine e_aload_n (K := lK X) (i := 2) (n := 705) dL_law_704 rfl rfl ?_
    refine lArg (k := 1) dL_law_705 dL_law_706 dL_law_708 dL_law_709 dL_law_710 hX hL rfl rfl (by omega) ?_
    refine lArg (k := 2) dL_law_711 dL_law_712 dL_law_714 dL_law_715 dL_law_716 hX hL rfl rfl (by omega) ?_
    refine e_lawQ (K := lK X) (n := 720) (M2 := sS M 0 (if ¬ sIn (sc xs (i + 1)) (sc xs (i + 2)) then (1 : Int) else if sAt F (sc xs (i + 1)) (sc xs (i + 2)) = -1 then 2 else 0)) lk_L_180 rfl dL_law_717 rfl (C_X7_basketAt (M := M) hF hR g1 g2) rfl rfl (Nat.le_of_ble_eq_true rfl) (Nat.le_of_ble_eq_true rfl) (Nat.le_of_ble_eq_true rfl) ⟨rfl, rfl⟩ wA_len rfl rfl ?_
    refine EV.eq (st' := [vi (w32 (sAt F (sc xs (i + 1)) (sc xs (i + 2))))]) (by show [vi (if (if ¬ sIn (sc xs (i + 1)) (sc xs (i + 2)) then (1 : Int) else if sAt F (sc xs (i + 1)) (sc xs (i + 2)) = -1 then 2 else 0) = 0 then sAt F (sc xs (i + 1)) (sc xs (i + 2)) else 0)] = _; rw [hV (hTE.trans (exK_n he))]; exact congrArg (fun v => [v]) w32_v) ?_
    refine f_istore (K := lK X) (n := 722) dL_law_720 rfl (Nat.le_of_ble_eq_true rfl) rfl ?_
    exact lTail (bb := bb) (i := i) (e := 0) (v := (w32 (sAt F (sc xs (i + 1)) (sc xs (i + 2))))) (off := 1879) dL_law_722 dL_law_723 dL_law_726 dL_law_728 dL_law_733 dL_law_735 dL_law_738 dL_law_739 dL_law_740 dL_law_741 dL_law_743 dL_law_744 dL_law_745 dL_law_750 (by decide) wA_len (by decide) (sS_0.trans (hTE.trans (exK_n he))) (fun _ => eU_self) w32_in (kk _ _ _ _ _ _ _ _ _ _ _ _ _ _ _ _ _ _ (SIM_up (SIM_eq hs0 mEq_0) (by omega) hN))
  · have hx3 := exK_in (e1 := xAr) (e2 := xNo) (e3 := "") he
    refine f_istore (K := lK X) (n := 704) dL_law_702 rfl (Nat.le_of_ble_eq_true rfl) rfl ?_
    refine e_aload_n (K := lK X) (i := 2) (n := 705) dL_law_704 rfl rfl ?_
    refine lArg (k := 1) dL_law_705 dL_law_706 dL_law_708 dL_law_709 dL_law_710 hX hL rfl rfl (by omega) ?_
    refine lArg (k := 2) dL_law_711 dL_law_712 dL_law_714 dL_law_715 dL_law_716 hX hL rfl rfl (by omega) ?_
    refine e_lawQ (K := lK X) (n := 720) (M2 := sS M 0 (if ¬ sIn (sc xs (i + 1)) (sc xs (i + 2)) then (1 : Int) else if sAt F (sc xs (i + 1)) (sc xs (i + 2)) = -1 then 2 else 0)) lk_L_180 rfl dL_law_717 rfl (C_X7_basketAt (M := M) hF hR g1 g2) rfl rfl (Nat.le_of_ble_eq_true rfl) (Nat.le_of_ble_eq_true rfl) (Nat.le_of_ble_eq_true rfl) ⟨rfl, rfl⟩ wA_len rfl rfl ?_
    refine EV.eq (st' := [vi (w32 (if (if ¬ sIn (sc xs (i + 1)) (sc xs (i + 2)) then (1 : Int) else if sAt F (sc xs (i + 1)) (sc xs (i + 2)) = -1 then 2 else 0) = 0 then sAt F (sc xs (i + 1)) (sc xs (i + 2)) else 0))]) (congrArg (fun v => [v]) w32_v) ?_
    refine f_istore (K := lK X) (n := 722) dL_law_720 rfl (Nat.le_of_ble_eq_true rfl) rfl ?_
    exact lTail (bb := bb) (i := i) (e := (exK ((if sIn (sc xs (i + 1)) (sc xs (i + 2)) then (if ¬ sAt F (sc xs (i + 1)) (sc xs (i + 2)) = -1 then none else some xNo) else some xAr)) xAr xNo "")) (v := (w32 (if (if ¬ sIn (sc xs (i + 1)) (sc xs (i + 2)) then (1 : Int) else if sAt F (sc xs (i + 1)) (sc xs (i + 2)) = -1 then 2 else 0) = 0 then sAt F (sc xs (i + 1)) (sc xs (i + 2)) else 0))) (off := 1879) dL_law_722 dL_law_723 dL_law_726 dL_law_728 dL_law_733 dL_law_735 dL_law_738 dL_law_739 dL_law_740 dL_law_741 dL_law_743 dL_law_744 dL_law_745 dL_law_750 (by decide) wA_len (by omega) (Eq.trans sS_0 hTE) (fun q => by exfalso; omega) w32_in (kk _ _ _ _ _ _ _ _ _ _ _ _ _ _ _ _ _ _ (SIM_up (SIM_eq hs0 mEq_0) (by omega) hN))
set_option maxHeartbeats 1600000 in
theorem LC_distance {X : eXT} {a : Nat → Nat} {b b' : Nat × Nat} {bb L : Nat} {xs : Nat → Int32} {i N : Int} {z : Nat → Int} {ln : Int → Int} {F : eFs} {P : Int → Int} {D : eFs} {DQ : Int → Int} {S : eFs} {SP : Int → Int} {c n : Int} {h : eHs} {g rc : Int → Int} {T : eFs} {Mt : Int → Int → Int} {M : eFs} {o : Int → Int} {od : Nat → UInt64} (hX : X.2 = some (bb, L, xs)) (hL : L ≤ 2147483647) (hi : 0 ≤ i ∧ i + 4 ≤ L) (hb : 2 + b'.1 ≤ b.1 ∧ 12 + b'.2 ≤ b.2) (hN : N + 2400 ≤ 90000000) (hs : SIM N z ln F S c n h g rc T Mt M) (kk : lG X a bb (N + 2400) i b') :
    EV (lK X) a b (wA a z ln F P D DQ S SP c n h g rc T Mt [] ++ (wM (fun k => a (131 + k)) M ++ [eJ 1 1 o, eDd 1 od])) 753 (lLs a bb i) [] := by
  have hs0 := hs
  obtain ⟨⟨hF, hC, hA, hR⟩, -, -, ⟨n1, n2, n3, n4, n5, n6, n7, n8, n9, n10⟩, ⟨l1, l2, l3⟩, ⟨hg, hr⟩, hT, hz, ⟨hw, hw4⟩, hN0⟩ := hs
  have hc9 := hF.1
  have g1 := sc_in (xs := xs) (z := i + 1)
  have g2 := sc_in (xs := xs) (z := i + 2)
  have hTE : (if sHas F (sc xs (i + 1)) ∧ sHas F (sc xs (i + 2)) then (0 : Int) else 1) = exK ((if sHas F (sc xs (i + 1)) then (if sHas F (sc xs (i + 2)) then none else some xIx) else some xIx)) xIx "" "" := by
    by_cases q : sHas F (sc xs (i + 1))
    · rw [if_pos q]
      by_cases r : sHas F (sc xs (i + 2))
      · rw [if_pos r, if_pos ⟨q, r⟩]; rfl
      · rw [if_neg r, if_neg (fun w => r w.2)]; exact exK_s1.symm
    · rw [if_neg q, if_neg (fun w => q w.1)]; exact exK_s1.symm
  have hV : (if sHas F (sc xs (i + 1)) ∧ sHas F (sc xs (i + 2)) then (0 : Int) else 1) = 0 → (if (if sHas F (sc xs (i + 1)) ∧ sHas F (sc xs (i + 2)) then (0 : Int) else 1) = 0 then sDD F (sc xs (i + 1)) (sc xs (i + 2)) else 0 : Int) = sDD F (sc xs (i + 1)) (sc xs (i + 2)) := fun q => if_pos q
  refine e_aload_n (K := lK X) (i := 1) (n := 754) dL_law_753 rfl rfl ?_
  refine lArg (k := 1) dL_law_754 dL_law_755 dL_law_757 dL_law_758 dL_law_759 hX hL rfl rfl (by omega) ?_
  refine lArg (k := 2) dL_law_760 dL_law_761 dL_law_763 dL_law_764 dL_law_765 hX hL rfl rfl (by omega) ?_
  refine e_aload_n (K := lK X) (i := 3) (n := 767) dL_law_766 rfl rfl ?_
  refine e_lawW (K := lK X) (b' := b') (n := 770) lk_L_181 (by decide) dL_law_767 rfl (W_distance hF g1 g2) rfl rfl (Nat.le_of_ble_eq_true rfl) (Nat.le_of_ble_eq_true rfl) (Nat.le_of_ble_eq_true rfl) ⟨hb.1, hb.2⟩ wA_len wA_len wA_len wM_6 (fun he => ?_) (fun he => ?_)
  · refine EV.eq (st' := [vi 0]) (by show [vi (exK ((if sHas F (sc xs (i + 1)) then (if sHas F (sc xs (i + 2)) then none else some xIx) else some xIx)) xIx "" "")] = _; rw [exK_n he]) ?_
    refine f_istore (K := lK X) (n := 772) dL_law_770 rfl (Nat.le_of_ble_eq_true rfl) rfl ?_
    refine e_aload_n (K := lK X) (i := 2) (n := 773) dL_law_772 rfl rfl ?_
    refine lArg (k := 1) dL_law_773 dL_law_774 dL_law_776 dL_law_777 dL_law_778 hX hL rfl rfl (by omega) ?_
    refine lArg (k := 2) dL_law_779 dL_law_780 dL_law_782 dL_law_783 dL_law_784 hX hL rfl rfl (by omega) ?_
    refine e_lawQ (K := lK X) (n := 788) (M2 := sS M 0 (if sHas F (sc xs (i + 1)) ∧ sHas F (sc xs (i + 2)) then (0 : Int) else 1)) lk_L_183 rfl dL_law_785 rfl (C_X7_distance (M := M) hF hR g1 g2) rfl rfl (Nat.le_of_ble_eq_true rfl) (Nat.le_of_ble_eq_true rfl) (Nat.le_of_ble_eq_true rfl) ⟨rfl, rfl⟩ wA_len rfl rfl ?_
    refine EV.eq (st' := [vi (w32 (sDD F (sc xs (i + 1)) (sc xs (i + 2))))]) (by show [vi (if (if sHas F (sc xs (i + 1)) ∧ sHas F (sc xs (i + 2)) then (0 : Int) else 1) = 0 then sDD F (sc xs (i + 1)) (sc xs (i + 2)) else 0)] = _; rw [hV (hTE.trans (exK_n he))]; exact congrArg (fun v => [v]) w32_v) ?_
    refine f_istore (K := lK X) (n := 790) dL_law_788 rfl (Nat.le_of_ble_eq_true rfl) rfl ?_
    exact lTail (bb := bb) (i := i) (e := 0) (v := (w32 (sDD F (sc xs (i + 1)) (sc xs (i + 2))))) (off := 1811) dL_law_790 dL_law_791 dL_law_794 dL_law_796 dL_law_801 dL_law_803 dL_law_806 dL_law_807 dL_law_808 dL_law_809 dL_law_811 dL_law_812 dL_law_813 dL_law_818 (by decide) wA_len (by decide) (sS_0.trans (hTE.trans (exK_n he))) (fun _ => eU_self) w32_in (kk _ _ _ _ _ _ _ _ _ _ _ _ _ _ _ _ _ _ (SIM_up (SIM_eq hs0 mEq_0) (by omega) hN))
  · have hx3 := exK_in (e1 := xIx) (e2 := "") (e3 := "") he
    refine f_istore (K := lK X) (n := 772) dL_law_770 rfl (Nat.le_of_ble_eq_true rfl) rfl ?_
    refine e_aload_n (K := lK X) (i := 2) (n := 773) dL_law_772 rfl rfl ?_
    refine lArg (k := 1) dL_law_773 dL_law_774 dL_law_776 dL_law_777 dL_law_778 hX hL rfl rfl (by omega) ?_
    refine lArg (k := 2) dL_law_779 dL_law_780 dL_law_782 dL_law_783 dL_law_784 hX hL rfl rfl (by omega) ?_
    refine e_lawQ (K := lK X) (n := 788) (M2 := sS M 0 (if sHas F (sc xs (i + 1)) ∧ sHas F (sc xs (i + 2)) then (0 : Int) else 1)) lk_L_183 rfl dL_law_785 rfl (C_X7_distance (M := M) hF hR g1 g2) rfl rfl (Nat.le_of_ble_eq_true rfl) (Nat.le_of_ble_eq_true rfl) (Nat.le_of_ble_eq_true rfl) ⟨rfl, rfl⟩ wA_len rfl rfl ?_
    refine EV.eq (st' := [vi (w32 (if (if sHas F (sc xs (i + 1)) ∧ sHas F (sc xs (i + 2)) then (0 : Int) else 1) = 0 then sDD F (sc xs (i + 1)) (sc xs (i + 2)) else 0))]) (congrArg (fun v => [v]) w32_v) ?_
    refine f_istore (K := lK X) (n := 790) dL_law_788 rfl (Nat.le_of_ble_eq_true rfl) rfl ?_
    exact lTail (bb := bb) (i := i) (e := (exK ((if sHas F (sc xs (i + 1)) then (if sHas F (sc xs (i + 2)) then none else some xIx) else some xIx)) xIx "" "")) (v := (w32 (if (if sHas F (sc xs (i + 1)) ∧ sHas F (sc xs (i + 2)) then (0 : Int) else 1) = 0 then sDD F (sc xs (i + 1)) (sc xs (i + 2)) else 0))) (off := 1811) dL_law_790 dL_law_791 dL_law_794 dL_law_796 dL_law_801 dL_law_803 dL_law_806 dL_law_807 dL_law_808 dL_law_809 dL_law_811 dL_law_812 dL_law_813 dL_law_818 (by decide) wA_len (by omega) (Eq.trans sS_0 hTE) (fun q => by exfalso; omega) w32_in (kk _ _ _ _ _ _ _ _ _ _ _ _ _ _ _ _ _ _ (SIM_up (SIM_eq hs0 mEq_0) (by omega) hN))
set_option maxHeartbeats 1600000 in
theorem LC_nearestTo {X : eXT} {a : Nat → Nat} {b b' : Nat × Nat} {bb L : Nat} {xs : Nat → Int32} {i N : Int} {z : Nat → Int} {ln : Int → Int} {F : eFs} {P : Int → Int} {D : eFs} {DQ : Int → Int} {S : eFs} {SP : Int → Int} {c n : Int} {h : eHs} {g rc : Int → Int} {T : eFs} {Mt : Int → Int → Int} {M : eFs} {o : Int → Int} {od : Nat → UInt64} (hX : X.2 = some (bb, L, xs)) (hL : L ≤ 2147483647) (hi : 0 ≤ i ∧ i + 4 ≤ L) (hb : 2 + b'.1 ≤ b.1 ∧ 12 + b'.2 ≤ b.2) (hN : N + 2400 ≤ 90000000) (hs : SIM N z ln F S c n h g rc T Mt M) (kk : lG X a bb (N + 2400) i b') :
    EV (lK X) a b (wA a z ln F P D DQ S SP c n h g rc T Mt [] ++ (wM (fun k => a (131 + k)) M ++ [eJ 1 1 o, eDd 1 od])) 821 (lLs a bb i) [] := by
  have hs0 := hs
  obtain ⟨⟨hF, hC, hA, hR⟩, -, -, ⟨n1, n2, n3, n4, n5, n6, n7, n8, n9, n10⟩, ⟨l1, l2, l3⟩, ⟨hg, hr⟩, hT, hz, ⟨hw, hw4⟩, hN0⟩ := hs
  have hc9 := hF.1
  have g1 := sc_in (xs := xs) (z := i + 1)
  have hTE : (if ¬ sHas F (sc xs (i + 1)) then (1 : Int) else if F.1 0 < 2 then 2 else 0) = exK ((if sHas F (sc xs (i + 1)) then (if ¬ sNear F (sc xs (i + 1)) = -1 then none else some xNo) else some xIx)) xIx xNo "" := by
    rw [exK_i2 (by decide)]
    by_cases q : sHas F (sc xs (i + 1))
    · have w := near_iff hF q
      rw [if_pos q, if_neg (fun r => r q)]
      by_cases r : F.1 0 < 2
      · rw [if_pos r, if_neg (fun v => w.mp v r)]
      · rw [if_neg r, if_pos (w.mpr r)]
    · rw [if_neg q, if_pos q]
  have hV : (if ¬ sHas F (sc xs (i + 1)) then (1 : Int) else if F.1 0 < 2 then 2 else 0) = 0 → (if (if ¬ sHas F (sc xs (i + 1)) then (1 : Int) else if F.1 0 < 2 then 2 else 0) = 0 then sNear F (sc xs (i + 1)) else 0 : Int) = sNear F (sc xs (i + 1)) := fun q => if_pos q
  refine e_aload_n (K := lK X) (i := 1) (n := 822) dL_law_821 rfl rfl ?_
  refine lArg (k := 1) dL_law_822 dL_law_823 dL_law_825 dL_law_826 dL_law_827 hX hL rfl rfl (by omega) ?_
  refine e_aload_n (K := lK X) (i := 3) (n := 829) dL_law_828 rfl rfl ?_
  refine e_lawW (K := lK X) (b' := b') (n := 832) lk_L_184 (by decide) dL_law_829 rfl (W_nearestTo hF g1) rfl rfl (Nat.le_of_ble_eq_true rfl) (Nat.le_of_ble_eq_true rfl) (Nat.le_of_ble_eq_true rfl) ⟨hb.1, hb.2⟩ wA_len wA_len wA_len wM_6 (fun he => ?_) (fun he => ?_)
  · refine EV.eq (st' := [vi 0]) (by show [vi (exK ((if sHas F (sc xs (i + 1)) then (if ¬ sNear F (sc xs (i + 1)) = -1 then none else some xNo) else some xIx)) xIx xNo "")] = _; rw [exK_n he]) ?_
    refine f_istore (K := lK X) (n := 834) dL_law_832 rfl (Nat.le_of_ble_eq_true rfl) rfl ?_
    refine e_aload_n (K := lK X) (i := 2) (n := 835) dL_law_834 rfl rfl ?_
    refine lArg (k := 1) dL_law_835 dL_law_836 dL_law_838 dL_law_839 dL_law_840 hX hL rfl rfl (by omega) ?_
    refine e_lawQ (K := lK X) (n := 844) (M2 := sS M 0 (if ¬ sHas F (sc xs (i + 1)) then (1 : Int) else if F.1 0 < 2 then 2 else 0)) lk_L_186 rfl dL_law_841 rfl (C_X7_nearestTo (M := M) hF hR g1) rfl rfl (Nat.le_of_ble_eq_true rfl) (Nat.le_of_ble_eq_true rfl) (Nat.le_of_ble_eq_true rfl) ⟨rfl, rfl⟩ wA_len rfl rfl ?_
    refine EV.eq (st' := [vi (w32 (sNear F (sc xs (i + 1))))]) (by show [vi (if (if ¬ sHas F (sc xs (i + 1)) then (1 : Int) else if F.1 0 < 2 then 2 else 0) = 0 then sNear F (sc xs (i + 1)) else 0)] = _; rw [hV (hTE.trans (exK_n he))]; exact congrArg (fun v => [v]) w32_v) ?_
    refine f_istore (K := lK X) (n := 846) dL_law_844 rfl (Nat.le_of_ble_eq_true rfl) rfl ?_
    exact lTail (bb := bb) (i := i) (e := 0) (v := (w32 (sNear F (sc xs (i + 1))))) (off := 1755) dL_law_846 dL_law_847 dL_law_850 dL_law_852 dL_law_857 dL_law_859 dL_law_862 dL_law_863 dL_law_864 dL_law_865 dL_law_867 dL_law_868 dL_law_869 dL_law_874 (by decide) wA_len (by decide) (sS_0.trans (hTE.trans (exK_n he))) (fun _ => eU_self) w32_in (kk _ _ _ _ _ _ _ _ _ _ _ _ _ _ _ _ _ _ (SIM_up (SIM_eq hs0 mEq_0) (by omega) hN))
  · have hx3 := exK_in (e1 := xIx) (e2 := xNo) (e3 := "") he
    refine f_istore (K := lK X) (n := 834) dL_law_832 rfl (Nat.le_of_ble_eq_true rfl) rfl ?_
    refine e_aload_n (K := lK X) (i := 2) (n := 835) dL_law_834 rfl rfl ?_
    refine lArg (k := 1) dL_law_835 dL_law_836 dL_law_838 dL_law_839 dL_law_840 hX hL rfl rfl (by omega) ?_
    refine e_lawQ (K := lK X) (n := 844) (M2 := sS M 0 (if ¬ sHas F (sc xs (i + 1)) then (1 : Int) else if F.1 0 < 2 then 2 else 0)) lk_L_186 rfl dL_law_841 rfl (C_X7_nearestTo (M := M) hF hR g1) rfl rfl (Nat.le_of_ble_eq_true rfl) (Nat.le_of_ble_eq_true rfl) (Nat.le_of_ble_eq_true rfl) ⟨rfl, rfl⟩ wA_len rfl rfl ?_
    refine EV.eq (st' := [vi (w32 (if (if ¬ sHas F (sc xs (i + 1)) then (1 : Int) else if F.1 0 < 2 then 2 else 0) = 0 then sNear F (sc xs (i + 1)) else 0))]) (congrArg (fun v => [v]) w32_v) ?_
    refine f_istore (K := lK X) (n := 846) dL_law_844 rfl (Nat.le_of_ble_eq_true rfl) rfl ?_
    exact lTail (bb := bb) (i := i) (e := (exK ((if sHas F (sc xs (i + 1)) then (if ¬ sNear F (sc xs (i + 1)) = -1 then none else some xNo) else some xIx)) xIx xNo "")) (v := (w32 (if (if ¬ sHas F (sc xs (i + 1)) then (1 : Int) else if F.1 0 < 2 then 2 else 0) = 0 then sNear F (sc xs (i + 1)) else 0))) (off := 1755) dL_law_846 dL_law_847 dL_law_850 dL_law_852 dL_law_857 dL_law_859 dL_law_862 dL_law_863 dL_law_864 dL_law_865 dL_law_867 dL_law_868 dL_law_869 dL_law_874 (by decide) wA_len (by omega) (Eq.trans sS_0 hTE) (fun q => by exfalso; omega) w32_in (kk _ _ _ _ _ _ _ _ _ _ _ _ _ _ _ _ _ _ (SIM_up (SIM_eq hs0 mEq_0) (by omega) hN))
