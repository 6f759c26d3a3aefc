/-! ===== the law: cases ===== -/
set_option maxHeartbeats 1600000 in
theorem LC_setTarget {X : eXT} {a : Nat → Nat} {b b' : Nat × Nat} {bb L : Nat} {xs : Nat → Int32} {i N : Int} {z : Nat → Int} {ln : Int → Int} {F : eFs} {P : Int → Int} {D : eFs} {DQ : Int → Int} {S : eFs} {SP : Int → Int} {c n : Int} {h : eHs} {g rc : Int → Int} {T : eFs} {Mt : Int → Int → Int} {M : eFs} {o : Int → Int} {od : Nat → UInt64} (hX : X.2 = some (bb, L, xs)) (hL : L ≤ 2147483647) (hi : 0 ≤ i ∧ i + 4 ≤ L) (hb : 2 + b'.1 ≤ b.1 ∧ 12 + b'.2 ≤ b.2) (hN : N + 2400 ≤ 90000000) (hs : SIM N z ln F S c n h g rc T Mt M) (kk : lG X a bb (N + 2400) i b') :
    EV (lK X) a b (wA a z ln F P D DQ S SP c n h g rc T Mt [] ++ (wM (fun k => a (131 + k)) M ++ [eJ 1 1 o, eDd 1 od])) 1414 (lLs a bb i) [] := by
  have hs0 := hs
  obtain ⟨⟨hF, hC, hA, hR⟩, -, -, ⟨n1, n2, n3, n4, n5, n6, n7, n8, n9, n10⟩, ⟨l1, l2, l3⟩, ⟨hg, hr⟩, hT, hz, ⟨hw, hw4⟩, hN0⟩ := hs
  have hc9 := hF.1
  have g1 := sc_in (xs := xs) (z := i + 1)
  have g2 := sc_in (xs := xs) (z := i + 2)
  have hTE : mTh (mHC (sHin F 6 (sc xs (i + 1)) (sc xs (i + 2)) 0)) 0 1 0 0 2 = exK (eEx (sHin F 6 (sc xs (i + 1)) (sc xs (i + 2)) 0)) xAr xNo "" := by
    rcases hk_6 (F := F) (p := (sc xs (i + 1))) (q := (sc xs (i + 2))) (r := 0) with w | w | w
    · rw [w]; show (0 : Int) = exK none _ _ _; rfl
    · rw [w]; show (1 : Int) = exK (some xAr) _ _ _; exact (exK_s1 ).symm
    · rw [w]; show (2 : Int) = exK (some xNo) _ _ _; exact (exK_s2 (by decide)).symm
  have hV : mTh (mHC (sHin F 6 (sc xs (i + 1)) (sc xs (i + 2)) 0)) 0 1 0 0 2 = 0 → (if mTh (mHC (sHin F 6 (sc xs (i + 1)) (sc xs (i + 2)) 0)) 0 1 0 0 2 = 0 then sDoR F 6 (sc xs (i + 1)) (sc xs (i + 2)) 0 else 0 : Int) = sDoR F 6 (sc xs (i + 1)) (sc xs (i + 2)) 0 := fun q => if_pos q
  have e0 : eEx (sHin F 6 (sc xs (i + 1)) (sc xs (i + 2)) 0) = none ↔ (sHin F 6 (sc xs (i + 1)) (sc xs (i + 2)) 0) = 0 := by
    rcases hk_6 (F := F) (p := (sc xs (i + 1))) (q := (sc xs (i + 2))) (r := 0) with w | w | w <;> rw [w] <;> decide
  refine e_aload_n (K := lK X) (i := 1) (n := 1415) dL_law_1414 rfl rfl ?_
  refine lArg (k := 1) dL_law_1415 dL_law_1416 dL_law_1418 dL_law_1419 dL_law_1420 hX hL rfl rfl (by omega) ?_
  refine lArg (k := 2) dL_law_1421 dL_law_1422 dL_law_1424 dL_law_1425 dL_law_1426 hX hL rfl rfl (by omega) ?_
  refine e_aload_n (K := lK X) (i := 3) (n := 1428) dL_law_1427 rfl rfl ?_
  refine e_lawW (K := lK X) (b' := b') (n := 1431) lk_L_223 (by decide) dL_law_1428 rfl (W_setTarget hF n1 n2 g1 g2) rfl rfl (Nat.le_of_ble_eq_true rfl) (Nat.le_of_ble_eq_true rfl) (Nat.le_of_ble_eq_true rfl) ⟨hb.1, hb.2⟩ wA_len wA_len wA_len wM_6 (fun he => ?_) (fun he => ?_)
  · refine EV.eq (st' := [vi 0]) (by show [vi (exK (eEx (sHin F 6 (sc xs (i + 1)) (sc xs (i + 2)) 0)) xAr xNo "")] = _; rw [exK_n he]) ?_
    refine f_istore (K := lK X) (n := 1433) dL_law_1431 rfl (Nat.le_of_ble_eq_true rfl) rfl ?_
    refine e_aload_n (K := lK X) (i := 2) (n := 1434) dL_law_1433 rfl rfl ?_
    refine lArg (k := 1) dL_law_1434 dL_law_1435 dL_law_1437 dL_law_1438 dL_law_1439 hX hL rfl rfl (by omega) ?_
    refine lArg (k := 2) dL_law_1440 dL_law_1441 dL_law_1443 dL_law_1444 dL_law_1445 hX hL rfl rfl (by omega) ?_
    refine e_lawP (K := lK X) (n := 1449) (Pr := fun M2 => mPo M M2 F 6 (sc xs (i + 1)) (sc xs (i + 2)) 0 (mTh (mHC (sHin F 6 (sc xs (i + 1)) (sc xs (i + 2)) 0)) 0 1 0 0 2)) lk_L_225 rfl dL_law_1446 rfl (C_X7_setTarget (M := M) hF hR (by omega) (by omega) g1 g2) (fun _ q => q) rfl rfl (Nat.le_of_ble_eq_true rfl) (Nat.le_of_ble_eq_true rfl) (Nat.le_of_ble_eq_true rfl) ⟨rfl, rfl⟩ wA_len rfl rfl (fun M2 m => ?_)
    refine EV.eq (st' := [vi (w32 (sDoR F 6 (sc xs (i + 1)) (sc xs (i + 2)) 0))]) (by show [vi (if mTh (mHC (sHin F 6 (sc xs (i + 1)) (sc xs (i + 2)) 0)) 0 1 0 0 2 = 0 then sDoR F 6 (sc xs (i + 1)) (sc xs (i + 2)) 0 else 0)] = _; rw [hV (hTE.trans (exK_n he))]; exact congrArg (fun v => [v]) w32_v) ?_
    refine f_istore (K := lK X) (n := 1451) dL_law_1449 rfl (Nat.le_of_ble_eq_true rfl) rfl ?_
    exact lTail (bb := bb) (i := i) (e := 0) (v := (w32 (sDoR F 6 (sc xs (i + 1)) (sc xs (i + 2)) 0))) (off := 1150) dL_law_1451 dL_law_1452 dL_law_1455 dL_law_1457 dL_law_1462 dL_law_1464 dL_law_1467 dL_law_1468 dL_law_1469 dL_law_1470 dL_law_1472 dL_law_1473 dL_law_1474 dL_law_1479 (by decide) wA_len (by decide) (m.1.trans (hTE.trans (exK_n he))) (fun _ => eU_self) w32_in (kk _ _ _ _ _ _ _ _ _ _ _ _ _ _ _ _ _ _ (SIM_up ((SIM_chg (by decide) hs0 (by omega) m).1 (e0.mp he)) (by omega) hN))
  · have hx3 := exK_in (e1 := xAr) (e2 := xNo) (e3 := "") he
    refine f_istore (K := lK X) (n := 1433) dL_law_1431 rfl (Nat.le_of_ble_eq_true rfl) rfl ?_
    refine e_aload_n (K := lK X) (i := 2) (n := 1434) dL_law_1433 rfl rfl ?_
    refine lArg (k := 1) dL_law_1434 dL_law_1435 dL_law_1437 dL_law_1438 dL_law_1439 hX hL rfl rfl (by omega) ?_
    refine lArg (k := 2) dL_law_1440 dL_law_1441 dL_law_1443 dL_law_1444 dL_law_1445 hX hL rfl rfl (by omega) ?_
    refine e_lawP (K := lK X) (n := 1449) (Pr := fun M2 => mPo M M2 F 6 (sc xs (i + 1)) (sc xs (i + 2)) 0 (mTh (mHC (sHin F 6 (sc xs (i + 1)) (sc xs (i + 2)) 0)) 0 1 0 0 2)) lk_L_225 rfl dL_law_1446 rfl (C_X7_setTarget (M := M) hF hR (by omega) (by omega) g1 g2) (fun _ q => q) rfl rfl (Nat.le_of_ble_eq_true rfl) (Nat.le_of_ble_eq_true rfl) (Nat.le_of_ble_eq_true rfl) ⟨rfl, rfl⟩ wA_len rfl rfl (fun M2 m => ?_)
    refine EV.eq (st' := [vi (w32 (if mTh (mHC (sHin F 6 (sc xs (i + 1)) (sc xs (i + 2)) 0)) 0 1 0 0 2 = 0 then sDoR F 6 (sc xs (i + 1)) (sc xs (i + 2)) 0 else 0))]) (congrArg (fun v => [v]) w32_v) ?_
    refine f_istore (K := lK X) (n := 1451) dL_law_1449 rfl (Nat.le_of_ble_eq_true rfl) rfl ?_
    exact lTail (bb := bb) (i := i) (e := (exK (eEx (sHin F 6 (sc xs (i + 1)) (sc xs (i + 2)) 0)) xAr xNo "")) (v := (w32 (if mTh (mHC (sHin F 6 (sc xs (i + 1)) (sc xs (i + 2)) 0)) 0 1 0 0 2 = 0 then sDoR F 6 (sc xs (i + 1)) (sc xs (i + 2)) 0 else 0))) (off := 1150) dL_law_1451 dL_law_1452 dL_law_1455 dL_law_1457 dL_law_1462 dL_law_1464 dL_law_1467 dL_law_1468 dL_law_1469 dL_law_1470 dL_law_1472 dL_law_1473 dL_law_1474 dL_law_1479 (by decide) wA_len (by omega) (Eq.trans m.1 hTE) (fun q => by exfalso; omega) w32_in (kk _ _ _ _ _ _ _ _ _ _ _ _ _ _ _ _ _ _ (SIM_up ((SIM_chg (by decide) hs0 (by omega) m).2 (fun q => he (e0.mpr q))) (by omega) hN))
set_option maxHeartbeats 1600000 in
theorem LC_targetX {X : eXT} {a : Nat → Nat} {b b' : Nat × Nat} {bb L : Nat} {xs : Nat → Int32} {i N : Int} {z : Nat → Int} {ln : Int → Int} {F : eFs} {P : Int → Int} {D : eFs} {DQ : Int → Int} {S : eFs} {SP : Int → Int} {c n : Int} {h : eHs} {g rc : Int → Int} {T : eFs} {Mt : Int → Int → Int} {M : eFs} {o : Int → Int} {od : Nat → UInt64} (hX : X.2 = some (bb, L, xs)) (hL : L ≤ 2147483647) (hi : 0 ≤ i ∧ i + 4 ≤ L) (hb : 2 + b'.1 ≤ b.1 ∧ 12 + b'.2 ≤ b.2) (hN : N + 2400 ≤ 90000000) (hs : SIM N z ln F S c n h g rc T Mt M) (kk : lG X a bb (N + 2400) i b') :
    EV (lK X) a b (wA a z ln F P D DQ S SP c n h g rc T Mt [] ++ (wM (fun k => a (131 + k)) M ++ [eJ 1 1 o, eDd 1 od])) 1482 (lLs a bb i) [] := by
  have hs0 := hs
  obtain ⟨⟨hF, hC, hA, hR⟩, -, -, ⟨n1, n2, n3, n4, n5, n6, n7, n8, n9, n10⟩, ⟨l1, l2, l3⟩, ⟨hg, hr⟩, hT, hz, ⟨hw, hw4⟩, hN0⟩ := hs
  have hc9 := hF.1
  have hTE : (if ¬ F.1 4 = -1 then (0 : Int) else 1) = exK ((if ¬ F.1 4 = -1 then none else some xNo)) xNo "" "" := by
    exact exK_i1.symm
  have hV : (if ¬ F.1 4 = -1 then (0 : Int) else 1) = 0 → (if (if ¬ F.1 4 = -1 then (0 : Int) else 1) = 0 then F.1 4 else 0 : Int) = F.1 4 := fun q => if_pos q
  refine e_aload_n (K := lK X) (i := 1) (n := 1483) dL_law_1482 rfl rfl ?_
  refine e_aload_n (K := lK X) (i := 3) (n := 1484) dL_law_1483 rfl rfl ?_
  refine e_lawW (K := lK X) (b' := b') (n := 1487) lk_L_226 (by decide) dL_law_1484 rfl (W_targetX hF) rfl rfl (Nat.le_of_ble_eq_true rfl) (Nat.le_of_ble_eq_true rfl) (Nat.le_of_ble_eq_true rfl) ⟨hb.1, hb.2⟩ wA_len wA_len wA_len wM_6 (fun he => ?_) (fun he => ?_)
  · refine EV.eq (st' := [vi 0]) (by show [vi (exK ((if ¬ F.1 4 = -1 then none else some xNo)) xNo "" "")] = _; rw [exK_n he]) ?_
    refine f_istore (K := lK X) (n := 1489) dL_law_1487 rfl (Nat.le_of_ble_eq_true rfl) rfl ?_
    refine e_aload_n (K := lK X) (i := 2) (n := 1490) dL_law_1489 rfl rfl ?_
    refine e_lawQ (K := lK X) (n := 1493) (M2 := sS M 0 (if ¬ F.1 4 = -1 then (0 : Int) else 1)) lk_L_228 rfl dL_law_1490 rfl (C_X7_targetX (M := M) hF hR ) rfl rfl (Nat.le_of_ble_eq_true rfl) (Nat.le_of_ble_eq_true rfl) (Nat.le_of_ble_eq_true rfl) ⟨rfl, rfl⟩ wA_len rfl rfl ?_
    refine EV.eq (st' := [vi (w32 (F.1 4))]) (by show [vi (if (if ¬ F.1 4 = -1 then (0 : Int) else 1) = 0 then F.1 4 else 0)] = _; rw [hV (hTE.trans (exK_n he))]; exact congrArg (fun v => [v]) w32_v) ?_
    refine f_istore (K := lK X) (n := 1495) dL_law_1493 rfl (Nat.le_of_ble_eq_true rfl) rfl ?_
    exact lTail (bb := bb) (i := i) (e := 0) (v := (w32 (F.1 4))) (off := 1106) dL_law_1495 dL_law_1496 dL_law_1499 dL_law_1501 dL_law_1506 dL_law_1508 dL_law_1511 dL_law_1512 dL_law_1513 dL_law_1514 dL_law_1516 dL_law_1517 dL_law_1518 dL_law_1523 (by decide) wA_len (by decide) (sS_0.trans (hTE.trans (exK_n he))) (fun _ => eU_self) w32_in (kk _ _ _ _ _ _ _ _ _ _ _ _ _ _ _ _ _ _ (SIM_up (SIM_eq hs0 mEq_0) (by omega) hN))
  · have hx3 := exK_in (e1 := xNo) (e2 := "") (e3 := "") he
    refine f_istore (K := lK X) (n := 1489) dL_law_1487 rfl (Nat.le_of_ble_eq_true rfl) rfl ?_
    refine e_aload_n (K := lK X) (i := 2) (n := 1490) dL_law_1489 rfl rfl ?_
    refine e_lawQ (K := lK X) (n := 1493) (M2 := sS M 0 (if ¬ F.1 4 = -1 then (0 : Int) else 1)) lk_L_228 rfl dL_law_1490 rfl (C_X7_targetX (M := M) hF hR ) rfl rfl (Nat.le_of_ble_eq_true rfl) (Nat.le_of_ble_eq_true rfl) (Nat.le_of_ble_eq_true rfl) ⟨rfl, rfl⟩ wA_len rfl rfl ?_
    refine EV.eq (st' := [vi (w32 (if (if ¬ F.1 4 = -1 then (0 : Int) else 1) = 0 then F.1 4 else 0))]) (congrArg (fun v => [v]) w32_v) ?_
    refine f_istore (K := lK X) (n := 1495) dL_law_1493 rfl (Nat.le_of_ble_eq_true rfl) rfl ?_
    exact lTail (bb := bb) (i := i) (e := (exK ((if ¬ F.1 4 = -1 then none else some xNo)) xNo "" "")) (v := (w32 (if (if ¬ F.1 4 = -1 then (0 : Int) else 1) = 0 then F.1 4 else 0))) (off := 1106) dL_law_1495 dL_law_1496 dL_law_1499 dL_law_1501 dL_law_1506 dL_law_1508 dL_law_1511 dL_law_1512 dL_law_1513 dL_law_1514 dL_law_1516 dL_law_1517 dL_law_1518 dL_law_1523 (by decide) wA_len (by omega) (Eq.trans sS_0 hTE) (fun q => by exfalso; omega) w32_in (kk _ _ _ _ _ _ _ _ _ _ _ _ _ _ _ _ _ _ (SIM_up (SIM_eq hs0 mEq_0) (by omega) hN))
set_option maxHeartbeats 1600000 in
theorem LC_targetY {X : eXT} {a : Nat → Nat} {b b' : Nat × Nat} {bb L : Nat} {xs : Nat → Int32} {i N : Int} {z : Nat → Int} {ln : Int → Int} {F : eFs} {P : Int → Int} {D : eFs} {DQ : Int → Int} {S : eFs} {SP : Int → Int} {c n : Int} {h : eHs} {g rc : Int → Int} {T : eFs} {Mt : Int → Int → Int} {M : eFs} {o : Int → Int} {od : Nat → UInt64} (hX : X.2 = some (bb, L, xs)) (hL : L ≤ 2147483647) (hi : 0 ≤ i ∧ i + 4 ≤ L) (hb : 2 + b'.1 ≤ b.1 ∧ 12 + b'.2 ≤ b.2) (hN : N + 2400 ≤ 90000000) (hs : SIM N z ln F S c n h g rc T Mt M) (kk : lG X a bb (N + 2400) i b') :
    EV (lK X) a b (wA a z ln F P D DQ S SP c n h g rc T Mt [] ++ (wM (fun k => a (131 + k)) M ++ [eJ 1 1 o, eDd 1 od])) 1526 (lLs a bb i) [] := by
  have hs0 := hs
  obtain ⟨⟨hF, hC, hA, hR⟩, -, -, ⟨n1, n2, n3, n4, n5, n6, n7, n8, n9, n10⟩, ⟨l1, l2, l3⟩, ⟨hg, hr⟩, hT, hz, ⟨hw, hw4⟩, hN0⟩ := hs
  have hc9 := hF.1
  have hTE : (if ¬ F.1 4 = -1 then (0 : Int) else 1) = exK ((if ¬ F.1 4 = -1 then none else some xNo)) xNo "" "" := by
    exact exK_i1.symm
  have hV : (if ¬ F.1 4 = -1 then (0 : Int) else 1) = 0 → (if (if ¬ F.1 4 = -1 then (0 : Int) else 1) = 0 then F.1 5 else 0 : Int) = F.1 5 := fun q => if_pos q
  refine e_aload_n (K := lK X) (i := 1) (n := 1527) dL_law_1526 rfl rfl ?_
  refine e_aload_n (K := lK X) (i := 3) (n := 1528) dL_law_1527 rfl rfl ?_
  refine e_lawW (K := lK X) (b' := b') (n := 1531) lk_L_229 (by decide) dL_law_1528 rfl (W_targetY hF) rfl rfl (Nat.le_of_ble_eq_true rfl) (Nat.le_of_ble_eq_true rfl) (Nat.le_of_ble_eq_true rfl) ⟨hb.1, hb.2⟩ wA_len wA_len wA_len wM_6 (fun he => ?_) (fun he => ?_)
  · refine EV.eq (st' := [vi 0]) (by show [vi (exK ((if ¬ F.1 4 = -1 then none else some xNo)) xNo "" "")] = _; rw [exK_n he]) ?_
    refine f_istore (K := lK X) (n := 1533) dL_law_1531 rfl (Nat.le_of_ble_eq_true rfl) rfl ?_
    refine e_aload_n (K := lK X) (i := 2) (n := 1534) dL_law_1533 rfl rfl ?_
    refine e_lawQ (K := lK X) (n := 1537) (M2 := sS M 0 (if ¬ F.1 4 = -1 then (0 : Int) else 1)) lk_L_231 rfl dL_law_1534 rfl (C_X7_targetY (M := M) hF hR ) rfl rfl (Nat.le_of_ble_eq_true rfl) (Nat.le_of_ble_eq_true rfl) (Nat.le_of_ble_eq_true rfl) ⟨rfl, rfl⟩ wA_len rfl rfl ?_
    refine EV.eq (st' := [vi (w32 (F.1 5))]) (by show [vi (if (if ¬ F.1 4 = -1 then (0 : Int) else 1) = 0 then F.1 5 else 0)] = _; rw [hV (hTE.trans (exK_n he))]; exact congrArg (fun v => [v]) w32_v) ?_
    refine f_istore (K := lK X) (n := 1539) dL_law_1537 rfl (Nat.le_of_ble_eq_true rfl) rfl ?_
    exact lTail (bb := bb) (i := i) (e := 0) (v := (w32 (F.1 5))) (off := 1062) dL_law_1539 dL_law_1540 dL_law_1543 dL_law_1545 dL_law_1550 dL_law_1552 dL_law_1555 dL_law_1556 dL_law_1557 dL_law_1558 dL_law_1560 dL_law_1561 dL_law_1562 dL_law_1567 (by decide) wA_len (by decide) (sS_0.trans (hTE.trans (exK_n he))) (fun _ => eU_self) w32_in (kk _ _ _ _ _ _ _ _ _ _ _ _ _ _ _ _ _ _ (SIM_up (SIM_eq hs0 mEq_0) (by omega) hN))
  · have hx3 := exK_in (e1 := xNo) (e2 := "") (e3 := "") he
    refine f_istore (K := lK X) (n := 1533) dL_law_1531 rfl (Nat.le_of_ble_eq_true rfl) rfl ?_
    refine e_aload_n (K := lK X) (i := 2) (n := 1534) dL_law_1533 rfl rfl ?_
    refine e_lawQ (K := lK X) (n := 1537) (M2 := sS M 0 (if ¬ F.1 4 = -1 then (0 : Int) else 1)) lk_L_231 rfl dL_law_1534 rfl (C_X7_targetY (M := M) hF hR ) rfl rfl (Nat.le_of_ble_eq_true rfl) (Nat.le_of_ble_eq_true rfl) (Nat.le_of_ble_eq_true rfl) ⟨rfl, rfl⟩ wA_len rfl rfl ?_
    refine EV.eq (st' := [vi (w32 (if (if ¬ F.1 4 = -1 then (0 : Int) else 1) = 0 then F.1 5 else 0))]) (congrArg (fun v => [v]) w32_v) ?_
    refine f_istore (K := lK X) (n := 1539) dL_law_1537 rfl (Nat.le_of_ble_eq_true rfl) rfl ?_
    exact lTail (bb := bb) (i := i) (e := (exK ((if ¬ F.1 4 = -1 then none else some xNo)) xNo "" "")) (v := (w32 (if (if ¬ F.1 4 = -1 then (0 : Int) else 1) = 0 then F.1 5 else 0))) (off := 1062) dL_law_1539 dL_law_1540 dL_law_1543 dL_law_1545 dL_law_1550 dL_law_1552 dL_law_1555 dL_law_1556 dL_law_1557 dL_law_1558 dL_law_1560 dL_law_1561 dL_law_1562 dL_law_1567 (by decide) wA_len (by omega) (Eq.trans sS_0 hTE) (fun q => by exfalso; omega) w32_in (kk _ _ _ _ _ _ _ _ _ _ _ _ _ _ _ _ _ _ (SIM_up (SIM_eq hs0 mEq_0) (by omega) hN))
set_option maxHeartbeats 1600000 in
theorem LC_stepsToTarget {X : eXT} {a : Nat → Nat} {b b' : Nat × Nat} {bb L : Nat} {xs : Nat → Int32} {i N : Int} {z : Nat → Int} {ln : Int → Int} {F : eFs} {P : Int → Int} {D : eFs} {DQ : Int → Int} {S : eFs} {SP : Int → Int} {c n : Int} {h : eHs} {g rc : Int → Int} {T : eFs} {Mt : Int → Int → Int} {M : eFs} {o : Int → Int} {od : Nat → UInt64} (hX : X.2 = some (bb, L, xs)) (hL : L ≤ 2147483647) (hi : 0 ≤ i ∧ i + 4 ≤ L) (hb : 2 + b'.1 ≤ b.1 ∧ 12 + b'.2 ≤ b.2) (hN : N + 2400 ≤ 90000000) (hs : SIM N z ln F S c n h g rc T Mt M) (kk : lG X a bb (N + 2400) i b') :
    EV (lK X) a b (wA a z ln F P D DQ S SP c n h g rc T Mt [] ++ (wM (fun k => a (131 + k)) M ++ [eJ 1 1 o, eDd 1 od])) 1570 (lLs a bb i) [] := by
  have hs0 := hs
  obtain ⟨⟨hF, hC, hA, hR⟩, -, -, ⟨n1, n2, n3, n4, n5, n6, n7, n8, n9, n10⟩, ⟨l1, l2, l3⟩, ⟨hg, hr⟩, hT, hz, ⟨hw, hw4⟩, hN0⟩ := hs
  have hc9 := hF.1
  have hTE : (mTT F : Int) = exK ((if ¬ F.1 4 = -1 then (if sHit (sTT F DQ).2.1 then none else some xNo) else some xNo)) xNo "" "" := by
    have w := sTT_P F P0 DQ
    unfold mTT
    by_cases q : ¬ F.1 4 = -1
    · rw [if_pos q, if_pos q]
      by_cases r : sHit (sTT F P0).2.1
      · rw [if_pos r, if_pos (by rw [← w.2]; exact r)]; rfl
      · rw [if_neg r, if_neg (by rw [← w.2]; exact r)]; exact exK_s1.symm
    · rw [if_neg q, if_neg q]; exact exK_s1.symm
  have hV : (mTT F : Int) = 0 → (if (mTT F : Int) = 0 then (sTT F P0).1 else 0 : Int) = (sTT F DQ).1 := fun q => (if_pos q).trans (sTT_P F P0 DQ).1
  refine e_aload_n (K := lK X) (i := 1) (n := 1571) dL_law_1570 rfl rfl ?_
  refine e_aload_n (K := lK X) (i := 3) (n := 1572) dL_law_1571 rfl rfl ?_
  refine e_lawW (K := lK X) (b' := b') (n := 1575) lk_L_232 (by decide) dL_law_1572 rfl (W_stepsToTarget hF (by omega)) rfl rfl (Nat.le_of_ble_eq_true rfl) (Nat.le_of_ble_eq_true rfl) (Nat.le_of_ble_eq_true rfl) ⟨hb.1, hb.2⟩ wA_len wA_len wA_len wM_6 (fun he => ?_) (fun he => ?_)
  · refine EV.eq (st' := [vi 0]) (by show [vi (exK ((if ¬ F.1 4 = -1 then (if sHit (sTT F DQ).2.1 then none else some xNo) else some xNo)) xNo "" "")] = _; rw [exK_n he]) ?_
    refine f_istore (K := lK X) (n := 1577) dL_law_1575 rfl (Nat.le_of_ble_eq_true rfl) rfl ?_
    refine e_aload_n (K := lK X) (i := 2) (n := 1578) dL_law_1577 rfl rfl ?_
    refine e_lawP (K := lK X) (n := 1581) (Pr := fun M2 => mSp M M2 (mTT F : Int)) lk_L_234 rfl dL_law_1578 rfl (C_X7_stepsToTarget (M := M) hF hR (by omega)) (fun _ q => q) rfl rfl (Nat.le_of_ble_eq_true rfl) (Nat.le_of_ble_eq_true rfl) (Nat.le_of_ble_eq_true rfl) ⟨rfl, rfl⟩ wA_len rfl rfl (fun M2 m => ?_)
    refine EV.eq (st' := [vi (w32 ((sTT F DQ).1))]) (by show [vi (if (mTT F : Int) = 0 then (sTT F P0).1 else 0)] = _; rw [hV (hTE.trans (exK_n he))]; exact congrArg (fun v => [v]) w32_v) ?_
    refine f_istore (K := lK X) (n := 1583) dL_law_1581 rfl (Nat.le_of_ble_eq_true rfl) rfl ?_
    exact lTail (bb := bb) (i := i) (e := 0) (v := (w32 ((sTT F DQ).1))) (off := 1018) dL_law_1583 dL_law_1584 dL_law_1587 dL_law_1589 dL_law_1594 dL_law_1596 dL_law_1599 dL_law_1600 dL_law_1601 dL_law_1602 dL_law_1604 dL_law_1605 dL_law_1606 dL_law_1611 (by decide) wA_len (by decide) (m.1.trans (hTE.trans (exK_n he))) (fun _ => eU_self) w32_in (kk _ _ _ _ _ _ _ _ _ _ _ _ _ _ _ _ _ _ (SIM_up (SIM_eq hs0 ⟨fun j h0 _ _ _ _ => m.2.1 j h0, m.2.2.1.1, m.2.2.1.2.2, fun j j0 j1 => m.2.2.2 j j0 (by omega)⟩) (by omega) hN))
  · have hx3 := exK_in (e1 := xNo) (e2 := "") (e3 := "") he
    refine f_istore (K := lK X) (n := 1577) dL_law_1575 rfl (Nat.le_of_ble_eq_true rfl) rfl ?_
    refine e_aload_n (K := lK X) (i := 2) (n := 1578) dL_law_1577 rfl rfl ?_
    refine e_lawP (K := lK X) (n := 1581) (Pr := fun M2 => mSp M M2 (mTT F : Int)) lk_L_234 rfl dL_law_1578 rfl (C_X7_stepsToTarget (M := M) hF hR (by omega)) (fun _ q => q) rfl rfl (Nat.le_of_ble_eq_true rfl) (Nat.le_of_ble_eq_true rfl) (Nat.le_of_ble_eq_true rfl) ⟨rfl, rfl⟩ wA_len rfl rfl (fun M2 m => ?_)
    refine EV.eq (st' := [vi (w32 (if (mTT F : Int) = 0 then (sTT F P0).1 else 0))]) (congrArg (fun v => [v]) w32_v) ?_
    refine f_istore (K := lK X) (n := 1583) dL_law_1581 rfl (Nat.le_of_ble_eq_true rfl) rfl ?_
    exact lTail (bb := bb) (i := i) (e := (exK ((if ¬ F.1 4 = -1 then (if sHit (sTT F DQ).2.1 then none else some xNo) else some xNo)) xNo "" "")) (v := (w32 (if (mTT F : Int) = 0 then (sTT F P0).1 else 0))) (off := 1018) dL_law_1583 dL_law_1584 dL_law_1587 dL_law_1589 dL_law_1594 dL_law_1596 dL_law_1599 dL_law_1600 dL_law_1601 dL_law_1602 dL_law_1604 dL_law_1605 dL_law_1606 dL_law_1611 (by decide) wA_len (by omega) (Eq.trans m.1 hTE) (fun q => by exfalso; omega) w32_in (kk _ _ _ _ _ _ _ _ _ _ _ _ _ _ _ _ _ _ (SIM_up (SIM_eq hs0 ⟨fun j h0 _ _ _ _ => m.2.1 j h0, m.2.2.1.1, m.2.2.1.2.2, fun j j0 j1 => m.2.2.2 j j0 (by omega)⟩) (by omega) hN))
set_option maxHeartbeats 1600000 in
theorem LC_setKeep {X : eXT} {a : Nat → Nat} {b b' : Nat × Nat} {bb L : Nat} {xs : Nat → Int32} {i N : Int} {z : Nat → Int} {ln : Int → Int} {F : eFs} {P : Int → Int} {D : eFs} {DQ : Int → Int} {S : eFs} {SP : Int → Int} {c n : Int} {h : eHs} {g rc : Int → Int} {T : eFs} {Mt : Int → Int → Int} {M : eFs} {o : Int → Int} {od : Nat → UInt64} (hX : X.2 = some (bb, L, xs)) (hL : L ≤ 2147483647) (hi : 0 ≤ i ∧ i + 4 ≤ L) (hb : 2 + b'.1 ≤ b.1 ∧ 12 + b'.2 ≤ b.2) (hN : N + 2400 ≤ 90000000) (hs : SIM N z ln F S c n h g rc T Mt M) (kk : lG X a bb (N + 2400) i b') :
    EV (lK X) a b (wA a z ln F P D DQ S SP c n h g rc T Mt [] ++ (wM (fun k => a (131 + k)) M ++ [eJ 1 1 o, eDd 1 od])) 1614 (lLs a bb i) [] := by
  have hs0 := hs
  obtain ⟨⟨hF, hC, hA, hR⟩, -, -, ⟨n1, n2, n3, n4, n5, n6, n7, n8, n9, n10⟩, ⟨l1, l2, l3⟩, ⟨hg, hr⟩, hT, hz, ⟨hw, hw4⟩, hN0⟩ := hs
  have hc9 := hF.1
  have g1 := sc_in (xs := xs) (z := i + 1)
  have hTE : mTh (mHC (sHin F 7 (sc xs (i + 1)) 0 0)) 0 1 0 0 0 = exK (eEx (sHin F 7 (sc xs (i + 1)) 0 0)) xAr "" "" := by
    rcases hk_7 (F := F) (p := (sc xs (i + 1))) (q := 0) (r := 0) with w | w
    · rw [w]; show (0 : Int) = exK none _ _ _; rfl
    · rw [w]; show (1 : Int) = exK (some xAr) _ _ _; exact (exK_s1 ).symm
  have hV : mTh (mHC (sHin F 7 (sc xs (i + 1)) 0 0)) 0 1 0 0 0 = 0 → (if mTh (mHC (sHin F 7 (sc xs (i + 1)) 0 0)) 0 1 0 0 0 = 0 then sDoR F 7 (sc xs (i + 1)) 0 0 else 0 : Int) = sDoR F 7 (sc xs (i + 1)) 0 0 := fun q => if_pos q
  have e0 : eEx (sHin F 7 (sc xs (i + 1)) 0 0) = none ↔ (sHin F 7 (sc xs (i + 1)) 0 0) = 0 := by
    rcases hk_7 (F := F) (p := (sc xs (i + 1))) (q := 0) (r := 0) with w | w <;> rw [w] <;> decide
  refine e_aload_n (K := lK X) (i := 1) (n := 1615) dL_law_1614 rfl rfl ?_
  refine lArg (k := 1) dL_law_1615 dL_law_1616 dL_law_1618 dL_law_1619 dL_law_1620 hX hL rfl rfl (by omega) ?_
  refine e_aload_n (K := lK X) (i := 3) (n := 1622) dL_law_1621 rfl rfl ?_
  refine e_lawW (K := lK X) (b' := b') (n := 1625) lk_L_235 (by decide) dL_law_1622 rfl (W_setKeep hF n1 n2 g1) rfl rfl (Nat.le_of_ble_eq_true rfl) (Nat.le_of_ble_eq_true rfl) (Nat.le_of_ble_eq_true rfl) ⟨hb.1, hb.2⟩ wA_len wA_len wA_len wM_6 (fun he => ?_) (fun he => ?_)
  · refine EV.eq (st' := [vi 0]) (by show [vi (exK (eEx (sHin F 7 (sc xs (i + 1)) 0 0)) xAr "" "")] = _; rw [exK_n he]) ?_
    refine f_istore (K := lK X) (n := 1627) dL_law_1625 rfl (Nat.le_of_ble_eq_true rfl) rfl ?_
    refine e_aload_n (K := lK X) (i := 2) (n := 1628) dL_law_1627 rfl rfl ?_
    refine lArg (k := 1) dL_law_1628 dL_law_1629 dL_law_1631 dL_law_1632 dL_law_1633 hX hL rfl rfl (by omega) ?_
    refine e_lawP (K := lK X) (n := 1637) (Pr := fun M2 => mPo M M2 F 7 (sc xs (i + 1)) 0 0 (mTh (mHC (sHin F 7 (sc xs (i + 1)) 0 0)) 0 1 0 0 0)) lk_L_237 rfl dL_law_1634 rfl (C_X7_setKeep (M := M) hF hR (by omega) (by omega) g1) (fun _ q => q) rfl rfl (Nat.le_of_ble_eq_true rfl) (Nat.le_of_ble_eq_true rfl) (Nat.le_of_ble_eq_true rfl) ⟨rfl, rfl⟩ wA_len rfl rfl (fun M2 m => ?_)
    refine EV.eq (st' := [vi (w32 (sDoR F 7 (sc xs (i + 1)) 0 0))]) (by show [vi (if mTh (mHC (sHin F 7 (sc xs (i + 1)) 0 0)) 0 1 0 0 0 = 0 then sDoR F 7 (sc xs (i + 1)) 0 0 else 0)] = _; rw [hV (hTE.trans (exK_n he))]; exact congrArg (fun v => [v]) w32_v) ?_
    refine f_istore (K := lK X) (n := 1639) dL_law_1637 rfl (Nat.le_of_ble_eq_true rfl) rfl ?_
    exact lTail (bb := bb) (i := i) (e := 0) (v := (w32 (sDoR F 7 (sc xs (i + 1)) 0 0))) (off := 962) dL_law_1639 dL_law_1640 dL_law_1643 dL_law_1645 dL_law_1650 dL_law_1652 dL_law_1655 dL_law_1656 dL_law_1657 dL_law_1658 dL_law_1660 dL_law_1661 dL_law_1662 dL_law_1667 (by decide) wA_len (by decide) (m.1.trans (hTE.trans (exK_n he))) (fun _ => eU_self) w32_in (kk _ _ _ _ _ _ _ _ _ _ _ _ _ _ _ _ _ _ (SIM_up ((SIM_chg (by decide) hs0 (by omega) m).1 (e0.mp he)) (by omega) hN))
  · have hx3 := exK_in (e1 := xAr) (e2 := "") (e3 := "") he
    refine f_istore (K := lK X) (n := 1627) dL_law_1625 rfl (Nat.le_of_ble_eq_true rfl) rfl ?_
    refine e_aload_n (K := lK X) (i := 2) (n := 1628) dL_law_1627 rfl rfl ?_
    refine lArg (k := 1) dL_law_1628 dL_law_1629 dL_law_1631 dL_law_1632 dL_law_1633 hX hL rfl rfl (by omega) ?_
    refine e_lawP (K := lK X) (n := 1637) (Pr := fun M2 => mPo M M2 F 7 (sc xs (i + 1)) 0 0 (mTh (mHC (sHin F 7 (sc xs (i + 1)) 0 0)) 0 1 0 0 0)) lk_L_237 rfl dL_law_1634 rfl (C_X7_setKeep (M := M) hF hR (by omega) (by omega) g1) (fun _ q => q) rfl rfl (Nat.le_of_ble_eq_true rfl) (Nat.le_of_ble_eq_true rfl) (Nat.le_of_ble_eq_true rfl) ⟨rfl, rfl⟩ wA_len rfl rfl (fun M2 m => ?_)
    refine EV.eq (st' := [vi (w32 (if mTh (mHC (sHin F 7 (sc xs (i + 1)) 0 0)) 0 1 0 0 0 = 0 then sDoR F 7 (sc xs (i + 1)) 0 0 else 0))]) (congrArg (fun v => [v]) w32_v) ?_
    refine f_istore (K := lK X) (n := 1639) dL_law_1637 rfl (Nat.le_of_ble_eq_true rfl) rfl ?_
    exact lTail (bb := bb) (i := i) (e := (exK (eEx (sHin F 7 (sc xs (i + 1)) 0 0)) xAr "" "")) (v := (w32 (if mTh (mHC (sHin F 7 (sc xs (i + 1)) 0 0)) 0 1 0 0 0 = 0 then sDoR F 7 (sc xs (i + 1)) 0 0 else 0))) (off := 962) dL_law_1639 dL_law_1640 dL_law_1643 dL_law_1645 dL_law_1650 dL_law_1652 dL_law_1655 dL_law_1656 dL_law_1657 dL_law_1658 dL_law_1660 dL_law_1661 dL_law_1662 dL_law_1667 (by decide) wA_len (by omega) (Eq.trans m.1 hTE) (fun q => by exfalso; omega) w32_in (kk _ _ _ _ _ _ _ _ _ _ _ _ _ _ _ _ _ _ (SIM_up ((SIM_chg (by decide) hs0 (by omega) m).2 (fun q => he (e0.mpr q))) (by omega) hN))
set_option maxHeartbeats 1600000 in
theorem LC_advance {X : eXT} {a : Nat → Nat} {b b' : Nat × Nat} {bb L : Nat} {xs : Nat → Int32} {i N : Int} {z : Nat → Int} {ln : Int → Int} {F : eFs} {P : Int → Int} {D : eFs} {DQ : Int → Int} {S : eFs} {SP : Int → Int} {c n : Int} {h : eHs} {g rc : Int → Int} {T : eFs} {Mt : Int → Int → Int} {M : eFs} {o : Int → Int} {od : Nat → UInt64} (hX : X.2 = some (bb, L, xs)) (hL : L ≤ 2147483647) (hi : 0 ≤ i ∧ i + 4 ≤ L) (hb : 2 + b'.1 ≤ b.1 ∧ 12 + b'.2 ≤ b.2) (hN : N + 2400 ≤ 90000000) (hs : SIM N z ln F S c n h g rc T Mt M) (kk : lG X a bb (N + 2400) i b') :
    EV (lK X) a b (wA a z ln F P D DQ S SP c n h g rc T Mt [] ++ (wM (fun k => a (131 + k)) M ++ [eJ 1 1 o, eDd 1 od])) 1683 (lLs a bb i) [] := by
  have hs0 := hs
  obtain ⟨⟨hF, hC, hA, hR⟩, -, -, ⟨n1, n2, n3, n4, n5, n6, n7, n8, n9, n10⟩, ⟨l1, l2, l3⟩, ⟨hg, hr⟩, hT, hz, ⟨hw, hw4⟩, hN0⟩ := hs
  have hc9 := hF.1
  have g1 := sc_in (xs := xs) (z := i + 1)
  have hTE : mTh (mHC (sHin F 8 (sc xs (i + 1)) 0 0)) 0 1 0 0 0 = exK (eEx (sHin F 8 (sc xs (i + 1)) 0 0)) xAr "" "" := by
    rcases hk_8 (F := F) (p := (sc xs (i + 1))) (q := 0) (r := 0) with w | w
    · rw [w]; show (0 : Int) = exK none _ _ _; rfl
    · rw [w]; show (1 : Int) = exK (some xAr) _ _ _; exact (exK_s1 ).symm
  have hV : mTh (mHC (sHin F 8 (sc xs (i + 1)) 0 0)) 0 1 0 0 0 = 0 → (if mTh (mHC (sHin F 8 (sc xs (i + 1)) 0 0)) 0 1 0 0 0 = 0 then sDoR F 8 (sc xs (i + 1)) 0 0 else 0 : Int) = sDoR F 8 (sc xs (i + 1)) 0 0 := fun q => if_pos q
  have e0 : eEx (sHin F 8 (sc xs (i + 1)) 0 0) = none ↔ (sHin F 8 (sc xs (i + 1)) 0 0) = 0 := by
    rcases hk_8 (F := F) (p := (sc xs (i + 1))) (q := 0) (r := 0) with w | w <;> rw [w] <;> decide
  refine e_aload_n (K := lK X) (i := 1) (n := 1684) dL_law_1683 rfl rfl ?_
  refine lArg (k := 1) dL_law_1684 dL_law_1685 dL_law_1687 dL_law_1688 dL_law_1689 hX hL rfl rfl (by omega) ?_
  refine e_aload_n (K := lK X) (i := 3) (n := 1691) dL_law_1690 rfl rfl ?_
  refine e_lawW (K := lK X) (b' := b') (n := 1694) lk_L_242 (by decide) dL_law_1691 rfl (W_advance hF n1 n2 (by omega) g1) rfl rfl (Nat.le_of_ble_eq_true rfl) (Nat.le_of_ble_eq_true rfl) (Nat.le_of_ble_eq_true rfl) ⟨hb.1, hb.2⟩ wA_len wA_len wA_len wM_6 (fun he => ?_) (fun he => ?_)
  · refine EV.eq (st' := [vi 0]) (by show [vi (exK (eEx (sHin F 8 (sc xs (i + 1)) 0 0)) xAr "" "")] = _; rw [exK_n he]) ?_
    refine f_istore (K := lK X) (n := 1696) dL_law_1694 rfl (Nat.le_of_ble_eq_true rfl) rfl ?_
    refine e_aload_n (K := lK X) (i := 2) (n := 1697) dL_law_1696 rfl rfl ?_
    refine lArg (k := 1) dL_law_1697 dL_law_1698 dL_law_1700 dL_law_1701 dL_law_1702 hX hL rfl rfl (by omega) ?_
    refine e_lawP (K := lK X) (n := 1706) (Pr := fun M2 => mPo M M2 F 8 (sc xs (i + 1)) 0 0 (mTh (mHC (sHin F 8 (sc xs (i + 1)) 0 0)) 0 1 0 0 0)) lk_L_244 rfl dL_law_1703 rfl (C_X7_advance (M := M) hF hR (by omega) (by omega) g1) (fun _ q => q) rfl rfl (Nat.le_of_ble_eq_true rfl) (Nat.le_of_ble_eq_true rfl) (Nat.le_of_ble_eq_true rfl) ⟨rfl, rfl⟩ wA_len rfl rfl (fun M2 m => ?_)
    refine EV.eq (st' := [vi (w32 (sDoR F 8 (sc xs (i + 1)) 0 0))]) (by show [vi (if mTh (mHC (sHin F 8 (sc xs (i + 1)) 0 0)) 0 1 0 0 0 = 0 then sDoR F 8 (sc xs (i + 1)) 0 0 else 0)] = _; rw [hV (hTE.trans (exK_n he))]; exact congrArg (fun v => [v]) w32_v) ?_
    refine f_istore (K := lK X) (n := 1708) dL_law_1706 rfl (Nat.le_of_ble_eq_true rfl) rfl ?_
    exact lTail (bb := bb) (i := i) (e := 0) (v := (w32 (sDoR F 8 (sc xs (i + 1)) 0 0))) (off := 893) dL_law_1708 dL_law_1709 dL_law_1712 dL_law_1714 dL_law_1719 dL_law_1721 dL_law_1724 dL_law_1725 dL_law_1726 dL_law_1727 dL_law_1729 dL_law_1730 dL_law_1731 dL_law_1736 (by decide) wA_len (by decide) (m.1.trans (hTE.trans (exK_n he))) (fun _ => eU_self) w32_in (kk _ _ _ _ _ _ _ _ _ _ _ _ _ _ _ _ _ _ (SIM_up ((SIM_chg (by decide) hs0 (by omega) m).1 (e0.mp he)) (by omega) hN))
  · have hx3 := exK_in (e1 := xAr) (e2 := "") (e3 := "") he
    refine f_istore (K := lK X) (n := 1696) dL_law_1694 rfl (Nat.le_of_ble_eq_true rfl) rfl ?_
    refine e_aload_n (K := lK X) (i := 2) (n := 1697) dL_law_1696 rfl rfl ?_
    refine lArg (k := 1) dL_law_1697 dL_law_1698 dL_law_1700 dL_law_1701 dL_law_1702 hX hL rfl rfl (by omega) ?_
    refine e_lawP (K := lK X) (n := 1706) (Pr := fun M2 => mPo M M2 F 8 (sc xs (i + 1)) 0 0 (mTh (mHC (sHin F 8 (sc xs (i + 1)) 0 0)) 0 1 0 0 0)) lk_L_244 rfl dL_law_1703 rfl (C_X7_advance (M := M) hF hR (by omega) (by omega) g1) (fun _ q => q) rfl rfl (Nat.le_of_ble_eq_true rfl) (Nat.le_of_ble_eq_true rfl) (Nat.le_of_ble_eq_true rfl) ⟨rfl, rfl⟩ wA_len rfl rfl (fun M2 m => ?_)
    refine EV.eq (st' := [vi (w32 (if mTh (mHC (sHin F 8 (sc xs (i + 1)) 0 0)) 0 1 0 0 0 = 0 then sDoR F 8 (sc xs (i + 1)) 0 0 else 0))]) (congrArg (fun v => [v]) w32_v) ?_
    refine f_istore (K := lK X) (n := 1708) dL_law_1706 rfl (Nat.le_of_ble_eq_true rfl) rfl ?_
    exact lTail (bb := bb) (i := i) (e := (exK (eEx (sHin F 8 (sc xs (i + 1)) 0 0)) xAr "" "")) (v := (w32 (if mTh (mHC (sHin F 8 (sc xs (i + 1)) 0 0)) 0 1 0 0 0 = 0 then sDoR F 8 (sc xs (i + 1)) 0 0 else 0))) (off := 893) dL_law_1708 dL_law_1709 dL_law_1712 dL_law_1714 dL_law_1719 dL_law_1721 dL_law_1724 dL_law_1725 dL_law_1726 dL_law_1727 dL_law_1729 dL_law_1730 dL_law_1731 dL_law_1736 (by decide) wA_len (by omega) (Eq.trans m.1 hTE) (fun q => by exfalso; omega) w32_in (kk _ _ _ _ _ _ _ _ _ _ _ _ _ _ _ _ _ _ (SIM_up ((SIM_chg (by decide) hs0 (by omega) m).2 (fun q => he (e0.mpr q))) (by omega) hN))
set_option maxHeartbeats 1600000 in
theorem LC_movesOf {X : eXT} {a : Nat → Nat} {b b' : Nat × Nat} {bb L : Nat} {xs : Nat → Int32} {i N : Int} {z : Nat → Int} {ln : Int → Int} {F : eFs} {P : Int → Int} {D : eFs} {DQ : Int → Int} {S : eFs} {SP : Int → Int} {c n : Int} {h : eHs} {g rc : Int → Int} {T : eFs} {Mt : Int → Int → Int} {M : eFs} {o : Int → Int} {od : Nat → UInt64} (hX : X.2 = some (bb, L, xs)) (hL : L ≤ 2147483647) (hi : 0 ≤ i ∧ i + 4 ≤ L) (hb : 2 + b'.1 ≤ b.1 ∧ 12 + b'.2 ≤ b.2) (hN : N + 2400 ≤ 90000000) (hs : SIM N z ln F S c n h g rc T Mt M) (kk : lG X a bb (N + 2400) i b') :
    EV (lK X) a b (wA a z ln F P D DQ S SP c n h g rc T Mt [] ++ (wM (fun k => a (131 + k)) M ++ [eJ 1 1 o, eDd 1 od])) 1752 (lLs a bb i) [] := by
  have hs0 := hs
  obtain ⟨⟨hF, hC, hA, hR⟩, -, -, ⟨n1, n2, n3, n4, n5, n6, n7, n8, n9, n10⟩, ⟨l1, l2, l3⟩, ⟨hg, hr⟩, hT, hz, ⟨hw, hw4⟩, hN0⟩ := hs
  have hc9 := hF.1
  have g1 := sc_in (xs := xs) (z := i + 1)
  have hTE : (if sHas F (sc xs (i + 1)) then (0 : Int) else 1) = exK ((if sHas F (sc xs (i + 1)) then none else some xIx)) xIx "" "" := by
    exact exK_i1.symm
  have hV : (if sHas F (sc xs (i + 1)) then (0 : Int) else 1) = 0 → (if (if sHas F (sc xs (i + 1)) then (0 : Int) else 1) = 0 then F.2 3 (sc xs (i + 1)) else 0 : Int) = F.2 3 (sc xs (i + 1)) := fun q => if_pos q
  refine e_aload_n (K := lK X) (i := 1) (n := 1753) dL_law_1752 rfl rfl ?_
  refine lArg (k := 1) dL_law_1753 dL_law_1754 dL_law_1756 dL_law_1757 dL_law_1758 hX hL rfl rfl (by omega) ?_
  refine e_aload_n (K := lK X) (i := 3) (n := 1760) dL_law_1759 rfl rfl ?_
  refine e_lawW (K := lK X) (b' := b') (n := 1763) lk_L_249 (by decide) dL_law_1760 rfl (W_movesOf hF g1) rfl rfl (Nat.le_of_ble_eq_true rfl) (Nat.le_of_ble_eq_true rfl) (Nat.le_of_ble_eq_true rfl) ⟨hb.1, hb.2⟩ wA_len wA_len wA_len wM_6 (fun he => ?_) (fun he => ?_)
  · refine EV.eq (st' := [vi 0]) (by show [vi (exK ((if sHas F (sc xs (i + 1)) then none else some xIx)) xIx "" "")] = _; rw [exK_n he]) ?_
    refine f_istore (K := lK X) (n := 1765) dL_law_1763 rfl (Nat.le_of_ble_eq_true rfl) rfl ?_
    refine e_aload_n (K := lK X) (i := 2) (n := 1766) dL_law_1765 rfl rfl ?_
    refine lArg (k := 1) dL_law_1766 dL_law_1767 dL_law_1769 dL_law_1770 dL_law_1771 hX hL rfl rfl (by omega) ?_
    refine e_lawQ (K := lK X) (n := 1775) (M2 := sS M 0 (if sHas F (sc xs (i + 1)) then (0 : Int) else 1)) lk_L_251 rfl dL_law_1772 rfl (C_X7_movesOf (M := M) hF hR g1) rfl rfl (Nat.le_of_ble_eq_true rfl) (Nat.le_of_ble_eq_true rfl) (Nat.le_of_ble_eq_true rfl) ⟨rfl, rfl⟩ wA_len rfl rfl ?_
    refine EV.eq (st' := [vi (w32 (F.2 3 (sc xs (i + 1))))]) (by show [vi (if (if sHas F (sc xs (i + 1)) then (0 : Int) else 1) = 0 then F.2 3 (sc xs (i + 1)) else 0)] = _; rw [hV (hTE.trans (exK_n he))]; exact congrArg (fun v => [v]) w32_v) ?_
    refine f_istore (K := lK X) (n := 1777) dL_law_1775 rfl (Nat.le_of_ble_eq_true rfl) rfl ?_
    exact lTail (bb := bb) (i := i) (e := 0) (v := (w32 (F.2 3 (sc xs (i + 1))))) (off := 824) dL_law_1777 dL_law_1778 dL_law_1781 dL_law_1783 dL_law_1788 dL_law_1790 dL_law_1793 dL_law_1794 dL_law_1795 dL_law_1796 dL_law_1798 dL_law_1799 dL_law_1800 dL_law_1805 (by decide) wA_len (by decide) (sS_0.trans (hTE.trans (exK_n he))) (fun _ => eU_self) w32_in (kk _ _ _ _ _ _ _ _ _ _ _ _ _ _ _ _ _ _ (SIM_up (SIM_eq hs0 mEq_0) (by omega) hN))
  · have hx3 := exK_in (e1 := xIx) (e2 := "") (e3 := "") he
    refine f_istore (K := lK X) (n := 1765) dL_law_1763 rfl (Nat.le_of_ble_eq_true rfl) rfl ?_
    refine e_aload_n (K := lK X) (i := 2) (n := 1766) dL_law_1765 rfl rfl ?_
    refine lArg (k := 1) dL_law_1766 dL_law_1767 dL_law_1769 dL_law_1770 dL_law_1771 hX hL rfl rfl (by omega) ?_
    refine e_lawQ (K := lK X) (n := 1775) (M2 := sS M 0 (if sHas F (sc xs (i + 1)) then (0 : Int) else 1)) lk_L_251 rfl dL_law_1772 rfl (C_X7_movesOf (M := M) hF hR g1) rfl rfl (Nat.le_of_ble_eq_true rfl) (Nat.le_of_ble_eq_true rfl) (Nat.le_of_ble_eq_true rfl) ⟨rfl, rfl⟩ wA_len rfl rfl ?_
    refine EV.eq (st' := [vi (w32 (if (if sHas F (sc xs (i + 1)) then (0 : Int) else 1) = 0 then F.2 3 (sc xs (i + 1)) else 0))]) (congrArg (fun v => [v]) w32_v) ?_
    refine f_istore (K := lK X) (n := 1777) dL_law_1775 rfl (Nat.le_of_ble_eq_true rfl) rfl ?_
    exact lTail (bb := bb) (i := i) (e := (exK ((if sHas F (sc xs (i + 1)) then none else some xIx)) xIx "" "")) (v := (w32 (if (if sHas F (sc xs (i + 1)) then (0 : Int) else 1) = 0 then F.2 3 (sc xs (i + 1)) else 0))) (off := 824) dL_law_1777 dL_law_1778 dL_law_1781 dL_law_1783 dL_law_1788 dL_law_1790 dL_law_1793 dL_law_1794 dL_law_1795 dL_law_1796 dL_law_1798 dL_law_1799 dL_law_1800 dL_law_1805 (by decide) wA_len (by omega) (Eq.trans sS_0 hTE) (fun q => by exfalso; omega) w32_in (kk _ _ _ _ _ _ _ _ _ _ _ _ _ _ _ _ _ _ (SIM_up (SIM_eq hs0 mEq_0) (by omega) hN))
set_option maxHeartbeats 1600000 in
theorem LC_stepsSinceShape {X : eXT} {a : Nat → Nat} {b b' : Nat × Nat} {bb L : Nat} {xs : Nat → Int32} {i N : Int} {z : Nat → Int} {ln : Int → Int} {F : eFs} {P : Int → Int} {D : eFs} {DQ : Int → Int} {S : eFs} {SP : Int → Int} {c n : Int} {h : eHs} {g rc : Int → Int} {T : eFs} {Mt : Int → Int → Int} {M : eFs} {o : Int → Int} {od : Nat → UInt64} (hX : X.2 = some (bb, L, xs)) (hL : L ≤ 2147483647) (hi : 0 ≤ i ∧ i + 4 ≤ L) (hb : 2 + b'.1 ≤ b.1 ∧ 12 + b'.2 ≤ b.2) (hN : N + 2400 ≤ 90000000) (hs : SIM N z ln F S c n h g rc T Mt M) (kk : lG X a bb (N + 2400) i b') :
    EV (lK X) a b (wA a z ln F P D DQ S SP c n h g rc T Mt [] ++ (wM (fun k => a (131 + k)) M ++ [eJ 1 1 o, eDd 1 od])) 1982 (lLs a bb i) [] := by
  have hs0 := hs
  obtain ⟨⟨hF, hC, hA, hR⟩, -, -, ⟨n1, n2, n3, n4, n5, n6, n7, n8, n9, n10⟩, ⟨l1, l2, l3⟩, ⟨hg, hr⟩, hT, hz, ⟨hw, hw4⟩, hN0⟩ := hs
  have hc9 := hF.1
  have hTE : (if ¬ sSince F = -1 then (0 : Int) else 1) = exK ((if ¬ sSince F = -1 then none else some xNo)) xNo "" "" := by
    exact exK_i1.symm
  have hV : (if ¬ sSince F = -1 then (0 : Int) else 1) = 0 → (if (if ¬ sSince F = -1 then (0 : Int) else 1) = 0 then sSince F else 0 : Int) = sSince F := fun q => if_pos q
  refine e_aload_n (K := lK X) (i := 1) (n := 1983) dL_law_1982 rfl rfl ?_
  refine e_aload_n (K := lK X) (i := 3) (n := 1984) dL_law_1983 rfl rfl ?_
  refine e_lawW (K := lK X) (b' := b') (n := 1987) lk_L_292 (by decide) dL_law_1984 rfl (W_stepsSinceShape hF) rfl rfl (Nat.le_of_ble_eq_true rfl) (Nat.le_of_ble_eq_true rfl) (Nat.le_of_ble_eq_true rfl) ⟨hb.1, hb.2⟩ wA_len wA_len wA_len wM_6 (fun he => ?_) (fun he => ?_)
  · refine EV.eq (st' := [vi 0]) (by show [vi (exK ((if ¬ sSince F = -1 then none else some xNo)) xNo "" "")] = _; rw [exK_n he]) ?_
    refine f_istore (K := lK X) (n := 1989) dL_law_1987 rfl (Nat.le_of_ble_eq_true rfl) rfl ?_
    refine e_aload_n (K := lK X) (i := 2) (n := 1990) dL_law_1989 rfl rfl ?_
    refine e_lawP (K := lK X) (n := 1993) (Pr := fun M2 => ∃ sh : Int → Int, M2 = sR (sS M 0 (if ¬ sSince F = -1 then (0 : Int) else 1)) 1 sh) lk_L_294 rfl dL_law_1990 rfl (C_X7_stepsSinceShape (M := M) hF hR) (fun cs1 q => by obtain ⟨sh, q⟩ := q; exact ⟨_, q, sh, rfl⟩) rfl rfl (Nat.le_of_ble_eq_true rfl) (Nat.le_of_ble_eq_true rfl) (Nat.le_of_ble_eq_true rfl) ⟨rfl, rfl⟩ wA_len rfl rfl (fun M2 m => ?_)
    refine EV.eq (st' := [vi (w32 (sSince F))]) (by show [vi (if (if ¬ sSince F = -1 then (0 : Int) else 1) = 0 then sSince F else 0)] = _; rw [hV (hTE.trans (exK_n he))]; exact congrArg (fun v => [v]) w32_v) ?_
    refine f_istore (K := lK X) (n := 1995) dL_law_1993 rfl (Nat.le_of_ble_eq_true rfl) rfl ?_
    exact lTail (bb := bb) (i := i) (e := 0) (v := (w32 (sSince F))) (off := 606) dL_law_1995 dL_law_1996 dL_law_1999 dL_law_2001 dL_law_2006 dL_law_2008 dL_law_2011 dL_law_2012 dL_law_2013 dL_law_2014 dL_law_2016 dL_law_2017 dL_law_2018 dL_law_2023 (by decide) wA_len (by decide) (Eq.trans (by obtain ⟨sh, e⟩ := m; rw [e]; exact sS_0 (M := M) (t := (if ¬ sSince F = -1 then (0 : Int) else 1))) (hTE.trans (exK_n he))) (fun _ => eU_self) w32_in (kk _ _ _ _ _ _ _ _ _ _ _ _ _ _ _ _ _ _ (by obtain ⟨sh, e⟩ := m; rw [e]; exact SIM_up (SIM_eq hs0 mEq_sh) (by omega) hN))
  · have hx3 := exK_in (e1 := xNo) (e2 := "") (e3 := "") he
    refine f_istore (K := lK X) (n := 1989) dL_law_1987 rfl (Nat.le_of_ble_eq_true rfl) rfl ?_
    refine e_aload_n (K := lK X) (i := 2) (n := 1990) dL_law_1989 rfl rfl ?_
    refine e_lawP (K := lK X) (n := 1993) (Pr := fun M2 => ∃ sh : Int → Int, M2 = sR (sS M 0 (if ¬ sSince F = -1 then (0 : Int) else 1)) 1 sh) lk_L_294 rfl dL_law_1990 rfl (C_X7_stepsSinceShape (M := M) hF hR) (fun cs1 q => by obtain ⟨sh, q⟩ := q; exact ⟨_, q, sh, rfl⟩) rfl rfl (Nat.le_of_ble_eq_true rfl) (Nat.le_of_ble_eq_true rfl) (Nat.le_of_ble_eq_true rfl) ⟨rfl, rfl⟩ wA_len rfl rfl (fun M2 m => ?_)
    refine EV.eq (st' := [vi (w32 (if (if ¬ sSince F = -1 then (0 : Int) else 1) = 0 then sSince F else 0))]) (congrArg (fun v => [v]) w32_v) ?_
    refine f_istore (K := lK X) (n := 1995) dL_law_1993 rfl (Nat.le_of_ble_eq_true rfl) rfl ?_
    exact lTail (bb := bb) (i := i) (e := (exK ((if ¬ sSince F = -1 then none else some xNo)) xNo "" "")) (v := (w32 (if (if ¬ sSince F = -1 then (0 : Int) else 1) = 0 then sSince F else 0))) (off := 606) dL_law_1995 dL_law_1996 dL_law_1999 dL_law_2001 dL_law_2006 dL_law_2008 dL_law_2011 dL_law_2012 dL_law_2013 dL_law_2014 dL_law_2016 dL_law_2017 dL_law_2018 dL_law_2023 (by decide) wA_len (by omega) (Eq.trans (by obtain ⟨sh, e⟩ := m; rw [e]; exact sS_0 (M := M) (t := (if ¬ sSince F = -1 then (0 : Int) else 1))) hTE) (fun q => by exfalso; omega) w32_in (kk _ _ _ _ _ _ _ _ _ _ _ _ _ _ _ _ _ _ (by obtain ⟨sh, e⟩ := m; rw [e]; exact SIM_up (SIM_eq hs0 mEq_sh) (by omega) hN))
set_option maxHeartbeats 1600000 in
theorem LC_basketAtRank {X : eXT} {a : Nat → Nat} {b b' : Nat × Nat} {bb L : Nat} {xs : Nat → Int32} {i N : Int} {z : Nat → Int} {ln : Int → Int} {F : eFs} {P : Int → Int} {D : eFs} {DQ : Int → Int} {S : eFs} {SP : Int → Int} {c n : Int} {h : eHs} {g rc : Int → Int} {T : eFs} {Mt : Int → Int → Int} {M : eFs} {o : Int → Int} {od : Nat → UInt64} (hX : X.2 = some (bb, L, xs)) (hL : L ≤ 2147483647) (hi : 0 ≤ i ∧ i + 4 ≤ L) (hb : 2 + b'.1 ≤ b.1 ∧ 12 + b'.2 ≤ b.2) (hN : N + 2400 ≤ 90000000) (hs : SIM N z ln F S c n h g rc T Mt M) (kk : lG X a bb (N + 2400) i b') :
    EV (lK X) a b (wA a z ln F P D DQ S SP c n h g rc T Mt [] ++ (wM (fun k => a (131 + k)) M ++ [eJ 1 1 o, eDd 1 od])) 2026 (lLs a bb i) [] := by
  have hs0 := hs
  obtain ⟨⟨hF, hC, hA, hR⟩, -, -, ⟨n1, n2, n3, n4, n5, n6, n7, n8, n9, n10⟩, ⟨l1, l2, l3⟩, ⟨hg, hr⟩, hT, hz, ⟨hw, hw4⟩, hN0⟩ := hs
  have hc9 := hF.1
  have g1 := sc_in (xs := xs) (z := i + 1)
  have hTE : (if ¬ sWithRk F (sc xs (i + 1)) = -1 then (0 : Int) else 1) = exK ((if ¬ sWithRk F (sc xs (i + 1)) = -1 then none else some xNo)) xNo "" "" := by
    exact exK_i1.symm
  have hV : (if ¬ sWithRk F (sc xs (i + 1)) = -1 then (0 : Int) else 1) = 0 → (if (if ¬ sWithRk F (sc xs (i + 1)) = -1 then (0 : Int) else 1) = 0 then sWithRk F (sc xs (i + 1)) else 0 : Int) = sWithRk F (sc xs (i + 1)) := fun q => if_pos q
  refine e_aload_n (K := lK X) (i := 1) (n := 2027) dL_law_2026 rfl rfl ?_
  refine lArg (k := 1) dL_law_2027 dL_law_2028 dL_law_2030 dL_law_2031 dL_law_2032 hX hL rfl rfl (by omega) ?_
  refine e_aload_n (K := lK X) (i := 3) (n := 2034) dL_law_2033 rfl rfl ?_
  refine e_lawW (K := lK X) (b' := b') (n := 2037) lk_L_295 (by decide) dL_law_2034 rfl (W_basketAtRank hF g1) rfl rfl (Nat.le_of_ble_eq_true rfl) (Nat.le_of_ble_eq_true rfl) (Nat.le_of_ble_eq_true rfl) ⟨hb.1, hb.2⟩ wA_len wA_len wA_len wM_6 (fun he => ?_) (fun he => ?_)
  · refine EV.eq (st' := [vi 0]) (by show [vi (exK ((if ¬ sWithRk F (sc xs (i + 1)) = -1 then none else some xNo)) xNo "" "")] = _; rw [exK_n he]) ?_
    refine f_istore (K := lK X) (n := 2039) dL_law_2037 rfl (Nat.le_of_ble_eq_true rfl) rfl ?_
    refine e_aload_n (K := lK X) (i := 2) (n := 2040) dL_law_2039 rfl rfl ?_
    refine lArg (k := 1) dL_law_2040 dL_law_2041 dL_law_2043 dL_law_2044 dL_law_2045 hX hL rfl rfl (by omega) ?_
    refine e_lawQ (K := lK X) (n := 2049) (M2 := sS M 0 (if ¬ sWithRk F (sc xs (i + 1)) = -1 then (0 : Int) else 1)) lk_L_297 rfl dL_law_2046 rfl (C_X7_basketAtRank (M := M) hF hR g1) rfl rfl (Nat.le_of_ble_eq_true rfl) (Nat.le_of_ble_eq_true rfl) (Nat.le_of_ble_eq_true rfl) ⟨rfl, rfl⟩ wA_len rfl rfl ?_
    refine EV.eq (st' := [vi (w32 (sWithRk F (sc xs (i + 1))))]) (by show [vi (if (if ¬ sWithRk F (sc xs (i + 1)) = -1 then (0 : Int) else 1) = 0 then sWithRk F (sc xs (i + 1)) else 0)] = _; rw [hV (hTE.trans (exK_n he))]; exact congrArg (fun v => [v]) w32_v) ?_
    refine f_istore (K := lK X) (n := 2051) dL_law_2049 rfl (Nat.le_of_ble_eq_true rfl) rfl ?_
    exact lTail (bb := bb) (i := i) (e := 0) (v := (w32 (sWithRk F (sc xs (i + 1))))) (off := 550) dL_law_2051 dL_law_2052 dL_law_2055 dL_law_2057 dL_law_2062 dL_law_2064 dL_law_2067 dL_law_2068 dL_law_2069 dL_law_2070 dL_law_2072 dL_law_2073 dL_law_2074 dL_law_2079 (by decide) wA_len (by decide) (sS_0.trans (hTE.trans (exK_n he))) (fun _ => eU_self) w32_in (kk _ _ _ _ _ _ _ _ _ _ _ _ _ _ _ _ _ _ (SIM_up (SIM_eq hs0 mEq_0) (by omega) hN))
  · have hx3 := exK_in (e1 := xNo) (e2 := "") (e3 := "") he
    refine f_istore (K := lK X) (n := 2039) dL_law_2037 rfl (Nat.le_of_ble_eq_true rfl) rfl ?_
    refine e_aload_n (K := lK X) (i := 2) (n := 2040) dL_law_2039 rfl rfl ?_
    refine lArg (k := 1) dL_law_2040 dL_law_2041 dL_law_2043 dL_law_2044 dL_law_2045 hX hL rfl rfl (by omega) ?_
    refine e_lawQ (K := lK X) (n := 2049) (M2 := sS M 0 (if ¬ sWithRk F (sc xs (i + 1)) = -1 then (0 : Int) else 1)) lk_L_297 rfl dL_law_2046 rfl (C_X7_basketAtRank (M := M) hF hR g1) rfl rfl (Nat.le_of_ble_eq_true rfl) (Nat.le_of_ble_eq_true rfl) (Nat.le_of_ble_eq_true rfl) ⟨rfl, rfl⟩ wA_len rfl rfl ?_
    refine EV.eq (st' := [vi (w32 (if (if ¬ sWithRk F (sc xs (i + 1)) = -1 then (0 : Int) else 1) = 0 then sWithRk F (sc xs (i + 1)) else 0))]) (congrArg (fun v => [v]) w32_v) ?_
    refine f_istore (K := lK X) (n := 2051) dL_law_2049 rfl (Nat.le_of_ble_eq_true rfl) rfl ?_
    exact lTail (bb := bb) (i := i) (e := (exK ((if ¬ sWithRk F (sc xs (i + 1)) = -1 then none else some xNo)) xNo "" "")) (v := (w32 (if (if ¬ sWithRk F (sc xs (i + 1)) = -1 then (0 : Int) else 1) = 0 then sWithRk F (sc xs (i + 1)) else 0))) (off := 550) dL_law_2051 dL_law_2052 dL_law_2055 dL_law_2057 dL_law_2062 dL_law_2064 dL_law_2067 dL_law_2068 dL_law_2069 dL_law_2070 dL_law_2072 dL_law_2073 dL_law_2074 dL_law_2079 (by decide) wA_len (by omega) (Eq.trans sS_0 hTE) (fun q => by exfalso; omega) w32_in (kk _ _ _ _ _ _ _ _ _ _ _ _ _ _ _ _ _ _ (SIM_up (SIM_eq hs0 mEq_0) (by omega) hN))
