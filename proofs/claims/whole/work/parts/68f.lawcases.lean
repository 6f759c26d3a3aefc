/-! ===== the law: cases ===== -/
set_option maxHeartbeats 1600000 in
theorem LC_restore {X : eXT} {a : Nat → Nat} {b b' : Nat × Nat} {bb L : Nat} {xs : Nat → Int32} {i N : Int} {z : Nat → Int} {ln : Int → Int} {F : eFs} {P : Int → Int} {D : eFs} {DQ : Int → Int} {S : eFs} {SP : Int → Int} {c n : Int} {h : eHs} {g rc : Int → Int} {T : eFs} {Mt : Int → Int → Int} {M : eFs} {o : Int → Int} {od : Nat → UInt64} (hX : X.2 = some (bb, L, xs)) (hL : L ≤ 2147483647) (hi : 0 ≤ i ∧ i + 4 ≤ L) (hb : 2 + b'.1 ≤ b.1 ∧ 12 + b'.2 ≤ b.2) (hN : N + 2400 ≤ 90000000) (hs : SIM N z ln F S c n h g rc T Mt M) (kk : lG X a bb (N + 2400) i b') :
    EV (lK X) a b (wA a z ln F P D DQ S SP c n h g rc T Mt [] ++ (wM (fun k => a (131 + k)) M ++ [eJ 1 1 o, eDd 1 od])) 2585 (lLs a bb i) [] := by
  have hs0 := hs
  obtain ⟨⟨hF, hC, hA, hR⟩, -, -, ⟨n1, n2, n3, n4, n5, n6, n7, n8, n9, n10⟩, ⟨l1, l2, l3⟩, ⟨hg, hr⟩, hT, hz, ⟨hw, hw4⟩, hN0⟩ := hs
  have hc9 := hF.1
  have hTE : (if M.1 2 = 1 then (0 : Int) else 1) = exK ((if z 5 = 1 then none else some xSt)) xSt "" "" := by
    rw [exK_i1, n4]
  have hV : (if M.1 2 = 1 then (0 : Int) else 1) = 0 → (if M.1 2 = 1 then M.2 0 2250 else 0 : Int) = S.1 0 := fun q => by
    by_cases r : M.1 2 = 1
    · rw [if_pos r]; exact ((SIM_rest hs0).1 (n4.trans r)).2
    · exact absurd (q.symm.trans (if_neg r)) (by decide)
  have e0 : (if z 5 = 1 then none else some xSt : Option String) = none ↔ z 5 = 1 := ite_n1
  refine e_aload_n (K := lK X) (i := 1) (n := 2586) dL_law_2585 rfl rfl ?_
  refine e_aload_n (K := lK X) (i := 3) (n := 2587) dL_law_2586 rfl rfl ?_
  refine e_lawW (K := lK X) (b' := b') (n := 2590) lk_L_336 (by decide) dL_law_2587 rfl (W_restore ) rfl rfl (Nat.le_of_ble_eq_true rfl) (Nat.le_of_ble_eq_true rfl) (Nat.le_of_ble_eq_true rfl) ⟨hb.1, hb.2⟩ wA_len wA_len wA_len wM_6 (fun he => ?_) (fun he => ?_)
  · refine EV.eq (st' := [vi 0]) (by show [vi (exK ((if z 5 = 1 then none else some xSt)) xSt "" "")] = _; rw [exK_n he]) ?_
    refine f_istore (K := lK X) (n := 2592) dL_law_2590 rfl (Nat.le_of_ble_eq_true rfl) rfl ?_
    refine e_aload_n (K := lK X) (i := 2) (n := 2593) dL_law_2592 rfl rfl ?_
    refine e_lawQ (K := lK X) (n := 2596) (M2 := mRe M) lk_L_338 rfl dL_law_2593 rfl (C_X7_restore (M := M)) rfl rfl (Nat.le_of_ble_eq_true rfl) (Nat.le_of_ble_eq_true rfl) (Nat.le_of_ble_eq_true rfl) ⟨rfl, rfl⟩ wA_len rfl rfl ?_
    refine EV.eq (st' := [vi (w32 (S.1 0))]) (by show [vi (if M.1 2 = 1 then M.2 0 2250 else 0)] = _; rw [hV (hTE.trans (exK_n he))]; exact congrArg (fun v => [v]) w32_v) ?_
    refine f_istore (K := lK X) (n := 2598) dL_law_2596 rfl (Nat.le_of_ble_eq_true rfl) rfl ?_
    exact lTail (bb := bb) (i := i) (e := 0) (v := (w32 (S.1 0))) (off := 3) dL_law_2598 dL_law_2599 dL_law_2602 dL_law_2604 dL_law_2609 dL_law_2611 dL_law_2614 dL_law_2615 dL_law_2616 dL_law_2617 dL_law_2619 dL_law_2620 dL_law_2621 dL_law_2626 (by decide) wA_len (by decide) (Eq.trans (by unfold mRe; split <;> rfl) (hTE.trans (exK_n he))) (fun _ => eU_self) w32_in (kk _ _ _ _ _ _ _ _ _ _ _ _ _ _ _ _ _ _ (SIM_up ((SIM_rest hs0).1 (e0.mp he)).1 (by omega) hN))
  · have hx3 := exK_in (e1 := xSt) (e2 := "") (e3 := "") he
    refine f_istore (K := lK X) (n := 2592) dL_law_2590 rfl (Nat.le_of_ble_eq_true rfl) rfl ?_
    refine e_aload_n (K := lK X) (i := 2) (n := 2593) dL_law_2592 rfl rfl ?_
    refine e_lawQ (K := lK X) (n := 2596) (M2 := mRe M) lk_L_338 rfl dL_law_2593 rfl (C_X7_restore (M := M)) rfl rfl (Nat.le_of_ble_eq_true rfl) (Nat.le_of_ble_eq_true rfl) (Nat.le_of_ble_eq_true rfl) ⟨rfl, rfl⟩ wA_len rfl rfl ?_
    refine EV.eq (st' := [vi (w32 (if M.1 2 = 1 then M.2 0 2250 else 0))]) (congrArg (fun v => [v]) w32_v) ?_
    refine f_istore (K := lK X) (n := 2598) dL_law_2596 rfl (Nat.le_of_ble_eq_true rfl) rfl ?_
    exact lTail (bb := bb) (i := i) (e := (exK ((if z 5 = 1 then none else some xSt)) xSt "" "")) (v := (w32 (if M.1 2 = 1 then M.2 0 2250 else 0))) (off := 3) dL_law_2598 dL_law_2599 dL_law_2602 dL_law_2604 dL_law_2609 dL_law_2611 dL_law_2614 dL_law_2615 dL_law_2616 dL_law_2617 dL_law_2619 dL_law_2620 dL_law_2621 dL_law_2626 (by decide) wA_len (by omega) (Eq.trans (by unfold mRe; split <;> rfl) hTE) (fun q => by exfalso; omega) w32_in (kk _ _ _ _ _ _ _ _ _ _ _ _ _ _ _ _ _ _ (SIM_up ((SIM_rest hs0).2 (fun q => he (e0.mpr q))) (by omega) hN))
set_option maxHeartbeats 1600000 in
theorem LC_basketCount {X : eXT} {a : Nat → Nat} {b b' : Nat × Nat} {bb L : Nat} {xs : Nat → Int32} {i N : Int} {z : Nat → Int} {ln : Int → Int} {F : eFs} {P : Int → Int} {D : eFs} {DQ : Int → Int} {S : eFs} {SP : Int → Int} {c n : Int} {h : eHs} {g rc : Int → Int} {T : eFs} {Mt : Int → Int → Int} {M : eFs} {o : Int → Int} {od : Nat → UInt64} (hX : X.2 = some (bb, L, xs)) (hL : L ≤ 2147483647) (hi : 0 ≤ i ∧ i + 4 ≤ L) (hb : 2 + b'.1 ≤ b.1 ∧ 12 + b'.2 ≤ b.2) (hN : N + 2400 ≤ 90000000) (hs : SIM N z ln F S c n h g rc T Mt M) (kk : lG X a bb (N + 2400) i b') :
    EV (lK X) a b (wA a z ln F P D DQ S SP c n h g rc T Mt [] ++ (wM (fun k => a (131 + k)) M ++ [eJ 1 1 o, eDd 1 od])) 504 (lLs a bb i) [] := by
  have hs0 := hs
  obtain ⟨⟨hF, hC, hA, hR⟩, -, -, ⟨n1, n2, n3, n4, n5, n6, n7, n8, n9, n10⟩, ⟨l1, l2, l3⟩, ⟨hg, hr⟩, hT, hz, ⟨hw, hw4⟩, hN0⟩ := hs
  have hc9 := hF.1
  refine EV.bud (b' := b') (by omega) ?_
  refine e_aload_n (K := lK X) (i := 1) (n := 505) dL_law_504 rfl rfl ?_
  refine e_cV0 (K := lK X) (n := 508) [0, 1, 2, 3, 4, 5, 6, 7, 8, 9, 10] lk_L_164 rfl dL_law_505 rfl (C_X6_basketCount (z := z) (F := F) (P := P) hF) rfl rfl (Nat.le_of_ble_eq_true rfl) (Nat.le_of_ble_eq_true rfl) (Nat.le_of_ble_eq_true rfl) ⟨rfl, rfl⟩ rfl rfl rfl rfl rfl rfl ?_
  refine e_aload_n (K := lK X) (i := 2) (n := 509) dL_law_508 rfl rfl ?_
  refine e_lawQ (K := lK X) (n := 512) (M2 := sS M 0 0) lk_L_167 rfl dL_law_509 rfl (C_X7_basketCount (M := M) hF hR) rfl rfl (Nat.le_of_ble_eq_true rfl) (Nat.le_of_ble_eq_true rfl) (Nat.le_of_ble_eq_true rfl) ⟨rfl, rfl⟩ wA_len rfl rfl ?_
  exact lCmp (x := F.1 0) (off := 2117) dL_law_512 (by decide) (kk _ _ _ _ _ _ _ _ _ _ _ _ _ _ _ _ _ _ (SIM_up (SIM_eq hs0 mEq_0) (by omega) hN))
set_option maxHeartbeats 1600000 in
theorem LC_cloudCount {X : eXT} {a : Nat → Nat} {b b' : Nat × Nat} {bb L : Nat} {xs : Nat → Int32} {i N : Int} {z : Nat → Int} {ln : Int → Int} {F : eFs} {P : Int → Int} {D : eFs} {DQ : Int → Int} {S : eFs} {SP : Int → Int} {c n : Int} {h : eHs} {g rc : Int → Int} {T : eFs} {Mt : Int → Int → Int} {M : eFs} {o : Int → Int} {od : Nat → UInt64} (hX : X.2 = some (bb, L, xs)) (hL : L ≤ 2147483647) (hi : 0 ≤ i ∧ i + 4 ≤ L) (hb : 2 + b'.1 ≤ b.1 ∧ 12 + b'.2 ≤ b.2) (hN : N + 2400 ≤ 90000000) (hs : SIM N z ln F S c n h g rc T Mt M) (kk : lG X a bb (N + 2400) i b') :
    EV (lK X) a b (wA a z ln F P D DQ S SP c n h g rc T Mt [] ++ (wM (fun k => a (131 + k)) M ++ [eJ 1 1 o, eDd 1 od])) 1176 (lLs a bb i) [] := by
  have hs0 := hs
  obtain ⟨⟨hF, hC, hA, hR⟩, -, -, ⟨n1, n2, n3, n4, n5, n6, n7, n8, n9, n10⟩, ⟨l1, l2, l3⟩, ⟨hg, hr⟩, hT, hz, ⟨hw, hw4⟩, hN0⟩ := hs
  have hc9 := hF.1
  refine EV.bud (b' := b') (by omega) ?_
  refine e_aload_n (K := lK X) (i := 1) (n := 1177) dL_law_1176 rfl rfl ?_
  refine e_cV0 (K := lK X) (n := 1180) [0, 1, 2, 3, 4, 5, 6, 7, 8, 9, 10] lk_L_203 rfl dL_law_1177 rfl (C_X6_cloudCount (z := z) (F := F) (P := P) hF) rfl rfl (Nat.le_of_ble_eq_true rfl) (Nat.le_of_ble_eq_true rfl) (Nat.le_of_ble_eq_true rfl) ⟨rfl, rfl⟩ rfl rfl rfl rfl rfl rfl ?_
  refine e_aload_n (K := lK X) (i := 2) (n := 1181) dL_law_1180 rfl rfl ?_
  refine e_lawQ (K := lK X) (n := 1184) (M2 := sS M 0 0) lk_L_206 rfl dL_law_1181 rfl (C_X7_cloudCount (M := M) hF hR) rfl rfl (Nat.le_of_ble_eq_true rfl) (Nat.le_of_ble_eq_true rfl) (Nat.le_of_ble_eq_true rfl) ⟨rfl, rfl⟩ wA_len rfl rfl ?_
  exact lCmp (x := F.1 9) (off := 1445) dL_law_1184 (by decide) (kk _ _ _ _ _ _ _ _ _ _ _ _ _ _ _ _ _ _ (SIM_up (SIM_eq hs0 mEq_0) (by omega) hN))
set_option maxHeartbeats 1600000 in
theorem LC_turnLength {X : eXT} {a : Nat → Nat} {b b' : Nat × Nat} {bb L : Nat} {xs : Nat → Int32} {i N : Int} {z : Nat → Int} {ln : Int → Int} {F : eFs} {P : Int → Int} {D : eFs} {DQ : Int → Int} {S : eFs} {SP : Int → Int} {c n : Int} {h : eHs} {g rc : Int → Int} {T : eFs} {Mt : Int → Int → Int} {M : eFs} {o : Int → Int} {od : Nat → UInt64} (hX : X.2 = some (bb, L, xs)) (hL : L ≤ 2147483647) (hi : 0 ≤ i ∧ i + 4 ≤ L) (hb : 2 + b'.1 ≤ b.1 ∧ 12 + b'.2 ≤ b.2) (hN : N + 2400 ≤ 90000000) (hs : SIM N z ln F S c n h g rc T Mt M) (kk : lG X a bb (N + 2400) i b') :
    EV (lK X) a b (wA a z ln F P D DQ S SP c n h g rc T Mt [] ++ (wM (fun k => a (131 + k)) M ++ [eJ 1 1 o, eDd 1 od])) 1245 (lLs a bb i) [] := by
  have hs0 := hs
  obtain ⟨⟨hF, hC, hA, hR⟩, -, -, ⟨n1, n2, n3, n4, n5, n6, n7, n8, n9, n10⟩, ⟨l1, l2, l3⟩, ⟨hg, hr⟩, hT, hz, ⟨hw, hw4⟩, hN0⟩ := hs
  have hc9 := hF.1
  refine EV.bud (b' := b') (by omega) ?_
  refine e_aload_n (K := lK X) (i := 1) (n := 1246) dL_law_1245 rfl rfl ?_
  refine e_cV0 (K := lK X) (n := 1249) [0, 1, 2, 3, 4, 5, 6, 7, 8, 9, 10] lk_L_210 rfl dL_law_1246 rfl (C_X6_turnLength (z := z) (F := F) (P := P) hF) rfl rfl (Nat.le_of_ble_eq_true rfl) (Nat.le_of_ble_eq_true rfl) (Nat.le_of_ble_eq_true rfl) ⟨rfl, rfl⟩ rfl rfl rfl rfl rfl rfl ?_
  refine e_aload_n (K := lK X) (i := 2) (n := 1250) dL_law_1249 rfl rfl ?_
  refine e_lawQ (K := lK X) (n := 1253) (M2 := sS M 0 0) lk_L_213 rfl dL_law_1250 rfl (C_X7_turnLength (M := M) hF hR) rfl rfl (Nat.le_of_ble_eq_true rfl) (Nat.le_of_ble_eq_true rfl) (Nat.le_of_ble_eq_true rfl) ⟨rfl, rfl⟩ wA_len rfl rfl ?_
  exact lCmp (x := F.1 3) (off := 1376) dL_law_1253 (by decide) (kk _ _ _ _ _ _ _ _ _ _ _ _ _ _ _ _ _ _ (SIM_up (SIM_eq hs0 mEq_0) (by omega) hN))
set_option maxHeartbeats 1600000 in
theorem LC_keep {X : eXT} {a : Nat → Nat} {b b' : Nat × Nat} {bb L : Nat} {xs : Nat → Int32} {i N : Int} {z : Nat → Int} {ln : Int → Int} {F : eFs} {P : Int → Int} {D : eFs} {DQ : Int → Int} {S : eFs} {SP : Int → Int} {c n : Int} {h : eHs} {g rc : Int → Int} {T : eFs} {Mt : Int → Int → Int} {M : eFs} {o : Int → Int} {od : Nat → UInt64} (hX : X.2 = some (bb, L, xs)) (hL : L ≤ 2147483647) (hi : 0 ≤ i ∧ i + 4 ≤ L) (hb : 2 + b'.1 ≤ b.1 ∧ 12 + b'.2 ≤ b.2) (hN : N + 2400 ≤ 90000000) (hs : SIM N z ln F S c n h g rc T Mt M) (kk : lG X a bb (N + 2400) i b') :
    EV (lK X) a b (wA a z ln F P D DQ S SP c n h g rc T Mt [] ++ (wM (fun k => a (131 + k)) M ++ [eJ 1 1 o, eDd 1 od])) 1670 (lLs a bb i) [] := by
  have hs0 := hs
  obtain ⟨⟨hF, hC, hA, hR⟩, -, -, ⟨n1, n2, n3, n4, n5, n6, n7, n8, n9, n10⟩, ⟨l1, l2, l3⟩, ⟨hg, hr⟩, hT, hz, ⟨hw, hw4⟩, hN0⟩ := hs
  have hc9 := hF.1
  refine EV.bud (b' := b') (by omega) ?_
  refine e_aload_n (K := lK X) (i := 1) (n := 1671) dL_law_1670 rfl rfl ?_
  refine e_cV0 (K := lK X) (n := 1674) [0, 1, 2, 3, 4, 5, 6, 7, 8, 9, 10] lk_L_238 rfl dL_law_1671 rfl (C_X6_keep (z := z) (F := F) (P := P) hF) rfl rfl (Nat.le_of_ble_eq_true rfl) (Nat.le_of_ble_eq_true rfl) (Nat.le_of_ble_eq_true rfl) ⟨rfl, rfl⟩ rfl rfl rfl rfl rfl rfl ?_
  refine e_aload_n (K := lK X) (i := 2) (n := 1675) dL_law_1674 rfl rfl ?_
  refine e_lawQ (K := lK X) (n := 1678) (M2 := sS M 0 0) lk_L_241 rfl dL_law_1675 rfl (C_X7_keep (M := M) hF hR) rfl rfl (Nat.le_of_ble_eq_true rfl) (Nat.le_of_ble_eq_true rfl) (Nat.le_of_ble_eq_true rfl) ⟨rfl, rfl⟩ wA_len rfl rfl ?_
  exact lCmp (x := F.1 6) (off := 951) dL_law_1678 (by decide) (kk _ _ _ _ _ _ _ _ _ _ _ _ _ _ _ _ _ _ (SIM_up (SIM_eq hs0 mEq_0) (by omega) hN))
set_option maxHeartbeats 1600000 in
theorem LC_stepCount {X : eXT} {a : Nat → Nat} {b b' : Nat × Nat} {bb L : Nat} {xs : Nat → Int32} {i N : Int} {z : Nat → Int} {ln : Int → Int} {F : eFs} {P : Int → Int} {D : eFs} {DQ : Int → Int} {S : eFs} {SP : Int → Int} {c n : Int} {h : eHs} {g rc : Int → Int} {T : eFs} {Mt : Int → Int → Int} {M : eFs} {o : Int → Int} {od : Nat → UInt64} (hX : X.2 = some (bb, L, xs)) (hL : L ≤ 2147483647) (hi : 0 ≤ i ∧ i + 4 ≤ L) (hb : 2 + b'.1 ≤ b.1 ∧ 12 + b'.2 ≤ b.2) (hN : N + 2400 ≤ 90000000) (hs : SIM N z ln F S c n h g rc T Mt M) (kk : lG X a bb (N + 2400) i b') :
    EV (lK X) a b (wA a z ln F P D DQ S SP c n h g rc T Mt [] ++ (wM (fun k => a (131 + k)) M ++ [eJ 1 1 o, eDd 1 od])) 1739 (lLs a bb i) [] := by
  have hs0 := hs
  obtain ⟨⟨hF, hC, hA, hR⟩, -, -, ⟨n1, n2, n3, n4, n5, n6, n7, n8, n9, n10⟩, ⟨l1, l2, l3⟩, ⟨hg, hr⟩, hT, hz, ⟨hw, hw4⟩, hN0⟩ := hs
  have hc9 := hF.1
  refine EV.bud (b' := b') (by omega) ?_
  refine e_aload_n (K := lK X) (i := 1) (n := 1740) dL_law_1739 rfl rfl ?_
  refine e_cV0 (K := lK X) (n := 1743) [0, 1, 2, 3, 4, 5, 6, 7, 8, 9, 10] lk_L_245 rfl dL_law_1740 rfl (C_X6_stepCount (z := z) (F := F) (P := P) hF) rfl rfl (Nat.le_of_ble_eq_true rfl) (Nat.le_of_ble_eq_true rfl) (Nat.le_of_ble_eq_true rfl) ⟨rfl, rfl⟩ rfl rfl rfl rfl rfl rfl ?_
  refine e_aload_n (K := lK X) (i := 2) (n := 1744) dL_law_1743 rfl rfl ?_
  refine e_lawQ (K := lK X) (n := 1747) (M2 := sS M 0 0) lk_L_248 rfl dL_law_1744 rfl (C_X7_stepCount (M := M) hF hR) rfl rfl (Nat.le_of_ble_eq_true rfl) (Nat.le_of_ble_eq_true rfl) (Nat.le_of_ble_eq_true rfl) ⟨rfl, rfl⟩ wA_len rfl rfl ?_
  exact lCmp (x := F.1 7) (off := 882) dL_law_1747 (by decide) (kk _ _ _ _ _ _ _ _ _ _ _ _ _ _ _ _ _ _ (SIM_up (SIM_eq hs0 mEq_0) (by omega) hN))
set_option maxHeartbeats 1600000 in
theorem LC_moveTotal {X : eXT} {a : Nat → Nat} {b b' : Nat × Nat} {bb L : Nat} {xs : Nat → Int32} {i N : Int} {z : Nat → Int} {ln : Int → Int} {F : eFs} {P : Int → Int} {D : eFs} {DQ : Int → Int} {S : eFs} {SP : Int → Int} {c n : Int} {h : eHs} {g rc : Int → Int} {T : eFs} {Mt : Int → Int → Int} {M : eFs} {o : Int → Int} {od : Nat → UInt64} (hX : X.2 = some (bb, L, xs)) (hL : L ≤ 2147483647) (hi : 0 ≤ i ∧ i + 4 ≤ L) (hb : 2 + b'.1 ≤ b.1 ∧ 12 + b'.2 ≤ b.2) (hN : N + 2400 ≤ 90000000) (hs : SIM N z ln F S c n h g rc T Mt M) (kk : lG X a bb (N + 2400) i b') :
    EV (lK X) a b (wA a z ln F P D DQ S SP c n h g rc T Mt [] ++ (wM (fun k => a (131 + k)) M ++ [eJ 1 1 o, eDd 1 od])) 1808 (lLs a bb i) [] := by
  have hs0 := hs
  obtain ⟨⟨hF, hC, hA, hR⟩, -, -, ⟨n1, n2, n3, n4, n5, n6, n7, n8, n9, n10⟩, ⟨l1, l2, l3⟩, ⟨hg, hr⟩, hT, hz, ⟨hw, hw4⟩, hN0⟩ := hs
  have hc9 := hF.1
  refine EV.bud (b' := b') (by omega) ?_
  refine e_aload_n (K := lK X) (i := 1) (n := 1809) dL_law_1808 rfl rfl ?_
  refine e_cV0 (K := lK X) (n := 1812) [0, 1, 2, 3, 4, 5, 6, 7, 8, 9, 10] lk_L_252 rfl dL_law_1809 rfl (C_X6_moveTotal (z := z) (F := F) (P := P) hF) rfl rfl (Nat.le_of_ble_eq_true rfl) (Nat.le_of_ble_eq_true rfl) (Nat.le_of_ble_eq_true rfl) ⟨rfl, rfl⟩ rfl rfl rfl rfl rfl rfl ?_
  refine e_aload_n (K := lK X) (i := 2) (n := 1813) dL_law_1812 rfl rfl ?_
  refine e_lawQ (K := lK X) (n := 1816) (M2 := sS M 0 0) lk_L_256 rfl dL_law_1813 rfl (C_X7_moveTotal (M := M) hF hR) rfl rfl (Nat.le_of_ble_eq_true rfl) (Nat.le_of_ble_eq_true rfl) (Nat.le_of_ble_eq_true rfl) ⟨rfl, rfl⟩ wA_len rfl rfl ?_
  exact lCmpL (x := sSumM F) (off := 812) dL_law_1816 dL_law_1817 (by decide) (kk _ _ _ _ _ _ _ _ _ _ _ _ _ _ _ _ _ _ (SIM_up (SIM_eq hs0 mEq_0) (by omega) hN))
set_option maxHeartbeats 1600000 in
theorem LC_waitTotal {X : eXT} {a : Nat → Nat} {b b' : Nat × Nat} {bb L : Nat} {xs : Nat → Int32} {i N : Int} {z : Nat → Int} {ln : Int → Int} {F : eFs} {P : Int → Int} {D : eFs} {DQ : Int → Int} {S : eFs} {SP : Int → Int} {c n : Int} {h : eHs} {g rc : Int → Int} {T : eFs} {Mt : Int → Int → Int} {M : eFs} {o : Int → Int} {od : Nat → UInt64} (hX : X.2 = some (bb, L, xs)) (hL : L ≤ 2147483647) (hi : 0 ≤ i ∧ i + 4 ≤ L) (hb : 2 + b'.1 ≤ b.1 ∧ 12 + b'.2 ≤ b.2) (hN : N + 2400 ≤ 90000000) (hs : SIM N z ln F S c n h g rc T Mt M) (kk : lG X a bb (N + 2400) i b') :
    EV (lK X) a b (wA a z ln F P D DQ S SP c n h g rc T Mt [] ++ (wM (fun k => a (131 + k)) M ++ [eJ 1 1 o, eDd 1 od])) 1822 (lLs a bb i) [] := by
  have hs0 := hs
  obtain ⟨⟨hF, hC, hA, hR⟩, -, -, ⟨n1, n2, n3, n4, n5, n6, n7, n8, n9, n10⟩, ⟨l1, l2, l3⟩, ⟨hg, hr⟩, hT, hz, ⟨hw, hw4⟩, hN0⟩ := hs
  have hc9 := hF.1
  refine EV.bud (b' := b') (by omega) ?_
  refine e_aload_n (K := lK X) (i := 1) (n := 1823) dL_law_1822 rfl rfl ?_
  refine e_cV0 (K := lK X) (n := 1826) [0, 1, 2, 3, 4, 5, 6, 7, 8, 9, 10] lk_L_257 rfl dL_law_1823 rfl (C_X6_waitTotal (z := z) (F := F) (P := P) hF) rfl rfl (Nat.le_of_ble_eq_true rfl) (Nat.le_of_ble_eq_true rfl) (Nat.le_of_ble_eq_true rfl) ⟨rfl, rfl⟩ rfl rfl rfl rfl rfl rfl ?_
  refine e_aload_n (K := lK X) (i := 2) (n := 1827) dL_law_1826 rfl rfl ?_
  refine e_lawQ (K := lK X) (n := 1830) (M2 := sS M 0 0) lk_L_260 rfl dL_law_1827 rfl (C_X7_waitTotal (M := M) hF hR) rfl rfl (Nat.le_of_ble_eq_true rfl) (Nat.le_of_ble_eq_true rfl) (Nat.le_of_ble_eq_true rfl) ⟨rfl, rfl⟩ wA_len rfl rfl ?_
  exact lCmp (x := F.1 8) (off := 799) dL_law_1830 (by decide) (kk _ _ _ _ _ _ _ _ _ _ _ _ _ _ _ _ _ _ (SIM_up (SIM_eq hs0 mEq_0) (by omega) hN))
set_option maxHeartbeats 1600000 in
theorem LC_formationCount {X : eXT} {a : Nat → Nat} {b b' : Nat × Nat} {bb L : Nat} {xs : Nat → Int32} {i N : Int} {z : Nat → Int} {ln : Int → Int} {F : eFs} {P : Int → Int} {D : eFs} {DQ : Int → Int} {S : eFs} {SP : Int → Int} {c n : Int} {h : eHs} {g rc : Int → Int} {T : eFs} {Mt : Int → Int → Int} {M : eFs} {o : Int → Int} {od : Nat → UInt64} (hX : X.2 = some (bb, L, xs)) (hL : L ≤ 2147483647) (hi : 0 ≤ i ∧ i + 4 ≤ L) (hb : 2 + b'.1 ≤ b.1 ∧ 12 + b'.2 ≤ b.2) (hN : N + 2400 ≤ 90000000) (hs : SIM N z ln F S c n h g rc T Mt M) (kk : lG X a bb (N + 2400) i b') :
    EV (lK X) a b (wA a z ln F P D DQ S SP c n h g rc T Mt [] ++ (wM (fun k => a (131 + k)) M ++ [eJ 1 1 o, eDd 1 od])) 1835 (lLs a bb i) [] := by
  have hs0 := hs
  obtain ⟨⟨hF, hC, hA, hR⟩, -, -, ⟨n1, n2, n3, n4, n5, n6, n7, n8, n9, n10⟩, ⟨l1, l2, l3⟩, ⟨hg, hr⟩, hT, hz, ⟨hw, hw4⟩, hN0⟩ := hs
  have hc9 := hF.1
  refine EV.bud (b' := b') (by omega) ?_
  refine e_aload_n (K := lK X) (i := 1) (n := 1836) dL_law_1835 rfl rfl ?_
  refine e_cV1 (K := lK X) (n := 1839) [0, 1, 2, 3, 4, 5, 6, 7, 8, 9, 10, 113, 114, 115] lk_L_261 rfl dL_law_1836 rfl (C_X6_formationCount (z := z) (F := F) (P := P) (g := g) (rc := rc) hF hg hr) rfl rfl (Nat.le_of_ble_eq_true rfl) (Nat.le_of_ble_eq_true rfl) (Nat.le_of_ble_eq_true rfl) ⟨rfl, rfl⟩ rfl rfl rfl rfl rfl rfl (fun cs1 q => by obtain ⟨g1, rc1, q, -⟩ := q; rw [q]; rfl) (fun cs1 q => ?_)
  obtain ⟨g2, rc2, q1, hr2, hg2⟩ := q
  subst q1
  refine EV.ceq (cs' := wA a z ln F P D DQ S SP c n h g2 rc2 T Mt [] ++ (wM (fun k => a (131 + k)) M ++ [eJ 1 1 o, eDd 1 od])) (by rw [← wA_tl, ← wA_tl]; exact gOFG (t := (wM (fun k => a (131 + k)) M ++ [eJ 1 1 o, eDd 1 od])) (O' := [wO (a 1) (a 11) (a 21) (a 31) (a 113) (a 116) (a 130) (z)]) (F' := wFl (fun k => a (1 + k)) (F) (P)) (G' := [.inr (3, [.ref (a 114), .ref (a 115)]), eI 0 10 g2, eI 0 10 rc2]) rfl rfl rfl rfl rfl rfl rfl rfl rfl rfl rfl) ?_
  refine e_aload_n (K := lK X) (i := 2) (n := 1840) dL_law_1839 rfl rfl ?_
  refine e_lawQ (K := lK X) (n := 1843) (M2 := sS M 0 0) lk_L_264 rfl dL_law_1840 rfl (C_X7_formationCount (M := M) hF hR) rfl rfl (Nat.le_of_ble_eq_true rfl) (Nat.le_of_ble_eq_true rfl) (Nat.le_of_ble_eq_true rfl) ⟨rfl, rfl⟩ wA_len rfl rfl ?_
  exact lCmp (x := sFor F) (off := 786) dL_law_1843 (by decide) (kk _ _ _ _ _ _ _ _ _ _ _ _ _ _ _ _ _ _ (SIM_up (SIM_eq (SIM_g hs0 hg2 hr2) mEq_0) (by omega) hN))
