/-! ===== the law: cases ===== -/
set_option maxHeartbeats 1600000 in
theorem LC_formationCountByMerging {X : eXT} {a : Nat → Nat} {b b' : Nat × Nat} {bb L : Nat} {xs : Nat → Int32} {i N : Int} {z : Nat → Int} {ln : Int → Int} {F : eFs} {P : Int → Int} {D : eFs} {DQ : Int → Int} {S : eFs} {SP : Int → Int} {c n : Int} {h : eHs} {g rc : Int → Int} {T : eFs} {Mt : Int → Int → Int} {M : eFs} {o : Int → Int} {od : Nat → UInt64} (hX : X.2 = some (bb, L, xs)) (hL : L ≤ 2147483647) (hi : 0 ≤ i ∧ i + 4 ≤ L) (hb : 2 + b'.1 ≤ b.1 ∧ 12 + b'.2 ≤ b.2) (hN : N + 2400 ≤ 90000000) (hs : SIM N z ln F S c n h g rc T Mt M) (kk : lG X a bb (N + 2400) i b') :
    EV (lK X) a b (wA a z ln F P D DQ S SP c n h g rc T Mt [] ++ (wM (fun k => a (131 + k)) M ++ [eJ 1 1 o, eDd 1 od])) 1848 (lLs a bb i) [] := by
  have hs0 := hs
  obtain ⟨⟨hF, hC, hA, hR⟩, -, -, ⟨n1, n2, n3, n4, n5, n6, n7, n8, n9, n10⟩, ⟨l1, l2, l3⟩, ⟨hg, hr⟩, hT, hz, ⟨hw, hw4⟩, hN0⟩ := hs
  have hc9 := hF.1
  refine EV.bud (b' := b') (by omega) ?_
  refine e_aload_n (K := lK X) (i := 1) (n := 1849) dL_law_1848 rfl rfl ?_
  refine e_cV1 (K := lK X) (n := 1852) [0, 1, 2, 3, 4, 5, 6, 7, 8, 9, 10, 113, 114, 115] lk_L_265 rfl dL_law_1849 rfl (C_X6_formationCountByMerging (z := z) (F := F) (P := P) (g := g) (rc := rc) hF hg hr) rfl rfl (Nat.le_of_ble_eq_true rfl) (Nat.le_of_ble_eq_true rfl) (Nat.le_of_ble_eq_true rfl) ⟨rfl, rfl⟩ rfl rfl rfl rfl rfl rfl (fun cs1 q => by obtain ⟨g1, rc1, q, -⟩ := q; rw [q]; rfl) (fun cs1 q => ?_)
  obtain ⟨g2, rc2, q1, hr2, hg2⟩ := q
  subst q1
  refine EV.ceq (cs' := wA a z ln F P D DQ S SP c n h g2 rc2 T Mt [] ++ (wM (fun k => a (131 + k)) M ++ [eJ 1 1 o, eDd 1 od])) (by rw [← wA_tl, ← wA_tl]; exact gOFG (t := (wM (fun k => a (131 + k)) M ++ [eJ 1 1 o, eDd 1 od])) (O' := [wO (a 1) (a 11) (a 21) (a 31) (a 113) (a 116) (a 130) (z)]) (F' := wFl (fun k => a (1 + k)) (F) (P)) (G' := [.inr (3, [.ref (a 114), .ref (a 115)]), eI 0 10 g2, eI 0 10 rc2]) rfl rfl rfl rfl rfl rfl rfl rfl rfl rfl rfl) ?_
  refine e_aload_n (K := lK X) (i := 2) (n := 1853) dL_law_1852 rfl rfl ?_
  refine e_lawQ (K := lK X) (n := 1856) (M2 := sS M 0 0) lk_L_268 rfl dL_law_1853 rfl (C_X7_formationCountByMerging (M := M) hF hR) rfl rfl (Nat.le_of_ble_eq_true rfl) (Nat.le_of_ble_eq_true rfl) (Nat.le_of_ble_eq_true rfl) ⟨rfl, rfl⟩ wA_len rfl rfl ?_
  exact lCmp (x := sFor F) (off := 773) dL_law_1856 (by decide) (kk _ _ _ _ _ _ _ _ _ _ _ _ _ _ _ _ _ _ (SIM_up (SIM_eq (SIM_g hs0 hg2 hr2) mEq_0) (by omega) hN))
set_option maxHeartbeats 1600000 in
theorem LC_largestFormation {X : eXT} {a : Nat → Nat} {b b' : Nat × Nat} {bb L : Nat} {xs : Nat → Int32} {i N : Int} {z : Nat → Int} {ln : Int → Int} {F : eFs} {P : Int → Int} {D : eFs} {DQ : Int → Int} {S : eFs} {SP : Int → Int} {c n : Int} {h : eHs} {g rc : Int → Int} {T : eFs} {Mt : Int → Int → Int} {M : eFs} {o : Int → Int} {od : Nat → UInt64} (hX : X.2 = some (bb, L, xs)) (hL : L ≤ 2147483647) (hi : 0 ≤ i ∧ i + 4 ≤ L) (hb : 2 + b'.1 ≤ b.1 ∧ 12 + b'.2 ≤ b.2) (hN : N + 2400 ≤ 90000000) (hs : SIM N z ln F S c n h g rc T Mt M) (kk : lG X a bb (N + 2400) i b') :
    EV (lK X) a b (wA a z ln F P D DQ S SP c n h g rc T Mt [] ++ (wM (fun k => a (131 + k)) M ++ [eJ 1 1 o, eDd 1 od])) 1861 (lLs a bb i) [] := by
  have hs0 := hs
  obtain ⟨⟨hF, hC, hA, hR⟩, -, -, ⟨n1, n2, n3, n4, n5, n6, n7, n8, n9, n10⟩, ⟨l1, l2, l3⟩, ⟨hg, hr⟩, hT, hz, ⟨hw, hw4⟩, hN0⟩ := hs
  have hc9 := hF.1
  refine EV.bud (b' := b') (by omega) ?_
  refine e_aload_n (K := lK X) (i := 1) (n := 1862) dL_law_1861 rfl rfl ?_
  refine e_cV1 (K := lK X) (n := 1865) [0, 1, 2, 3, 4, 5, 6, 7, 8, 9, 10, 113, 114, 115] lk_L_269 rfl dL_law_1862 rfl (C_X6_largestFormation (z := z) (F := F) (P := P) (g := g) (rc := rc) hF hg hr) rfl rfl (Nat.le_of_ble_eq_true rfl) (Nat.le_of_ble_eq_true rfl) (Nat.le_of_ble_eq_true rfl) ⟨rfl, rfl⟩ rfl rfl rfl rfl rfl rfl (fun cs1 q => by obtain ⟨g1, rc1, q, -⟩ := q; rw [q]; rfl) (fun cs1 q => ?_)
  obtain ⟨g2, rc2, q1, hr2, hg2⟩ := q
  subst q1
  refine EV.ceq (cs' := wA a z ln F P D DQ S SP c n h g2 rc2 T Mt [] ++ (wM (fun k => a (131 + k)) M ++ [eJ 1 1 o, eDd 1 od])) (by rw [← wA_tl, ← wA_tl]; exact gOFG (t := (wM (fun k => a (131 + k)) M ++ [eJ 1 1 o, eDd 1 od])) (O' := [wO (a 1) (a 11) (a 21) (a 31) (a 113) (a 116) (a 130) (z)]) (F' := wFl (fun k => a (1 + k)) (F) (P)) (G' := [.inr (3, [.ref (a 114), .ref (a 115)]), eI 0 10 g2, eI 0 10 rc2]) rfl rfl rfl rfl rfl rfl rfl rfl rfl rfl rfl) ?_
  refine e_aload_n (K := lK X) (i := 2) (n := 1866) dL_law_1865 rfl rfl ?_
  refine e_lawQ (K := lK X) (n := 1869) (M2 := sS M 0 0) lk_L_272 rfl dL_law_1866 rfl (C_X7_largestFormation (M := M) hF hR) rfl rfl (Nat.le_of_ble_eq_true rfl) (Nat.le_of_ble_eq_true rfl) (Nat.le_of_ble_eq_true rfl) ⟨rfl, rfl⟩ wA_len rfl rfl ?_
  exact lCmp (x := sLrg F) (off := 760) dL_law_1869 (by decide) (kk _ _ _ _ _ _ _ _ _ _ _ _ _ _ _ _ _ _ (SIM_up (SIM_eq (SIM_g hs0 hg2 hr2) mEq_0) (by omega) hN))
set_option maxHeartbeats 1600000 in
theorem LC_formationOf {X : eXT} {a : Nat → Nat} {b b' : Nat × Nat} {bb L : Nat} {xs : Nat → Int32} {i N : Int} {z : Nat → Int} {ln : Int → Int} {F : eFs} {P : Int → Int} {D : eFs} {DQ : Int → Int} {S : eFs} {SP : Int → Int} {c n : Int} {h : eHs} {g rc : Int → Int} {T : eFs} {Mt : Int → Int → Int} {M : eFs} {o : Int → Int} {od : Nat → UInt64} (hX : X.2 = some (bb, L, xs)) (hL : L ≤ 2147483647) (hi : 0 ≤ i ∧ i + 4 ≤ L) (hb : 2 + b'.1 ≤ b.1 ∧ 12 + b'.2 ≤ b.2) (hN : N + 2400 ≤ 90000000) (hs : SIM N z ln F S c n h g rc T Mt M) (kk : lG X a bb (N + 2400) i b') :
    EV (lK X) a b (wA a z ln F P D DQ S SP c n h g rc T Mt [] ++ (wM (fun k => a (131 + k)) M ++ [eJ 1 1 o, eDd 1 od])) 1874 (lLs a bb i) [] := by
  have hs0 := hs
  obtain ⟨⟨hF, hC, hA, hR⟩, -, -, ⟨n1, n2, n3, n4, n5, n6, n7, n8, n9, n10⟩, ⟨l1, l2, l3⟩, ⟨hg, hr⟩, hT, hz, ⟨hw, hw4⟩, hN0⟩ := hs
  have hc9 := hF.1
  have g1 := sc_in (xs := xs) (z := i + 1)
  have hTE : (if sHas F (sc xs (i + 1)) then (0 : Int) else 1) = exK (if sHas F (sc xs (i + 1)) then none else some xIx) xIx "" "" := exK_i1.symm
  have hV : (if sHas F (sc xs (i + 1)) then (0 : Int) else 1) = 0 → (if (if sHas F (sc xs (i + 1)) then (0 : Int) else 1) = 0 then sGr F (sc xs (i + 1)) else 0 : Int) = sGr F (sc xs (i + 1)) := fun q => if_pos q
  refine e_aload_n (K := lK X) (i := 1) (n := 1875) dL_law_1874 rfl rfl ?_
  refine lArg (k := 1) dL_law_1875 dL_law_1876 dL_law_1878 dL_law_1879 dL_law_1880 hX hL rfl rfl (by omega) ?_
  refine e_aload_n (K := lK X) (i := 3) (n := 1882) dL_law_1881 rfl rfl ?_
  refine e_lawL (K := lK X) (b' := b') (n := 1885) lk_L_273 (by decide) dL_law_1882 rfl (W_formationOf hF hg hr g1) rfl rfl (Nat.le_of_ble_eq_true rfl) (Nat.le_of_ble_eq_true rfl) (Nat.le_of_ble_eq_true rfl) ⟨hb.1, hb.2⟩ wA_len wM_6 (fun cs1 q => ?_) (fun A' o1' hA' q => ?_)
  · obtain ⟨g1, rc1, -, -, q1, q2⟩ := q
    by_cases he : (if sHas F (sc xs (i + 1)) then none else some xIx : Option String) = none
    · exact ⟨_, _, q1 he, wA_len⟩
    · exact ⟨_, _, q2 he, wA_len⟩
  · obtain ⟨g2, rc2, hr2, hg2, q1, q2⟩ := q
    have hs2 := SIM_g hs0 hg2 hr2
    by_cases he : (if sHas F (sc xs (i + 1)) then none else some xIx : Option String) = none
    · obtain ⟨w1, w2⟩ := List.append_inj (q1 he) (by rw [hA', wA_len])
      injection w2 with w3 w4
      rw [w1, w3]
      refine EV.eq (st' := [vi 0]) (by show [vi (exK (if sHas F (sc xs (i + 1)) then none else some xIx) xIx "" "")] = _; rw [exK_n he]) ?_
      refine f_istore (K := lK X) (n := 1887) dL_law_1885 rfl (Nat.le_of_ble_eq_true rfl) rfl ?_
      refine e_aload_n (K := lK X) (i := 2) (n := 1888) dL_law_1887 rfl rfl ?_
      refine lArg (k := 1) dL_law_1888 dL_law_1889 dL_law_1891 dL_law_1892 dL_law_1893 hX hL rfl rfl (by omega) ?_
      refine e_lawQ (K := lK X) (n := 1897) (M2 := sS M 0 (if sHas F (sc xs (i + 1)) then (0 : Int) else 1)) lk_L_275 rfl dL_law_1894 rfl (C_X7_formationOf (M := M) hF hR g1) rfl rfl (Nat.le_of_ble_eq_true rfl) (Nat.le_of_ble_eq_true rfl) (Nat.le_of_ble_eq_true rfl) ⟨rfl, rfl⟩ wA_len rfl rfl ?_
      refine EV.eq (st' := [vi (w32 (sGr F (sc xs (i + 1))))]) (by show [vi (if (if sHas F (sc xs (i + 1)) then (0 : Int) else 1) = 0 then sGr F (sc xs (i + 1)) else 0)] = _; rw [hV (hTE.trans (exK_n he))]; exact congrArg (fun v => [v]) w32_v) ?_
      refine f_istore (K := lK X) (n := 1899) dL_law_1897 rfl (Nat.le_of_ble_eq_true rfl) rfl ?_
      exact lTail (bb := bb) (i := i) (e := 0) (v := (w32 (sGr F (sc xs (i + 1))))) (off := 702) dL_law_1899 dL_law_1900 dL_law_1903 dL_law_1905 dL_law_1910 dL_law_1912 dL_law_1915 dL_law_1916 dL_law_1917 dL_law_1918 dL_law_1920 dL_law_1921 dL_law_1922 dL_law_1927 (by decide) wA_len (by decide) (Eq.trans sS_0 (hTE.trans (exK_n he))) (fun _ => eU_self) w32_in (kk _ _ _ _ _ _ _ _ _ _ _ _ _ _ _ _ _ _ (SIM_up (SIM_eq hs2 mEq_0) (by omega) hN))
    · obtain ⟨w1, w2⟩ := List.append_inj (q2 he) (by rw [hA', wA_len])
      injection w2 with w3 w4
      rw [w1, w3]
      have hx3 := exK_in (e1 := xIx) (e2 := "") (e3 := "") he
      refine f_istore (K := lK X) (n := 1887) dL_law_1885 rfl (Nat.le_of_ble_eq_true rfl) rfl ?_
      refine e_aload_n (K := lK X) (i := 2) (n := 1888) dL_law_1887 rfl rfl ?_
      refine lArg (k := 1) dL_law_1888 dL_law_1889 dL_law_1891 dL_law_1892 dL_law_1893 hX hL rfl rfl (by omega) ?_
      refine e_lawQ (K := lK X) (n := 1897) (M2 := sS M 0 (if sHas F (sc xs (i + 1)) then (0 : Int) else 1)) lk_L_275 rfl dL_law_1894 rfl (C_X7_formationOf (M := M) hF hR g1) rfl rfl (Nat.le_of_ble_eq_true rfl) (Nat.le_of_ble_eq_true rfl) (Nat.le_of_ble_eq_true rfl) ⟨rfl, rfl⟩ wA_len rfl rfl ?_
      refine EV.eq (st' := [vi (w32 (if (if sHas F (sc xs (i + 1)) then (0 : Int) else 1) = 0 then sGr F (sc xs (i + 1)) else 0))]) (congrArg (fun v => [v]) w32_v) ?_
      refine f_istore (K := lK X) (n := 1899) dL_law_1897 rfl (Nat.le_of_ble_eq_true rfl) rfl ?_
      exact lTail (bb := bb) (i := i) (e := (exK (if sHas F (sc xs (i + 1)) then none else some xIx) xIx "" "")) (v := (w32 (if (if sHas F (sc xs (i + 1)) then (0 : Int) else 1) = 0 then sGr F (sc xs (i + 1)) else 0))) (off := 702) dL_law_1899 dL_law_1900 dL_law_1903 dL_law_1905 dL_law_1910 dL_law_1912 dL_law_1915 dL_law_1916 dL_law_1917 dL_law_1918 dL_law_1920 dL_law_1921 dL_law_1922 dL_law_1927 (by decide) wA_len (by omega) (Eq.trans sS_0 hTE) (fun q => by exfalso; omega) w32_in (kk _ _ _ _ _ _ _ _ _ _ _ _ _ _ _ _ _ _ (SIM_up (SIM_eq hs2 mEq_0) (by omega) hN))
set_option maxHeartbeats 1600000 in
theorem LC_mixedPairs {X : eXT} {a : Nat → Nat} {b b' : Nat × Nat} {bb L : Nat} {xs : Nat → Int32} {i N : Int} {z : Nat → Int} {ln : Int → Int} {F : eFs} {P : Int → Int} {D : eFs} {DQ : Int → Int} {S : eFs} {SP : Int → Int} {c n : Int} {h : eHs} {g rc : Int → Int} {T : eFs} {Mt : Int → Int → Int} {M : eFs} {o : Int → Int} {od : Nat → UInt64} (hX : X.2 = some (bb, L, xs)) (hL : L ≤ 2147483647) (hi : 0 ≤ i ∧ i + 4 ≤ L) (hb : 2 + b'.1 ≤ b.1 ∧ 12 + b'.2 ≤ b.2) (hN : N + 2400 ≤ 90000000) (hs : SIM N z ln F S c n h g rc T Mt M) (kk : lG X a bb (N + 2400) i b') :
    EV (lK X) a b (wA a z ln F P D DQ S SP c n h g rc T Mt [] ++ (wM (fun k => a (131 + k)) M ++ [eJ 1 1 o, eDd 1 od])) 1930 (lLs a bb i) [] := by
  have hs0 := hs
  obtain ⟨⟨hF, hC, hA, hR⟩, -, -, ⟨n1, n2, n3, n4, n5, n6, n7, n8, n9, n10⟩, ⟨l1, l2, l3⟩, ⟨hg, hr⟩, hT, hz, ⟨hw, hw4⟩, hN0⟩ := hs
  have hc9 := hF.1
  refine EV.bud (b' := b') (by omega) ?_
  refine e_aload_n (K := lK X) (i := 1) (n := 1931) dL_law_1930 rfl rfl ?_
  refine e_cV0 (K := lK X) (n := 1934) [0, 1, 2, 3, 4, 5, 6, 7, 8, 9, 10] lk_L_276 rfl dL_law_1931 rfl (C_X6_mixedPairs (z := z) (F := F) (P := P) hF) rfl rfl (Nat.le_of_ble_eq_true rfl) (Nat.le_of_ble_eq_true rfl) (Nat.le_of_ble_eq_true rfl) ⟨rfl, rfl⟩ rfl rfl rfl rfl rfl rfl ?_
  refine e_aload_n (K := lK X) (i := 2) (n := 1935) dL_law_1934 rfl rfl ?_
  refine e_lawQ (K := lK X) (n := 1938) (M2 := sS M 0 0) lk_L_279 rfl dL_law_1935 rfl (C_X7_mixedPairs (M := M) hF hR) rfl rfl (Nat.le_of_ble_eq_true rfl) (Nat.le_of_ble_eq_true rfl) (Nat.le_of_ble_eq_true rfl) ⟨rfl, rfl⟩ wA_len rfl rfl ?_
  exact lCmp (x := sMix F) (off := 691) dL_law_1938 (by decide) (kk _ _ _ _ _ _ _ _ _ _ _ _ _ _ _ _ _ _ (SIM_up (SIM_eq hs0 mEq_0) (by omega) hN))
set_option maxHeartbeats 1600000 in
theorem LC_mixedPairsByHandles {X : eXT} {a : Nat → Nat} {b b' : Nat × Nat} {bb L : Nat} {xs : Nat → Int32} {i N : Int} {z : Nat → Int} {ln : Int → Int} {F : eFs} {P : Int → Int} {D : eFs} {DQ : Int → Int} {S : eFs} {SP : Int → Int} {c n : Int} {h : eHs} {g rc : Int → Int} {T : eFs} {Mt : Int → Int → Int} {M : eFs} {o : Int → Int} {od : Nat → UInt64} (hX : X.2 = some (bb, L, xs)) (hL : L ≤ 2147483647) (hi : 0 ≤ i ∧ i + 4 ≤ L) (hb : 2 + b'.1 ≤ b.1 ∧ 12 + b'.2 ≤ b.2) (hN : N + 2400 ≤ 90000000) (hs : SIM N z ln F S c n h g rc T Mt M) (kk : lG X a bb (N + 2400) i b') :
    EV (lK X) a b (wA a z ln F P D DQ S SP c n h g rc T Mt [] ++ (wM (fun k => a (131 + k)) M ++ [eJ 1 1 o, eDd 1 od])) 1943 (lLs a bb i) [] := by
  have hs0 := hs
  obtain ⟨⟨hF, hC, hA, hR⟩, -, -, ⟨n1, n2, n3, n4, n5, n6, n7, n8, n9, n10⟩, ⟨l1, l2, l3⟩, ⟨hg, hr⟩, hT, hz, ⟨hw, hw4⟩, hN0⟩ := hs
  have hc9 := hF.1
  refine EV.bud (b' := b') (by omega) ?_
  refine e_aload_n (K := lK X) (i := 1) (n := 1944) dL_law_1943 rfl rfl ?_
  refine e_cV0 (K := lK X) (n := 1947) [0, 1, 2, 3, 4, 5, 6, 7, 8, 9, 10] lk_L_280 rfl dL_law_1944 rfl (C_X6_mixedPairsByHandles (z := z) (F := F) (P := P) hF) rfl rfl (Nat.le_of_ble_eq_true rfl) (Nat.le_of_ble_eq_true rfl) (Nat.le_of_ble_eq_true rfl) ⟨rfl, rfl⟩ rfl rfl rfl rfl rfl rfl ?_
  refine e_aload_n (K := lK X) (i := 2) (n := 1948) dL_law_1947 rfl rfl ?_
  refine e_lawQ (K := lK X) (n := 1951) (M2 := sS M 0 0) lk_L_283 rfl dL_law_1948 rfl (C_X7_mixedPairsByHandles (M := M) hF hR) rfl rfl (Nat.le_of_ble_eq_true rfl) (Nat.le_of_ble_eq_true rfl) (Nat.le_of_ble_eq_true rfl) ⟨rfl, rfl⟩ wA_len rfl rfl ?_
  exact lCmp (x := sMix F) (off := 678) dL_law_1951 (by decide) (kk _ _ _ _ _ _ _ _ _ _ _ _ _ _ _ _ _ _ (SIM_up (SIM_eq hs0 mEq_0) (by omega) hN))
set_option maxHeartbeats 1600000 in
theorem LC_shapeCount {X : eXT} {a : Nat → Nat} {b b' : Nat × Nat} {bb L : Nat} {xs : Nat → Int32} {i N : Int} {z : Nat → Int} {ln : Int → Int} {F : eFs} {P : Int → Int} {D : eFs} {DQ : Int → Int} {S : eFs} {SP : Int → Int} {c n : Int} {h : eHs} {g rc : Int → Int} {T : eFs} {Mt : Int → Int → Int} {M : eFs} {o : Int → Int} {od : Nat → UInt64} (hX : X.2 = some (bb, L, xs)) (hL : L ≤ 2147483647) (hi : 0 ≤ i ∧ i + 4 ≤ L) (hb : 2 + b'.1 ≤ b.1 ∧ 12 + b'.2 ≤ b.2) (hN : N + 2400 ≤ 90000000) (hs : SIM N z ln F S c n h g rc T Mt M) (kk : lG X a bb (N + 2400) i b') :
    EV (lK X) a b (wA a z ln F P D DQ S SP c n h g rc T Mt [] ++ (wM (fun k => a (131 + k)) M ++ [eJ 1 1 o, eDd 1 od])) 1956 (lLs a bb i) [] := by
  have hs0 := hs
  obtain ⟨⟨hF, hC, hA, hR⟩, -, -, ⟨n1, n2, n3, n4, n5, n6, n7, n8, n9, n10⟩, ⟨l1, l2, l3⟩, ⟨hg, hr⟩, hT, hz, ⟨hw, hw4⟩, hN0⟩ := hs
  have hc9 := hF.1
  refine EV.bud (b' := b') (by omega) ?_
  refine e_aload_n (K := lK X) (i := 1) (n := 1957) dL_law_1956 rfl rfl ?_
  refine e_cV0 (K := lK X) (n := 1960) [0, 1, 2, 3, 4, 5, 6, 7, 8, 9, 10] lk_L_284 rfl dL_law_1957 rfl (C_X6_shapeCount (z := z) (F := F) (P := P) hF) rfl rfl (Nat.le_of_ble_eq_true rfl) (Nat.le_of_ble_eq_true rfl) (Nat.le_of_ble_eq_true rfl) ⟨rfl, rfl⟩ rfl rfl rfl rfl rfl rfl ?_
  refine e_aload_n (K := lK X) (i := 2) (n := 1961) dL_law_1960 rfl rfl ?_
  refine e_lawQ (K := lK X) (n := 1964) (M2 := sS M 0 0) lk_L_287 rfl dL_law_1961 rfl (C_X7_shapeCount (M := M) hF hR) rfl rfl (Nat.le_of_ble_eq_true rfl) (Nat.le_of_ble_eq_true rfl) (Nat.le_of_ble_eq_true rfl) ⟨rfl, rfl⟩ wA_len rfl rfl ?_
  exact lCmp (x := F.1 10) (off := 665) dL_law_1964 (by decide) (kk _ _ _ _ _ _ _ _ _ _ _ _ _ _ _ _ _ _ (SIM_up (SIM_eq hs0 mEq_0) (by omega) hN))
set_option maxHeartbeats 1600000 in
theorem LC_differentShapes {X : eXT} {a : Nat → Nat} {b b' : Nat × Nat} {bb L : Nat} {xs : Nat → Int32} {i N : Int} {z : Nat → Int} {ln : Int → Int} {F : eFs} {P : Int → Int} {D : eFs} {DQ : Int → Int} {S : eFs} {SP : Int → Int} {c n : Int} {h : eHs} {g rc : Int → Int} {T : eFs} {Mt : Int → Int → Int} {M : eFs} {o : Int → Int} {od : Nat → UInt64} (hX : X.2 = some (bb, L, xs)) (hL : L ≤ 2147483647) (hi : 0 ≤ i ∧ i + 4 ≤ L) (hb : 2 + b'.1 ≤ b.1 ∧ 12 + b'.2 ≤ b.2) (hN : N + 2400 ≤ 90000000) (hs : SIM N z ln F S c n h g rc T Mt M) (kk : lG X a bb (N + 2400) i b') :
    EV (lK X) a b (wA a z ln F P D DQ S SP c n h g rc T Mt [] ++ (wM (fun k => a (131 + k)) M ++ [eJ 1 1 o, eDd 1 od])) 1969 (lLs a bb i) [] := by
  have hs0 := hs
  obtain ⟨⟨hF, hC, hA, hR⟩, -, -, ⟨n1, n2, n3, n4, n5, n6, n7, n8, n9, n10⟩, ⟨l1, l2, l3⟩, ⟨hg, hr⟩, hT, hz, ⟨hw, hw4⟩, hN0⟩ := hs
  have hc9 := hF.1
  refine EV.bud (b' := b') (by omega) ?_
  refine e_aload_n (K := lK X) (i := 1) (n := 1970) dL_law_1969 rfl rfl ?_
  refine e_cV0 (K := lK X) (n := 1973) [0, 1, 2, 3, 4, 5, 6, 7, 8, 9, 10] lk_L_288 rfl dL_law_1970 rfl (C_X6_differentShapes (z := z) (F := F) (P := P) hF) rfl rfl (Nat.le_of_ble_eq_true rfl) (Nat.le_of_ble_eq_true rfl) (Nat.le_of_ble_eq_true rfl) ⟨rfl, rfl⟩ rfl rfl rfl rfl rfl rfl ?_
  refine e_aload_n (K := lK X) (i := 2) (n := 1974) dL_law_1973 rfl rfl ?_
  refine e_lawQ (K := lK X) (n := 1977) (M2 := sS M 0 0) lk_L_291 rfl dL_law_1974 rfl (C_X7_differentShapes (M := M) hF hR) rfl rfl (Nat.le_of_ble_eq_true rfl) (Nat.le_of_ble_eq_true rfl) (Nat.le_of_ble_eq_true rfl) ⟨rfl, rfl⟩ wA_len rfl rfl ?_
  exact lCmp (x := sDif F) (off := 652) dL_law_1977 (by decide) (kk _ _ _ _ _ _ _ _ _ _ _ _ _ _ _ _ _ _ (SIM_up (SIM_eq hs0 mEq_0) (by omega) hN))
set_option maxHeartbeats 1600000 in
theorem LC_isConsistent {X : eXT} {a : Nat → Nat} {b b' : Nat × Nat} {bb L : Nat} {xs : Nat → Int32} {i N : Int} {z : Nat → Int} {ln : Int → Int} {F : eFs} {P : Int → Int} {D : eFs} {DQ : Int → Int} {S : eFs} {SP : Int → Int} {c n : Int} {h : eHs} {g rc : Int → Int} {T : eFs} {Mt : Int → Int → Int} {M : eFs} {o : Int → Int} {od : Nat → UInt64} (hX : X.2 = some (bb, L, xs)) (hL : L ≤ 2147483647) (hi : 0 ≤ i ∧ i + 4 ≤ L) (hb : 2 + b'.1 ≤ b.1 ∧ 12 + b'.2 ≤ b.2) (hN : N + 2400 ≤ 90000000) (hs : SIM N z ln F S c n h g rc T Mt M) (kk : lG X a bb (N + 2400) i b') :
    EV (lK X) a b (wA a z ln F P D DQ S SP c n h g rc T Mt [] ++ (wM (fun k => a (131 + k)) M ++ [eJ 1 1 o, eDd 1 od])) 2515 (lLs a bb i) [] := by
  have hs0 := hs
  obtain ⟨⟨hF, hC, hA, hR⟩, -, -, ⟨n1, n2, n3, n4, n5, n6, n7, n8, n9, n10⟩, ⟨l1, l2, l3⟩, ⟨hg, hr⟩, hT, hz, ⟨hw, hw4⟩, hN0⟩ := hs
  have hc9 := hF.1
  refine EV.bud (b' := b') (by omega) ?_
  refine e_aload_n (K := lK X) (i := 1) (n := 2516) dL_law_2515 rfl rfl ?_
  refine e_cV1 (K := lK X) (n := 2519) [0, 1, 2, 3, 4, 5, 6, 7, 8, 9, 10, 113, 114, 115] lk_L_324 rfl dL_law_2516 rfl (C_X6_isConsistent (z := z) (F := F) (P := P) (g := g) (rc := rc) hF hg hr (okA_clr hF hA)) rfl rfl (Nat.le_of_ble_eq_true rfl) (Nat.le_of_ble_eq_true rfl) (Nat.le_of_ble_eq_true rfl) ⟨rfl, rfl⟩ rfl rfl rfl rfl rfl rfl (fun cs1 q => by obtain ⟨g1, rc1, q, -⟩ := q; rw [q]; rfl) (fun cs1 q => ?_)
  obtain ⟨g2, rc2, q1, hr2, hg2⟩ := q
  subst q1
  refine EV.ceq (cs' := wA a z ln F P D DQ S SP c n h g2 rc2 T Mt [] ++ (wM (fun k => a (131 + k)) M ++ [eJ 1 1 o, eDd 1 od])) (by rw [← wA_tl, ← wA_tl]; exact gOFG (t := (wM (fun k => a (131 + k)) M ++ [eJ 1 1 o, eDd 1 od])) (O' := [wO (a 1) (a 11) (a 21) (a 31) (a 113) (a 116) (a 130) (z)]) (F' := wFl (fun k => a (1 + k)) (F) (P)) (G' := [.inr (3, [.ref (a 114), .ref (a 115)]), eI 0 10 g2, eI 0 10 rc2]) rfl rfl rfl rfl rfl rfl rfl rfl rfl rfl rfl) ?_
  refine e_aload_n (K := lK X) (i := 2) (n := 2520) dL_law_2519 rfl rfl ?_
  refine e_lawQ (K := lK X) (n := 2523) (M2 := sS M 0 0) lk_L_328 rfl dL_law_2520 rfl (C_X7_isConsistent (M := M)) rfl rfl (Nat.le_of_ble_eq_true rfl) (Nat.le_of_ble_eq_true rfl) (Nat.le_of_ble_eq_true rfl) ⟨rfl, rfl⟩ wA_len rfl rfl ?_
  refine EV.eq (st' := [vi 1, vi 1]) rfl ?_
  exact lCmp (x := 1) (off := 106) dL_law_2523 (by decide) (kk _ _ _ _ _ _ _ _ _ _ _ _ _ _ _ _ _ _ (SIM_up (SIM_eq (SIM_g hs0 hg2 hr2) mEq_0) (by omega) hN))
set_option maxHeartbeats 1600000 in
theorem LC_save {X : eXT} {a : Nat → Nat} {b b' : Nat × Nat} {bb L : Nat} {xs : Nat → Int32} {i N : Int} {z : Nat → Int} {ln : Int → Int} {F : eFs} {P : Int → Int} {D : eFs} {DQ : Int → Int} {S : eFs} {SP : Int → Int} {c n : Int} {h : eHs} {g rc : Int → Int} {T : eFs} {Mt : Int → Int → Int} {M : eFs} {o : Int → Int} {od : Nat → UInt64} (hX : X.2 = some (bb, L, xs)) (hL : L ≤ 2147483647) (hi : 0 ≤ i ∧ i + 4 ≤ L) (hb : 2 + b'.1 ≤ b.1 ∧ 12 + b'.2 ≤ b.2) (hN : N + 2400 ≤ 90000000) (hs : SIM N z ln F S c n h g rc T Mt M) (kk : lG X a bb (N + 2400) i b') :
    EV (lK X) a b (wA a z ln F P D DQ S SP c n h g rc T Mt [] ++ (wM (fun k => a (131 + k)) M ++ [eJ 1 1 o, eDd 1 od])) 2572 (lLs a bb i) [] := by
  have hs0 := hs
  obtain ⟨⟨hF, hC, hA, hR⟩, -, -, ⟨n1, n2, n3, n4, n5, n6, n7, n8, n9, n10⟩, ⟨l1, l2, l3⟩, ⟨hg, hr⟩, hT, hz, ⟨hw, hw4⟩, hN0⟩ := hs
  have hc9 := hF.1
  refine EV.bud (b' := b') (by omega) ?_
  refine e_aload_n (K := lK X) (i := 1) (n := 2573) dL_law_2572 rfl rfl ?_
  refine e_cV2 (K := lK X) (n := 2576) (cs' := wA a (zS z 5 1) ln F P D DQ F SP c n h g rc T Mt [] ++ (wM (fun k => a (131 + k)) M ++ [eJ 1 1 o, eDd 1 od])) [0, 1, 2, 3, 4, 5, 6, 7, 8, 9, 10, 21, 22, 23, 24, 25, 26, 27, 28, 29, 30] lk_L_332 rfl dL_law_2573 rfl (C_X6_save (z := z) (F := F) (P := P) (F2 := S) (P2 := SP)) rfl rfl (Nat.le_of_ble_eq_true rfl) (Nat.le_of_ble_eq_true rfl) (Nat.le_of_ble_eq_true rfl) ⟨rfl, rfl⟩ rfl rfl rfl rfl rfl rfl rfl (by rw [← wA_tl, ← wA_tl]; exact gOFS (t := (wM (fun k => a (131 + k)) M ++ [eJ 1 1 o, eDd 1 od])) (O' := [wO (a 1) (a 11) (a 21) (a 31) (a 113) (a 116) (a 130) (zS z 5 1)]) (F' := wFl (fun k => a (1 + k)) (F) (P)) (S' := wFl (fun k => a (21 + k)) (F) (SP)) rfl rfl rfl rfl rfl rfl rfl rfl rfl rfl rfl) ?_
  refine e_aload_n (K := lK X) (i := 2) (n := 2577) dL_law_2576 rfl rfl ?_
  refine e_lawQ (K := lK X) (n := 2580) (M2 := sR (sS (sS M 0 0) 2 1) 0 (eCy (M.2 0) (M.2 0) (250 * 0) (250 * 9) 250)) lk_L_335 rfl dL_law_2577 rfl (C_X7_save (M := M) hF hR) rfl rfl (Nat.le_of_ble_eq_true rfl) (Nat.le_of_ble_eq_true rfl) (Nat.le_of_ble_eq_true rfl) ⟨rfl, rfl⟩ wA_len rfl rfl ?_
  exact lCmp (x := F.1 0) (off := 49) dL_law_2580 (by decide) (kk _ _ _ _ _ _ _ _ _ _ _ _ _ _ _ _ _ _ (SIM_up (SIM_save hs0) (by omega) hN))
