/-! ===== the law: cases ===== -/
set_option maxHeartbeats 1600000 in
theorem LC_append {X : eXT} {a : Nat → Nat} {b b' : Nat × Nat} {bb L : Nat} {xs : Nat → Int32} {i N : Int} {z : Nat → Int} {ln : Int → Int} {F : eFs} {P : Int → Int} {D : eFs} {DQ : Int → Int} {S : eFs} {SP : Int → Int} {c n : Int} {h : eHs} {g rc : Int → Int} {T : eFs} {Mt : Int → Int → Int} {M : eFs} {o : Int → Int} {od : Nat → UInt64} (hX : X.2 = some (bb, L, xs)) (hL : L ≤ 2147483647) (hi : 0 ≤ i ∧ i + 4 ≤ L) (hb : 2 + b'.1 ≤ b.1 ∧ 12 + b'.2 ≤ b.2) (hN : N + 2400 ≤ 90000000) (hs : SIM N z ln F S c n h g rc T Mt M) (kk : lG X a bb (N + 2400) i b') :
    EV (lK X) a b (wA a z ln F P D DQ S SP c n h g rc T Mt [] ++ (wM (fun k => a (131 + k)) M ++ [eJ 1 1 o, eDd 1 od])) 2082 (lLs a bb i) [] := by
  have hs0 := hs
  obtain ⟨⟨hF, hC, hA, hR⟩, -, -, ⟨n1, n2, n3, n4, n5, n6, n7, n8, n9, n10⟩, ⟨l1, l2, l3⟩, ⟨hg, hr⟩, hT, hz, ⟨hw, hw4⟩, hN0⟩ := hs
  have hc9 := hF.1
  have g1 := sc_in (xs := xs) (z := i + 1)
  have gc := lowc_in (x := sc xs (i + 1))
  have hTE : (if 32 ≤ (lowc (sc xs (i + 1))) ∧ (lowc (sc xs (i + 1))) ≤ 126 then (if M.1 6 = 60 then (2 : Int) else 0) else 1) = exK ((if 32 ≤ (lowc (sc xs (i + 1))) ∧ (lowc (sc xs (i + 1))) ≤ 126 then (if T.1 0 < 60 then none else some xSt) else some xAr)) xAr xSt "" := by
    have t1 := hT.1
    rw [exK_i2 (by decide)]
    (repeat' split) <;> first | rfl | contradiction | (exfalso; omega)
  have hV : (if 32 ≤ (lowc (sc xs (i + 1))) ∧ (lowc (sc xs (i + 1))) ≤ 126 then (if M.1 6 = 60 then (2 : Int) else 0) else 1) = 0 → (if (if 32 ≤ (lowc (sc xs (i + 1))) ∧ (lowc (sc xs (i + 1))) ≤ 126 then (if M.1 6 = 60 then (2 : Int) else 0) else 1) = 0 then M.1 6 + 1 else 0 : Int) = T.1 0 + 1 := fun q => (if_pos q).trans (by rw [n6])
  have e0 : (if 32 ≤ (lowc (sc xs (i + 1))) ∧ (lowc (sc xs (i + 1))) ≤ 126 then (if T.1 0 < 60 then none else some xSt) else some xAr : Option String) = none ↔ ((32 ≤ (lowc (sc xs (i + 1))) ∧ (lowc (sc xs (i + 1))) ≤ 126) ∧ T.1 0 < 60) := ite_n2
  refine e_aload_n (K := lK X) (i := 1) (n := 2083) dL_law_2082 rfl rfl ?_
  refine lArg (k := 1) dL_law_2083 dL_law_2084 dL_law_2086 dL_law_2087 dL_law_2088 hX hL rfl rfl (by omega) ?_
  refine e_i2cr (K := lK X) (n := 2090) (y := lowc (sc xs (i + 1))) dL_law_2089 rfl lowc_v ?_
  refine e_aload_n (K := lK X) (i := 3) (n := 2091) dL_law_2090 rfl rfl ?_
  refine e_lawW (K := lK X) (b' := b') (n := 2094) lk_L_298 (by decide) dL_law_2091 rfl (W_append hT gc) rfl rfl (Nat.le_of_ble_eq_true rfl) (Nat.le_of_ble_eq_true rfl) (Nat.le_of_ble_eq_true rfl) ⟨hb.1, hb.2⟩ wA_len wA_len wA_len wM_6 (fun he => ?_) (fun he => ?_)
  · refine EV.eq (st' := [vi 0]) (by show [vi (exK ((if 32 ≤ (lowc (sc xs (i + 1))) ∧ (lowc (sc xs (i + 1))) ≤ 126 then (if T.1 0 < 60 then none else some xSt) else some xAr)) xAr xSt "")] = _; rw [exK_n he]) ?_
    refine f_istore (K := lK X) (n := 2096) dL_law_2094 rfl (Nat.le_of_ble_eq_true rfl) rfl ?_
    refine e_aload_n (K := lK X) (i := 2) (n := 2097) dL_law_2096 rfl rfl ?_
    refine lArg (k := 1) dL_law_2097 dL_law_2098 dL_law_2100 dL_law_2101 dL_law_2102 hX hL rfl rfl (by omega) ?_
    refine e_i2cr (K := lK X) (n := 2104) (y := lowc (sc xs (i + 1))) dL_law_2103 rfl lowc_v ?_
    refine e_lawQ (K := lK X) (n := 2107) (M2 := mApp M (lowc (sc xs (i + 1)))) lk_L_301 rfl dL_law_2104 rfl (C_X7_append (M := M) gc (by have := hT.1; omega)) rfl rfl (Nat.le_of_ble_eq_true rfl) (Nat.le_of_ble_eq_true rfl) (Nat.le_of_ble_eq_true rfl) ⟨rfl, rfl⟩ wA_len rfl rfl ?_
    refine EV.eq (st' := [vi (w32 (T.1 0 + 1))]) (by show [vi (if (if 32 ≤ (lowc (sc xs (i + 1))) ∧ (lowc (sc xs (i + 1))) ≤ 126 then (if M.1 6 = 60 then (2 : Int) else 0) else 1) = 0 then M.1 6 + 1 else 0)] = _; rw [hV (hTE.trans (exK_n he))]; exact congrArg (fun v => [v]) w32_v) ?_
    refine f_istore (K := lK X) (n := 2109) dL_law_2107 rfl (Nat.le_of_ble_eq_true rfl) rfl ?_
    exact lTail (bb := bb) (i := i) (e := 0) (v := (w32 (T.1 0 + 1))) (off := 492) dL_law_2109 dL_law_2110 dL_law_2113 dL_law_2115 dL_law_2120 dL_law_2122 dL_law_2125 dL_law_2126 dL_law_2127 dL_law_2128 dL_law_2130 dL_law_2131 dL_law_2132 dL_law_2137 (by decide) wA_len (by decide) (Eq.trans (by unfold mApp; (repeat' split) <;> rfl) (hTE.trans (exK_n he))) (fun _ => eU_self) w32_in (kk _ _ _ _ _ _ _ _ _ _ _ _ _ _ _ _ _ _ (SIM_up ((SIM_app hs0).1 (e0.mp he)) (by omega) hN))
  · have hx3 := exK_in (e1 := xAr) (e2 := xSt) (e3 := "") he
    refine f_istore (K := lK X) (n := 2096) dL_law_2094 rfl (Nat.le_of_ble_eq_true rfl) rfl ?_
    refine e_aload_n (K := lK X) (i := 2) (n := 2097) dL_law_2096 rfl rfl ?_
    refine lArg (k := 1) dL_law_2097 dL_law_2098 dL_law_2100 dL_law_2101 dL_law_2102 hX hL rfl rfl (by omega) ?_
    refine e_i2cr (K := lK X) (n := 2104) (y := lowc (sc xs (i + 1))) dL_law_2103 rfl lowc_v ?_
    refine e_lawQ (K := lK X) (n := 2107) (M2 := mApp M (lowc (sc xs (i + 1)))) lk_L_301 rfl dL_law_2104 rfl (C_X7_append (M := M) gc (by have := hT.1; omega)) rfl rfl (Nat.le_of_ble_eq_true rfl) (Nat.le_of_ble_eq_true rfl) (Nat.le_of_ble_eq_true rfl) ⟨rfl, rfl⟩ wA_len rfl rfl ?_
    refine EV.eq (st' := [vi (w32 (if (if 32 ≤ (lowc (sc xs (i + 1))) ∧ (lowc (sc xs (i + 1))) ≤ 126 then (if M.1 6 = 60 then (2 : Int) else 0) else 1) = 0 then M.1 6 + 1 else 0))]) (congrArg (fun v => [v]) w32_v) ?_
    refine f_istore (K := lK X) (n := 2109) dL_law_2107 rfl (Nat.le_of_ble_eq_true rfl) rfl ?_
    exact lTail (bb := bb) (i := i) (e := (exK ((if 32 ≤ (lowc (sc xs (i + 1))) ∧ (lowc (sc xs (i + 1))) ≤ 126 then (if T.1 0 < 60 then none else some xSt) else some xAr)) xAr xSt "")) (v := (w32 (if (if 32 ≤ (lowc (sc xs (i + 1))) ∧ (lowc (sc xs (i + 1))) ≤ 126 then (if M.1 6 = 60 then (2 : Int) else 0) else 1) = 0 then M.1 6 + 1 else 0))) (off := 492) dL_law_2109 dL_law_2110 dL_law_2113 dL_law_2115 dL_law_2120 dL_law_2122 dL_law_2125 dL_law_2126 dL_law_2127 dL_law_2128 dL_law_2130 dL_law_2131 dL_law_2132 dL_law_2137 (by decide) wA_len (by omega) (Eq.trans (by unfold mApp; (repeat' split) <;> rfl) hTE) (fun q => by exfalso; omega) w32_in (kk _ _ _ _ _ _ _ _ _ _ _ _ _ _ _ _ _ _ (SIM_up ((SIM_app hs0).2 (fun q => he (e0.mpr q))) (by omega) hN))
set_option maxHeartbeats 1600000 in
theorem LC_run {X : eXT} {a : Nat → Nat} {b b' : Nat × Nat} {bb L : Nat} {xs : Nat → Int32} {i N : Int} {z : Nat → Int} {ln : Int → Int} {F : eFs} {P : Int → Int} {D : eFs} {DQ : Int → Int} {S : eFs} {SP : Int → Int} {c n : Int} {h : eHs} {g rc : Int → Int} {T : eFs} {Mt : Int → Int → Int} {M : eFs} {o : Int → Int} {od : Nat → UInt64} (hX : X.2 = some (bb, L, xs)) (hL : L ≤ 2147483647) (hi : 0 ≤ i ∧ i + 4 ≤ L) (hb : 2 + b'.1 ≤ b.1 ∧ 12 + b'.2 ≤ b.2) (hN : N + 2400 ≤ 90000000) (hs : SIM N z ln F S c n h g rc T Mt M) (kk : lG X a bb (N + 2400) i b') :
    EV (lK X) a b (wA a z ln F P D DQ S SP c n h g rc T Mt [] ++ (wM (fun k => a (131 + k)) M ++ [eJ 1 1 o, eDd 1 od])) 2140 (lLs a bb i) [] := by
  have hs0 := hs
  obtain ⟨⟨hF, hC, hA, hR⟩, -, -, ⟨n1, n2, n3, n4, n5, n6, n7, n8, n9, n10⟩, ⟨l1, l2, l3⟩, ⟨hg, hr⟩, hT, hz, ⟨hw, hw4⟩, hN0⟩ := hs
  have hc9 := hF.1
  have hTE : mRT M F (T.2 1) Mt = exK ((if (tPR T Mt).1 = -1 then (if (sRn ((tPR T Mt).2.2.2.1) ((tPR T Mt).2.2.2.2) ((tPR T Mt).2.1 - 0).toNat 0 F DQ).1 = -1 then none else some xSt) else some xAr)) xAr xSt "" := by
    rw [exK_i2 (by decide)]
    unfold mRT mRN
    rw [← mPR_t n6 n7, (sRn_P (tPR T Mt).2.2.2.1 (tPR T Mt).2.2.2.2 ((tPR T Mt).2.1 - 0).toNat 0 F P0 DQ).1]
  have hV : mRT M F (T.2 1) Mt = 0 → (if mRT M F (T.2 1) Mt = 0 then (mPR M (T.2 1) Mt).2.1 else 0 : Int) = (tPR T Mt).2.1 := fun q => (if_pos q).trans (by rw [← mPR_t n6 n7])
  have e0 : (if (tPR T Mt).1 = -1 then (if (sRn (tPR T Mt).2.2.2.1 (tPR T Mt).2.2.2.2 ((tPR T Mt).2.1 - 0).toNat 0 F DQ).1 = -1 then none else some xSt) else some xAr : Option String) = none ↔ ((tPR T Mt).1 = -1 ∧ (sRn (tPR T Mt).2.2.2.1 (tPR T Mt).2.2.2.2 ((tPR T Mt).2.1 - 0).toNat 0 F DQ).1 = -1) := ite_n2
  refine e_aload_n (K := lK X) (i := 1) (n := 2141) dL_law_2140 rfl rfl ?_
  refine e_aload_n (K := lK X) (i := 3) (n := 2142) dL_law_2141 rfl rfl ?_
  refine e_lawW (K := lK X) (b' := b') (n := 2145) lk_L_302 (by decide) dL_law_2142 rfl (W_run hF hT hz n1 n2 hC (by omega)) rfl rfl (Nat.le_of_ble_eq_true rfl) (Nat.le_of_ble_eq_true rfl) (Nat.le_of_ble_eq_true rfl) ⟨hb.1, hb.2⟩ wA_len wA_len wA_len wM_6 (fun he => ?_) (fun he => ?_)
  · refine EV.eq (st' := [vi 0]) (by show [vi (exK ((if (tPR T Mt).1 = -1 then (if (sRn ((tPR T Mt).2.2.2.1) ((tPR T Mt).2.2.2.2) ((tPR T Mt).2.1 - 0).toNat 0 F DQ).1 = -1 then none else some xSt) else some xAr)) xAr xSt "")] = _; rw [exK_n he]) ?_
    refine f_istore (K := lK X) (n := 2147) dL_law_2145 rfl (Nat.le_of_ble_eq_true rfl) rfl ?_
    refine e_aload_n (K := lK X) (i := 2) (n := 2148) dL_law_2147 rfl rfl ?_
    refine e_lawP (K := lK X) (n := 2151) (Pr := fun M2 => mRu M M2 F (T.2 1) Mt) lk_L_304 rfl dL_law_2148 rfl (C_X7_run (M := M) (Kc := T.2 1) (Mc := Mt) hF hR ⟨by have := hT.1; omega, by rw [← n7]; exact hT.2.2.2.1⟩ (by omega) (by omega) (by rw [← mPR_t n6 n7]; exact (tPR_in hT).2.2.2.1) (by rw [← mPR_t n6 n7]; exact (tPR_in hT).2.2.2.2)) (fun _ q => q) rfl rfl (Nat.le_of_ble_eq_true rfl) (Nat.le_of_ble_eq_true rfl) (Nat.le_of_ble_eq_true rfl) ⟨rfl, rfl⟩ wA_len rfl rfl (fun M2 m => ?_)
    refine EV.eq (st' := [vi (w32 ((tPR T Mt).2.1))]) (by show [vi (if mRT M F (T.2 1) Mt = 0 then (mPR M (T.2 1) Mt).2.1 else 0)] = _; rw [hV (hTE.trans (exK_n he))]; exact congrArg (fun v => [v]) w32_v) ?_
    refine f_istore (K := lK X) (n := 2153) dL_law_2151 rfl (Nat.le_of_ble_eq_true rfl) rfl ?_
    exact lTail (bb := bb) (i := i) (e := 0) (v := (w32 ((tPR T Mt).2.1))) (off := 448) dL_law_2153 dL_law_2154 dL_law_2157 dL_law_2159 dL_law_2164 dL_law_2166 dL_law_2169 dL_law_2170 dL_law_2171 dL_law_2172 dL_law_2174 dL_law_2175 dL_law_2176 dL_law_2181 (by decide) wA_len (by decide) (m.1.trans (hTE.trans (exK_n he))) (fun _ => eU_self) w32_in (kk _ _ _ _ _ _ _ _ _ _ _ _ _ _ _ _ _ _ ((SIM_run (DQ := DQ) hs0 hN m).2.1 (e0.mp he).1 (e0.mp he).2))
  · have hx3 := exK_in (e1 := xAr) (e2 := xSt) (e3 := "") he
    refine f_istore (K := lK X) (n := 2147) dL_law_2145 rfl (Nat.le_of_ble_eq_true rfl) rfl ?_
    refine e_aload_n (K := lK X) (i := 2) (n := 2148) dL_law_2147 rfl rfl ?_
    refine e_lawP (K := lK X) (n := 2151) (Pr := fun M2 => mRu M M2 F (T.2 1) Mt) lk_L_304 rfl dL_law_2148 rfl (C_X7_run (M := M) (Kc := T.2 1) (Mc := Mt) hF hR ⟨by have := hT.1; omega, by rw [← n7]; exact hT.2.2.2.1⟩ (by omega) (by omega) (by rw [← mPR_t n6 n7]; exact (tPR_in hT).2.2.2.1) (by rw [← mPR_t n6 n7]; exact (tPR_in hT).2.2.2.2)) (fun _ q => q) rfl rfl (Nat.le_of_ble_eq_true rfl) (Nat.le_of_ble_eq_true rfl) (Nat.le_of_ble_eq_true rfl) ⟨rfl, rfl⟩ wA_len rfl rfl (fun M2 m => ?_)
    refine EV.eq (st' := [vi (w32 (if mRT M F (T.2 1) Mt = 0 then (mPR M (T.2 1) Mt).2.1 else 0))]) (congrArg (fun v => [v]) w32_v) ?_
    refine f_istore (K := lK X) (n := 2153) dL_law_2151 rfl (Nat.le_of_ble_eq_true rfl) rfl ?_
    exact lTail (bb := bb) (i := i) (e := (exK ((if (tPR T Mt).1 = -1 then (if (sRn ((tPR T Mt).2.2.2.1) ((tPR T Mt).2.2.2.2) ((tPR T Mt).2.1 - 0).toNat 0 F DQ).1 = -1 then none else some xSt) else some xAr)) xAr xSt "")) (v := (w32 (if mRT M F (T.2 1) Mt = 0 then (mPR M (T.2 1) Mt).2.1 else 0))) (off := 448) dL_law_2153 dL_law_2154 dL_law_2157 dL_law_2159 dL_law_2164 dL_law_2166 dL_law_2169 dL_law_2170 dL_law_2171 dL_law_2172 dL_law_2174 dL_law_2175 dL_law_2176 dL_law_2181 (by decide) wA_len (by omega) (Eq.trans m.1 hTE) (fun q => by exfalso; omega) w32_in (kk _ _ _ _ _ _ _ _ _ _ _ _ _ _ _ _ _ _ (by
          by_cases q1 : (tPR T Mt).1 = -1
          · have w := (SIM_run (DQ := DQ) hs0 hN m).2.2.1 q1 (fun q2 => he (e0.mpr ⟨q1, q2⟩))
            simp only [if_pos q1]
            exact w
          · have w := (SIM_run (DQ := DQ) hs0 hN m).2.2.2 q1
            simp only [if_neg q1]
            exact w))
set_option maxHeartbeats 1600000 in
theorem LC_errorPosition {X : eXT} {a : Nat → Nat} {b b' : Nat × Nat} {bb L : Nat} {xs : Nat → Int32} {i N : Int} {z : Nat → Int} {ln : Int → Int} {F : eFs} {P : Int → Int} {D : eFs} {DQ : Int → Int} {S : eFs} {SP : Int → Int} {c n : Int} {h : eHs} {g rc : Int → Int} {T : eFs} {Mt : Int → Int → Int} {M : eFs} {o : Int → Int} {od : Nat → UInt64} (hX : X.2 = some (bb, L, xs)) (hL : L ≤ 2147483647) (hi : 0 ≤ i ∧ i + 4 ≤ L) (hb : 2 + b'.1 ≤ b.1 ∧ 12 + b'.2 ≤ b.2) (hN : N + 2400 ≤ 90000000) (hs : SIM N z ln F S c n h g rc T Mt M) (kk : lG X a bb (N + 2400) i b') :
    EV (lK X) a b (wA a z ln F P D DQ S SP c n h g rc T Mt [] ++ (wM (fun k => a (131 + k)) M ++ [eJ 1 1 o, eDd 1 od])) 2184 (lLs a bb i) [] := by
  have hs0 := hs
  obtain ⟨⟨hF, hC, hA, hR⟩, -, -, ⟨n1, n2, n3, n4, n5, n6, n7, n8, n9, n10⟩, ⟨l1, l2, l3⟩, ⟨hg, hr⟩, hT, hz, ⟨hw, hw4⟩, hN0⟩ := hs
  have hc9 := hF.1
  have hTE : (if ¬ M.1 9 = -1 then (0 : Int) else 1) = exK ((if ¬ z 0 = -1 then none else some xNo)) xNo "" "" := by
    rw [exK_i1, n8]
  have hV : (if ¬ M.1 9 = -1 then (0 : Int) else 1) = 0 → (if (if ¬ M.1 9 = -1 then (0 : Int) else 1) = 0 then M.1 9 else 0 : Int) = z 0 := fun q => (if_pos q).trans n8.symm
  refine e_aload_n (K := lK X) (i := 1) (n := 2185) dL_law_2184 rfl rfl ?_
  refine e_aload_n (K := lK X) (i := 3) (n := 2186) dL_law_2185 rfl rfl ?_
  refine e_lawW (K := lK X) (b' := b') (n := 2189) lk_L_305 (by decide) dL_law_2186 rfl (W_errorPosition hF hz) rfl rfl (Nat.le_of_ble_eq_true rfl) (Nat.le_of_ble_eq_true rfl) (Nat.le_of_ble_eq_true rfl) ⟨hb.1, hb.2⟩ wA_len wA_len wA_len wM_6 (fun he => ?_) (fun he => ?_)
  · refine EV.eq (st' := [vi 0]) (by show [vi (exK ((if ¬ z 0 = -1 then none else some xNo)) xNo "" "")] = _; rw [exK_n he]) ?_
    refine f_istore (K := lK X) (n := 2191) dL_law_2189 rfl (Nat.le_of_ble_eq_true rfl) rfl ?_
    refine e_aload_n (K := lK X) (i := 2) (n := 2192) dL_law_2191 rfl rfl ?_
    refine e_lawQ (K := lK X) (n := 2195) (M2 := sS M 0 (if ¬ M.1 9 = -1 then (0 : Int) else 1)) lk_L_307 rfl dL_law_2192 rfl (C_X7_errorPosition (M := M) (by have := hz.1; omega)) rfl rfl (Nat.le_of_ble_eq_true rfl) (Nat.le_of_ble_eq_true rfl) (Nat.le_of_ble_eq_true rfl) ⟨rfl, rfl⟩ wA_len rfl rfl ?_
    refine EV.eq (st' := [vi (w32 (z 0))]) (by show [vi (if (if ¬ M.1 9 = -1 then (0 : Int) else 1) = 0 then M.1 9 else 0)] = _; rw [hV (hTE.trans (exK_n he))]; exact congrArg (fun v => [v]) w32_v) ?_
    refine f_istore (K := lK X) (n := 2197) dL_law_2195 rfl (Nat.le_of_ble_eq_true rfl) rfl ?_
    exact lTail (bb := bb) (i := i) (e := 0) (v := (w32 (z 0))) (off := 404) dL_law_2197 dL_law_2198 dL_law_2201 dL_law_2203 dL_law_2208 dL_law_2210 dL_law_2213 dL_law_2214 dL_law_2215 dL_law_2216 dL_law_2218 dL_law_2219 dL_law_2220 dL_law_2225 (by decide) wA_len (by decide) (sS_0.trans (hTE.trans (exK_n he))) (fun _ => eU_self) w32_in (kk _ _ _ _ _ _ _ _ _ _ _ _ _ _ _ _ _ _ (SIM_up (SIM_eq hs0 mEq_0) (by omega) hN))
  · have hx3 := exK_in (e1 := xNo) (e2 := "") (e3 := "") he
    refine f_istore (K := lK X) (n := 2191) dL_law_2189 rfl (Nat.le_of_ble_eq_true rfl) rfl ?_
    refine e_aload_n (K := lK X) (i := 2) (n := 2192) dL_law_2191 rfl rfl ?_
    refine e_lawQ (K := lK X) (n := 2195) (M2 := sS M 0 (if ¬ M.1 9 = -1 then (0 : Int) else 1)) lk_L_307 rfl dL_law_2192 rfl (C_X7_errorPosition (M := M) (by have := hz.1; omega)) rfl rfl (Nat.le_of_ble_eq_true rfl) (Nat.le_of_ble_eq_true rfl) (Nat.le_of_ble_eq_true rfl) ⟨rfl, rfl⟩ wA_len rfl rfl ?_
    refine EV.eq (st' := [vi (w32 (if (if ¬ M.1 9 = -1 then (0 : Int) else 1) = 0 then M.1 9 else 0))]) (congrArg (fun v => [v]) w32_v) ?_
    refine f_istore (K := lK X) (n := 2197) dL_law_2195 rfl (Nat.le_of_ble_eq_true rfl) rfl ?_
    exact lTail (bb := bb) (i := i) (e := (exK ((if ¬ z 0 = -1 then none else some xNo)) xNo "" "")) (v := (w32 (if (if ¬ M.1 9 = -1 then (0 : Int) else 1) = 0 then M.1 9 else 0))) (off := 404) dL_law_2197 dL_law_2198 dL_law_2201 dL_law_2203 dL_law_2208 dL_law_2210 dL_law_2213 dL_law_2214 dL_law_2215 dL_law_2216 dL_law_2218 dL_law_2219 dL_law_2220 dL_law_2225 (by decide) wA_len (by omega) (Eq.trans sS_0 hTE) (fun q => by exfalso; omega) w32_in (kk _ _ _ _ _ _ _ _ _ _ _ _ _ _ _ _ _ _ (SIM_up (SIM_eq hs0 mEq_0) (by omega) hN))
set_option maxHeartbeats 1600000 in
theorem LC_failedCommand {X : eXT} {a : Nat → Nat} {b b' : Nat × Nat} {bb L : Nat} {xs : Nat → Int32} {i N : Int} {z : Nat → Int} {ln : Int → Int} {F : eFs} {P : Int → Int} {D : eFs} {DQ : Int → Int} {S : eFs} {SP : Int → Int} {c n : Int} {h : eHs} {g rc : Int → Int} {T : eFs} {Mt : Int → Int → Int} {M : eFs} {o : Int → Int} {od : Nat → UInt64} (hX : X.2 = some (bb, L, xs)) (hL : L ≤ 2147483647) (hi : 0 ≤ i ∧ i + 4 ≤ L) (hb : 2 + b'.1 ≤ b.1 ∧ 12 + b'.2 ≤ b.2) (hN : N + 2400 ≤ 90000000) (hs : SIM N z ln F S c n h g rc T Mt M) (kk : lG X a bb (N + 2400) i b') :
    EV (lK X) a b (wA a z ln F P D DQ S SP c n h g rc T Mt [] ++ (wM (fun k => a (131 + k)) M ++ [eJ 1 1 o, eDd 1 od])) 2228 (lLs a bb i) [] := by
  have hs0 := hs
  obtain ⟨⟨hF, hC, hA, hR⟩, -, -, ⟨n1, n2, n3, n4, n5, n6, n7, n8, n9, n10⟩, ⟨l1, l2, l3⟩, ⟨hg, hr⟩, hT, hz, ⟨hw, hw4⟩, hN0⟩ := hs
  have hc9 := hF.1
  have hTE : (if ¬ M.1 10 = -1 then (0 : Int) else 1) = exK ((if ¬ z 1 = -1 then none else some xNo)) xNo "" "" := by
    rw [exK_i1, n9]
  have hV : (if ¬ M.1 10 = -1 then (0 : Int) else 1) = 0 → (if (if ¬ M.1 10 = -1 then (0 : Int) else 1) = 0 then M.1 10 else 0 : Int) = z 1 := fun q => (if_pos q).trans n9.symm
  refine e_aload_n (K := lK X) (i := 1) (n := 2229) dL_law_2228 rfl rfl ?_
  refine e_aload_n (K := lK X) (i := 3) (n := 2230) dL_law_2229 rfl rfl ?_
  refine e_lawW (K := lK X) (b' := b') (n := 2233) lk_L_308 (by decide) dL_law_2230 rfl (W_failedCommand hF hz) rfl rfl (Nat.le_of_ble_eq_true rfl) (Nat.le_of_ble_eq_true rfl) (Nat.le_of_ble_eq_true rfl) ⟨hb.1, hb.2⟩ wA_len wA_len wA_len wM_6 (fun he => ?_) (fun he => ?_)
  · refine EV.eq (st' := [vi 0]) (by show [vi (exK ((if ¬ z 1 = -1 then none else some xNo)) xNo "" "")] = _; rw [exK_n he]) ?_
    refine f_istore (K := lK X) (n := 2235) dL_law_2233 rfl (Nat.le_of_ble_eq_true rfl) rfl ?_
    refine e_aload_n (K := lK X) (i := 2) (n := 2236) dL_law_2235 rfl rfl ?_
    refine e_lawQ (K := lK X) (n := 2239) (M2 := sS M 0 (if ¬ M.1 10 = -1 then (0 : Int) else 1)) lk_L_310 rfl dL_law_2236 rfl (C_X7_failedCommand (M := M) (by have := hz.2.1; omega)) rfl rfl (Nat.le_of_ble_eq_true rfl) (Nat.le_of_ble_eq_true rfl) (Nat.le_of_ble_eq_true rfl) ⟨rfl, rfl⟩ wA_len rfl rfl ?_
    refine EV.eq (st' := [vi (w32 (z 1))]) (by show [vi (if (if ¬ M.1 10 = -1 then (0 : Int) else 1) = 0 then M.1 10 else 0)] = _; rw [hV (hTE.trans (exK_n he))]; exact congrArg (fun v => [v]) w32_v) ?_
    refine f_istore (K := lK X) (n := 2241) dL_law_2239 rfl (Nat.le_of_ble_eq_true rfl) rfl ?_
    exact lTail (bb := bb) (i := i) (e := 0) (v := (w32 (z 1))) (off := 360) dL_law_2241 dL_law_2242 dL_law_2245 dL_law_2247 dL_law_2252 dL_law_2254 dL_law_2257 dL_law_2258 dL_law_2259 dL_law_2260 dL_law_2262 dL_law_2263 dL_law_2264 dL_law_2269 (by decide) wA_len (by decide) (sS_0.trans (hTE.trans (exK_n he))) (fun _ => eU_self) w32_in (kk _ _ _ _ _ _ _ _ _ _ _ _ _ _ _ _ _ _ (SIM_up (SIM_eq hs0 mEq_0) (by omega) hN))
  · have hx3 := exK_in (e1 := xNo) (e2 := "") (e3 := "") he
    refine f_istore (K := lK X) (n := 2235) dL_law_2233 rfl (Nat.le_of_ble_eq_true rfl) rfl ?_
    refine e_aload_n (K := lK X) (i := 2) (n := 2236) dL_law_2235 rfl rfl ?_
    refine e_lawQ (K := lK X) (n := 2239) (M2 := sS M 0 (if ¬ M.1 10 = -1 then (0 : Int) else 1)) lk_L_310 rfl dL_law_2236 rfl (C_X7_failedCommand (M := M) (by have := hz.2.1; omega)) rfl rfl (Nat.le_of_ble_eq_true rfl) (Nat.le_of_ble_eq_true rfl) (Nat.le_of_ble_eq_true rfl) ⟨rfl, rfl⟩ wA_len rfl rfl ?_
    refine EV.eq (st' := [vi (w32 (if (if ¬ M.1 10 = -1 then (0 : Int) else 1) = 0 then M.1 10 else 0))]) (congrArg (fun v => [v]) w32_v) ?_
    refine f_istore (K := lK X) (n := 2241) dL_law_2239 rfl (Nat.le_of_ble_eq_true rfl) rfl ?_
    exact lTail (bb := bb) (i := i) (e := (exK ((if ¬ z 1 = -1 then none else some xNo)) xNo "" "")) (v := (w32 (if (if ¬ M.1 10 = -1 then (0 : Int) else 1) = 0 then M.1 10 else 0))) (off := 360) dL_law_2241 dL_law_2242 dL_law_2245 dL_law_2247 dL_law_2252 dL_law_2254 dL_law_2257 dL_law_2258 dL_law_2259 dL_law_2260 dL_law_2262 dL_law_2263 dL_law_2264 dL_law_2269 (by decide) wA_len (by omega) (Eq.trans sS_0 hTE) (fun q => by exfalso; omega) w32_in (kk _ _ _ _ _ _ _ _ _ _ _ _ _ _ _ _ _ _ (SIM_up (SIM_eq hs0 mEq_0) (by omega) hN))
set_option maxHeartbeats 1600000 in
theorem LC_describeRow {X : eXT} {a : Nat → Nat} {b b' : Nat × Nat} {bb L : Nat} {xs : Nat → Int32} {i N : Int} {z : Nat → Int} {ln : Int → Int} {F : eFs} {P : Int → Int} {D : eFs} {DQ : Int → Int} {S : eFs} {SP : Int → Int} {c n : Int} {h : eHs} {g rc : Int → Int} {T : eFs} {Mt : Int → Int → Int} {M : eFs} {o : Int → Int} {od : Nat → UInt64} (hX : X.2 = some (bb, L, xs)) (hL : L ≤ 2147483647) (hi : 0 ≤ i ∧ i + 4 ≤ L) (hb : 2 + b'.1 ≤ b.1 ∧ 12 + b'.2 ≤ b.2) (hN : N + 2400 ≤ 90000000) (hs : SIM N z ln F S c n h g rc T Mt M) (kk : lG X a bb (N + 2400) i b') :
    EV (lK X) a b (wA a z ln F P D DQ S SP c n h g rc T Mt [] ++ (wM (fun k => a (131 + k)) M ++ [eJ 1 1 o, eDd 1 od])) 2272 (lLs a bb i) [] := by
  have hs0 := hs
  obtain ⟨⟨hF, hC, hA, hR⟩, -, -, ⟨n1, n2, n3, n4, n5, n6, n7, n8, n9, n10⟩, ⟨l1, l2, l3⟩, ⟨hg, hr⟩, hT, hz, ⟨hw, hw4⟩, hN0⟩ := hs
  have hc9 := hF.1
  have g1 := sc_in (xs := xs) (z := i + 1)
  have hTE : (if 0 ≤ (sc xs (i + 1)) ∧ (sc xs (i + 1)) ≤ 11 then (0 : Int) else 1) = exK ((if 0 ≤ (sc xs (i + 1)) ∧ (sc xs (i + 1)) ≤ 11 then none else some xAr)) xAr "" "" := by
    exact exK_i1.symm
  have hV : (if 0 ≤ (sc xs (i + 1)) ∧ (sc xs (i + 1)) ≤ 11 then (0 : Int) else 1) = 0 → (if 0 ≤ (sc xs (i + 1)) ∧ (sc xs (i + 1)) ≤ 11 then 12 else 0 : Int) = 12 := fun q => by
    by_cases r : 0 ≤ (sc xs (i + 1)) ∧ (sc xs (i + 1)) ≤ 11
    · exact if_pos r
    · exact absurd (q.symm.trans (if_neg r)) (by decide)
  have e0 : (if 0 ≤ (sc xs (i + 1)) ∧ (sc xs (i + 1)) ≤ 11 then none else some xAr : Option String) = none ↔ (0 ≤ (sc xs (i + 1)) ∧ (sc xs (i + 1)) ≤ 11) := ite_n1
  refine e_aload_n (K := lK X) (i := 1) (n := 2273) dL_law_2272 rfl rfl ?_
  refine lArg (k := 1) dL_law_2273 dL_law_2274 dL_law_2276 dL_law_2277 dL_law_2278 hX hL rfl rfl (by omega) ?_
  refine e_aload_n (K := lK X) (i := 3) (n := 2280) dL_law_2279 rfl rfl ?_
  refine e_lawW (K := lK X) (b' := b') (n := 2283) lk_L_311 (by decide) dL_law_2280 rfl (W_describeRow hF g1) rfl rfl (Nat.le_of_ble_eq_true rfl) (Nat.le_of_ble_eq_true rfl) (Nat.le_of_ble_eq_true rfl) ⟨hb.1, hb.2⟩ wA_len wA_len wA_len wM_6 (fun he => ?_) (fun he => ?_)
  · refine EV.eq (st' := [vi 0]) (by show [vi (exK ((if 0 ≤ (sc xs (i + 1)) ∧ (sc xs (i + 1)) ≤ 11 then none else some xAr)) xAr "" "")] = _; rw [exK_n he]) ?_
    refine f_istore (K := lK X) (n := 2285) dL_law_2283 rfl (Nat.le_of_ble_eq_true rfl) rfl ?_
    refine e_aload_n (K := lK X) (i := 2) (n := 2286) dL_law_2285 rfl rfl ?_
    refine lArg (k := 1) dL_law_2286 dL_law_2287 dL_law_2289 dL_law_2290 dL_law_2291 hX hL rfl rfl (by omega) ?_
    refine e_lawQ (K := lK X) (n := 2295) (M2 := mDsc M F (sc xs (i + 1))) lk_L_313 rfl dL_law_2292 rfl (C_X7_describeRow (M := M) hF hR g1) rfl rfl (Nat.le_of_ble_eq_true rfl) (Nat.le_of_ble_eq_true rfl) (Nat.le_of_ble_eq_true rfl) ⟨rfl, rfl⟩ wA_len rfl rfl ?_
    refine EV.eq (st' := [vi (w32 (12))]) (by show [vi (if 0 ≤ (sc xs (i + 1)) ∧ (sc xs (i + 1)) ≤ 11 then 12 else 0)] = _; rw [hV (hTE.trans (exK_n he))]; exact congrArg (fun v => [v]) w32_v) ?_
    refine f_istore (K := lK X) (n := 2297) dL_law_2295 rfl (Nat.le_of_ble_eq_true rfl) rfl ?_
    exact lTail (bb := bb) (i := i) (e := 0) (v := (w32 (12))) (off := 304) dL_law_2297 dL_law_2298 dL_law_2301 dL_law_2303 dL_law_2308 dL_law_2310 dL_law_2313 dL_law_2314 dL_law_2315 dL_law_2316 dL_law_2318 dL_law_2319 dL_law_2320 dL_law_2325 (by decide) wA_len (by decide) (Eq.trans (by unfold mDsc; split <;> rfl) (hTE.trans (exK_n he))) (fun _ => eU_self) w32_in (kk _ _ _ _ _ _ _ _ _ _ _ _ _ _ _ _ _ _ (SIM_up ((SIM_desc hs0).1 (e0.mp he)) (by omega) hN))
  · have hx3 := exK_in (e1 := xAr) (e2 := "") (e3 := "") he
    refine f_istore (K := lK X) (n := 2285) dL_law_2283 rfl (Nat.le_of_ble_eq_true rfl) rfl ?_
    refine e_aload_n (K := lK X) (i := 2) (n := 2286) dL_law_2285 rfl rfl ?_
    refine lArg (k := 1) dL_law_2286 dL_law_2287 dL_law_2289 dL_law_2290 dL_law_2291 hX hL rfl rfl (by omega) ?_
    refine e_lawQ (K := lK X) (n := 2295) (M2 := mDsc M F (sc xs (i + 1))) lk_L_313 rfl dL_law_2292 rfl (C_X7_describeRow (M := M) hF hR g1) rfl rfl (Nat.le_of_ble_eq_true rfl) (Nat.le_of_ble_eq_true rfl) (Nat.le_of_ble_eq_true rfl) ⟨rfl, rfl⟩ wA_len rfl rfl ?_
    refine EV.eq (st' := [vi (w32 (if 0 ≤ (sc xs (i + 1)) ∧ (sc xs (i + 1)) ≤ 11 then 12 else 0))]) (congrArg (fun v => [v]) w32_v) ?_
    refine f_istore (K := lK X) (n := 2297) dL_law_2295 rfl (Nat.le_of_ble_eq_true rfl) rfl ?_
    exact lTail (bb := bb) (i := i) (e := (exK ((if 0 ≤ (sc xs (i + 1)) ∧ (sc xs (i + 1)) ≤ 11 then none else some xAr)) xAr "" "")) (v := (w32 (if 0 ≤ (sc xs (i + 1)) ∧ (sc xs (i + 1)) ≤ 11 then 12 else 0))) (off := 304) dL_law_2297 dL_law_2298 dL_law_2301 dL_law_2303 dL_law_2308 dL_law_2310 dL_law_2313 dL_law_2314 dL_law_2315 dL_law_2316 dL_law_2318 dL_law_2319 dL_law_2320 dL_law_2325 (by decide) wA_len (by omega) (Eq.trans (by unfold mDsc; split <;> rfl) hTE) (fun q => by exfalso; omega) w32_in (kk _ _ _ _ _ _ _ _ _ _ _ _ _ _ _ _ _ _ (SIM_up ((SIM_desc hs0).2 (fun q => he (e0.mpr q))) (by omega) hN))
set_option maxHeartbeats 1600000 in
theorem LC_lineAt {X : eXT} {a : Nat → Nat} {b b' : Nat × Nat} {bb L : Nat} {xs : Nat → Int32} {i N : Int} {z : Nat → Int} {ln : Int → Int} {F : eFs} {P : Int → Int} {D : eFs} {DQ : Int → Int} {S : eFs} {SP : Int → Int} {c n : Int} {h : eHs} {g rc : Int → Int} {T : eFs} {Mt : Int → Int → Int} {M : eFs} {o : Int → Int} {od : Nat → UInt64} (hX : X.2 = some (bb, L, xs)) (hL : L ≤ 2147483647) (hi : 0 ≤ i ∧ i + 4 ≤ L) (hb : 2 + b'.1 ≤ b.1 ∧ 12 + b'.2 ≤ b.2) (hN : N + 2400 ≤ 90000000) (hs : SIM N z ln F S c n h g rc T Mt M) (kk : lG X a bb (N + 2400) i b') :
    EV (lK X) a b (wA a z ln F P D DQ S SP c n h g rc T Mt [] ++ (wM (fun k => a (131 + k)) M ++ [eJ 1 1 o, eDd 1 od])) 2328 (lLs a bb i) [] := by
  have hs0 := hs
  obtain ⟨⟨hF, hC, hA, hR⟩, -, -, ⟨n1, n2, n3, n4, n5, n6, n7, n8, n9, n10⟩, ⟨l1, l2, l3⟩, ⟨hg, hr⟩, hT, hz, ⟨hw, hw4⟩, hN0⟩ := hs
  have hc9 := hF.1
  have g1 := sc_in (xs := xs) (z := i + 1)
  have hTE : (if 0 ≤ (sc xs (i + 1)) ∧ (sc xs (i + 1)) ≤ M.1 12 - 1 then (0 : Int) else 1) = exK ((if 0 ≤ (sc xs (i + 1)) ∧ (sc xs (i + 1)) < z 4 then none else some xIx)) xIx "" "" := by
    rw [exK_i1]
    (repeat' split) <;> first | rfl | contradiction | (exfalso; omega)
  have hV : (if 0 ≤ (sc xs (i + 1)) ∧ (sc xs (i + 1)) ≤ M.1 12 - 1 then (0 : Int) else 1) = 0 → (if (if 0 ≤ (sc xs (i + 1)) ∧ (sc xs (i + 1)) ≤ M.1 12 - 1 then (0 : Int) else 1) = 0 then M.2 4 (sc xs (i + 1)) else 0 : Int) = ln (sc xs (i + 1)) := fun q => by
    rw [if_pos q]
    have q1 : 0 ≤ (sc xs (i + 1)) ∧ (sc xs (i + 1)) ≤ M.1 12 - 1 := by
      by_cases r : 0 ≤ (sc xs (i + 1)) ∧ (sc xs (i + 1)) ≤ M.1 12 - 1
      · exact r
      · exact absurd (q.symm.trans (if_neg r)) (by decide)
    have q2 := hz.2.2.2.2
    exact (l3 (by omega) _ q1.1 (by omega)).symm
  refine e_aload_n (K := lK X) (i := 1) (n := 2329) dL_law_2328 rfl rfl ?_
  refine lArg (k := 1) dL_law_2329 dL_law_2330 dL_law_2332 dL_law_2333 dL_law_2334 hX hL rfl rfl (by omega) ?_
  refine e_aload_n (K := lK X) (i := 3) (n := 2336) dL_law_2335 rfl rfl ?_
  refine e_lawW (K := lK X) (b' := b') (n := 2339) lk_L_314 (by decide) dL_law_2336 rfl (W_lineAt hz l1 g1) rfl rfl (Nat.le_of_ble_eq_true rfl) (Nat.le_of_ble_eq_true rfl) (Nat.le_of_ble_eq_true rfl) ⟨hb.1, hb.2⟩ wA_len wA_len wA_len wM_6 (fun he => ?_) (fun he => ?_)
  · refine EV.eq (st' := [vi 0]) (by show [vi (exK ((if 0 ≤ (sc xs (i + 1)) ∧ (sc xs (i + 1)) < z 4 then none else some xIx)) xIx "" "")] = _; rw [exK_n he]) ?_
    refine f_istore (K := lK X) (n := 2341) dL_law_2339 rfl (Nat.le_of_ble_eq_true rfl) rfl ?_
    refine e_aload_n (K := lK X) (i := 2) (n := 2342) dL_law_2341 rfl rfl ?_
    refine lArg (k := 1) dL_law_2342 dL_law_2343 dL_law_2345 dL_law_2346 dL_law_2347 hX hL rfl rfl (by omega) ?_
    refine e_lawQ (K := lK X) (n := 2351) (M2 := sS M 0 (if 0 ≤ (sc xs (i + 1)) ∧ (sc xs (i + 1)) ≤ M.1 12 - 1 then (0 : Int) else 1)) lk_L_316 rfl dL_law_2348 rfl (C_X7_lineAt (M := M) g1 (by have := hz.2.2.2.2; omega) l2) rfl rfl (Nat.le_of_ble_eq_true rfl) (Nat.le_of_ble_eq_true rfl) (Nat.le_of_ble_eq_true rfl) ⟨rfl, rfl⟩ wA_len rfl rfl ?_
    refine EV.eq (st' := [vi (w32 (ln (sc xs (i + 1))))]) (by show [vi (if (if 0 ≤ (sc xs (i + 1)) ∧ (sc xs (i + 1)) ≤ M.1 12 - 1 then (0 : Int) else 1) = 0 then M.2 4 (sc xs (i + 1)) else 0)] = _; rw [hV (hTE.trans (exK_n he))]; exact congrArg (fun v => [v]) w32_v) ?_
    refine f_istore (K := lK X) (n := 2353) dL_law_2351 rfl (Nat.le_of_ble_eq_true rfl) rfl ?_
    exact lTail (bb := bb) (i := i) (e := 0) (v := (w32 (ln (sc xs (i + 1))))) (off := 248) dL_law_2353 dL_law_2354 dL_law_2357 dL_law_2359 dL_law_2364 dL_law_2366 dL_law_2369 dL_law_2370 dL_law_2371 dL_law_2372 dL_law_2374 dL_law_2375 dL_law_2376 dL_law_2381 (by decide) wA_len (by decide) (sS_0.trans (hTE.trans (exK_n he))) (fun _ => eU_self) w32_in (kk _ _ _ _ _ _ _ _ _ _ _ _ _ _ _ _ _ _ (SIM_up (SIM_eq hs0 mEq_0) (by omega) hN))
  · have hx3 := exK_in (e1 := xIx) (e2 := "") (e3 := "") he
    refine f_istore (K := lK X) (n := 2341) dL_law_2339 rfl (Nat.le_of_ble_eq_true rfl) rfl ?_
    refine e_aload_n (K := lK X) (i := 2) (n := 2342) dL_law_2341 rfl rfl ?_
    refine lArg (k := 1) dL_law_2342 dL_law_2343 dL_law_2345 dL_law_2346 dL_law_2347 hX hL rfl rfl (by omega) ?_
    refine e_lawQ (K := lK X) (n := 2351) (M2 := sS M 0 (if 0 ≤ (sc xs (i + 1)) ∧ (sc xs (i + 1)) ≤ M.1 12 - 1 then (0 : Int) else 1)) lk_L_316 rfl dL_law_2348 rfl (C_X7_lineAt (M := M) g1 (by have := hz.2.2.2.2; omega) l2) rfl rfl (Nat.le_of_ble_eq_true rfl) (Nat.le_of_ble_eq_true rfl) (Nat.le_of_ble_eq_true rfl) ⟨rfl, rfl⟩ wA_len rfl rfl ?_
    refine EV.eq (st' := [vi (w32 (if (if 0 ≤ (sc xs (i + 1)) ∧ (sc xs (i + 1)) ≤ M.1 12 - 1 then (0 : Int) else 1) = 0 then M.2 4 (sc xs (i + 1)) else 0))]) (congrArg (fun v => [v]) w32_v) ?_
    refine f_istore (K := lK X) (n := 2353) dL_law_2351 rfl (Nat.le_of_ble_eq_true rfl) rfl ?_
    exact lTail (bb := bb) (i := i) (e := (exK ((if 0 ≤ (sc xs (i + 1)) ∧ (sc xs (i + 1)) < z 4 then none else some xIx)) xIx "" "")) (v := (w32 (if (if 0 ≤ (sc xs (i + 1)) ∧ (sc xs (i + 1)) ≤ M.1 12 - 1 then (0 : Int) else 1) = 0 then M.2 4 (sc xs (i + 1)) else 0))) (off := 248) dL_law_2353 dL_law_2354 dL_law_2357 dL_law_2359 dL_law_2364 dL_law_2366 dL_law_2369 dL_law_2370 dL_law_2371 dL_law_2372 dL_law_2374 dL_law_2375 dL_law_2376 dL_law_2381 (by decide) wA_len (by omega) (Eq.trans sS_0 hTE) (fun q => by exfalso; omega) w32_in (kk _ _ _ _ _ _ _ _ _ _ _ _ _ _ _ _ _ _ (SIM_up (SIM_eq hs0 mEq_0) (by omega) hN))
set_option maxHeartbeats 1600000 in
theorem LC_meanDistance {X : eXT} {a : Nat → Nat} {b b' : Nat × Nat} {bb L : Nat} {xs : Nat → Int32} {i N : Int} {z : Nat → Int} {ln : Int → Int} {F : eFs} {P : Int → Int} {D : eFs} {DQ : Int → Int} {S : eFs} {SP : Int → Int} {c n : Int} {h : eHs} {g rc : Int → Int} {T : eFs} {Mt : Int → Int → Int} {M : eFs} {o : Int → Int} {od : Nat → UInt64} (hX : X.2 = some (bb, L, xs)) (hL : L ≤ 2147483647) (hi : 0 ≤ i ∧ i + 4 ≤ L) (hb : 2 + b'.1 ≤ b.1 ∧ 12 + b'.2 ≤ b.2) (hN : N + 2400 ≤ 90000000) (hs : SIM N z ln F S c n h g rc T Mt M) (kk : lG X a bb (N + 2400) i b') :
    EV (lK X) a b (wA a z ln F P D DQ S SP c n h g rc T Mt [] ++ (wM (fun k => a (131 + k)) M ++ [eJ 1 1 o, eDd 1 od])) 2384 (lLs a bb i) [] := by
  have hs0 := hs
  obtain ⟨⟨hF, hC, hA, hR⟩, -, -, ⟨n1, n2, n3, n4, n5, n6, n7, n8, n9, n10⟩, ⟨l1, l2, l3⟩, ⟨hg, hr⟩, hT, hz, ⟨hw, hw4⟩, hN0⟩ := hs
  have hc9 := hF.1
  have hTE : (if 2 ≤ F.1 0 then (0 : Int) else 1) = exK ((if 2 ≤ F.1 0 then none else some xMa)) xMa "" "" := by
    exact exK_i1.symm
  have e0 : (if 2 ≤ F.1 0 then none else some xMa : Option String) = none ↔ 2 ≤ F.1 0 := ite_n1
  have us := sSumD_in hF
  refine e_aload_n (K := lK X) (i := 1) (n := 2385) dL_law_2384 rfl rfl ?_
  refine e_aload (K := lK X) (i := 4) (n := 2387) dL_law_2385 rfl rfl ?_
  refine e_lawD (K := lK X) (b' := b') (n := 2390) lk_L_317 (by decide) dL_law_2387 rfl (W_meanDistance hF) rfl rfl (Nat.le_of_ble_eq_true rfl) (Nat.le_of_ble_eq_true rfl) (Nat.le_of_ble_eq_true rfl) ⟨hb.1, hb.2⟩ wA_len wA_len wA_len wM_6 (fun he => ?_) (fun he => ?_)
  · refine EV.eq (st' := [vi 0]) (by show [vi (exK ((if 2 ≤ F.1 0 then none else some xMa)) xMa "" "")] = _; rw [exK_n he]) ?_
    refine f_istore (K := lK X) (n := 2392) dL_law_2390 rfl (Nat.le_of_ble_eq_true rfl) rfl ?_
    refine e_aload_n (K := lK X) (i := 2) (n := 2393) dL_law_2392 rfl rfl ?_
    refine e_lawQ (K := lK X) (n := 2396) (M2 := sS M 0 (if 2 ≤ F.1 0 then (0 : Int) else 1)) lk_L_320 rfl dL_law_2393 rfl (C_X7_meanDistance (M := M) hF hR) rfl rfl (Nat.le_of_ble_eq_true rfl) (Nat.le_of_ble_eq_true rfl) (Nat.le_of_ble_eq_true rfl) ⟨rfl, rfl⟩ wA_len rfl rfl ?_
    refine EV.eq (st' := [.double (FP.ddiv (FP.i2d (Int32.ofInt (sSumD F))) (FP.i2d (Int32.ofInt (F.1 0 - 1))))]) (congrArg (fun v => [v]) (if_pos (e0.mp he))) ?_
    refine f_dstore (K := lK X) (n := 2398) dL_law_2396 rfl (Nat.le_of_ble_eq_true rfl) rfl ?_
    exact lTailD (bb := bb) (i := i) (e := 0) (v := (FP.ddiv (FP.i2d (Int32.ofInt (sSumD F))) (FP.i2d (Int32.ofInt (F.1 0 - 1))))) (off := 183) dL_law_2398 dL_law_2399 dL_law_2402 dL_law_2404 dL_law_2409 dL_law_2411 dL_law_2414 dL_law_2416 dL_law_2417 dL_law_2418 dL_law_2420 dL_law_2421 dL_law_2446 (by decide) wA_len (by decide) (Eq.trans sS_0 (hTE.trans (exK_n he))) (fun _ => ⟨by simp [vf_upd], fp_mean us (by have := e0.mp he; omega)⟩) (kk _ _ _ _ _ _ _ _ _ _ _ _ _ _ _ _ _ _ (SIM_up (SIM_eq hs0 mEq_0) (by omega) hN))
  · have hx3 := exK_in (e1 := xMa) (e2 := "") (e3 := "") he
    refine f_istore (K := lK X) (n := 2392) dL_law_2390 rfl (Nat.le_of_ble_eq_true rfl) rfl ?_
    refine e_aload_n (K := lK X) (i := 2) (n := 2393) dL_law_2392 rfl rfl ?_
    refine e_lawQ (K := lK X) (n := 2396) (M2 := sS M 0 (if 2 ≤ F.1 0 then (0 : Int) else 1)) lk_L_320 rfl dL_law_2393 rfl (C_X7_meanDistance (M := M) hF hR) rfl rfl (Nat.le_of_ble_eq_true rfl) (Nat.le_of_ble_eq_true rfl) (Nat.le_of_ble_eq_true rfl) ⟨rfl, rfl⟩ wA_len rfl rfl ?_
    refine EV.eq (st' := [.double 0]) (congrArg (fun v => [v]) (if_neg (fun q => he (e0.mpr q)))) ?_
    refine f_dstore (K := lK X) (n := 2398) dL_law_2396 rfl (Nat.le_of_ble_eq_true rfl) rfl ?_
    exact lTailD (bb := bb) (i := i) (e := (exK ((if 2 ≤ F.1 0 then none else some xMa)) xMa "" "")) (v := 0) (off := 183) dL_law_2398 dL_law_2399 dL_law_2402 dL_law_2404 dL_law_2409 dL_law_2411 dL_law_2414 dL_law_2416 dL_law_2417 dL_law_2418 dL_law_2420 dL_law_2421 dL_law_2446 (by decide) wA_len (by omega) (Eq.trans sS_0 hTE) (fun q => by exfalso; omega) (kk _ _ _ _ _ _ _ _ _ _ _ _ _ _ _ _ _ _ (SIM_up (SIM_eq hs0 mEq_0) (by omega) hN))
set_option maxHeartbeats 1600000 in
theorem LC_mixedShare {X : eXT} {a : Nat → Nat} {b b' : Nat × Nat} {bb L : Nat} {xs : Nat → Int32} {i N : Int} {z : Nat → Int} {ln : Int → Int} {F : eFs} {P : Int → Int} {D : eFs} {DQ : Int → Int} {S : eFs} {SP : Int → Int} {c n : Int} {h : eHs} {g rc : Int → Int} {T : eFs} {Mt : Int → Int → Int} {M : eFs} {o : Int → Int} {od : Nat → UInt64} (hX : X.2 = some (bb, L, xs)) (hL : L ≤ 2147483647) (hi : 0 ≤ i ∧ i + 4 ≤ L) (hb : 2 + b'.1 ≤ b.1 ∧ 12 + b'.2 ≤ b.2) (hN : N + 2400 ≤ 90000000) (hs : SIM N z ln F S c n h g rc T Mt M) (kk : lG X a bb (N + 2400) i b') :
    EV (lK X) a b (wA a z ln F P D DQ S SP c n h g rc T Mt [] ++ (wM (fun k => a (131 + k)) M ++ [eJ 1 1 o, eDd 1 od])) 2449 (lLs a bb i) [] := by
  have hs0 := hs
  obtain ⟨⟨hF, hC, hA, hR⟩, -, -, ⟨n1, n2, n3, n4, n5, n6, n7, n8, n9, n10⟩, ⟨l1, l2, l3⟩, ⟨hg, hr⟩, hT, hz, ⟨hw, hw4⟩, hN0⟩ := hs
  have hc9 := hF.1
  have hTE : (if 1 ≤ sPrs F then (0 : Int) else 1) = exK ((if 1 ≤ sPrs F then none else some xMa)) xMa "" "" := by
    exact exK_i1.symm
  have e0 : (if 1 ≤ sPrs F then none else some xMa : Option String) = none ↔ 1 ≤ sPrs F := ite_n1
  have up := sPrs_in hc9
  have um := sMix_in hc9
  refine e_aload_n (K := lK X) (i := 1) (n := 2450) dL_law_2449 rfl rfl ?_
  refine e_aload (K := lK X) (i := 4) (n := 2452) dL_law_2450 rfl rfl ?_
  refine e_lawD (K := lK X) (b' := b') (n := 2455) lk_L_321 (by decide) dL_law_2452 rfl (W_mixedShare hF (hn64 F hc9)) rfl rfl (Nat.le_of_ble_eq_true rfl) (Nat.le_of_ble_eq_true rfl) (Nat.le_of_ble_eq_true rfl) ⟨hb.1, hb.2⟩ wA_len wA_len wA_len wM_6 (fun he => ?_) (fun he => ?_)
  · refine EV.eq (st' := [vi 0]) (by show [vi (exK ((if 1 ≤ sPrs F then none else some xMa)) xMa "" "")] = _; rw [exK_n he]) ?_
    refine f_istore (K := lK X) (n := 2457) dL_law_2455 rfl (Nat.le_of_ble_eq_true rfl) rfl ?_
    refine e_aload_n (K := lK X) (i := 2) (n := 2458) dL_law_2457 rfl rfl ?_
    refine e_lawQ (K := lK X) (n := 2461) (M2 := sS M 0 (if 1 ≤ sPrs F then (0 : Int) else 1)) lk_L_323 rfl dL_law_2458 rfl (C_X7_mixedShare (M := M) hF hR) rfl rfl (Nat.le_of_ble_eq_true rfl) (Nat.le_of_ble_eq_true rfl) (Nat.le_of_ble_eq_true rfl) ⟨rfl, rfl⟩ wA_len rfl rfl ?_
    refine EV.eq (st' := [.float (FP.fdiv (FP.i2f (Int32.ofInt (sMix F))) (FP.i2f (Int32.ofInt (sPrs F))))]) (congrArg (fun v => [v]) (if_pos (e0.mp he))) ?_
    refine f_fstore (K := lK X) (n := 2463) dL_law_2461 rfl (Nat.le_of_ble_eq_true rfl) rfl ?_
    exact lTailF (bb := bb) (i := i) (e := 0) (v := (FP.fdiv (FP.i2f (Int32.ofInt (sMix F))) (FP.i2f (Int32.ofInt (sPrs F))))) (off := 117) dL_law_2463 dL_law_2464 dL_law_2467 dL_law_2469 dL_law_2474 dL_law_2476 dL_law_2479 dL_law_2481 dL_law_2482 dL_law_2483 dL_law_2485 dL_law_2486 dL_law_2487 dL_law_2512 (by decide) wA_len (by decide) (Eq.trans sS_0 (hTE.trans (exK_n he))) (fun _ => ⟨by simp [vf_upd], fp_share um (by have := e0.mp he; omega)⟩) (kk _ _ _ _ _ _ _ _ _ _ _ _ _ _ _ _ _ _ (SIM_up (SIM_eq hs0 mEq_0) (by omega) hN))
  · have hx3 := exK_in (e1 := xMa) (e2 := "") (e3 := "") he
    refine f_istore (K := lK X) (n := 2457) dL_law_2455 rfl (Nat.le_of_ble_eq_true rfl) rfl ?_
    refine e_aload_n (K := lK X) (i := 2) (n := 2458) dL_law_2457 rfl rfl ?_
    refine e_lawQ (K := lK X) (n := 2461) (M2 := sS M 0 (if 1 ≤ sPrs F then (0 : Int) else 1)) lk_L_323 rfl dL_law_2458 rfl (C_X7_mixedShare (M := M) hF hR) rfl rfl (Nat.le_of_ble_eq_true rfl) (Nat.le_of_ble_eq_true rfl) (Nat.le_of_ble_eq_true rfl) ⟨rfl, rfl⟩ wA_len rfl rfl ?_
    refine EV.eq (st' := [.float 0]) (congrArg (fun v => [v]) (if_neg (fun q => he (e0.mpr q)))) ?_
    refine f_fstore (K := lK X) (n := 2463) dL_law_2461 rfl (Nat.le_of_ble_eq_true rfl) rfl ?_
    exact lTailF (bb := bb) (i := i) (e := (exK ((if 1 ≤ sPrs F then none else some xMa)) xMa "" "")) (v := 0) (off := 117) dL_law_2463 dL_law_2464 dL_law_2467 dL_law_2469 dL_law_2474 dL_law_2476 dL_law_2479 dL_law_2481 dL_law_2482 dL_law_2483 dL_law_2485 dL_law_2486 dL_law_2487 dL_law_2512 (by decide) wA_len (by omega) (Eq.trans sS_0 hTE) (fun q => by exfalso; omega) (kk _ _ _ _ _ _ _ _ _ _ _ _ _ _ _ _ _ _ (SIM_up (SIM_eq hs0 mEq_0) (by omega) hN))
set_option maxHeartbeats 1600000 in
theorem LC_undo {X : eXT} {a : Nat → Nat} {b b' : Nat × Nat} {bb L : Nat} {xs : Nat → Int32} {i N : Int} {z : Nat → Int} {ln : Int → Int} {F : eFs} {P : Int → Int} {D : eFs} {DQ : Int → Int} {S : eFs} {SP : Int → Int} {c n : Int} {h : eHs} {g rc : Int → Int} {T : eFs} {Mt : Int → Int → Int} {M : eFs} {o : Int → Int} {od : Nat → UInt64} (hX : X.2 = some (bb, L, xs)) (hL : L ≤ 2147483647) (hi : 0 ≤ i ∧ i + 4 ≤ L) (hb : 2 + b'.1 ≤ b.1 ∧ 12 + b'.2 ≤ b.2) (hN : N + 2400 ≤ 90000000) (hs : SIM N z ln F S c n h g rc T Mt M) (kk : lG X a bb (N + 2400) i b') :
    EV (lK X) a b (wA a z ln F P D DQ S SP c n h g rc T Mt [] ++ (wM (fun k => a (131 + k)) M ++ [eJ 1 1 o, eDd 1 od])) 2528 (lLs a bb i) [] := by
  have hs0 := hs
  obtain ⟨⟨hF, hC, hA, hR⟩, -, -, ⟨n1, n2, n3, n4, n5, n6, n7, n8, n9, n10⟩, ⟨l1, l2, l3⟩, ⟨hg, hr⟩, hT, hz, ⟨hw, hw4⟩, hN0⟩ := hs
  have hc9 := hF.1
  have hTE : (if 0 < M.1 1 then (0 : Int) else 1) = exK ((if 1 ≤ c then none else some xSt)) xSt "" "" := by
    rw [exK_i1]
    (repeat' split) <;> first | rfl | (exfalso; omega)
  have hV : (if 0 < M.1 1 then (0 : Int) else 1) = 0 → (if 0 < M.1 1 then M.1 1 - 1 else 0 : Int) = c - 1 := fun q => by
    by_cases r : 0 < M.1 1
    · rw [if_pos r, n3]
    · exact absurd (q.symm.trans (if_neg r)) (by decide)
  have e0 : (if 1 ≤ c then none else some xSt : Option String) = none ↔ 1 ≤ c := ite_n1
  refine e_aload_n (K := lK X) (i := 1) (n := 2529) dL_law_2528 rfl rfl ?_
  refine e_aload_n (K := lK X) (i := 3) (n := 2530) dL_law_2529 rfl rfl ?_
  refine e_lawW (K := lK X) (b' := b') (n := 2533) lk_L_329 (by decide) dL_law_2530 rfl (W_undo n1 n2) rfl rfl (Nat.le_of_ble_eq_true rfl) (Nat.le_of_ble_eq_true rfl) (Nat.le_of_ble_eq_true rfl) ⟨hb.1, hb.2⟩ wA_len wA_len wA_len wM_6 (fun he => ?_) (fun he => ?_)
  · refine EV.eq (st' := [vi 0]) (by show [vi (exK ((if 1 ≤ c then none else some xSt)) xSt "" "")] = _; rw [exK_n he]) ?_
    refine f_istore (K := lK X) (n := 2535) dL_law_2533 rfl (Nat.le_of_ble_eq_true rfl) rfl ?_
    refine e_aload_n (K := lK X) (i := 2) (n := 2536) dL_law_2535 rfl rfl ?_
    refine e_lawQ (K := lK X) (n := 2539) (M2 := mUn M) lk_L_331 rfl dL_law_2536 rfl (C_X7_undo (M := M) (by omega)) rfl rfl (Nat.le_of_ble_eq_true rfl) (Nat.le_of_ble_eq_true rfl) (Nat.le_of_ble_eq_true rfl) ⟨rfl, rfl⟩ wA_len rfl rfl ?_
    refine EV.eq (st' := [vi (w32 (c - 1))]) (by show [vi (if 0 < M.1 1 then M.1 1 - 1 else 0)] = _; rw [hV (hTE.trans (exK_n he))]; exact congrArg (fun v => [v]) w32_v) ?_
    refine f_istore (K := lK X) (n := 2541) dL_law_2539 rfl (Nat.le_of_ble_eq_true rfl) rfl ?_
    exact lTail (bb := bb) (i := i) (e := 0) (v := (w32 (c - 1))) (off := 60) dL_law_2541 dL_law_2542 dL_law_2545 dL_law_2547 dL_law_2552 dL_law_2554 dL_law_2557 dL_law_2558 dL_law_2559 dL_law_2560 dL_law_2562 dL_law_2563 dL_law_2564 dL_law_2569 (by decide) wA_len (by decide) (Eq.trans (by unfold mUn; split <;> rfl) (hTE.trans (exK_n he))) (fun _ => eU_self) w32_in (kk _ _ _ _ _ _ _ _ _ _ _ _ _ _ _ _ _ _ (SIM_up ((SIM_undo hs0).1 (e0.mp he)) (by omega) hN))
  · have hx3 := exK_in (e1 := xSt) (e2 := "") (e3 := "") he
    refine f_istore (K := lK X) (n := 2535) dL_law_2533 rfl (Nat.le_of_ble_eq_true rfl) rfl ?_
    refine e_aload_n (K := lK X) (i := 2) (n := 2536) dL_law_2535 rfl rfl ?_
    refine e_lawQ (K := lK X) (n := 2539) (M2 := mUn M) lk_L_331 rfl dL_law_2536 rfl (C_X7_undo (M := M) (by omega)) rfl rfl (Nat.le_of_ble_eq_true rfl) (Nat.le_of_ble_eq_true rfl) (Nat.le_of_ble_eq_true rfl) ⟨rfl, rfl⟩ wA_len rfl rfl ?_
    refine EV.eq (st' := [vi (w32 (if 0 < M.1 1 then M.1 1 - 1 else 0))]) (congrArg (fun v => [v]) w32_v) ?_
    refine f_istore (K := lK X) (n := 2541) dL_law_2539 rfl (Nat.le_of_ble_eq_true rfl) rfl ?_
    exact lTail (bb := bb) (i := i) (e := (exK ((if 1 ≤ c then none else some xSt)) xSt "" "")) (v := (w32 (if 0 < M.1 1 then M.1 1 - 1 else 0))) (off := 60) dL_law_2541 dL_law_2542 dL_law_2545 dL_law_2547 dL_law_2552 dL_law_2554 dL_law_2557 dL_law_2558 dL_law_2559 dL_law_2560 dL_law_2562 dL_law_2563 dL_law_2564 dL_law_2569 (by decide) wA_len (by omega) (Eq.trans (by unfold mUn; split <;> rfl) hTE) (fun q => by exfalso; omega) w32_in (kk _ _ _ _ _ _ _ _ _ _ _ _ _ _ _ _ _ _ (SIM_up ((SIM_undo hs0).2 (fun q => he (e0.mpr q))) (by omega) hN))
