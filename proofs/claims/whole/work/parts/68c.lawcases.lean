/-! ===== the law: cases ===== -/
set_option maxHeartbeats 1600000 in
theorem LC_refusalReason {X : eXT} {a : Nat → Nat} {b b' : Nat × Nat} {bb L : Nat} {xs : Nat → Int32} {i N : Int} {z : Nat → Int} {ln : Int → Int} {F : eFs} {P : Int → Int} {D : eFs} {DQ : Int → Int} {S : eFs} {SP : Int → Int} {c n : Int} {h : eHs} {g rc : Int → Int} {T : eFs} {Mt : Int → Int → Int} {M : eFs} {o : Int → Int} {od : Nat → UInt64} (hX : X.2 = some (bb, L, xs)) (hL : L ≤ 2147483647) (hi : 0 ≤ i ∧ i + 4 ≤ L) (hb : 2 + b'.1 ≤ b.1 ∧ 12 + b'.2 ≤ b.2) (hN : N + 2400 ≤ 90000000) (hs : SIM N z ln F S c n h g rc T Mt M) (kk : lG X a bb (N + 2400) i b') :
    EV (lK X) a b (wA a z ln F P D DQ S SP c n h g rc T Mt [] ++ (wM (fun k => a (131 + k)) M ++ [eJ 1 1 o, eDd 1 od])) 877 (lLs a bb i) [] := by
  have hs0 := hs
  obtain ⟨⟨hF, hC, hA, hR⟩, -, -, ⟨n1, n2, n3, n4, n5, n6, n7, n8, n9, n10⟩, ⟨l1, l2, l3⟩, ⟨hg, hr⟩, hT, hz, ⟨hw, hw4⟩, hN0⟩ := hs
  have hc9 := hF.1
  have hTE : (if ¬ M.1 4 = 0 then (0 : Int) else 1) = exK ((if ¬ z 2 = -1 then none else some xNo)) xNo "" "" := by
    rw [exK_i1]
    rcases hw with ⟨w1, w2⟩ | ⟨w1, w2, w3⟩
    · rw [if_neg (by omega), if_neg (by omega)]
    · rw [if_pos (by omega), if_pos (by omega)]
  have hV : (if ¬ M.1 4 = 0 then (0 : Int) else 1) = 0 → (if (if ¬ M.1 4 = 0 then (0 : Int) else 1) = 0 then M.1 4 else 0 : Int) = z 2 := fun q => by
    rw [if_pos q]
    have q1 : ¬ M.1 4 = 0 := fun w => absurd (q.symm.trans (if_neg (fun r => r w))) (by decide)
    rcases hw with ⟨w1, w2⟩ | ⟨w1, w2, w3⟩
    · exact absurd w2 q1
    · exact w2.symm
  refine e_aload_n (K := lK X) (i := 1) (n := 878) dL_law_877 rfl rfl ?_
  refine e_aload_n (K := lK X) (i := 3) (n := 879) dL_law_878 rfl rfl ?_
  refine e_lawW (K := lK X) (b' := b') (n := 882) lk_L_187 (by decide) dL_law_879 rfl (W_refusalReason hF hz) rfl rfl (Nat.le_of_ble_eq_true rfl) (Nat.le_of_ble_eq_true rfl) (Nat.le_of_ble_eq_true rfl) ⟨hb.1, hb.2⟩ wA_len wA_len wA_len wM_6 (fun he => ?_) (fun he => ?_)
  · refine EV.eq (st' := [vi 0]) (by show [vi (exK ((if ¬ z 2 = -1 then none else some xNo)) xNo "" "")] = _; rw [exK_n he]) ?_
    refine f_istore (K := lK X) (n := 884) dL_law_882 rfl (Nat.le_of_ble_eq_true rfl) rfl ?_
    refine e_aload_n (K := lK X) (i := 2) (n := 885) dL_law_884 rfl rfl ?_
    refine e_lawQ (K := lK X) (n := 888) (M2 := sS M 0 (if ¬ M.1 4 = 0 then (0 : Int) else 1)) lk_L_190 rfl dL_law_885 rfl (C_X7_refusalReason (M := M) hw4) rfl rfl (Nat.le_of_ble_eq_true rfl) (Nat.le_of_ble_eq_true rfl) (Nat.le_of_ble_eq_true rfl) ⟨rfl, rfl⟩ wA_len rfl rfl ?_
    refine EV.eq (st' := [vi (w32 (z 2))]) (by show [vi (if (if ¬ M.1 4 = 0 then (0 : Int) else 1) = 0 then M.1 4 else 0)] = _; rw [hV (hTE.trans (exK_n he))]; exact congrArg (fun v => [v]) w32_v) ?_
    refine f_istore (K := lK X) (n := 890) dL_law_888 rfl (Nat.le_of_ble_eq_true rfl) rfl ?_
    exact lTail (bb := bb) (i := i) (e := 0) (v := (w32 (z 2))) (off := 1711) dL_law_890 dL_law_891 dL_law_894 dL_law_896 dL_law_901 dL_law_903 dL_law_906 dL_law_907 dL_law_908 dL_law_909 dL_law_911 dL_law_912 dL_law_913 dL_law_918 (by decide) wA_len (by decide) (sS_0.trans (hTE.trans (exK_n he))) (fun _ => eU_self) w32_in (kk _ _ _ _ _ _ _ _ _ _ _ _ _ _ _ _ _ _ (SIM_up (SIM_eq hs0 mEq_0) (by omega) hN))
  · have hx3 := exK_in (e1 := xNo) (e2 := "") (e3 := "") he
    refine f_istore (K := lK X) (n := 884) dL_law_882 rfl (Nat.le_of_ble_eq_true rfl) rfl ?_
    refine e_aload_n (K := lK X) (i := 2) (n := 885) dL_law_884 rfl rfl ?_
    refine e_lawQ (K := lK X) (n := 888) (M2 := sS M 0 (if ¬ M.1 4 = 0 then (0 : Int) else 1)) lk_L_190 rfl dL_law_885 rfl (C_X7_refusalReason (M := M) hw4) rfl rfl (Nat.le_of_ble_eq_true rfl) (Nat.le_of_ble_eq_true rfl) (Nat.le_of_ble_eq_true rfl) ⟨rfl, rfl⟩ wA_len rfl rfl ?_
    refine EV.eq (st' := [vi (w32 (if (if ¬ M.1 4 = 0 then (0 : Int) else 1) = 0 then M.1 4 else 0))]) (congrArg (fun v => [v]) w32_v) ?_
    refine f_istore (K := lK X) (n := 890) dL_law_888 rfl (Nat.le_of_ble_eq_true rfl) rfl ?_
    exact lTail (bb := bb) (i := i) (e := (exK ((if ¬ z 2 = -1 then none else some xNo)) xNo "" "")) (v := (w32 (if (if ¬ M.1 4 = 0 then (0 : Int) else 1) = 0 then M.1 4 else 0))) (off := 1711) dL_law_890 dL_law_891 dL_law_894 dL_law_896 dL_law_901 dL_law_903 dL_law_906 dL_law_907 dL_law_908 dL_law_909 dL_law_911 dL_law_912 dL_law_913 dL_law_918 (by decide) wA_len (by omega) (Eq.trans sS_0 hTE) (fun q => by exfalso; omega) w32_in (kk _ _ _ _ _ _ _ _ _ _ _ _ _ _ _ _ _ _ (SIM_up (SIM_eq hs0 mEq_0) (by omega) hN))
set_option maxHeartbeats 1600000 in
theorem LC_refusalDetail {X : eXT} {a : Nat → Nat} {b b' : Nat × Nat} {bb L : Nat} {xs : Nat → Int32} {i N : Int} {z : Nat → Int} {ln : Int → Int} {F : eFs} {P : Int → Int} {D : eFs} {DQ : Int → Int} {S : eFs} {SP : Int → Int} {c n : Int} {h : eHs} {g rc : Int → Int} {T : eFs} {Mt : Int → Int → Int} {M : eFs} {o : Int → Int} {od : Nat → UInt64} (hX : X.2 = some (bb, L, xs)) (hL : L ≤ 2147483647) (hi : 0 ≤ i ∧ i + 4 ≤ L) (hb : 2 + b'.1 ≤ b.1 ∧ 12 + b'.2 ≤ b.2) (hN : N + 2400 ≤ 90000000) (hs : SIM N z ln F S c n h g rc T Mt M) (kk : lG X a bb (N + 2400) i b') :
    EV (lK X) a b (wA a z ln F P D DQ S SP c n h g rc T Mt [] ++ (wM (fun k => a (131 + k)) M ++ [eJ 1 1 o, eDd 1 od])) 921 (lLs a bb i) [] := by
  have hs0 := hs
  obtain ⟨⟨hF, hC, hA, hR⟩, -, -, ⟨n1, n2, n3, n4, n5, n6, n7, n8, n9, n10⟩, ⟨l1, l2, l3⟩, ⟨hg, hr⟩, hT, hz, ⟨hw, hw4⟩, hN0⟩ := hs
  have hc9 := hF.1
  have hTE : (if ¬ M.1 4 = 0 then (0 : Int) else 1) = exK ((if ¬ z 2 = -1 then none else some xNo)) xNo "" "" := by
    rw [exK_i1]
    rcases hw with ⟨w1, w2⟩ | ⟨w1, w2, w3⟩
    · rw [if_neg (by omega), if_neg (by omega)]
    · rw [if_pos (by omega), if_pos (by omega)]
  have hV : (if ¬ M.1 4 = 0 then (0 : Int) else 1) = 0 → (if (if ¬ M.1 4 = 0 then (0 : Int) else 1) = 0 then M.1 5 else 0 : Int) = z 3 := fun q => by
    rw [if_pos q]
    have q1 : ¬ M.1 4 = 0 := fun w => absurd (q.symm.trans (if_neg (fun r => r w))) (by decide)
    rcases hw with ⟨w1, w2⟩ | ⟨w1, w2, w3⟩
    · exact absurd w2 q1
    · exact w3.symm
  refine e_aload_n (K := lK X) (i := 1) (n := 922) dL_law_921 rfl rfl ?_
  refine e_aload_n (K := lK X) (i := 3) (n := 923) dL_law_922 rfl rfl ?_
  refine e_lawW (K := lK X) (b' := b') (n := 926) lk_L_191 (by decide) dL_law_923 rfl (W_refusalDetail hF hz) rfl rfl (Nat.le_of_ble_eq_true rfl) (Nat.le_of_ble_eq_true rfl) (Nat.le_of_ble_eq_true rfl) ⟨hb.1, hb.2⟩ wA_len wA_len wA_len wM_6 (fun he => ?_) (fun he => ?_)
  · refine EV.eq (st' := [vi 0]) (by show [vi (exK ((if ¬ z 2 = -1 then none else some xNo)) xNo "" "")] = _; rw [exK_n he]) ?_
    refine f_istore (K := lK X) (n := 928) dL_law_926 rfl (Nat.le_of_ble_eq_true rfl) rfl ?_
    refine e_aload_n (K := lK X) (i := 2) (n := 929) dL_law_928 rfl rfl ?_
    refine e_lawQ (K := lK X) (n := 932) (M2 := sS M 0 (if ¬ M.1 4 = 0 then (0 : Int) else 1)) lk_L_193 rfl dL_law_929 rfl (C_X7_refusalDetail (M := M) hw4) rfl rfl (Nat.le_of_ble_eq_true rfl) (Nat.le_of_ble_eq_true rfl) (Nat.le_of_ble_eq_true rfl) ⟨rfl, rfl⟩ wA_len rfl rfl ?_
    refine EV.eq (st' := [vi (w32 (z 3))]) (by show [vi (if (if ¬ M.1 4 = 0 then (0 : Int) else 1) = 0 then M.1 5 else 0)] = _; rw [hV (hTE.trans (exK_n he))]; exact congrArg (fun v => [v]) w32_v) ?_
    refine f_istore (K := lK X) (n := 934) dL_law_932 rfl (Nat.le_of_ble_eq_true rfl) rfl ?_
    exact lTail (bb := bb) (i := i) (e := 0) (v := (w32 (z 3))) (off := 1667) dL_law_934 dL_law_935 dL_law_938 dL_law_940 dL_law_945 dL_law_947 dL_law_950 dL_law_951 dL_law_952 dL_law_953 dL_law_955 dL_law_956 dL_law_957 dL_law_962 (by decide) wA_len (by decide) (sS_0.trans (hTE.trans (exK_n he))) (fun _ => eU_self) w32_in (kk _ _ _ _ _ _ _ _ _ _ _ _ _ _ _ _ _ _ (SIM_up (SIM_eq hs0 mEq_0) (by omega) hN))
  · have hx3 := exK_in (e1 := xNo) (e2 := "") (e3 := "") he
    refine f_istore (K := lK X) (n := 928) dL_law_926 rfl (Nat.le_of_ble_eq_true rfl) rfl ?_
    refine e_aload_n (K := lK X) (i := 2) (n := 929) dL_law_928 rfl rfl ?_
    refine e_lawQ (K := lK X) (n := 932) (M2 := sS M 0 (if ¬ M.1 4 = 0 then (0 : Int) else 1)) lk_L_193 rfl dL_law_929 rfl (C_X7_refusalDetail (M := M) hw4) rfl rfl (Nat.le_of_ble_eq_true rfl) (Nat.le_of_ble_eq_true rfl) (Nat.le_of_ble_eq_true rfl) ⟨rfl, rfl⟩ wA_len rfl rfl ?_
    refine EV.eq (st' := [vi (w32 (if (if ¬ M.1 4 = 0 then (0 : Int) else 1) = 0 then M.1 5 else 0))]) (congrArg (fun v => [v]) w32_v) ?_
    refine f_istore (K := lK X) (n := 934) dL_law_932 rfl (Nat.le_of_ble_eq_true rfl) rfl ?_
    exact lTail (bb := bb) (i := i) (e := (exK ((if ¬ z 2 = -1 then none else some xNo)) xNo "" "")) (v := (w32 (if (if ¬ M.1 4 = 0 then (0 : Int) else 1) = 0 then M.1 5 else 0))) (off := 1667) dL_law_934 dL_law_935 dL_law_938 dL_law_940 dL_law_945 dL_law_947 dL_law_950 dL_law_951 dL_law_952 dL_law_953 dL_law_955 dL_law_956 dL_law_957 dL_law_962 (by decide) wA_len (by omega) (Eq.trans sS_0 hTE) (fun q => by exfalso; omega) w32_in (kk _ _ _ _ _ _ _ _ _ _ _ _ _ _ _ _ _ _ (SIM_up (SIM_eq hs0 mEq_0) (by omega) hN))
set_option maxHeartbeats 1600000 in
theorem LC_addCloud {X : eXT} {a : Nat → Nat} {b b' : Nat × Nat} {bb L : Nat} {xs : Nat → Int32} {i N : Int} {z : Nat → Int} {ln : Int → Int} {F : eFs} {P : Int → Int} {D : eFs} {DQ : Int → Int} {S : eFs} {SP : Int → Int} {c n : Int} {h : eHs} {g rc : Int → Int} {T : eFs} {Mt : Int → Int → Int} {M : eFs} {o : Int → Int} {od : Nat → UInt64} (hX : X.2 = some (bb, L, xs)) (hL : L ≤ 2147483647) (hi : 0 ≤ i ∧ i + 4 ≤ L) (hb : 2 + b'.1 ≤ b.1 ∧ 12 + b'.2 ≤ b.2) (hN : N + 2400 ≤ 90000000) (hs : SIM N z ln F S c n h g rc T Mt M) (kk : lG X a bb (N + 2400) i b') :
    EV (lK X) a b (wA a z ln F P D DQ S SP c n h g rc T Mt [] ++ (wM (fun k => a (131 + k)) M ++ [eJ 1 1 o, eDd 1 od])) 965 (lLs a bb i) [] := by
  have hs0 := hs
  obtain ⟨⟨hF, hC, hA, hR⟩, -, -, ⟨n1, n2, n3, n4, n5, n6, n7, n8, n9, n10⟩, ⟨l1, l2, l3⟩, ⟨hg, hr⟩, hT, hz, ⟨hw, hw4⟩, hN0⟩ := hs
  have hc9 := hF.1
  have g1 := sc_in (xs := xs) (z := i + 1)
  have g2 := sc_in (xs := xs) (z := i + 2)
  have hTE : mTh (mHC (sHin F 3 (sc xs (i + 1)) (sc xs (i + 2)) 0)) 0 1 2 3 0 = exK (eEx (sHin F 3 (sc xs (i + 1)) (sc xs (i + 2)) 0)) xAr xSt xUn := by
    rcases hk_3 (F := F) (p := (sc xs (i + 1))) (q := (sc xs (i + 2))) (r := 0) with w | w | w | w
    · rw [w]; show (0 : Int) = exK none _ _ _; rfl
    · rw [w]; show (1 : Int) = exK (some xAr) _ _ _; exact (exK_s1 ).symm
    · rw [w]; show (2 : Int) = exK (some xSt) _ _ _; exact (exK_s2 (by decide)).symm
    · rw [w]; show (3 : Int) = exK (some xUn) _ _ _; exact (exK_s3 (by decide) (by decide)).symm
  have hV : mTh (mHC (sHin F 3 (sc xs (i + 1)) (sc xs (i + 2)) 0)) 0 1 2 3 0 = 0 → (if mTh (mHC (sHin F 3 (sc xs (i + 1)) (sc xs (i + 2)) 0)) 0 1 2 3 0 = 0 then sDoR F 3 (sc xs (i + 1)) (sc xs (i + 2)) 0 else 0 : Int) = sDoR F 3 (sc xs (i + 1)) (sc xs (i + 2)) 0 := fun q => if_pos q
  have e0 : eEx (sHin F 3 (sc xs (i + 1)) (sc xs (i + 2)) 0) = none ↔ (sHin F 3 (sc xs (i + 1)) (sc xs (i + 2)) 0) = 0 := by
    rcases hk_3 (F := F) (p := (sc xs (i + 1))) (q := (sc xs (i + 2))) (r := 0) with w | w | w | w <;> rw [w] <;> decide
  refine e_aload_n (K := lK X) (i := 1) (n := 966) dL_law_965 rfl rfl ?_
  refine lArg (k := 1) dL_law_966 dL_law_967 dL_law_969 dL_law_970 dL_law_971 hX hL rfl rfl (by omega) ?_
  refine lArg (k := 2) dL_law_972 dL_law_973 dL_law_975 dL_law_976 dL_law_977 hX hL rfl rfl (by omega) ?_
  refine e_aload_n (K := lK X) (i := 3) (n := 979) dL_law_978 rfl rfl ?_
  refine e_lawW (K := lK X) (b' := b') (n := 982) lk_L_194 (by decide) dL_law_979 rfl (W_addCloud hF n1 n2 g1 g2) rfl rfl (Nat.le_of_ble_eq_true rfl) (Nat.le_of_ble_eq_true rfl) (Nat.le_of_ble_eq_true rfl) ⟨hb.1, hb.2⟩ wA_len wA_len wA_len wM_6 (fun he => ?_) (fun he => ?_)
  · refine EV.eq (st' := [vi 0]) (by show [vi (exK (eEx (sHin F 3 (sc xs (i + 1)) (sc xs (i + 2)) 0)) xAr xSt xUn)] = _; rw [exK_n he]) ?_
    refine f_istore (K := lK X) (n := 984) dL_law_982 rfl (Nat.le_of_ble_eq_true rfl) rfl ?_
    refine e_aload_n (K := lK X) (i := 2) (n := 985) dL_law_984 rfl rfl ?_
    refine lArg (k := 1) dL_law_985 dL_law_986 dL_law_988 dL_law_989 dL_law_990 hX hL rfl rfl (by omega) ?_
    refine lArg (k := 2) dL_law_991 dL_law_992 dL_law_994 dL_law_995 dL_law_996 hX hL rfl rfl (by omega) ?_
    refine e_lawP (K := lK X) (n := 1000) (Pr := fun M2 => mPo M M2 F 3 (sc xs (i + 1)) (sc xs (i + 2)) 0 (mTh (mHC (sHin F 3 (sc xs (i + 1)) (sc xs (i + 2)) 0)) 0 1 2 3 0)) lk_L_196 rfl dL_law_997 rfl (C_X7_addCloud (M := M) hF hR (by omega) (by omega) g1 g2) (fun _ q => q) rfl rfl (Nat.le_of_ble_eq_true rfl) (Nat.le_of_ble_eq_true rfl) (Nat.le_of_ble_eq_true rfl) ⟨rfl, rfl⟩ wA_len rfl rfl (fun M2 m => ?_)
    refine EV.eq (st' := [vi (w32 (sDoR F 3 (sc xs (i + 1)) (sc xs (i + 2)) 0))]) (by show [vi (if mTh (mHC (sHin F 3 (sc xs (i + 1)) (sc xs (i + 2)) 0)) 0 1 2 3 0 = 0 then sDoR F 3 (sc xs (i + 1)) (sc xs (i + 2)) 0 else 0)] = _; rw [hV (hTE.trans (exK_n he))]; exact congrArg (fun v => [v]) w32_v) ?_
    refine f_istore (K := lK X) (n := 1002) dL_law_1000 rfl (Nat.le_of_ble_eq_true rfl) rfl ?_
    exact lTail (bb := bb) (i := i) (e := 0) (v := (w32 (sDoR F 3 (sc xs (i + 1)) (sc xs (i + 2)) 0))) (off := 1599) dL_law_1002 dL_law_1003 dL_law_1006 dL_law_1008 dL_law_1013 dL_law_1015 dL_law_1018 dL_law_1019 dL_law_1020 dL_law_1021 dL_law_1023 dL_law_1024 dL_law_1025 dL_law_1030 (by decide) wA_len (by decide) (m.1.trans (hTE.trans (exK_n he))) (fun _ => eU_self) w32_in (kk _ _ _ _ _ _ _ _ _ _ _ _ _ _ _ _ _ _ (SIM_up ((SIM_chg (by decide) hs0 (by omega) m).1 (e0.mp he)) (by omega) hN))
  · have hx3 := exK_in (e1 := xAr) (e2 := xSt) (e3 := xUn) he
    refine f_istore (K := lK X) (n := 984) dL_law_982 rfl (Nat.le_of_ble_eq_true rfl) rfl ?_
    refine e_aload_n (K := lK X) (i := 2) (n := 985) dL_law_984 rfl rfl ?_
    refine lArg (k := 1) dL_law_985 dL_law_986 dL_law_988 dL_law_989 dL_law_990 hX hL rfl rfl (by omega) ?_
    refine lArg (k := 2) dL_law_991 dL_law_992 dL_law_994 dL_law_995 dL_law_996 hX hL rfl rfl (by omega) ?_
    refine e_lawP (K := lK X) (n := 1000) (Pr := fun M2 => mPo M M2 F 3 (sc xs (i + 1)) (sc xs (i + 2)) 0 (mTh (mHC (sHin F 3 (sc xs (i + 1)) (sc xs (i + 2)) 0)) 0 1 2 3 0)) lk_L_196 rfl dL_law_997 rfl (C_X7_addCloud (M := M) hF hR (by omega) (by omega) g1 g2) (fun _ q => q) rfl rfl (Nat.le_of_ble_eq_true rfl) (Nat.le_of_ble_eq_true rfl) (Nat.le_of_ble_eq_true rfl) ⟨rfl, rfl⟩ wA_len rfl rfl (fun M2 m => ?_)
    refine EV.eq (st' := [vi (w32 (if mTh (mHC (sHin F 3 (sc xs (i + 1)) (sc xs (i + 2)) 0)) 0 1 2 3 0 = 0 then sDoR F 3 (sc xs (i + 1)) (sc xs (i + 2)) 0 else 0))]) (congrArg (fun v => [v]) w32_v) ?_
    refine f_istore (K := lK X) (n := 1002) dL_law_1000 rfl (Nat.le_of_ble_eq_true rfl) rfl ?_
    exact lTail (bb := bb) (i := i) (e := (exK (eEx (sHin F 3 (sc xs (i + 1)) (sc xs (i + 2)) 0)) xAr xSt xUn)) (v := (w32 (if mTh (mHC (sHin F 3 (sc xs (i + 1)) (sc xs (i + 2)) 0)) 0 1 2 3 0 = 0 then sDoR F 3 (sc xs (i + 1)) (sc xs (i + 2)) 0 else 0))) (off := 1599) dL_law_1002 dL_law_1003 dL_law_1006 dL_law_1008 dL_law_1013 dL_law_1015 dL_law_1018 dL_law_1019 dL_law_1020 dL_law_1021 dL_law_1023 dL_law_1024 dL_law_1025 dL_law_1030 (by decide) wA_len (by omega) (Eq.trans m.1 hTE) (fun q => by exfalso; omega) w32_in (kk _ _ _ _ _ _ _ _ _ _ _ _ _ _ _ _ _ _ (SIM_up ((SIM_chg (by decide) hs0 (by omega) m).2 (fun q => he (e0.mpr q))) (by omega) hN))
set_option maxHeartbeats 1600000 in
theorem LC_removeCloud {X : eXT} {a : Nat → Nat} {b b' : Nat × Nat} {bb L : Nat} {xs : Nat → Int32} {i N : Int} {z : Nat → Int} {ln : Int → Int} {F : eFs} {P : Int → Int} {D : eFs} {DQ : Int → Int} {S : eFs} {SP : Int → Int} {c n : Int} {h : eHs} {g rc : Int → Int} {T : eFs} {Mt : Int → Int → Int} {M : eFs} {o : Int → Int} {od : Nat → UInt64} (hX : X.2 = some (bb, L, xs)) (hL : L ≤ 2147483647) (hi : 0 ≤ i ∧ i + 4 ≤ L) (hb : 2 + b'.1 ≤ b.1 ∧ 12 + b'.2 ≤ b.2) (hN : N + 2400 ≤ 90000000) (hs : SIM N z ln F S c n h g rc T Mt M) (kk : lG X a bb (N + 2400) i b') :
    EV (lK X) a b (wA a z ln F P D DQ S SP c n h g rc T Mt [] ++ (wM (fun k => a (131 + k)) M ++ [eJ 1 1 o, eDd 1 od])) 1033 (lLs a bb i) [] := by
  have hs0 := hs
  obtain ⟨⟨hF, hC, hA, hR⟩, -, -, ⟨n1, n2, n3, n4, n5, n6, n7, n8, n9, n10⟩, ⟨l1, l2, l3⟩, ⟨hg, hr⟩, hT, hz, ⟨hw, hw4⟩, hN0⟩ := hs
  have hc9 := hF.1
  have g1 := sc_in (xs := xs) (z := i + 1)
  have g2 := sc_in (xs := xs) (z := i + 2)
  have hTE : mTh (mHC (sHin F 4 (sc xs (i + 1)) (sc xs (i + 2)) 0)) 0 1 0 0 2 = exK (eEx (sHin F 4 (sc xs (i + 1)) (sc xs (i + 2)) 0)) xAr xNo "" := by
    rcases hk_4 (F := F) (p := (sc xs (i + 1))) (q := (sc xs (i + 2))) (r := 0) with w | w | w
    · rw [w]; show (0 : Int) = exK none _ _ _; rfl
    · rw [w]; show (1 : Int) = exK (some xAr) _ _ _; exact (exK_s1 ).symm
    · rw [w]; show (2 : Int) = exK (some xNo) _ _ _; exact (exK_s2 (by decide)).symm
  have hV : mTh (mHC (sHin F 4 (sc xs (i + 1)) (sc xs (i + 2)) 0)) 0 1 0 0 2 = 0 → (if mTh (mHC (sHin F 4 (sc xs (i + 1)) (sc xs (i + 2)) 0)) 0 1 0 0 2 = 0 then sDoR F 4 (sc xs (i + 1)) (sc xs (i + 2)) 0 else 0 : Int) = sDoR F 4 (sc xs (i + 1)) (sc xs (i + 2)) 0 := fun q => if_pos q
  have e0 : eEx (sHin F 4 (sc xs (i + 1)) (sc xs (i + 2)) 0) = none ↔ (sHin F 4 (sc xs (i + 1)) (sc xs (i + 2)) 0) = 0 := by
    rcases hk_4 (F := F) (p := (sc xs (i + 1))) (q := (sc xs (i + 2))) (r := 0) with w | w | w <;> rw [w] <;> decide
  refine e_aload_n (K := lK X) (i := 1) (n := 1034) dL_law_1033 rfl rfl ?_
  refine lArg (k := 1) dL_law_1034 dL_law_1035 dL_law_1037 dL_law_1038 dL_law_1039 hX hL rfl rfl (by omega) ?_
  refine lArg (k := 2) dL_law_1040 dL_law_1041 dL_law_1043 dL_law_1044 dL_law_1045 hX hL rfl rfl (by omega) ?_
  refine e_aload_n (K := lK X) (i := 3) (n := 1047) dL_law_1046 rfl rfl ?_
  refine e_lawW (K := lK X) (b' := b') (n := 1050) lk_L_197 (by decide) dL_law_1047 rfl (W_removeCloud hF n1 n2 g1 g2) rfl rfl (Nat.le_of_ble_eq_true rfl) (Nat.le_of_ble_eq_true rfl) (Nat.le_of_ble_eq_true rfl) ⟨hb.1, hb.2⟩ wA_len wA_len wA_len wM_6 (fun he => ?_) (fun he => ?_)
  · refine EV.eq (st' := [vi 0]) (by show [vi (exK (eEx (sHin F 4 (sc xs (i + 1)) (sc xs (i + 2)) 0)) xAr xNo "")] = _; rw [exK_n he]) ?_
    refine f_istore (K := lK X) (n := 1052) dL_law_1050 rfl (Nat.le_of_ble_eq_true rfl) rfl ?_
    refine e_aload_n (K := lK X) (i := 2) (n := 1053) dL_law_1052 rfl rfl ?_
    refine lArg (k := 1) dL_law_1053 dL_law_1054 dL_law_1056 dL_law_1057 dL_law_1058 hX hL rfl rfl (by omega) ?_
    refine lArg (k := 2) dL_law_1059 dL_law_1060 dL_law_1062 dL_law_1063 dL_law_1064 hX hL rfl rfl (by omega) ?_
    refine e_lawP (K := lK X) (n := 1068) (Pr := fun M2 => mPo M M2 F 4 (sc xs (i + 1)) (sc xs (i + 2)) 0 (mTh (mHC (sHin F 4 (sc xs (i + 1)) (sc xs (i + 2)) 0)) 0 1 0 0 2)) lk_L_199 rfl dL_law_1065 rfl (C_X7_removeCloud (M := M) hF hR (by omega) (by omega) g1 g2) (fun _ q => q) rfl rfl (Nat.le_of_ble_eq_true rfl) (Nat.le_of_ble_eq_true rfl) (Nat.le_of_ble_eq_true rfl) ⟨rfl, rfl⟩ wA_len rfl rfl (fun M2 m => ?_)
    refine EV.eq (st' := [vi (w32 (sDoR F 4 (sc xs (i + 1)) (sc xs (i + 2)) 0))]) (by show [vi (if mTh (mHC (sHin F 4 (sc xs (i + 1)) (sc xs (i + 2)) 0)) 0 1 0 0 2 = 0 then sDoR F 4 (sc xs (i + 1)) (sc xs (i + 2)) 0 else 0)] = _; rw [hV (hTE.trans (exK_n he))]; exact congrArg (fun v => [v]) w32_v) ?_
    refine f_istore (K := lK X) (n := 1070) dL_law_1068 rfl (Nat.le_of_ble_eq_true rfl) rfl ?_
    exact lTail (bb := bb) (i := i) (e := 0) (v := (w32 (sDoR F 4 (sc xs (i + 1)) (sc xs (i + 2)) 0))) (off := 1531) dL_law_1070 dL_law_1071 dL_law_1074 dL_law_1076 dL_law_1081 dL_law_1083 dL_law_1086 dL_law_1087 dL_law_1088 dL_law_1089 dL_law_1091 dL_law_1092 dL_law_1093 dL_law_1098 (by decide) wA_len (by decide) (m.1.trans (hTE.trans (exK_n he))) (fun _ => eU_self) w32_in (kk _ _ _ _ _ _ _ _ _ _ _ _ _ _ _ _ _ _ (SIM_up ((SIM_chg (by decide) hs0 (by omega) m).1 (e0.mp he)) (by omega) hN))
  · have hx3 := exK_in (e1 := xAr) (e2 := xNo) (e3 := "") he
    refine f_istore (K := lK X) (n := 1052) dL_law_1050 rfl (Nat.le_of_ble_eq_true rfl) rfl ?_
    refine e_aload_n (K := lK X) (i := 2) (n := 1053) dL_law_1052 rfl rfl ?_
    refine lArg (k := 1) dL_law_1053 dL_law_1054 dL_law_1056 dL_law_1057 dL_law_1058 hX hL rfl rfl (by omega) ?_
    refine lArg (k := 2) dL_law_1059 dL_law_1060 dL_law_1062 dL_law_1063 dL_law_1064 hX hL rfl rfl (by omega) ?_
    refine e_lawP (K := lK X) (n := 1068) (Pr := fun M2 => mPo M M2 F 4 (sc xs (i + 1)) (sc xs (i + 2)) 0 (mTh (mHC (sHin F 4 (sc xs (i + 1)) (sc xs (i + 2)) 0)) 0 1 0 0 2)) lk_L_199 rfl dL_law_1065 rfl (C_X7_removeCloud (M := M) hF hR (by omega) (by omega) g1 g2) (fun _ q => q) rfl rfl (Nat.le_of_ble_eq_true rfl) (Nat.le_of_ble_eq_true rfl) (Nat.le_of_ble_eq_true rfl) ⟨rfl, rfl⟩ wA_len rfl rfl (fun M2 m => ?_)
    refine EV.eq (st' := [vi (w32 (if mTh (mHC (sHin F 4 (sc xs (i + 1)) (sc xs (i + 2)) 0)) 0 1 0 0 2 = 0 then sDoR F 4 (sc xs (i + 1)) (sc xs (i + 2)) 0 else 0))]) (congrArg (fun v => [v]) w32_v) ?_
    refine f_istore (K := lK X) (n := 1070) dL_law_1068 rfl (Nat.le_of_ble_eq_true rfl) rfl ?_
    exact lTail (bb := bb) (i := i) (e := (exK (eEx (sHin F 4 (sc xs (i + 1)) (sc xs (i + 2)) 0)) xAr xNo "")) (v := (w32 (if mTh (mHC (sHin F 4 (sc xs (i + 1)) (sc xs (i + 2)) 0)) 0 1 0 0 2 = 0 then sDoR F 4 (sc xs (i + 1)) (sc xs (i + 2)) 0 else 0))) (off := 1531) dL_law_1070 dL_law_1071 dL_law_1074 dL_law_1076 dL_law_1081 dL_law_1083 dL_law_1086 dL_law_1087 dL_law_1088 dL_law_1089 dL_law_1091 dL_law_1092 dL_law_1093 dL_law_1098 (by decide) wA_len (by omega) (Eq.trans m.1 hTE) (fun q => by exfalso; omega) w32_in (kk _ _ _ _ _ _ _ _ _ _ _ _ _ _ _ _ _ _ (SIM_up ((SIM_chg (by decide) hs0 (by omega) m).2 (fun q => he (e0.mpr q))) (by omega) hN))
set_option maxHeartbeats 1600000 in
theorem LC_isCloud {X : eXT} {a : Nat → Nat} {b b' : Nat × Nat} {bb L : Nat} {xs : Nat → Int32} {i N : Int} {z : Nat → Int} {ln : Int → Int} {F : eFs} {P : Int → Int} {D : eFs} {DQ : Int → Int} {S : eFs} {SP : Int → Int} {c n : Int} {h : eHs} {g rc : Int → Int} {T : eFs} {Mt : Int → Int → Int} {M : eFs} {o : Int → Int} {od : Nat → UInt64} (hX : X.2 = some (bb, L, xs)) (hL : L ≤ 2147483647) (hi : 0 ≤ i ∧ i + 4 ≤ L) (hb : 2 + b'.1 ≤ b.1 ∧ 12 + b'.2 ≤ b.2) (hN : N + 2400 ≤ 90000000) (hs : SIM N z ln F S c n h g rc T Mt M) (kk : lG X a bb (N + 2400) i b') :
    EV (lK X) a b (wA a z ln F P D DQ S SP c n h g rc T Mt [] ++ (wM (fun k => a (131 + k)) M ++ [eJ 1 1 o, eDd 1 od])) 1101 (lLs a bb i) [] := by
  have hs0 := hs
  obtain ⟨⟨hF, hC, hA, hR⟩, -, -, ⟨n1, n2, n3, n4, n5, n6, n7, n8, n9, n10⟩, ⟨l1, l2, l3⟩, ⟨hg, hr⟩, hT, hz, ⟨hw, hw4⟩, hN0⟩ := hs
  have hc9 := hF.1
  have g1 := sc_in (xs := xs) (z := i + 1)
  have g2 := sc_in (xs := xs) (z := i + 2)
  have hTE : (if sIn (sc xs (i + 1)) (sc xs (i + 2)) then (0 : Int) else 1) = exK ((if sIn (sc xs (i + 1)) (sc xs (i + 2)) then none else some xAr)) xAr "" "" := by
    exact exK_i1.symm
  refine e_aload_n (K := lK X) (i := 1) (n := 1102) dL_law_1101 rfl rfl ?_
  refine lArg (k := 1) dL_law_1102 dL_law_1103 dL_law_1105 dL_law_1106 dL_law_1107 hX hL rfl rfl (by omega) ?_
  refine lArg (k := 2) dL_law_1108 dL_law_1109 dL_law_1111 dL_law_1112 dL_law_1113 hX hL rfl rfl (by omega) ?_
  refine e_aload_n (K := lK X) (i := 3) (n := 1115) dL_law_1114 rfl rfl ?_
  refine e_lawW (K := lK X) (b' := b') (n := 1118) lk_L_200 (by decide) dL_law_1115 rfl (W_isCloud hF g1 g2) rfl rfl (Nat.le_of_ble_eq_true rfl) (Nat.le_of_ble_eq_true rfl) (Nat.le_of_ble_eq_true rfl) ⟨hb.1, hb.2⟩ wA_len wA_len wA_len wM_6 (fun he => ?_) (fun he => ?_)
  · refine EV.eq (st' := [vi 0]) (by show [vi (exK ((if sIn (sc xs (i + 1)) (sc xs (i + 2)) then none else some xAr)) xAr "" "")] = _; rw [exK_n he]) ?_
    refine f_istore (K := lK X) (n := 1120) dL_law_1118 rfl (Nat.le_of_ble_eq_true rfl) rfl ?_
    refine e_aload_n (K := lK X) (i := 2) (n := 1121) dL_law_1120 rfl rfl ?_
    refine lArg (k := 1) dL_law_1121 dL_law_1122 dL_law_1124 dL_law_1125 dL_law_1126 hX hL rfl rfl (by omega) ?_
    refine lArg (k := 2) dL_law_1127 dL_law_1128 dL_law_1130 dL_law_1131 dL_law_1132 hX hL rfl rfl (by omega) ?_
    refine e_lawQ (K := lK X) (n := 1136) (M2 := sS M 0 (if sIn (sc xs (i + 1)) (sc xs (i + 2)) then (0 : Int) else 1)) lk_L_202 rfl dL_law_1133 rfl (C_X7_isCloud (M := M) hF hR g1 g2) rfl rfl (Nat.le_of_ble_eq_true rfl) (Nat.le_of_ble_eq_true rfl) (Nat.le_of_ble_eq_true rfl) ⟨rfl, rfl⟩ wA_len rfl rfl ?_
    refine f_istore (K := lK X) (n := 1138) dL_law_1136 rfl (Nat.le_of_ble_eq_true rfl) rfl ?_
    exact lTailB (bb := bb) (i := i) (e := 0) (off := 1456) dL_law_1138 dL_law_1139 dL_law_1142 dL_law_1144 dL_law_1149 dL_law_1151 dL_law_1154 dL_law_1155 dL_law_1156 dL_law_1157 dL_law_1159 dL_law_1162 dL_law_1163 dL_law_1166 dL_law_1167 dL_law_1168 dL_law_1173 (by decide) wA_len (by decide) (Eq.trans sS_0 (hTE.trans (exK_n he))) (fun _ => eU_self) (kk _ _ _ _ _ _ _ _ _ _ _ _ _ _ _ _ _ _ (SIM_up (SIM_eq hs0 mEq_0) (by omega) hN))
  · have hx3 := exK_in (e1 := xAr) (e2 := "") (e3 := "") he
    refine f_istore (K := lK X) (n := 1120) dL_law_1118 rfl (Nat.le_of_ble_eq_true rfl) rfl ?_
    refine e_aload_n (K := lK X) (i := 2) (n := 1121) dL_law_1120 rfl rfl ?_
    refine lArg (k := 1) dL_law_1121 dL_law_1122 dL_law_1124 dL_law_1125 dL_law_1126 hX hL rfl rfl (by omega) ?_
    refine lArg (k := 2) dL_law_1127 dL_law_1128 dL_law_1130 dL_law_1131 dL_law_1132 hX hL rfl rfl (by omega) ?_
    refine e_lawQ (K := lK X) (n := 1136) (M2 := sS M 0 (if sIn (sc xs (i + 1)) (sc xs (i + 2)) then (0 : Int) else 1)) lk_L_202 rfl dL_law_1133 rfl (C_X7_isCloud (M := M) hF hR g1 g2) rfl rfl (Nat.le_of_ble_eq_true rfl) (Nat.le_of_ble_eq_true rfl) (Nat.le_of_ble_eq_true rfl) ⟨rfl, rfl⟩ wA_len rfl rfl ?_
    refine f_istore (K := lK X) (n := 1138) dL_law_1136 rfl (Nat.le_of_ble_eq_true rfl) rfl ?_
    exact lTailB (bb := bb) (i := i) (e := (exK ((if sIn (sc xs (i + 1)) (sc xs (i + 2)) then none else some xAr)) xAr "" "")) (off := 1456) dL_law_1138 dL_law_1139 dL_law_1142 dL_law_1144 dL_law_1149 dL_law_1151 dL_law_1154 dL_law_1155 dL_law_1156 dL_law_1157 dL_law_1159 dL_law_1162 dL_law_1163 dL_law_1166 dL_law_1167 dL_law_1168 dL_law_1173 (by decide) wA_len (by omega) (Eq.trans sS_0 hTE) (fun q => by exfalso; omega) (kk _ _ _ _ _ _ _ _ _ _ _ _ _ _ _ _ _ _ (SIM_up (SIM_eq hs0 mEq_0) (by omega) hN))
set_option maxHeartbeats 1600000 in
theorem LC_setTurnLength {X : eXT} {a : Nat → Nat} {b b' : Nat × Nat} {bb L : Nat} {xs : Nat → Int32} {i N : Int} {z : Nat → Int} {ln : Int → Int} {F : eFs} {P : Int → Int} {D : eFs} {DQ : Int → Int} {S : eFs} {SP : Int → Int} {c n : Int} {h : eHs} {g rc : Int → Int} {T : eFs} {Mt : Int → Int → Int} {M : eFs} {o : Int → Int} {od : Nat → UInt64} (hX : X.2 = some (bb, L, xs)) (hL : L ≤ 2147483647) (hi : 0 ≤ i ∧ i + 4 ≤ L) (hb : 2 + b'.1 ≤ b.1 ∧ 12 + b'.2 ≤ b.2) (hN : N + 2400 ≤ 90000000) (hs : SIM N z ln F S c n h g rc T Mt M) (kk : lG X a bb (N + 2400) i b') :
    EV (lK X) a b (wA a z ln F P D DQ S SP c n h g rc T Mt [] ++ (wM (fun k => a (131 + k)) M ++ [eJ 1 1 o, eDd 1 od])) 1189 (lLs a bb i) [] := by
  have hs0 := hs
  obtain ⟨⟨hF, hC, hA, hR⟩, -, -, ⟨n1, n2, n3, n4, n5, n6, n7, n8, n9, n10⟩, ⟨l1, l2, l3⟩, ⟨hg, hr⟩, hT, hz, ⟨hw, hw4⟩, hN0⟩ := hs
  have hc9 := hF.1
  have g1 := sc_in (xs := xs) (z := i + 1)
  have hTE : mTh (mHC (sHin F 5 (sc xs (i + 1)) 0 0)) 0 1 0 0 0 = exK (eEx (sHin F 5 (sc xs (i + 1)) 0 0)) xAr "" "" := by
    rcases hk_5 (F := F) (p := (sc xs (i + 1))) (q := 0) (r := 0) with w | w
    · rw [w]; show (0 : Int) = exK none _ _ _; rfl
    · rw [w]; show (1 : Int) = exK (some xAr) _ _ _; exact (exK_s1 ).symm
  have hV : mTh (mHC (sHin F 5 (sc xs (i + 1)) 0 0)) 0 1 0 0 0 = 0 → (if mTh (mHC (sHin F 5 (sc xs (i + 1)) 0 0)) 0 1 0 0 0 = 0 then sDoR F 5 (sc xs (i + 1)) 0 0 else 0 : Int) = sDoR F 5 (sc xs (i + 1)) 0 0 := fun q => if_pos q
  have e0 : eEx (sHin F 5 (sc xs (i + 1)) 0 0) = none ↔ (sHin F 5 (sc xs (i + 1)) 0 0) = 0 := by
    rcases hk_5 (F := F) (p := (sc xs (i + 1))) (q := 0) (r := 0) with w | w <;> rw [w] <;> decide
  refine e_aload_n (K := lK X) (i := 1) (n := 1190) dL_law_1189 rfl rfl ?_
  refine lArg (k := 1) dL_law_1190 dL_law_1191 dL_law_1193 dL_law_1194 dL_law_1195 hX hL rfl rfl (by omega) ?_
  refine e_aload_n (K := lK X) (i := 3) (n := 1197) dL_law_1196 rfl rfl ?_
  refine e_lawW (K := lK X) (b' := b') (n := 1200) lk_L_207 (by decide) dL_law_1197 rfl (W_setTurnLength hF n1 n2 g1) rfl rfl (Nat.le_of_ble_eq_true rfl) (Nat.le_of_ble_eq_true rfl) (Nat.le_of_ble_eq_true rfl) ⟨hb.1, hb.2⟩ wA_len wA_len wA_len wM_6 (fun he => ?_) (fun he => ?_)
  · refine EV.eq (st' := [vi 0]) (by show [vi (exK (eEx (sHin F 5 (sc xs (i + 1)) 0 0)) xAr "" "")] = _; rw [exK_n he]) ?_
    refine f_istore (K := lK X) (n := 1202) dL_law_1200 rfl (Nat.le_of_ble_eq_true rfl) rfl ?_
    refine e_aload_n (K := lK X) (i := 2) (n := 1203) dL_law_1202 rfl rfl ?_
    refine lArg (k := 1) dL_law_1203 dL_law_1204 dL_law_1206 dL_law_1207 dL_law_1208 hX hL rfl rfl (by omega) ?_
    refine e_lawP (K := lK X) (n := 1212) (Pr := fun M2 => mPo M M2 F 5 (sc xs (i + 1)) 0 0 (mTh (mHC (sHin F 5 (sc xs (i + 1)) 0 0)) 0 1 0 0 0)) lk_L_209 rfl dL_law_1209 rfl (C_X7_setTurnLength (M := M) hF hR (by omega) (by omega) g1) (fun _ q => q) rfl rfl (Nat.le_of_ble_eq_true rfl) (Nat.le_of_ble_eq_true rfl) (Nat.le_of_ble_eq_true rfl) ⟨rfl, rfl⟩ wA_len rfl rfl (fun M2 m => ?_)
    refine EV.eq (st' := [vi (w32 (sDoR F 5 (sc xs (i + 1)) 0 0))]) (by show [vi (if mTh (mHC (sHin F 5 (sc xs (i + 1)) 0 0)) 0 1 0 0 0 = 0 then sDoR F 5 (sc xs (i + 1)) 0 0 else 0)] = _; rw [hV (hTE.trans (exK_n he))]; exact congrArg (fun v => [v]) w32_v) ?_
    refine f_istore (K := lK X) (n := 1214) dL_law_1212 rfl (Nat.le_of_ble_eq_true rfl) rfl ?_
    exact lTail (bb := bb) (i := i) (e := 0) (v := (w32 (sDoR F 5 (sc xs (i + 1)) 0 0))) (off := 1387) dL_law_1214 dL_law_1215 dL_law_1218 dL_law_1220 dL_law_1225 dL_law_1227 dL_law_1230 dL_law_1231 dL_law_1232 dL_law_1233 dL_law_1235 dL_law_1236 dL_law_1237 dL_law_1242 (by decide) wA_len (by decide) (m.1.trans (hTE.trans (exK_n he))) (fun _ => eU_self) w32_in (kk _ _ _ _ _ _ _ _ _ _ _ _ _ _ _ _ _ _ (SIM_up ((SIM_chg (by decide) hs0 (by omega) m).1 (e0.mp he)) (by omega) hN))
  · have hx3 := exK_in (e1 := xAr) (e2 := "") (e3 := "") he
    refine f_istore (K := lK X) (n := 1202) dL_law_1200 rfl (Nat.le_of_ble_eq_true rfl) rfl ?_
    refine e_aload_n (K := lK X) (i := 2) (n := 1203) dL_law_1202 rfl rfl ?_
    refine lArg (k := 1) dL_law_1203 dL_law_1204 dL_law_1206 dL_law_1207 dL_law_1208 hX hL rfl rfl (by omega) ?_
    refine e_lawP (K := lK X) (n := 1212) (Pr := fun M2 => mPo M M2 F 5 (sc xs (i + 1)) 0 0 (mTh (mHC (sHin F 5 (sc xs (i + 1)) 0 0)) 0 1 0 0 0)) lk_L_209 rfl dL_law_1209 rfl (C_X7_setTurnLength (M := M) hF hR (by omega) (by omega) g1) (fun _ q => q) rfl rfl (Nat.le_of_ble_eq_true rfl) (Nat.le_of_ble_eq_true rfl) (Nat.le_of_ble_eq_true rfl) ⟨rfl, rfl⟩ wA_len rfl rfl (fun M2 m => ?_)
    refine EV.eq (st' := [vi (w32 (if mTh (mHC (sHin F 5 (sc xs (i + 1)) 0 0)) 0 1 0 0 0 = 0 then sDoR F 5 (sc xs (i + 1)) 0 0 else 0))]) (congrArg (fun v => [v]) w32_v) ?_
    refine f_istore (K := lK X) (n := 1214) dL_law_1212 rfl (Nat.le_of_ble_eq_true rfl) rfl ?_
    exact lTail (bb := bb) (i := i) (e := (exK (eEx (sHin F 5 (sc xs (i + 1)) 0 0)) xAr "" "")) (v := (w32 (if mTh (mHC (sHin F 5 (sc xs (i + 1)) 0 0)) 0 1 0 0 0 = 0 then sDoR F 5 (sc xs (i + 1)) 0 0 else 0))) (off := 1387) dL_law_1214 dL_law_1215 dL_law_1218 dL_law_1220 dL_law_1225 dL_law_1227 dL_law_1230 dL_law_1231 dL_law_1232 dL_law_1233 dL_law_1235 dL_law_1236 dL_law_1237 dL_law_1242 (by decide) wA_len (by omega) (Eq.trans m.1 hTE) (fun q => by exfalso; omega) w32_in (kk _ _ _ _ _ _ _ _ _ _ _ _ _ _ _ _ _ _ (SIM_up ((SIM_chg (by decide) hs0 (by omega) m).2 (fun q => he (e0.mpr q))) (by omega) hN))
set_option maxHeartbeats 1600000 in
theorem LC_leader {X : eXT} {a : Nat → Nat} {b b' : Nat × Nat} {bb L : Nat} {xs : Nat → Int32} {i N : Int} {z : Nat → Int} {ln : Int → Int} {F : eFs} {P : Int → Int} {D : eFs} {DQ : Int → Int} {S : eFs} {SP : Int → Int} {c n : Int} {h : eHs} {g rc : Int → Int} {T : eFs} {Mt : Int → Int → Int} {M : eFs} {o : Int → Int} {od : Nat → UInt64} (hX : X.2 = some (bb, L, xs)) (hL : L ≤ 2147483647) (hi : 0 ≤ i ∧ i + 4 ≤ L) (hb : 2 + b'.1 ≤ b.1 ∧ 12 + b'.2 ≤ b.2) (hN : N + 2400 ≤ 90000000) (hs : SIM N z ln F S c n h g rc T Mt M) (kk : lG X a bb (N + 2400) i b') :
    EV (lK X) a b (wA a z ln F P D DQ S SP c n h g rc T Mt [] ++ (wM (fun k => a (131 + k)) M ++ [eJ 1 1 o, eDd 1 od])) 1258 (lLs a bb i) [] := by
  have hs0 := hs
  obtain ⟨⟨hF, hC, hA, hR⟩, -, -, ⟨n1, n2, n3, n4, n5, n6, n7, n8, n9, n10⟩, ⟨l1, l2, l3⟩, ⟨hg, hr⟩, hT, hz, ⟨hw, hw4⟩, hN0⟩ := hs
  have hc9 := hF.1
  have hTE : (if 1 ≤ F.1 0 then (0 : Int) else 1) = exK ((if 1 ≤ F.1 0 then none else some xNo)) xNo "" "" := by
    exact exK_i1.symm
  have hV : (if 1 ≤ F.1 0 then (0 : Int) else 1) = 0 → (if (if 1 ≤ F.1 0 then (0 : Int) else 1) = 0 then F.1 1 else 0 : Int) = F.1 1 := fun q => if_pos q
  refine e_aload_n (K := lK X) (i := 1) (n := 1259) dL_law_1258 rfl rfl ?_
  refine e_aload_n (K := lK X) (i := 3) (n := 1260) dL_law_1259 rfl rfl ?_
  refine e_lawW (K := lK X) (b' := b') (n := 1263) lk_L_214 (by decide) dL_law_1260 rfl (W_leader hF) rfl rfl (Nat.le_of_ble_eq_true rfl) (Nat.le_of_ble_eq_true rfl) (Nat.le_of_ble_eq_true rfl) ⟨hb.1, hb.2⟩ wA_len wA_len wA_len wM_6 (fun he => ?_) (fun he => ?_)
  · refine EV.eq (st' := [vi 0]) (by show [vi (exK ((if 1 ≤ F.1 0 then none else some xNo)) xNo "" "")] = _; rw [exK_n he]) ?_
    refine f_istore (K := lK X) (n := 1265) dL_law_1263 rfl (Nat.le_of_ble_eq_true rfl) rfl ?_
    refine e_aload_n (K := lK X) (i := 2) (n := 1266) dL_law_1265 rfl rfl ?_
    refine e_lawQ (K := lK X) (n := 1269) (M2 := sS M 0 (if 1 ≤ F.1 0 then (0 : Int) else 1)) lk_L_216 rfl dL_law_1266 rfl (C_X7_leader (M := M) hF hR ) rfl rfl (Nat.le_of_ble_eq_true rfl) (Nat.le_of_ble_eq_true rfl) (Nat.le_of_ble_eq_true rfl) ⟨rfl, rfl⟩ wA_len rfl rfl ?_
    refine EV.eq (st' := [vi (w32 (F.1 1))]) (by show [vi (if (if 1 ≤ F.1 0 then (0 : Int) else 1) = 0 then F.1 1 else 0)] = _; rw [hV (hTE.trans (exK_n he))]; exact congrArg (fun v => [v]) w32_v) ?_
    refine f_istore (K := lK X) (n := 1271) dL_law_1269 rfl (Nat.le_of_ble_eq_true rfl) rfl ?_
    exact lTail (bb := bb) (i := i) (e := 0) (v := (w32 (F.1 1))) (off := 1330) dL_law_1271 dL_law_1272 dL_law_1275 dL_law_1277 dL_law_1282 dL_law_1284 dL_law_1287 dL_law_1288 dL_law_1289 dL_law_1290 dL_law_1292 dL_law_1293 dL_law_1294 dL_law_1299 (by decide) wA_len (by decide) (sS_0.trans (hTE.trans (exK_n he))) (fun _ => eU_self) w32_in (kk _ _ _ _ _ _ _ _ _ _ _ _ _ _ _ _ _ _ (SIM_up (SIM_eq hs0 mEq_0) (by omega) hN))
  · have hx3 := exK_in (e1 := xNo) (e2 := "") (e3 := "") he
    refine f_istore (K := lK X) (n := 1265) dL_law_1263 rfl (Nat.le_of_ble_eq_true rfl) rfl ?_
    refine e_aload_n (K := lK X) (i := 2) (n := 1266) dL_law_1265 rfl rfl ?_
    refine e_lawQ (K := lK X) (n := 1269) (M2 := sS M 0 (if 1 ≤ F.1 0 then (0 : Int) else 1)) lk_L_216 rfl dL_law_1266 rfl (C_X7_leader (M := M) hF hR ) rfl rfl (Nat.le_of_ble_eq_true rfl) (Nat.le_of_ble_eq_true rfl) (Nat.le_of_ble_eq_true rfl) ⟨rfl, rfl⟩ wA_len rfl rfl ?_
    refine EV.eq (st' := [vi (w32 (if (if 1 ≤ F.1 0 then (0 : Int) else 1) = 0 then F.1 1 else 0))]) (congrArg (fun v => [v]) w32_v) ?_
    refine f_istore (K := lK X) (n := 1271) dL_law_1269 rfl (Nat.le_of_ble_eq_true rfl) rfl ?_
    exact lTail (bb := bb) (i := i) (e := (exK ((if 1 ≤ F.1 0 then none else some xNo)) xNo "" "")) (v := (w32 (if (if 1 ≤ F.1 0 then (0 : Int) else 1) = 0 then F.1 1 else 0))) (off := 1330) dL_law_1271 dL_law_1272 dL_law_1275 dL_law_1277 dL_law_1282 dL_law_1284 dL_law_1287 dL_law_1288 dL_law_1289 dL_law_1290 dL_law_1292 dL_law_1293 dL_law_1294 dL_law_1299 (by decide) wA_len (by omega) (Eq.trans sS_0 hTE) (fun q => by exfalso; omega) w32_in (kk _ _ _ _ _ _ _ _ _ _ _ _ _ _ _ _ _ _ (SIM_up (SIM_eq hs0 mEq_0) (by omega) hN))
set_option maxHeartbeats 1600000 in
theorem LC_leaderAfter {X : eXT} {a : Nat → Nat} {b b' : Nat × Nat} {bb L : Nat} {xs : Nat → Int32} {i N : Int} {z : Nat → Int} {ln : Int → Int} {F : eFs} {P : Int → Int} {D : eFs} {DQ : Int → Int} {S : eFs} {SP : Int → Int} {c n : Int} {h : eHs} {g rc : Int → Int} {T : eFs} {Mt : Int → Int → Int} {M : eFs} {o : Int → Int} {od : Nat → UInt64} (hX : X.2 = some (bb, L, xs)) (hL : L ≤ 2147483647) (hi : 0 ≤ i ∧ i + 4 ≤ L) (hb : 2 + b'.1 ≤ b.1 ∧ 12 + b'.2 ≤ b.2) (hN : N + 2400 ≤ 90000000) (hs : SIM N z ln F S c n h g rc T Mt M) (kk : lG X a bb (N + 2400) i b') :
    EV (lK X) a b (wA a z ln F P D DQ S SP c n h g rc T Mt [] ++ (wM (fun k => a (131 + k)) M ++ [eJ 1 1 o, eDd 1 od])) 1302 (lLs a bb i) [] := by
  have hs0 := hs
  obtain ⟨⟨hF, hC, hA, hR⟩, -, -, ⟨n1, n2, n3, n4, n5, n6, n7, n8, n9, n10⟩, ⟨l1, l2, l3⟩, ⟨hg, hr⟩, hT, hz, ⟨hw, hw4⟩, hN0⟩ := hs
  have hc9 := hF.1
  have g1 := sc_in (xs := xs) (z := i + 1)
  have hTE : (if ¬ (0 ≤ (sc xs (i + 1)) ∧ (sc xs (i + 1)) ≤ 99) then (1 : Int) else if F.1 0 = 0 then 2 else 0) = exK ((if 0 ≤ (sc xs (i + 1)) ∧ (sc xs (i + 1)) ≤ 99 then (if 1 ≤ F.1 0 then none else some xNo) else some xAr)) xAr xNo "" := by
    rw [exK_i2 (by decide)]
    (repeat' split) <;> first | rfl | contradiction | (exfalso; omega)
  have hV : (if ¬ (0 ≤ (sc xs (i + 1)) ∧ (sc xs (i + 1)) ≤ 99) then (1 : Int) else if F.1 0 = 0 then 2 else 0) = 0 → (if (if ¬ (0 ≤ (sc xs (i + 1)) ∧ (sc xs (i + 1)) ≤ 99) then (1 : Int) else if F.1 0 = 0 then 2 else 0) = 0 then sLead F (sc xs (i + 1)) else 0 : Int) = sLead F (sc xs (i + 1)) := fun q => if_pos q
  refine e_aload_n (K := lK X) (i := 1) (n := 1303) dL_law_1302 rfl rfl ?_
  refine lArg (k := 1) dL_law_1303 dL_law_1304 dL_law_1306 dL_law_1307 dL_law_1308 hX hL rfl rfl (by omega) ?_
  refine e_aload_n (K := lK X) (i := 3) (n := 1310) dL_law_1309 rfl rfl ?_
  refine e_lawW (K := lK X) (b' := b') (n := 1313) lk_L_217 (by decide) dL_law_1310 rfl (W_leaderAfter hF g1) rfl rfl (Nat.le_of_ble_eq_true rfl) (Nat.le_of_ble_eq_true rfl) (Nat.le_of_ble_eq_true rfl) ⟨hb.1, hb.2⟩ wA_len wA_len wA_len wM_6 (fun he => ?_) (fun he => ?_)
  · refine EV.eq (st' := [vi 0]) (by show [vi (exK ((if 0 ≤ (sc xs (i + 1)) ∧ (sc xs (i + 1)) ≤ 99 then (if 1 ≤ F.1 0 then none else some xNo) else some xAr)) xAr xNo "")] = _; rw [exK_n he]) ?_
    refine f_istore (K := lK X) (n := 1315) dL_law_1313 rfl (Nat.le_of_ble_eq_true rfl) rfl ?_
    refine e_aload_n (K := lK X) (i := 2) (n := 1316) dL_law_1315 rfl rfl ?_
    refine lArg (k := 1) dL_law_1316 dL_law_1317 dL_law_1319 dL_law_1320 dL_law_1321 hX hL rfl rfl (by omega) ?_
    refine e_lawQ (K := lK X) (n := 1325) (M2 := sS M 0 (if ¬ (0 ≤ (sc xs (i + 1)) ∧ (sc xs (i + 1)) ≤ 99) then (1 : Int) else if F.1 0 = 0 then 2 else 0)) lk_L_219 rfl dL_law_1322 rfl (C_X7_leaderAfter (M := M) hF hR g1) rfl rfl (Nat.le_of_ble_eq_true rfl) (Nat.le_of_ble_eq_true rfl) (Nat.le_of_ble_eq_true rfl) ⟨rfl, rfl⟩ wA_len rfl rfl ?_
    refine EV.eq (st' := [vi (w32 (sLead F (sc xs (i + 1))))]) (by show [vi (if (if ¬ (0 ≤ (sc xs (i + 1)) ∧ (sc xs (i + 1)) ≤ 99) then (1 : Int) else if F.1 0 = 0 then 2 else 0) = 0 then sLead F (sc xs (i + 1)) else 0)] = _; rw [hV (hTE.trans (exK_n he))]; exact congrArg (fun v => [v]) w32_v) ?_
    refine f_istore (K := lK X) (n := 1327) dL_law_1325 rfl (Nat.le_of_ble_eq_true rfl) rfl ?_
    exact lTail (bb := bb) (i := i) (e := 0) (v := (w32 (sLead F (sc xs (i + 1))))) (off := 1274) dL_law_1327 dL_law_1328 dL_law_1331 dL_law_1333 dL_law_1338 dL_law_1340 dL_law_1343 dL_law_1344 dL_law_1345 dL_law_1346 dL_law_1348 dL_law_1349 dL_law_1350 dL_law_1355 (by decide) wA_len (by decide) (sS_0.trans (hTE.trans (exK_n he))) (fun _ => eU_self) w32_in (kk _ _ _ _ _ _ _ _ _ _ _ _ _ _ _ _ _ _ (SIM_up (SIM_eq hs0 mEq_0) (by omega) hN))
  · have hx3 := exK_in (e1 := xAr) (e2 := xNo) (e3 := "") he
    refine f_istore (K := lK X) (n := 1315) dL_law_1313 rfl (Nat.le_of_ble_eq_true rfl) rfl ?_
    refine e_aload_n (K := lK X) (i := 2) (n := 1316) dL_law_1315 rfl rfl ?_
    refine lArg (k := 1) dL_law_1316 dL_law_1317 dL_law_1319 dL_law_1320 dL_law_1321 hX hL rfl rfl (by omega) ?_
    refine e_lawQ (K := lK X) (n := 1325) (M2 := sS M 0 (if ¬ (0 ≤ (sc xs (i + 1)) ∧ (sc xs (i + 1)) ≤ 99) then (1 : Int) else if F.1 0 = 0 then 2 else 0)) lk_L_219 rfl dL_law_1322 rfl (C_X7_leaderAfter (M := M) hF hR g1) rfl rfl (Nat.le_of_ble_eq_true rfl) (Nat.le_of_ble_eq_true rfl) (Nat.le_of_ble_eq_true rfl) ⟨rfl, rfl⟩ wA_len rfl rfl ?_
    refine EV.eq (st' := [vi (w32 (if (if ¬ (0 ≤ (sc xs (i + 1)) ∧ (sc xs (i + 1)) ≤ 99) then (1 : Int) else if F.1 0 = 0 then 2 else 0) = 0 then sLead F (sc xs (i + 1)) else 0))]) (congrArg (fun v => [v]) w32_v) ?_
    refine f_istore (K := lK X) (n := 1327) dL_law_1325 rfl (Nat.le_of_ble_eq_true rfl) rfl ?_
    exact lTail (bb := bb) (i := i) (e := (exK ((if 0 ≤ (sc xs (i + 1)) ∧ (sc xs (i + 1)) ≤ 99 then (if 1 ≤ F.1 0 then none else some xNo) else some xAr)) xAr xNo "")) (v := (w32 (if (if ¬ (0 ≤ (sc xs (i + 1)) ∧ (sc xs (i + 1)) ≤ 99) then (1 : Int) else if F.1 0 = 0 then 2 else 0) = 0 then sLead F (sc xs (i + 1)) else 0))) (off := 1274) dL_law_1327 dL_law_1328 dL_law_1331 dL_law_1333 dL_law_1338 dL_law_1340 dL_law_1343 dL_law_1344 dL_law_1345 dL_law_1346 dL_law_1348 dL_law_1349 dL_law_1350 dL_law_1355 (by decide) wA_len (by omega) (Eq.trans sS_0 hTE) (fun q => by exfalso; omega) w32_in (kk _ _ _ _ _ _ _ _ _ _ _ _ _ _ _ _ _ _ (SIM_up (SIM_eq hs0 mEq_0) (by omega) hN))
set_option maxHeartbeats 1600000 in
theorem LC_leaderAfterByCounting {X : eXT} {a : Nat → Nat} {b b' : Nat × Nat} {bb L : Nat} {xs : Nat → Int32} {i N : Int} {z : Nat → Int} {ln : Int → Int} {F : eFs} {P : Int → Int} {D : eFs} {DQ : Int → Int} {S : eFs} {SP : Int → Int} {c n : Int} {h : eHs} {g rc : Int → Int} {T : eFs} {Mt : Int → Int → Int} {M : eFs} {o : Int → Int} {od : Nat → UInt64} (hX : X.2 = some (bb, L, xs)) (hL : L ≤ 2147483647) (hi : 0 ≤ i ∧ i + 4 ≤ L) (hb : 2 + b'.1 ≤ b.1 ∧ 12 + b'.2 ≤ b.2) (hN : N + 2400 ≤ 90000000) (hs : SIM N z ln F S c n h g rc T Mt M) (kk : lG X a bb (N + 2400) i b') :
    EV (lK X) a b (wA a z ln F P D DQ S SP c n h g rc T Mt [] ++ (wM (fun k => a (131 + k)) M ++ [eJ 1 1 o, eDd 1 od])) 1358 (lLs a bb i) [] := by
  have hs0 := hs
  obtain ⟨⟨hF, hC, hA, hR⟩, -, -, ⟨n1, n2, n3, n4, n5, n6, n7, n8, n9, n10⟩, ⟨l1, l2, l3⟩, ⟨hg, hr⟩, hT, hz, ⟨hw, hw4⟩, hN0⟩ := hs
  have hc9 := hF.1
  have g1 := sc_in (xs := xs) (z := i + 1)
  have hTE : (if ¬ (0 ≤ (sc xs (i + 1)) ∧ (sc xs (i + 1)) ≤ 99) then (1 : Int) else if F.1 0 = 0 then 2 else 0) = exK ((if 0 ≤ (sc xs (i + 1)) ∧ (sc xs (i + 1)) ≤ 99 then (if 1 ≤ F.1 0 then none else some xNo) else some xAr)) xAr xNo "" := by
    rw [exK_i2 (by decide)]
    (repeat' split) <;> first | rfl | contradiction | (exfalso; omega)
  have hV : (if ¬ (0 ≤ (sc xs (i + 1)) ∧ (sc xs (i + 1)) ≤ 99) then (1 : Int) else if F.1 0 = 0 then 2 else 0) = 0 → (if (if ¬ (0 ≤ (sc xs (i + 1)) ∧ (sc xs (i + 1)) ≤ 99) then (1 : Int) else if F.1 0 = 0 then 2 else 0) = 0 then sLead F (sc xs (i + 1)) else 0 : Int) = sLead F (sc xs (i + 1)) := fun q => if_pos q
  refine e_aload_n (K := lK X) (i := 1) (n := 1359) dL_law_1358 rfl rfl ?_
  refine lArg (k := 1) dL_law_1359 dL_law_1360 dL_law_1362 dL_law_1363 dL_law_1364 hX hL rfl rfl (by omega) ?_
  refine e_aload_n (K := lK X) (i := 3) (n := 1366) dL_law_1365 rfl rfl ?_
  refine e_lawW (K := lK X) (b' := b') (n := 1369) lk_L_220 (by decide) dL_law_1366 rfl (W_leaderAfterByCounting hF g1) rfl rfl (Nat.le_of_ble_eq_true rfl) (Nat.le_of_ble_eq_true rfl) (Nat.le_of_ble_eq_true rfl) ⟨hb.1, hb.2⟩ wA_len wA_len wA_len wM_6 (fun he => ?_) (fun he => ?_)
  · refine EV.eq (st' := [vi 0]) (by show [vi (exK ((if 0 ≤ (sc xs (i + 1)) ∧ (sc xs (i + 1)) ≤ 99 then (if 1 ≤ F.1 0 then none else some xNo) else some xAr)) xAr xNo "")] = _; rw [exK_n he]) ?_
    refine f_istore (K := lK X) (n := 1371) dL_law_1369 rfl (Nat.le_of_ble_eq_true rfl) rfl ?_
    refine e_aload_n (K := lK X) (i := 2) (n := 1372) dL_law_1371 rfl rfl ?_
    refine lArg (k := 1) dL_law_1372 dL_law_1373 dL_law_1375 dL_law_1376 dL_law_1377 hX hL rfl rfl (by omega) ?_
    refine e_lawQ (K := lK X) (n := 1381) (M2 := sS M 0 (if ¬ (0 ≤ (sc xs (i + 1)) ∧ (sc xs (i + 1)) ≤ 99) then (1 : Int) else if F.1 0 = 0 then 2 else 0)) lk_L_222 rfl dL_law_1378 rfl (C_X7_leaderAfterByCounting (M := M) hF hR g1) rfl rfl (Nat.le_of_ble_eq_true rfl) (Nat.le_of_ble_eq_true rfl) (Nat.le_of_ble_eq_true rfl) ⟨rfl, rfl⟩ wA_len rfl rfl ?_
    refine EV.eq (st' := [vi (w32 (sLead F (sc xs (i + 1))))]) (by show [vi (if (if ¬ (0 ≤ (sc xs (i + 1)) ∧ (sc xs (i + 1)) ≤ 99) then (1 : Int) else if F.1 0 = 0 then 2 else 0) = 0 then sLead F (sc xs (i + 1)) else 0)] = _; rw [hV (hTE.trans (exK_n he))]; exact congrArg (fun v => [v]) w32_v) ?_
    refine f_istore (K := lK X) (n := 1383) dL_law_1381 rfl (Nat.le_of_ble_eq_true rfl) rfl ?_
    exact lTail (bb := bb) (i := i) (e := 0) (v := (w32 (sLead F (sc xs (i + 1))))) (off := 1218) dL_law_1383 dL_law_1384 dL_law_1387 dL_law_1389 dL_law_1394 dL_law_1396 dL_law_1399 dL_law_1400 dL_law_1401 dL_law_1402 dL_law_1404 dL_law_1405 dL_law_1406 dL_law_1411 (by decide) wA_len (by decide) (sS_0.trans (hTE.trans (exK_n he))) (fun _ => eU_self) w32_in (kk _ _ _ _ _ _ _ _ _ _ _ _ _ _ _ _ _ _ (SIM_up (SIM_eq hs0 mEq_0) (by omega) hN))
  · have hx3 := exK_in (e1 := xAr) (e2 := xNo) (e3 := "") he
    refine f_istore (K := lK X) (n := 1371) dL_law_1369 rfl (Nat.le_of_ble_eq_true rfl) rfl ?_
    refine e_aload_n (K := lK X) (i := 2) (n := 1372) dL_law_1371 rfl rfl ?_
    refine lArg (k := 1) dL_law_1372 dL_law_1373 dL_law_1375 dL_law_1376 dL_law_1377 hX hL rfl rfl (by omega) ?_
    refine e_lawQ (K := lK X) (n := 1381) (M2 := sS M 0 (if ¬ (0 ≤ (sc xs (i + 1)) ∧ (sc xs (i + 1)) ≤ 99) then (1 : Int) else if F.1 0 = 0 then 2 else 0)) lk_L_222 rfl dL_law_1378 rfl (C_X7_leaderAfterByCounting (M := M) hF hR g1) rfl rfl (Nat.le_of_ble_eq_true rfl) (Nat.le_of_ble_eq_true rfl) (Nat.le_of_ble_eq_true rfl) ⟨rfl, rfl⟩ wA_len rfl rfl ?_
    refine EV.eq (st' := [vi (w32 (if (if ¬ (0 ≤ (sc xs (i + 1)) ∧ (sc xs (i + 1)) ≤ 99) then (1 : Int) else if F.1 0 = 0 then 2 else 0) = 0 then sLead F (sc xs (i + 1)) else 0))]) (congrArg (fun v => [v]) w32_v) ?_
    refine f_istore (K := lK X) (n := 1383) dL_law_1381 rfl (Nat.le_of_ble_eq_true rfl) rfl ?_
    exact lTail (bb := bb) (i := i) (e := (exK ((if 0 ≤ (sc xs (i + 1)) ∧ (sc xs (i + 1)) ≤ 99 then (if 1 ≤ F.1 0 then none else some xNo) else some xAr)) xAr xNo "")) (v := (w32 (if (if ¬ (0 ≤ (sc xs (i + 1)) ∧ (sc xs (i + 1)) ≤ 99) then (1 : Int) else if F.1 0 = 0 then 2 else 0) = 0 then sLead F (sc xs (i + 1)) else 0))) (off := 1218) dL_law_1383 dL_law_1384 dL_law_1387 dL_law_1389 dL_law_1394 dL_law_1396 dL_law_1399 dL_law_1400 dL_law_1401 dL_law_1402 dL_law_1404 dL_law_1405 dL_law_1406 dL_law_1411 (by decide) wA_len (by omega) (Eq.trans sS_0 hTE) (fun q => by exfalso; omega) w32_in (kk _ _ _ _ _ _ _ _ _ _ _ _ _ _ _ _ _ _ (SIM_up (SIM_eq hs0 mEq_0) (by omega) hN))
