/-! ===== the reference: questions ===== -/
theorem mq_y {a : Nat → Nat} {M : eFs} {T v w : Int} {cs' : List eE} (hT : T = 0) (hv : w = v) (hw : cs' = wM a (sS M 0 0)) : eRet (some (vi (if T = 0 then v else 0))) a (wM a (sS M 0 T)) (.inl (some (vi w))) a cs' := by
  subst hT; subst hv; subst hw
  exact ⟨by rw [if_pos rfl], rfl, rfl⟩
theorem mq_n {a : Nat → Nat} {M : eFs} {T v t : Int} {cs' : List eE} (hT : T = t) (h0 : ¬ t = 0) (hw : cs' = wM a (sS M 0 t)) : eRet (some (vi (if T = 0 then v else 0))) a (wM a (sS M 0 T)) (.inl (some (vi 0))) a cs' := by
  subst hT; subst hw
  exact ⟨by rw [if_neg h0], rfl, rfl⟩
theorem C_X7_isFine1 {X : eXT} {a : Nat → Nat} {M : eFs} : EM X mX7_isFine (eRm 0) a [.ref (a 0), vi 1] (wM a M) (eRet (some (vi 1)) a (wM a (sS M 0 0))) := C_X7_isFine (c := True)
theorem C_X7_isFine0 {X : eXT} {a : Nat → Nat} {M : eFs} : EM X mX7_isFine (eRm 0) a [.ref (a 0), vi 0] (wM a M) (eRet (some (vi 0)) a (wM a (sS M 0 1))) := C_X7_isFine (c := False)

theorem C_X7_basketCount {X : eXT} {a : Nat → Nat} {N : Int} {F M : eFs} (hF : okF N F) (hR : mR F (M.2 0))  :
    EM X mX7_basketCount (eRm 1) a [.ref (a 0)] (wM a M) (eRet (some (vi (F.1 0))) a (wM a (sS M 0 0))) := by
  refine EM.of (by decide +kernel) rfl (Nat.le_of_ble_eq_true rfl) ?_
  have hF0 := hF
  obtain ⟨hc, hld, hled, htn, hgo, hkp, hst, hwt, hcl, hsh, hnx, hN, rx, ry, rh, rm, rc, rw9⟩ := hF
  obtain ⟨⟨n0, n1, n2, n3, n4, n5, n6, n7, n8, n9⟩, hb, hcd, hss⟩ := id hR
  refine e_aload_n dX7_basketCount_0 rfl rfl ?_
  refine e_iconst dX7_basketCount_1 rfl ?_
  refine e_cV2 [0, 1, 2, 3, 4, 5] lk_X7_162 rfl dX7_basketCount_2 rfl (C_X7_told (k := 0) (by omega)) rfl rfl (Nat.le_of_ble_eq_true rfl) (Nat.le_of_ble_eq_true rfl) (Nat.le_of_ble_eq_true rfl) ⟨rfl, rfl⟩ rfl rfl rfl rfl rfl rfl rfl rfl ?_
  exact e_iret dX7_basketCount_5 rfl rfl (eRet_i n0 rfl)
theorem C_X7_cloudCount {X : eXT} {a : Nat → Nat} {N : Int} {F M : eFs} (hF : okF N F) (hR : mR F (M.2 0))  :
    EM X mX7_cloudCount (eRm 1) a [.ref (a 0)] (wM a M) (eRet (some (vi (F.1 9))) a (wM a (sS M 0 0))) := by
  refine EM.of (by decide +kernel) rfl (Nat.le_of_ble_eq_true rfl) ?_
  have hF0 := hF
  obtain ⟨hc, hld, hled, htn, hgo, hkp, hst, hwt, hcl, hsh, hnx, hN, rx, ry, rh, rm, rc, rw9⟩ := hF
  obtain ⟨⟨n0, n1, n2, n3, n4, n5, n6, n7, n8, n9⟩, hb, hcd, hss⟩ := id hR
  refine e_aload_n dX7_cloudCount_0 rfl rfl ?_
  refine e_iconst dX7_cloudCount_1 rfl ?_
  refine e_cV2 [0, 1, 2, 3, 4, 5] lk_X7_162 rfl dX7_cloudCount_2 rfl (C_X7_told (k := 1) (by omega)) rfl rfl (Nat.le_of_ble_eq_true rfl) (Nat.le_of_ble_eq_true rfl) (Nat.le_of_ble_eq_true rfl) ⟨rfl, rfl⟩ rfl rfl rfl rfl rfl rfl rfl rfl ?_
  exact e_iret dX7_cloudCount_5 rfl rfl (eRet_i n1 rfl)
theorem C_X7_turnLength {X : eXT} {a : Nat → Nat} {N : Int} {F M : eFs} (hF : okF N F) (hR : mR F (M.2 0))  :
    EM X mX7_turnLength (eRm 1) a [.ref (a 0)] (wM a M) (eRet (some (vi (F.1 3))) a (wM a (sS M 0 0))) := by
  refine EM.of (by decide +kernel) rfl (Nat.le_of_ble_eq_true rfl) ?_
  have hF0 := hF
  obtain ⟨hc, hld, hled, htn, hgo, hkp, hst, hwt, hcl, hsh, hnx, hN, rx, ry, rh, rm, rc, rw9⟩ := hF
  obtain ⟨⟨n0, n1, n2, n3, n4, n5, n6, n7, n8, n9⟩, hb, hcd, hss⟩ := id hR
  refine e_aload_n dX7_turnLength_0 rfl rfl ?_
  refine e_iconst dX7_turnLength_1 rfl ?_
  refine e_cV2 [0, 1, 2, 3, 4, 5] lk_X7_162 rfl dX7_turnLength_2 rfl (C_X7_told (k := 4) (by omega)) rfl rfl (Nat.le_of_ble_eq_true rfl) (Nat.le_of_ble_eq_true rfl) (Nat.le_of_ble_eq_true rfl) ⟨rfl, rfl⟩ rfl rfl rfl rfl rfl rfl rfl rfl ?_
  exact e_iret dX7_turnLength_5 rfl rfl (eRet_i n4 rfl)
theorem C_X7_keep {X : eXT} {a : Nat → Nat} {N : Int} {F M : eFs} (hF : okF N F) (hR : mR F (M.2 0))  :
    EM X mX7_keep (eRm 1) a [.ref (a 0)] (wM a M) (eRet (some (vi (F.1 6))) a (wM a (sS M 0 0))) := by
  refine EM.of (by decide +kernel) rfl (Nat.le_of_ble_eq_true rfl) ?_
  have hF0 := hF
  obtain ⟨hc, hld, hled, htn, hgo, hkp, hst, hwt, hcl, hsh, hnx, hN, rx, ry, rh, rm, rc, rw9⟩ := hF
  obtain ⟨⟨n0, n1, n2, n3, n4, n5, n6, n7, n8, n9⟩, hb, hcd, hss⟩ := id hR
  refine e_aload_n dX7_keep_0 rfl rfl ?_
  refine e_bipush dX7_keep_1 rfl rfl ?_
  refine e_cV2 [0, 1, 2, 3, 4, 5] lk_X7_162 rfl dX7_keep_3 rfl (C_X7_told (k := 6) (by omega)) rfl rfl (Nat.le_of_ble_eq_true rfl) (Nat.le_of_ble_eq_true rfl) (Nat.le_of_ble_eq_true rfl) ⟨rfl, rfl⟩ rfl rfl rfl rfl rfl rfl rfl rfl ?_
  exact e_iret dX7_keep_6 rfl rfl (eRet_i n6 rfl)
theorem C_X7_stepCount {X : eXT} {a : Nat → Nat} {N : Int} {F M : eFs} (hF : okF N F) (hR : mR F (M.2 0))  :
    EM X mX7_stepCount (eRm 1) a [.ref (a 0)] (wM a M) (eRet (some (vi (F.1 7))) a (wM a (sS M 0 0))) := by
  refine EM.of (by decide +kernel) rfl (Nat.le_of_ble_eq_true rfl) ?_
  have hF0 := hF
  obtain ⟨hc, hld, hled, htn, hgo, hkp, hst, hwt, hcl, hsh, hnx, hN, rx, ry, rh, rm, rc, rw9⟩ := hF
  obtain ⟨⟨n0, n1, n2, n3, n4, n5, n6, n7, n8, n9⟩, hb, hcd, hss⟩ := id hR
  refine e_aload_n dX7_stepCount_0 rfl rfl ?_
  refine e_bipush dX7_stepCount_1 rfl rfl ?_
  refine e_cV2 [0, 1, 2, 3, 4, 5] lk_X7_162 rfl dX7_stepCount_3 rfl (C_X7_told (k := 7) (by omega)) rfl rfl (Nat.le_of_ble_eq_true rfl) (Nat.le_of_ble_eq_true rfl) (Nat.le_of_ble_eq_true rfl) ⟨rfl, rfl⟩ rfl rfl rfl rfl rfl rfl rfl rfl ?_
  exact e_iret dX7_stepCount_6 rfl rfl (eRet_i n7 rfl)
theorem C_X7_waitTotal {X : eXT} {a : Nat → Nat} {N : Int} {F M : eFs} (hF : okF N F) (hR : mR F (M.2 0))  :
    EM X mX7_waitTotal (eRm 1) a [.ref (a 0)] (wM a M) (eRet (some (vi (F.1 8))) a (wM a (sS M 0 0))) := by
  refine EM.of (by decide +kernel) rfl (Nat.le_of_ble_eq_true rfl) ?_
  have hF0 := hF
  obtain ⟨hc, hld, hled, htn, hgo, hkp, hst, hwt, hcl, hsh, hnx, hN, rx, ry, rh, rm, rc, rw9⟩ := hF
  obtain ⟨⟨n0, n1, n2, n3, n4, n5, n6, n7, n8, n9⟩, hb, hcd, hss⟩ := id hR
  refine e_aload_n dX7_waitTotal_0 rfl rfl ?_
  refine e_bipush dX7_waitTotal_1 rfl rfl ?_
  refine e_cV2 [0, 1, 2, 3, 4, 5] lk_X7_162 rfl dX7_waitTotal_3 rfl (C_X7_told (k := 8) (by omega)) rfl rfl (Nat.le_of_ble_eq_true rfl) (Nat.le_of_ble_eq_true rfl) (Nat.le_of_ble_eq_true rfl) ⟨rfl, rfl⟩ rfl rfl rfl rfl rfl rfl rfl rfl ?_
  exact e_iret dX7_waitTotal_6 rfl rfl (eRet_i n8 rfl)
theorem C_X7_shapeCount {X : eXT} {a : Nat → Nat} {N : Int} {F M : eFs} (hF : okF N F) (hR : mR F (M.2 0))  :
    EM X mX7_shapeCount (eRm 1) a [.ref (a 0)] (wM a M) (eRet (some (vi (F.1 10))) a (wM a (sS M 0 0))) := by
  refine EM.of (by decide +kernel) rfl (Nat.le_of_ble_eq_true rfl) ?_
  have hF0 := hF
  obtain ⟨hc, hld, hled, htn, hgo, hkp, hst, hwt, hcl, hsh, hnx, hN, rx, ry, rh, rm, rc, rw9⟩ := hF
  obtain ⟨⟨n0, n1, n2, n3, n4, n5, n6, n7, n8, n9⟩, hb, hcd, hss⟩ := id hR
  refine e_aload_n dX7_shapeCount_0 rfl rfl ?_
  refine e_bipush dX7_shapeCount_1 rfl rfl ?_
  refine e_cV2 [0, 1, 2, 3, 4, 5] lk_X7_162 rfl dX7_shapeCount_3 rfl (C_X7_told (k := 9) (by omega)) rfl rfl (Nat.le_of_ble_eq_true rfl) (Nat.le_of_ble_eq_true rfl) (Nat.le_of_ble_eq_true rfl) ⟨rfl, rfl⟩ rfl rfl rfl rfl rfl rfl rfl rfl ?_
  exact e_iret dX7_shapeCount_6 rfl rfl (eRet_i n9 rfl)
theorem C_X7_ofBasket {X : eXT} {a : Nat → Nat} {N : Int} {F M : eFs} (hF : okF N F) (hR : mR F (M.2 0)) {b w : Int} (gb : -2147483648 ≤ b ∧ b ≤ 2147483647) (hw : 0 ≤ w ∧ w ≤ 3) :
    EM X mX7_ofBasket (eRm 2) a [.ref (a 0), vi b, vi w] (wM a M) (eRet (some (vi (if ((if sHas F b then 0 else 1) : Int) = 0 then (M.2 0 (10 + 4 * b + w)) else 0))) a (wM a (sS M 0 ((if sHas F b then 0 else 1))))) := by
  refine EM.of (by decide +kernel) rfl (Nat.le_of_ble_eq_true rfl) ?_
  have hF0 := hF
  obtain ⟨hc, hld, hled, htn, hgo, hkp, hst, hwt, hcl, hsh, hnx, hN, rx, ry, rh, rm, rc, rw9⟩ := hF
  obtain ⟨⟨n0, n1, n2, n3, n4, n5, n6, n7, n8, n9⟩, hb, hcd, hss⟩ := id hR
  refine e_aload_n dX7_ofBasket_0 rfl rfl ?_
  refine e_aload_n dX7_ofBasket_1 rfl rfl ?_
  refine e_iload_n dX7_ofBasket_2 rfl rfl ?_
  refine e_cV0 [0, 1, 2, 3, 4, 5] lk_X7_128 rfl dX7_ofBasket_3 rfl (C_X7_isBasket hF0 hR (by omega)) rfl rfl (Nat.le_of_ble_eq_true rfl) (Nat.le_of_ble_eq_true rfl) (Nat.le_of_ble_eq_true rfl) ⟨rfl, rfl⟩ rfl rfl rfl rfl rfl rfl  ?_
  refine e_cV2 [0, 1, 2, 3, 4, 5] lk_X7_78 rfl dX7_ofBasket_6 rfl (C_X7_isFine (M := M) (c := sHas F b)) rfl rfl (Nat.le_of_ble_eq_true rfl) (Nat.le_of_ble_eq_true rfl) (Nat.le_of_ble_eq_true rfl) ⟨rfl, rfl⟩ rfl rfl rfl rfl rfl rfl rfl rfl ?_
  refine e_ifb_eq (t := 21) dX7_ofBasket_9 rfl rfl (fun h9 => ?_) (fun h9 => ?_)
  · refine EV.ceq (cs' := wM a (sS M 0 1)) (by rw [if_neg h9] <;> rfl) ?_
    refine e_iconst dX7_ofBasket_21 rfl ?_
    exact e_iret dX7_ofBasket_22 rfl rfl (mq_n (a := a) (M := M) (T := (if sHas F b then 0 else 1)) (v := (M.2 0 (10 + 4 * b + w))) (t := 1) (if_neg h9) (by decide) (rfl))
  · refine EV.ceq (cs' := wM a (sS M 0 0)) (by rw [if_pos h9] <;> rfl) ?_
    refine e_aload_n dX7_ofBasket_12 rfl rfl ?_
    refine e_iload_n dX7_ofBasket_13 rfl rfl ?_
    refine e_iload_n dX7_ofBasket_14 rfl rfl ?_
    refine e_cV0 [0, 1, 2, 3, 4, 5] lk_X7_50 rfl dX7_ofBasket_15 rfl (C_X7_b (M := sS M 0 0) (by omega) (by omega)) rfl rfl (Nat.le_of_ble_eq_true rfl) (Nat.le_of_ble_eq_true rfl) (Nat.le_of_ble_eq_true rfl) ⟨rfl, rfl⟩ rfl rfl rfl rfl rfl rfl  ?_
    refine e_goto (n := 22) dX7_ofBasket_18 rfl ?_
    exact e_iret dX7_ofBasket_22 rfl rfl (mq_y (a := a) (M := M) (T := (if sHas F b then 0 else 1)) (v := (M.2 0 (10 + 4 * b + w))) (if_pos h9) (rfl) (rfl))
theorem C_X7_xOf {X : eXT} {a : Nat → Nat} {N : Int} {F M : eFs} (hF : okF N F) (hR : mR F (M.2 0)) {b : Int} (gb : -2147483648 ≤ b ∧ b ≤ 2147483647) :
    EM X mX7_xOf (eRm 3) a [.ref (a 0), vi b] (wM a M) (eRet (some (vi (if ((if sHas F b then 0 else 1) : Int) = 0 then F.2 0 b else 0))) a (wM a (sS M 0 ((if sHas F b then 0 else 1))))) := by
  refine EM.of (by decide +kernel) rfl (Nat.le_of_ble_eq_true rfl) ?_
  have hF0 := hF
  obtain ⟨hc, hld, hled, htn, hgo, hkp, hst, hwt, hcl, hsh, hnx, hN, rx, ry, rh, rm, rc, rw9⟩ := hF
  obtain ⟨⟨n0, n1, n2, n3, n4, n5, n6, n7, n8, n9⟩, hb, hcd, hss⟩ := id hR
  refine e_aload_n dX7_xOf_0 rfl rfl ?_
  refine e_iload_n dX7_xOf_1 rfl rfl ?_
  refine e_iconst dX7_xOf_2 rfl ?_
  refine e_cV2 [0, 1, 2, 3, 4, 5] lk_X7_165 rfl dX7_xOf_3 rfl (C_X7_ofBasket (w := 0) hF0 hR (by omega) (by omega)) rfl rfl (Nat.le_of_ble_eq_true rfl) (Nat.le_of_ble_eq_true rfl) (Nat.le_of_ble_eq_true rfl) ⟨rfl, rfl⟩ rfl rfl rfl rfl rfl rfl rfl rfl ?_
  exact e_iret dX7_xOf_6 rfl rfl (eRet_i (by by_cases hb0 : sHas F b; rw [if_pos (if_pos hb0), if_pos (if_pos hb0)]; exact (hb b hb0.1 hb0.2).1; rw [if_neg (by rw [if_neg hb0]; decide), if_neg (by rw [if_neg hb0]; decide)]) rfl)
theorem C_X7_yOf {X : eXT} {a : Nat → Nat} {N : Int} {F M : eFs} (hF : okF N F) (hR : mR F (M.2 0)) {b : Int} (gb : -2147483648 ≤ b ∧ b ≤ 2147483647) :
    EM X mX7_yOf (eRm 3) a [.ref (a 0), vi b] (wM a M) (eRet (some (vi (if ((if sHas F b then 0 else 1) : Int) = 0 then F.2 1 b else 0))) a (wM a (sS M 0 ((if sHas F b then 0 else 1))))) := by
  refine EM.of (by decide +kernel) rfl (Nat.le_of_ble_eq_true rfl) ?_
  have hF0 := hF
  obtain ⟨hc, hld, hled, htn, hgo, hkp, hst, hwt, hcl, hsh, hnx, hN, rx, ry, rh, rm, rc, rw9⟩ := hF
  obtain ⟨⟨n0, n1, n2, n3, n4, n5, n6, n7, n8, n9⟩, hb, hcd, hss⟩ := id hR
  refine e_aload_n dX7_yOf_0 rfl rfl ?_
  refine e_iload_n dX7_yOf_1 rfl rfl ?_
  refine e_iconst dX7_yOf_2 rfl ?_
  refine e_cV2 [0, 1, 2, 3, 4, 5] lk_X7_165 rfl dX7_yOf_3 rfl (C_X7_ofBasket (w := 1) hF0 hR (by omega) (by omega)) rfl rfl (Nat.le_of_ble_eq_true rfl) (Nat.le_of_ble_eq_true rfl) (Nat.le_of_ble_eq_true rfl) ⟨rfl, rfl⟩ rfl rfl rfl rfl rfl rfl rfl rfl ?_
  exact e_iret dX7_yOf_6 rfl rfl (eRet_i (by by_cases hb0 : sHas F b; rw [if_pos (if_pos hb0), if_pos (if_pos hb0)]; exact (hb b hb0.1 hb0.2).2.1; rw [if_neg (by rw [if_neg hb0]; decide), if_neg (by rw [if_neg hb0]; decide)]) rfl)
theorem C_X7_handleOf {X : eXT} {a : Nat → Nat} {N : Int} {F M : eFs} (hF : okF N F) (hR : mR F (M.2 0)) {b : Int} (gb : -2147483648 ≤ b ∧ b ≤ 2147483647) :
    EM X mX7_handleOf (eRm 3) a [.ref (a 0), vi b] (wM a M) (eRet (some (vi (if ((if sHas F b then 0 else 1) : Int) = 0 then F.2 2 b else 0))) a (wM a (sS M 0 ((if sHas F b then 0 else 1))))) := by
  refine EM.of (by decide +kernel) rfl (Nat.le_of_ble_eq_true rfl) ?_
  have hF0 := hF
  obtain ⟨hc, hld, hled, htn, hgo, hkp, hst, hwt, hcl, hsh, hnx, hN, rx, ry, rh, rm, rc, rw9⟩ := hF
  obtain ⟨⟨n0, n1, n2, n3, n4, n5, n6, n7, n8, n9⟩, hb, hcd, hss⟩ := id hR
  refine e_aload_n dX7_handleOf_0 rfl rfl ?_
  refine e_iload_n dX7_handleOf_1 rfl rfl ?_
  refine e_iconst dX7_handleOf_2 rfl ?_
  refine e_cV2 [0, 1, 2, 3, 4, 5] lk_X7_165 rfl dX7_handleOf_3 rfl (C_X7_ofBasket (w := 2) hF0 hR (by omega) (by omega)) rfl rfl (Nat.le_of_ble_eq_true rfl) (Nat.le_of_ble_eq_true rfl) (Nat.le_of_ble_eq_true rfl) ⟨rfl, rfl⟩ rfl rfl rfl rfl rfl rfl rfl rfl ?_
  exact e_iret dX7_handleOf_6 rfl rfl (eRet_i (by by_cases hb0 : sHas F b; rw [if_pos (if_pos hb0), if_pos (if_pos hb0)]; exact (hb b hb0.1 hb0.2).2.2.1; rw [if_neg (by rw [if_neg hb0]; decide), if_neg (by rw [if_neg hb0]; decide)]) rfl)
theorem C_X7_movesOf {X : eXT} {a : Nat → Nat} {N : Int} {F M : eFs} (hF : okF N F) (hR : mR F (M.2 0)) {b : Int} (gb : -2147483648 ≤ b ∧ b ≤ 2147483647) :
    EM X mX7_movesOf (eRm 3) a [.ref (a 0), vi b] (wM a M) (eRet (some (vi (if ((if sHas F b then 0 else 1) : Int) = 0 then F.2 3 b else 0))) a (wM a (sS M 0 ((if sHas F b then 0 else 1))))) := by
  refine EM.of (by decide +kernel) rfl (Nat.le_of_ble_eq_true rfl) ?_
  have hF0 := hF
  obtain ⟨hc, hld, hled, htn, hgo, hkp, hst, hwt, hcl, hsh, hnx, hN, rx, ry, rh, rm, rc, rw9⟩ := hF
  obtain ⟨⟨n0, n1, n2, n3, n4, n5, n6, n7, n8, n9⟩, hb, hcd, hss⟩ := id hR
  refine e_aload_n dX7_movesOf_0 rfl rfl ?_
  refine e_iload_n dX7_movesOf_1 rfl rfl ?_
  refine e_iconst dX7_movesOf_2 rfl ?_
  refine e_cV2 [0, 1, 2, 3, 4, 5] lk_X7_165 rfl dX7_movesOf_3 rfl (C_X7_ofBasket (w := 3) hF0 hR (by omega) (by omega)) rfl rfl (Nat.le_of_ble_eq_true rfl) (Nat.le_of_ble_eq_true rfl) (Nat.le_of_ble_eq_true rfl) ⟨rfl, rfl⟩ rfl rfl rfl rfl rfl rfl rfl rfl ?_
  exact e_iret dX7_movesOf_6 rfl rfl (eRet_i (by by_cases hb0 : sHas F b; rw [if_pos (if_pos hb0), if_pos (if_pos hb0)]; exact (hb b hb0.1 hb0.2).2.2.2; rw [if_neg (by rw [if_neg hb0]; decide), if_neg (by rw [if_neg hb0]; decide)]) rfl)
theorem C_X7_basketAt {X : eXT} {a : Nat → Nat} {N : Int} {F M : eFs} (hF : okF N F) (hR : mR F (M.2 0)) {x y : Int} (gx : -2147483648 ≤ x ∧ x ≤ 2147483647) (gy : -2147483648 ≤ y ∧ y ≤ 2147483647) :
    EM X mX7_basketAt (eRm 3) a [.ref (a 0), vi x, vi y] (wM a M) (eRet (some (vi (if ((if ¬ sIn x y then 1 else if sAt F x y = -1 then 2 else 0) : Int) = 0 then (sAt F x y) else 0))) a (wM a (sS M 0 ((if ¬ sIn x y then 1 else if sAt F x y = -1 then 2 else 0))))) := by
  refine EM.of (by decide +kernel) rfl (Nat.le_of_ble_eq_true rfl) ?_
  have hF0 := hF
  obtain ⟨hc, hld, hled, htn, hgo, hkp, hst, hwt, hcl, hsh, hnx, hN, rx, ry, rh, rm, rc, rw9⟩ := hF
  obtain ⟨⟨n0, n1, n2, n3, n4, n5, n6, n7, n8, n9⟩, hb, hcd, hss⟩ := id hR
  refine e_aload_n dX7_basketAt_0 rfl rfl ?_
  refine e_iload_n dX7_basketAt_1 rfl rfl ?_
  refine e_iload_n dX7_basketAt_2 rfl rfl ?_
  refine e_cS0 [] lk_X7_62 rfl dX7_basketAt_3 rfl (C_X7_isCell (by omega) (by omega)) rfl rfl (Nat.le_of_ble_eq_true rfl) (Nat.le_of_ble_eq_true rfl) (Nat.le_of_ble_eq_true rfl) ⟨rfl, rfl⟩ rfl rfl  ?_
  refine e_ifb_ne (t := 13) dX7_basketAt_6 rfl rfl (fun h6 => ?_) (fun h6 => ?_)
  · have ain := sAt_in (F := F) (x := x) (y := y)
    refine e_aload_n dX7_basketAt_13 rfl rfl ?_
    refine e_iload_n dX7_basketAt_14 rfl rfl ?_
    refine e_iload_n dX7_basketAt_15 rfl rfl ?_
    refine e_cV0 [0, 1, 2, 3, 4, 5] lk_X7_138 rfl dX7_basketAt_16 rfl (C_X7_at hF0 hR (by omega) (by omega)) rfl rfl (Nat.le_of_ble_eq_true rfl) (Nat.le_of_ble_eq_true rfl) (Nat.le_of_ble_eq_true rfl) ⟨rfl, rfl⟩ rfl rfl rfl rfl rfl rfl  ?_
    refine e_if_ge (t := 26) dX7_basketAt_19 rfl rfl (by omega) (fun h19 => ?_) (fun h19 => ?_)
    · refine e_iconst dX7_basketAt_26 rfl ?_
      refine e_putfield fd_X7_33 dX7_basketAt_27 rfl rfl rfl (Nat.le_of_ble_eq_true rfl) rfl rfl ?_
      refine EV.ceq (cs' := wM a (sS M 0 0)) rfl ?_
      refine e_aload_n dX7_basketAt_30 rfl rfl ?_
      refine e_getfield fd_X7_33 dX7_basketAt_31 rfl rfl rfl rfl ?_
      refine EV.eq (st' := [vi 0]) rfl ?_
      refine e_if_ne (t := 46) dX7_basketAt_34 rfl rfl (by omega) (fun h34 => ?_) (fun h34 => ?_)
      · exfalso; omega
      · refine e_aload_n dX7_basketAt_37 rfl rfl ?_
        refine e_iload_n dX7_basketAt_38 rfl rfl ?_
        refine e_iload_n dX7_basketAt_39 rfl rfl ?_
        refine e_cV0 [0, 1, 2, 3, 4, 5] lk_X7_138 rfl dX7_basketAt_40 rfl (C_X7_at (M := sS M 0 0) hF0 hR (by omega) (by omega)) rfl rfl (Nat.le_of_ble_eq_true rfl) (Nat.le_of_ble_eq_true rfl) (Nat.le_of_ble_eq_true rfl) ⟨rfl, rfl⟩ rfl rfl rfl rfl rfl rfl  ?_
        refine e_goto (n := 47) dX7_basketAt_43 rfl ?_
        exact e_iret dX7_basketAt_47 rfl rfl (mq_y (a := a) (M := M) (T := (if ¬ sIn x y then 1 else if sAt F x y = -1 then 2 else 0)) (v := (sAt F x y)) (by rw [if_neg (Decidable.not_not.mpr h6), if_neg (by omega)]) (rfl) (rfl))
    · refine e_iconst dX7_basketAt_22 rfl ?_
      refine e_goto (n := 27) dX7_basketAt_23 rfl ?_
      refine e_putfield fd_X7_33 dX7_basketAt_27 rfl rfl rfl (Nat.le_of_ble_eq_true rfl) rfl rfl ?_
      refine EV.ceq (cs' := wM a (sS M 0 2)) rfl ?_
      refine e_aload_n dX7_basketAt_30 rfl rfl ?_
      refine e_getfield fd_X7_33 dX7_basketAt_31 rfl rfl rfl rfl ?_
      refine EV.eq (st' := [vi 2]) rfl ?_
      refine e_if_ne (t := 46) dX7_basketAt_34 rfl rfl (by omega) (fun h34 => ?_) (fun h34 => ?_)
      · refine e_iconst dX7_basketAt_46 rfl ?_
        exact e_iret dX7_basketAt_47 rfl rfl (mq_n (a := a) (M := M) (T := (if ¬ sIn x y then 1 else if sAt F x y = -1 then 2 else 0)) (v := (sAt F x y)) (t := 2) (by rw [if_neg (Decidable.not_not.mpr h6), if_pos (by omega)]) (by decide) (rfl))
      · exfalso; omega
  · refine e_iconst dX7_basketAt_9 rfl ?_
    refine e_goto (n := 27) dX7_basketAt_10 rfl ?_
    refine e_putfield fd_X7_33 dX7_basketAt_27 rfl rfl rfl (Nat.le_of_ble_eq_true rfl) rfl rfl ?_
    refine EV.ceq (cs' := wM a (sS M 0 1)) rfl ?_
    refine e_aload_n dX7_basketAt_30 rfl rfl ?_
    refine e_getfield fd_X7_33 dX7_basketAt_31 rfl rfl rfl rfl ?_
    refine EV.eq (st' := [vi 1]) rfl ?_
    refine e_if_ne (t := 46) dX7_basketAt_34 rfl rfl (by omega) (fun h34 => ?_) (fun h34 => ?_)
    · refine e_iconst dX7_basketAt_46 rfl ?_
      exact e_iret dX7_basketAt_47 rfl rfl (mq_n (a := a) (M := M) (T := (if ¬ sIn x y then 1 else if sAt F x y = -1 then 2 else 0)) (v := (sAt F x y)) (t := 1) (if_pos h6) (by decide) (rfl))
    · exfalso; omega
theorem C_X7_leaderAfter {X : eXT} {a : Nat → Nat} {N : Int} {F M : eFs} (hF : okF N F) (hR : mR F (M.2 0)) {s : Int} (gs : -2147483648 ≤ s ∧ s ≤ 2147483647) :
    EM X mX7_leaderAfter (eRm 1) a [.ref (a 0), vi s] (wM a M) (eRet (some (vi (if ((if ¬ (0 ≤ s ∧ s ≤ 99) then 1 else if F.1 0 = 0 then 2 else 0) : Int) = 0 then (sLead F s) else 0))) a (wM a (sS M 0 ((if ¬ (0 ≤ s ∧ s ≤ 99) then 1 else if F.1 0 = 0 then 2 else 0))))) := by
  refine EM.of (by decide +kernel) rfl (Nat.le_of_ble_eq_true rfl) ?_
  have hF0 := hF
  obtain ⟨hc, hld, hled, htn, hgo, hkp, hst, hwt, hcl, hsh, hnx, hN, rx, ry, rh, rm, rc, rw9⟩ := hF
  obtain ⟨⟨n0, n1, n2, n3, n4, n5, n6, n7, n8, n9⟩, hb, hcd, hss⟩ := id hR
  refine e_aload_n dX7_leaderAfter_0 rfl rfl ?_
  refine e_iload_n dX7_leaderAfter_1 rfl rfl ?_
  refine e_iconst dX7_leaderAfter_2 rfl ?_
  refine e_bipush dX7_leaderAfter_3 rfl rfl ?_
  refine e_cS0 [] lk_X7_46 rfl dX7_leaderAfter_5 rfl (C_X7_in (by omega) (by omega) (by omega)) rfl rfl (Nat.le_of_ble_eq_true rfl) (Nat.le_of_ble_eq_true rfl) (Nat.le_of_ble_eq_true rfl) ⟨rfl, rfl⟩ rfl rfl  ?_
  refine e_ifb_ne (t := 15) dX7_leaderAfter_8 rfl rfl (fun h8 => ?_) (fun h8 => ?_)
  · refine e_aload_n dX7_leaderAfter_15 rfl rfl ?_
    refine e_getfield fd_X7_9 dX7_leaderAfter_16 rfl rfl rfl rfl ?_
    refine e_iconst dX7_leaderAfter_19 rfl ?_
    refine e_iaload dX7_leaderAfter_20 rfl rfl rfl (by omega) (by decide) ?_
    refine e_if_ne (t := 28) dX7_leaderAfter_21 rfl rfl (by omega) (fun h21 => ?_) (fun h21 => ?_)
    · refine e_iconst dX7_leaderAfter_28 rfl ?_
      refine e_putfield fd_X7_33 dX7_leaderAfter_29 rfl rfl rfl (Nat.le_of_ble_eq_true rfl) rfl rfl ?_
      refine EV.ceq (cs' := wM a (sS M 0 0)) rfl ?_
      refine e_aload_n dX7_leaderAfter_32 rfl rfl ?_
      refine e_getfield fd_X7_33 dX7_leaderAfter_33 rfl rfl rfl rfl ?_
      refine EV.eq (st' := [vi 0]) rfl ?_
      refine e_if_ne (t := 71) dX7_leaderAfter_36 rfl rfl (by omega) (fun h36 => ?_) (fun h36 => ?_)
      · exfalso; omega
      · refine e_aload_n dX7_leaderAfter_39 rfl rfl ?_
        refine e_getfield fd_X7_9 dX7_leaderAfter_40 rfl rfl rfl rfl ?_
        refine e_iconst dX7_leaderAfter_43 rfl ?_
        refine e_iaload dX7_leaderAfter_44 rfl rfl rfl (by omega) (by decide) ?_
        refine e_aload_n dX7_leaderAfter_45 rfl rfl ?_
        refine e_getfield fd_X7_9 dX7_leaderAfter_46 rfl rfl rfl rfl ?_
        refine e_iconst dX7_leaderAfter_49 rfl ?_
        refine e_iaload dX7_leaderAfter_50 rfl rfl rfl (by omega) (by decide) ?_
        refine e_iload_n dX7_leaderAfter_51 rfl rfl ?_
        refine e_iadd dX7_leaderAfter_52 rfl ?_
        refine e_aload_n dX7_leaderAfter_53 rfl rfl ?_
        refine e_getfield fd_X7_9 dX7_leaderAfter_54 rfl rfl rfl rfl ?_
        refine e_iconst dX7_leaderAfter_57 rfl ?_
        refine e_iaload dX7_leaderAfter_58 rfl rfl rfl (by omega) (by decide) ?_
        have dv := Int.tdiv_eq_ediv_of_nonneg (a := M.2 0 3 + s) (b := M.2 0 4) (by omega)
        have dq0 := Int.ediv_nonneg (a := M.2 0 3 + s) (b := M.2 0 4) (by omega) (by omega)
        have dq1 := Int.ediv_le_self (a := M.2 0 3 + s) (M.2 0 4) (by omega)
        refine EV.eq (st' := [vi (M.2 0 4), vi (M.2 0 3 + s), vi (M.2 0 2)]) rfl ?_
        refine e_idiv dX7_leaderAfter_59 rfl (by omega) (by omega) (by omega) ?_
        refine e_iadd dX7_leaderAfter_60 rfl ?_
        refine e_aload_n dX7_leaderAfter_61 rfl rfl ?_
        refine e_getfield fd_X7_9 dX7_leaderAfter_62 rfl rfl rfl rfl ?_
        refine e_iconst dX7_leaderAfter_65 rfl ?_
        refine e_iaload dX7_leaderAfter_66 rfl rfl rfl (by omega) (by decide) ?_
        refine EV.eq (st' := [vi (M.2 0 0), vi (M.2 0 2 + (M.2 0 3 + s).tdiv (M.2 0 4))]) rfl ?_
        refine e_irem dX7_leaderAfter_67 rfl (by omega) (by omega) (by omega) ?_
        refine e_goto (n := 72) dX7_leaderAfter_68 rfl ?_
        exact e_iret dX7_leaderAfter_72 rfl rfl (mq_y (a := a) (M := M) (T := (if ¬ (0 ≤ s ∧ s ≤ 99) then 1 else if F.1 0 = 0 then 2 else 0)) (v := (sLead F s)) (by rw [if_neg (Decidable.not_not.mpr h8), if_neg (by omega)]) (by unfold sLead; rw [if_neg (by omega), ← n0, ← n2, ← n3, ← n4, Int.tmod_eq_emod_of_nonneg (by rw [dv]; omega), dv]) (rfl))
    · refine e_iconst dX7_leaderAfter_24 rfl ?_
      refine e_goto (n := 29) dX7_leaderAfter_25 rfl ?_
      refine e_putfield fd_X7_33 dX7_leaderAfter_29 rfl rfl rfl (Nat.le_of_ble_eq_true rfl) rfl rfl ?_
      refine EV.ceq (cs' := wM a (sS M 0 2)) rfl ?_
      refine e_aload_n dX7_leaderAfter_32 rfl rfl ?_
      refine e_getfield fd_X7_33 dX7_leaderAfter_33 rfl rfl rfl rfl ?_
      refine EV.eq (st' := [vi 2]) rfl ?_
      refine e_if_ne (t := 71) dX7_leaderAfter_36 rfl rfl (by omega) (fun h36 => ?_) (fun h36 => ?_)
      · refine e_iconst dX7_leaderAfter_71 rfl ?_
        exact e_iret dX7_leaderAfter_72 rfl rfl (mq_n (a := a) (M := M) (T := (if ¬ (0 ≤ s ∧ s ≤ 99) then 1 else if F.1 0 = 0 then 2 else 0)) (v := (sLead F s)) (t := 2) (by rw [if_neg (Decidable.not_not.mpr h8), if_pos (by omega)]) (by decide) (rfl))
      · exfalso; omega
  · refine e_iconst dX7_leaderAfter_11 rfl ?_
    refine e_goto (n := 29) dX7_leaderAfter_12 rfl ?_
    refine e_putfield fd_X7_33 dX7_leaderAfter_29 rfl rfl rfl (Nat.le_of_ble_eq_true rfl) rfl rfl ?_
    refine EV.ceq (cs' := wM a (sS M 0 1)) rfl ?_
    refine e_aload_n dX7_leaderAfter_32 rfl rfl ?_
    refine e_getfield fd_X7_33 dX7_leaderAfter_33 rfl rfl rfl rfl ?_
    refine EV.eq (st' := [vi 1]) rfl ?_
    refine e_if_ne (t := 71) dX7_leaderAfter_36 rfl rfl (by omega) (fun h36 => ?_) (fun h36 => ?_)
    · refine e_iconst dX7_leaderAfter_71 rfl ?_
      exact e_iret dX7_leaderAfter_72 rfl rfl (mq_n (a := a) (M := M) (T := (if ¬ (0 ≤ s ∧ s ≤ 99) then 1 else if F.1 0 = 0 then 2 else 0)) (v := (sLead F s)) (t := 1) (if_pos h8) (by decide) (rfl))
    · exfalso; omega
theorem C_X7_leaderAfterByCounting {X : eXT} {a : Nat → Nat} {N : Int} {F M : eFs} (hF : okF N F) (hR : mR F (M.2 0)) {s : Int} (gs : -2147483648 ≤ s ∧ s ≤ 2147483647) :
    EM X mX7_leaderAfterByCounting (eRm 2) a [.ref (a 0), vi s] (wM a M) (eRet (some (vi (if ((if ¬ (0 ≤ s ∧ s ≤ 99) then 1 else if F.1 0 = 0 then 2 else 0) : Int) = 0 then sLead F s else 0))) a (wM a (sS M 0 ((if ¬ (0 ≤ s ∧ s ≤ 99) then 1 else if F.1 0 = 0 then 2 else 0))))) := by
  refine EM.of (by decide +kernel) rfl (Nat.le_of_ble_eq_true rfl) ?_
  have hF0 := hF
  obtain ⟨hc, hld, hled, htn, hgo, hkp, hst, hwt, hcl, hsh, hnx, hN, rx, ry, rh, rm, rc, rw9⟩ := hF
  obtain ⟨⟨n0, n1, n2, n3, n4, n5, n6, n7, n8, n9⟩, hb, hcd, hss⟩ := id hR
  refine e_aload_n dX7_leaderAfterByCounting_0 rfl rfl ?_
  refine e_iload_n dX7_leaderAfterByCounting_1 rfl rfl ?_
  refine e_cV2 [0, 1, 2, 3, 4, 5] lk_X7_168 rfl dX7_leaderAfterByCounting_2 rfl (C_X7_leaderAfter hF0 hR (by omega)) rfl rfl (Nat.le_of_ble_eq_true rfl) (Nat.le_of_ble_eq_true rfl) (Nat.le_of_ble_eq_true rfl) ⟨rfl, rfl⟩ rfl rfl rfl rfl rfl rfl rfl rfl ?_
  exact e_iret dX7_leaderAfterByCounting_5 rfl rfl (eRet_i rfl rfl)
theorem C_X7_distance {X : eXT} {a : Nat → Nat} {N : Int} {F M : eFs} (hF : okF N F) (hR : mR F (M.2 0)) {b o : Int} (gb : -2147483648 ≤ b ∧ b ≤ 2147483647) (go : -2147483648 ≤ o ∧ o ≤ 2147483647) :
    EM X mX7_distance (eRm 3) a [.ref (a 0), vi b, vi o] (wM a M) (eRet (some (vi (if ((if sHas F b ∧ sHas F o then 0 else 1) : Int) = 0 then (sDD F b o) else 0))) a (wM a (sS M 0 ((if sHas F b ∧ sHas F o then 0 else 1))))) := by
  refine EM.of (by decide +kernel) rfl (Nat.le_of_ble_eq_true rfl) ?_
  have hF0 := hF
  obtain ⟨hc, hld, hled, htn, hgo, hkp, hst, hwt, hcl, hsh, hnx, hN, rx, ry, rh, rm, rc, rw9⟩ := hF
  obtain ⟨⟨n0, n1, n2, n3, n4, n5, n6, n7, n8, n9⟩, hb, hcd, hss⟩ := id hR
  refine e_aload_n dX7_distance_0 rfl rfl ?_
  refine e_aload_n dX7_distance_1 rfl rfl ?_
  refine e_iload_n dX7_distance_2 rfl rfl ?_
  refine e_cV0 [0, 1, 2, 3, 4, 5] lk_X7_128 rfl dX7_distance_3 rfl (C_X7_isBasket hF0 hR (by omega)) rfl rfl (Nat.le_of_ble_eq_true rfl) (Nat.le_of_ble_eq_true rfl) (Nat.le_of_ble_eq_true rfl) ⟨rfl, rfl⟩ rfl rfl rfl rfl rfl rfl  ?_
  refine e_ifb_eq (t := 21) dX7_distance_6 rfl rfl (fun h6 => ?_) (fun h6 => ?_)
  · refine e_iconst dX7_distance_21 rfl ?_
    refine e_cV2 [0, 1, 2, 3, 4, 5] lk_X7_78 rfl dX7_distance_22 rfl (C_X7_isFine0 (M := M)) rfl rfl (Nat.le_of_ble_eq_true rfl) (Nat.le_of_ble_eq_true rfl) (Nat.le_of_ble_eq_true rfl) ⟨rfl, rfl⟩ rfl rfl rfl rfl rfl rfl rfl rfl ?_
    refine e_if_eq (t := 37) dX7_distance_25 rfl rfl (by omega) (fun h25 => ?_) (fun h25 => ?_)
    · refine e_iconst dX7_distance_37 rfl ?_
      exact e_iret dX7_distance_38 rfl rfl (mq_n (a := a) (M := M) (T := (if sHas F b ∧ sHas F o then 0 else 1)) (v := (sDD F b o)) (t := 1) (if_neg (fun q => by omega)) (by decide) (rfl))
    · exfalso; omega
  · refine e_aload_n dX7_distance_9 rfl rfl ?_
    refine e_iload_n dX7_distance_10 rfl rfl ?_
    refine e_cV0 [0, 1, 2, 3, 4, 5] lk_X7_128 rfl dX7_distance_11 rfl (C_X7_isBasket hF0 hR (by omega)) rfl rfl (Nat.le_of_ble_eq_true rfl) (Nat.le_of_ble_eq_true rfl) (Nat.le_of_ble_eq_true rfl) ⟨rfl, rfl⟩ rfl rfl rfl rfl rfl rfl  ?_
    refine e_ifb_eq (t := 21) dX7_distance_14 rfl rfl (fun h14 => ?_) (fun h14 => ?_)
    · refine e_iconst dX7_distance_21 rfl ?_
      refine e_cV2 [0, 1, 2, 3, 4, 5] lk_X7_78 rfl dX7_distance_22 rfl (C_X7_isFine0 (M := M)) rfl rfl (Nat.le_of_ble_eq_true rfl) (Nat.le_of_ble_eq_true rfl) (Nat.le_of_ble_eq_true rfl) ⟨rfl, rfl⟩ rfl rfl rfl rfl rfl rfl rfl rfl ?_
      refine e_if_eq (t := 37) dX7_distance_25 rfl rfl (by omega) (fun h25 => ?_) (fun h25 => ?_)
      · refine e_iconst dX7_distance_37 rfl ?_
        exact e_iret dX7_distance_38 rfl rfl (mq_n (a := a) (M := M) (T := (if sHas F b ∧ sHas F o then 0 else 1)) (v := (sDD F b o)) (t := 1) (if_neg (fun q => by omega)) (by decide) (rfl))
      · exfalso; omega
    · refine e_iconst dX7_distance_17 rfl ?_
      refine e_goto (n := 22) dX7_distance_18 rfl ?_
      refine e_cV2 [0, 1, 2, 3, 4, 5] lk_X7_78 rfl dX7_distance_22 rfl (C_X7_isFine1 (M := M)) rfl rfl (Nat.le_of_ble_eq_true rfl) (Nat.le_of_ble_eq_true rfl) (Nat.le_of_ble_eq_true rfl) ⟨rfl, rfl⟩ rfl rfl rfl rfl rfl rfl rfl rfl ?_
      refine e_if_eq (t := 37) dX7_distance_25 rfl rfl (by omega) (fun h25 => ?_) (fun h25 => ?_)
      · exfalso; omega
      · refine e_aload_n dX7_distance_28 rfl rfl ?_
        refine e_iload_n dX7_distance_29 rfl rfl ?_
        refine e_iload_n dX7_distance_30 rfl rfl ?_
        refine e_cV0 [0, 1, 2, 3, 4, 5] lk_X7_99 rfl dX7_distance_31 rfl (C_X7_apart (M := sS M 0 0) hF0 hR (by omega) (by omega)) rfl rfl (Nat.le_of_ble_eq_true rfl) (Nat.le_of_ble_eq_true rfl) (Nat.le_of_ble_eq_true rfl) ⟨rfl, rfl⟩ rfl rfl rfl rfl rfl rfl  ?_
        refine e_goto (n := 38) dX7_distance_34 rfl ?_
        exact e_iret dX7_distance_38 rfl rfl (mq_y (a := a) (M := M) (T := (if sHas F b ∧ sHas F o then 0 else 1)) (v := (sDD F b o)) (if_pos ⟨h6, h14⟩) (rfl) (rfl))
theorem C_X7_leader {X : eXT} {a : Nat → Nat} {N : Int} {F M : eFs} (hF : okF N F) (hR : mR F (M.2 0))  :
    EM X mX7_leader (eRm 1) a [.ref (a 0)] (wM a M) (eRet (some (vi (if ((if 1 ≤ F.1 0 then 0 else 1) : Int) = 0 then (F.1 1) else 0))) a (wM a (sS M 0 ((if 1 ≤ F.1 0 then 0 else 1))))) := by
  refine EM.of (by decide +kernel) rfl (Nat.le_of_ble_eq_true rfl) ?_
  have hF0 := hF
  obtain ⟨hc, hld, hled, htn, hgo, hkp, hst, hwt, hcl, hsh, hnx, hN, rx, ry, rh, rm, rc, rw9⟩ := hF
  obtain ⟨⟨n0, n1, n2, n3, n4, n5, n6, n7, n8, n9⟩, hb, hcd, hss⟩ := id hR
  refine e_aload_n dX7_leader_0 rfl rfl ?_
  refine e_aload_n dX7_leader_1 rfl rfl ?_
  refine e_getfield fd_X7_9 dX7_leader_2 rfl rfl rfl rfl ?_
  refine e_iconst dX7_leader_5 rfl ?_
  refine e_iaload dX7_leader_6 rfl rfl rfl (by omega) (by decide) ?_
  refine e_if_le (t := 14) dX7_leader_7 rfl rfl (by omega) (fun h7 => ?_) (fun h7 => ?_)
  · refine e_iconst dX7_leader_14 rfl ?_
    refine e_cV2 [0, 1, 2, 3, 4, 5] lk_X7_78 rfl dX7_leader_15 rfl (C_X7_isFine0 (M := M)) rfl rfl (Nat.le_of_ble_eq_true rfl) (Nat.le_of_ble_eq_true rfl) (Nat.le_of_ble_eq_true rfl) ⟨rfl, rfl⟩ rfl rfl rfl rfl rfl rfl rfl rfl ?_
    refine e_if_eq (t := 30) dX7_leader_18 rfl rfl (by omega) (fun h18 => ?_) (fun h18 => ?_)
    · refine e_iconst dX7_leader_30 rfl ?_
      exact e_iret dX7_leader_31 rfl rfl (mq_n (a := a) (M := M) (T := (if 1 ≤ F.1 0 then 0 else 1)) (v := (F.1 1)) (t := 1) (if_neg (by omega)) (by decide) (rfl))
    · exfalso; omega
  · refine e_iconst dX7_leader_10 rfl ?_
    refine e_goto (n := 15) dX7_leader_11 rfl ?_
    refine e_cV2 [0, 1, 2, 3, 4, 5] lk_X7_78 rfl dX7_leader_15 rfl (C_X7_isFine1 (M := M)) rfl rfl (Nat.le_of_ble_eq_true rfl) (Nat.le_of_ble_eq_true rfl) (Nat.le_of_ble_eq_true rfl) ⟨rfl, rfl⟩ rfl rfl rfl rfl rfl rfl rfl rfl ?_
    refine e_if_eq (t := 30) dX7_leader_18 rfl rfl (by omega) (fun h18 => ?_) (fun h18 => ?_)
    · exfalso; omega
    · refine e_aload_n dX7_leader_21 rfl rfl ?_
      refine e_getfield fd_X7_9 dX7_leader_22 rfl rfl rfl rfl ?_
      refine e_iconst dX7_leader_25 rfl ?_
      refine e_iaload dX7_leader_26 rfl rfl rfl (by omega) (by decide) ?_
      refine e_goto (n := 31) dX7_leader_27 rfl ?_
      exact e_iret dX7_leader_31 rfl rfl (mq_y (a := a) (M := M) (T := (if 1 ≤ F.1 0 then 0 else 1)) (v := (F.1 1)) (if_pos (by omega)) (n2) (rfl))
theorem C_X7_targetX {X : eXT} {a : Nat → Nat} {N : Int} {F M : eFs} (hF : okF N F) (hR : mR F (M.2 0))  :
    EM X mX7_targetX (eRm 1) a [.ref (a 0)] (wM a M) (eRet (some (vi (if ((if ¬ F.1 4 = -1 then 0 else 1) : Int) = 0 then (F.1 4) else 0))) a (wM a (sS M 0 ((if ¬ F.1 4 = -1 then 0 else 1))))) := by
  refine EM.of (by decide +kernel) rfl (Nat.le_of_ble_eq_true rfl) ?_
  have hF0 := hF
  obtain ⟨hc, hld, hled, htn, hgo, hkp, hst, hwt, hcl, hsh, hnx, hN, rx, ry, rh, rm, rc, rw9⟩ := hF
  obtain ⟨⟨n0, n1, n2, n3, n4, n5, n6, n7, n8, n9⟩, hb, hcd, hss⟩ := id hR
  have x5 : M.2 0 5 = if F.1 4 = -1 then 0 else 12 * F.1 5 + F.1 4 + 1 := n5
  have x5' : (F.1 4 = -1 ∧ M.2 0 5 = 0) ∨ (¬ F.1 4 = -1 ∧ M.2 0 5 = 12 * F.1 5 + F.1 4 + 1) := by rw [x5]; split; exact Or.inl ⟨by assumption, rfl⟩; exact Or.inr ⟨by assumption, rfl⟩
  refine e_aload_n dX7_targetX_0 rfl rfl ?_
  refine e_aload_n dX7_targetX_1 rfl rfl ?_
  refine e_getfield fd_X7_9 dX7_targetX_2 rfl rfl rfl rfl ?_
  refine e_iconst dX7_targetX_5 rfl ?_
  refine e_iaload dX7_targetX_6 rfl rfl rfl (by omega) (by decide) ?_
  refine e_if_le (t := 14) dX7_targetX_7 rfl rfl (by omega) (fun h7 => ?_) (fun h7 => ?_)
  · refine e_iconst dX7_targetX_14 rfl ?_
    refine e_cV2 [0, 1, 2, 3, 4, 5] lk_X7_78 rfl dX7_targetX_15 rfl (C_X7_isFine0 (M := M)) rfl rfl (Nat.le_of_ble_eq_true rfl) (Nat.le_of_ble_eq_true rfl) (Nat.le_of_ble_eq_true rfl) ⟨rfl, rfl⟩ rfl rfl rfl rfl rfl rfl rfl rfl ?_
    refine e_if_eq (t := 35) dX7_targetX_18 rfl rfl (by omega) (fun h18 => ?_) (fun h18 => ?_)
    · refine e_iconst dX7_targetX_35 rfl ?_
      exact e_iret dX7_targetX_36 rfl rfl (mq_n (a := a) (M := M) (T := (if ¬ F.1 4 = -1 then 0 else 1)) (v := (F.1 4)) (t := 1) (if_neg (by omega)) (by decide) (rfl))
    · exfalso; omega
  · refine e_iconst dX7_targetX_10 rfl ?_
    refine e_goto (n := 15) dX7_targetX_11 rfl ?_
    refine e_cV2 [0, 1, 2, 3, 4, 5] lk_X7_78 rfl dX7_targetX_15 rfl (C_X7_isFine1 (M := M)) rfl rfl (Nat.le_of_ble_eq_true rfl) (Nat.le_of_ble_eq_true rfl) (Nat.le_of_ble_eq_true rfl) ⟨rfl, rfl⟩ rfl rfl rfl rfl rfl rfl rfl rfl ?_
    refine e_if_eq (t := 35) dX7_targetX_18 rfl rfl (by omega) (fun h18 => ?_) (fun h18 => ?_)
    · exfalso; omega
    · refine e_aload_n dX7_targetX_21 rfl rfl ?_
      refine e_getfield fd_X7_9 dX7_targetX_22 rfl rfl rfl rfl ?_
      refine e_iconst dX7_targetX_25 rfl ?_
      refine e_iaload dX7_targetX_26 rfl rfl rfl (by omega) (by decide) ?_
      refine e_iconst dX7_targetX_27 rfl ?_
      refine e_isub dX7_targetX_28 rfl ?_
      refine EV.eq (st' := [vi (M.2 0 5 - 1)]) rfl ?_
      refine e_bipush dX7_targetX_29 rfl rfl ?_
      refine e_irem dX7_targetX_31 rfl (by omega) (by omega) (by omega) ?_
      refine e_goto (n := 36) dX7_targetX_32 rfl ?_
      exact e_iret dX7_targetX_36 rfl rfl (mq_y (a := a) (M := M) (T := (if ¬ F.1 4 = -1 then 0 else 1)) (v := (F.1 4)) (if_pos (by omega)) (by rw [Int.tmod_eq_emod_of_nonneg (by omega)]; omega) (rfl))
theorem C_X7_targetY {X : eXT} {a : Nat → Nat} {N : Int} {F M : eFs} (hF : okF N F) (hR : mR F (M.2 0))  :
    EM X mX7_targetY (eRm 1) a [.ref (a 0)] (wM a M) (eRet (some (vi (if ((if ¬ F.1 4 = -1 then 0 else 1) : Int) = 0 then (F.1 5) else 0))) a (wM a (sS M 0 ((if ¬ F.1 4 = -1 then 0 else 1))))) := by
  refine EM.of (by decide +kernel) rfl (Nat.le_of_ble_eq_true rfl) ?_
  have hF0 := hF
  obtain ⟨hc, hld, hled, htn, hgo, hkp, hst, hwt, hcl, hsh, hnx, hN, rx, ry, rh, rm, rc, rw9⟩ := hF
  obtain ⟨⟨n0, n1, n2, n3, n4, n5, n6, n7, n8, n9⟩, hb, hcd, hss⟩ := id hR
  have x5 : M.2 0 5 = if F.1 4 = -1 then 0 else 12 * F.1 5 + F.1 4 + 1 := n5
  have x5' : (F.1 4 = -1 ∧ M.2 0 5 = 0) ∨ (¬ F.1 4 = -1 ∧ M.2 0 5 = 12 * F.1 5 + F.1 4 + 1) := by rw [x5]; split; exact Or.inl ⟨by assumption, rfl⟩; exact Or.inr ⟨by assumption, rfl⟩
  refine e_aload_n dX7_targetY_0 rfl rfl ?_
  refine e_aload_n dX7_targetY_1 rfl rfl ?_
  refine e_getfield fd_X7_9 dX7_targetY_2 rfl rfl rfl rfl ?_
  refine e_iconst dX7_targetY_5 rfl ?_
  refine e_iaload dX7_targetY_6 rfl rfl rfl (by omega) (by decide) ?_
  refine e_if_le (t := 14) dX7_targetY_7 rfl rfl (by omega) (fun h7 => ?_) (fun h7 => ?_)
  · refine e_iconst dX7_targetY_14 rfl ?_
    refine e_cV2 [0, 1, 2, 3, 4, 5] lk_X7_78 rfl dX7_targetY_15 rfl (C_X7_isFine0 (M := M)) rfl rfl (Nat.le_of_ble_eq_true rfl) (Nat.le_of_ble_eq_true rfl) (Nat.le_of_ble_eq_true rfl) ⟨rfl, rfl⟩ rfl rfl rfl rfl rfl rfl rfl rfl ?_
    refine e_if_eq (t := 35) dX7_targetY_18 rfl rfl (by omega) (fun h18 => ?_) (fun h18 => ?_)
    · refine e_iconst dX7_targetY_35 rfl ?_
      exact e_iret dX7_targetY_36 rfl rfl (mq_n (a := a) (M := M) (T := (if ¬ F.1 4 = -1 then 0 else 1)) (v := (F.1 5)) (t := 1) (if_neg (by omega)) (by decide) (rfl))
    · exfalso; omega
  · refine e_iconst dX7_targetY_10 rfl ?_
    refine e_goto (n := 15) dX7_targetY_11 rfl ?_
    refine e_cV2 [0, 1, 2, 3, 4, 5] lk_X7_78 rfl dX7_targetY_15 rfl (C_X7_isFine1 (M := M)) rfl rfl (Nat.le_of_ble_eq_true rfl) (Nat.le_of_ble_eq_true rfl) (Nat.le_of_ble_eq_true rfl) ⟨rfl, rfl⟩ rfl rfl rfl rfl rfl rfl rfl rfl ?_
    refine e_if_eq (t := 35) dX7_targetY_18 rfl rfl (by omega) (fun h18 => ?_) (fun h18 => ?_)
    · exfalso; omega
    · refine e_aload_n dX7_targetY_21 rfl rfl ?_
      refine e_getfield fd_X7_9 dX7_targetY_22 rfl rfl rfl rfl ?_
      refine e_iconst dX7_targetY_25 rfl ?_
      refine e_iaload dX7_targetY_26 rfl rfl rfl (by omega) (by decide) ?_
      refine e_iconst dX7_targetY_27 rfl ?_
      refine e_isub dX7_targetY_28 rfl ?_
      refine EV.eq (st' := [vi (M.2 0 5 - 1)]) rfl ?_
      refine e_bipush dX7_targetY_29 rfl rfl ?_
      refine e_idiv dX7_targetY_31 rfl (by omega) (by omega) (by omega) ?_
      refine e_goto (n := 36) dX7_targetY_32 rfl ?_
      exact e_iret dX7_targetY_36 rfl rfl (mq_y (a := a) (M := M) (T := (if ¬ F.1 4 = -1 then 0 else 1)) (v := (F.1 5)) (if_pos (by omega)) (by rw [Int.tdiv_eq_ediv_of_nonneg (by omega)]; omega) (rfl))
theorem C_X7_refusalReason {X : eXT} {a : Nat → Nat} {M : eFs} (gw : 0 ≤ M.1 4 ∧ M.1 4 ≤ 2) :
    EM X mX7_refusalReason (eRm 1) a [.ref (a 0)] (wM a M) (eRet (some (vi (if ((if ¬ M.1 4 = 0 then 0 else 1) : Int) = 0 then (M.1 4) else 0))) a (wM a (sS M 0 ((if ¬ M.1 4 = 0 then 0 else 1))))) := by
  refine EM.of (by decide +kernel) rfl (Nat.le_of_ble_eq_true rfl) ?_
  refine e_aload_n dX7_refusalReason_0 rfl rfl ?_
  refine e_aload_n dX7_refusalReason_1 rfl rfl ?_
  refine e_getfield fd_X7_72 dX7_refusalReason_2 rfl rfl rfl rfl ?_
  refine e_if_eq (t := 12) dX7_refusalReason_5 rfl rfl (by omega) (fun h5 => ?_) (fun h5 => ?_)
  · refine e_iconst dX7_refusalReason_12 rfl ?_
    refine e_cV2 [0, 1, 2, 3, 4, 5] lk_X7_78 rfl dX7_refusalReason_13 rfl (C_X7_isFine0 (M := M)) rfl rfl (Nat.le_of_ble_eq_true rfl) (Nat.le_of_ble_eq_true rfl) (Nat.le_of_ble_eq_true rfl) ⟨rfl, rfl⟩ rfl rfl rfl rfl rfl rfl rfl rfl ?_
    refine e_if_eq (t := 26) dX7_refusalReason_16 rfl rfl (by omega) (fun h16 => ?_) (fun h16 => ?_)
    · refine e_iconst dX7_refusalReason_26 rfl ?_
      exact e_iret dX7_refusalReason_27 rfl rfl (mq_n (a := a) (M := M) (T := (if ¬ M.1 4 = 0 then 0 else 1)) (v := (M.1 4)) (t := 1) (if_neg (by omega)) (by decide) (rfl))
    · exfalso; omega
  · refine e_iconst dX7_refusalReason_8 rfl ?_
    refine e_goto (n := 13) dX7_refusalReason_9 rfl ?_
    refine e_cV2 [0, 1, 2, 3, 4, 5] lk_X7_78 rfl dX7_refusalReason_13 rfl (C_X7_isFine1 (M := M)) rfl rfl (Nat.le_of_ble_eq_true rfl) (Nat.le_of_ble_eq_true rfl) (Nat.le_of_ble_eq_true rfl) ⟨rfl, rfl⟩ rfl rfl rfl rfl rfl rfl rfl rfl ?_
    refine e_if_eq (t := 26) dX7_refusalReason_16 rfl rfl (by omega) (fun h16 => ?_) (fun h16 => ?_)
    · exfalso; omega
    · refine e_aload_n dX7_refusalReason_19 rfl rfl ?_
      refine e_getfield fd_X7_72 dX7_refusalReason_20 rfl rfl rfl rfl ?_
      refine e_goto (n := 27) dX7_refusalReason_23 rfl ?_
      exact e_iret dX7_refusalReason_27 rfl rfl (mq_y (a := a) (M := M) (T := (if ¬ M.1 4 = 0 then 0 else 1)) (v := (M.1 4)) (if_pos (by omega)) (rfl) (rfl))
theorem C_X7_refusalDetail {X : eXT} {a : Nat → Nat} {M : eFs} (gw : 0 ≤ M.1 4 ∧ M.1 4 ≤ 2) :
    EM X mX7_refusalDetail (eRm 1) a [.ref (a 0)] (wM a M) (eRet (some (vi (if ((if ¬ M.1 4 = 0 then 0 else 1) : Int) = 0 then (M.1 5) else 0))) a (wM a (sS M 0 ((if ¬ M.1 4 = 0 then 0 else 1))))) := by
  refine EM.of (by decide +kernel) rfl (Nat.le_of_ble_eq_true rfl) ?_
  refine e_aload_n dX7_refusalDetail_0 rfl rfl ?_
  refine e_aload_n dX7_refusalDetail_1 rfl rfl ?_
  refine e_getfield fd_X7_72 dX7_refusalDetail_2 rfl rfl rfl rfl ?_
  refine e_if_eq (t := 12) dX7_refusalDetail_5 rfl rfl (by omega) (fun h5 => ?_) (fun h5 => ?_)
  · refine e_iconst dX7_refusalDetail_12 rfl ?_
    refine e_cV2 [0, 1, 2, 3, 4, 5] lk_X7_78 rfl dX7_refusalDetail_13 rfl (C_X7_isFine0 (M := M)) rfl rfl (Nat.le_of_ble_eq_true rfl) (Nat.le_of_ble_eq_true rfl) (Nat.le_of_ble_eq_true rfl) ⟨rfl, rfl⟩ rfl rfl rfl rfl rfl rfl rfl rfl ?_
    refine e_if_eq (t := 26) dX7_refusalDetail_16 rfl rfl (by omega) (fun h16 => ?_) (fun h16 => ?_)
    · refine e_iconst dX7_refusalDetail_26 rfl ?_
      exact e_iret dX7_refusalDetail_27 rfl rfl (mq_n (a := a) (M := M) (T := (if ¬ M.1 4 = 0 then 0 else 1)) (v := (M.1 5)) (t := 1) (if_neg (by omega)) (by decide) (rfl))
    · exfalso; omega
  · refine e_iconst dX7_refusalDetail_8 rfl ?_
    refine e_goto (n := 13) dX7_refusalDetail_9 rfl ?_
    refine e_cV2 [0, 1, 2, 3, 4, 5] lk_X7_78 rfl dX7_refusalDetail_13 rfl (C_X7_isFine1 (M := M)) rfl rfl (Nat.le_of_ble_eq_true rfl) (Nat.le_of_ble_eq_true rfl) (Nat.le_of_ble_eq_true rfl) ⟨rfl, rfl⟩ rfl rfl rfl rfl rfl rfl rfl rfl ?_
    refine e_if_eq (t := 26) dX7_refusalDetail_16 rfl rfl (by omega) (fun h16 => ?_) (fun h16 => ?_)
    · exfalso; omega
    · refine e_aload_n dX7_refusalDetail_19 rfl rfl ?_
      refine e_getfield fd_X7_75 dX7_refusalDetail_20 rfl rfl rfl rfl ?_
      refine e_goto (n := 27) dX7_refusalDetail_23 rfl ?_
      exact e_iret dX7_refusalDetail_27 rfl rfl (mq_y (a := a) (M := M) (T := (if ¬ M.1 4 = 0 then 0 else 1)) (v := (M.1 5)) (if_pos (by omega)) (rfl) (rfl))
theorem C_X7_errorPosition {X : eXT} {a : Nat → Nat} {M : eFs} (gw : -1 ≤ M.1 9 ∧ M.1 9 ≤ 100) :
    EM X mX7_errorPosition (eRm 1) a [.ref (a 0)] (wM a M) (eRet (some (vi (if ((if ¬ M.1 9 = -1 then 0 else 1) : Int) = 0 then (M.1 9) else 0))) a (wM a (sS M 0 ((if ¬ M.1 9 = -1 then 0 else 1))))) := by
  refine EM.of (by decide +kernel) rfl (Nat.le_of_ble_eq_true rfl) ?_
  refine e_aload_n dX7_errorPosition_0 rfl rfl ?_
  refine e_aload_n dX7_errorPosition_1 rfl rfl ?_
  refine e_getfield fd_X7_20 dX7_errorPosition_2 rfl rfl rfl rfl ?_
  refine e_iconst dX7_errorPosition_5 rfl ?_
  refine e_icmp_eq (t := 13) dX7_errorPosition_6 rfl rfl (by omega) (by omega) (fun h6 => ?_) (fun h6 => ?_)
  · refine e_iconst dX7_errorPosition_13 rfl ?_
    refine e_cV2 [0, 1, 2, 3, 4, 5] lk_X7_78 rfl dX7_errorPosition_14 rfl (C_X7_isFine0 (M := M)) rfl rfl (Nat.le_of_ble_eq_true rfl) (Nat.le_of_ble_eq_true rfl) (Nat.le_of_ble_eq_true rfl) ⟨rfl, rfl⟩ rfl rfl rfl rfl rfl rfl rfl rfl ?_
    refine e_if_eq (t := 27) dX7_errorPosition_17 rfl rfl (by omega) (fun h17 => ?_) (fun h17 => ?_)
    · refine e_iconst dX7_errorPosition_27 rfl ?_
      exact e_iret dX7_errorPosition_28 rfl rfl (mq_n (a := a) (M := M) (T := (if ¬ M.1 9 = -1 then 0 else 1)) (v := (M.1 9)) (t := 1) (if_neg (by omega)) (by decide) (rfl))
    · exfalso; omega
  · refine e_iconst dX7_errorPosition_9 rfl ?_
    refine e_goto (n := 14) dX7_errorPosition_10 rfl ?_
    refine e_cV2 [0, 1, 2, 3, 4, 5] lk_X7_78 rfl dX7_errorPosition_14 rfl (C_X7_isFine1 (M := M)) rfl rfl (Nat.le_of_ble_eq_true rfl) (Nat.le_of_ble_eq_true rfl) (Nat.le_of_ble_eq_true rfl) ⟨rfl, rfl⟩ rfl rfl rfl rfl rfl rfl rfl rfl ?_
    refine e_if_eq (t := 27) dX7_errorPosition_17 rfl rfl (by omega) (fun h17 => ?_) (fun h17 => ?_)
    · exfalso; omega
    · refine e_aload_n dX7_errorPosition_20 rfl rfl ?_
      refine e_getfield fd_X7_20 dX7_errorPosition_21 rfl rfl rfl rfl ?_
      refine e_goto (n := 28) dX7_errorPosition_24 rfl ?_
      exact e_iret dX7_errorPosition_28 rfl rfl (mq_y (a := a) (M := M) (T := (if ¬ M.1 9 = -1 then 0 else 1)) (v := (M.1 9)) (if_pos (by omega)) (rfl) (rfl))
theorem C_X7_failedCommand {X : eXT} {a : Nat → Nat} {M : eFs} (gw : -1 ≤ M.1 10 ∧ M.1 10 ≤ 100) :
    EM X mX7_failedCommand (eRm 1) a [.ref (a 0)] (wM a M) (eRet (some (vi (if ((if ¬ M.1 10 = -1 then 0 else 1) : Int) = 0 then (M.1 10) else 0))) a (wM a (sS M 0 ((if ¬ M.1 10 = -1 then 0 else 1))))) := by
  refine EM.of (by decide +kernel) rfl (Nat.le_of_ble_eq_true rfl) ?_
  refine e_aload_n dX7_failedCommand_0 rfl rfl ?_
  refine e_aload_n dX7_failedCommand_1 rfl rfl ?_
  refine e_getfield fd_X7_24 dX7_failedCommand_2 rfl rfl rfl rfl ?_
  refine e_iconst dX7_failedCommand_5 rfl ?_
  refine e_icmp_eq (t := 13) dX7_failedCommand_6 rfl rfl (by omega) (by omega) (fun h6 => ?_) (fun h6 => ?_)
  · refine e_iconst dX7_failedCommand_13 rfl ?_
    refine e_cV2 [0, 1, 2, 3, 4, 5] lk_X7_78 rfl dX7_failedCommand_14 rfl (C_X7_isFine0 (M := M)) rfl rfl (Nat.le_of_ble_eq_true rfl) (Nat.le_of_ble_eq_true rfl) (Nat.le_of_ble_eq_true rfl) ⟨rfl, rfl⟩ rfl rfl rfl rfl rfl rfl rfl rfl ?_
    refine e_if_eq (t := 27) dX7_failedCommand_17 rfl rfl (by omega) (fun h17 => ?_) (fun h17 => ?_)
    · refine e_iconst dX7_failedCommand_27 rfl ?_
      exact e_iret dX7_failedCommand_28 rfl rfl (mq_n (a := a) (M := M) (T := (if ¬ M.1 10 = -1 then 0 else 1)) (v := (M.1 10)) (t := 1) (if_neg (by omega)) (by decide) (rfl))
    · exfalso; omega
  · refine e_iconst dX7_failedCommand_9 rfl ?_
    refine e_goto (n := 14) dX7_failedCommand_10 rfl ?_
    refine e_cV2 [0, 1, 2, 3, 4, 5] lk_X7_78 rfl dX7_failedCommand_14 rfl (C_X7_isFine1 (M := M)) rfl rfl (Nat.le_of_ble_eq_true rfl) (Nat.le_of_ble_eq_true rfl) (Nat.le_of_ble_eq_true rfl) ⟨rfl, rfl⟩ rfl rfl rfl rfl rfl rfl rfl rfl ?_
    refine e_if_eq (t := 27) dX7_failedCommand_17 rfl rfl (by omega) (fun h17 => ?_) (fun h17 => ?_)
    · exfalso; omega
    · refine e_aload_n dX7_failedCommand_20 rfl rfl ?_
      refine e_getfield fd_X7_24 dX7_failedCommand_21 rfl rfl rfl rfl ?_
      refine e_goto (n := 28) dX7_failedCommand_24 rfl ?_
      exact e_iret dX7_failedCommand_28 rfl rfl (mq_y (a := a) (M := M) (T := (if ¬ M.1 10 = -1 then 0 else 1)) (v := (M.1 10)) (if_pos (by omega)) (rfl) (rfl))
