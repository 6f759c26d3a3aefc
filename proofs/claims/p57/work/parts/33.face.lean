/-! ===== BasketFlock: what is asked ===== -/
def sDif (F : eFs) : Int := eCB (fun s => ¬ sBef (F.2 5) s) (F.1 10) 0

theorem C_X6_demandBasket {X : eXT} {a : Nat → Nat} {q1 q2 q3 q4 q5 q6 : Nat} {z : Nat → Int} {N : Int} {F : eFs} {P : Int → Int} (hF : okF N F) {b : Int} (gb : -2147483648 ≤ b ∧ b ≤ 2147483647) :
    EM X mX6_demandBasket (eRt 6 1) a [.ref (a 0), vi b] (wO (a 1) q1 q2 q3 q4 q5 q6 z :: wFl (fun k => a (1 + k)) F P) (eOut (if sHas F b then none else some xIx) (none) a (wO (a 1) q1 q2 q3 q4 q5 q6 z :: wFl (fun k => a (1 + k)) F P) (wO (a 1) q1 q2 q3 q4 q5 q6 z :: wFl (fun k => a (1 + k)) F P)) := by
  refine EM.of (by decide +kernel) rfl (Nat.le_of_ble_eq_true rfl) ?_
  have hF0 := hF
  obtain ⟨hc, hld, hled, htn, hgo, hkp, hst, hwt, hcl, hsh, hnx, hN, rx, ry, rh, rm, rc, rw9⟩ := hF
  refine e_aload_n dX6_demandBasket_0 rfl rfl ?_
  refine e_getfield fd_X6_10 dX6_demandBasket_1 rfl rfl rfl rfl ?_
  refine e_iload_n dX6_demandBasket_4 rfl rfl ?_
  refine e_cV0 [1, 2, 3, 4, 5, 6, 7, 8, 9, 10] lk_X6_364 rfl dX6_demandBasket_5 rfl (C_X2_has (F := F) hF0 (by omega)) rfl rfl (Nat.le_of_ble_eq_true rfl) (Nat.le_of_ble_eq_true rfl) (Nat.le_of_ble_eq_true rfl) ⟨rfl, rfl⟩ rfl rfl rfl rfl rfl rfl  ?_
  refine e_ifb_ne (t := 22) dX6_demandBasket_8 rfl rfl (fun h8 => ?_) (fun h8 => ?_)
  · exact e_vret dX6_demandBasket_22 rfl (eOut_r (by (repeat' split) <;> first | rfl | (exfalso; omega) | contradiction | (exfalso; simp_all)) rfl rfl)
  · exact nx_throw 1 th_X6_349 rfl (Nat.le_of_ble_eq_true rfl) (Nat.le_of_ble_eq_true rfl) ⟨(Nat.le_of_ble_eq_true rfl), (Nat.le_of_ble_eq_true rfl)⟩ dX6_demandBasket_11 dX6_demandBasket_14 (Or.inr ⟨rfl, dX6_demandBasket_15⟩) dX6_demandBasket_18 dX6_demandBasket_21 (eOut_t (by (repeat' split) <;> first | rfl | (exfalso; omega) | contradiction | (exfalso; simp_all)) rfl)
theorem C_X6_demandAnyBasket {X : eXT} {a : Nat → Nat} {q1 q2 q3 q4 q5 q6 : Nat} {z : Nat → Int} {N : Int} {F : eFs} {P : Int → Int} (hF : okF N F)  :
    EM X mX6_demandAnyBasket (eRt 6 1) a [.ref (a 0)] (wO (a 1) q1 q2 q3 q4 q5 q6 z :: wFl (fun k => a (1 + k)) F P) (eOut (if 1 ≤ F.1 0 then none else some xNo) (none) a (wO (a 1) q1 q2 q3 q4 q5 q6 z :: wFl (fun k => a (1 + k)) F P) (wO (a 1) q1 q2 q3 q4 q5 q6 z :: wFl (fun k => a (1 + k)) F P)) := by
  refine EM.of (by decide +kernel) rfl (Nat.le_of_ble_eq_true rfl) ?_
  have hF0 := hF
  obtain ⟨hc, hld, hled, htn, hgo, hkp, hst, hwt, hcl, hsh, hnx, hN, rx, ry, rh, rm, rc, rw9⟩ := hF
  refine e_aload_n dX6_demandAnyBasket_0 rfl rfl ?_
  refine e_getfield fd_X6_10 dX6_demandAnyBasket_1 rfl rfl rfl rfl ?_
  refine e_getfield fd_X6_82 dX6_demandAnyBasket_4 rfl rfl rfl rfl ?_
  refine e_iconst dX6_demandAnyBasket_7 rfl ?_
  refine e_icmp_ge (t := 22) dX6_demandAnyBasket_8 rfl rfl (by omega) (by omega) (fun h8 => ?_) (fun h8 => ?_)
  · exact e_vret dX6_demandAnyBasket_22 rfl (eOut_r (by (repeat' split) <;> first | rfl | (exfalso; omega) | contradiction | (exfalso; simp_all)) rfl rfl)
  · exact nx_throw 1 th_X6_368 rfl (Nat.le_of_ble_eq_true rfl) (Nat.le_of_ble_eq_true rfl) ⟨(Nat.le_of_ble_eq_true rfl), (Nat.le_of_ble_eq_true rfl)⟩ dX6_demandAnyBasket_11 dX6_demandAnyBasket_14 (Or.inr ⟨rfl, dX6_demandAnyBasket_15⟩) dX6_demandAnyBasket_18 dX6_demandAnyBasket_21 (eOut_t (by (repeat' split) <;> first | rfl | (exfalso; omega) | contradiction | (exfalso; simp_all)) rfl)
theorem C_X6_demandCell {X : eXT} {a : Nat → Nat} {q1 q2 q3 q4 q5 q6 : Nat} {z : Nat → Int} {N : Int} {F : eFs} {P : Int → Int} (hF : okF N F) {x y : Int} (gx : -2147483648 ≤ x ∧ x ≤ 2147483647) (gy : -2147483648 ≤ y ∧ y ≤ 2147483647) :
    EM X mX6_demandCell (eRt 6 1) a [.ref (a 0), vi x, vi y] (wO (a 1) q1 q2 q3 q4 q5 q6 z :: wFl (fun k => a (1 + k)) F P) (eOut (if sIn x y then none else some xAr) (none) a (wO (a 1) q1 q2 q3 q4 q5 q6 z :: wFl (fun k => a (1 + k)) F P) (wO (a 1) q1 q2 q3 q4 q5 q6 z :: wFl (fun k => a (1 + k)) F P)) := by
  refine EM.of (by decide +kernel) rfl (Nat.le_of_ble_eq_true rfl) ?_
  have hF0 := hF
  obtain ⟨hc, hld, hled, htn, hgo, hkp, hst, hwt, hcl, hsh, hnx, hN, rx, ry, rh, rm, rc, rw9⟩ := hF
  refine e_iload_n dX6_demandCell_0 rfl rfl ?_
  refine e_iload_n dX6_demandCell_1 rfl rfl ?_
  refine e_cS0 [] lk_X6_370 rfl dX6_demandCell_2 rfl (C_X0_inSky (by omega) (by omega)) rfl rfl (Nat.le_of_ble_eq_true rfl) (Nat.le_of_ble_eq_true rfl) (Nat.le_of_ble_eq_true rfl) ⟨rfl, rfl⟩ rfl rfl  ?_
  refine e_ifb_ne (t := 19) dX6_demandCell_5 rfl rfl (fun h5 => ?_) (fun h5 => ?_)
  · exact e_vret dX6_demandCell_19 rfl (eOut_r (by (repeat' split) <;> first | rfl | (exfalso; omega) | contradiction | (exfalso; simp_all)) rfl rfl)
  · exact nx_throw 1 th_X6_373 rfl (Nat.le_of_ble_eq_true rfl) (Nat.le_of_ble_eq_true rfl) ⟨(Nat.le_of_ble_eq_true rfl), (Nat.le_of_ble_eq_true rfl)⟩ dX6_demandCell_8 dX6_demandCell_11 (Or.inr ⟨rfl, dX6_demandCell_12⟩) dX6_demandCell_15 dX6_demandCell_18 (eOut_t (by (repeat' split) <;> first | rfl | (exfalso; omega) | contradiction | (exfalso; simp_all)) rfl)
theorem C_X6_demandStepsAhead {X : eXT} {a : Nat → Nat} {q1 q2 q3 q4 q5 q6 : Nat} {z : Nat → Int} {N : Int} {F : eFs} {P : Int → Int} (hF : okF N F) {s : Int} (gs : -2147483648 ≤ s ∧ s ≤ 2147483647) :
    EM X mX6_demandStepsAhead (eRt 6 1) a [.ref (a 0), vi s] (wO (a 1) q1 q2 q3 q4 q5 q6 z :: wFl (fun k => a (1 + k)) F P) (eOut (if 0 ≤ s ∧ s ≤ 99 then none else some xAr) (none) a (wO (a 1) q1 q2 q3 q4 q5 q6 z :: wFl (fun k => a (1 + k)) F P) (wO (a 1) q1 q2 q3 q4 q5 q6 z :: wFl (fun k => a (1 + k)) F P)) := by
  refine EM.of (by decide +kernel) rfl (Nat.le_of_ble_eq_true rfl) ?_
  have hF0 := hF
  obtain ⟨hc, hld, hled, htn, hgo, hkp, hst, hwt, hcl, hsh, hnx, hN, rx, ry, rh, rm, rc, rw9⟩ := hF
  refine e_iload_n dX6_demandStepsAhead_0 rfl rfl ?_
  refine e_if_lt (t := 10) dX6_demandStepsAhead_1 rfl rfl (by omega) (fun h1 => ?_) (fun h1 => ?_)
  · exact nx_throw 1 th_X6_375 rfl (Nat.le_of_ble_eq_true rfl) (Nat.le_of_ble_eq_true rfl) ⟨(Nat.le_of_ble_eq_true rfl), (Nat.le_of_ble_eq_true rfl)⟩ dX6_demandStepsAhead_10 dX6_demandStepsAhead_13 (Or.inr ⟨rfl, dX6_demandStepsAhead_14⟩) dX6_demandStepsAhead_17 dX6_demandStepsAhead_20 (eOut_t (by (repeat' split) <;> first | rfl | (exfalso; omega) | contradiction | (exfalso; simp_all)) rfl)
  · refine e_iload_n dX6_demandStepsAhead_4 rfl rfl ?_
    refine e_bipush dX6_demandStepsAhead_5 rfl rfl ?_
    refine e_icmp_le (t := 21) dX6_demandStepsAhead_7 rfl rfl (by omega) (by omega) (fun h7 => ?_) (fun h7 => ?_)
    · exact e_vret dX6_demandStepsAhead_21 rfl (eOut_r (by (repeat' split) <;> first | rfl | (exfalso; omega) | contradiction | (exfalso; simp_all)) rfl rfl)
    · exact nx_throw 1 th_X6_375 rfl (Nat.le_of_ble_eq_true rfl) (Nat.le_of_ble_eq_true rfl) ⟨(Nat.le_of_ble_eq_true rfl), (Nat.le_of_ble_eq_true rfl)⟩ dX6_demandStepsAhead_10 dX6_demandStepsAhead_13 (Or.inr ⟨rfl, dX6_demandStepsAhead_14⟩) dX6_demandStepsAhead_17 dX6_demandStepsAhead_20 (eOut_t (by (repeat' split) <;> first | rfl | (exfalso; omega) | contradiction | (exfalso; simp_all)) rfl)
theorem C_X6_basketCount {X : eXT} {a : Nat → Nat} {q1 q2 q3 q4 q5 q6 : Nat} {z : Nat → Int} {N : Int} {F : eFs} {P : Int → Int} (hF : okF N F)  :
    EM X mX6_basketCount (eRm 0) a [.ref (a 0)] (wO (a 1) q1 q2 q3 q4 q5 q6 z :: wFl (fun k => a (1 + k)) F P) (eRet (some (vi (F.1 0))) a (wO (a 1) q1 q2 q3 q4 q5 q6 z :: wFl (fun k => a (1 + k)) F P)) := by
  refine EM.of (by decide +kernel) rfl (Nat.le_of_ble_eq_true rfl) ?_
  have hF0 := hF
  obtain ⟨hc, hld, hled, htn, hgo, hkp, hst, hwt, hcl, hsh, hnx, hN, rx, ry, rh, rm, rc, rw9⟩ := hF
  refine e_aload_n dX6_basketCount_0 rfl rfl ?_
  refine e_getfield fd_X6_10 dX6_basketCount_1 rfl rfl rfl rfl ?_
  refine e_getfield fd_X6_82 dX6_basketCount_4 rfl rfl rfl rfl ?_
  exact e_iret dX6_basketCount_7 rfl rfl (eRet_i rfl rfl)
theorem C_X6_keep {X : eXT} {a : Nat → Nat} {q1 q2 q3 q4 q5 q6 : Nat} {z : Nat → Int} {N : Int} {F : eFs} {P : Int → Int} (hF : okF N F)  :
    EM X mX6_keep (eRm 0) a [.ref (a 0)] (wO (a 1) q1 q2 q3 q4 q5 q6 z :: wFl (fun k => a (1 + k)) F P) (eRet (some (vi (F.1 6))) a (wO (a 1) q1 q2 q3 q4 q5 q6 z :: wFl (fun k => a (1 + k)) F P)) := by
  refine EM.of (by decide +kernel) rfl (Nat.le_of_ble_eq_true rfl) ?_
  have hF0 := hF
  obtain ⟨hc, hld, hled, htn, hgo, hkp, hst, hwt, hcl, hsh, hnx, hN, rx, ry, rh, rm, rc, rw9⟩ := hF
  refine e_aload_n dX6_keep_0 rfl rfl ?_
  refine e_getfield fd_X6_10 dX6_keep_1 rfl rfl rfl rfl ?_
  refine e_getfield fd_X6_190 dX6_keep_4 rfl rfl rfl rfl ?_
  exact e_iret dX6_keep_7 rfl rfl (eRet_i rfl rfl)
theorem C_X6_stepCount {X : eXT} {a : Nat → Nat} {q1 q2 q3 q4 q5 q6 : Nat} {z : Nat → Int} {N : Int} {F : eFs} {P : Int → Int} (hF : okF N F)  :
    EM X mX6_stepCount (eRm 0) a [.ref (a 0)] (wO (a 1) q1 q2 q3 q4 q5 q6 z :: wFl (fun k => a (1 + k)) F P) (eRet (some (vi (F.1 7))) a (wO (a 1) q1 q2 q3 q4 q5 q6 z :: wFl (fun k => a (1 + k)) F P)) := by
  refine EM.of (by decide +kernel) rfl (Nat.le_of_ble_eq_true rfl) ?_
  have hF0 := hF
  obtain ⟨hc, hld, hled, htn, hgo, hkp, hst, hwt, hcl, hsh, hnx, hN, rx, ry, rh, rm, rc, rw9⟩ := hF
  refine e_aload_n dX6_stepCount_0 rfl rfl ?_
  refine e_getfield fd_X6_10 dX6_stepCount_1 rfl rfl rfl rfl ?_
  refine e_getfield fd_X6_193 dX6_stepCount_4 rfl rfl rfl rfl ?_
  exact e_iret dX6_stepCount_7 rfl rfl (eRet_i rfl rfl)
theorem C_X6_cloudCount {X : eXT} {a : Nat → Nat} {q1 q2 q3 q4 q5 q6 : Nat} {z : Nat → Int} {N : Int} {F : eFs} {P : Int → Int} (hF : okF N F)  :
    EM X mX6_cloudCount (eRm 0) a [.ref (a 0)] (wO (a 1) q1 q2 q3 q4 q5 q6 z :: wFl (fun k => a (1 + k)) F P) (eRet (some (vi (F.1 9))) a (wO (a 1) q1 q2 q3 q4 q5 q6 z :: wFl (fun k => a (1 + k)) F P)) := by
  refine EM.of (by decide +kernel) rfl (Nat.le_of_ble_eq_true rfl) ?_
  have hF0 := hF
  obtain ⟨hc, hld, hled, htn, hgo, hkp, hst, hwt, hcl, hsh, hnx, hN, rx, ry, rh, rm, rc, rw9⟩ := hF
  refine e_aload_n dX6_cloudCount_0 rfl rfl ?_
  refine e_getfield fd_X6_10 dX6_cloudCount_1 rfl rfl rfl rfl ?_
  refine e_getfield fd_X6_125 dX6_cloudCount_4 rfl rfl rfl rfl ?_
  refine e_getfield fd_X6_140 dX6_cloudCount_7 rfl rfl rfl rfl ?_
  exact e_iret dX6_cloudCount_10 rfl rfl (eRet_i rfl rfl)
theorem C_X6_shapeCount {X : eXT} {a : Nat → Nat} {q1 q2 q3 q4 q5 q6 : Nat} {z : Nat → Int} {N : Int} {F : eFs} {P : Int → Int} (hF : okF N F)  :
    EM X mX6_shapeCount (eRm 0) a [.ref (a 0)] (wO (a 1) q1 q2 q3 q4 q5 q6 z :: wFl (fun k => a (1 + k)) F P) (eRet (some (vi (F.1 10))) a (wO (a 1) q1 q2 q3 q4 q5 q6 z :: wFl (fun k => a (1 + k)) F P)) := by
  refine EM.of (by decide +kernel) rfl (Nat.le_of_ble_eq_true rfl) ?_
  have hF0 := hF
  obtain ⟨hc, hld, hled, htn, hgo, hkp, hst, hwt, hcl, hsh, hnx, hN, rx, ry, rh, rm, rc, rw9⟩ := hF
  refine e_aload_n dX6_shapeCount_0 rfl rfl ?_
  refine e_getfield fd_X6_10 dX6_shapeCount_1 rfl rfl rfl rfl ?_
  refine e_getfield fd_X6_227 dX6_shapeCount_4 rfl rfl rfl rfl ?_
  refine e_getfield fd_X6_231 dX6_shapeCount_7 rfl rfl rfl rfl ?_
  exact e_iret dX6_shapeCount_10 rfl rfl (eRet_i rfl rfl)
theorem C_X6_differentShapes {X : eXT} {a : Nat → Nat} {q1 q2 q3 q4 q5 q6 : Nat} {z : Nat → Int} {N : Int} {F : eFs} {P : Int → Int} (hF : okF N F)  :
    EM X mX6_differentShapes (eRm 3) a [.ref (a 0)] (wO (a 1) q1 q2 q3 q4 q5 q6 z :: wFl (fun k => a (1 + k)) F P) (eRet (some (vi (sDif F))) a (wO (a 1) q1 q2 q3 q4 q5 q6 z :: wFl (fun k => a (1 + k)) F P)) := by
  refine EM.of (by decide +kernel) rfl (Nat.le_of_ble_eq_true rfl) ?_
  have hF0 := hF
  obtain ⟨hc, hld, hled, htn, hgo, hkp, hst, hwt, hcl, hsh, hnx, hN, rx, ry, rh, rm, rc, rw9⟩ := hF
  refine e_aload_n dX6_differentShapes_0 rfl rfl ?_
  refine e_getfield fd_X6_10 dX6_differentShapes_1 rfl rfl rfl rfl ?_
  refine e_getfield fd_X6_227 dX6_differentShapes_4 rfl rfl rfl rfl ?_
  refine e_cV0 [8, 9] lk_X6_234 rfl dX6_differentShapes_7 rfl (C_X5_countDifferent rw9 (by omega)) rfl rfl (Nat.le_of_ble_eq_true rfl) (Nat.le_of_ble_eq_true rfl) (Nat.le_of_ble_eq_true rfl) ⟨rfl, rfl⟩ rfl rfl rfl rfl rfl rfl  ?_
  exact e_iret dX6_differentShapes_10 rfl rfl (eRet_i rfl rfl)
theorem C_X6_mixedPairs {X : eXT} {a : Nat → Nat} {q1 q2 q3 q4 q5 q6 : Nat} {z : Nat → Int} {N : Int} {F : eFs} {P : Int → Int} (hF : okF N F)  :
    EM X mX6_mixedPairs (eRm 6) a [.ref (a 0)] (wO (a 1) q1 q2 q3 q4 q5 q6 z :: wFl (fun k => a (1 + k)) F P) (eRet (some (vi (sMix F))) a (wO (a 1) q1 q2 q3 q4 q5 q6 z :: wFl (fun k => a (1 + k)) F P)) := by
  refine EM.of (by decide +kernel) rfl (Nat.le_of_ble_eq_true rfl) ?_
  have hF0 := hF
  obtain ⟨hc, hld, hled, htn, hgo, hkp, hst, hwt, hcl, hsh, hnx, hN, rx, ry, rh, rm, rc, rw9⟩ := hF
  refine e_aload_n dX6_mixedPairs_0 rfl rfl ?_
  refine e_getfield fd_X6_10 dX6_mixedPairs_1 rfl rfl rfl rfl ?_
  refine e_cV0 [1, 2, 3, 4, 5, 6, 7, 8, 9, 10] lk_X6_220 rfl dX6_mixedPairs_4 rfl (C_X2_mixedByComparing (F := F) hF0) rfl rfl (Nat.le_of_ble_eq_true rfl) (Nat.le_of_ble_eq_true rfl) (Nat.le_of_ble_eq_true rfl) ⟨rfl, rfl⟩ rfl rfl rfl rfl rfl rfl  ?_
  exact e_iret dX6_mixedPairs_7 rfl rfl (eRet_i rfl rfl)
theorem C_X6_mixedPairsByHandles {X : eXT} {a : Nat → Nat} {q1 q2 q3 q4 q5 q6 : Nat} {z : Nat → Int} {N : Int} {F : eFs} {P : Int → Int} (hF : okF N F)  :
    EM X mX6_mixedPairsByHandles (eRm 6) a [.ref (a 0)] (wO (a 1) q1 q2 q3 q4 q5 q6 z :: wFl (fun k => a (1 + k)) F P) (eRet (some (vi (sMix F))) a (wO (a 1) q1 q2 q3 q4 q5 q6 z :: wFl (fun k => a (1 + k)) F P)) := by
  refine EM.of (by decide +kernel) rfl (Nat.le_of_ble_eq_true rfl) ?_
  have hF0 := hF
  obtain ⟨hc, hld, hled, htn, hgo, hkp, hst, hwt, hcl, hsh, hnx, hN, rx, ry, rh, rm, rc, rw9⟩ := hF
  refine e_aload_n dX6_mixedPairsByHandles_0 rfl rfl ?_
  refine e_getfield fd_X6_10 dX6_mixedPairsByHandles_1 rfl rfl rfl rfl ?_
  refine e_cV0 [1, 2, 3, 4, 5, 6, 7, 8, 9, 10] lk_X6_224 rfl dX6_mixedPairsByHandles_4 rfl (C_X2_mixedByHandles (F := F) hF0) rfl rfl (Nat.le_of_ble_eq_true rfl) (Nat.le_of_ble_eq_true rfl) (Nat.le_of_ble_eq_true rfl) ⟨rfl, rfl⟩ rfl rfl rfl rfl rfl rfl  ?_
  exact e_iret dX6_mixedPairsByHandles_7 rfl rfl (eRet_i rfl rfl)
theorem C_X6_moveTotal {X : eXT} {a : Nat → Nat} {q1 q2 q3 q4 q5 q6 : Nat} {z : Nat → Int} {N : Int} {F : eFs} {P : Int → Int} (hF : okF N F)  :
    EM X mX6_moveTotal (eRm 2) a [.ref (a 0)] (wO (a 1) q1 q2 q3 q4 q5 q6 z :: wFl (fun k => a (1 + k)) F P) (eRet (some (vl (sSumM F))) a (wO (a 1) q1 q2 q3 q4 q5 q6 z :: wFl (fun k => a (1 + k)) F P)) := by
  refine EM.of (by decide +kernel) rfl (Nat.le_of_ble_eq_true rfl) ?_
  have hF0 := hF
  obtain ⟨hc, hld, hled, htn, hgo, hkp, hst, hwt, hcl, hsh, hnx, hN, rx, ry, rh, rm, rc, rw9⟩ := hF
  refine e_aload_n dX6_moveTotal_0 rfl rfl ?_
  refine e_getfield fd_X6_10 dX6_moveTotal_1 rfl rfl rfl rfl ?_
  refine e_cV0 [1, 2, 3, 4, 5, 6, 7, 8, 9, 10] lk_X6_199 rfl dX6_moveTotal_4 rfl (C_X2_sumOfMoves (F := F) hF0) rfl rfl (Nat.le_of_ble_eq_true rfl) (Nat.le_of_ble_eq_true rfl) (Nat.le_of_ble_eq_true rfl) ⟨rfl, rfl⟩ rfl rfl rfl rfl rfl rfl  ?_
  exact e_lret dX6_moveTotal_7 rfl (eRet_l rfl rfl)
theorem C_X6_xOf {X : eXT} {a : Nat → Nat} {q1 q2 q3 q4 q5 q6 : Nat} {z : Nat → Int} {N : Int} {F : eFs} {P : Int → Int} (hF : okF N F) {b : Int} (gb : -2147483648 ≤ b ∧ b ≤ 2147483647) :
    EM X mX6_xOf (eRt 7 1) a [.ref (a 0), vi b] (wO (a 1) q1 q2 q3 q4 q5 q6 z :: wFl (fun k => a (1 + k)) F P) (eOut (if sHas F b then none else some xIx) (some (vi (F.2 0 b))) a (wO (a 1) q1 q2 q3 q4 q5 q6 z :: wFl (fun k => a (1 + k)) F P) (wO (a 1) q1 q2 q3 q4 q5 q6 z :: wFl (fun k => a (1 + k)) F P)) := by
  refine EM.of (by decide +kernel) rfl (Nat.le_of_ble_eq_true rfl) ?_
  have hF0 := hF
  obtain ⟨hc, hld, hled, htn, hgo, hkp, hst, hwt, hcl, hsh, hnx, hN, rx, ry, rh, rm, rc, rw9⟩ := hF
  refine e_aload_n dX6_xOf_0 rfl rfl ?_
  refine e_iload_n dX6_xOf_1 rfl rfl ?_
  refine e_cVwo (b' := (0, 0)) (m := 11)  lk_X6_85 rfl dX6_xOf_2 rfl (C_X6_demandBasket hF0 (by omega)) rfl rfl (Nat.le_of_ble_eq_true rfl) (Nat.le_of_ble_eq_true rfl) (Nat.le_of_ble_eq_true rfl) ⟨(Nat.le_of_ble_eq_true rfl), (Nat.le_of_ble_eq_true rfl)⟩ rfl rfl rfl rfl rfl rfl rfl (fun ge2 => ?_) (fun e ge => e_out rfl (eOut_t (by first | exact ge | exact eIf_k ge | (rw [if_pos (by first | assumption | omega)]; first | exact ge | exact eIf_k ge)) rfl))
  have g2 : sHas F b := (eIf_n ge2).1
  refine e_aload_n dX6_xOf_5 rfl rfl ?_
  refine e_getfield fd_X6_10 dX6_xOf_6 rfl rfl rfl rfl ?_
  refine e_getfield fd_X6_89 dX6_xOf_9 rfl rfl rfl rfl ?_
  refine e_iload_n dX6_xOf_12 rfl rfl ?_
  refine e_ialoadB dX6_xOf_13 rfl rfl rfl (by omega) (by decide) rx ?_
  intro b13
  exact e_iret dX6_xOf_14 rfl rfl (eOut_r (by (repeat' split) <;> first | rfl | (exfalso; omega) | contradiction | (exfalso; simp_all)) rfl rfl)
theorem C_X6_yOf {X : eXT} {a : Nat → Nat} {q1 q2 q3 q4 q5 q6 : Nat} {z : Nat → Int} {N : Int} {F : eFs} {P : Int → Int} (hF : okF N F) {b : Int} (gb : -2147483648 ≤ b ∧ b ≤ 2147483647) :
    EM X mX6_yOf (eRt 7 1) a [.ref (a 0), vi b] (wO (a 1) q1 q2 q3 q4 q5 q6 z :: wFl (fun k => a (1 + k)) F P) (eOut (if sHas F b then none else some xIx) (some (vi (F.2 1 b))) a (wO (a 1) q1 q2 q3 q4 q5 q6 z :: wFl (fun k => a (1 + k)) F P) (wO (a 1) q1 q2 q3 q4 q5 q6 z :: wFl (fun k => a (1 + k)) F P)) := by
  refine EM.of (by decide +kernel) rfl (Nat.le_of_ble_eq_true rfl) ?_
  have hF0 := hF
  obtain ⟨hc, hld, hled, htn, hgo, hkp, hst, hwt, hcl, hsh, hnx, hN, rx, ry, rh, rm, rc, rw9⟩ := hF
  refine e_aload_n dX6_yOf_0 rfl rfl ?_
  refine e_iload_n dX6_yOf_1 rfl rfl ?_
  refine e_cVwo (b' := (0, 0)) (m := 11)  lk_X6_85 rfl dX6_yOf_2 rfl (C_X6_demandBasket hF0 (by omega)) rfl rfl (Nat.le_of_ble_eq_true rfl) (Nat.le_of_ble_eq_true rfl) (Nat.le_of_ble_eq_true rfl) ⟨(Nat.le_of_ble_eq_true rfl), (Nat.le_of_ble_eq_true rfl)⟩ rfl rfl rfl rfl rfl rfl rfl (fun ge2 => ?_) (fun e ge => e_out rfl (eOut_t (by first | exact ge | exact eIf_k ge | (rw [if_pos (by first | assumption | omega)]; first | exact ge | exact eIf_k ge)) rfl))
  have g2 : sHas F b := (eIf_n ge2).1
  refine e_aload_n dX6_yOf_5 rfl rfl ?_
  refine e_getfield fd_X6_10 dX6_yOf_6 rfl rfl rfl rfl ?_
  refine e_getfield fd_X6_93 dX6_yOf_9 rfl rfl rfl rfl ?_
  refine e_iload_n dX6_yOf_12 rfl rfl ?_
  refine e_ialoadB dX6_yOf_13 rfl rfl rfl (by omega) (by decide) ry ?_
  intro b13
  exact e_iret dX6_yOf_14 rfl rfl (eOut_r (by (repeat' split) <;> first | rfl | (exfalso; omega) | contradiction | (exfalso; simp_all)) rfl rfl)
theorem C_X6_handleOf {X : eXT} {a : Nat → Nat} {q1 q2 q3 q4 q5 q6 : Nat} {z : Nat → Int} {N : Int} {F : eFs} {P : Int → Int} (hF : okF N F) {b : Int} (gb : -2147483648 ≤ b ∧ b ≤ 2147483647) :
    EM X mX6_handleOf (eRt 7 1) a [.ref (a 0), vi b] (wO (a 1) q1 q2 q3 q4 q5 q6 z :: wFl (fun k => a (1 + k)) F P) (eOut (if sHas F b then none else some xIx) (some (vi (F.2 2 b))) a (wO (a 1) q1 q2 q3 q4 q5 q6 z :: wFl (fun k => a (1 + k)) F P) (wO (a 1) q1 q2 q3 q4 q5 q6 z :: wFl (fun k => a (1 + k)) F P)) := by
  refine EM.of (by decide +kernel) rfl (Nat.le_of_ble_eq_true rfl) ?_
  have hF0 := hF
  obtain ⟨hc, hld, hled, htn, hgo, hkp, hst, hwt, hcl, hsh, hnx, hN, rx, ry, rh, rm, rc, rw9⟩ := hF
  refine e_aload_n dX6_handleOf_0 rfl rfl ?_
  refine e_iload_n dX6_handleOf_1 rfl rfl ?_
  refine e_cVwo (b' := (0, 0)) (m := 11)  lk_X6_85 rfl dX6_handleOf_2 rfl (C_X6_demandBasket hF0 (by omega)) rfl rfl (Nat.le_of_ble_eq_true rfl) (Nat.le_of_ble_eq_true rfl) (Nat.le_of_ble_eq_true rfl) ⟨(Nat.le_of_ble_eq_true rfl), (Nat.le_of_ble_eq_true rfl)⟩ rfl rfl rfl rfl rfl rfl rfl (fun ge2 => ?_) (fun e ge => e_out rfl (eOut_t (by first | exact ge | exact eIf_k ge | (rw [if_pos (by first | assumption | omega)]; first | exact ge | exact eIf_k ge)) rfl))
  have g2 : sHas F b := (eIf_n ge2).1
  refine e_aload_n dX6_handleOf_5 rfl rfl ?_
  refine e_getfield fd_X6_10 dX6_handleOf_6 rfl rfl rfl rfl ?_
  refine e_getfield fd_X6_96 dX6_handleOf_9 rfl rfl rfl rfl ?_
  refine e_iload_n dX6_handleOf_12 rfl rfl ?_
  refine e_ialoadB dX6_handleOf_13 rfl rfl rfl (by omega) (by decide) rh ?_
  intro b13
  exact e_iret dX6_handleOf_14 rfl rfl (eOut_r (by (repeat' split) <;> first | rfl | (exfalso; omega) | contradiction | (exfalso; simp_all)) rfl rfl)
theorem C_X6_movesOf {X : eXT} {a : Nat → Nat} {q1 q2 q3 q4 q5 q6 : Nat} {z : Nat → Int} {N : Int} {F : eFs} {P : Int → Int} (hF : okF N F) {b : Int} (gb : -2147483648 ≤ b ∧ b ≤ 2147483647) :
    EM X mX6_movesOf (eRt 7 1) a [.ref (a 0), vi b] (wO (a 1) q1 q2 q3 q4 q5 q6 z :: wFl (fun k => a (1 + k)) F P) (eOut (if sHas F b then none else some xIx) (some (vi (F.2 3 b))) a (wO (a 1) q1 q2 q3 q4 q5 q6 z :: wFl (fun k => a (1 + k)) F P) (wO (a 1) q1 q2 q3 q4 q5 q6 z :: wFl (fun k => a (1 + k)) F P)) := by
  refine EM.of (by decide +kernel) rfl (Nat.le_of_ble_eq_true rfl) ?_
  have hF0 := hF
  obtain ⟨hc, hld, hled, htn, hgo, hkp, hst, hwt, hcl, hsh, hnx, hN, rx, ry, rh, rm, rc, rw9⟩ := hF
  refine e_aload_n dX6_movesOf_0 rfl rfl ?_
  refine e_iload_n dX6_movesOf_1 rfl rfl ?_
  refine e_cVwo (b' := (0, 0)) (m := 11)  lk_X6_85 rfl dX6_movesOf_2 rfl (C_X6_demandBasket hF0 (by omega)) rfl rfl (Nat.le_of_ble_eq_true rfl) (Nat.le_of_ble_eq_true rfl) (Nat.le_of_ble_eq_true rfl) ⟨(Nat.le_of_ble_eq_true rfl), (Nat.le_of_ble_eq_true rfl)⟩ rfl rfl rfl rfl rfl rfl rfl (fun ge2 => ?_) (fun e ge => e_out rfl (eOut_t (by first | exact ge | exact eIf_k ge | (rw [if_pos (by first | assumption | omega)]; first | exact ge | exact eIf_k ge)) rfl))
  have g2 : sHas F b := (eIf_n ge2).1
  refine e_aload_n dX6_movesOf_5 rfl rfl ?_
  refine e_getfield fd_X6_10 dX6_movesOf_6 rfl rfl rfl rfl ?_
  refine e_getfield fd_X6_196 dX6_movesOf_9 rfl rfl rfl rfl ?_
  refine e_iload_n dX6_movesOf_12 rfl rfl ?_
  refine e_ialoadB dX6_movesOf_13 rfl rfl rfl (by omega) (by decide) rm ?_
  intro b13
  exact e_iret dX6_movesOf_14 rfl rfl (eOut_r (by (repeat' split) <;> first | rfl | (exfalso; omega) | contradiction | (exfalso; simp_all)) rfl rfl)
theorem C_X6_distance {X : eXT} {a : Nat → Nat} {q1 q2 q3 q4 q5 q6 : Nat} {z : Nat → Int} {N : Int} {F : eFs} {P : Int → Int} (hF : okF N F) {b o : Int} (gb : -2147483648 ≤ b ∧ b ≤ 2147483647) (go : -2147483648 ≤ o ∧ o ≤ 2147483647) :
    EM X mX6_distance (eRt 7 2) a [.ref (a 0), vi b, vi o] (wO (a 1) q1 q2 q3 q4 q5 q6 z :: wFl (fun k => a (1 + k)) F P) (eOut (if sHas F b then (if sHas F o then none else some xIx) else some xIx) (some (vi (sDD F b o))) a (wO (a 1) q1 q2 q3 q4 q5 q6 z :: wFl (fun k => a (1 + k)) F P) (wO (a 1) q1 q2 q3 q4 q5 q6 z :: wFl (fun k => a (1 + k)) F P)) := by
  refine EM.of (by decide +kernel) rfl (Nat.le_of_ble_eq_true rfl) ?_
  have hF0 := hF
  obtain ⟨hc, hld, hled, htn, hgo, hkp, hst, hwt, hcl, hsh, hnx, hN, rx, ry, rh, rm, rc, rw9⟩ := hF
  refine e_aload_n dX6_distance_0 rfl rfl ?_
  refine e_iload_n dX6_distance_1 rfl rfl ?_
  refine e_cVwo (b' := (1, 6)) (m := 11)  lk_X6_85 rfl dX6_distance_2 rfl (C_X6_demandBasket hF0 (by omega)) rfl rfl (Nat.le_of_ble_eq_true rfl) (Nat.le_of_ble_eq_true rfl) (Nat.le_of_ble_eq_true rfl) ⟨(Nat.le_of_ble_eq_true rfl), (Nat.le_of_ble_eq_true rfl)⟩ rfl rfl rfl rfl rfl rfl rfl (fun ge2 => ?_) (fun e ge => e_out rfl (eOut_t (by first | exact ge | exact eIf_k ge | (rw [if_pos (by first | assumption | omega)]; first | exact ge | exact eIf_k ge)) rfl))
  have g2 : sHas F b := (eIf_n ge2).1
  refine e_aload_n dX6_distance_5 rfl rfl ?_
  refine e_iload_n dX6_distance_6 rfl rfl ?_
  refine e_cVwo (b' := (0, 0)) (m := 11)  lk_X6_85 rfl dX6_distance_7 rfl (C_X6_demandBasket hF0 (by omega)) rfl rfl (Nat.le_of_ble_eq_true rfl) (Nat.le_of_ble_eq_true rfl) (Nat.le_of_ble_eq_true rfl) ⟨(Nat.le_of_ble_eq_true rfl), (Nat.le_of_ble_eq_true rfl)⟩ rfl rfl rfl rfl rfl rfl rfl (fun ge7 => ?_) (fun e ge => e_out rfl (eOut_t (by first | exact ge | exact eIf_k ge | (rw [if_pos (by first | assumption | omega)]; first | exact ge | exact eIf_k ge)) rfl))
  have g7 : sHas F o := (eIf_n ge7).1
  refine e_aload_n dX6_distance_10 rfl rfl ?_
  refine e_getfield fd_X6_10 dX6_distance_11 rfl rfl rfl rfl ?_
  refine e_iload_n dX6_distance_14 rfl rfl ?_
  refine e_iload_n dX6_distance_15 rfl rfl ?_
  refine e_cV0 [1, 2, 3, 4, 5, 6, 7, 8, 9, 10] lk_X6_113 rfl dX6_distance_16 rfl (C_X2_distanceOf (F := F) hF0 g2 g7) rfl rfl (Nat.le_of_ble_eq_true rfl) (Nat.le_of_ble_eq_true rfl) (Nat.le_of_ble_eq_true rfl) ⟨rfl, rfl⟩ rfl rfl rfl rfl rfl rfl  ?_
  exact e_iret dX6_distance_19 rfl rfl (eOut_r (by (repeat' split) <;> first | rfl | (exfalso; omega) | contradiction | (exfalso; simp_all)) rfl rfl)
theorem C_X6_nearestTo {X : eXT} {a : Nat → Nat} {q1 q2 q3 q4 q5 q6 : Nat} {z : Nat → Int} {N : Int} {F : eFs} {P : Int → Int} (hF : okF N F) {b : Int} (gb : -2147483648 ≤ b ∧ b ≤ 2147483647) :
    EM X mX6_nearestTo (eRt 7 2) a [.ref (a 0), vi b] (wO (a 1) q1 q2 q3 q4 q5 q6 z :: wFl (fun k => a (1 + k)) F P) (eOut (if sHas F b then (if ¬ sNear F b = -1 then none else some xNo) else some xIx) (some (vi (sNear F b))) a (wO (a 1) q1 q2 q3 q4 q5 q6 z :: wFl (fun k => a (1 + k)) F P) (wO (a 1) q1 q2 q3 q4 q5 q6 z :: wFl (fun k => a (1 + k)) F P)) := by
  refine EM.of (by decide +kernel) rfl (Nat.le_of_ble_eq_true rfl) ?_
  have hF0 := hF
  obtain ⟨hc, hld, hled, htn, hgo, hkp, hst, hwt, hcl, hsh, hnx, hN, rx, ry, rh, rm, rc, rw9⟩ := hF
  refine e_aload_n dX6_nearestTo_0 rfl rfl ?_
  refine e_iload_n dX6_nearestTo_1 rfl rfl ?_
  refine e_cVwo (b' := (1, 6)) (m := 11)  lk_X6_85 rfl dX6_nearestTo_2 rfl (C_X6_demandBasket hF0 (by omega)) rfl rfl (Nat.le_of_ble_eq_true rfl) (Nat.le_of_ble_eq_true rfl) (Nat.le_of_ble_eq_true rfl) ⟨(Nat.le_of_ble_eq_true rfl), (Nat.le_of_ble_eq_true rfl)⟩ rfl rfl rfl rfl rfl rfl rfl (fun ge2 => ?_) (fun e ge => e_out rfl (eOut_t (by first | exact ge | exact eIf_k ge | (rw [if_pos (by first | assumption | omega)]; first | exact ge | exact eIf_k ge)) rfl))
  have g2 : sHas F b := (eIf_n ge2).1
  refine e_aload_n dX6_nearestTo_5 rfl rfl ?_
  refine e_getfield fd_X6_10 dX6_nearestTo_6 rfl rfl rfl rfl ?_
  refine e_iload_n dX6_nearestTo_9 rfl rfl ?_
  refine e_cV0 [1, 2, 3, 4, 5, 6, 7, 8, 9, 10] lk_X6_116 rfl dX6_nearestTo_10 rfl (C_X2_nearestOther (F := F) hF0 g2) rfl rfl (Nat.le_of_ble_eq_true rfl) (Nat.le_of_ble_eq_true rfl) (Nat.le_of_ble_eq_true rfl) ⟨rfl, rfl⟩ rfl rfl rfl rfl rfl rfl  ?_
  have un : -1 ≤ sNear F b ∧ (sNear F b < F.1 0 ∨ sNear F b = -1) := eFB_in (by decide)
  refine f_istore_n dX6_nearestTo_13 rfl (Nat.le_of_ble_eq_true rfl) rfl ?_
  refine e_iload_n dX6_nearestTo_14 rfl rfl ?_
  refine e_iconst dX6_nearestTo_15 rfl ?_
  refine e_icmp_ne (t := 29) dX6_nearestTo_16 rfl rfl (by omega) (by omega) (fun h16 => ?_) (fun h16 => ?_)
  · refine e_iload_n dX6_nearestTo_29 rfl rfl ?_
    exact e_iret dX6_nearestTo_30 rfl rfl (eOut_r (by (repeat' split) <;> first | rfl | (exfalso; omega) | contradiction | (exfalso; simp_all)) rfl rfl)
  · exact nx_throw 0 th_X6_120 rfl (Nat.le_of_ble_eq_true rfl) (Nat.le_of_ble_eq_true rfl) ⟨(Nat.le_of_ble_eq_true rfl), (Nat.le_of_ble_eq_true rfl)⟩ dX6_nearestTo_19 dX6_nearestTo_22 (Or.inl ⟨rfl, dX6_nearestTo_23⟩) dX6_nearestTo_25 dX6_nearestTo_28 (eOut_t (by (repeat' split) <;> first | rfl | (exfalso; omega) | contradiction | (exfalso; simp_all)) rfl)
theorem C_X6_basketAt {X : eXT} {a : Nat → Nat} {q1 q2 q3 q4 q5 q6 : Nat} {z : Nat → Int} {N : Int} {F : eFs} {P : Int → Int} (hF : okF N F) {x y : Int} (gx : -2147483648 ≤ x ∧ x ≤ 2147483647) (gy : -2147483648 ≤ y ∧ y ≤ 2147483647) :
    EM X mX6_basketAt (eRt 7 2) a [.ref (a 0), vi x, vi y] (wO (a 1) q1 q2 q3 q4 q5 q6 z :: wFl (fun k => a (1 + k)) F P) (eOut (if sIn x y then (if ¬ sAt F x y = -1 then none else some xNo) else some xAr) (some (vi (sAt F x y))) a (wO (a 1) q1 q2 q3 q4 q5 q6 z :: wFl (fun k => a (1 + k)) F P) (wO (a 1) q1 q2 q3 q4 q5 q6 z :: wFl (fun k => a (1 + k)) F P)) := by
  refine EM.of (by decide +kernel) rfl (Nat.le_of_ble_eq_true rfl) ?_
  have hF0 := hF
  obtain ⟨hc, hld, hled, htn, hgo, hkp, hst, hwt, hcl, hsh, hnx, hN, rx, ry, rh, rm, rc, rw9⟩ := hF
  refine e_aload_n dX6_basketAt_0 rfl rfl ?_
  refine e_iload_n dX6_basketAt_1 rfl rfl ?_
  refine e_iload_n dX6_basketAt_2 rfl rfl ?_
  refine e_cVwo (b' := (1, 6)) (m := 11)  lk_X6_99 rfl dX6_basketAt_3 rfl (C_X6_demandCell hF0 (by omega) (by omega)) rfl rfl (Nat.le_of_ble_eq_true rfl) (Nat.le_of_ble_eq_true rfl) (Nat.le_of_ble_eq_true rfl) ⟨(Nat.le_of_ble_eq_true rfl), (Nat.le_of_ble_eq_true rfl)⟩ rfl rfl rfl rfl rfl rfl rfl (fun ge3 => ?_) (fun e ge => e_out rfl (eOut_t (by first | exact ge | exact eIf_k ge | (rw [if_pos (by first | assumption | omega)]; first | exact ge | exact eIf_k ge)) rfl))
  have g3 : sIn x y := (eIf_n ge3).1
  refine e_aload_n dX6_basketAt_6 rfl rfl ?_
  refine e_getfield fd_X6_10 dX6_basketAt_7 rfl rfl rfl rfl ?_
  refine e_iload_n dX6_basketAt_10 rfl rfl ?_
  refine e_iload_n dX6_basketAt_11 rfl rfl ?_
  refine e_cV0 [1, 2, 3, 4, 5, 6, 7, 8, 9, 10] lk_X6_103 rfl dX6_basketAt_12 rfl (C_X2_basketIn (F := F) hF0 (by omega) (by omega)) rfl rfl (Nat.le_of_ble_eq_true rfl) (Nat.le_of_ble_eq_true rfl) (Nat.le_of_ble_eq_true rfl) ⟨rfl, rfl⟩ rfl rfl rfl rfl rfl rfl  ?_
  have un := sAt_in (F := F) (x := x) (y := y)
  refine f_istore_n dX6_basketAt_15 rfl (Nat.le_of_ble_eq_true rfl) rfl ?_
  refine e_iload_n dX6_basketAt_16 rfl rfl ?_
  refine e_iconst dX6_basketAt_17 rfl ?_
  refine e_icmp_ne (t := 31) dX6_basketAt_18 rfl rfl (by omega) (by omega) (fun h18 => ?_) (fun h18 => ?_)
  · refine e_iload_n dX6_basketAt_31 rfl rfl ?_
    exact e_iret dX6_basketAt_32 rfl rfl (eOut_r (by (repeat' split) <;> first | rfl | (exfalso; omega) | contradiction | (exfalso; simp_all)) rfl rfl)
  · exact nx_throw 0 th_X6_108 rfl (Nat.le_of_ble_eq_true rfl) (Nat.le_of_ble_eq_true rfl) ⟨(Nat.le_of_ble_eq_true rfl), (Nat.le_of_ble_eq_true rfl)⟩ dX6_basketAt_21 dX6_basketAt_24 (Or.inl ⟨rfl, dX6_basketAt_25⟩) dX6_basketAt_27 dX6_basketAt_30 (eOut_t (by (repeat' split) <;> first | rfl | (exfalso; omega) | contradiction | (exfalso; simp_all)) rfl)
theorem C_X6_isCloud {X : eXT} {a : Nat → Nat} {q1 q2 q3 q4 q5 q6 : Nat} {z : Nat → Int} {N : Int} {F : eFs} {P : Int → Int} (hF : okF N F) {x y : Int} (gx : -2147483648 ≤ x ∧ x ≤ 2147483647) (gy : -2147483648 ≤ y ∧ y ≤ 2147483647) :
    EM X mX6_isCloud (eRt 7 1) a [.ref (a 0), vi x, vi y] (wO (a 1) q1 q2 q3 q4 q5 q6 z :: wFl (fun k => a (1 + k)) F P) (eOut (if sIn x y then none else some xAr) (some (vb (sCov (F.2 4) x y))) a (wO (a 1) q1 q2 q3 q4 q5 q6 z :: wFl (fun k => a (1 + k)) F P) (wO (a 1) q1 q2 q3 q4 q5 q6 z :: wFl (fun k => a (1 + k)) F P)) := by
  refine EM.of (by decide +kernel) rfl (Nat.le_of_ble_eq_true rfl) ?_
  have hF0 := hF
  obtain ⟨hc, hld, hled, htn, hgo, hkp, hst, hwt, hcl, hsh, hnx, hN, rx, ry, rh, rm, rc, rw9⟩ := hF
  refine e_aload_n dX6_isCloud_0 rfl rfl ?_
  refine e_iload_n dX6_isCloud_1 rfl rfl ?_
  refine e_iload_n dX6_isCloud_2 rfl rfl ?_
  refine e_cVwo (b' := (0, 0)) (m := 11)  lk_X6_99 rfl dX6_isCloud_3 rfl (C_X6_demandCell hF0 (by omega) (by omega)) rfl rfl (Nat.le_of_ble_eq_true rfl) (Nat.le_of_ble_eq_true rfl) (Nat.le_of_ble_eq_true rfl) ⟨(Nat.le_of_ble_eq_true rfl), (Nat.le_of_ble_eq_true rfl)⟩ rfl rfl rfl rfl rfl rfl rfl (fun ge3 => ?_) (fun e ge => e_out rfl (eOut_t (by first | exact ge | exact eIf_k ge | (rw [if_pos (by first | assumption | omega)]; first | exact ge | exact eIf_k ge)) rfl))
  have g3 : sIn x y := (eIf_n ge3).1
  refine e_aload_n dX6_isCloud_6 rfl rfl ?_
  refine e_getfield fd_X6_10 dX6_isCloud_7 rfl rfl rfl rfl ?_
  refine e_getfield fd_X6_125 dX6_isCloud_10 rfl rfl rfl rfl ?_
  refine e_iload_n dX6_isCloud_13 rfl rfl ?_
  refine e_iload_n dX6_isCloud_14 rfl rfl ?_
  refine e_cV0 [6, 7] lk_X6_136 rfl dX6_isCloud_15 rfl (C_X0_covers (by omega) (by omega)) rfl rfl (Nat.le_of_ble_eq_true rfl) (Nat.le_of_ble_eq_true rfl) (Nat.le_of_ble_eq_true rfl) ⟨rfl, rfl⟩ rfl rfl rfl rfl rfl rfl  ?_
  exact e_iret dX6_isCloud_18 rfl eNarB (eOut_r (by (repeat' split) <;> first | rfl | (exfalso; omega) | contradiction | (exfalso; simp_all)) rfl rfl)
theorem C_X6_leader {X : eXT} {a : Nat → Nat} {q1 q2 q3 q4 q5 q6 : Nat} {z : Nat → Int} {N : Int} {F : eFs} {P : Int → Int} (hF : okF N F)  :
    EM X mX6_leader (eRt 7 1) a [.ref (a 0)] (wO (a 1) q1 q2 q3 q4 q5 q6 z :: wFl (fun k => a (1 + k)) F P) (eOut (if 1 ≤ F.1 0 then none else some xNo) (some (vi (F.1 1))) a (wO (a 1) q1 q2 q3 q4 q5 q6 z :: wFl (fun k => a (1 + k)) F P) (wO (a 1) q1 q2 q3 q4 q5 q6 z :: wFl (fun k => a (1 + k)) F P)) := by
  refine EM.of (by decide +kernel) rfl (Nat.le_of_ble_eq_true rfl) ?_
  have hF0 := hF
  obtain ⟨hc, hld, hled, htn, hgo, hkp, hst, hwt, hcl, hsh, hnx, hN, rx, ry, rh, rm, rc, rw9⟩ := hF
  refine e_aload_n dX6_leader_0 rfl rfl ?_
  refine e_cVwo (b' := (0, 0)) (m := 11)  lk_X6_147 rfl dX6_leader_1 rfl (C_X6_demandAnyBasket hF0) rfl rfl (Nat.le_of_ble_eq_true rfl) (Nat.le_of_ble_eq_true rfl) (Nat.le_of_ble_eq_true rfl) ⟨(Nat.le_of_ble_eq_true rfl), (Nat.le_of_ble_eq_true rfl)⟩ rfl rfl rfl rfl rfl rfl rfl (fun ge1 => ?_) (fun e ge => e_out rfl (eOut_t (by first | exact ge | exact eIf_k ge | (rw [if_pos (by first | assumption | omega)]; first | exact ge | exact eIf_k ge)) rfl))
  have g1 : 1 ≤ F.1 0 := (eIf_n ge1).1
  refine e_aload_n dX6_leader_4 rfl rfl ?_
  refine e_getfield fd_X6_10 dX6_leader_5 rfl rfl rfl rfl ?_
  refine e_getfield fd_X6_150 dX6_leader_8 rfl rfl rfl rfl ?_
  exact e_iret dX6_leader_11 rfl rfl (eOut_r (by (repeat' split) <;> first | rfl | (exfalso; omega) | contradiction | (exfalso; simp_all)) rfl rfl)
theorem C_X6_leaderAfter {X : eXT} {a : Nat → Nat} {q1 q2 q3 q4 q5 q6 : Nat} {z : Nat → Int} {N : Int} {F : eFs} {P : Int → Int} (hF : okF N F) {s : Int} (gs : -2147483648 ≤ s ∧ s ≤ 2147483647) :
    EM X mX6_leaderAfter (eRt 7 2) a [.ref (a 0), vi s] (wO (a 1) q1 q2 q3 q4 q5 q6 z :: wFl (fun k => a (1 + k)) F P) (eOut (if 0 ≤ s ∧ s ≤ 99 then (if 1 ≤ F.1 0 then none else some xNo) else some xAr) (some (vi (sLead F s))) a (wO (a 1) q1 q2 q3 q4 q5 q6 z :: wFl (fun k => a (1 + k)) F P) (wO (a 1) q1 q2 q3 q4 q5 q6 z :: wFl (fun k => a (1 + k)) F P)) := by
  refine EM.of (by decide +kernel) rfl (Nat.le_of_ble_eq_true rfl) ?_
  have hF0 := hF
  obtain ⟨hc, hld, hled, htn, hgo, hkp, hst, hwt, hcl, hsh, hnx, hN, rx, ry, rh, rm, rc, rw9⟩ := hF
  refine e_aload_n dX6_leaderAfter_0 rfl rfl ?_
  refine e_iload_n dX6_leaderAfter_1 rfl rfl ?_
  refine e_cVwo (b' := (1, 6)) (m := 11)  lk_X6_153 rfl dX6_leaderAfter_2 rfl (C_X6_demandStepsAhead hF0 (by omega)) rfl rfl (Nat.le_of_ble_eq_true rfl) (Nat.le_of_ble_eq_true rfl) (Nat.le_of_ble_eq_true rfl) ⟨(Nat.le_of_ble_eq_true rfl), (Nat.le_of_ble_eq_true rfl)⟩ rfl rfl rfl rfl rfl rfl rfl (fun ge2 => ?_) (fun e ge => e_out rfl (eOut_t (by first | exact ge | exact eIf_k ge | (rw [if_pos (by first | assumption | omega)]; first | exact ge | exact eIf_k ge)) rfl))
  have g2 : 0 ≤ s ∧ s ≤ 99 := (eIf_n ge2).1
  refine e_aload_n dX6_leaderAfter_5 rfl rfl ?_
  refine e_cVwo (b' := (0, 0)) (m := 11)  lk_X6_147 rfl dX6_leaderAfter_6 rfl (C_X6_demandAnyBasket hF0) rfl rfl (Nat.le_of_ble_eq_true rfl) (Nat.le_of_ble_eq_true rfl) (Nat.le_of_ble_eq_true rfl) ⟨(Nat.le_of_ble_eq_true rfl), (Nat.le_of_ble_eq_true rfl)⟩ rfl rfl rfl rfl rfl rfl rfl (fun ge6 => ?_) (fun e ge => e_out rfl (eOut_t (by first | exact ge | exact eIf_k ge | (rw [if_pos (by first | assumption | omega)]; first | exact ge | exact eIf_k ge)) rfl))
  have g6 : 1 ≤ F.1 0 := (eIf_n ge6).1
  refine e_aload_n dX6_leaderAfter_9 rfl rfl ?_
  refine e_getfield fd_X6_10 dX6_leaderAfter_10 rfl rfl rfl rfl ?_
  refine e_iload_n dX6_leaderAfter_13 rfl rfl ?_
  refine e_cV0 [1, 2, 3, 4, 5, 6, 7, 8, 9, 10] lk_X6_156 rfl dX6_leaderAfter_14 rfl (C_X2_leaderByFormula (F := F) hF0 (by omega)) rfl rfl (Nat.le_of_ble_eq_true rfl) (Nat.le_of_ble_eq_true rfl) (Nat.le_of_ble_eq_true rfl) ⟨rfl, rfl⟩ rfl rfl rfl rfl rfl rfl  ?_
  exact e_iret dX6_leaderAfter_17 rfl rfl (eOut_r (by (repeat' split) <;> first | rfl | (exfalso; omega) | contradiction | (exfalso; simp_all)) rfl rfl)
theorem C_X6_leaderAfterByCounting {X : eXT} {a : Nat → Nat} {q1 q2 q3 q4 q5 q6 : Nat} {z : Nat → Int} {N : Int} {F : eFs} {P : Int → Int} (hF : okF N F) {s : Int} (gs : -2147483648 ≤ s ∧ s ≤ 2147483647) :
    EM X mX6_leaderAfterByCounting (eRt 7 2) a [.ref (a 0), vi s] (wO (a 1) q1 q2 q3 q4 q5 q6 z :: wFl (fun k => a (1 + k)) F P) (eOut (if 0 ≤ s ∧ s ≤ 99 then (if 1 ≤ F.1 0 then none else some xNo) else some xAr) (some (vi (sLead F s))) a (wO (a 1) q1 q2 q3 q4 q5 q6 z :: wFl (fun k => a (1 + k)) F P) (wO (a 1) q1 q2 q3 q4 q5 q6 z :: wFl (fun k => a (1 + k)) F P)) := by
  refine EM.of (by decide +kernel) rfl (Nat.le_of_ble_eq_true rfl) ?_
  have hF0 := hF
  obtain ⟨hc, hld, hled, htn, hgo, hkp, hst, hwt, hcl, hsh, hnx, hN, rx, ry, rh, rm, rc, rw9⟩ := hF
  refine e_aload_n dX6_leaderAfterByCounting_0 rfl rfl ?_
  refine e_iload_n dX6_leaderAfterByCounting_1 rfl rfl ?_
  refine e_cVwo (b' := (1, 6)) (m := 11)  lk_X6_153 rfl dX6_leaderAfterByCounting_2 rfl (C_X6_demandStepsAhead hF0 (by omega)) rfl rfl (Nat.le_of_ble_eq_true rfl) (Nat.le_of_ble_eq_true rfl) (Nat.le_of_ble_eq_true rfl) ⟨(Nat.le_of_ble_eq_true rfl), (Nat.le_of_ble_eq_true rfl)⟩ rfl rfl rfl rfl rfl rfl rfl (fun ge2 => ?_) (fun e ge => e_out rfl (eOut_t (by first | exact ge | exact eIf_k ge | (rw [if_pos (by first | assumption | omega)]; first | exact ge | exact eIf_k ge)) rfl))
  have g2 : 0 ≤ s ∧ s ≤ 99 := (eIf_n ge2).1
  refine e_aload_n dX6_leaderAfterByCounting_5 rfl rfl ?_
  refine e_cVwo (b' := (0, 0)) (m := 11)  lk_X6_147 rfl dX6_leaderAfterByCounting_6 rfl (C_X6_demandAnyBasket hF0) rfl rfl (Nat.le_of_ble_eq_true rfl) (Nat.le_of_ble_eq_true rfl) (Nat.le_of_ble_eq_true rfl) ⟨(Nat.le_of_ble_eq_true rfl), (Nat.le_of_ble_eq_true rfl)⟩ rfl rfl rfl rfl rfl rfl rfl (fun ge6 => ?_) (fun e ge => e_out rfl (eOut_t (by first | exact ge | exact eIf_k ge | (rw [if_pos (by first | assumption | omega)]; first | exact ge | exact eIf_k ge)) rfl))
  have g6 : 1 ≤ F.1 0 := (eIf_n ge6).1
  refine e_aload_n dX6_leaderAfterByCounting_9 rfl rfl ?_
  refine e_getfield fd_X6_10 dX6_leaderAfterByCounting_10 rfl rfl rfl rfl ?_
  refine e_iload_n dX6_leaderAfterByCounting_13 rfl rfl ?_
  refine e_cV0 [1, 2, 3, 4, 5, 6, 7, 8, 9, 10] lk_X6_159 rfl dX6_leaderAfterByCounting_14 rfl (C_X2_leaderByCounting (F := F) hF0 (by omega)) rfl rfl (Nat.le_of_ble_eq_true rfl) (Nat.le_of_ble_eq_true rfl) (Nat.le_of_ble_eq_true rfl) ⟨rfl, rfl⟩ rfl rfl rfl rfl rfl rfl  ?_
  exact e_iret dX6_leaderAfterByCounting_17 rfl rfl (eOut_r (by (repeat' split) <;> first | rfl | (exfalso; omega) | contradiction | (exfalso; simp_all)) rfl rfl)
theorem C_X6_stepsSinceShape {X : eXT} {a : Nat → Nat} {q1 q2 q3 q4 q5 q6 : Nat} {z : Nat → Int} {N : Int} {F : eFs} {P : Int → Int} (hF : okF N F)  :
    EM X mX6_stepsSinceShape (eRt 7 1) a [.ref (a 0)] (wO (a 1) q1 q2 q3 q4 q5 q6 z :: wFl (fun k => a (1 + k)) F P) (eOut (if ¬ sSince F = -1 then none else some xNo) (some (vi (sSince F))) a (wO (a 1) q1 q2 q3 q4 q5 q6 z :: wFl (fun k => a (1 + k)) F (sShp F)) (wO (a 1) q1 q2 q3 q4 q5 q6 z :: wFl (fun k => a (1 + k)) F (sShp F))) := by
  refine EM.of (by decide +kernel) rfl (Nat.le_of_ble_eq_true rfl) ?_
  have hF0 := hF
  obtain ⟨hc, hld, hled, htn, hgo, hkp, hst, hwt, hcl, hsh, hnx, hN, rx, ry, rh, rm, rc, rw9⟩ := hF
  refine e_aload_n dX6_stepsSinceShape_0 rfl rfl ?_
  refine e_getfield fd_X6_10 dX6_stepsSinceShape_1 rfl rfl rfl rfl ?_
  refine e_cV2 [1, 2, 3, 4, 5, 6, 7, 8, 9, 10] lk_X6_237 rfl dX6_stepsSinceShape_4 rfl (C_X2_stepsSincePresentShape (F := F) hF0) rfl rfl (Nat.le_of_ble_eq_true rfl) (Nat.le_of_ble_eq_true rfl) (Nat.le_of_ble_eq_true rfl) ⟨rfl, rfl⟩ rfl rfl rfl rfl rfl rfl rfl rfl ?_
  refine EV.ceq (cs' := wO (a 1) q1 q2 q3 q4 q5 q6 z :: wFl (fun k => a (1 + k)) F (sShp F)) rfl ?_
  have un : -1 ≤ sSince F ∧ (sSince F < F.1 10 ∨ sSince F = -1) := eFB_in (by decide)
  refine f_istore_n dX6_stepsSinceShape_7 rfl (Nat.le_of_ble_eq_true rfl) rfl ?_
  refine e_iload_n dX6_stepsSinceShape_8 rfl rfl ?_
  refine e_iconst dX6_stepsSinceShape_9 rfl ?_
  refine e_icmp_ne (t := 23) dX6_stepsSinceShape_10 rfl rfl (by omega) (by omega) (fun h10 => ?_) (fun h10 => ?_)
  · refine e_iload_n dX6_stepsSinceShape_23 rfl rfl ?_
    exact e_iret dX6_stepsSinceShape_24 rfl rfl (eOut_r (by (repeat' split) <;> first | rfl | (exfalso; omega) | contradiction | (exfalso; simp_all)) rfl rfl)
  · exact nx_throw 0 th_X6_240 rfl (Nat.le_of_ble_eq_true rfl) (Nat.le_of_ble_eq_true rfl) ⟨(Nat.le_of_ble_eq_true rfl), (Nat.le_of_ble_eq_true rfl)⟩ dX6_stepsSinceShape_13 dX6_stepsSinceShape_16 (Or.inl ⟨rfl, dX6_stepsSinceShape_17⟩) dX6_stepsSinceShape_19 dX6_stepsSinceShape_22 (eOut_t (by (repeat' split) <;> first | rfl | (exfalso; omega) | contradiction | (exfalso; simp_all)) rfl)
theorem C_X6_basketAtRank {X : eXT} {a : Nat → Nat} {q1 q2 q3 q4 q5 q6 : Nat} {z : Nat → Int} {N : Int} {F : eFs} {P : Int → Int} (hF : okF N F) {r : Int} (gr : -2147483648 ≤ r ∧ r ≤ 2147483647) :
    EM X mX6_basketAtRank (eRt 7 1) a [.ref (a 0), vi r] (wO (a 1) q1 q2 q3 q4 q5 q6 z :: wFl (fun k => a (1 + k)) F P) (eOut (if ¬ sWithRk F r = -1 then none else some xNo) (some (vi (sWithRk F r))) a (wO (a 1) q1 q2 q3 q4 q5 q6 z :: wFl (fun k => a (1 + k)) F P) (wO (a 1) q1 q2 q3 q4 q5 q6 z :: wFl (fun k => a (1 + k)) F P)) := by
  refine EM.of (by decide +kernel) rfl (Nat.le_of_ble_eq_true rfl) ?_
  have hF0 := hF
  obtain ⟨hc, hld, hled, htn, hgo, hkp, hst, hwt, hcl, hsh, hnx, hN, rx, ry, rh, rm, rc, rw9⟩ := hF
  refine e_aload_n dX6_basketAtRank_0 rfl rfl ?_
  refine e_getfield fd_X6_10 dX6_basketAtRank_1 rfl rfl rfl rfl ?_
  refine e_iload_n dX6_basketAtRank_4 rfl rfl ?_
  refine e_cV0 [1, 2, 3, 4, 5, 6, 7, 8, 9, 10] lk_X6_242 rfl dX6_basketAtRank_5 rfl (C_X2_basketWithRank (F := F) hF0 (by omega)) rfl rfl (Nat.le_of_ble_eq_true rfl) (Nat.le_of_ble_eq_true rfl) (Nat.le_of_ble_eq_true rfl) ⟨rfl, rfl⟩ rfl rfl rfl rfl rfl rfl  ?_
  have un : -1 ≤ sWithRk F r ∧ (sWithRk F r < F.1 0 ∨ sWithRk F r = -1) := eFB_in (by decide)
  refine f_istore_n dX6_basketAtRank_8 rfl (Nat.le_of_ble_eq_true rfl) rfl ?_
  refine e_iload_n dX6_basketAtRank_9 rfl rfl ?_
  refine e_iconst dX6_basketAtRank_10 rfl ?_
  refine e_icmp_ne (t := 24) dX6_basketAtRank_11 rfl rfl (by omega) (by omega) (fun h11 => ?_) (fun h11 => ?_)
  · refine e_iload_n dX6_basketAtRank_24 rfl rfl ?_
    exact e_iret dX6_basketAtRank_25 rfl rfl (eOut_r (by (repeat' split) <;> first | rfl | (exfalso; omega) | contradiction | (exfalso; simp_all)) rfl rfl)
  · exact nx_throw 0 th_X6_245 rfl (Nat.le_of_ble_eq_true rfl) (Nat.le_of_ble_eq_true rfl) ⟨(Nat.le_of_ble_eq_true rfl), (Nat.le_of_ble_eq_true rfl)⟩ dX6_basketAtRank_14 dX6_basketAtRank_17 (Or.inl ⟨rfl, dX6_basketAtRank_18⟩) dX6_basketAtRank_20 dX6_basketAtRank_23 (eOut_t (by (repeat' split) <;> first | rfl | (exfalso; omega) | contradiction | (exfalso; simp_all)) rfl)
theorem fp_div64 {x n : Int} (hx : 0 ≤ x ∧ x ≤ 620) (hn : 1 ≤ n ∧ n ≤ 9) : vf_n64 (FP.ddiv (FP.i2d (Int32.ofInt x)) (FP.i2d (Int32.ofInt n))) := by
  have h : ∀ i : Fin 621, ∀ j : Fin 10, 1 ≤ j.val → vf_n64 (FP.ddiv (FP.i2d (Int32.ofInt (i.val : Int))) (FP.i2d (Int32.ofInt (j.val : Int)))) := by
    unfold vf_n64
    decide +kernel
  have := h ⟨x.toNat, by omega⟩ ⟨n.toNat, by omega⟩ (by show 1 ≤ n.toNat; omega)
  simpa [show ((x.toNat : Nat) : Int) = x by omega, show ((n.toNat : Nat) : Int) = n by omega] using this
theorem fp_div32 {x n : Int} (hx : 0 ≤ x ∧ x ≤ 100) (hn : 1 ≤ n ∧ n ≤ 100) : vf_n32 (FP.fdiv (FP.i2f (Int32.ofInt x)) (FP.i2f (Int32.ofInt n))) := by
  have h : ∀ i : Fin 101, ∀ j : Fin 101, 1 ≤ j.val → vf_n32 (FP.fdiv (FP.i2f (Int32.ofInt (i.val : Int))) (FP.i2f (Int32.ofInt (j.val : Int)))) := by
    unfold vf_n32
    decide +kernel
  have := h ⟨x.toNat, by omega⟩ ⟨n.toNat, by omega⟩ (by show 1 ≤ n.toNat; omega)
  simpa [show ((x.toNat : Nat) : Int) = x by omega, show ((n.toNat : Nat) : Int) = n by omega] using this
theorem sSumD_in {N : Int} {F : eFs} (hF : okF N F) : 0 ≤ sSumD F ∧ sSumD F ≤ 620 := by
  have hc := hF.1
  have := eSB_bnd (f := fun b => sDD F b (F.1 1)) (n := F.1 0) (i := 0) (lo := 0) (hi := 62) (fun j _ _ => sDD_in hF j (F.1 1)) hc.1
  unfold sSumD
  omega
theorem sPair_in {F : eFs} (hc : 0 ≤ F.1 0 ∧ F.1 0 ≤ 10) {Q : Int → Int → Prop} [∀ b o, Decidable (Q b o)] : 0 ≤ eSB (fun b => eCB (fun o => Q b o) (F.1 0) (b + 1)) (F.1 0) 0 ∧ eSB (fun b => eCB (fun o => Q b o) (F.1 0) (b + 1)) (F.1 0) 0 ≤ 100 := by
  have := eSB_bnd (f := fun b => eCB (fun o => Q b o) (F.1 0) (b + 1)) (n := F.1 0) (i := 0) (lo := 0) (hi := 10) (fun j a b => by have := eCB_in (P := fun o => Q j o) (n := F.1 0) (i := j + 1) (by omega); omega) hc.1
  omega
theorem sPrs_in {F : eFs} (hc : 0 ≤ F.1 0 ∧ F.1 0 ≤ 10) : 0 ≤ sPrs F ∧ sPrs F ≤ 100 := sPair_in hc
theorem sMix_in {F : eFs} (hc : 0 ≤ F.1 0 ∧ F.1 0 ≤ 10) : 0 ≤ sMix F ∧ sMix F ≤ 100 := sPair_in hc

theorem C_X6_meanDistance {X : eXT} {a : Nat → Nat} {q1 q2 q3 q4 q5 q6 : Nat} {z : Nat → Int} {N : Int} {F : eFs} {P : Int → Int} (hF : okF N F)  :
    EM X mX6_meanDistance (eRt 7 1) a [.ref (a 0)] (wO (a 1) q1 q2 q3 q4 q5 q6 z :: wFl (fun k => a (1 + k)) F P) (eOut (if 2 ≤ F.1 0 then none else some xMa) (some (.double (FP.ddiv (FP.i2d (Int32.ofInt (sSumD F))) (FP.i2d (Int32.ofInt (F.1 0 - 1)))))) a (wO (a 1) q1 q2 q3 q4 q5 q6 z :: wFl (fun k => a (1 + k)) F P) (wO (a 1) q1 q2 q3 q4 q5 q6 z :: wFl (fun k => a (1 + k)) F P)) := by
  refine EM.of (by decide +kernel) rfl (Nat.le_of_ble_eq_true rfl) ?_
  have hF0 := hF
  obtain ⟨hc, hld, hled, htn, hgo, hkp, hst, hwt, hcl, hsh, hnx, hN, rx, ry, rh, rm, rc, rw9⟩ := hF
  refine e_aload_n dX6_meanDistance_0 rfl rfl ?_
  refine e_getfield fd_X6_10 dX6_meanDistance_1 rfl rfl rfl rfl ?_
  refine e_getfield fd_X6_82 dX6_meanDistance_4 rfl rfl rfl rfl ?_
  refine e_iconst dX6_meanDistance_7 rfl ?_
  refine e_isub dX6_meanDistance_8 rfl ?_
  refine f_istore_n dX6_meanDistance_9 rfl (Nat.le_of_ble_eq_true rfl) rfl ?_
  refine e_iload_n dX6_meanDistance_10 rfl rfl ?_
  refine e_iconst dX6_meanDistance_11 rfl ?_
  refine e_icmp_ge (t := 26) dX6_meanDistance_12 rfl rfl (by omega) (by omega) (fun h12 => ?_) (fun h12 => ?_)
  · refine e_aload_n dX6_meanDistance_26 rfl rfl ?_
    refine e_getfield fd_X6_10 dX6_meanDistance_27 rfl rfl rfl rfl ?_
    refine e_cV0 [1, 2, 3, 4, 5, 6, 7, 8, 9, 10] lk_X6_311 rfl dX6_meanDistance_30 rfl (C_X2_sumOfDistancesFromLeader (F := F) hF0) rfl rfl (Nat.le_of_ble_eq_true rfl) (Nat.le_of_ble_eq_true rfl) (Nat.le_of_ble_eq_true rfl) ⟨rfl, rfl⟩ rfl rfl rfl rfl rfl rfl  ?_
    have us := sSumD_in hF0
    refine e_i2d dX6_meanDistance_33 rfl ?_
    refine e_iload_n dX6_meanDistance_34 rfl rfl ?_
    refine e_i2d dX6_meanDistance_35 rfl ?_
    refine e_ddiv dX6_meanDistance_36 rfl (fp_div64 (by omega) (by omega)) ?_
    exact e_dret dX6_meanDistance_37 rfl (eOut_r (by (repeat' split) <;> first | rfl | (exfalso; omega) | contradiction | (exfalso; simp_all)) rfl rfl)
  · exact nx_throw 1 th_X6_308 rfl (Nat.le_of_ble_eq_true rfl) (Nat.le_of_ble_eq_true rfl) ⟨(Nat.le_of_ble_eq_true rfl), (Nat.le_of_ble_eq_true rfl)⟩ dX6_meanDistance_15 dX6_meanDistance_18 (Or.inr ⟨rfl, dX6_meanDistance_19⟩) dX6_meanDistance_22 dX6_meanDistance_25 (eOut_t (by (repeat' split) <;> first | rfl | (exfalso; omega) | contradiction | (exfalso; simp_all)) rfl)
theorem C_X6_mixedShare {X : eXT} {a : Nat → Nat} {q1 q2 q3 q4 q5 q6 : Nat} {z : Nat → Int} {N : Int} {F : eFs} {P : Int → Int} (hF : okF N F)  :
    EM X mX6_mixedShare (eRt 7 1) a [.ref (a 0)] (wO (a 1) q1 q2 q3 q4 q5 q6 z :: wFl (fun k => a (1 + k)) F P) (eOut (if 1 ≤ sPrs F then none else some xMa) (some (.float (FP.fdiv (FP.i2f (Int32.ofInt (sMix F))) (FP.i2f (Int32.ofInt (sPrs F)))))) a (wO (a 1) q1 q2 q3 q4 q5 q6 z :: wFl (fun k => a (1 + k)) F P) (wO (a 1) q1 q2 q3 q4 q5 q6 z :: wFl (fun k => a (1 + k)) F P)) := by
  refine EM.of (by decide +kernel) rfl (Nat.le_of_ble_eq_true rfl) ?_
  have hF0 := hF
  obtain ⟨hc, hld, hled, htn, hgo, hkp, hst, hwt, hcl, hsh, hnx, hN, rx, ry, rh, rm, rc, rw9⟩ := hF
  refine e_aload_n dX6_mixedShare_0 rfl rfl ?_
  refine e_getfield fd_X6_10 dX6_mixedShare_1 rfl rfl rfl rfl ?_
  refine e_cV0 [1, 2, 3, 4, 5, 6, 7, 8, 9, 10] lk_X6_314 rfl dX6_mixedShare_4 rfl (C_X2_linkedPairs (F := F) hF0) rfl rfl (Nat.le_of_ble_eq_true rfl) (Nat.le_of_ble_eq_true rfl) (Nat.le_of_ble_eq_true rfl) ⟨rfl, rfl⟩ rfl rfl rfl rfl rfl rfl  ?_
  have us := sPrs_in hc
  have um := sMix_in hc
  refine f_istore_n dX6_mixedShare_7 rfl (Nat.le_of_ble_eq_true rfl) rfl ?_
  refine e_iload_n dX6_mixedShare_8 rfl rfl ?_
  refine e_iconst dX6_mixedShare_9 rfl ?_
  refine e_icmp_ge (t := 24) dX6_mixedShare_10 rfl rfl (by omega) (by omega) (fun h10 => ?_) (fun h10 => ?_)
  · refine e_aload_n dX6_mixedShare_24 rfl rfl ?_
    refine e_getfield fd_X6_10 dX6_mixedShare_25 rfl rfl rfl rfl ?_
    refine e_cV0 [1, 2, 3, 4, 5, 6, 7, 8, 9, 10] lk_X6_220 rfl dX6_mixedShare_28 rfl (C_X2_mixedByComparing (F := F) hF0) rfl rfl (Nat.le_of_ble_eq_true rfl) (Nat.le_of_ble_eq_true rfl) (Nat.le_of_ble_eq_true rfl) ⟨rfl, rfl⟩ rfl rfl rfl rfl rfl rfl  ?_
    refine e_i2f dX6_mixedShare_31 rfl ?_
    refine e_iload_n dX6_mixedShare_32 rfl rfl ?_
    refine e_i2f dX6_mixedShare_33 rfl ?_
    refine e_fdiv dX6_mixedShare_34 rfl (fp_div32 (by omega) (by omega)) ?_
    exact e_fret dX6_mixedShare_35 rfl (eOut_r (by (repeat' split) <;> first | rfl | (exfalso; omega) | contradiction | (exfalso; simp_all)) rfl rfl)
  · exact nx_throw 1 th_X6_317 rfl (Nat.le_of_ble_eq_true rfl) (Nat.le_of_ble_eq_true rfl) ⟨(Nat.le_of_ble_eq_true rfl), (Nat.le_of_ble_eq_true rfl)⟩ dX6_mixedShare_13 dX6_mixedShare_16 (Or.inr ⟨rfl, dX6_mixedShare_17⟩) dX6_mixedShare_20 dX6_mixedShare_23 (eOut_t (by (repeat' split) <;> first | rfl | (exfalso; omega) | contradiction | (exfalso; simp_all)) rfl)
theorem C_X6_leadersAgree {X : eXT} {a : Nat → Nat} {q1 q2 q3 q4 q5 q6 : Nat} {z : Nat → Int} {N : Int} {F : eFs} {P : Int → Int} (hF : okF N F)  :
    EM X mX6_leadersAgree (eRm 5) a [.ref (a 0)] (wO (a 1) q1 q2 q3 q4 q5 q6 z :: wFl (fun k => a (1 + k)) F P) (eRet (some (vi 1)) a (wO (a 1) q1 q2 q3 q4 q5 q6 z :: wFl (fun k => a (1 + k)) F P)) := by
  refine EM.of (by decide +kernel) rfl (Nat.le_of_ble_eq_true rfl) ?_
  have hF0 := hF
  obtain ⟨hc, hld, hled, htn, hgo, hkp, hst, hwt, hcl, hsh, hnx, hN, rx, ry, rh, rm, rc, rw9⟩ := hF
  refine e_iconst dX6_leadersAgree_0 rfl ?_
  refine f_istore_n dX6_leadersAgree_1 rfl (Nat.le_of_ble_eq_true rfl) rfl ?_
  have hL2 : ∀ (k2 : Nat) (k : Int) (hk2 : (21 - k).toNat = k2) (g2 : 0 ≤ k ∧ k ≤ 21), EV (mX6_leadersAgree, (eRm 5), eRet (some (vi 1)) a (wO (a 1) q1 q2 q3 q4 q5 q6 z :: wFl (fun k => a (1 + k)) F P), X) a (0, 0) (wO (a 1) q1 q2 q3 q4 q5 q6 z :: wFl (fun k => a (1 + k)) F P) 2 [some (.ref (a 0)), some (vi k)] [] := by
    intro k2
    induction k2 using Nat.strongRecOn with
    | _ k2 ih2 =>
    intro k hk2 g2
    refine e_iload_n dX6_leadersAgree_2 rfl rfl ?_
    refine e_bipush dX6_leadersAgree_3 rfl rfl ?_
    refine e_icmp_gt (t := 35) dX6_leadersAgree_5 rfl rfl (by omega) (by omega) (fun h5 => ?_) (fun h5 => ?_)
    · refine e_iconst dX6_leadersAgree_35 rfl ?_
      exact e_iret dX6_leadersAgree_36 rfl (by decide) (eRet_i rfl rfl)
    · refine e_aload_n dX6_leadersAgree_8 rfl rfl ?_
      refine e_getfield fd_X6_10 dX6_leadersAgree_9 rfl rfl rfl rfl ?_
      refine e_iload_n dX6_leadersAgree_12 rfl rfl ?_
      refine e_cV0 [1, 2, 3, 4, 5, 6, 7, 8, 9, 10] lk_X6_156 rfl dX6_leadersAgree_13 rfl (C_X2_leaderByFormula (F := F) hF0 (by omega)) rfl rfl (Nat.le_of_ble_eq_true rfl) (Nat.le_of_ble_eq_true rfl) (Nat.le_of_ble_eq_true rfl) ⟨rfl, rfl⟩ rfl rfl rfl rfl rfl rfl  ?_
      have ul := sLead_in (F := F) (s := k) hc.1
      refine e_aload_n dX6_leadersAgree_16 rfl rfl ?_
      refine e_getfield fd_X6_10 dX6_leadersAgree_17 rfl rfl rfl rfl ?_
      refine e_iload_n dX6_leadersAgree_20 rfl rfl ?_
      refine e_cV0 [1, 2, 3, 4, 5, 6, 7, 8, 9, 10] lk_X6_159 rfl dX6_leadersAgree_21 rfl (C_X2_leaderByCounting (F := F) hF0 (by omega)) rfl rfl (Nat.le_of_ble_eq_true rfl) (Nat.le_of_ble_eq_true rfl) (Nat.le_of_ble_eq_true rfl) ⟨rfl, rfl⟩ rfl rfl rfl rfl rfl rfl  ?_
      refine e_icmp_eq (t := 29) dX6_leadersAgree_24 rfl rfl (by omega) (by omega) (fun h24 => ?_) (fun h24 => ?_)
      · refine f_iinc dX6_leadersAgree_29 rfl rfl (Nat.le_of_ble_eq_true rfl) rfl ?_
        refine e_goto (n := 2) dX6_leadersAgree_32 rfl ?_
        exact ih2 _ (by omega) (k + 1) rfl (by omega)
      · exact absurd rfl h24
  exact hL2 _ 0 rfl (by omega)
theorem C_X6_lineAt {X : eXT} {a : Nat → Nat} {q0 q1 q2 q3 q4 q5 : Nat} {z : Nat → Int} {ln : Int → Int} (hz : okZ z) (hln : ∀ j, 0 ≤ ln j ∧ ln j ≤ 65535) {i : Int} (gi : -2147483648 ≤ i ∧ i ≤ 2147483647) :
    EM X mX6_lineAt (eRt 7 1) a [.ref (a 0), vi i] ([wO q0 q1 q2 q3 q4 q5 (a 1) z, eI 2 12 ln]) (eOut (if 0 ≤ i ∧ i < z 4 then none else some xIx) (some (vi (ln i))) a ([wO q0 q1 q2 q3 q4 q5 (a 1) z, eI 2 12 ln]) ([wO q0 q1 q2 q3 q4 q5 (a 1) z, eI 2 12 ln])) := by
  refine EM.of (by decide +kernel) rfl (Nat.le_of_ble_eq_true rfl) ?_
  refine e_iload_n dX6_lineAt_0 rfl rfl ?_
  refine e_if_lt (t := 12) dX6_lineAt_1 rfl rfl (by omega) (fun h1 => ?_) (fun h1 => ?_)
  · exact nx_throw 1 th_X6_303 rfl (Nat.le_of_ble_eq_true rfl) (Nat.le_of_ble_eq_true rfl) ⟨(Nat.le_of_ble_eq_true rfl), (Nat.le_of_ble_eq_true rfl)⟩ dX6_lineAt_12 dX6_lineAt_15 (Or.inr ⟨rfl, dX6_lineAt_16⟩) dX6_lineAt_19 dX6_lineAt_22 (eOut_t (by (repeat' split) <;> first | rfl | (exfalso; omega) | contradiction | (exfalso; simp_all)) rfl)
  · refine e_iload_n dX6_lineAt_4 rfl rfl ?_
    refine e_aload_n dX6_lineAt_5 rfl rfl ?_
    refine e_getfield fd_X6_64 dX6_lineAt_6 rfl rfl rfl rfl ?_
    refine e_icmp_lt (t := 23) dX6_lineAt_9 rfl rfl (by omega) (by omega) (fun h9 => ?_) (fun h9 => ?_)
    · refine e_aload_n dX6_lineAt_23 rfl rfl ?_
      refine e_getfield fd_X6_60 dX6_lineAt_24 rfl rfl rfl rfl ?_
      refine e_iload_n dX6_lineAt_27 rfl rfl ?_
      refine e_caload dX6_lineAt_28 rfl rfl rfl (by omega) (by decide) ?_
      exact e_iret dX6_lineAt_29 rfl (narC (hln i)) (eOut_r (by (repeat' split) <;> first | rfl | (exfalso; omega) | contradiction | (exfalso; simp_all)) rfl rfl)
    · exact nx_throw 1 th_X6_303 rfl (Nat.le_of_ble_eq_true rfl) (Nat.le_of_ble_eq_true rfl) ⟨(Nat.le_of_ble_eq_true rfl), (Nat.le_of_ble_eq_true rfl)⟩ dX6_lineAt_12 dX6_lineAt_15 (Or.inr ⟨rfl, dX6_lineAt_16⟩) dX6_lineAt_19 dX6_lineAt_22 (eOut_t (by (repeat' split) <;> first | rfl | (exfalso; omega) | contradiction | (exfalso; simp_all)) rfl)
theorem sSgn_in {F : eFs} (hc : 0 ≤ F.1 0 ∧ F.1 0 ≤ 10) {x y : Int} : 0 ≤ sSgn F x y ∧ sSgn F x y ≤ 65535 := by
  have := sAt_in (F := F) (x := x) (y := y)
  unfold sSgn
  split
  · split <;> omega
  · omega

theorem C_X6_describeRow {X : eXT} {a : Nat → Nat} {q1 q2 q3 q4 q5 : Nat} {z : Nat → Int} {N : Int} {F : eFs} {P : Int → Int} (hF : okF N F) {ln : Int → Int} {y : Int} (gy : -2147483648 ≤ y ∧ y ≤ 2147483647) :
    EM X mX6_describeRow (eRt 7 1) a [.ref (a 0), vi y] (wO (a 1) q1 q2 q3 q4 q5 (a 11) (z) :: (wFl (fun k => a (1 + k)) F P ++ [eI 2 12 (ln)])) (eOut (if 0 ≤ y ∧ y ≤ 11 then none else some xAr) (some (vi 12)) a (wO (a 1) q1 q2 q3 q4 q5 (a 11) (z) :: (wFl (fun k => a (1 + k)) F P ++ [eI 2 12 (ln)])) (wO (a 1) q1 q2 q3 q4 q5 (a 11) (zS z 4 12) :: (wFl (fun k => a (1 + k)) F P ++ [eI 2 12 (fun x => sSgn F x y)]))) := by
  refine EM.of (by decide +kernel) rfl (Nat.le_of_ble_eq_true rfl) ?_
  have hF0 := hF
  obtain ⟨hc, hld, hled, htn, hgo, hkp, hst, hwt, hcl, hsh, hnx, hN, rx, ry, rh, rm, rc, rw9⟩ := hF
  refine e_aload_n dX6_describeRow_0 rfl rfl ?_
  refine e_iconst dX6_describeRow_1 rfl ?_
  refine e_iload_n dX6_describeRow_2 rfl rfl ?_
  refine e_cVo (b' := (0, 0)) [0, 1, 2, 3, 4, 5, 6, 7, 8, 9, 10] lk_X6_99 rfl dX6_describeRow_3 rfl (C_X6_demandCell hF0 (by omega) (by omega)) rfl rfl (Nat.le_of_ble_eq_true rfl) (Nat.le_of_ble_eq_true rfl) (Nat.le_of_ble_eq_true rfl) ⟨(Nat.le_of_ble_eq_true rfl), (Nat.le_of_ble_eq_true rfl)⟩ rfl rfl rfl rfl rfl rfl rfl rfl rfl rfl (fun ge3 => ?_) (fun e ge => e_out rfl (eOut_t (by by_cases q : 0 ≤ y ∧ y ≤ 11; rw [if_pos (by omega)] at ge; cases ge; rw [if_neg (by omega)] at ge ⊢; exact ge) rfl))
  have g3 : sIn 0 y := (eIf_n ge3).1
  refine e_iconst dX6_describeRow_6 rfl ?_
  refine f_istore_n dX6_describeRow_7 rfl (Nat.le_of_ble_eq_true rfl) rfl ?_
  have hL8 : ∀ (k8 : Nat) (k : Int) (g : Int → Int) (hk8 : (12 - k).toNat = k8) (g8 : 0 ≤ k ∧ k ≤ 12) (e8 : ∀ j, 0 ≤ j → j < k → g j = sSgn F j y), EV (mX6_describeRow, (eRt 7 1), eOut (if 0 ≤ y ∧ y ≤ 11 then none else some xAr) (some (vi 12)) a (wO (a 1) q1 q2 q3 q4 q5 (a 11) (z) :: (wFl (fun k => a (1 + k)) F P ++ [eI 2 12 (ln)])) (wO (a 1) q1 q2 q3 q4 q5 (a 11) (zS z 4 12) :: (wFl (fun k => a (1 + k)) F P ++ [eI 2 12 (fun x => sSgn F x y)])), X) a (0, 0) (wO (a 1) q1 q2 q3 q4 q5 (a 11) (z) :: (wFl (fun k => a (1 + k)) F P ++ [eI 2 12 (g)])) 8 [some (.ref (a 0)), some (vi y), some (vi k)] [] := by
    intro k8
    induction k8 using Nat.strongRecOn with
    | _ k8 ih8 =>
    intro k g hk8 g8 e8
    refine e_iload_n dX6_describeRow_8 rfl rfl ?_
    refine e_bipush dX6_describeRow_9 rfl rfl ?_
    refine e_icmp_ge (t := 35) dX6_describeRow_11 rfl rfl (by omega) (by omega) (fun h11 => ?_) (fun h11 => ?_)
    · refine EV.sim (i := 11) (c' := eI 2 12 (fun x => sSgn F x y)) rfl (eI_sim (fun z h0 h1 => e8 z h0 (by omega))) ?_
      refine e_aload_n dX6_describeRow_35 rfl rfl ?_
      refine e_bipush dX6_describeRow_36 rfl rfl ?_
      refine e_putfield fd_X6_64 dX6_describeRow_38 rfl rfl rfl (Nat.le_of_ble_eq_true rfl) rfl rfl ?_
      refine e_aload_n dX6_describeRow_41 rfl rfl ?_
      refine e_getfield fd_X6_64 dX6_describeRow_42 rfl rfl rfl rfl ?_
      exact e_iret dX6_describeRow_45 rfl rfl (eOut_r (by (repeat' split) <;> first | rfl | (exfalso; omega) | contradiction | (exfalso; simp_all)) rfl rfl)
    · refine e_aload_n dX6_describeRow_14 rfl rfl ?_
      refine e_getfield fd_X6_60 dX6_describeRow_15 rfl rfl rfl rfl ?_
      refine e_iload_n dX6_describeRow_18 rfl rfl ?_
      refine e_aload_n dX6_describeRow_19 rfl rfl ?_
      refine e_getfield fd_X6_10 dX6_describeRow_20 rfl rfl rfl rfl ?_
      refine e_iload_n dX6_describeRow_23 rfl rfl ?_
      refine e_iload_n dX6_describeRow_24 rfl rfl ?_
      refine e_cV0 [1, 2, 3, 4, 5, 6, 7, 8, 9, 10] lk_X6_297 rfl dX6_describeRow_25 rfl (C_X2_signOf (F := F) hF0 (by omega)) rfl rfl (Nat.le_of_ble_eq_true rfl) (Nat.le_of_ble_eq_true rfl) (Nat.le_of_ble_eq_true rfl) ⟨rfl, rfl⟩ rfl rfl rfl rfl rfl rfl  ?_
      have us : 0 ≤ sSgn F k y ∧ sSgn F k y ≤ 65535 := sSgn_in hc
      refine e_castore dX6_describeRow_28 rfl rfl rfl (by omega) (by decide) (by omega) ?_
      refine f_iinc dX6_describeRow_29 rfl rfl (Nat.le_of_ble_eq_true rfl) rfl ?_
      refine e_goto (n := 8) dX6_describeRow_32 rfl ?_
      exact ih8 _ (by omega) (k + 1) _ rfl (by omega) (fun j j1 j2 => by by_cases q : j = k; rw [q, eU_self]; rw [eU_ne q]; exact e8 j j1 (by omega))
  exact hL8 _ 0 ln rfl (by omega) (fun j _ _ => by omega)