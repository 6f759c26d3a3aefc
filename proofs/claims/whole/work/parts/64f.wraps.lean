/-! ===== the law: wrappers ===== -/
theorem C_L_leaderAfterByCounting {X : eXT} {a : Nat → Nat} {z : Nat → Int} {ln : Int → Int} {F : eFs} {P : Int → Int} {D : eFs} {DQ : Int → Int} {S : eFs} {SP : Int → Int} {c n : Int} {h : eHs} {g rc : Int → Int} {T : eFs} {Mt : Int → Int → Int} {o : Int → Int} {N : Int} (hF : okF N F) {s : Int} (gs : -2147483648 ≤ s ∧ s ≤ 2147483647) :
    EM X mL_leaderAfterByCounting (eRt 10 2) a [.ref (a 0), vi s, .ref (a 131)] (wA a z ln F P D DQ S SP c n h g rc T Mt [eJ 1 1 o]) (eRets (some (vi (exK ((if 0 ≤ s ∧ s ≤ 99 then (if 1 ≤ F.1 0 then none else some xNo) else some xAr)) xAr xNo ""))) a (fun cs1 => ((if 0 ≤ s ∧ s ≤ 99 then (if 1 ≤ F.1 0 then none else some xNo) else some xAr) = none → cs1 = wA a z ln F P D DQ S SP c n h g rc T Mt [eJ 1 1 (eU o 0 (w32 (sLead F s)))]) ∧ (¬ (if 0 ≤ s ∧ s ≤ 99 then (if 1 ≤ F.1 0 then none else some xNo) else some xAr) = none → cs1 = wA a z ln F P D DQ S SP c n h g rc T Mt [eJ 1 1 o]))) := by
  have hE : ∀ e, (if 0 ≤ s ∧ s ≤ 99 then (if 1 ≤ F.1 0 then none else some xNo) else some xAr) = some e → e = xAr ∨ e = xNo := by
    intro e he
    (repeat' split at he) <;> first | (cases he; done) | (injection he with he; subst he; first | exact rfl | exact Or.inl rfl | exact Or.inr rfl | exact Or.inr (Or.inl rfl) | exact Or.inr (Or.inr rfl))
  refine EM.of (by decide +kernel) rfl (Nat.le_of_ble_eq_true rfl) ?_
  refine e_aload_n dL_leaderAfterByCounting_0 rfl rfl ?_
  refine e_iconst dL_leaderAfterByCounting_1 rfl ?_
  refine e_aload_n dL_leaderAfterByCounting_2 rfl rfl ?_
  refine e_iload_n dL_leaderAfterByCounting_3 rfl rfl ?_
  refine e_cVo (b' := (0, 0)) [0, 1, 2, 3, 4, 5, 6, 7, 8, 9, 10] lk_L_75 rfl dL_leaderAfterByCounting_4 rfl (C_X6_leaderAfterByCounting (z := z) (F := F) (P := P) hF (by omega)) rfl rfl (Nat.le_of_ble_eq_true rfl) (Nat.le_of_ble_eq_true rfl) (Nat.le_of_ble_eq_true rfl) ⟨(Nat.le_of_ble_eq_true rfl), (Nat.le_of_ble_eq_true rfl)⟩ rfl rfl rfl rfl rfl rfl (cs' := wA a z ln F P D DQ S SP c n h g rc T Mt [eJ 1 1 o]) (csX := wA a z ln F P D DQ S SP c n h g rc T Mt [eJ 1 1 o]) rfl rfl (gOF (t := [eJ 1 1 o]) (O' := [wO (a 1) (a 11) (a 21) (a 31) (a 113) (a 116) (a 130) (z)]) (F' := wFl (fun k => a (1 + k)) (F) (P)) rfl rfl rfl rfl rfl rfl rfl rfl rfl rfl) (gOF (t := [eJ 1 1 o]) (O' := [wO (a 1) (a 11) (a 21) (a 31) (a 113) (a 116) (a 130) (z)]) (F' := wFl (fun k => a (1 + k)) (F) (P)) rfl rfl rfl rfl rfl rfl rfl rfl rfl rfl) (fun ge => ?_) (fun e he => ?_)
  · refine EV.eq (st' := [vi (w32 (sLead F s)), vi 0, .ref (a 131)]) (by show [vi (sLead F s), vi 0, .ref (a 131)] = _; rw [← w32_v]) ?_
    refine e_i2l dL_leaderAfterByCounting_7 rfl w32_in ?_
    refine e_lastore (i := 131) (N := 1) (x := o) dL_leaderAfterByCounting_8 rfl rfl wA_get (by decide) (by decide) ?_
    refine EV.ceq (cs' := wA a z ln F P D DQ S SP c n h g rc T Mt [eJ 1 1 (eU o 0 (w32 (sLead F s)))]) wA_set ?_
    refine e_goto (n := 18) dL_leaderAfterByCounting_9 rfl ?_
    refine e_iconst dL_leaderAfterByCounting_18 rfl ?_
    exact e_iret dL_leaderAfterByCounting_19 rfl rfl ⟨by rw [exK_n ge], rfl, fun _ => rfl, fun q => absurd ge q⟩
  · rcases hE e he with hc | hc <;> subst hc
    · refine e_catch (name := xAr) [] _ _ rfl (fun z hz => absurd hz List.not_mem_nil) rfl (by decide) wd_2_198 (List.mem_of_getElem? (i := 1) rfl) (fun q => ?_)
      refine f_astore_n dL_leaderAfterByCounting_12 rfl (Nat.le_of_ble_eq_true rfl) rfl ?_
      refine e_iconst dL_leaderAfterByCounting_13 rfl ?_
      exact e_iret dL_leaderAfterByCounting_14 rfl rfl ⟨by rw [exK_1 he], rfl, fun q => absurd (he.symm.trans q) (by simp), fun _ => rfl⟩
    · refine e_catch (name := xNo) [_] _ _ rfl (fun z hz => Or.inr (by rw [List.mem_singleton.mp hz]; exact ⟨by decide, xAr, wd_2_198, List.mem_of_getElem? (i := 79) rfl⟩)) rfl (by decide) wd_3_234 (List.mem_of_getElem? (i := 3) rfl) (fun q => ?_)
      refine f_astore_n dL_leaderAfterByCounting_15 rfl (Nat.le_of_ble_eq_true rfl) rfl ?_
      refine e_iconst dL_leaderAfterByCounting_16 rfl ?_
      exact e_iret dL_leaderAfterByCounting_17 rfl rfl ⟨by rw [exK_2 he (by decide)], rfl, fun q => absurd (he.symm.trans q) (by simp), fun _ => rfl⟩
theorem C_L_targetX {X : eXT} {a : Nat → Nat} {z : Nat → Int} {ln : Int → Int} {F : eFs} {P : Int → Int} {D : eFs} {DQ : Int → Int} {S : eFs} {SP : Int → Int} {c n : Int} {h : eHs} {g rc : Int → Int} {T : eFs} {Mt : Int → Int → Int} {o : Int → Int} {N : Int} (hF : okF N F) :
    EM X mL_targetX (eRt 10 2) a [.ref (a 0), .ref (a 131)] (wA a z ln F P D DQ S SP c n h g rc T Mt [eJ 1 1 o]) (eRets (some (vi (exK ((if ¬ F.1 4 = -1 then none else some xNo)) xNo "" ""))) a (fun cs1 => ((if ¬ F.1 4 = -1 then none else some xNo) = none → cs1 = wA a z ln F P D DQ S SP c n h g rc T Mt [eJ 1 1 (eU o 0 (w32 (F.1 4)))]) ∧ (¬ (if ¬ F.1 4 = -1 then none else some xNo) = none → cs1 = wA a z ln F P D DQ S SP c n h g rc T Mt [eJ 1 1 o]))) := by
  have hE : ∀ e, (if ¬ F.1 4 = -1 then none else some xNo) = some e → e = xNo := by
    intro e he
    (repeat' split at he) <;> first | (cases he; done) | (injection he with he; subst he; first | exact rfl | exact Or.inl rfl | exact Or.inr rfl | exact Or.inr (Or.inl rfl) | exact Or.inr (Or.inr rfl))
  refine EM.of (by decide +kernel) rfl (Nat.le_of_ble_eq_true rfl) ?_
  refine e_aload_n dL_targetX_0 rfl rfl ?_
  refine e_iconst dL_targetX_1 rfl ?_
  refine e_aload_n dL_targetX_2 rfl rfl ?_
  refine e_cVo (b' := (1, 6)) [0, 1, 2, 3, 4, 5, 6, 7, 8, 9, 10] lk_L_81 rfl dL_targetX_3 rfl (C_X6_targetX (z := z) (F := F) (P := P) hF ) rfl rfl (Nat.le_of_ble_eq_true rfl) (Nat.le_of_ble_eq_true rfl) (Nat.le_of_ble_eq_true rfl) ⟨(Nat.le_of_ble_eq_true rfl), (Nat.le_of_ble_eq_true rfl)⟩ rfl rfl rfl rfl rfl rfl (cs' := wA a z ln F P D DQ S SP c n h g rc T Mt [eJ 1 1 o]) (csX := wA a z ln F P D DQ S SP c n h g rc T Mt [eJ 1 1 o]) rfl rfl (gOF (t := [eJ 1 1 o]) (O' := [wO (a 1) (a 11) (a 21) (a 31) (a 113) (a 116) (a 130) (z)]) (F' := wFl (fun k => a (1 + k)) (F) (P)) rfl rfl rfl rfl rfl rfl rfl rfl rfl rfl) (gOF (t := [eJ 1 1 o]) (O' := [wO (a 1) (a 11) (a 21) (a 31) (a 113) (a 116) (a 130) (z)]) (F' := wFl (fun k => a (1 + k)) (F) (P)) rfl rfl rfl rfl rfl rfl rfl rfl rfl rfl) (fun ge => ?_) (fun e he => ?_)
  · refine EV.eq (st' := [vi (w32 (F.1 4)), vi 0, .ref (a 131)]) (by show [vi (F.1 4), vi 0, .ref (a 131)] = _; rw [← w32_v]) ?_
    refine e_i2l dL_targetX_6 rfl w32_in ?_
    refine e_lastore (i := 131) (N := 1) (x := o) dL_targetX_7 rfl rfl wA_get (by decide) (by decide) ?_
    refine EV.ceq (cs' := wA a z ln F P D DQ S SP c n h g rc T Mt [eJ 1 1 (eU o 0 (w32 (F.1 4)))]) wA_set ?_
    refine e_goto (n := 14) dL_targetX_8 rfl ?_
    refine e_iconst dL_targetX_14 rfl ?_
    exact e_iret dL_targetX_15 rfl rfl ⟨by rw [exK_n ge], rfl, fun _ => rfl, fun q => absurd ge q⟩
  · have hc := hE e he
    subst hc
    refine e_catch (name := xNo) [] _ _ rfl (fun z hz => absurd hz List.not_mem_nil) rfl (by decide) wd_3_234 (List.mem_of_getElem? (i := 3) rfl) (fun q => ?_)
    refine f_astore_n dL_targetX_11 rfl (Nat.le_of_ble_eq_true rfl) rfl ?_
    refine e_iconst dL_targetX_12 rfl ?_
    exact e_iret dL_targetX_13 rfl rfl ⟨by rw [exK_1 he], rfl, fun q => absurd (he.symm.trans q) (by simp), fun _ => rfl⟩
theorem C_L_targetY {X : eXT} {a : Nat → Nat} {z : Nat → Int} {ln : Int → Int} {F : eFs} {P : Int → Int} {D : eFs} {DQ : Int → Int} {S : eFs} {SP : Int → Int} {c n : Int} {h : eHs} {g rc : Int → Int} {T : eFs} {Mt : Int → Int → Int} {o : Int → Int} {N : Int} (hF : okF N F) :
    EM X mL_targetY (eRt 10 2) a [.ref (a 0), .ref (a 131)] (wA a z ln F P D DQ S SP c n h g rc T Mt [eJ 1 1 o]) (eRets (some (vi (exK ((if ¬ F.1 4 = -1 then none else some xNo)) xNo "" ""))) a (fun cs1 => ((if ¬ F.1 4 = -1 then none else some xNo) = none → cs1 = wA a z ln F P D DQ S SP c n h g rc T Mt [eJ 1 1 (eU o 0 (w32 (F.1 5)))]) ∧ (¬ (if ¬ F.1 4 = -1 then none else some xNo) = none → cs1 = wA a z ln F P D DQ S SP c n h g rc T Mt [eJ 1 1 o]))) := by
  have hE : ∀ e, (if ¬ F.1 4 = -1 then none else some xNo) = some e → e = xNo := by
    intro e he
    (repeat' split at he) <;> first | (cases he; done) | (injection he with he; subst he; first | exact rfl | exact Or.inl rfl | exact Or.inr rfl | exact Or.inr (Or.inl rfl) | exact Or.inr (Or.inr rfl))
  refine EM.of (by decide +kernel) rfl (Nat.le_of_ble_eq_true rfl) ?_
  refine e_aload_n dL_targetY_0 rfl rfl ?_
  refine e_iconst dL_targetY_1 rfl ?_
  refine e_aload_n dL_targetY_2 rfl rfl ?_
  refine e_cVo (b' := (1, 6)) [0, 1, 2, 3, 4, 5, 6, 7, 8, 9, 10] lk_L_84 rfl dL_targetY_3 rfl (C_X6_targetY (z := z) (F := F) (P := P) hF ) rfl rfl (Nat.le_of_ble_eq_true rfl) (Nat.le_of_ble_eq_true rfl) (Nat.le_of_ble_eq_true rfl) ⟨(Nat.le_of_ble_eq_true rfl), (Nat.le_of_ble_eq_true rfl)⟩ rfl rfl rfl rfl rfl rfl (cs' := wA a z ln F P D DQ S SP c n h g rc T Mt [eJ 1 1 o]) (csX := wA a z ln F P D DQ S SP c n h g rc T Mt [eJ 1 1 o]) rfl rfl (gOF (t := [eJ 1 1 o]) (O' := [wO (a 1) (a 11) (a 21) (a 31) (a 113) (a 116) (a 130) (z)]) (F' := wFl (fun k => a (1 + k)) (F) (P)) rfl rfl rfl rfl rfl rfl rfl rfl rfl rfl) (gOF (t := [eJ 1 1 o]) (O' := [wO (a 1) (a 11) (a 21) (a 31) (a 113) (a 116) (a 130) (z)]) (F' := wFl (fun k => a (1 + k)) (F) (P)) rfl rfl rfl rfl rfl rfl rfl rfl rfl rfl) (fun ge => ?_) (fun e he => ?_)
  · refine EV.eq (st' := [vi (w32 (F.1 5)), vi 0, .ref (a 131)]) (by show [vi (F.1 5), vi 0, .ref (a 131)] = _; rw [← w32_v]) ?_
    refine e_i2l dL_targetY_6 rfl w32_in ?_
    refine e_lastore (i := 131) (N := 1) (x := o) dL_targetY_7 rfl rfl wA_get (by decide) (by decide) ?_
    refine EV.ceq (cs' := wA a z ln F P D DQ S SP c n h g rc T Mt [eJ 1 1 (eU o 0 (w32 (F.1 5)))]) wA_set ?_
    refine e_goto (n := 14) dL_targetY_8 rfl ?_
    refine e_iconst dL_targetY_14 rfl ?_
    exact e_iret dL_targetY_15 rfl rfl ⟨by rw [exK_n ge], rfl, fun _ => rfl, fun q => absurd ge q⟩
  · have hc := hE e he
    subst hc
    refine e_catch (name := xNo) [] _ _ rfl (fun z hz => absurd hz List.not_mem_nil) rfl (by decide) wd_3_234 (List.mem_of_getElem? (i := 3) rfl) (fun q => ?_)
    refine f_astore_n dL_targetY_11 rfl (Nat.le_of_ble_eq_true rfl) rfl ?_
    refine e_iconst dL_targetY_12 rfl ?_
    exact e_iret dL_targetY_13 rfl rfl ⟨by rw [exK_1 he], rfl, fun q => absurd (he.symm.trans q) (by simp), fun _ => rfl⟩
theorem C_L_stepsSinceShape {X : eXT} {a : Nat → Nat} {z : Nat → Int} {ln : Int → Int} {F : eFs} {P : Int → Int} {D : eFs} {DQ : Int → Int} {S : eFs} {SP : Int → Int} {c n : Int} {h : eHs} {g rc : Int → Int} {T : eFs} {Mt : Int → Int → Int} {o : Int → Int} {N : Int} (hF : okF N F) :
    EM X mL_stepsSinceShape (eRt 10 2) a [.ref (a 0), .ref (a 131)] (wA a z ln F P D DQ S SP c n h g rc T Mt [eJ 1 1 o]) (eRets (some (vi (exK ((if ¬ sSince F = -1 then none else some xNo)) xNo "" ""))) a (fun cs1 => ((if ¬ sSince F = -1 then none else some xNo) = none → cs1 = wA a z ln F (sShp F) D DQ S SP c n h g rc T Mt [eJ 1 1 (eU o 0 (w32 (sSince F)))]) ∧ (¬ (if ¬ sSince F = -1 then none else some xNo) = none → cs1 = wA a z ln F (sShp F) D DQ S SP c n h g rc T Mt [eJ 1 1 o]))) := by
  have hE : ∀ e, (if ¬ sSince F = -1 then none else some xNo) = some e → e = xNo := by
    intro e he
    (repeat' split at he) <;> first | (cases he; done) | (injection he with he; subst he; first | exact rfl | exact Or.inl rfl | exact Or.inr rfl | exact Or.inr (Or.inl rfl) | exact Or.inr (Or.inr rfl))
  refine EM.of (by decide +kernel) rfl (Nat.le_of_ble_eq_true rfl) ?_
  refine e_aload_n dL_stepsSinceShape_0 rfl rfl ?_
  refine e_iconst dL_stepsSinceShape_1 rfl ?_
  refine e_aload_n dL_stepsSinceShape_2 rfl rfl ?_
  refine e_cVo (b' := (1, 6)) [0, 1, 2, 3, 4, 5, 6, 7, 8, 9, 10] lk_L_102 rfl dL_stepsSinceShape_3 rfl (C_X6_stepsSinceShape (z := z) (F := F) (P := P) hF ) rfl rfl (Nat.le_of_ble_eq_true rfl) (Nat.le_of_ble_eq_true rfl) (Nat.le_of_ble_eq_true rfl) ⟨(Nat.le_of_ble_eq_true rfl), (Nat.le_of_ble_eq_true rfl)⟩ rfl rfl rfl rfl rfl rfl (cs' := wA a z ln F (sShp F) D DQ S SP c n h g rc T Mt [eJ 1 1 o]) (csX := wA a z ln F (sShp F) D DQ S SP c n h g rc T Mt [eJ 1 1 o]) rfl rfl (gOF (t := [eJ 1 1 o]) (O' := [wO (a 1) (a 11) (a 21) (a 31) (a 113) (a 116) (a 130) (z)]) (F' := wFl (fun k => a (1 + k)) (F) (sShp F)) rfl rfl rfl rfl rfl rfl rfl rfl rfl rfl) (gOF (t := [eJ 1 1 o]) (O' := [wO (a 1) (a 11) (a 21) (a 31) (a 113) (a 116) (a 130) (z)]) (F' := wFl (fun k => a (1 + k)) (F) (sShp F)) rfl rfl rfl rfl rfl rfl rfl rfl rfl rfl) (fun ge => ?_) (fun e he => ?_)
  · refine EV.eq (st' := [vi (w32 (sSince F)), vi 0, .ref (a 131)]) (by show [vi (sSince F), vi 0, .ref (a 131)] = _; rw [← w32_v]) ?_
    refine e_i2l dL_stepsSinceShape_6 rfl w32_in ?_
    refine e_lastore (i := 131) (N := 1) (x := o) dL_stepsSinceShape_7 rfl rfl wA_get (by decide) (by decide) ?_
    refine EV.ceq (cs' := wA a z ln F (sShp F) D DQ S SP c n h g rc T Mt [eJ 1 1 (eU o 0 (w32 (sSince F)))]) wA_set ?_
    refine e_goto (n := 14) dL_stepsSinceShape_8 rfl ?_
    refine e_iconst dL_stepsSinceShape_14 rfl ?_
    exact e_iret dL_stepsSinceShape_15 rfl rfl ⟨by rw [exK_n ge], rfl, fun _ => rfl, fun q => absurd ge q⟩
  · have hc := hE e he
    subst hc
    refine e_catch (name := xNo) [] _ _ rfl (fun z hz => absurd hz List.not_mem_nil) rfl (by decide) wd_3_234 (List.mem_of_getElem? (i := 3) rfl) (fun q => ?_)
    refine f_astore_n dL_stepsSinceShape_11 rfl (Nat.le_of_ble_eq_true rfl) rfl ?_
    refine e_iconst dL_stepsSinceShape_12 rfl ?_
    exact e_iret dL_stepsSinceShape_13 rfl rfl ⟨by rw [exK_1 he], rfl, fun q => absurd (he.symm.trans q) (by simp), fun _ => rfl⟩
theorem C_L_basketAtRank {X : eXT} {a : Nat → Nat} {z : Nat → Int} {ln : Int → Int} {F : eFs} {P : Int → Int} {D : eFs} {DQ : Int → Int} {S : eFs} {SP : Int → Int} {c n : Int} {h : eHs} {g rc : Int → Int} {T : eFs} {Mt : Int → Int → Int} {o : Int → Int} {N : Int} (hF : okF N F) {r : Int} (gr : -2147483648 ≤ r ∧ r ≤ 2147483647) :
    EM X mL_basketAtRank (eRt 10 2) a [.ref (a 0), vi r, .ref (a 131)] (wA a z ln F P D DQ S SP c n h g rc T Mt [eJ 1 1 o]) (eRets (some (vi (exK ((if ¬ sWithRk F r = -1 then none else some xNo)) xNo "" ""))) a (fun cs1 => ((if ¬ sWithRk F r = -1 then none else some xNo) = none → cs1 = wA a z ln F P D DQ S SP c n h g rc T Mt [eJ 1 1 (eU o 0 (w32 (sWithRk F r)))]) ∧ (¬ (if ¬ sWithRk F r = -1 then none else some xNo) = none → cs1 = wA a z ln F P D DQ S SP c n h g rc T Mt [eJ 1 1 o]))) := by
  have hE : ∀ e, (if ¬ sWithRk F r = -1 then none else some xNo) = some e → e = xNo := by
    intro e he
    (repeat' split at he) <;> first | (cases he; done) | (injection he with he; subst he; first | exact rfl | exact Or.inl rfl | exact Or.inr rfl | exact Or.inr (Or.inl rfl) | exact Or.inr (Or.inr rfl))
  refine EM.of (by decide +kernel) rfl (Nat.le_of_ble_eq_true rfl) ?_
  refine e_aload_n dL_basketAtRank_0 rfl rfl ?_
  refine e_iconst dL_basketAtRank_1 rfl ?_
  refine e_aload_n dL_basketAtRank_2 rfl rfl ?_
  refine e_iload_n dL_basketAtRank_3 rfl rfl ?_
  refine e_cVo (b' := (1, 6)) [0, 1, 2, 3, 4, 5, 6, 7, 8, 9, 10] lk_L_105 rfl dL_basketAtRank_4 rfl (C_X6_basketAtRank (z := z) (F := F) (P := P) hF (by omega)) rfl rfl (Nat.le_of_ble_eq_true rfl) (Nat.le_of_ble_eq_true rfl) (Nat.le_of_ble_eq_true rfl) ⟨(Nat.le_of_ble_eq_true rfl), (Nat.le_of_ble_eq_true rfl)⟩ rfl rfl rfl rfl rfl rfl (cs' := wA a z ln F P D DQ S SP c n h g rc T Mt [eJ 1 1 o]) (csX := wA a z ln F P D DQ S SP c n h g rc T Mt [eJ 1 1 o]) rfl rfl (gOF (t := [eJ 1 1 o]) (O' := [wO (a 1) (a 11) (a 21) (a 31) (a 113) (a 116) (a 130) (z)]) (F' := wFl (fun k => a (1 + k)) (F) (P)) rfl rfl rfl rfl rfl rfl rfl rfl rfl rfl) (gOF (t := [eJ 1 1 o]) (O' := [wO (a 1) (a 11) (a 21) (a 31) (a 113) (a 116) (a 130) (z)]) (F' := wFl (fun k => a (1 + k)) (F) (P)) rfl rfl rfl rfl rfl rfl rfl rfl rfl rfl) (fun ge => ?_) (fun e he => ?_)
  · refine EV.eq (st' := [vi (w32 (sWithRk F r)), vi 0, .ref (a 131)]) (by show [vi (sWithRk F r), vi 0, .ref (a 131)] = _; rw [← w32_v]) ?_
    refine e_i2l dL_basketAtRank_7 rfl w32_in ?_
    refine e_lastore (i := 131) (N := 1) (x := o) dL_basketAtRank_8 rfl rfl wA_get (by decide) (by decide) ?_
    refine EV.ceq (cs' := wA a z ln F P D DQ S SP c n h g rc T Mt [eJ 1 1 (eU o 0 (w32 (sWithRk F r)))]) wA_set ?_
    refine e_goto (n := 15) dL_basketAtRank_9 rfl ?_
    refine e_iconst dL_basketAtRank_15 rfl ?_
    exact e_iret dL_basketAtRank_16 rfl rfl ⟨by rw [exK_n ge], rfl, fun _ => rfl, fun q => absurd ge q⟩
  · have hc := hE e he
    subst hc
    refine e_catch (name := xNo) [] _ _ rfl (fun z hz => absurd hz List.not_mem_nil) rfl (by decide) wd_3_234 (List.mem_of_getElem? (i := 3) rfl) (fun q => ?_)
    refine f_astore_n dL_basketAtRank_12 rfl (Nat.le_of_ble_eq_true rfl) rfl ?_
    refine e_iconst dL_basketAtRank_13 rfl ?_
    exact e_iret dL_basketAtRank_14 rfl rfl ⟨by rw [exK_1 he], rfl, fun q => absurd (he.symm.trans q) (by simp), fun _ => rfl⟩
theorem C_L_errorPosition {X : eXT} {a : Nat → Nat} {z : Nat → Int} {ln : Int → Int} {F : eFs} {P : Int → Int} {D : eFs} {DQ : Int → Int} {S : eFs} {SP : Int → Int} {c n : Int} {h : eHs} {g rc : Int → Int} {T : eFs} {Mt : Int → Int → Int} {o : Int → Int} {N : Int} (hF : okF N F) (hz : okZ z) :
    EM X mL_errorPosition (eRt 10 2) a [.ref (a 0), .ref (a 131)] (wA a z ln F P D DQ S SP c n h g rc T Mt [eJ 1 1 o]) (eRets (some (vi (exK ((if ¬ z 0 = -1 then none else some xNo)) xNo "" ""))) a (fun cs1 => ((if ¬ z 0 = -1 then none else some xNo) = none → cs1 = wA a z ln F P D DQ S SP c n h g rc T Mt [eJ 1 1 (eU o 0 (w32 (z 0)))]) ∧ (¬ (if ¬ z 0 = -1 then none else some xNo) = none → cs1 = wA a z ln F P D DQ S SP c n h g rc T Mt [eJ 1 1 o]))) := by
  have hE : ∀ e, (if ¬ z 0 = -1 then none else some xNo) = some e → e = xNo := by
    intro e he
    (repeat' split at he) <;> first | (cases he; done) | (injection he with he; subst he; first | exact rfl | exact Or.inl rfl | exact Or.inr rfl | exact Or.inr (Or.inl rfl) | exact Or.inr (Or.inr rfl))
  refine EM.of (by decide +kernel) rfl (Nat.le_of_ble_eq_true rfl) ?_
  refine e_aload_n dL_errorPosition_0 rfl rfl ?_
  refine e_iconst dL_errorPosition_1 rfl ?_
  refine e_aload_n dL_errorPosition_2 rfl rfl ?_
  refine e_cVo (b' := (1, 6)) [0, 1, 2, 3, 4, 5, 6, 7, 8, 9, 10] lk_L_115 rfl dL_errorPosition_3 rfl (C_X6_errorPosition (z := z) (F := F) (P := P) hF hz ) rfl rfl (Nat.le_of_ble_eq_true rfl) (Nat.le_of_ble_eq_true rfl) (Nat.le_of_ble_eq_true rfl) ⟨(Nat.le_of_ble_eq_true rfl), (Nat.le_of_ble_eq_true rfl)⟩ rfl rfl rfl rfl rfl rfl (cs' := wA a z ln F P D DQ S SP c n h g rc T Mt [eJ 1 1 o]) (csX := wA a z ln F P D DQ S SP c n h g rc T Mt [eJ 1 1 o]) rfl rfl (gOF (t := [eJ 1 1 o]) (O' := [wO (a 1) (a 11) (a 21) (a 31) (a 113) (a 116) (a 130) (z)]) (F' := wFl (fun k => a (1 + k)) (F) (P)) rfl rfl rfl rfl rfl rfl rfl rfl rfl rfl) (gOF (t := [eJ 1 1 o]) (O' := [wO (a 1) (a 11) (a 21) (a 31) (a 113) (a 116) (a 130) (z)]) (F' := wFl (fun k => a (1 + k)) (F) (P)) rfl rfl rfl rfl rfl rfl rfl rfl rfl rfl) (fun ge => ?_) (fun e he => ?_)
  · refine EV.eq (st' := [vi (w32 (z 0)), vi 0, .ref (a 131)]) (by show [vi (z 0), vi 0, .ref (a 131)] = _; rw [← w32_v]) ?_
    refine e_i2l dL_errorPosition_6 rfl w32_in ?_
    refine e_lastore (i := 131) (N := 1) (x := o) dL_errorPosition_7 rfl rfl wA_get (by decide) (by decide) ?_
    refine EV.ceq (cs' := wA a z ln F P D DQ S SP c n h g rc T Mt [eJ 1 1 (eU o 0 (w32 (z 0)))]) wA_set ?_
    refine e_goto (n := 14) dL_errorPosition_8 rfl ?_
    refine e_iconst dL_errorPosition_14 rfl ?_
    exact e_iret dL_errorPosition_15 rfl rfl ⟨by rw [exK_n ge], rfl, fun _ => rfl, fun q => absurd ge q⟩
  · have hc := hE e he
    subst hc
    refine e_catch (name := xNo) [] _ _ rfl (fun z hz => absurd hz List.not_mem_nil) rfl (by decide) wd_3_234 (List.mem_of_getElem? (i := 3) rfl) (fun q => ?_)
    refine f_astore_n dL_errorPosition_11 rfl (Nat.le_of_ble_eq_true rfl) rfl ?_
    refine e_iconst dL_errorPosition_12 rfl ?_
    exact e_iret dL_errorPosition_13 rfl rfl ⟨by rw [exK_1 he], rfl, fun q => absurd (he.symm.trans q) (by simp), fun _ => rfl⟩
theorem C_L_failedCommand {X : eXT} {a : Nat → Nat} {z : Nat → Int} {ln : Int → Int} {F : eFs} {P : Int → Int} {D : eFs} {DQ : Int → Int} {S : eFs} {SP : Int → Int} {c n : Int} {h : eHs} {g rc : Int → Int} {T : eFs} {Mt : Int → Int → Int} {o : Int → Int} {N : Int} (hF : okF N F) (hz : okZ z) :
    EM X mL_failedCommand (eRt 10 2) a [.ref (a 0), .ref (a 131)] (wA a z ln F P D DQ S SP c n h g rc T Mt [eJ 1 1 o]) (eRets (some (vi (exK ((if ¬ z 1 = -1 then none else some xNo)) xNo "" ""))) a (fun cs1 => ((if ¬ z 1 = -1 then none else some xNo) = none → cs1 = wA a z ln F P D DQ S SP c n h g rc T Mt [eJ 1 1 (eU o 0 (w32 (z 1)))]) ∧ (¬ (if ¬ z 1 = -1 then none else some xNo) = none → cs1 = wA a z ln F P D DQ S SP c n h g rc T Mt [eJ 1 1 o]))) := by
  have hE : ∀ e, (if ¬ z 1 = -1 then none else some xNo) = some e → e = xNo := by
    intro e he
    (repeat' split at he) <;> first | (cases he; done) | (injection he with he; subst he; first | exact rfl | exact Or.inl rfl | exact Or.inr rfl | exact Or.inr (Or.inl rfl) | exact Or.inr (Or.inr rfl))
  refine EM.of (by decide +kernel) rfl (Nat.le_of_ble_eq_true rfl) ?_
  refine e_aload_n dL_failedCommand_0 rfl rfl ?_
  refine e_iconst dL_failedCommand_1 rfl ?_
  refine e_aload_n dL_failedCommand_2 rfl rfl ?_
  refine e_cVo (b' := (1, 6)) [0, 1, 2, 3, 4, 5, 6, 7, 8, 9, 10] lk_L_118 rfl dL_failedCommand_3 rfl (C_X6_failedCommand (z := z) (F := F) (P := P) hF hz ) rfl rfl (Nat.le_of_ble_eq_true rfl) (Nat.le_of_ble_eq_true rfl) (Nat.le_of_ble_eq_true rfl) ⟨(Nat.le_of_ble_eq_true rfl), (Nat.le_of_ble_eq_true rfl)⟩ rfl rfl rfl rfl rfl rfl (cs' := wA a z ln F P D DQ S SP c n h g rc T Mt [eJ 1 1 o]) (csX := wA a z ln F P D DQ S SP c n h g rc T Mt [eJ 1 1 o]) rfl rfl (gOF (t := [eJ 1 1 o]) (O' := [wO (a 1) (a 11) (a 21) (a 31) (a 113) (a 116) (a 130) (z)]) (F' := wFl (fun k => a (1 + k)) (F) (P)) rfl rfl rfl rfl rfl rfl rfl rfl rfl rfl) (gOF (t := [eJ 1 1 o]) (O' := [wO (a 1) (a 11) (a 21) (a 31) (a 113) (a 116) (a 130) (z)]) (F' := wFl (fun k => a (1 + k)) (F) (P)) rfl rfl rfl rfl rfl rfl rfl rfl rfl rfl) (fun ge => ?_) (fun e he => ?_)
  · refine EV.eq (st' := [vi (w32 (z 1)), vi 0, .ref (a 131)]) (by show [vi (z 1), vi 0, .ref (a 131)] = _; rw [← w32_v]) ?_
    refine e_i2l dL_failedCommand_6 rfl w32_in ?_
    refine e_lastore (i := 131) (N := 1) (x := o) dL_failedCommand_7 rfl rfl wA_get (by decide) (by decide) ?_
    refine EV.ceq (cs' := wA a z ln F P D DQ S SP c n h g rc T Mt [eJ 1 1 (eU o 0 (w32 (z 1)))]) wA_set ?_
    refine e_goto (n := 14) dL_failedCommand_8 rfl ?_
    refine e_iconst dL_failedCommand_14 rfl ?_
    exact e_iret dL_failedCommand_15 rfl rfl ⟨by rw [exK_n ge], rfl, fun _ => rfl, fun q => absurd ge q⟩
  · have hc := hE e he
    subst hc
    refine e_catch (name := xNo) [] _ _ rfl (fun z hz => absurd hz List.not_mem_nil) rfl (by decide) wd_3_234 (List.mem_of_getElem? (i := 3) rfl) (fun q => ?_)
    refine f_astore_n dL_failedCommand_11 rfl (Nat.le_of_ble_eq_true rfl) rfl ?_
    refine e_iconst dL_failedCommand_12 rfl ?_
    exact e_iret dL_failedCommand_13 rfl rfl ⟨by rw [exK_1 he], rfl, fun q => absurd (he.symm.trans q) (by simp), fun _ => rfl⟩
theorem C_L_meanDistance {X : eXT} {a : Nat → Nat} {z : Nat → Int} {ln : Int → Int} {F : eFs} {P : Int → Int} {D : eFs} {DQ : Int → Int} {S : eFs} {SP : Int → Int} {c n : Int} {h : eHs} {g rc : Int → Int} {T : eFs} {Mt : Int → Int → Int} {o : Nat → UInt64} {N : Int} (hF : okF N F) :
    EM X mL_meanDistance (eRt 10 2) a [.ref (a 0), .ref (a 131)] (wA a z ln F P D DQ S SP c n h g rc T Mt [eDd 1 o]) (eRets (some (vi (exK ((if 2 ≤ F.1 0 then none else some xMa)) xMa "" ""))) a (fun cs1 => ((if 2 ≤ F.1 0 then none else some xMa) = none → cs1 = wA a z ln F P D DQ S SP c n h g rc T Mt [eDd 1 (vf_upd o 0 (FP.ddiv (FP.i2d (Int32.ofInt (sSumD F))) (FP.i2d (Int32.ofInt (F.1 0 - 1)))))]) ∧ (¬ (if 2 ≤ F.1 0 then none else some xMa) = none → cs1 = wA a z ln F P D DQ S SP c n h g rc T Mt [eDd 1 o]))) := by
  have hE : ∀ e, (if 2 ≤ F.1 0 then none else some xMa) = some e → e = xMa := by
    intro e he
    (repeat' split at he) <;> first | (cases he; done) | (injection he with he; subst he; first | exact rfl | exact Or.inl rfl | exact Or.inr rfl | exact Or.inr (Or.inl rfl) | exact Or.inr (Or.inr rfl))
  refine EM.of (by decide +kernel) rfl (Nat.le_of_ble_eq_true rfl) ?_
  refine e_aload_n dL_meanDistance_0 rfl rfl ?_
  refine e_iconst dL_meanDistance_1 rfl ?_
  refine e_aload_n dL_meanDistance_2 rfl rfl ?_
  refine e_cVo (b' := (1, 6)) [0, 1, 2, 3, 4, 5, 6, 7, 8, 9, 10] lk_L_128 rfl dL_meanDistance_3 rfl (C_X6_meanDistance (z := z) (F := F) (P := P) hF ) rfl rfl (Nat.le_of_ble_eq_true rfl) (Nat.le_of_ble_eq_true rfl) (Nat.le_of_ble_eq_true rfl) ⟨(Nat.le_of_ble_eq_true rfl), (Nat.le_of_ble_eq_true rfl)⟩ rfl rfl rfl rfl rfl rfl (cs' := wA a z ln F P D DQ S SP c n h g rc T Mt [eDd 1 o]) (csX := wA a z ln F P D DQ S SP c n h g rc T Mt [eDd 1 o]) rfl rfl (gOF (t := [eDd 1 o]) (O' := [wO (a 1) (a 11) (a 21) (a 31) (a 113) (a 116) (a 130) (z)]) (F' := wFl (fun k => a (1 + k)) (F) (P)) rfl rfl rfl rfl rfl rfl rfl rfl rfl rfl) (gOF (t := [eDd 1 o]) (O' := [wO (a 1) (a 11) (a 21) (a 31) (a 113) (a 116) (a 130) (z)]) (F' := wFl (fun k => a (1 + k)) (F) (P)) rfl rfl rfl rfl rfl rfl rfl rfl rfl rfl) (fun ge => ?_) (fun e he => ?_)
  · refine e_dastore (i := 131) (N := 1) (f := o) dL_meanDistance_6 rfl rfl wA_get (by decide) (by decide) ?_
    refine EV.ceq (cs' := wA a z ln F P D DQ S SP c n h g rc T Mt [eDd 1 (vf_upd o 0 (FP.ddiv (FP.i2d (Int32.ofInt (sSumD F))) (FP.i2d (Int32.ofInt (F.1 0 - 1)))))]) wA_set ?_
    refine e_goto (n := 13) dL_meanDistance_7 rfl ?_
    refine e_iconst dL_meanDistance_13 rfl ?_
    exact e_iret dL_meanDistance_14 rfl rfl ⟨by rw [exK_n ge], rfl, fun _ => rfl, fun q => absurd ge q⟩
  · have hc := hE e he
    subst hc
    refine e_catch (name := xMa) [] _ _ rfl (fun z hz => absurd hz List.not_mem_nil) rfl (by decide) wd_5_211 (List.mem_of_getElem? (i := 6) rfl) (fun q => ?_)
    refine f_astore_n dL_meanDistance_10 rfl (Nat.le_of_ble_eq_true rfl) rfl ?_
    refine e_iconst dL_meanDistance_11 rfl ?_
    exact e_iret dL_meanDistance_12 rfl rfl ⟨by rw [exK_1 he], rfl, fun q => absurd (he.symm.trans q) (by simp), fun _ => rfl⟩
theorem C_L_mixedShare {X : eXT} {a : Nat → Nat} {z : Nat → Int} {ln : Int → Int} {F : eFs} {P : Int → Int} {D : eFs} {DQ : Int → Int} {S : eFs} {SP : Int → Int} {c n : Int} {h : eHs} {g rc : Int → Int} {T : eFs} {Mt : Int → Int → Int} {o : Nat → UInt64} {N : Int} (hF : okF N F) (hn64 : 1 ≤ sPrs F → vf_n64 (FP.f2d (FP.fdiv (FP.i2f (Int32.ofInt (sMix F))) (FP.i2f (Int32.ofInt (sPrs F)))))) :
    EM X mL_mixedShare (eRt 10 2) a [.ref (a 0), .ref (a 131)] (wA a z ln F P D DQ S SP c n h g rc T Mt [eDd 1 o]) (eRets (some (vi (exK ((if 1 ≤ sPrs F then none else some xMa)) xMa "" ""))) a (fun cs1 => ((if 1 ≤ sPrs F then none else some xMa) = none → cs1 = wA a z ln F P D DQ S SP c n h g rc T Mt [eDd 1 (vf_upd o 0 (FP.f2d (FP.fdiv (FP.i2f (Int32.ofInt (sMix F))) (FP.i2f (Int32.ofInt (sPrs F))))))]) ∧ (¬ (if 1 ≤ sPrs F then none else some xMa) = none → cs1 = wA a z ln F P D DQ S SP c n h g rc T Mt [eDd 1 o]))) := by
  have hE : ∀ e, (if 1 ≤ sPrs F then none else some xMa) = some e → e = xMa := by
    intro e he
    (repeat' split at he) <;> first | (cases he; done) | (injection he with he; subst he; first | exact rfl | exact Or.inl rfl | exact Or.inr rfl | exact Or.inr (Or.inl rfl) | exact Or.inr (Or.inr rfl))
  refine EM.of (by decide +kernel) rfl (Nat.le_of_ble_eq_true rfl) ?_
  refine e_aload_n dL_mixedShare_0 rfl rfl ?_
  refine e_iconst dL_mixedShare_1 rfl ?_
  refine e_aload_n dL_mixedShare_2 rfl rfl ?_
  refine e_cVo (b' := (1, 6)) [0, 1, 2, 3, 4, 5, 6, 7, 8, 9, 10] lk_L_134 rfl dL_mixedShare_3 rfl (C_X6_mixedShare (z := z) (F := F) (P := P) hF ) rfl rfl (Nat.le_of_ble_eq_true rfl) (Nat.le_of_ble_eq_true rfl) (Nat.le_of_ble_eq_true rfl) ⟨(Nat.le_of_ble_eq_true rfl), (Nat.le_of_ble_eq_true rfl)⟩ rfl rfl rfl rfl rfl rfl (cs' := wA a z ln F P D DQ S SP c n h g rc T Mt [eDd 1 o]) (csX := wA a z ln F P D DQ S SP c n h g rc T Mt [eDd 1 o]) rfl rfl (gOF (t := [eDd 1 o]) (O' := [wO (a 1) (a 11) (a 21) (a 31) (a 113) (a 116) (a 130) (z)]) (F' := wFl (fun k => a (1 + k)) (F) (P)) rfl rfl rfl rfl rfl rfl rfl rfl rfl rfl) (gOF (t := [eDd 1 o]) (O' := [wO (a 1) (a 11) (a 21) (a 31) (a 113) (a 116) (a 130) (z)]) (F' := wFl (fun k => a (1 + k)) (F) (P)) rfl rfl rfl rfl rfl rfl rfl rfl rfl rfl) (fun ge => ?_) (fun e he => ?_)
  · refine e_f2d dL_mixedShare_6 rfl (hn64 (eIf_n ge).1) ?_
    refine e_dastore (i := 131) (N := 1) (f := o) dL_mixedShare_7 rfl rfl wA_get (by decide) (by decide) ?_
    refine EV.ceq (cs' := wA a z ln F P D DQ S SP c n h g rc T Mt [eDd 1 (vf_upd o 0 (FP.f2d (FP.fdiv (FP.i2f (Int32.ofInt (sMix F))) (FP.i2f (Int32.ofInt (sPrs F))))))]) wA_set ?_
    refine e_goto (n := 14) dL_mixedShare_8 rfl ?_
    refine e_iconst dL_mixedShare_14 rfl ?_
    exact e_iret dL_mixedShare_15 rfl rfl ⟨by rw [exK_n ge], rfl, fun _ => rfl, fun q => absurd ge q⟩
  · have hc := hE e he
    subst hc
    refine e_catch (name := xMa) [] _ _ rfl (fun z hz => absurd hz List.not_mem_nil) rfl (by decide) wd_5_211 (List.mem_of_getElem? (i := 6) rfl) (fun q => ?_)
    refine f_astore_n dL_mixedShare_11 rfl (Nat.le_of_ble_eq_true rfl) rfl ?_
    refine e_iconst dL_mixedShare_12 rfl ?_
    exact e_iret dL_mixedShare_13 rfl rfl ⟨by rw [exK_1 he], rfl, fun q => absurd (he.symm.trans q) (by simp), fun _ => rfl⟩
