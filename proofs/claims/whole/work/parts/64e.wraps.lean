/-! ===== the law: wrappers ===== -/
theorem C_L_xOf {X : eXT} {a : Nat → Nat} {z : Nat → Int} {ln : Int → Int} {F : eFs} {P : Int → Int} {D : eFs} {DQ : Int → Int} {S : eFs} {SP : Int → Int} {c n : Int} {h : eHs} {g rc : Int → Int} {T : eFs} {Mt : Int → Int → Int} {o : Int → Int} {N : Int} (hF : okF N F) {b : Int} (gb : -2147483648 ≤ b ∧ b ≤ 2147483647) :
    EM X mL_xOf (eRt 10 2) a [.ref (a 0), vi b, .ref (a 131)] (wA a z ln F P D DQ S SP c n h g rc T Mt [eJ 1 1 o]) (eRets (some (vi (exK ((if sHas F b then none else some xIx)) xIx "" ""))) a (fun cs1 => ((if sHas F b then none else some xIx) = none → cs1 = wA a z ln F P D DQ S SP c n h g rc T Mt [eJ 1 1 (eU o 0 (w32 (F.2 0 b)))]) ∧ (¬ (if sHas F b then none else some xIx) = none → cs1 = wA a z ln F P D DQ S SP c n h g rc T Mt [eJ 1 1 o]))) := by
  have hE : ∀ e, (if sHas F b then none else some xIx) = some e → e = xIx := by
    intro e he
    (repeat' split at he) <;> first | (cases he; done) | (injection he with he; subst he; first | exact rfl | exact Or.inl rfl | exact Or.inr rfl | exact Or.inr (Or.inl rfl) | exact Or.inr (Or.inr rfl))
  refine EM.of (by decide +kernel) rfl (Nat.le_of_ble_eq_true rfl) ?_
  refine e_aload_n dL_xOf_0 rfl rfl ?_
  refine e_iconst dL_xOf_1 rfl ?_
  refine e_aload_n dL_xOf_2 rfl rfl ?_
  refine e_iload_n dL_xOf_3 rfl rfl ?_
  refine e_cVo (b' := (1, 6)) [0, 1, 2, 3, 4, 5, 6, 7, 8, 9, 10] lk_L_28 rfl dL_xOf_4 rfl (C_X6_xOf (z := z) (F := F) (P := P) hF (by omega)) rfl rfl (Nat.le_of_ble_eq_true rfl) (Nat.le_of_ble_eq_true rfl) (Nat.le_of_ble_eq_true rfl) ⟨(Nat.le_of_ble_eq_true rfl), (Nat.le_of_ble_eq_true rfl)⟩ rfl rfl rfl rfl rfl rfl (cs' := wA a z ln F P D DQ S SP c n h g rc T Mt [eJ 1 1 o]) (csX := wA a z ln F P D DQ S SP c n h g rc T Mt [eJ 1 1 o]) rfl rfl (gOF (t := [eJ 1 1 o]) (O' := [wO (a 1) (a 11) (a 21) (a 31) (a 113) (a 116) (a 130) (z)]) (F' := wFl (fun k => a (1 + k)) (F) (P)) rfl rfl rfl rfl rfl rfl rfl rfl rfl rfl) (gOF (t := [eJ 1 1 o]) (O' := [wO (a 1) (a 11) (a 21) (a 31) (a 113) (a 116) (a 130) (z)]) (F' := wFl (fun k => a (1 + k)) (F) (P)) rfl rfl rfl rfl rfl rfl rfl rfl rfl rfl) (fun ge => ?_) (fun e he => ?_)
  · refine EV.eq (st' := [vi (w32 (F.2 0 b)), vi 0, .ref (a 131)]) (by show [vi (F.2 0 b), vi 0, .ref (a 131)] = _; rw [← w32_v]) ?_
    refine e_i2l dL_xOf_7 rfl w32_in ?_
    refine e_lastore (i := 131) (N := 1) (x := o) dL_xOf_8 rfl rfl wA_get (by decide) (by decide) ?_
    refine EV.ceq (cs' := wA a z ln F P D DQ S SP c n h g rc T Mt [eJ 1 1 (eU o 0 (w32 (F.2 0 b)))]) wA_set ?_
    refine e_goto (n := 15) dL_xOf_9 rfl ?_
    refine e_iconst dL_xOf_15 rfl ?_
    exact e_iret dL_xOf_16 rfl rfl ⟨by rw [exK_n ge], rfl, fun _ => rfl, fun q => absurd ge q⟩
  · have hc := hE e he
    subst hc
    refine e_catch (name := xIx) [] _ _ rfl (fun z hz => absurd hz List.not_mem_nil) rfl (by decide) wd_3_165 (List.mem_of_getElem? (i := 0) rfl) (fun q => ?_)
    refine f_astore_n dL_xOf_12 rfl (Nat.le_of_ble_eq_true rfl) rfl ?_
    refine e_iconst dL_xOf_13 rfl ?_
    exact e_iret dL_xOf_14 rfl rfl ⟨by rw [exK_1 he], rfl, fun q => absurd (he.symm.trans q) (by simp), fun _ => rfl⟩
theorem C_L_yOf {X : eXT} {a : Nat → Nat} {z : Nat → Int} {ln : Int → Int} {F : eFs} {P : Int → Int} {D : eFs} {DQ : Int → Int} {S : eFs} {SP : Int → Int} {c n : Int} {h : eHs} {g rc : Int → Int} {T : eFs} {Mt : Int → Int → Int} {o : Int → Int} {N : Int} (hF : okF N F) {b : Int} (gb : -2147483648 ≤ b ∧ b ≤ 2147483647) :
    EM X mL_yOf (eRt 10 2) a [.ref (a 0), vi b, .ref (a 131)] (wA a z ln F P D DQ S SP c n h g rc T Mt [eJ 1 1 o]) (eRets (some (vi (exK ((if sHas F b then none else some xIx)) xIx "" ""))) a (fun cs1 => ((if sHas F b then none else some xIx) = none → cs1 = wA a z ln F P D DQ S SP c n h g rc T Mt [eJ 1 1 (eU o 0 (w32 (F.2 1 b)))]) ∧ (¬ (if sHas F b then none else some xIx) = none → cs1 = wA a z ln F P D DQ S SP c n h g rc T Mt [eJ 1 1 o]))) := by
  have hE : ∀ e, (if sHas F b then none else some xIx) = some e → e = xIx := by
    intro e he
    (repeat' split at he) <;> first | (cases he; done) | (injection he with he; subst he; first | exact rfl | exact Or.inl rfl | exact Or.inr rfl | exact Or.inr (Or.inl rfl) | exact Or.inr (Or.inr rfl))
  refine EM.of (by decide +kernel) rfl (Nat.le_of_ble_eq_true rfl) ?_
  refine e_aload_n dL_yOf_0 rfl rfl ?_
  refine e_iconst dL_yOf_1 rfl ?_
  refine e_aload_n dL_yOf_2 rfl rfl ?_
  refine e_iload_n dL_yOf_3 rfl rfl ?_
  refine e_cVo (b' := (1, 6)) [0, 1, 2, 3, 4, 5, 6, 7, 8, 9, 10] lk_L_32 rfl dL_yOf_4 rfl (C_X6_yOf (z := z) (F := F) (P := P) hF (by omega)) rfl rfl (Nat.le_of_ble_eq_true rfl) (Nat.le_of_ble_eq_true rfl) (Nat.le_of_ble_eq_true rfl) ⟨(Nat.le_of_ble_eq_true rfl), (Nat.le_of_ble_eq_true rfl)⟩ rfl rfl rfl rfl rfl rfl (cs' := wA a z ln F P D DQ S SP c n h g rc T Mt [eJ 1 1 o]) (csX := wA a z ln F P D DQ S SP c n h g rc T Mt [eJ 1 1 o]) rfl rfl (gOF (t := [eJ 1 1 o]) (O' := [wO (a 1) (a 11) (a 21) (a 31) (a 113) (a 116) (a 130) (z)]) (F' := wFl (fun k => a (1 + k)) (F) (P)) rfl rfl rfl rfl rfl rfl rfl rfl rfl rfl) (gOF (t := [eJ 1 1 o]) (O' := [wO (a 1) (a 11) (a 21) (a 31) (a 113) (a 116) (a 130) (z)]) (F' := wFl (fun k => a (1 + k)) (F) (P)) rfl rfl rfl rfl rfl rfl rfl rfl rfl rfl) (fun ge => ?_) (fun e he => ?_)
  · refine EV.eq (st' := [vi (w32 (F.2 1 b)), vi 0, .ref (a 131)]) (by show [vi (F.2 1 b), vi 0, .ref (a 131)] = _; rw [← w32_v]) ?_
    refine e_i2l dL_yOf_7 rfl w32_in ?_
    refine e_lastore (i := 131) (N := 1) (x := o) dL_yOf_8 rfl rfl wA_get (by decide) (by decide) ?_
    refine EV.ceq (cs' := wA a z ln F P D DQ S SP c n h g rc T Mt [eJ 1 1 (eU o 0 (w32 (F.2 1 b)))]) wA_set ?_
    refine e_goto (n := 15) dL_yOf_9 rfl ?_
    refine e_iconst dL_yOf_15 rfl ?_
    exact e_iret dL_yOf_16 rfl rfl ⟨by rw [exK_n ge], rfl, fun _ => rfl, fun q => absurd ge q⟩
  · have hc := hE e he
    subst hc
    refine e_catch (name := xIx) [] _ _ rfl (fun z hz => absurd hz List.not_mem_nil) rfl (by decide) wd_3_165 (List.mem_of_getElem? (i := 0) rfl) (fun q => ?_)
    refine f_astore_n dL_yOf_12 rfl (Nat.le_of_ble_eq_true rfl) rfl ?_
    refine e_iconst dL_yOf_13 rfl ?_
    exact e_iret dL_yOf_14 rfl rfl ⟨by rw [exK_1 he], rfl, fun q => absurd (he.symm.trans q) (by simp), fun _ => rfl⟩
theorem C_L_handleOf {X : eXT} {a : Nat → Nat} {z : Nat → Int} {ln : Int → Int} {F : eFs} {P : Int → Int} {D : eFs} {DQ : Int → Int} {S : eFs} {SP : Int → Int} {c n : Int} {h : eHs} {g rc : Int → Int} {T : eFs} {Mt : Int → Int → Int} {o : Int → Int} {N : Int} (hF : okF N F) {b : Int} (gb : -2147483648 ≤ b ∧ b ≤ 2147483647) :
    EM X mL_handleOf (eRt 10 2) a [.ref (a 0), vi b, .ref (a 131)] (wA a z ln F P D DQ S SP c n h g rc T Mt [eJ 1 1 o]) (eRets (some (vi (exK ((if sHas F b then none else some xIx)) xIx "" ""))) a (fun cs1 => ((if sHas F b then none else some xIx) = none → cs1 = wA a z ln F P D DQ S SP c n h g rc T Mt [eJ 1 1 (eU o 0 (w32 (F.2 2 b)))]) ∧ (¬ (if sHas F b then none else some xIx) = none → cs1 = wA a z ln F P D DQ S SP c n h g rc T Mt [eJ 1 1 o]))) := by
  have hE : ∀ e, (if sHas F b then none else some xIx) = some e → e = xIx := by
    intro e he
    (repeat' split at he) <;> first | (cases he; done) | (injection he with he; subst he; first | exact rfl | exact Or.inl rfl | exact Or.inr rfl | exact Or.inr (Or.inl rfl) | exact Or.inr (Or.inr rfl))
  refine EM.of (by decide +kernel) rfl (Nat.le_of_ble_eq_true rfl) ?_
  refine e_aload_n dL_handleOf_0 rfl rfl ?_
  refine e_iconst dL_handleOf_1 rfl ?_
  refine e_aload_n dL_handleOf_2 rfl rfl ?_
  refine e_iload_n dL_handleOf_3 rfl rfl ?_
  refine e_cVo (b' := (1, 6)) [0, 1, 2, 3, 4, 5, 6, 7, 8, 9, 10] lk_L_35 rfl dL_handleOf_4 rfl (C_X6_handleOf (z := z) (F := F) (P := P) hF (by omega)) rfl rfl (Nat.le_of_ble_eq_true rfl) (Nat.le_of_ble_eq_true rfl) (Nat.le_of_ble_eq_true rfl) ⟨(Nat.le_of_ble_eq_true rfl), (Nat.le_of_ble_eq_true rfl)⟩ rfl rfl rfl rfl rfl rfl (cs' := wA a z ln F P D DQ S SP c n h g rc T Mt [eJ 1 1 o]) (csX := wA a z ln F P D DQ S SP c n h g rc T Mt [eJ 1 1 o]) rfl rfl (gOF (t := [eJ 1 1 o]) (O' := [wO (a 1) (a 11) (a 21) (a 31) (a 113) (a 116) (a 130) (z)]) (F' := wFl (fun k => a (1 + k)) (F) (P)) rfl rfl rfl rfl rfl rfl rfl rfl rfl rfl) (gOF (t := [eJ 1 1 o]) (O' := [wO (a 1) (a 11) (a 21) (a 31) (a 113) (a 116) (a 130) (z)]) (F' := wFl (fun k => a (1 + k)) (F) (P)) rfl rfl rfl rfl rfl rfl rfl rfl rfl rfl) (fun ge => ?_) (fun e he => ?_)
  · refine EV.eq (st' := [vi (w32 (F.2 2 b)), vi 0, .ref (a 131)]) (by show [vi (F.2 2 b), vi 0, .ref (a 131)] = _; rw [← w32_v]) ?_
    refine e_i2l dL_handleOf_7 rfl w32_in ?_
    refine e_lastore (i := 131) (N := 1) (x := o) dL_handleOf_8 rfl rfl wA_get (by decide) (by decide) ?_
    refine EV.ceq (cs' := wA a z ln F P D DQ S SP c n h g rc T Mt [eJ 1 1 (eU o 0 (w32 (F.2 2 b)))]) wA_set ?_
    refine e_goto (n := 15) dL_handleOf_9 rfl ?_
    refine e_iconst dL_handleOf_15 rfl ?_
    exact e_iret dL_handleOf_16 rfl rfl ⟨by rw [exK_n ge], rfl, fun _ => rfl, fun q => absurd ge q⟩
  · have hc := hE e he
    subst hc
    refine e_catch (name := xIx) [] _ _ rfl (fun z hz => absurd hz List.not_mem_nil) rfl (by decide) wd_3_165 (List.mem_of_getElem? (i := 0) rfl) (fun q => ?_)
    refine f_astore_n dL_handleOf_12 rfl (Nat.le_of_ble_eq_true rfl) rfl ?_
    refine e_iconst dL_handleOf_13 rfl ?_
    exact e_iret dL_handleOf_14 rfl rfl ⟨by rw [exK_1 he], rfl, fun q => absurd (he.symm.trans q) (by simp), fun _ => rfl⟩
theorem C_L_movesOf {X : eXT} {a : Nat → Nat} {z : Nat → Int} {ln : Int → Int} {F : eFs} {P : Int → Int} {D : eFs} {DQ : Int → Int} {S : eFs} {SP : Int → Int} {c n : Int} {h : eHs} {g rc : Int → Int} {T : eFs} {Mt : Int → Int → Int} {o : Int → Int} {N : Int} (hF : okF N F) {b : Int} (gb : -2147483648 ≤ b ∧ b ≤ 2147483647) :
    EM X mL_movesOf (eRt 10 2) a [.ref (a 0), vi b, .ref (a 131)] (wA a z ln F P D DQ S SP c n h g rc T Mt [eJ 1 1 o]) (eRets (some (vi (exK ((if sHas F b then none else some xIx)) xIx "" ""))) a (fun cs1 => ((if sHas F b then none else some xIx) = none → cs1 = wA a z ln F P D DQ S SP c n h g rc T Mt [eJ 1 1 (eU o 0 (w32 (F.2 3 b)))]) ∧ (¬ (if sHas F b then none else some xIx) = none → cs1 = wA a z ln F P D DQ S SP c n h g rc T Mt [eJ 1 1 o]))) := by
  have hE : ∀ e, (if sHas F b then none else some xIx) = some e → e = xIx := by
    intro e he
    (repeat' split at he) <;> first | (cases he; done) | (injection he with he; subst he; first | exact rfl | exact Or.inl rfl | exact Or.inr rfl | exact Or.inr (Or.inl rfl) | exact Or.inr (Or.inr rfl))
  refine EM.of (by decide +kernel) rfl (Nat.le_of_ble_eq_true rfl) ?_
  refine e_aload_n dL_movesOf_0 rfl rfl ?_
  refine e_iconst dL_movesOf_1 rfl ?_
  refine e_aload_n dL_movesOf_2 rfl rfl ?_
  refine e_iload_n dL_movesOf_3 rfl rfl ?_
  refine e_cVo (b' := (1, 6)) [0, 1, 2, 3, 4, 5, 6, 7, 8, 9, 10] lk_L_96 rfl dL_movesOf_4 rfl (C_X6_movesOf (z := z) (F := F) (P := P) hF (by omega)) rfl rfl (Nat.le_of_ble_eq_true rfl) (Nat.le_of_ble_eq_true rfl) (Nat.le_of_ble_eq_true rfl) ⟨(Nat.le_of_ble_eq_true rfl), (Nat.le_of_ble_eq_true rfl)⟩ rfl rfl rfl rfl rfl rfl (cs' := wA a z ln F P D DQ S SP c n h g rc T Mt [eJ 1 1 o]) (csX := wA a z ln F P D DQ S SP c n h g rc T Mt [eJ 1 1 o]) rfl rfl (gOF (t := [eJ 1 1 o]) (O' := [wO (a 1) (a 11) (a 21) (a 31) (a 113) (a 116) (a 130) (z)]) (F' := wFl (fun k => a (1 + k)) (F) (P)) rfl rfl rfl rfl rfl rfl rfl rfl rfl rfl) (gOF (t := [eJ 1 1 o]) (O' := [wO (a 1) (a 11) (a 21) (a 31) (a 113) (a 116) (a 130) (z)]) (F' := wFl (fun k => a (1 + k)) (F) (P)) rfl rfl rfl rfl rfl rfl rfl rfl rfl rfl) (fun ge => ?_) (fun e he => ?_)
  · refine EV.eq (st' := [vi (w32 (F.2 3 b)), vi 0, .ref (a 131)]) (by show [vi (F.2 3 b), vi 0, .ref (a 131)] = _; rw [← w32_v]) ?_
    refine e_i2l dL_movesOf_7 rfl w32_in ?_
    refine e_lastore (i := 131) (N := 1) (x := o) dL_movesOf_8 rfl rfl wA_get (by decide) (by decide) ?_
    refine EV.ceq (cs' := wA a z ln F P D DQ S SP c n h g rc T Mt [eJ 1 1 (eU o 0 (w32 (F.2 3 b)))]) wA_set ?_
    refine e_goto (n := 15) dL_movesOf_9 rfl ?_
    refine e_iconst dL_movesOf_15 rfl ?_
    exact e_iret dL_movesOf_16 rfl rfl ⟨by rw [exK_n ge], rfl, fun _ => rfl, fun q => absurd ge q⟩
  · have hc := hE e he
    subst hc
    refine e_catch (name := xIx) [] _ _ rfl (fun z hz => absurd hz List.not_mem_nil) rfl (by decide) wd_3_165 (List.mem_of_getElem? (i := 0) rfl) (fun q => ?_)
    refine f_astore_n dL_movesOf_12 rfl (Nat.le_of_ble_eq_true rfl) rfl ?_
    refine e_iconst dL_movesOf_13 rfl ?_
    exact e_iret dL_movesOf_14 rfl rfl ⟨by rw [exK_1 he], rfl, fun q => absurd (he.symm.trans q) (by simp), fun _ => rfl⟩
theorem C_L_distance {X : eXT} {a : Nat → Nat} {z : Nat → Int} {ln : Int → Int} {F : eFs} {P : Int → Int} {D : eFs} {DQ : Int → Int} {S : eFs} {SP : Int → Int} {c n : Int} {h : eHs} {g rc : Int → Int} {T : eFs} {Mt : Int → Int → Int} {o : Int → Int} {N : Int} (hF : okF N F) {b w : Int} (gb : -2147483648 ≤ b ∧ b ≤ 2147483647) (gw : -2147483648 ≤ w ∧ w ≤ 2147483647) :
    EM X mL_distance (eRt 10 2) a [.ref (a 0), vi b, vi w, .ref (a 131)] (wA a z ln F P D DQ S SP c n h g rc T Mt [eJ 1 1 o]) (eRets (some (vi (exK ((if sHas F b then (if sHas F w then none else some xIx) else some xIx)) xIx "" ""))) a (fun cs1 => ((if sHas F b then (if sHas F w then none else some xIx) else some xIx) = none → cs1 = wA a z ln F P D DQ S SP c n h g rc T Mt [eJ 1 1 (eU o 0 (w32 (sDD F b w)))]) ∧ (¬ (if sHas F b then (if sHas F w then none else some xIx) else some xIx) = none → cs1 = wA a z ln F P D DQ S SP c n h g rc T Mt [eJ 1 1 o]))) := by
  have hE : ∀ e, (if sHas F b then (if sHas F w then none else some xIx) else some xIx) = some e → e = xIx := by
    intro e he
    (repeat' split at he) <;> first | (cases he; done) | (injection he with he; subst he; first | exact rfl | exact Or.inl rfl | exact Or.inr rfl | exact Or.inr (Or.inl rfl) | exact Or.inr (Or.inr rfl))
  refine EM.of (by decide +kernel) rfl (Nat.le_of_ble_eq_true rfl) ?_
  refine e_aload_n dL_distance_0 rfl rfl ?_
  refine e_iconst dL_distance_1 rfl ?_
  refine e_aload_n dL_distance_2 rfl rfl ?_
  refine e_iload_n dL_distance_3 rfl rfl ?_
  refine e_iload_n dL_distance_4 rfl rfl ?_
  refine e_cVo (b' := (0, 0)) [0, 1, 2, 3, 4, 5, 6, 7, 8, 9, 10] lk_L_43 rfl dL_distance_5 rfl (C_X6_distance (z := z) (F := F) (P := P) hF (by omega) (by omega)) rfl rfl (Nat.le_of_ble_eq_true rfl) (Nat.le_of_ble_eq_true rfl) (Nat.le_of_ble_eq_true rfl) ⟨(Nat.le_of_ble_eq_true rfl), (Nat.le_of_ble_eq_true rfl)⟩ rfl rfl rfl rfl rfl rfl (cs' := wA a z ln F P D DQ S SP c n h g rc T Mt [eJ 1 1 o]) (csX := wA a z ln F P D DQ S SP c n h g rc T Mt [eJ 1 1 o]) rfl rfl (gOF (t := [eJ 1 1 o]) (O' := [wO (a 1) (a 11) (a 21) (a 31) (a 113) (a 116) (a 130) (z)]) (F' := wFl (fun k => a (1 + k)) (F) (P)) rfl rfl rfl rfl rfl rfl rfl rfl rfl rfl) (gOF (t := [eJ 1 1 o]) (O' := [wO (a 1) (a 11) (a 21) (a 31) (a 113) (a 116) (a 130) (z)]) (F' := wFl (fun k => a (1 + k)) (F) (P)) rfl rfl rfl rfl rfl rfl rfl rfl rfl rfl) (fun ge => ?_) (fun e he => ?_)
  · refine EV.eq (st' := [vi (w32 (sDD F b w)), vi 0, .ref (a 131)]) (by show [vi (sDD F b w), vi 0, .ref (a 131)] = _; rw [← w32_v]) ?_
    refine e_i2l dL_distance_8 rfl w32_in ?_
    refine e_lastore (i := 131) (N := 1) (x := o) dL_distance_9 rfl rfl wA_get (by decide) (by decide) ?_
    refine EV.ceq (cs' := wA a z ln F P D DQ S SP c n h g rc T Mt [eJ 1 1 (eU o 0 (w32 (sDD F b w)))]) wA_set ?_
    refine e_goto (n := 17) dL_distance_10 rfl ?_
    refine e_iconst dL_distance_17 rfl ?_
    exact e_iret dL_distance_18 rfl rfl ⟨by rw [exK_n ge], rfl, fun _ => rfl, fun q => absurd ge q⟩
  · have hc := hE e he
    subst hc
    refine e_catch (name := xIx) [] _ _ rfl (fun z hz => absurd hz List.not_mem_nil) rfl (by decide) wd_3_165 (List.mem_of_getElem? (i := 0) rfl) (fun q => ?_)
    refine f_astore dL_distance_13 rfl (Nat.le_of_ble_eq_true rfl) rfl ?_
    refine e_iconst dL_distance_15 rfl ?_
    exact e_iret dL_distance_16 rfl rfl ⟨by rw [exK_1 he], rfl, fun q => absurd (he.symm.trans q) (by simp), fun _ => rfl⟩
theorem C_L_nearestTo {X : eXT} {a : Nat → Nat} {z : Nat → Int} {ln : Int → Int} {F : eFs} {P : Int → Int} {D : eFs} {DQ : Int → Int} {S : eFs} {SP : Int → Int} {c n : Int} {h : eHs} {g rc : Int → Int} {T : eFs} {Mt : Int → Int → Int} {o : Int → Int} {N : Int} (hF : okF N F) {b : Int} (gb : -2147483648 ≤ b ∧ b ≤ 2147483647) :
    EM X mL_nearestTo (eRt 10 2) a [.ref (a 0), vi b, .ref (a 131)] (wA a z ln F P D DQ S SP c n h g rc T Mt [eJ 1 1 o]) (eRets (some (vi (exK ((if sHas F b then (if ¬ sNear F b = -1 then none else some xNo) else some xIx)) xIx xNo ""))) a (fun cs1 => ((if sHas F b then (if ¬ sNear F b = -1 then none else some xNo) else some xIx) = none → cs1 = wA a z ln F P D DQ S SP c n h g rc T Mt [eJ 1 1 (eU o 0 (w32 (sNear F b)))]) ∧ (¬ (if sHas F b then (if ¬ sNear F b = -1 then none else some xNo) else some xIx) = none → cs1 = wA a z ln F P D DQ S SP c n h g rc T Mt [eJ 1 1 o]))) := by
  have hE : ∀ e, (if sHas F b then (if ¬ sNear F b = -1 then none else some xNo) else some xIx) = some e → e = xIx ∨ e = xNo := by
    intro e he
    (repeat' split at he) <;> first | (cases he; done) | (injection he with he; subst he; first | exact rfl | exact Or.inl rfl | exact Or.inr rfl | exact Or.inr (Or.inl rfl) | exact Or.inr (Or.inr rfl))
  refine EM.of (by decide +kernel) rfl (Nat.le_of_ble_eq_true rfl) ?_
  refine e_aload_n dL_nearestTo_0 rfl rfl ?_
  refine e_iconst dL_nearestTo_1 rfl ?_
  refine e_aload_n dL_nearestTo_2 rfl rfl ?_
  refine e_iload_n dL_nearestTo_3 rfl rfl ?_
  refine e_cVo (b' := (0, 0)) [0, 1, 2, 3, 4, 5, 6, 7, 8, 9, 10] lk_L_46 rfl dL_nearestTo_4 rfl (C_X6_nearestTo (z := z) (F := F) (P := P) hF (by omega)) rfl rfl (Nat.le_of_ble_eq_true rfl) (Nat.le_of_ble_eq_true rfl) (Nat.le_of_ble_eq_true rfl) ⟨(Nat.le_of_ble_eq_true rfl), (Nat.le_of_ble_eq_true rfl)⟩ rfl rfl rfl rfl rfl rfl (cs' := wA a z ln F P D DQ S SP c n h g rc T Mt [eJ 1 1 o]) (csX := wA a z ln F P D DQ S SP c n h g rc T Mt [eJ 1 1 o]) rfl rfl (gOF (t := [eJ 1 1 o]) (O' := [wO (a 1) (a 11) (a 21) (a 31) (a 113) (a 116) (a 130) (z)]) (F' := wFl (fun k => a (1 + k)) (F) (P)) rfl rfl rfl rfl rfl rfl rfl rfl rfl rfl) (gOF (t := [eJ 1 1 o]) (O' := [wO (a 1) (a 11) (a 21) (a 31) (a 113) (a 116) (a 130) (z)]) (F' := wFl (fun k => a (1 + k)) (F) (P)) rfl rfl rfl rfl rfl rfl rfl rfl rfl rfl) (fun ge => ?_) (fun e he => ?_)
  · refine EV.eq (st' := [vi (w32 (sNear F b)), vi 0, .ref (a 131)]) (by show [vi (sNear F b), vi 0, .ref (a 131)] = _; rw [← w32_v]) ?_
    refine e_i2l dL_nearestTo_7 rfl w32_in ?_
    refine e_lastore (i := 131) (N := 1) (x := o) dL_nearestTo_8 rfl rfl wA_get (by decide) (by decide) ?_
    refine EV.ceq (cs' := wA a z ln F P D DQ S SP c n h g rc T Mt [eJ 1 1 (eU o 0 (w32 (sNear F b)))]) wA_set ?_
    refine e_goto (n := 18) dL_nearestTo_9 rfl ?_
    refine e_iconst dL_nearestTo_18 rfl ?_
    exact e_iret dL_nearestTo_19 rfl rfl ⟨by rw [exK_n ge], rfl, fun _ => rfl, fun q => absurd ge q⟩
  · rcases hE e he with hc | hc <;> subst hc
    · refine e_catch (name := xIx) [] _ _ rfl (fun z hz => absurd hz List.not_mem_nil) rfl (by decide) wd_3_165 (List.mem_of_getElem? (i := 0) rfl) (fun q => ?_)
      refine f_astore_n dL_nearestTo_12 rfl (Nat.le_of_ble_eq_true rfl) rfl ?_
      refine e_iconst dL_nearestTo_13 rfl ?_
      exact e_iret dL_nearestTo_14 rfl rfl ⟨by rw [exK_1 he], rfl, fun q => absurd (he.symm.trans q) (by simp), fun _ => rfl⟩
    · refine e_catch (name := xNo) [_] _ _ rfl (fun z hz => Or.inr (by rw [List.mem_singleton.mp hz]; exact ⟨by decide, xIx, wd_3_165, List.mem_of_getElem? (i := 81) rfl⟩)) rfl (by decide) wd_3_234 (List.mem_of_getElem? (i := 3) rfl) (fun q => ?_)
      refine f_astore_n dL_nearestTo_15 rfl (Nat.le_of_ble_eq_true rfl) rfl ?_
      refine e_iconst dL_nearestTo_16 rfl ?_
      exact e_iret dL_nearestTo_17 rfl rfl ⟨by rw [exK_2 he (by decide)], rfl, fun q => absurd (he.symm.trans q) (by simp), fun _ => rfl⟩
theorem C_L_basketAt {X : eXT} {a : Nat → Nat} {z : Nat → Int} {ln : Int → Int} {F : eFs} {P : Int → Int} {D : eFs} {DQ : Int → Int} {S : eFs} {SP : Int → Int} {c n : Int} {h : eHs} {g rc : Int → Int} {T : eFs} {Mt : Int → Int → Int} {o : Int → Int} {N : Int} (hF : okF N F) {x y : Int} (gx : -2147483648 ≤ x ∧ x ≤ 2147483647) (gy : -2147483648 ≤ y ∧ y ≤ 2147483647) :
    EM X mL_basketAt (eRt 10 2) a [.ref (a 0), vi x, vi y, .ref (a 131)] (wA a z ln F P D DQ S SP c n h g rc T Mt [eJ 1 1 o]) (eRets (some (vi (exK ((if sIn x y then (if ¬ sAt F x y = -1 then none else some xNo) else some xAr)) xAr xNo ""))) a (fun cs1 => ((if sIn x y then (if ¬ sAt F x y = -1 then none else some xNo) else some xAr) = none → cs1 = wA a z ln F P D DQ S SP c n h g rc T Mt [eJ 1 1 (eU o 0 (w32 (sAt F x y)))]) ∧ (¬ (if sIn x y then (if ¬ sAt F x y = -1 then none else some xNo) else some xAr) = none → cs1 = wA a z ln F P D DQ S SP c n h g rc T Mt [eJ 1 1 o]))) := by
  have hE : ∀ e, (if sIn x y then (if ¬ sAt F x y = -1 then none else some xNo) else some xAr) = some e → e = xAr ∨ e = xNo := by
    intro e he
    (repeat' split at he) <;> first | (cases he; done) | (injection he with he; subst he; first | exact rfl | exact Or.inl rfl | exact Or.inr rfl | exact Or.inr (Or.inl rfl) | exact Or.inr (Or.inr rfl))
  refine EM.of (by decide +kernel) rfl (Nat.le_of_ble_eq_true rfl) ?_
  refine e_aload_n dL_basketAt_0 rfl rfl ?_
  refine e_iconst dL_basketAt_1 rfl ?_
  refine e_aload_n dL_basketAt_2 rfl rfl ?_
  refine e_iload_n dL_basketAt_3 rfl rfl ?_
  refine e_iload_n dL_basketAt_4 rfl rfl ?_
  refine e_cVo (b' := (0, 0)) [0, 1, 2, 3, 4, 5, 6, 7, 8, 9, 10] lk_L_38 rfl dL_basketAt_5 rfl (C_X6_basketAt (z := z) (F := F) (P := P) hF (by omega) (by omega)) rfl rfl (Nat.le_of_ble_eq_true rfl) (Nat.le_of_ble_eq_true rfl) (Nat.le_of_ble_eq_true rfl) ⟨(Nat.le_of_ble_eq_true rfl), (Nat.le_of_ble_eq_true rfl)⟩ rfl rfl rfl rfl rfl rfl (cs' := wA a z ln F P D DQ S SP c n h g rc T Mt [eJ 1 1 o]) (csX := wA a z ln F P D DQ S SP c n h g rc T Mt [eJ 1 1 o]) rfl rfl (gOF (t := [eJ 1 1 o]) (O' := [wO (a 1) (a 11) (a 21) (a 31) (a 113) (a 116) (a 130) (z)]) (F' := wFl (fun k => a (1 + k)) (F) (P)) rfl rfl rfl rfl rfl rfl rfl rfl rfl rfl) (gOF (t := [eJ 1 1 o]) (O' := [wO (a 1) (a 11) (a 21) (a 31) (a 113) (a 116) (a 130) (z)]) (F' := wFl (fun k => a (1 + k)) (F) (P)) rfl rfl rfl rfl rfl rfl rfl rfl rfl rfl) (fun ge => ?_) (fun e he => ?_)
  · refine EV.eq (st' := [vi (w32 (sAt F x y)), vi 0, .ref (a 131)]) (by show [vi (sAt F x y), vi 0, .ref (a 131)] = _; rw [← w32_v]) ?_
    refine e_i2l dL_basketAt_8 rfl w32_in ?_
    refine e_lastore (i := 131) (N := 1) (x := o) dL_basketAt_9 rfl rfl wA_get (by decide) (by decide) ?_
    refine EV.ceq (cs' := wA a z ln F P D DQ S SP c n h g rc T Mt [eJ 1 1 (eU o 0 (w32 (sAt F x y)))]) wA_set ?_
    refine e_goto (n := 21) dL_basketAt_10 rfl ?_
    refine e_iconst dL_basketAt_21 rfl ?_
    exact e_iret dL_basketAt_22 rfl rfl ⟨by rw [exK_n ge], rfl, fun _ => rfl, fun q => absurd ge q⟩
  · rcases hE e he with hc | hc <;> subst hc
    · refine e_catch (name := xAr) [] _ _ rfl (fun z hz => absurd hz List.not_mem_nil) rfl (by decide) wd_2_198 (List.mem_of_getElem? (i := 1) rfl) (fun q => ?_)
      refine f_astore dL_basketAt_13 rfl (Nat.le_of_ble_eq_true rfl) rfl ?_
      refine e_iconst dL_basketAt_15 rfl ?_
      exact e_iret dL_basketAt_16 rfl rfl ⟨by rw [exK_1 he], rfl, fun q => absurd (he.symm.trans q) (by simp), fun _ => rfl⟩
    · refine e_catch (name := xNo) [_] _ _ rfl (fun z hz => Or.inr (by rw [List.mem_singleton.mp hz]; exact ⟨by decide, xAr, wd_2_198, List.mem_of_getElem? (i := 79) rfl⟩)) rfl (by decide) wd_3_234 (List.mem_of_getElem? (i := 3) rfl) (fun q => ?_)
      refine f_astore dL_basketAt_17 rfl (Nat.le_of_ble_eq_true rfl) rfl ?_
      refine e_iconst dL_basketAt_19 rfl ?_
      exact e_iret dL_basketAt_20 rfl rfl ⟨by rw [exK_2 he (by decide)], rfl, fun q => absurd (he.symm.trans q) (by simp), fun _ => rfl⟩
theorem C_L_refusalReason {X : eXT} {a : Nat → Nat} {z : Nat → Int} {ln : Int → Int} {F : eFs} {P : Int → Int} {D : eFs} {DQ : Int → Int} {S : eFs} {SP : Int → Int} {c n : Int} {h : eHs} {g rc : Int → Int} {T : eFs} {Mt : Int → Int → Int} {o : Int → Int} {N : Int} (hF : okF N F) (hz : okZ z) :
    EM X mL_refusalReason (eRt 10 2) a [.ref (a 0), .ref (a 131)] (wA a z ln F P D DQ S SP c n h g rc T Mt [eJ 1 1 o]) (eRets (some (vi (exK ((if ¬ z 2 = -1 then none else some xNo)) xNo "" ""))) a (fun cs1 => ((if ¬ z 2 = -1 then none else some xNo) = none → cs1 = wA a z ln F P D DQ S SP c n h g rc T Mt [eJ 1 1 (eU o 0 (w32 (z 2)))]) ∧ (¬ (if ¬ z 2 = -1 then none else some xNo) = none → cs1 = wA a z ln F P D DQ S SP c n h g rc T Mt [eJ 1 1 o]))) := by
  have hE : ∀ e, (if ¬ z 2 = -1 then none else some xNo) = some e → e = xNo := by
    intro e he
    (repeat' split at he) <;> first | (cases he; done) | (injection he with he; subst he; first | exact rfl | exact Or.inl rfl | exact Or.inr rfl | exact Or.inr (Or.inl rfl) | exact Or.inr (Or.inr rfl))
  refine EM.of (by decide +kernel) rfl (Nat.le_of_ble_eq_true rfl) ?_
  refine e_aload_n dL_refusalReason_0 rfl rfl ?_
  refine e_iconst dL_refusalReason_1 rfl ?_
  refine e_aload_n dL_refusalReason_2 rfl rfl ?_
  refine e_cVo (b' := (1, 6)) [0, 1, 2, 3, 4, 5, 6, 7, 8, 9, 10] lk_L_49 rfl dL_refusalReason_3 rfl (C_X6_refusalReason (z := z) (F := F) (P := P) hF hz ) rfl rfl (Nat.le_of_ble_eq_true rfl) (Nat.le_of_ble_eq_true rfl) (Nat.le_of_ble_eq_true rfl) ⟨(Nat.le_of_ble_eq_true rfl), (Nat.le_of_ble_eq_true rfl)⟩ rfl rfl rfl rfl rfl rfl (cs' := wA a z ln F P D DQ S SP c n h g rc T Mt [eJ 1 1 o]) (csX := wA a z ln F P D DQ S SP c n h g rc T Mt [eJ 1 1 o]) rfl rfl (gOF (t := [eJ 1 1 o]) (O' := [wO (a 1) (a 11) (a 21) (a 31) (a 113) (a 116) (a 130) (z)]) (F' := wFl (fun k => a (1 + k)) (F) (P)) rfl rfl rfl rfl rfl rfl rfl rfl rfl rfl) (gOF (t := [eJ 1 1 o]) (O' := [wO (a 1) (a 11) (a 21) (a 31) (a 113) (a 116) (a 130) (z)]) (F' := wFl (fun k => a (1 + k)) (F) (P)) rfl rfl rfl rfl rfl rfl rfl rfl rfl rfl) (fun ge => ?_) (fun e he => ?_)
  · refine EV.eq (st' := [vi (w32 (z 2)), vi 0, .ref (a 131)]) (by show [vi (z 2), vi 0, .ref (a 131)] = _; rw [← w32_v]) ?_
    refine e_i2l dL_refusalReason_6 rfl w32_in ?_
    refine e_lastore (i := 131) (N := 1) (x := o) dL_refusalReason_7 rfl rfl wA_get (by decide) (by decide) ?_
    refine EV.ceq (cs' := wA a z ln F P D DQ S SP c n h g rc T Mt [eJ 1 1 (eU o 0 (w32 (z 2)))]) wA_set ?_
    refine e_goto (n := 14) dL_refusalReason_8 rfl ?_
    refine e_iconst dL_refusalReason_14 rfl ?_
    exact e_iret dL_refusalReason_15 rfl rfl ⟨by rw [exK_n ge], rfl, fun _ => rfl, fun q => absurd ge q⟩
  · have hc := hE e he
    subst hc
    refine e_catch (name := xNo) [] _ _ rfl (fun z hz => absurd hz List.not_mem_nil) rfl (by decide) wd_3_234 (List.mem_of_getElem? (i := 3) rfl) (fun q => ?_)
    refine f_astore_n dL_refusalReason_11 rfl (Nat.le_of_ble_eq_true rfl) rfl ?_
    refine e_iconst dL_refusalReason_12 rfl ?_
    exact e_iret dL_refusalReason_13 rfl rfl ⟨by rw [exK_1 he], rfl, fun q => absurd (he.symm.trans q) (by simp), fun _ => rfl⟩
theorem C_L_refusalDetail {X : eXT} {a : Nat → Nat} {z : Nat → Int} {ln : Int → Int} {F : eFs} {P : Int → Int} {D : eFs} {DQ : Int → Int} {S : eFs} {SP : Int → Int} {c n : Int} {h : eHs} {g rc : Int → Int} {T : eFs} {Mt : Int → Int → Int} {o : Int → Int} {N : Int} (hF : okF N F) (hz : okZ z) :
    EM X mL_refusalDetail (eRt 10 2) a [.ref (a 0), .ref (a 131)] (wA a z ln F P D DQ S SP c n h g rc T Mt [eJ 1 1 o]) (eRets (some (vi (exK ((if ¬ z 2 = -1 then none else some xNo)) xNo "" ""))) a (fun cs1 => ((if ¬ z 2 = -1 then none else some xNo) = none → cs1 = wA a z ln F P D DQ S SP c n h g rc T Mt [eJ 1 1 (eU o 0 (w32 (z 3)))]) ∧ (¬ (if ¬ z 2 = -1 then none else some xNo) = none → cs1 = wA a z ln F P D DQ S SP c n h g rc T Mt [eJ 1 1 o]))) := by
  have hE : ∀ e, (if ¬ z 2 = -1 then none else some xNo) = some e → e = xNo := by
    intro e he
    (repeat' split at he) <;> first | (cases he; done) | (injection he with he; subst he; first | exact rfl | exact Or.inl rfl | exact Or.inr rfl | exact Or.inr (Or.inl rfl) | exact Or.inr (Or.inr rfl))
  refine EM.of (by decide +kernel) rfl (Nat.le_of_ble_eq_true rfl) ?_
  refine e_aload_n dL_refusalDetail_0 rfl rfl ?_
  refine e_iconst dL_refusalDetail_1 rfl ?_
  refine e_aload_n dL_refusalDetail_2 rfl rfl ?_
  refine e_cVo (b' := (1, 6)) [0, 1, 2, 3, 4, 5, 6, 7, 8, 9, 10] lk_L_53 rfl dL_refusalDetail_3 rfl (C_X6_refusalDetail (z := z) (F := F) (P := P) hF hz ) rfl rfl (Nat.le_of_ble_eq_true rfl) (Nat.le_of_ble_eq_true rfl) (Nat.le_of_ble_eq_true rfl) ⟨(Nat.le_of_ble_eq_true rfl), (Nat.le_of_ble_eq_true rfl)⟩ rfl rfl rfl rfl rfl rfl (cs' := wA a z ln F P D DQ S SP c n h g rc T Mt [eJ 1 1 o]) (csX := wA a z ln F P D DQ S SP c n h g rc T Mt [eJ 1 1 o]) rfl rfl (gOF (t := [eJ 1 1 o]) (O' := [wO (a 1) (a 11) (a 21) (a 31) (a 113) (a 116) (a 130) (z)]) (F' := wFl (fun k => a (1 + k)) (F) (P)) rfl rfl rfl rfl rfl rfl rfl rfl rfl rfl) (gOF (t := [eJ 1 1 o]) (O' := [wO (a 1) (a 11) (a 21) (a 31) (a 113) (a 116) (a 130) (z)]) (F' := wFl (fun k => a (1 + k)) (F) (P)) rfl rfl rfl rfl rfl rfl rfl rfl rfl rfl) (fun ge => ?_) (fun e he => ?_)
  · refine EV.eq (st' := [vi (w32 (z 3)), vi 0, .ref (a 131)]) (by show [vi (z 3), vi 0, .ref (a 131)] = _; rw [← w32_v]) ?_
    refine e_i2l dL_refusalDetail_6 rfl w32_in ?_
    refine e_lastore (i := 131) (N := 1) (x := o) dL_refusalDetail_7 rfl rfl wA_get (by decide) (by decide) ?_
    refine EV.ceq (cs' := wA a z ln F P D DQ S SP c n h g rc T Mt [eJ 1 1 (eU o 0 (w32 (z 3)))]) wA_set ?_
    refine e_goto (n := 14) dL_refusalDetail_8 rfl ?_
    refine e_iconst dL_refusalDetail_14 rfl ?_
    exact e_iret dL_refusalDetail_15 rfl rfl ⟨by rw [exK_n ge], rfl, fun _ => rfl, fun q => absurd ge q⟩
  · have hc := hE e he
    subst hc
    refine e_catch (name := xNo) [] _ _ rfl (fun z hz => absurd hz List.not_mem_nil) rfl (by decide) wd_3_234 (List.mem_of_getElem? (i := 3) rfl) (fun q => ?_)
    refine f_astore_n dL_refusalDetail_11 rfl (Nat.le_of_ble_eq_true rfl) rfl ?_
    refine e_iconst dL_refusalDetail_12 rfl ?_
    exact e_iret dL_refusalDetail_13 rfl rfl ⟨by rw [exK_1 he], rfl, fun q => absurd (he.symm.trans q) (by simp), fun _ => rfl⟩
theorem C_L_isCloud {X : eXT} {a : Nat → Nat} {z : Nat → Int} {ln : Int → Int} {F : eFs} {P : Int → Int} {D : eFs} {DQ : Int → Int} {S : eFs} {SP : Int → Int} {c n : Int} {h : eHs} {g rc : Int → Int} {T : eFs} {Mt : Int → Int → Int} {o : Int → Int} {N : Int} (hF : okF N F) {x y : Int} (gx : -2147483648 ≤ x ∧ x ≤ 2147483647) (gy : -2147483648 ≤ y ∧ y ≤ 2147483647) :
    EM X mL_isCloud (eRt 10 2) a [.ref (a 0), vi x, vi y, .ref (a 131)] (wA a z ln F P D DQ S SP c n h g rc T Mt [eJ 1 1 o]) (eRets (some (vi (exK ((if sIn x y then none else some xAr)) xAr "" ""))) a (fun cs1 => ((if sIn x y then none else some xAr) = none → cs1 = wA a z ln F P D DQ S SP c n h g rc T Mt [eJ 1 1 (eU o 0 (if sCov (F.2 4) x y then 1 else 0))]) ∧ (¬ (if sIn x y then none else some xAr) = none → cs1 = wA a z ln F P D DQ S SP c n h g rc T Mt [eJ 1 1 o]))) := by
  have hE : ∀ e, (if sIn x y then none else some xAr) = some e → e = xAr := by
    intro e he
    (repeat' split at he) <;> first | (cases he; done) | (injection he with he; subst he; first | exact rfl | exact Or.inl rfl | exact Or.inr rfl | exact Or.inr (Or.inl rfl) | exact Or.inr (Or.inr rfl))
  refine EM.of (by decide +kernel) rfl (Nat.le_of_ble_eq_true rfl) ?_
  refine e_aload_n dL_isCloud_0 rfl rfl ?_
  refine e_iconst dL_isCloud_1 rfl ?_
  refine e_aload_n dL_isCloud_2 rfl rfl ?_
  refine e_iload_n dL_isCloud_3 rfl rfl ?_
  refine e_iload_n dL_isCloud_4 rfl rfl ?_
  refine e_cVo (b' := (1, 6)) [0, 1, 2, 3, 4, 5, 6, 7, 8, 9, 10] lk_L_62 rfl dL_isCloud_5 rfl (C_X6_isCloud (z := z) (F := F) (P := P) hF (by omega) (by omega)) rfl rfl (Nat.le_of_ble_eq_true rfl) (Nat.le_of_ble_eq_true rfl) (Nat.le_of_ble_eq_true rfl) ⟨(Nat.le_of_ble_eq_true rfl), (Nat.le_of_ble_eq_true rfl)⟩ rfl rfl rfl rfl rfl rfl (cs' := wA a z ln F P D DQ S SP c n h g rc T Mt [eJ 1 1 o]) (csX := wA a z ln F P D DQ S SP c n h g rc T Mt [eJ 1 1 o]) rfl rfl (gOF (t := [eJ 1 1 o]) (O' := [wO (a 1) (a 11) (a 21) (a 31) (a 113) (a 116) (a 130) (z)]) (F' := wFl (fun k => a (1 + k)) (F) (P)) rfl rfl rfl rfl rfl rfl rfl rfl rfl rfl) (gOF (t := [eJ 1 1 o]) (O' := [wO (a 1) (a 11) (a 21) (a 31) (a 113) (a 116) (a 130) (z)]) (F' := wFl (fun k => a (1 + k)) (F) (P)) rfl rfl rfl rfl rfl rfl rfl rfl rfl rfl) (fun ge => ?_) (fun e he => ?_)
  · refine e_ifb_eq (t := 15) dL_isCloud_8 rfl rfl (fun hb => ?_) (fun hb => ?_)
    · refine e_lconst dL_isCloud_15 rfl ?_
      refine e_lastore (i := 131) (N := 1) (x := o) dL_isCloud_16 rfl rfl wA_get (by decide) (by decide) ?_
      refine EV.ceq (cs' := wA a z ln F P D DQ S SP c n h g rc T Mt [eJ 1 1 (eU o 0 (if sCov (F.2 4) x y then 1 else 0))]) (by rw [if_neg hb]; exact wA_set) ?_
      refine e_goto (n := 24) dL_isCloud_17 rfl ?_
      refine e_iconst dL_isCloud_24 rfl ?_
      exact e_iret dL_isCloud_25 rfl rfl ⟨by rw [exK_n ge], rfl, fun _ => rfl, fun q => absurd ge q⟩
    · refine e_lconst dL_isCloud_11 rfl ?_
      refine e_goto (n := 16) dL_isCloud_12 rfl ?_
      refine e_lastore (i := 131) (N := 1) (x := o) dL_isCloud_16 rfl rfl wA_get (by decide) (by decide) ?_
      refine EV.ceq (cs' := wA a z ln F P D DQ S SP c n h g rc T Mt [eJ 1 1 (eU o 0 (if sCov (F.2 4) x y then 1 else 0))]) (by rw [if_pos hb]; exact wA_set) ?_
      refine e_goto (n := 24) dL_isCloud_17 rfl ?_
      refine e_iconst dL_isCloud_24 rfl ?_
      exact e_iret dL_isCloud_25 rfl rfl ⟨by rw [exK_n ge], rfl, fun _ => rfl, fun q => absurd ge q⟩
  · have hc := hE e he
    subst hc
    refine e_catch (name := xAr) [] _ _ rfl (fun z hz => absurd hz List.not_mem_nil) rfl (by decide) wd_2_198 (List.mem_of_getElem? (i := 1) rfl) (fun q => ?_)
    refine f_astore dL_isCloud_20 rfl (Nat.le_of_ble_eq_true rfl) rfl ?_
    refine e_iconst dL_isCloud_22 rfl ?_
    exact e_iret dL_isCloud_23 rfl rfl ⟨by rw [exK_1 he], rfl, fun q => absurd (he.symm.trans q) (by simp), fun _ => rfl⟩
theorem C_L_leader {X : eXT} {a : Nat → Nat} {z : Nat → Int} {ln : Int → Int} {F : eFs} {P : Int → Int} {D : eFs} {DQ : Int → Int} {S : eFs} {SP : Int → Int} {c n : Int} {h : eHs} {g rc : Int → Int} {T : eFs} {Mt : Int → Int → Int} {o : Int → Int} {N : Int} (hF : okF N F) :
    EM X mL_leader (eRt 10 2) a [.ref (a 0), .ref (a 131)] (wA a z ln F P D DQ S SP c n h g rc T Mt [eJ 1 1 o]) (eRets (some (vi (exK ((if 1 ≤ F.1 0 then none else some xNo)) xNo "" ""))) a (fun cs1 => ((if 1 ≤ F.1 0 then none else some xNo) = none → cs1 = wA a z ln F P D DQ S SP c n h g rc T Mt [eJ 1 1 (eU o 0 (w32 (F.1 1)))]) ∧ (¬ (if 1 ≤ F.1 0 then none else some xNo) = none → cs1 = wA a z ln F P D DQ S SP c n h g rc T Mt [eJ 1 1 o]))) := by
  have hE : ∀ e, (if 1 ≤ F.1 0 then none else some xNo) = some e → e = xNo := by
    intro e he
    (repeat' split at he) <;> first | (cases he; done) | (injection he with he; subst he; first | exact rfl | exact Or.inl rfl | exact Or.inr rfl | exact Or.inr (Or.inl rfl) | exact Or.inr (Or.inr rfl))
  refine EM.of (by decide +kernel) rfl (Nat.le_of_ble_eq_true rfl) ?_
  refine e_aload_n dL_leader_0 rfl rfl ?_
  refine e_iconst dL_leader_1 rfl ?_
  refine e_aload_n dL_leader_2 rfl rfl ?_
  refine e_cVo (b' := (1, 6)) [0, 1, 2, 3, 4, 5, 6, 7, 8, 9, 10] lk_L_69 rfl dL_leader_3 rfl (C_X6_leader (z := z) (F := F) (P := P) hF ) rfl rfl (Nat.le_of_ble_eq_true rfl) (Nat.le_of_ble_eq_true rfl) (Nat.le_of_ble_eq_true rfl) ⟨(Nat.le_of_ble_eq_true rfl), (Nat.le_of_ble_eq_true rfl)⟩ rfl rfl rfl rfl rfl rfl (cs' := wA a z ln F P D DQ S SP c n h g rc T Mt [eJ 1 1 o]) (csX := wA a z ln F P D DQ S SP c n h g rc T Mt [eJ 1 1 o]) rfl rfl (gOF (t := [eJ 1 1 o]) (O' := [wO (a 1) (a 11) (a 21) (a 31) (a 113) (a 116) (a 130) (z)]) (F' := wFl (fun k => a (1 + k)) (F) (P)) rfl rfl rfl rfl rfl rfl rfl rfl rfl rfl) (gOF (t := [eJ 1 1 o]) (O' := [wO (a 1) (a 11) (a 21) (a 31) (a 113) (a 116) (a 130) (z)]) (F' := wFl (fun k => a (1 + k)) (F) (P)) rfl rfl rfl rfl rfl rfl rfl rfl rfl rfl) (fun ge => ?_) (fun e he => ?_)
  · refine EV.eq (st' := [vi (w32 (F.1 1)), vi 0, .ref (a 131)]) (by show [vi (F.1 1), vi 0, .ref (a 131)] = _; rw [← w32_v]) ?_
    refine e_i2l dL_leader_6 rfl w32_in ?_
    refine e_lastore (i := 131) (N := 1) (x := o) dL_leader_7 rfl rfl wA_get (by decide) (by decide) ?_
    refine EV.ceq (cs' := wA a z ln F P D DQ S SP c n h g rc T Mt [eJ 1 1 (eU o 0 (w32 (F.1 1)))]) wA_set ?_
    refine e_goto (n := 14) dL_leader_8 rfl ?_
    refine e_iconst dL_leader_14 rfl ?_
    exact e_iret dL_leader_15 rfl rfl ⟨by rw [exK_n ge], rfl, fun _ => rfl, fun q => absurd ge q⟩
  · have hc := hE e he
    subst hc
    refine e_catch (name := xNo) [] _ _ rfl (fun z hz => absurd hz List.not_mem_nil) rfl (by decide) wd_3_234 (List.mem_of_getElem? (i := 3) rfl) (fun q => ?_)
    refine f_astore_n dL_leader_11 rfl (Nat.le_of_ble_eq_true rfl) rfl ?_
    refine e_iconst dL_leader_12 rfl ?_
    exact e_iret dL_leader_13 rfl rfl ⟨by rw [exK_1 he], rfl, fun q => absurd (he.symm.trans q) (by simp), fun _ => rfl⟩
theorem C_L_leaderAfter {X : eXT} {a : Nat → Nat} {z : Nat → Int} {ln : Int → Int} {F : eFs} {P : Int → Int} {D : eFs} {DQ : Int → Int} {S : eFs} {SP : Int → Int} {c n : Int} {h : eHs} {g rc : Int → Int} {T : eFs} {Mt : Int → Int → Int} {o : Int → Int} {N : Int} (hF : okF N F) {s : Int} (gs : -2147483648 ≤ s ∧ s ≤ 2147483647) :
    EM X mL_leaderAfter (eRt 10 2) a [.ref (a 0), vi s, .ref (a 131)] (wA a z ln F P D DQ S SP c n h g rc T Mt [eJ 1 1 o]) (eRets (some (vi (exK ((if 0 ≤ s ∧ s ≤ 99 then (if 1 ≤ F.1 0 then none else some xNo) else some xAr)) xAr xNo ""))) a (fun cs1 => ((if 0 ≤ s ∧ s ≤ 99 then (if 1 ≤ F.1 0 then none else some xNo) else some xAr) = none → cs1 = wA a z ln F P D DQ S SP c n h g rc T Mt [eJ 1 1 (eU o 0 (w32 (sLead F s)))]) ∧ (¬ (if 0 ≤ s ∧ s ≤ 99 then (if 1 ≤ F.1 0 then none else some xNo) else some xAr) = none → cs1 = wA a z ln F P D DQ S SP c n h g rc T Mt [eJ 1 1 o]))) := by
  have hE : ∀ e, (if 0 ≤ s ∧ s ≤ 99 then (if 1 ≤ F.1 0 then none else some xNo) else some xAr) = some e → e = xAr ∨ e = xNo := by
    intro e he
    (repeat' split at he) <;> first | (cases he; done) | (injection he with he; subst he; first | exact rfl | exact Or.inl rfl | exact Or.inr rfl | exact Or.inr (Or.inl rfl) | exact Or.inr (Or.inr rfl))
  refine EM.of (by decide +kernel) rfl (Nat.le_of_ble_eq_true rfl) ?_
  refine e_aload_n dL_leaderAfter_0 rfl rfl ?_
  refine e_iconst dL_leaderAfter_1 rfl ?_
  refine e_aload_n dL_leaderAfter_2 rfl rfl ?_
  refine e_iload_n dL_leaderAfter_3 rfl rfl ?_
  refine e_cVo (b' := (0, 0)) [0, 1, 2, 3, 4, 5, 6, 7, 8, 9, 10] lk_L_72 rfl dL_leaderAfter_4 rfl (C_X6_leaderAfter (z := z) (F := F) (P := P) hF (by omega)) rfl rfl (Nat.le_of_ble_eq_true rfl) (Nat.le_of_ble_eq_true rfl) (Nat.le_of_ble_eq_true rfl) ⟨(Nat.le_of_ble_eq_true rfl), (Nat.le_of_ble_eq_true rfl)⟩ rfl rfl rfl rfl rfl rfl (cs' := wA a z ln F P D DQ S SP c n h g rc T Mt [eJ 1 1 o]) (csX := wA a z ln F P D DQ S SP c n h g rc T Mt [eJ 1 1 o]) rfl rfl (gOF (t := [eJ 1 1 o]) (O' := [wO (a 1) (a 11) (a 21) (a 31) (a 113) (a 116) (a 130) (z)]) (F' := wFl (fun k => a (1 + k)) (F) (P)) rfl rfl rfl rfl rfl rfl rfl rfl rfl rfl) (gOF (t := [eJ 1 1 o]) (O' := [wO (a 1) (a 11) (a 21) (a 31) (a 113) (a 116) (a 130) (z)]) (F' := wFl (fun k => a (1 + k)) (F) (P)) rfl rfl rfl rfl rfl rfl rfl rfl rfl rfl) (fun ge => ?_) (fun e he => ?_)
  · refine EV.eq (st' := [vi (w32 (sLead F s)), vi 0, .ref (a 131)]) (by show [vi (sLead F s), vi 0, .ref (a 131)] = _; rw [← w32_v]) ?_
    refine e_i2l dL_leaderAfter_7 rfl w32_in ?_
    refine e_lastore (i := 131) (N := 1) (x := o) dL_leaderAfter_8 rfl rfl wA_get (by decide) (by decide) ?_
    refine EV.ceq (cs' := wA a z ln F P D DQ S SP c n h g rc T Mt [eJ 1 1 (eU o 0 (w32 (sLead F s)))]) wA_set ?_
    refine e_goto (n := 18) dL_leaderAfter_9 rfl ?_
    refine e_iconst dL_leaderAfter_18 rfl ?_
    exact e_iret dL_leaderAfter_19 rfl rfl ⟨by rw [exK_n ge], rfl, fun _ => rfl, fun q => absurd ge q⟩
  · rcases hE e he with hc | hc <;> subst hc
    · refine e_catch (name := xAr) [] _ _ rfl (fun z hz => absurd hz List.not_mem_nil) rfl (by decide) wd_2_198 (List.mem_of_getElem? (i := 1) rfl) (fun q => ?_)
      refine f_astore_n dL_leaderAfter_12 rfl (Nat.le_of_ble_eq_true rfl) rfl ?_
      refine e_iconst dL_leaderAfter_13 rfl ?_
      exact e_iret dL_leaderAfter_14 rfl rfl ⟨by rw [exK_1 he], rfl, fun q => absurd (he.symm.trans q) (by simp), fun _ => rfl⟩
    · refine e_catch (name := xNo) [_] _ _ rfl (fun z hz => Or.inr (by rw [List.mem_singleton.mp hz]; exact ⟨by decide, xAr, wd_2_198, List.mem_of_getElem? (i := 79) rfl⟩)) rfl (by decide) wd_3_234 (List.mem_of_getElem? (i := 3) rfl) (fun q => ?_)
      refine f_astore_n dL_leaderAfter_15 rfl (Nat.le_of_ble_eq_true rfl) rfl ?_
      refine e_iconst dL_leaderAfter_16 rfl ?_
      exact e_iret dL_leaderAfter_17 rfl rfl ⟨by rw [exK_2 he (by decide)], rfl, fun q => absurd (he.symm.trans q) (by simp), fun _ => rfl⟩
