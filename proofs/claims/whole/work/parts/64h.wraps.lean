/-! ===== the law: wrappers ===== -/
theorem C_L_stepsToTarget {X : eXT} {a : Nat → Nat} {z : Nat → Int} {ln : Int → Int} {F : eFs} {P : Int → Int} {D : eFs} {DQ : Int → Int} {S : eFs} {SP : Int → Int} {c n : Int} {h : eHs} {g rc : Int → Int} {T : eFs} {Mt : Int → Int → Int} {o : Int → Int} {N : Int} (hF : okF N F) (hNs : N + 40000 ≤ 100000000) :
    EM X mL_stepsToTarget (eRt 10 2) a [.ref (a 0), .ref (a 131)] (wA a z ln F P D DQ S SP c n h g rc T Mt [eJ 1 1 o]) (eRets (some (vi (exK ((if ¬ F.1 4 = -1 then (if sHit (sTT F DQ).2.1 then none else some xNo) else some xNo)) xNo "" ""))) a (fun cs1 => ((if ¬ F.1 4 = -1 then (if sHit (sTT F DQ).2.1 then none else some xNo) else some xNo) = none → cs1 = wA a z ln F P ((sTT F DQ).2.1) ((sTT F DQ).2.2) S SP c n h g rc T Mt [eJ 1 1 (eU o 0 (w32 ((sTT F DQ).1)))]) ∧ (¬ (if ¬ F.1 4 = -1 then (if sHit (sTT F DQ).2.1 then none else some xNo) else some xNo) = none → cs1 = wA a z ln F P (if ¬ F.1 4 = -1 then (sTT F DQ).2.1 else D) (if ¬ F.1 4 = -1 then (sTT F DQ).2.2 else DQ) S SP c n h g rc T Mt [eJ 1 1 o]))) := by
  have hE : ∀ e, (if ¬ F.1 4 = -1 then (if sHit (sTT F DQ).2.1 then none else some xNo) else some xNo) = some e → e = xNo := by
    intro e he
    (repeat' split at he) <;> first | (cases he; done) | (injection he with he; subst he; first | exact rfl | exact Or.inl rfl | exact Or.inr rfl | exact Or.inr (Or.inl rfl) | exact Or.inr (Or.inr rfl))
  refine EM.of (by decide +kernel) rfl (Nat.le_of_ble_eq_true rfl) ?_
  refine e_aload_n dL_stepsToTarget_0 rfl rfl ?_
  refine e_iconst dL_stepsToTarget_1 rfl ?_
  refine e_aload_n dL_stepsToTarget_2 rfl rfl ?_
  refine e_cVo (b' := (0, 0)) [0, 1, 2, 3, 4, 5, 6, 7, 8, 9, 10, 11, 12, 13, 14, 15, 16, 17, 18, 19, 20] lk_L_87 rfl dL_stepsToTarget_3 rfl (C_X6_stepsToTarget (z := z) (F := F) (P := P) (F2 := D) (P2 := DQ) hF hNs) rfl rfl (Nat.le_of_ble_eq_true rfl) (Nat.le_of_ble_eq_true rfl) (Nat.le_of_ble_eq_true rfl) ⟨(Nat.le_of_ble_eq_true rfl), (Nat.le_of_ble_eq_true rfl)⟩ rfl rfl rfl rfl rfl rfl (cs' := wA a z ln F P ((sTT F DQ).2.1) ((sTT F DQ).2.2) S SP c n h g rc T Mt [eJ 1 1 o]) (csX := wA a z ln F P (if ¬ F.1 4 = -1 then (sTT F DQ).2.1 else D) (if ¬ F.1 4 = -1 then (sTT F DQ).2.2 else DQ) S SP c n h g rc T Mt [eJ 1 1 o]) rfl (by split <;> rfl) (gOFD (t := [eJ 1 1 o]) (O' := [wO (a 1) (a 11) (a 21) (a 31) (a 113) (a 116) (a 130) (z)]) (F' := wFl (fun k => a (1 + k)) (F) (P)) (D' := wFl (fun k => a (11 + k)) ((sTT F DQ).2.1) ((sTT F DQ).2.2)) rfl rfl rfl rfl rfl rfl rfl rfl rfl rfl rfl) (by by_cases q : ¬ F.1 4 = -1; rw [if_pos q, if_pos q, if_pos q]; exact (gOFD (t := [eJ 1 1 o]) (O' := [wO (a 1) (a 11) (a 21) (a 31) (a 113) (a 116) (a 130) (z)]) (F' := wFl (fun k => a (1 + k)) (F) (P)) (D' := wFl (fun k => a (11 + k)) ((sTT F DQ).2.1) ((sTT F DQ).2.2)) rfl rfl rfl rfl rfl rfl rfl rfl rfl rfl rfl); rw [if_neg q, if_neg q, if_neg q]; exact (gOFD (t := [eJ 1 1 o]) (O' := [wO (a 1) (a 11) (a 21) (a 31) (a 113) (a 116) (a 130) (z)]) (F' := wFl (fun k => a (1 + k)) (F) (P)) (D' := wFl (fun k => a (11 + k)) (D) (DQ)) rfl rfl rfl rfl rfl rfl rfl rfl rfl rfl rfl)) (fun ge => ?_) (fun e he => ?_)
  · refine EV.eq (st' := [vi (w32 ((sTT F DQ).1)), vi 0, .ref (a 131)]) (by show [vi ((sTT F DQ).1), vi 0, .ref (a 131)] = _; rw [← w32_v]) ?_
    refine e_i2l dL_stepsToTarget_6 rfl w32_in ?_
    refine e_lastore (i := 131) (N := 1) (x := o) dL_stepsToTarget_7 rfl rfl wA_get (by decide) (by decide) ?_
    refine EV.ceq (cs' := wA a z ln F P ((sTT F DQ).2.1) ((sTT F DQ).2.2) S SP c n h g rc T Mt [eJ 1 1 (eU o 0 (w32 ((sTT F DQ).1)))]) wA_set ?_
    refine e_goto (n := 14) dL_stepsToTarget_8 rfl ?_
    refine e_iconst dL_stepsToTarget_14 rfl ?_
    exact e_iret dL_stepsToTarget_15 rfl rfl ⟨by rw [exK_n ge], rfl, fun _ => rfl, fun q => absurd ge q⟩
  · have hc := hE e he
    subst hc
    refine e_catch (name := xNo) [] _ _ rfl (fun z hz => absurd hz List.not_mem_nil) rfl (by decide) wd_3_234 (List.mem_of_getElem? (i := 3) rfl) (fun q => ?_)
    refine f_astore_n dL_stepsToTarget_11 rfl (Nat.le_of_ble_eq_true rfl) rfl ?_
    refine e_iconst dL_stepsToTarget_12 rfl ?_
    exact e_iret dL_stepsToTarget_13 rfl rfl ⟨by rw [exK_1 he], rfl, fun q => absurd (he.symm.trans q) (by simp), fun _ => rfl⟩
theorem C_L_run {X : eXT} {a : Nat → Nat} {z : Nat → Int} {ln : Int → Int} {F : eFs} {P : Int → Int} {D : eFs} {DQ : Int → Int} {S : eFs} {SP : Int → Int} {c n : Int} {h : eHs} {g rc : Int → Int} {T : eFs} {Mt : Int → Int → Int} {o : Int → Int} {N : Int} (hF : okF N F) (hT : okT T Mt) (hz : okZ z) (hcc : 0 ≤ c ∧ c ≤ 8) (hnn : 0 ≤ n ∧ n ≤ 7) (hC : okC F) (hNs : N + 40000 ≤ 100000000) :
    EM X mL_run (eRt 10 2) a [.ref (a 0), .ref (a 131)] (wA a z ln F P D DQ S SP c n h g rc T Mt [eJ 1 1 o]) (eRets (some (vi (exK ((if (tPR T Mt).1 = -1 then (if (sRn ((tPR T Mt).2.2.2.1) ((tPR T Mt).2.2.2.2) ((tPR T Mt).2.1 - 0).toNat 0 F DQ).1 = -1 then none else some xSt) else some xAr)) xAr xSt ""))) a (fun cs1 => ((if (tPR T Mt).1 = -1 then (if (sRn ((tPR T Mt).2.2.2.1) ((tPR T Mt).2.2.2.2) ((tPR T Mt).2.1 - 0).toNat 0 F DQ).1 = -1 then none else some xSt) else some xAr) = none → cs1 = wA a z ln ((sRn ((tPR T Mt).2.2.2.1) ((tPR T Mt).2.2.2.2) ((tPR T Mt).2.1 - 0).toNat 0 F DQ).2.1) P ((sRn ((tPR T Mt).2.2.2.1) ((tPR T Mt).2.2.2.2) ((tPR T Mt).2.1 - 0).toNat 0 F DQ).2.1) ((sRn ((tPR T Mt).2.2.2.1) ((tPR T Mt).2.2.2.2) ((tPR T Mt).2.1 - 0).toNat 0 F DQ).2.2) S SP (if 8 < c + 1 then 8 else c + 1) (if n + 1 < 8 then n + 1 else 0) (hU h n.toNat F) g rc (tRun T Mt) ((tPR T Mt).2.2.2.2) [eJ 1 1 (eU o 0 (w32 ((tPR T Mt).2.1)))]) ∧ (¬ (if (tPR T Mt).1 = -1 then (if (sRn ((tPR T Mt).2.2.2.1) ((tPR T Mt).2.2.2.2) ((tPR T Mt).2.1 - 0).toNat 0 F DQ).1 = -1 then none else some xSt) else some xAr) = none → cs1 = wA a (if (tPR T Mt).1 = -1 then zS (zHi z (sRn ((tPR T Mt).2.2.2.1) ((tPR T Mt).2.2.2.2) ((tPR T Mt).2.1 - 0).toNat 0 F DQ).2.1 ((tPR T Mt).2.2.2.1 (sRn ((tPR T Mt).2.2.2.1) ((tPR T Mt).2.2.2.2) ((tPR T Mt).2.1 - 0).toNat 0 F DQ).1) ((tPR T Mt).2.2.2.2 (sRn ((tPR T Mt).2.2.2.1) ((tPR T Mt).2.2.2.2) ((tPR T Mt).2.1 - 0).toNat 0 F DQ).1 0) ((tPR T Mt).2.2.2.2 (sRn ((tPR T Mt).2.2.2.1) ((tPR T Mt).2.2.2.2) ((tPR T Mt).2.1 - 0).toNat 0 F DQ).1 1) ((tPR T Mt).2.2.2.2 (sRn ((tPR T Mt).2.2.2.1) ((tPR T Mt).2.2.2.2) ((tPR T Mt).2.1 - 0).toNat 0 F DQ).1 2)) 1 (sRn ((tPR T Mt).2.2.2.1) ((tPR T Mt).2.2.2.2) ((tPR T Mt).2.1 - 0).toNat 0 F DQ).1 else zS z 0 (tPR T Mt).1) ln F P (if (tPR T Mt).1 = -1 then (sRn ((tPR T Mt).2.2.2.1) ((tPR T Mt).2.2.2.2) ((tPR T Mt).2.1 - 0).toNat 0 F DQ).2.1 else D) (if (tPR T Mt).1 = -1 then (sRn ((tPR T Mt).2.2.2.1) ((tPR T Mt).2.2.2.2) ((tPR T Mt).2.1 - 0).toNat 0 F DQ).2.2 else DQ) S SP c n h g rc (tRun T Mt) ((tPR T Mt).2.2.2.2) [eJ 1 1 o]))) := by
  have hE : ∀ e, (if (tPR T Mt).1 = -1 then (if (sRn ((tPR T Mt).2.2.2.1) ((tPR T Mt).2.2.2.2) ((tPR T Mt).2.1 - 0).toNat 0 F DQ).1 = -1 then none else some xSt) else some xAr) = some e → e = xAr ∨ e = xSt := by
    intro e he
    (repeat' split at he) <;> first | (cases he; done) | (injection he with he; subst he; first | exact rfl | exact Or.inl rfl | exact Or.inr rfl | exact Or.inr (Or.inl rfl) | exact Or.inr (Or.inr rfl))
  refine EM.of (by decide +kernel) rfl (Nat.le_of_ble_eq_true rfl) ?_
  refine e_aload_n dL_run_0 rfl rfl ?_
  refine e_iconst dL_run_1 rfl ?_
  refine e_aload_n dL_run_2 rfl rfl ?_
  refine e_cVo (b' := (1, 6)) [0, 116, 117, 118, 119, 120, 121, 122, 123, 124, 125, 126, 127, 128, 129, 11, 12, 13, 14, 15, 16, 17, 18, 19, 20, 31, 32, 33, 34, 35, 36, 37, 38, 39, 40, 41, 42, 43, 44, 45, 46, 47, 48, 49, 50, 51, 52, 53, 54, 55, 56, 57, 58, 59, 60, 61, 62, 63, 64, 65, 66, 67, 68, 69, 70, 71, 72, 73, 74, 75, 76, 77, 78, 79, 80, 81, 82, 83, 84, 85, 86, 87, 88, 89, 90, 91, 92, 93, 94, 95, 96, 97, 98, 99, 100, 101, 102, 103, 104, 105, 106, 107, 108, 109, 110, 111, 112, 1, 2, 3, 4, 5, 6, 7, 8, 9, 10] lk_L_112 rfl dL_run_3 rfl (C_X6_run (z := z) (T := T) (M := Mt) (D := D) (DQ := DQ) (c := c) (n := n) (h := h) (F := F) (P := P) hT hz hcc hnn hF hC hNs) rfl rfl (Nat.le_of_ble_eq_true rfl) (Nat.le_of_ble_eq_true rfl) (Nat.le_of_ble_eq_true rfl) ⟨(Nat.le_of_ble_eq_true rfl), (Nat.le_of_ble_eq_true rfl)⟩ rfl rfl rfl rfl rfl rfl (cs' := wA a z ln ((sRn ((tPR T Mt).2.2.2.1) ((tPR T Mt).2.2.2.2) ((tPR T Mt).2.1 - 0).toNat 0 F DQ).2.1) P ((sRn ((tPR T Mt).2.2.2.1) ((tPR T Mt).2.2.2.2) ((tPR T Mt).2.1 - 0).toNat 0 F DQ).2.1) ((sRn ((tPR T Mt).2.2.2.1) ((tPR T Mt).2.2.2.2) ((tPR T Mt).2.1 - 0).toNat 0 F DQ).2.2) S SP (if 8 < c + 1 then 8 else c + 1) (if n + 1 < 8 then n + 1 else 0) (hU h n.toNat F) g rc (tRun T Mt) ((tPR T Mt).2.2.2.2) [eJ 1 1 o]) (csX := wA a (if (tPR T Mt).1 = -1 then zS (zHi z (sRn ((tPR T Mt).2.2.2.1) ((tPR T Mt).2.2.2.2) ((tPR T Mt).2.1 - 0).toNat 0 F DQ).2.1 ((tPR T Mt).2.2.2.1 (sRn ((tPR T Mt).2.2.2.1) ((tPR T Mt).2.2.2.2) ((tPR T Mt).2.1 - 0).toNat 0 F DQ).1) ((tPR T Mt).2.2.2.2 (sRn ((tPR T Mt).2.2.2.1) ((tPR T Mt).2.2.2.2) ((tPR T Mt).2.1 - 0).toNat 0 F DQ).1 0) ((tPR T Mt).2.2.2.2 (sRn ((tPR T Mt).2.2.2.1) ((tPR T Mt).2.2.2.2) ((tPR T Mt).2.1 - 0).toNat 0 F DQ).1 1) ((tPR T Mt).2.2.2.2 (sRn ((tPR T Mt).2.2.2.1) ((tPR T Mt).2.2.2.2) ((tPR T Mt).2.1 - 0).toNat 0 F DQ).1 2)) 1 (sRn ((tPR T Mt).2.2.2.1) ((tPR T Mt).2.2.2.2) ((tPR T Mt).2.1 - 0).toNat 0 F DQ).1 else zS z 0 (tPR T Mt).1) ln F P (if (tPR T Mt).1 = -1 then (sRn ((tPR T Mt).2.2.2.1) ((tPR T Mt).2.2.2.2) ((tPR T Mt).2.1 - 0).toNat 0 F DQ).2.1 else D) (if (tPR T Mt).1 = -1 then (sRn ((tPR T Mt).2.2.2.1) ((tPR T Mt).2.2.2.2) ((tPR T Mt).2.1 - 0).toNat 0 F DQ).2.2 else DQ) S SP c n h g rc (tRun T Mt) ((tPR T Mt).2.2.2.2) [eJ 1 1 o]) rfl (by split <;> rfl) (gOTDHF (t := [eJ 1 1 o]) (O' := [wO (a 1) (a 11) (a 21) (a 31) (a 113) (a 116) (a 130) (z)]) (T' := wTx (fun k => a (116 + k)) (tRun T Mt) ((tPR T Mt).2.2.2.2)) (D' := wFl (fun k => a (11 + k)) ((sRn ((tPR T Mt).2.2.2.1) ((tPR T Mt).2.2.2.2) ((tPR T Mt).2.1 - 0).toNat 0 F DQ).2.1) ((sRn ((tPR T Mt).2.2.2.1) ((tPR T Mt).2.2.2.2) ((tPR T Mt).2.1 - 0).toNat 0 F DQ).2.2)) (H' := wHi (fun k => a (31 + k)) (if 8 < c + 1 then 8 else c + 1) (if n + 1 < 8 then n + 1 else 0) (hU h n.toNat F)) (F' := wFl (fun k => a (1 + k)) ((sRn ((tPR T Mt).2.2.2.1) ((tPR T Mt).2.2.2.2) ((tPR T Mt).2.1 - 0).toNat 0 F DQ).2.1) (P)) rfl rfl rfl rfl rfl rfl rfl rfl rfl rfl rfl rfl rfl) (by by_cases q : (tPR T Mt).1 = -1; rw [if_pos q, if_pos q, if_pos q, if_pos q]; exact (gOTDHF (t := [eJ 1 1 o]) (O' := [wO (a 1) (a 11) (a 21) (a 31) (a 113) (a 116) (a 130) (zS (zHi z (sRn ((tPR T Mt).2.2.2.1) ((tPR T Mt).2.2.2.2) ((tPR T Mt).2.1 - 0).toNat 0 F DQ).2.1 ((tPR T Mt).2.2.2.1 (sRn ((tPR T Mt).2.2.2.1) ((tPR T Mt).2.2.2.2) ((tPR T Mt).2.1 - 0).toNat 0 F DQ).1) ((tPR T Mt).2.2.2.2 (sRn ((tPR T Mt).2.2.2.1) ((tPR T Mt).2.2.2.2) ((tPR T Mt).2.1 - 0).toNat 0 F DQ).1 0) ((tPR T Mt).2.2.2.2 (sRn ((tPR T Mt).2.2.2.1) ((tPR T Mt).2.2.2.2) ((tPR T Mt).2.1 - 0).toNat 0 F DQ).1 1) ((tPR T Mt).2.2.2.2 (sRn ((tPR T Mt).2.2.2.1) ((tPR T Mt).2.2.2.2) ((tPR T Mt).2.1 - 0).toNat 0 F DQ).1 2)) 1 (sRn ((tPR T Mt).2.2.2.1) ((tPR T Mt).2.2.2.2) ((tPR T Mt).2.1 - 0).toNat 0 F DQ).1)]) (T' := wTx (fun k => a (116 + k)) (tRun T Mt) ((tPR T Mt).2.2.2.2)) (D' := wFl (fun k => a (11 + k)) ((sRn ((tPR T Mt).2.2.2.1) ((tPR T Mt).2.2.2.2) ((tPR T Mt).2.1 - 0).toNat 0 F DQ).2.1) ((sRn ((tPR T Mt).2.2.2.1) ((tPR T Mt).2.2.2.2) ((tPR T Mt).2.1 - 0).toNat 0 F DQ).2.2)) (H' := wHi (fun k => a (31 + k)) (c) (n) (h)) (F' := wFl (fun k => a (1 + k)) (F) (P)) rfl rfl rfl rfl rfl rfl rfl rfl rfl rfl rfl rfl rfl); rw [if_neg q, if_neg q, if_neg q, if_neg q]; exact (gOTDHF (t := [eJ 1 1 o]) (O' := [wO (a 1) (a 11) (a 21) (a 31) (a 113) (a 116) (a 130) (zS z 0 (tPR T Mt).1)]) (T' := wTx (fun k => a (116 + k)) (tRun T Mt) ((tPR T Mt).2.2.2.2)) (D' := wFl (fun k => a (11 + k)) (D) (DQ)) (H' := wHi (fun k => a (31 + k)) (c) (n) (h)) (F' := wFl (fun k => a (1 + k)) (F) (P)) rfl rfl rfl rfl rfl rfl rfl rfl rfl rfl rfl rfl rfl)) (fun ge => ?_) (fun e he => ?_)
  · refine EV.eq (st' := [vi (w32 ((tPR T Mt).2.1)), vi 0, .ref (a 131)]) (by show [vi ((tPR T Mt).2.1), vi 0, .ref (a 131)] = _; rw [← w32_v]) ?_
    refine e_i2l dL_run_6 rfl w32_in ?_
    refine e_lastore (i := 131) (N := 1) (x := o) dL_run_7 rfl rfl wA_get (by decide) (by decide) ?_
    refine EV.ceq (cs' := wA a z ln ((sRn ((tPR T Mt).2.2.2.1) ((tPR T Mt).2.2.2.2) ((tPR T Mt).2.1 - 0).toNat 0 F DQ).2.1) P ((sRn ((tPR T Mt).2.2.2.1) ((tPR T Mt).2.2.2.2) ((tPR T Mt).2.1 - 0).toNat 0 F DQ).2.1) ((sRn ((tPR T Mt).2.2.2.1) ((tPR T Mt).2.2.2.2) ((tPR T Mt).2.1 - 0).toNat 0 F DQ).2.2) S SP (if 8 < c + 1 then 8 else c + 1) (if n + 1 < 8 then n + 1 else 0) (hU h n.toNat F) g rc (tRun T Mt) ((tPR T Mt).2.2.2.2) [eJ 1 1 (eU o 0 (w32 ((tPR T Mt).2.1)))]) wA_set ?_
    refine e_goto (n := 17) dL_run_8 rfl ?_
    refine e_iconst dL_run_17 rfl ?_
    exact e_iret dL_run_18 rfl rfl ⟨by rw [exK_n ge], rfl, fun _ => rfl, fun q => absurd ge q⟩
  · rcases hE e he with hc | hc <;> subst hc
    · refine e_catch (name := xAr) [] _ _ rfl (fun z hz => absurd hz List.not_mem_nil) rfl (by decide) wd_2_198 (List.mem_of_getElem? (i := 1) rfl) (fun q => ?_)
      refine f_astore_n dL_run_11 rfl (Nat.le_of_ble_eq_true rfl) rfl ?_
      refine e_iconst dL_run_12 rfl ?_
      exact e_iret dL_run_13 rfl rfl ⟨by rw [exK_1 he], rfl, fun q => absurd (he.symm.trans q) (by simp), fun _ => rfl⟩
    · refine e_catch (name := xSt) [_] _ _ rfl (fun z hz => Or.inr (by rw [List.mem_singleton.mp hz]; exact ⟨by decide, xAr, wd_2_198, List.mem_of_getElem? (i := 64) rfl⟩)) rfl (by decide) wd_2_199 (List.mem_of_getElem? (i := 2) rfl) (fun q => ?_)
      refine f_astore_n dL_run_14 rfl (Nat.le_of_ble_eq_true rfl) rfl ?_
      refine e_iconst dL_run_15 rfl ?_
      exact e_iret dL_run_16 rfl rfl ⟨by rw [exK_2 he (by decide)], rfl, fun q => absurd (he.symm.trans q) (by simp), fun _ => rfl⟩
theorem C_L_formationOf {X : eXT} {a : Nat → Nat} {z : Nat → Int} {ln : Int → Int} {F : eFs} {P : Int → Int} {D : eFs} {DQ : Int → Int} {S : eFs} {SP : Int → Int} {c n : Int} {h : eHs} {g rc : Int → Int} {T : eFs} {Mt : Int → Int → Int} {o : Int → Int} {N : Int} (hF : okF N F) (hg : okG g) (hr : ∀ j, 0 ≤ rc j ∧ rc j ≤ 9) {b : Int} (gb : -2147483648 ≤ b ∧ b ≤ 2147483647) :
    EM X mL_formationOf (eRt 10 2) a [.ref (a 0), vi b, .ref (a 131)] (wA a z ln F P D DQ S SP c n h g rc T Mt [eJ 1 1 o]) (eRets (some (vi (exK (if sHas F b then none else some xIx) xIx "" ""))) a (fun cs1 => ∃ g1 rc1 : Int → Int, (∀ j, 0 ≤ rc1 j ∧ rc1 j ≤ 9) ∧ okG g1 ∧ ((if sHas F b then none else some xIx) = none → cs1 = wA a z ln F P D DQ S SP c n h g1 rc1 T Mt [eJ 1 1 (eU o 0 (w32 (sGr F b)))]) ∧ (¬ (if sHas F b then none else some xIx) = none → cs1 = wA a z ln F P D DQ S SP c n h g1 rc1 T Mt [eJ 1 1 o]))) := by
  have hE : ∀ e, (if sHas F b then none else some xIx) = some e → e = xIx := by
    intro e he
    split at he
    · cases he
    · injection he with he; exact he.symm
  refine EM.of (by decide +kernel) rfl (Nat.le_of_ble_eq_true rfl) ?_
  refine e_aload_n dL_formationOf_0 rfl rfl ?_
  refine e_iconst dL_formationOf_1 rfl ?_
  refine e_aload_n dL_formationOf_2 rfl rfl ?_
  refine e_iload_n dL_formationOf_3 rfl rfl ?_
  refine e_cV (b' := (1, 6)) [0, 1, 2, 3, 4, 5, 6, 7, 8, 9, 10, 113, 114, 115] lk_L_99 rfl dL_formationOf_4 rfl (C_X6_formationOf (z := z) (F := F) (P := P) (g := g) (rc := rc) hF hg hr (by omega)) rfl rfl (Nat.le_of_ble_eq_true rfl) (Nat.le_of_ble_eq_true rfl) (Nat.le_of_ble_eq_true rfl) ⟨(Nat.le_of_ble_eq_true rfl), (Nat.le_of_ble_eq_true rfl)⟩ rfl rfl rfl rfl rfl rfl (fun o1 a1 cs1 hq => ?_) (fun w cs1 hq => ?_) (fun e cs1 hq => ?_)
  · obtain ⟨h1, ⟨g1, rc1, h2, -, -⟩, -⟩ := hq
    exact ⟨h1, by rw [h2]; rfl⟩
  · obtain ⟨-, ⟨g1, rc1, h2, h3, h4⟩, h5⟩ := hq
    by_cases ge : (if sHas F b then none else some xIx) = none
    · rw [ge] at h5
      cases h5
      subst h2
      refine EV.ceq (cs' := wA a z ln F P D DQ S SP c n h g1 rc1 T Mt [eJ 1 1 o]) (gOFG (t := [eJ 1 1 o]) (O' := [wO (a 1) (a 11) (a 21) (a 31) (a 113) (a 116) (a 130) (z)]) (F' := wFl (fun k => a (1 + k)) (F) (P)) (G' := [.inr (3, [.ref (a 114), .ref (a 115)]), eI 0 10 g1, eI 0 10 rc1]) rfl rfl rfl rfl rfl rfl rfl rfl rfl rfl rfl) ?_
      refine EV.eq (st' := [vi (w32 (sGr F b)), vi 0, .ref (a 131)]) (by show [vi (sGr F b), vi 0, .ref (a 131)] = _; rw [← w32_v]) ?_
      refine e_i2l dL_formationOf_7 rfl w32_in ?_
      refine e_lastore (i := 131) (N := 1) (x := o) dL_formationOf_8 rfl rfl wA_get (by decide) (by decide) ?_
      refine EV.ceq (cs' := wA a z ln F P D DQ S SP c n h g1 rc1 T Mt [eJ 1 1 (eU o 0 (w32 (sGr F b)))]) wA_set ?_
      refine e_goto (n := 15) dL_formationOf_9 rfl ?_
      refine e_iconst dL_formationOf_15 rfl ?_
      exact e_iret dL_formationOf_16 rfl rfl ⟨by rw [exK_n ge], rfl, g1, rc1, h3, h4, fun _ => rfl, fun q => absurd ge q⟩
    · have he : (if sHas F b then none else some xIx) = some xIx := by
        split at ge
        · exact absurd rfl ge
        · rename_i q; exact if_neg q
      rw [he] at h5
      cases h5
  · obtain ⟨-, ⟨g1, rc1, h2, h3, h4⟩, h5⟩ := hq
    by_cases ge : (if sHas F b then none else some xIx) = none
    · rw [ge] at h5
      cases h5
    · have he : (if sHas F b then none else some xIx) = some xIx := by
        split at ge
        · exact absurd rfl ge
        · rename_i q; exact if_neg q
      have hc : e = xIx := by
        rw [he] at h5
        cases h5
        rfl
      subst hc
      subst h2
      refine EX.ceq (cs' := wA a z ln F P D DQ S SP c n h g1 rc1 T Mt [eJ 1 1 o]) (gOFG (t := [eJ 1 1 o]) (O' := [wO (a 1) (a 11) (a 21) (a 31) (a 113) (a 116) (a 130) (z)]) (F' := wFl (fun k => a (1 + k)) (F) (P)) (G' := [.inr (3, [.ref (a 114), .ref (a 115)]), eI 0 10 g1, eI 0 10 rc1]) rfl rfl rfl rfl rfl rfl rfl rfl rfl rfl rfl) ?_
      refine e_catch (name := xIx) [] _ _ rfl (fun z hz => absurd hz List.not_mem_nil) rfl (by decide) wd_3_165 (List.mem_of_getElem? (i := 0) rfl) (fun q => ?_)
      refine f_astore_n dL_formationOf_12 rfl (Nat.le_of_ble_eq_true rfl) rfl ?_
      refine e_iconst dL_formationOf_13 rfl ?_
      exact e_iret dL_formationOf_14 rfl rfl ⟨by rw [exK_1 he], rfl, g1, rc1, h3, h4, fun q => absurd (he.symm.trans q) (by simp), fun _ => rfl⟩
