/-! ===== the law: wrappers ===== -/
theorem C_L_removeCloud {X : eXT} {a : Nat → Nat} {z : Nat → Int} {ln : Int → Int} {F : eFs} {P : Int → Int} {D : eFs} {DQ : Int → Int} {S : eFs} {SP : Int → Int} {c n : Int} {h : eHs} {g rc : Int → Int} {T : eFs} {Mt : Int → Int → Int} {o : Int → Int} {N : Int} (hF : okF N F) (hcc : 0 ≤ c ∧ c ≤ 8) (hnn : 0 ≤ n ∧ n ≤ 7) {x y : Int} (gx : -2147483648 ≤ x ∧ x ≤ 2147483647) (gy : -2147483648 ≤ y ∧ y ≤ 2147483647) :
    EM X mL_removeCloud (eRt 10 2) a [.ref (a 0), vi x, vi y, .ref (a 131)] (wA a z ln F P D DQ S SP c n h g rc T Mt [eJ 1 1 o]) (eRets (some (vi (exK (eEx (sHin F 4 x y 0)) xAr xNo ""))) a (fun cs1 => (eEx (sHin F 4 x y 0) = none → cs1 = wA a z ln (sDo F 4 x y 0) P D DQ S SP (if 8 < c + 1 then 8 else c + 1) (if n + 1 < 8 then n + 1 else 0) (hU h n.toNat F) g rc T Mt [eJ 1 1 (eU o 0 (w32 (sDoR F 4 x y 0)))]) ∧ (¬ eEx (sHin F 4 x y 0) = none → cs1 = wA a (zHi z F 4 x y 0) ln F P D DQ S SP c n h g rc T Mt [eJ 1 1 o]))) := by
  have hE : ∀ e, eEx (sHin F 4 x y 0) = some e → e = xAr ∨ e = xNo := by
    intro e he
    rcases hk_4 (F := F) (p := x) (q := y) (r := 0) with w | w | w <;> rw [w] at he
    · exact absurd (show (none : Option String) = some e from he) (by simp)
    · injection (show some xAr = some e from he) with he
      subst he
      exact Or.inl rfl
    · injection (show some xNo = some e from he) with he
      subst he
      exact Or.inr rfl
  refine EM.of (by decide +kernel) rfl (Nat.le_of_ble_eq_true rfl) ?_
  refine e_aload_n dL_removeCloud_0 rfl rfl ?_
  refine e_iconst dL_removeCloud_1 rfl ?_
  refine e_aload_n dL_removeCloud_2 rfl rfl ?_
  refine e_iload_n dL_removeCloud_3 rfl rfl ?_
  refine e_iload_n dL_removeCloud_4 rfl rfl ?_
  refine e_cVo (b' := (1, 6)) [0, 1, 2, 3, 4, 5, 6, 7, 8, 9, 10, 31, 32, 33, 34, 35, 36, 37, 38, 39, 40, 41, 42, 43, 44, 45, 46, 47, 48, 49, 50, 51, 52, 53, 54, 55, 56, 57, 58, 59, 60, 61, 62, 63, 64, 65, 66, 67, 68, 69, 70, 71, 72, 73, 74, 75, 76, 77, 78, 79, 80, 81, 82, 83, 84, 85, 86, 87, 88, 89, 90, 91, 92, 93, 94, 95, 96, 97, 98, 99, 100, 101, 102, 103, 104, 105, 106, 107, 108, 109, 110, 111, 112] lk_L_59 rfl dL_removeCloud_5 rfl (C_X6_removeCloud (z := z) (F := F) (P := P) (c := c) (n := n) (h := h) hF hcc hnn (by omega) (by omega)) rfl rfl (Nat.le_of_ble_eq_true rfl) (Nat.le_of_ble_eq_true rfl) (Nat.le_of_ble_eq_true rfl) ⟨(Nat.le_of_ble_eq_true rfl), (Nat.le_of_ble_eq_true rfl)⟩ rfl rfl rfl rfl rfl rfl (cs' := wA a z ln (sDo F 4 x y 0) P D DQ S SP (if 8 < c + 1 then 8 else c + 1) (if n + 1 < 8 then n + 1 else 0) (hU h n.toNat F) g rc T Mt [eJ 1 1 o]) (csX := wA a (zHi z F 4 x y 0) ln F P D DQ S SP c n h g rc T Mt [eJ 1 1 o]) rfl rfl (gOFH (t := [eJ 1 1 o]) (O' := [wO (a 1) (a 11) (a 21) (a 31) (a 113) (a 116) (a 130) (z)]) (F' := wFl (fun k => a (1 + k)) (sDo F 4 x y 0) (P)) (H' := wHi (fun k => a (31 + k)) (if 8 < c + 1 then 8 else c + 1) (if n + 1 < 8 then n + 1 else 0) (hU h n.toNat F)) rfl rfl rfl rfl rfl rfl rfl rfl rfl rfl rfl) (gOFH (t := [eJ 1 1 o]) (O' := [wO (a 1) (a 11) (a 21) (a 31) (a 113) (a 116) (a 130) (zHi z F 4 x y 0)]) (F' := wFl (fun k => a (1 + k)) (F) (P)) (H' := wHi (fun k => a (31 + k)) (c) (n) (h)) rfl rfl rfl rfl rfl rfl rfl rfl rfl rfl rfl) (fun ge => ?_) (fun e he => ?_)
  · refine EV.eq (st' := [vi (w32 (sDoR F 4 x y 0)), vi 0, .ref (a 131)]) (by show [vi (sDoR F 4 x y 0), vi 0, .ref (a 131)] = _; rw [← w32_v]) ?_
    refine e_i2l dL_removeCloud_8 rfl w32_in ?_
    refine e_lastore (i := 131) (N := 1) (x := o) dL_removeCloud_9 rfl rfl wA_get (by decide) (by decide) ?_
    refine EV.ceq (cs' := wA a z ln (sDo F 4 x y 0) P D DQ S SP (if 8 < c + 1 then 8 else c + 1) (if n + 1 < 8 then n + 1 else 0) (hU h n.toNat F) g rc T Mt [eJ 1 1 (eU o 0 (w32 (sDoR F 4 x y 0)))]) wA_set ?_
    refine e_goto (n := 21) dL_removeCloud_10 rfl ?_
    refine e_iconst dL_removeCloud_21 rfl ?_
    exact e_iret dL_removeCloud_22 rfl rfl ⟨by rw [exK_n ge], rfl, fun _ => rfl, fun q => absurd ge q⟩
  · rcases hE e he with hc | hc <;> subst hc
    · refine e_catch (name := xAr) [] _ _ rfl (fun z hz => absurd hz List.not_mem_nil) rfl (by decide) wd_2_198 (List.mem_of_getElem? (i := 1) rfl) (fun q => ?_)
      refine f_astore dL_removeCloud_13 rfl (Nat.le_of_ble_eq_true rfl) rfl ?_
      refine e_iconst dL_removeCloud_15 rfl ?_
      exact e_iret dL_removeCloud_16 rfl rfl ⟨by rw [exK_1 he], rfl, fun q => absurd (he.symm.trans q) (by simp), fun _ => rfl⟩
    · refine e_catch (name := xNo) [_] _ _ rfl (fun z hz => Or.inr (by rw [List.mem_singleton.mp hz]; exact ⟨by decide, xAr, wd_2_198, List.mem_of_getElem? (i := 79) rfl⟩)) rfl (by decide) wd_3_234 (List.mem_of_getElem? (i := 3) rfl) (fun q => ?_)
      refine f_astore dL_removeCloud_17 rfl (Nat.le_of_ble_eq_true rfl) rfl ?_
      refine e_iconst dL_removeCloud_19 rfl ?_
      exact e_iret dL_removeCloud_20 rfl rfl ⟨by rw [exK_2 he (by decide)], rfl, fun q => absurd (he.symm.trans q) (by simp), fun _ => rfl⟩
theorem C_L_setTurnLength {X : eXT} {a : Nat → Nat} {z : Nat → Int} {ln : Int → Int} {F : eFs} {P : Int → Int} {D : eFs} {DQ : Int → Int} {S : eFs} {SP : Int → Int} {c n : Int} {h : eHs} {g rc : Int → Int} {T : eFs} {Mt : Int → Int → Int} {o : Int → Int} {N : Int} (hF : okF N F) (hcc : 0 ≤ c ∧ c ≤ 8) (hnn : 0 ≤ n ∧ n ≤ 7) {s : Int} (gs : -2147483648 ≤ s ∧ s ≤ 2147483647) :
    EM X mL_setTurnLength (eRt 10 2) a [.ref (a 0), vi s, .ref (a 131)] (wA a z ln F P D DQ S SP c n h g rc T Mt [eJ 1 1 o]) (eRets (some (vi (exK (eEx (sHin F 5 s 0 0)) xAr "" ""))) a (fun cs1 => (eEx (sHin F 5 s 0 0) = none → cs1 = wA a z ln (sDo F 5 s 0 0) P D DQ S SP (if 8 < c + 1 then 8 else c + 1) (if n + 1 < 8 then n + 1 else 0) (hU h n.toNat F) g rc T Mt [eJ 1 1 (eU o 0 (w32 (sDoR F 5 s 0 0)))]) ∧ (¬ eEx (sHin F 5 s 0 0) = none → cs1 = wA a (zHi z F 5 s 0 0) ln F P D DQ S SP c n h g rc T Mt [eJ 1 1 o]))) := by
  have hE : ∀ e, eEx (sHin F 5 s 0 0) = some e → e = xAr := by
    intro e he
    rcases hk_5 (F := F) (p := s) (q := 0) (r := 0) with w | w <;> rw [w] at he
    · exact absurd (show (none : Option String) = some e from he) (by simp)
    · injection (show some xAr = some e from he) with he
      subst he
      exact rfl
  refine EM.of (by decide +kernel) rfl (Nat.le_of_ble_eq_true rfl) ?_
  refine e_aload_n dL_setTurnLength_0 rfl rfl ?_
  refine e_iconst dL_setTurnLength_1 rfl ?_
  refine e_aload_n dL_setTurnLength_2 rfl rfl ?_
  refine e_iload_n dL_setTurnLength_3 rfl rfl ?_
  refine e_cVo (b' := (1, 6)) [0, 1, 2, 3, 4, 5, 6, 7, 8, 9, 10, 31, 32, 33, 34, 35, 36, 37, 38, 39, 40, 41, 42, 43, 44, 45, 46, 47, 48, 49, 50, 51, 52, 53, 54, 55, 56, 57, 58, 59, 60, 61, 62, 63, 64, 65, 66, 67, 68, 69, 70, 71, 72, 73, 74, 75, 76, 77, 78, 79, 80, 81, 82, 83, 84, 85, 86, 87, 88, 89, 90, 91, 92, 93, 94, 95, 96, 97, 98, 99, 100, 101, 102, 103, 104, 105, 106, 107, 108, 109, 110, 111, 112] lk_L_66 rfl dL_setTurnLength_4 rfl (C_X6_setTurnLength (z := z) (F := F) (P := P) (c := c) (n := n) (h := h) hF hcc hnn (by omega)) rfl rfl (Nat.le_of_ble_eq_true rfl) (Nat.le_of_ble_eq_true rfl) (Nat.le_of_ble_eq_true rfl) ⟨(Nat.le_of_ble_eq_true rfl), (Nat.le_of_ble_eq_true rfl)⟩ rfl rfl rfl rfl rfl rfl (cs' := wA a z ln (sDo F 5 s 0 0) P D DQ S SP (if 8 < c + 1 then 8 else c + 1) (if n + 1 < 8 then n + 1 else 0) (hU h n.toNat F) g rc T Mt [eJ 1 1 o]) (csX := wA a (zHi z F 5 s 0 0) ln F P D DQ S SP c n h g rc T Mt [eJ 1 1 o]) rfl rfl (gOFH (t := [eJ 1 1 o]) (O' := [wO (a 1) (a 11) (a 21) (a 31) (a 113) (a 116) (a 130) (z)]) (F' := wFl (fun k => a (1 + k)) (sDo F 5 s 0 0) (P)) (H' := wHi (fun k => a (31 + k)) (if 8 < c + 1 then 8 else c + 1) (if n + 1 < 8 then n + 1 else 0) (hU h n.toNat F)) rfl rfl rfl rfl rfl rfl rfl rfl rfl rfl rfl) (gOFH (t := [eJ 1 1 o]) (O' := [wO (a 1) (a 11) (a 21) (a 31) (a 113) (a 116) (a 130) (zHi z F 5 s 0 0)]) (F' := wFl (fun k => a (1 + k)) (F) (P)) (H' := wHi (fun k => a (31 + k)) (c) (n) (h)) rfl rfl rfl rfl rfl rfl rfl rfl rfl rfl rfl) (fun ge => ?_) (fun e he => ?_)
  · refine EV.eq (st' := [vi (w32 (sDoR F 5 s 0 0)), vi 0, .ref (a 131)]) (by show [vi (sDoR F 5 s 0 0), vi 0, .ref (a 131)] = _; rw [← w32_v]) ?_
    refine e_i2l dL_setTurnLength_7 rfl w32_in ?_
    refine e_lastore (i := 131) (N := 1) (x := o) dL_setTurnLength_8 rfl rfl wA_get (by decide) (by decide) ?_
    refine EV.ceq (cs' := wA a z ln (sDo F 5 s 0 0) P D DQ S SP (if 8 < c + 1 then 8 else c + 1) (if n + 1 < 8 then n + 1 else 0) (hU h n.toNat F) g rc T Mt [eJ 1 1 (eU o 0 (w32 (sDoR F 5 s 0 0)))]) wA_set ?_
    refine e_goto (n := 15) dL_setTurnLength_9 rfl ?_
    refine e_iconst dL_setTurnLength_15 rfl ?_
    exact e_iret dL_setTurnLength_16 rfl rfl ⟨by rw [exK_n ge], rfl, fun _ => rfl, fun q => absurd ge q⟩
  · have hc := hE e he
    subst hc
    refine e_catch (name := xAr) [] _ _ rfl (fun z hz => absurd hz List.not_mem_nil) rfl (by decide) wd_2_198 (List.mem_of_getElem? (i := 1) rfl) (fun q => ?_)
    refine f_astore_n dL_setTurnLength_12 rfl (Nat.le_of_ble_eq_true rfl) rfl ?_
    refine e_iconst dL_setTurnLength_13 rfl ?_
    exact e_iret dL_setTurnLength_14 rfl rfl ⟨by rw [exK_1 he], rfl, fun q => absurd (he.symm.trans q) (by simp), fun _ => rfl⟩
theorem C_L_setTarget {X : eXT} {a : Nat → Nat} {z : Nat → Int} {ln : Int → Int} {F : eFs} {P : Int → Int} {D : eFs} {DQ : Int → Int} {S : eFs} {SP : Int → Int} {c n : Int} {h : eHs} {g rc : Int → Int} {T : eFs} {Mt : Int → Int → Int} {o : Int → Int} {N : Int} (hF : okF N F) (hcc : 0 ≤ c ∧ c ≤ 8) (hnn : 0 ≤ n ∧ n ≤ 7) {x y : Int} (gx : -2147483648 ≤ x ∧ x ≤ 2147483647) (gy : -2147483648 ≤ y ∧ y ≤ 2147483647) :
    EM X mL_setTarget (eRt 10 2) a [.ref (a 0), vi x, vi y, .ref (a 131)] (wA a z ln F P D DQ S SP c n h g rc T Mt [eJ 1 1 o]) (eRets (some (vi (exK (eEx (sHin F 6 x y 0)) xAr xNo ""))) a (fun cs1 => (eEx (sHin F 6 x y 0) = none → cs1 = wA a z ln (sDo F 6 x y 0) P D DQ S SP (if 8 < c + 1 then 8 else c + 1) (if n + 1 < 8 then n + 1 else 0) (hU h n.toNat F) g rc T Mt [eJ 1 1 (eU o 0 (w32 (sDoR F 6 x y 0)))]) ∧ (¬ eEx (sHin F 6 x y 0) = none → cs1 = wA a (zHi z F 6 x y 0) ln F P D DQ S SP c n h g rc T Mt [eJ 1 1 o]))) := by
  have hE : ∀ e, eEx (sHin F 6 x y 0) = some e → e = xAr ∨ e = xNo := by
    intro e he
    rcases hk_6 (F := F) (p := x) (q := y) (r := 0) with w | w | w <;> rw [w] at he
    · exact absurd (show (none : Option String) = some e from he) (by simp)
    · injection (show some xAr = some e from he) with he
      subst he
      exact Or.inl rfl
    · injection (show some xNo = some e from he) with he
      subst he
      exact Or.inr rfl
  refine EM.of (by decide +kernel) rfl (Nat.le_of_ble_eq_true rfl) ?_
  refine e_aload_n dL_setTarget_0 rfl rfl ?_
  refine e_iconst dL_setTarget_1 rfl ?_
  refine e_aload_n dL_setTarget_2 rfl rfl ?_
  refine e_iload_n dL_setTarget_3 rfl rfl ?_
  refine e_iload_n dL_setTarget_4 rfl rfl ?_
  refine e_cVo (b' := (1, 6)) [0, 1, 2, 3, 4, 5, 6, 7, 8, 9, 10, 31, 32, 33, 34, 35, 36, 37, 38, 39, 40, 41, 42, 43, 44, 45, 46, 47, 48, 49, 50, 51, 52, 53, 54, 55, 56, 57, 58, 59, 60, 61, 62, 63, 64, 65, 66, 67, 68, 69, 70, 71, 72, 73, 74, 75, 76, 77, 78, 79, 80, 81, 82, 83, 84, 85, 86, 87, 88, 89, 90, 91, 92, 93, 94, 95, 96, 97, 98, 99, 100, 101, 102, 103, 104, 105, 106, 107, 108, 109, 110, 111, 112] lk_L_78 rfl dL_setTarget_5 rfl (C_X6_setTarget (z := z) (F := F) (P := P) (c := c) (n := n) (h := h) hF hcc hnn (by omega) (by omega)) rfl rfl (Nat.le_of_ble_eq_true rfl) (Nat.le_of_ble_eq_true rfl) (Nat.le_of_ble_eq_true rfl) ⟨(Nat.le_of_ble_eq_true rfl), (Nat.le_of_ble_eq_true rfl)⟩ rfl rfl rfl rfl rfl rfl (cs' := wA a z ln (sDo F 6 x y 0) P D DQ S SP (if 8 < c + 1 then 8 else c + 1) (if n + 1 < 8 then n + 1 else 0) (hU h n.toNat F) g rc T Mt [eJ 1 1 o]) (csX := wA a (zHi z F 6 x y 0) ln F P D DQ S SP c n h g rc T Mt [eJ 1 1 o]) rfl rfl (gOFH (t := [eJ 1 1 o]) (O' := [wO (a 1) (a 11) (a 21) (a 31) (a 113) (a 116) (a 130) (z)]) (F' := wFl (fun k => a (1 + k)) (sDo F 6 x y 0) (P)) (H' := wHi (fun k => a (31 + k)) (if 8 < c + 1 then 8 else c + 1) (if n + 1 < 8 then n + 1 else 0) (hU h n.toNat F)) rfl rfl rfl rfl rfl rfl rfl rfl rfl rfl rfl) (gOFH (t := [eJ 1 1 o]) (O' := [wO (a 1) (a 11) (a 21) (a 31) (a 113) (a 116) (a 130) (zHi z F 6 x y 0)]) (F' := wFl (fun k => a (1 + k)) (F) (P)) (H' := wHi (fun k => a (31 + k)) (c) (n) (h)) rfl rfl rfl rfl rfl rfl rfl rfl rfl rfl rfl) (fun ge => ?_) (fun e he => ?_)
  · refine EV.eq (st' := [vi (w32 (sDoR F 6 x y 0)), vi 0, .ref (a 131)]) (by show [vi (sDoR F 6 x y 0), vi 0, .ref (a 131)] = _; rw [← w32_v]) ?_
    refine e_i2l dL_setTarget_8 rfl w32_in ?_
    refine e_lastore (i := 131) (N := 1) (x := o) dL_setTarget_9 rfl rfl wA_get (by decide) (by decide) ?_
    refine EV.ceq (cs' := wA a z ln (sDo F 6 x y 0) P D DQ S SP (if 8 < c + 1 then 8 else c + 1) (if n + 1 < 8 then n + 1 else 0) (hU h n.toNat F) g rc T Mt [eJ 1 1 (eU o 0 (w32 (sDoR F 6 x y 0)))]) wA_set ?_
    refine e_goto (n := 21) dL_setTarget_10 rfl ?_
    refine e_iconst dL_setTarget_21 rfl ?_
    exact e_iret dL_setTarget_22 rfl rfl ⟨by rw [exK_n ge], rfl, fun _ => rfl, fun q => absurd ge q⟩
  · rcases hE e he with hc | hc <;> subst hc
    · refine e_catch (name := xAr) [] _ _ rfl (fun z hz => absurd hz List.not_mem_nil) rfl (by decide) wd_2_198 (List.mem_of_getElem? (i := 1) rfl) (fun q => ?_)
      refine f_astore dL_setTarget_13 rfl (Nat.le_of_ble_eq_true rfl) rfl ?_
      refine e_iconst dL_setTarget_15 rfl ?_
      exact e_iret dL_setTarget_16 rfl rfl ⟨by rw [exK_1 he], rfl, fun q => absurd (he.symm.trans q) (by simp), fun _ => rfl⟩
    · refine e_catch (name := xNo) [_] _ _ rfl (fun z hz => Or.inr (by rw [List.mem_singleton.mp hz]; exact ⟨by decide, xAr, wd_2_198, List.mem_of_getElem? (i := 79) rfl⟩)) rfl (by decide) wd_3_234 (List.mem_of_getElem? (i := 3) rfl) (fun q => ?_)
      refine f_astore dL_setTarget_17 rfl (Nat.le_of_ble_eq_true rfl) rfl ?_
      refine e_iconst dL_setTarget_19 rfl ?_
      exact e_iret dL_setTarget_20 rfl rfl ⟨by rw [exK_2 he (by decide)], rfl, fun q => absurd (he.symm.trans q) (by simp), fun _ => rfl⟩
