/-! ===== the law: wrappers ===== -/
theorem C_L_jump {X : eXT} {a : Nat → Nat} {z : Nat → Int} {ln : Int → Int} {F : eFs} {P : Int → Int} {D : eFs} {DQ : Int → Int} {S : eFs} {SP : Int → Int} {c n : Int} {h : eHs} {g rc : Int → Int} {T : eFs} {Mt : Int → Int → Int} {o : Int → Int} {N : Int} (hF : okF N F) (hcc : 0 ≤ c ∧ c ≤ 8) (hnn : 0 ≤ n ∧ n ≤ 7) {b x y : Int} (gb : -2147483648 ≤ b ∧ b ≤ 2147483647) (gx : -2147483648 ≤ x ∧ x ≤ 2147483647) (gy : -2147483648 ≤ y ∧ y ≤ 2147483647) :
    EM X mL_jump (eRt 10 2) a [.ref (a 0), vi b, vi x, vi y, .ref (a 131)] (wA a z ln F P D DQ S SP c n h g rc T Mt [eJ 1 1 o]) (eRets (some (vi (exK (eEx (sHin F 1 b x y)) xIx xAr xUn))) a (fun cs1 => (eEx (sHin F 1 b x y) = none → cs1 = wA a z ln (sDo F 1 b x y) P D DQ S SP (if 8 < c + 1 then 8 else c + 1) (if n + 1 < 8 then n + 1 else 0) (hU h n.toNat F) g rc T Mt [eJ 1 1 (eU o 0 (w32 (sDoR F 1 b x y)))]) ∧ (¬ eEx (sHin F 1 b x y) = none → cs1 = wA a (zHi z F 1 b x y) ln F P D DQ S SP c n h g rc T Mt [eJ 1 1 o]))) := by
  have hE : ∀ e, eEx (sHin F 1 b x y) = some e → e = xIx ∨ e = xAr ∨ e = xUn := by
    intro e he
    rcases hk_1 (F := F) (p := b) (q := x) (r := y) with w | w | w | w <;> rw [w] at he
    · exact absurd (show (none : Option String) = some e from he) (by simp)
    · injection (show some xIx = some e from he) with he
      subst he
      exact Or.inl rfl
    · injection (show some xAr = some e from he) with he
      subst he
      exact Or.inr (Or.inl rfl)
    · injection (show some xUn = some e from he) with he
      subst he
      exact Or.inr (Or.inr rfl)
  refine EM.of (by decide +kernel) rfl (Nat.le_of_ble_eq_true rfl) ?_
  refine e_aload dL_jump_0 rfl rfl ?_
  refine e_iconst dL_jump_2 rfl ?_
  refine e_aload_n dL_jump_3 rfl rfl ?_
  refine e_iload_n dL_jump_4 rfl rfl ?_
  refine e_iload_n dL_jump_5 rfl rfl ?_
  refine e_iload_n dL_jump_6 rfl rfl ?_
  refine e_cVo (b' := (1, 6)) [0, 1, 2, 3, 4, 5, 6, 7, 8, 9, 10, 31, 32, 33, 34, 35, 36, 37, 38, 39, 40, 41, 42, 43, 44, 45, 46, 47, 48, 49, 50, 51, 52, 53, 54, 55, 56, 57, 58, 59, 60, 61, 62, 63, 64, 65, 66, 67, 68, 69, 70, 71, 72, 73, 74, 75, 76, 77, 78, 79, 80, 81, 82, 83, 84, 85, 86, 87, 88, 89, 90, 91, 92, 93, 94, 95, 96, 97, 98, 99, 100, 101, 102, 103, 104, 105, 106, 107, 108, 109, 110, 111, 112] lk_L_19 rfl dL_jump_7 rfl (C_X6_jump (z := z) (F := F) (P := P) (c := c) (n := n) (h := h) hF hcc hnn (by omega) (by omega) (by omega)) rfl rfl (Nat.le_of_ble_eq_true rfl) (Nat.le_of_ble_eq_true rfl) (Nat.le_of_ble_eq_true rfl) ⟨(Nat.le_of_ble_eq_true rfl), (Nat.le_of_ble_eq_true rfl)⟩ rfl rfl rfl rfl rfl rfl (cs' := wA a z ln (sDo F 1 b x y) P D DQ S SP (if 8 < c + 1 then 8 else c + 1) (if n + 1 < 8 then n + 1 else 0) (hU h n.toNat F) g rc T Mt [eJ 1 1 o]) (csX := wA a (zHi z F 1 b x y) ln F P D DQ S SP c n h g rc T Mt [eJ 1 1 o]) rfl rfl (gOFH (t := [eJ 1 1 o]) (O' := [wO (a 1) (a 11) (a 21) (a 31) (a 113) (a 116) (a 130) (z)]) (F' := wFl (fun k => a (1 + k)) (sDo F 1 b x y) (P)) (H' := wHi (fun k => a (31 + k)) (if 8 < c + 1 then 8 else c + 1) (if n + 1 < 8 then n + 1 else 0) (hU h n.toNat F)) rfl rfl rfl rfl rfl rfl rfl rfl rfl rfl rfl) (gOFH (t := [eJ 1 1 o]) (O' := [wO (a 1) (a 11) (a 21) (a 31) (a 113) (a 116) (a 130) (zHi z F 1 b x y)]) (F' := wFl (fun k => a (1 + k)) (F) (P)) (H' := wHi (fun k => a (31 + k)) (c) (n) (h)) rfl rfl rfl rfl rfl rfl rfl rfl rfl rfl rfl) (fun ge => ?_) (fun e he => ?_)
  · refine EV.eq (st' := [vi (w32 (sDoR F 1 b x y)), vi 0, .ref (a 131)]) (by show [vi (sDoR F 1 b x y), vi 0, .ref (a 131)] = _; rw [← w32_v]) ?_
    refine e_i2l dL_jump_10 rfl w32_in ?_
    refine e_lastore (i := 131) (N := 1) (x := o) dL_jump_11 rfl rfl wA_get (by decide) (by decide) ?_
    refine EV.ceq (cs' := wA a z ln (sDo F 1 b x y) P D DQ S SP (if 8 < c + 1 then 8 else c + 1) (if n + 1 < 8 then n + 1 else 0) (hU h n.toNat F) g rc T Mt [eJ 1 1 (eU o 0 (w32 (sDoR F 1 b x y)))]) wA_set ?_
    refine e_goto (n := 27) dL_jump_12 rfl ?_
    refine e_iconst dL_jump_27 rfl ?_
    exact e_iret dL_jump_28 rfl rfl ⟨by rw [exK_n ge], rfl, fun _ => rfl, fun q => absurd ge q⟩
  · rcases hE e he with hc | hc | hc <;> subst hc
    · refine e_catch (name := xIx) [] _ _ rfl (fun z hz => absurd hz List.not_mem_nil) rfl (by decide) wd_3_165 (List.mem_of_getElem? (i := 0) rfl) (fun q => ?_)
      refine f_astore dL_jump_15 rfl (Nat.le_of_ble_eq_true rfl) rfl ?_
      refine e_iconst dL_jump_17 rfl ?_
      exact e_iret dL_jump_18 rfl rfl ⟨by rw [exK_1 he], rfl, fun q => absurd (he.symm.trans q) (by simp), fun _ => rfl⟩
    · refine e_catch (name := xAr) [_] _ _ rfl (fun z hz => Or.inr (by rw [List.mem_singleton.mp hz]; exact ⟨by decide, xIx, wd_3_165, List.mem_of_getElem? (i := 60) rfl⟩)) rfl (by decide) wd_2_198 (List.mem_of_getElem? (i := 1) rfl) (fun q => ?_)
      refine f_astore dL_jump_19 rfl (Nat.le_of_ble_eq_true rfl) rfl ?_
      refine e_iconst dL_jump_21 rfl ?_
      exact e_iret dL_jump_22 rfl rfl ⟨by rw [exK_2 he (by decide)], rfl, fun q => absurd (he.symm.trans q) (by simp), fun _ => rfl⟩
    · refine e_catch (name := xUn) [_, _] _ _ rfl (fun z hz => Or.inr (by rcases List.mem_cons.mp hz with e1 | e1; rw [e1]; exact ⟨by decide, xIx, wd_3_165, List.mem_of_getElem? (i := 76) rfl⟩; rw [List.mem_singleton.mp e1]; exact ⟨by decide, xAr, wd_2_198, List.mem_of_getElem? (i := 74) rfl⟩)) rfl (by decide) wd_2_200 (List.mem_of_getElem? (i := 4) rfl) (fun q => ?_)
      refine f_astore dL_jump_23 rfl (Nat.le_of_ble_eq_true rfl) rfl ?_
      refine e_iconst dL_jump_25 rfl ?_
      exact e_iret dL_jump_26 rfl rfl ⟨by rw [exK_3 he (by decide) (by decide)], rfl, fun q => absurd (he.symm.trans q) (by simp), fun _ => rfl⟩
theorem C_L_setHandle {X : eXT} {a : Nat → Nat} {z : Nat → Int} {ln : Int → Int} {F : eFs} {P : Int → Int} {D : eFs} {DQ : Int → Int} {S : eFs} {SP : Int → Int} {c n : Int} {h : eHs} {g rc : Int → Int} {T : eFs} {Mt : Int → Int → Int} {o : Int → Int} {N : Int} (hF : okF N F) (hcc : 0 ≤ c ∧ c ≤ 8) (hnn : 0 ≤ n ∧ n ≤ 7) {b w : Int} (gb : -2147483648 ≤ b ∧ b ≤ 2147483647) (gw : -2147483648 ≤ w ∧ w ≤ 2147483647) :
    EM X mL_setHandle (eRt 10 2) a [.ref (a 0), vi b, vi w, .ref (a 131)] (wA a z ln F P D DQ S SP c n h g rc T Mt [eJ 1 1 o]) (eRets (some (vi (exK (eEx (sHin F 2 b w 0)) xIx xAr ""))) a (fun cs1 => (eEx (sHin F 2 b w 0) = none → cs1 = wA a z ln (sDo F 2 b w 0) P D DQ S SP (if 8 < c + 1 then 8 else c + 1) (if n + 1 < 8 then n + 1 else 0) (hU h n.toNat F) g rc T Mt [eJ 1 1 (eU o 0 (w32 (sDoR F 2 b w 0)))]) ∧ (¬ eEx (sHin F 2 b w 0) = none → cs1 = wA a (zHi z F 2 b w 0) ln F P D DQ S SP c n h g rc T Mt [eJ 1 1 o]))) := by
  have hE : ∀ e, eEx (sHin F 2 b w 0) = some e → e = xIx ∨ e = xAr := by
    intro e he
    rcases hk_2 (F := F) (p := b) (q := w) (r := 0) with w | w | w <;> rw [w] at he
    · exact absurd (show (none : Option String) = some e from he) (by simp)
    · injection (show some xIx = some e from he) with he
      subst he
      exact Or.inl rfl
    · injection (show some xAr = some e from he) with he
      subst he
      exact Or.inr rfl
  refine EM.of (by decide +kernel) rfl (Nat.le_of_ble_eq_true rfl) ?_
  refine e_aload_n dL_setHandle_0 rfl rfl ?_
  refine e_iconst dL_setHandle_1 rfl ?_
  refine e_aload_n dL_setHandle_2 rfl rfl ?_
  refine e_iload_n dL_setHandle_3 rfl rfl ?_
  refine e_iload_n dL_setHandle_4 rfl rfl ?_
  refine e_cVo (b' := (1, 6)) [0, 1, 2, 3, 4, 5, 6, 7, 8, 9, 10, 31, 32, 33, 34, 35, 36, 37, 38, 39, 40, 41, 42, 43, 44, 45, 46, 47, 48, 49, 50, 51, 52, 53, 54, 55, 56, 57, 58, 59, 60, 61, 62, 63, 64, 65, 66, 67, 68, 69, 70, 71, 72, 73, 74, 75, 76, 77, 78, 79, 80, 81, 82, 83, 84, 85, 86, 87, 88, 89, 90, 91, 92, 93, 94, 95, 96, 97, 98, 99, 100, 101, 102, 103, 104, 105, 106, 107, 108, 109, 110, 111, 112] lk_L_24 rfl dL_setHandle_5 rfl (C_X6_setHandle (z := z) (F := F) (P := P) (c := c) (n := n) (h := h) hF hcc hnn (by omega) (by omega)) rfl rfl (Nat.le_of_ble_eq_true rfl) (Nat.le_of_ble_eq_true rfl) (Nat.le_of_ble_eq_true rfl) ⟨(Nat.le_of_ble_eq_true rfl), (Nat.le_of_ble_eq_true rfl)⟩ rfl rfl rfl rfl rfl rfl (cs' := wA a z ln (sDo F 2 b w 0) P D DQ S SP (if 8 < c + 1 then 8 else c + 1) (if n + 1 < 8 then n + 1 else 0) (hU h n.toNat F) g rc T Mt [eJ 1 1 o]) (csX := wA a (zHi z F 2 b w 0) ln F P D DQ S SP c n h g rc T Mt [eJ 1 1 o]) rfl rfl (gOFH (t := [eJ 1 1 o]) (O' := [wO (a 1) (a 11) (a 21) (a 31) (a 113) (a 116) (a 130) (z)]) (F' := wFl (fun k => a (1 + k)) (sDo F 2 b w 0) (P)) (H' := wHi (fun k => a (31 + k)) (if 8 < c + 1 then 8 else c + 1) (if n + 1 < 8 then n + 1 else 0) (hU h n.toNat F)) rfl rfl rfl rfl rfl rfl rfl rfl rfl rfl rfl) (gOFH (t := [eJ 1 1 o]) (O' := [wO (a 1) (a 11) (a 21) (a 31) (a 113) (a 116) (a 130) (zHi z F 2 b w 0)]) (F' := wFl (fun k => a (1 + k)) (F) (P)) (H' := wHi (fun k => a (31 + k)) (c) (n) (h)) rfl rfl rfl rfl rfl rfl rfl rfl rfl rfl rfl) (fun ge => ?_) (fun e he => ?_)
  · refine EV.eq (st' := [vi (w32 (sDoR F 2 b w 0)), vi 0, .ref (a 131)]) (by show [vi (sDoR F 2 b w 0), vi 0, .ref (a 131)] = _; rw [← w32_v]) ?_
    refine e_i2l dL_setHandle_8 rfl w32_in ?_
    refine e_lastore (i := 131) (N := 1) (x := o) dL_setHandle_9 rfl rfl wA_get (by decide) (by decide) ?_
    refine EV.ceq (cs' := wA a z ln (sDo F 2 b w 0) P D DQ S SP (if 8 < c + 1 then 8 else c + 1) (if n + 1 < 8 then n + 1 else 0) (hU h n.toNat F) g rc T Mt [eJ 1 1 (eU o 0 (w32 (sDoR F 2 b w 0)))]) wA_set ?_
    refine e_goto (n := 21) dL_setHandle_10 rfl ?_
    refine e_iconst dL_setHandle_21 rfl ?_
    exact e_iret dL_setHandle_22 rfl rfl ⟨by rw [exK_n ge], rfl, fun _ => rfl, fun q => absurd ge q⟩
  · rcases hE e he with hc | hc <;> subst hc
    · refine e_catch (name := xIx) [] _ _ rfl (fun z hz => absurd hz List.not_mem_nil) rfl (by decide) wd_3_165 (List.mem_of_getElem? (i := 0) rfl) (fun q => ?_)
      refine f_astore dL_setHandle_13 rfl (Nat.le_of_ble_eq_true rfl) rfl ?_
      refine e_iconst dL_setHandle_15 rfl ?_
      exact e_iret dL_setHandle_16 rfl rfl ⟨by rw [exK_1 he], rfl, fun q => absurd (he.symm.trans q) (by simp), fun _ => rfl⟩
    · refine e_catch (name := xAr) [_] _ _ rfl (fun z hz => Or.inr (by rw [List.mem_singleton.mp hz]; exact ⟨by decide, xIx, wd_3_165, List.mem_of_getElem? (i := 60) rfl⟩)) rfl (by decide) wd_2_198 (List.mem_of_getElem? (i := 1) rfl) (fun q => ?_)
      refine f_astore dL_setHandle_17 rfl (Nat.le_of_ble_eq_true rfl) rfl ?_
      refine e_iconst dL_setHandle_19 rfl ?_
      exact e_iret dL_setHandle_20 rfl rfl ⟨by rw [exK_2 he (by decide)], rfl, fun q => absurd (he.symm.trans q) (by simp), fun _ => rfl⟩
theorem C_L_addCloud {X : eXT} {a : Nat → Nat} {z : Nat → Int} {ln : Int → Int} {F : eFs} {P : Int → Int} {D : eFs} {DQ : Int → Int} {S : eFs} {SP : Int → Int} {c n : Int} {h : eHs} {g rc : Int → Int} {T : eFs} {Mt : Int → Int → Int} {o : Int → Int} {N : Int} (hF : okF N F) (hcc : 0 ≤ c ∧ c ≤ 8) (hnn : 0 ≤ n ∧ n ≤ 7) {x y : Int} (gx : -2147483648 ≤ x ∧ x ≤ 2147483647) (gy : -2147483648 ≤ y ∧ y ≤ 2147483647) :
    EM X mL_addCloud (eRt 10 2) a [.ref (a 0), vi x, vi y, .ref (a 131)] (wA a z ln F P D DQ S SP c n h g rc T Mt [eJ 1 1 o]) (eRets (some (vi (exK (eEx (sHin F 3 x y 0)) xAr xSt xUn))) a (fun cs1 => (eEx (sHin F 3 x y 0) = none → cs1 = wA a z ln (sDo F 3 x y 0) P D DQ S SP (if 8 < c + 1 then 8 else c + 1) (if n + 1 < 8 then n + 1 else 0) (hU h n.toNat F) g rc T Mt [eJ 1 1 (eU o 0 (w32 (sDoR F 3 x y 0)))]) ∧ (¬ eEx (sHin F 3 x y 0) = none → cs1 = wA a (zHi z F 3 x y 0) ln F P D DQ S SP c n h g rc T Mt [eJ 1 1 o]))) := by
  have hE : ∀ e, eEx (sHin F 3 x y 0) = some e → e = xAr ∨ e = xSt ∨ e = xUn := by
    intro e he
    rcases hk_3 (F := F) (p := x) (q := y) (r := 0) with w | w | w | w <;> rw [w] at he
    · exact absurd (show (none : Option String) = some e from he) (by simp)
    · injection (show some xAr = some e from he) with he
      subst he
      exact Or.inl rfl
    · injection (show some xSt = some e from he) with he
      subst he
      exact Or.inr (Or.inl rfl)
    · injection (show some xUn = some e from he) with he
      subst he
      exact Or.inr (Or.inr rfl)
  refine EM.of (by decide +kernel) rfl (Nat.le_of_ble_eq_true rfl) ?_
  refine e_aload_n dL_addCloud_0 rfl rfl ?_
  refine e_iconst dL_addCloud_1 rfl ?_
  refine e_aload_n dL_addCloud_2 rfl rfl ?_
  refine e_iload_n dL_addCloud_3 rfl rfl ?_
  refine e_iload_n dL_addCloud_4 rfl rfl ?_
  refine e_cVo (b' := (1, 6)) [0, 1, 2, 3, 4, 5, 6, 7, 8, 9, 10, 31, 32, 33, 34, 35, 36, 37, 38, 39, 40, 41, 42, 43, 44, 45, 46, 47, 48, 49, 50, 51, 52, 53, 54, 55, 56, 57, 58, 59, 60, 61, 62, 63, 64, 65, 66, 67, 68, 69, 70, 71, 72, 73, 74, 75, 76, 77, 78, 79, 80, 81, 82, 83, 84, 85, 86, 87, 88, 89, 90, 91, 92, 93, 94, 95, 96, 97, 98, 99, 100, 101, 102, 103, 104, 105, 106, 107, 108, 109, 110, 111, 112] lk_L_56 rfl dL_addCloud_5 rfl (C_X6_addCloud (z := z) (F := F) (P := P) (c := c) (n := n) (h := h) hF hcc hnn (by omega) (by omega)) rfl rfl (Nat.le_of_ble_eq_true rfl) (Nat.le_of_ble_eq_true rfl) (Nat.le_of_ble_eq_true rfl) ⟨(Nat.le_of_ble_eq_true rfl), (Nat.le_of_ble_eq_true rfl)⟩ rfl rfl rfl rfl rfl rfl (cs' := wA a z ln (sDo F 3 x y 0) P D DQ S SP (if 8 < c + 1 then 8 else c + 1) (if n + 1 < 8 then n + 1 else 0) (hU h n.toNat F) g rc T Mt [eJ 1 1 o]) (csX := wA a (zHi z F 3 x y 0) ln F P D DQ S SP c n h g rc T Mt [eJ 1 1 o]) rfl rfl (gOFH (t := [eJ 1 1 o]) (O' := [wO (a 1) (a 11) (a 21) (a 31) (a 113) (a 116) (a 130) (z)]) (F' := wFl (fun k => a (1 + k)) (sDo F 3 x y 0) (P)) (H' := wHi (fun k => a (31 + k)) (if 8 < c + 1 then 8 else c + 1) (if n + 1 < 8 then n + 1 else 0) (hU h n.toNat F)) rfl rfl rfl rfl rfl rfl rfl rfl rfl rfl rfl) (gOFH (t := [eJ 1 1 o]) (O' := [wO (a 1) (a 11) (a 21) (a 31) (a 113) (a 116) (a 130) (zHi z F 3 x y 0)]) (F' := wFl (fun k => a (1 + k)) (F) (P)) (H' := wHi (fun k => a (31 + k)) (c) (n) (h)) rfl rfl rfl rfl rfl rfl rfl rfl rfl rfl rfl) (fun ge => ?_) (fun e he => ?_)
  · refine EV.eq (st' := [vi (w32 (sDoR F 3 x y 0)), vi 0, .ref (a 131)]) (by show [vi (sDoR F 3 x y 0), vi 0, .ref (a 131)] = _; rw [← w32_v]) ?_
    refine e_i2l dL_addCloud_8 rfl w32_in ?_
    refine e_lastore (i := 131) (N := 1) (x := o) dL_addCloud_9 rfl rfl wA_get (by decide) (by decide) ?_
    refine EV.ceq (cs' := wA a z ln (sDo F 3 x y 0) P D DQ S SP (if 8 < c + 1 then 8 else c + 1) (if n + 1 < 8 then n + 1 else 0) (hU h n.toNat F) g rc T Mt [eJ 1 1 (eU o 0 (w32 (sDoR F 3 x y 0)))]) wA_set ?_
    refine e_goto (n := 25) dL_addCloud_10 rfl ?_
    refine e_iconst dL_addCloud_25 rfl ?_
    exact e_iret dL_addCloud_26 rfl rfl ⟨by rw [exK_n ge], rfl, fun _ => rfl, fun q => absurd ge q⟩
  · rcases hE e he with hc | hc | hc <;> subst hc
    · refine e_catch (name := xAr) [] _ _ rfl (fun z hz => absurd hz List.not_mem_nil) rfl (by decide) wd_2_198 (List.mem_of_getElem? (i := 1) rfl) (fun q => ?_)
      refine f_astore dL_addCloud_13 rfl (Nat.le_of_ble_eq_true rfl) rfl ?_
      refine e_iconst dL_addCloud_15 rfl ?_
      exact e_iret dL_addCloud_16 rfl rfl ⟨by rw [exK_1 he], rfl, fun q => absurd (he.symm.trans q) (by simp), fun _ => rfl⟩
    · refine e_catch (name := xSt) [_] _ _ rfl (fun z hz => Or.inr (by rw [List.mem_singleton.mp hz]; exact ⟨by decide, xAr, wd_2_198, List.mem_of_getElem? (i := 64) rfl⟩)) rfl (by decide) wd_2_199 (List.mem_of_getElem? (i := 2) rfl) (fun q => ?_)
      refine f_astore dL_addCloud_17 rfl (Nat.le_of_ble_eq_true rfl) rfl ?_
      refine e_iconst dL_addCloud_19 rfl ?_
      exact e_iret dL_addCloud_20 rfl rfl ⟨by rw [exK_2 he (by decide)], rfl, fun q => absurd (he.symm.trans q) (by simp), fun _ => rfl⟩
    · refine e_catch (name := xUn) [_, _] _ _ rfl (fun z hz => Or.inr (by rcases List.mem_cons.mp hz with e1 | e1; rw [e1]; exact ⟨by decide, xAr, wd_2_198, List.mem_of_getElem? (i := 74) rfl⟩; rw [List.mem_singleton.mp e1]; exact ⟨by decide, xSt, wd_2_199, List.mem_of_getElem? (i := 75) rfl⟩)) rfl (by decide) wd_2_200 (List.mem_of_getElem? (i := 4) rfl) (fun q => ?_)
      refine f_astore dL_addCloud_21 rfl (Nat.le_of_ble_eq_true rfl) rfl ?_
      refine e_iconst dL_addCloud_23 rfl ?_
      exact e_iret dL_addCloud_24 rfl rfl ⟨by rw [exK_3 he (by decide) (by decide)], rfl, fun q => absurd (he.symm.trans q) (by simp), fun _ => rfl⟩
