/-! ===== the law: its wrappers ===== -/
theorem wA_get {a : Nat → Nat} {z : Nat → Int} {ln : Int → Int} {F : eFs} {P : Int → Int} {D : eFs} {DQ : Int → Int} {S : eFs} {SP : Int → Int} {c n : Int} {h : eHs} {g rc : Int → Int} {T : eFs} {Mt : Int → Int → Int} {x : eE} : (wA a z ln F P D DQ S SP c n h g rc T Mt [x])[131]? = some x := rfl
theorem wA_set {a : Nat → Nat} {z : Nat → Int} {ln : Int → Int} {F : eFs} {P : Int → Int} {D : eFs} {DQ : Int → Int} {S : eFs} {SP : Int → Int} {c n : Int} {h : eHs} {g rc : Int → Int} {T : eFs} {Mt : Int → Int → Int} {x y : eE} : (wA a z ln F P D DQ S SP c n h g rc T Mt [x]).set 131 y = wA a z ln F P D DQ S SP c n h g rc T Mt [y] := rfl
theorem C_L_addBasket {X : eXT} {a : Nat → Nat} {z : Nat → Int} {ln : Int → Int} {F : eFs} {P : Int → Int} {D : eFs} {DQ : Int → Int} {S : eFs} {SP : Int → Int} {c n : Int} {h : eHs} {g rc : Int → Int} {T : eFs} {Mt : Int → Int → Int} {o : Int → Int} {N : Int} (hF : okF N F) (hcc : 0 ≤ c ∧ c ≤ 8) (hnn : 0 ≤ n ∧ n ≤ 7) {x y w : Int} (gx : -2147483648 ≤ x ∧ x ≤ 2147483647) (gy : -2147483648 ≤ y ∧ y ≤ 2147483647) (gw : -2147483648 ≤ w ∧ w ≤ 2147483647) :
    EM X mL_addBasket (eRt 10 2) a [.ref (a 0), vi x, vi y, vi w, .ref (a 131)] (wA a z ln F P D DQ S SP c n h g rc T Mt [eJ 1 1 o]) (eRets (some (vi (exK (eEx (sHin F 0 x y w)) xAr xSt xUn))) a (fun cs1 => (eEx (sHin F 0 x y w) = none → cs1 = wA a z ln (sDo F 0 x y w) P D DQ S SP (if 8 < c + 1 then 8 else c + 1) (if n + 1 < 8 then n + 1 else 0) (hU h n.toNat F) g rc T Mt [eJ 1 1 (eU o 0 (w32 (sDoR F 0 x y w)))]) ∧ (¬ eEx (sHin F 0 x y w) = none → cs1 = wA a (zHi z F 0 x y w) ln F P D DQ S SP c n h g rc T Mt [eJ 1 1 o]))) := by
  have hE : ∀ e, eEx (sHin F 0 x y w) = some e → e = xAr ∨ e = xSt ∨ e = xUn := by
    intro e he
    rcases hk_0 (F := F) (p := x) (q := y) (r := w) with w | w | w | w <;> rw [w] at he
    · exact absurd (show (none : Option String) = some e from he) (by simp)
    · injection (show some xAr = some e from he) with he
      subst he
      exact Or.inl rfl
    · injection (show some xSt = some e from he) with he
      subst he
      exact Or.inr (Or.inl rfl)
    · injection (show some xUn = some e from he) with he
      subst he
      exact Or.inr (Or.inr rfl)
  refine EM.of (by decide +kernel) rfl (Nat.le_of_ble_eq_true rfl) ?_
  refine e_aload dL_addBasket_0 rfl rfl ?_
  refine e_iconst dL_addBasket_2 rfl ?_
  refine e_aload_n dL_addBasket_3 rfl rfl ?_
  refine e_iload_n dL_addBasket_4 rfl rfl ?_
  refine e_iload_n dL_addBasket_5 rfl rfl ?_
  refine e_iload_n dL_addBasket_6 rfl rfl ?_
  refine e_cVo (b' := (1, 6)) [0, 1, 2, 3, 4, 5, 6, 7, 8, 9, 10, 31, 32, 33, 34, 35, 36, 37, 38, 39, 40, 41, 42, 43, 44, 45, 46, 47, 48, 49, 50, 51, 52, 53, 54, 55, 56, 57, 58, 59, 60, 61, 62, 63, 64, 65, 66, 67, 68, 69, 70, 71, 72, 73, 74, 75, 76, 77, 78, 79, 80, 81, 82, 83, 84, 85, 86, 87, 88, 89, 90, 91, 92, 93, 94, 95, 96, 97, 98, 99, 100, 101, 102, 103, 104, 105, 106, 107, 108, 109, 110, 111, 112] lk_L_7 rfl dL_addBasket_7 rfl (C_X6_addBasket (z := z) (F := F) (P := P) (c := c) (n := n) (h := h) hF hcc hnn (by omega) (by omega) (by omega)) rfl rfl (Nat.le_of_ble_eq_true rfl) (Nat.le_of_ble_eq_true rfl) (Nat.le_of_ble_eq_true rfl) ⟨(Nat.le_of_ble_eq_true rfl), (Nat.le_of_ble_eq_true rfl)⟩ rfl rfl rfl rfl rfl rfl (cs' := wA a z ln (sDo F 0 x y w) P D DQ S SP (if 8 < c + 1 then 8 else c + 1) (if n + 1 < 8 then n + 1 else 0) (hU h n.toNat F) g rc T Mt [eJ 1 1 o]) (csX := wA a (zHi z F 0 x y w) ln F P D DQ S SP c n h g rc T Mt [eJ 1 1 o]) rfl rfl (gOFH (t := [eJ 1 1 o]) (O' := [wO (a 1) (a 11) (a 21) (a 31) (a 113) (a 116) (a 130) (z)]) (F' := wFl (fun k => a (1 + k)) (sDo F 0 x y w) (P)) (H' := wHi (fun k => a (31 + k)) (if 8 < c + 1 then 8 else c + 1) (if n + 1 < 8 then n + 1 else 0) (hU h n.toNat F)) rfl rfl rfl rfl rfl rfl rfl rfl rfl rfl rfl) (gOFH (t := [eJ 1 1 o]) (O' := [wO (a 1) (a 11) (a 21) (a 31) (a 113) (a 116) (a 130) (zHi z F 0 x y w)]) (F' := wFl (fun k => a (1 + k)) (F) (P)) (H' := wHi (fun k => a (31 + k)) (c) (n) (h)) rfl rfl rfl rfl rfl rfl rfl rfl rfl rfl rfl) (fun ge => ?_) (fun e he => ?_)
  · refine EV.eq (st' := [vi (w32 (sDoR F 0 x y w)), vi 0, .ref (a 131)]) (by show [vi (sDoR F 0 x y w), vi 0, .ref (a 131)] = _; rw [← w32_v]) ?_
    refine e_i2l dL_addBasket_10 rfl w32_in ?_
    refine e_lastore (i := 131) (N := 1) (x := o) dL_addBasket_11 rfl rfl wA_get (by decide) (by decide) ?_
    refine EV.ceq (cs' := wA a z ln (sDo F 0 x y w) P D DQ S SP (if 8 < c + 1 then 8 else c + 1) (if n + 1 < 8 then n + 1 else 0) (hU h n.toNat F) g rc T Mt [eJ 1 1 (eU o 0 (w32 (sDoR F 0 x y w)))]) wA_set ?_
    refine e_goto (n := 27) dL_addBasket_12 rfl ?_
    refine e_iconst dL_addBasket_27 rfl ?_
    exact e_iret dL_addBasket_28 rfl rfl ⟨by rw [exK_n ge], rfl, fun _ => rfl, fun q => absurd ge q⟩
  · rcases hE e he with hc | hc | hc <;> subst hc
    · refine e_catch (name := xAr) [] _ _ rfl (fun z hz => absurd hz List.not_mem_nil) rfl (by decide) wd_2_198 (List.mem_of_getElem? (i := 1) rfl) (fun q => ?_)
      refine f_astore dL_addBasket_15 rfl (Nat.le_of_ble_eq_true rfl) rfl ?_
      refine e_iconst dL_addBasket_17 rfl ?_
      exact e_iret dL_addBasket_18 rfl rfl ⟨by rw [exK_1 he], rfl, fun q => absurd (he.symm.trans q) (by simp), fun _ => rfl⟩
    · refine e_catch (name := xSt) [_] _ _ rfl (fun z hz => Or.inr (by rw [List.mem_singleton.mp hz]; exact ⟨by decide, xAr, wd_2_198, List.mem_of_getElem? (i := 64) rfl⟩)) rfl (by decide) wd_2_199 (List.mem_of_getElem? (i := 2) rfl) (fun q => ?_)
      refine f_astore dL_addBasket_19 rfl (Nat.le_of_ble_eq_true rfl) rfl ?_
      refine e_iconst dL_addBasket_21 rfl ?_
      exact e_iret dL_addBasket_22 rfl rfl ⟨by rw [exK_2 he (by decide)], rfl, fun q => absurd (he.symm.trans q) (by simp), fun _ => rfl⟩
    · refine e_catch (name := xUn) [_, _] _ _ rfl (fun z hz => Or.inr (by rcases List.mem_cons.mp hz with e1 | e1; rw [e1]; exact ⟨by decide, xAr, wd_2_198, List.mem_of_getElem? (i := 74) rfl⟩; rw [List.mem_singleton.mp e1]; exact ⟨by decide, xSt, wd_2_199, List.mem_of_getElem? (i := 75) rfl⟩)) rfl (by decide) wd_2_200 (List.mem_of_getElem? (i := 4) rfl) (fun q => ?_)
      refine f_astore dL_addBasket_23 rfl (Nat.le_of_ble_eq_true rfl) rfl ?_
      refine e_iconst dL_addBasket_25 rfl ?_
      exact e_iret dL_addBasket_26 rfl rfl ⟨by rw [exK_3 he (by decide) (by decide)], rfl, fun q => absurd (he.symm.trans q) (by simp), fun _ => rfl⟩
theorem C_L_jump {X : eXT} {a : Nat → Nat} {z : Nat → Int} {ln : Int → Int} {F : eFs} {P : Int → Int} {D : eFs} {DQ : Int → Int} {S : eFs} {SP : Int → Int} {c n : Int} {h : eHs} {g rc : Int → Int} {T : eFs} {Mt : Int → Int → Int} {o : Int → Int} {N : Int} (hF : okF N F) (hcc : 0 ≤ c ∧ c ≤ 8) (hnn : 0 ≤ n ∧ n ≤ 7) {b x y : Int} (gb : -2147483648 ≤ b ∧ b ≤ 2147483647) (gx : -2147483648 ≤ x ∧ x ≤ 2147483647) (gy : -2147483648 ≤ y ∧ y ≤ 2147483647) :
    EM X mL_jump (eRt 10 2) a [.ref (a 0), vi b, vi x, vi y, .ref (a 131)] (wA a z ln F P D DQ S SP c n h g rc T Mt [eJ 1 1 o]) (eRets (some (vi (exK (eEx (sHin F 1 b x y)) xIx xAr xUn))) a (fun cs1 => (eEx (sHin F 1 b x y) = none → cs1 = wA a z ln (sDo F 1 b x y) P D DQ S SP (if 8 < c + 1 then 8 else c + 1) (if n + 1 < 8 then n + 1 else 0) (hU h n.toNat F) g rc T Mt [eJ 1 1 (eU o 0 (w32 (sDoR F 1 b x y)))]) ∧ (¬ eEx (sHin F 1 b x y) = none → cs1 = wA a (zHi z F 1 b x y) ln F P D DQ S SP c n h g rc T Mt [eJ 1 1 o]))) := by
  have hE : ∀ e, eEx (sHin F 1 b x y) = some e → e = xIx ∨ e = xAr ∨ e = xUn := by
    intro e he
    rcases hk_1 (F := F) (p := b) (q := x) (r := y) with w | w | w | w <;> rw [w] at he
    · exact absurd (show (none : Option String) = some e from he) (by simp)
    · injection (show some xIx = some e from he) with he
      subst he
      exact Or.inl rfl
    · injection (show some xAr = some e from he) with he
      subst he
      exact Or.inr (Or.inl rfl)
    · injection (show some xUn = some e from he) with he
      subst he
      exact Or.inr (Or.inr rfl)
  refine EM.of (by decide +kernel) rfl (Nat.le_of_ble_eq_true rfl) ?_
  refine e_aload dL_jump_0 rfl rfl ?_
  refine e_iconst dL_jump_2 rfl ?_
  refine e_aload_n dL_jump_3 rfl rfl ?_
  refine e_iload_n dL_jump_4 rfl rfl ?_
  refine e_iload_n dL_jump_5 rfl rfl ?_
  refine e_iload_n dL_jump_6 rfl rfl ?_
  refine e_cVo (b' := (1, 6)) [0, 1, 2, 3, 4, 5, 6, 7, 8, 9, 10, 31, 32, 33, 34, 35, 36, 37, 38, 39, 40, 41, 42, 43, 44, 45, 46, 47, 48, 49, 50, 51, 52, 53, 54, 55, 56, 57, 58, 59, 60, 61, 62, 63, 64, 65, 66, 67, 68, 69, 70, 71, 72, 73, 74, 75, 76, 77, 78, 79, 80, 81, 82, 83, 84, 85, 86, 87, 88, 89, 90, 91, 92, 93, 94, 95, 96, 97, 98, 99, 100, 101, 102, 103, 104, 105, 106, 107, 108, 109, 110, 111, 112] lk_L_19 rfl dL_jump_7 rfl (C_X6_jump (z := z) (F := F) (P := P) (c := c) (n := n) (h := h) hF hcc hnn (by omega) (by omega) (by omega)) rfl rfl (Nat.le_of_ble_eq_true rfl) (Nat.le_of_ble_eq_true rfl) (Nat.le_of_ble_eq_true rfl) ⟨(Nat.le_of_ble_eq_true rfl), (Nat.le_of_ble_eq_true rfl)⟩ rfl rfl rfl rfl rfl rfl (cs' := wA a z ln (sDo F 1 b x y) P D DQ S SP (if 8 < c + 1 then 8 else c + 1) (if n + 1 < 8 then n + 1 else 0) (hU h n.toNat F) g rc T Mt [eJ 1 1 o]) (csX := wA a (zHi z F 1 b x y) ln F P D DQ S SP c n h g rc T Mt [eJ 1 1 o]) rfl rfl (gOFH (t := [eJ 1 1 o]) (O' := [wO (a 1) (a 11) (a 21) (a 31) (a 113) (a 116) (a 130) (z)]) (F' := wFl (fun k => a (1 + k)) (sDo F 1 b x y) (P)) (H' := wHi (fun k => a (31 + k)) (if 8 < c + 1 then 8 else c + 1) (if n + 1 < 8 then n + 1 else 0) (hU h n.toNat F)) rfl rfl rfl rfl rfl rfl rfl rfl rfl rfl rfl) (gOFH (t := [eJ 1 1 o]) (O' := [wO (a 1) (a 11) (a 21) (a 31) (a 113) (a 116) (a 130) (zHi z F 1 b x y)]) (F' := wFl (fun k => a (1 + k)) (F) (P)) (H' := wHi (fun k => a (31 + k)) (c) (n) (h)) rfl rfl rfl rfl rfl rfl rfl rfl rfl rfl rfl) (fun ge => ?_) (fun e he => ?_)
  · refine EV.eq (st' := [vi (w32 (sDoR F 1 b x y)), vi 0, .ref (a 131)]) (by show [vi (sDoR F 1 b x y), vi 0, .ref (a 131)] = _; rw [← w32_v]) ?_
    refine e_i2l dL_jump_10 rfl w32_in ?_
    refine e_lastore (i := 131) (N := 1) (x := o) dL_jump_11 rfl rfl wA_get (by decide) (by decide) ?_
    refine EV.ceq (cs' := wA a z ln (sDo F 1 b x y) P D DQ S SP (if 8 < c + 1 then 8 else c + 1) (if n + 1 < 8 then n + 1 else 0) (hU h n.toNat F) g rc T Mt [eJ 1 1 (eU o 0 (w32 (sDoR F 1 b x y)))]) wA_set ?_
    refine e_goto (n := 27) dL_jump_12 rfl ?_
    refine e_iconst dL_jump_27 rfl ?_
    exact e_iret dL_jump_28 rfl rfl ⟨by rw [exK_n ge], rfl, fun _ => rfl, fun q => absurd ge q⟩
  · rcases hE e he with hc | hc | hc <;> subst hc
    · refine e_catch (name := xIx) [] _ _ rfl (fun z hz => absurd hz List.not_mem_nil) rfl (by decide) wd_3_165 (List.mem_of_getElem? (i := 0) rfl) (fun q => ?_)
      refine f_astore dL_jump_15 rfl (Nat.le_of_ble_eq_true rfl) rfl ?_
      refine e_iconst dL_jump_17 rfl ?_
      exact e_iret dL_jump_18 rfl rfl ⟨by rw [exK_1 he], rfl, fun q => absurd (he.symm.trans q) (by simp), fun _ => rfl⟩
    · refine e_catch (name := xAr) [_] _ _ rfl (fun z hz => Or.inr (by rw [List.mem_singleton.mp hz]; exact ⟨by decide, xIx, wd_3_165, List.mem_of_getElem? (i := 60) rfl⟩)) rfl (by decide) wd_2_198 (List.mem_of_getElem? (i := 1) rfl) (fun q => ?_)
      refine f_astore dL_jump_19 rfl (Nat.le_of_ble_eq_true rfl) rfl ?_
      refine e_iconst dL_jump_21 rfl ?_
      exact e_iret dL_jump_22 rfl rfl ⟨by rw [exK_2 he (by decide)], rfl, fun q => absurd (he.symm.trans q) (by simp), fun _ => rfl⟩
    · refine e_catch (name := xUn) [_, _] _ _ rfl (fun z hz => Or.inr (by rcases List.mem_cons.mp hz with e1 | e1; rw [e1]; exact ⟨by decide, xIx, wd_3_165, List.mem_of_getElem? (i := 76) rfl⟩; rw [List.mem_singleton.mp e1]; exact ⟨by decide, xAr, wd_2_198, List.mem_of_getElem? (i := 74) rfl⟩)) rfl (by decide) wd_2_200 (List.mem_of_getElem? (i := 4) rfl) (fun q => ?_)
      refine f_astore dL_jump_23 rfl (Nat.le_of_ble_eq_true rfl) rfl ?_
      refine e_iconst dL_jump_25 rfl ?_
      exact e_iret dL_jump_26 rfl rfl ⟨by rw [exK_3 he (by decide) (by decide)], rfl, fun q => absurd (he.symm.trans q) (by simp), fun _ => rfl⟩
theorem C_L_setHandle {X : eXT} {a : Nat → Nat} {z : Nat → Int} {ln : Int → Int} {F : eFs} {P : Int → Int} {D : eFs} {DQ : Int → Int} {S : eFs} {SP : Int → Int} {c n : Int} {h : eHs} {g rc : Int → Int} {T : eFs} {Mt : Int → Int → Int} {o : Int → Int} {N : Int} (hF : okF N F) (hcc : 0 ≤ c ∧ c ≤ 8) (hnn : 0 ≤ n ∧ n ≤ 7) {b w : Int} (gb : -2147483648 ≤ b ∧ b ≤ 2147483647) (gw : -2147483648 ≤ w ∧ w ≤ 2147483647) :
    EM X mL_setHandle (eRt 10 2) a [.ref (a 0), vi b, vi w, .ref (a 131)] (wA a z ln F P D DQ S SP c n h g rc T Mt [eJ 1 1 o]) (eRets (some (vi (exK (eEx (sHin F 2 b w 0)) xIx xAr ""))) a (fun cs1 => (eEx (sHin F 2 b w 0) = none → cs1 = wA a z ln (sDo F 2 b w 0) P D DQ S SP (if 8 < c + 1 then 8 else c + 1) (if n + 1 < 8 then n + 1 else 0) (hU h n.toNat F) g rc T Mt [eJ 1 1 (eU o 0 (w32 (sDoR F 2 b w 0)))]) ∧ (¬ eEx (sHin F 2 b w 0) = none → cs1 = wA a (zHi z F 2 b w 0) ln F P D DQ S SP c n h g rc T Mt [eJ 1 1 o]))) := by
  have hE : ∀ e, eEx (sHin F 2 b w 0) = some e → e = xIx ∨ e = xAr := by
    intro e he
    rcases hk_2 (F := F) (p := b) (q := w) (r := 0) with w | w | w <;> rw [w] at he
    · exact absurd (show (none : Option String) = some e from he) (by simp)
    · injection (show some xIx = some e from he) with he
      subst he
      exact Or.inl rfl
    · injection (show some xAr = some e from he) with he
      subst he
      exact Or.inr rfl
  refine EM.of (by decide +kernel) rfl (Nat.le_of_ble_eq_true rfl) ?_
  refine e_aload_n dL_setHandle_0 rfl rfl ?_
  refine e_iconst dL_setHandle_1 rfl ?_
  refine e_aload_n dL_setHandle_2 rfl rfl ?_
  refine e_iload_n dL_setHandle_3 rfl rfl ?_
  refine e_iload_n dL_setHandle_4 rfl rfl ?_
  refine e_cVo (b' := (1, 6)) [0, 1, 2, 3, 4, 5, 6, 7, 8, 9, 10, 31, 32, 33, 34, 35, 36, 37, 38, 39, 40, 41, 42, 43, 44, 45, 46, 47, 48, 49, 50, 51, 52, 53, 54, 55, 56, 57, 58, 59, 60, 61, 62, 63, 64, 65, 66, 67, 68, 69, 70, 71, 72, 73, 74, 75, 76, 77, 78, 79, 80, 81, 82, 83, 84, 85, 86, 87, 88, 89, 90, 91, 92, 93, 94, 95, 96, 97, 98, 99, 100, 101, 102, 103, 104, 105, 106, 107, 108, 109, 110, 111, 112] lk_L_24 rfl dL_setHandle_5 rfl (C_X6_setHandle (z := z) (F := F) (P := P) (c := c) (n := n) (h := h) hF hcc hnn (by omega) (by omega)) rfl rfl (Nat.le_of_ble_eq_true rfl) (Nat.le_of_ble_eq_true rfl) (Nat.le_of_ble_eq_true rfl) ⟨(Nat.le_of_ble_eq_true rfl), (Nat.le_of_ble_eq_true rfl)⟩ rfl rfl rfl rfl rfl rfl (cs' := wA a z ln (sDo F 2 b w 0) P D DQ S SP (if 8 < c + 1 then 8 else c + 1) (if n + 1 < 8 then n + 1 else 0) (hU h n.toNat F) g rc T Mt [eJ 1 1 o]) (csX := wA a (zHi z F 2 b w 0) ln F P D DQ S SP c n h g rc T Mt [eJ 1 1 o]) rfl rfl (gOFH (t := [eJ 1 1 o]) (O' := [wO (a 1) (a 11) (a 21) (a 31) (a 113) (a 116) (a 130) (z)]) (F' := wFl (fun k => a (1 + k)) (sDo F 2 b w 0) (P)) (H' := wHi (fun k => a (31 + k)) (if 8 < c + 1 then 8 else c + 1) (if n + 1 < 8 then n + 1 else 0) (hU h n.toNat F)) rfl rfl rfl rfl rfl rfl rfl rfl rfl rfl rfl) (gOFH (t := [eJ 1 1 o]) (O' := [wO (a 1) (a 11) (a 21) (a 31) (a 113) (a 116) (a 130) (zHi z F 2 b w 0)]) (F' := wFl (fun k => a (1 + k)) (F) (P)) (H' := wHi (fun k => a (31 + k)) (c) (n) (h)) rfl rfl rfl rfl rfl rfl rfl rfl rfl rfl rfl) (fun ge => ?_) (fun e he => ?_)
  · refine EV.eq (st' := [vi (w32 (sDoR F 2 b w 0)), vi 0, .ref (a 131)]) (by show [vi (sDoR F 2 b w 0), vi 0, .ref (a 131)] = _; rw [← w32_v]) ?_
    refine e_i2l dL_setHandle_8 rfl w32_in ?_
    refine e_lastore (i := 131) (N := 1) (x := o) dL_setHandle_9 rfl rfl wA_get (by decide) (by decide) ?_
    refine EV.ceq (cs' := wA a z ln (sDo F 2 b w 0) P D DQ S SP (if 8 < c + 1 then 8 else c + 1) (if n + 1 < 8 then n + 1 else 0) (hU h n.toNat F) g rc T Mt [eJ 1 1 (eU o 0 (w32 (sDoR F 2 b w 0)))]) wA_set ?_
    refine e_goto (n := 21) dL_setHandle_10 rfl ?_
    refine e_iconst dL_setHandle_21 rfl ?_
    exact e_iret dL_setHandle_22 rfl rfl ⟨by rw [exK_n ge], rfl, fun _ => rfl, fun q => absurd ge q⟩
  · rcases hE e he with hc | hc <;> subst hc
    · refine e_catch (name := xIx) [] _ _ rfl (fun z hz => absurd hz List.not_mem_nil) rfl (by decide) wd_3_165 (List.mem_of_getElem? (i := 0) rfl) (fun q => ?_)
      refine f_astore dL_setHandle_13 rfl (Nat.le_of_ble_eq_true rfl) rfl ?_
      refine e_iconst dL_setHandle_15 rfl ?_
      exact e_iret dL_setHandle_16 rfl rfl ⟨by rw [exK_1 he], rfl, fun q => absurd (he.symm.trans q) (by simp), fun _ => rfl⟩
    · refine e_catch (name := xAr) [_] _ _ rfl (fun z hz => Or.inr (by rw [List.mem_singleton.mp hz]; exact ⟨by decide, xIx, wd_3_165, List.mem_of_getElem? (i := 60) rfl⟩)) rfl (by decide) wd_2_198 (List.mem_of_getElem? (i := 1) rfl) (fun q => ?_)
      refine f_astore dL_setHandle_17 rfl (Nat.le_of_ble_eq_true rfl) rfl ?_
      refine e_iconst dL_setHandle_19 rfl ?_
      exact e_iret dL_setHandle_20 rfl rfl ⟨by rw [exK_2 he (by decide)], rfl, fun q => absurd (he.symm.trans q) (by simp), fun _ => rfl⟩
theorem C_L_addCloud {X : eXT} {a : Nat → Nat} {z : Nat → Int} {ln : Int → Int} {F : eFs} {P : Int → Int} {D : eFs} {DQ : Int → Int} {S : eFs} {SP : Int → Int} {c n : Int} {h : eHs} {g rc : Int → Int} {T : eFs} {Mt : Int → Int → Int} {o : Int → Int} {N : Int} (hF : okF N F) (hcc : 0 ≤ c ∧ c ≤ 8) (hnn : 0 ≤ n ∧ n ≤ 7) {x y : Int} (gx : -2147483648 ≤ x ∧ x ≤ 2147483647) (gy : -2147483648 ≤ y ∧ y ≤ 2147483647) :
    EM X mL_addCloud (eRt 10 2) a [.ref (a 0), vi x, vi y, .ref (a 131)] (wA a z ln F P D DQ S SP c n h g rc T Mt [eJ 1 1 o]) (eRets (some (vi (exK (eEx (sHin F 3 x y 0)) xAr xSt xUn))) a (fun cs1 => (eEx (sHin F 3 x y 0) = none → cs1 = wA a z ln (sDo F 3 x y 0) P D DQ S SP (if 8 < c + 1 then 8 else c + 1) (if n + 1 < 8 then n + 1 else 0) (hU h n.toNat F) g rc T Mt [eJ 1 1 (eU o 0 (w32 (sDoR F 3 x y 0)))]) ∧ (¬ eEx (sHin F 3 x y 0) = none → cs1 = wA a (zHi z F 3 x y 0) ln F P D DQ S SP c n h g rc T Mt [eJ 1 1 o]))) := by
  have hE : ∀ e, eEx (sHin F 3 x y 0) = some e → e = xAr ∨ e = xSt ∨ e = xUn := by
    intro e he
    rcases hk_3 (F := F) (p := x) (q := y) (r := 0) with w | w | w | w <;> rw [w] at he
    · exact absurd (show (none : Option String) = some e from he) (by simp)
    · injection (show some xAr = some e from he) with he
      subst he
      exact Or.inl rfl
    · injection (show some xSt = some e from he) with he
      subst he
      exact Or.inr (Or.inl rfl)
    · injection (show some xUn = some e from he) with he
      subst he
      exact Or.inr (Or.inr rfl)
  refine EM.of (by decide +kernel) rfl (Nat.le_of_ble_eq_true rfl) ?_
  refine e_aload_n dL_addCloud_0 rfl rfl ?_
  refine e_iconst dL_addCloud_1 rfl ?_
  refine e_aload_n dL_addCloud_2 rfl rfl ?_
  refine e_iload_n dL_addCloud_3 rfl rfl ?_
  refine e_iload_n dL_addCloud_4 rfl rfl ?_
  refine e_cVo (b' := (1, 6)) [0, 1, 2, 3, 4, 5, 6, 7, 8, 9, 10, 31, 32, 33, 34, 35, 36, 37, 38, 39, 40, 41, 42, 43, 44, 45, 46, 47, 48, 49, 50, 51, 52, 53, 54, 55, 56, 57, 58, 59, 60, 61, 62, 63, 64, 65, 66, 67, 68, 69, 70, 71, 72, 73, 74, 75, 76, 77, 78, 79, 80, 81, 82, 83, 84, 85, 86, 87, 88, 89, 90, 91, 92, 93, 94, 95, 96, 97, 98, 99, 100, 101, 102, 103, 104, 105, 106, 107, 108, 109, 110, 111, 112] lk_L_56 rfl dL_addCloud_5 rfl (C_X6_addCloud (z := z) (F := F) (P := P) (c := c) (n := n) (h := h) hF hcc hnn (by omega) (by omega)) rfl rfl (Nat.le_of_ble_eq_true rfl) (Nat.le_of_ble_eq_true rfl) (Nat.le_of_ble_eq_true rfl) ⟨(Nat.le_of_ble_eq_true rfl), (Nat.le_of_ble_eq_true rfl)⟩ rfl rfl rfl rfl rfl rfl (cs' := wA a z ln (sDo F 3 x y 0) P D DQ S SP (if 8 < c + 1 then 8 else c + 1) (if n + 1 < 8 then n + 1 else 0) (hU h n.toNat F) g rc T Mt [eJ 1 1 o]) (csX := wA a (zHi z F 3 x y 0) ln F P D DQ S SP c n h g rc T Mt [eJ 1 1 o]) rfl rfl (gOFH (t := [eJ 1 1 o]) (O' := [wO (a 1) (a 11) (a 21) (a 31) (a 113) (a 116) (a 130) (z)]) (F' := wFl (fun k => a (1 + k)) (sDo F 3 x y 0) (P)) (H' := wHi (fun k => a (31 + k)) (if 8 < c + 1 then 8 else c + 1) (if n + 1 < 8 then n + 1 else 0) (hU h n.toNat F)) rfl rfl rfl rfl rfl rfl rfl rfl rfl rfl rfl) (gOFH (t := [eJ 1 1 o]) (O' := [wO (a 1) (a 11) (a 21) (a 31) (a 113) (a 116) (a 130) (zHi z F 3 x y 0)]) (F' := wFl (fun k => a (1 + k)) (F) (P)) (H' := wHi (fun k => a (31 + k)) (c) (n) (h)) rfl rfl rfl rfl rfl rfl rfl rfl rfl rfl rfl) (fun ge => ?_) (fun e he => ?_)
  · refine EV.eq (st' := [vi (w32 (sDoR F 3 x y 0)), vi 0, .ref (a 131)]) (by show [vi (sDoR F 3 x y 0), vi 0, .ref (a 131)] = _; rw [← w32_v]) ?_
    refine e_i2l dL_addCloud_8 rfl w32_in ?_
    refine e_lastore (i := 131) (N := 1) (x := o) dL_addCloud_9 rfl rfl wA_get (by decide) (by decide) ?_
    refine EV.ceq (cs' := wA a z ln (sDo F 3 x y 0) P D DQ S SP (if 8 < c + 1 then 8 else c + 1) (if n + 1 < 8 then n + 1 else 0) (hU h n.toNat F) g rc T Mt [eJ 1 1 (eU o 0 (w32 (sDoR F 3 x y 0)))]) wA_set ?_
    refine e_goto (n := 25) dL_addCloud_10 rfl ?_
    refine e_iconst dL_addCloud_25 rfl ?_
    exact e_iret dL_addCloud_26 rfl rfl ⟨by rw [exK_n ge], rfl, fun _ => rfl, fun q => absurd ge q⟩
  · rcases hE e he with hc | hc | hc <;> subst hc
    · refine e_catch (name := xAr) [] _ _ rfl (fun z hz => absurd hz List.not_mem_nil) rfl (by decide) wd_2_198 (List.mem_of_getElem? (i := 1) rfl) (fun q => ?_)
      refine f_astore dL_addCloud_13 rfl (Nat.le_of_ble_eq_true rfl) rfl ?_
      refine e_iconst dL_addCloud_15 rfl ?_
      exact e_iret dL_addCloud_16 rfl rfl ⟨by rw [exK_1 he], rfl, fun q => absurd (he.symm.trans q) (by simp), fun _ => rfl⟩
    · refine e_catch (name := xSt) [_] _ _ rfl (fun z hz => Or.inr (by rw [List.mem_singleton.mp hz]; exact ⟨by decide, xAr, wd_2_198, List.mem_of_getElem? (i := 64) rfl⟩)) rfl (by decide) wd_2_199 (List.mem_of_getElem? (i := 2) rfl) (fun q => ?_)
      refine f_astore dL_addCloud_17 rfl (Nat.le_of_ble_eq_true rfl) rfl ?_
      refine e_iconst dL_addCloud_19 rfl ?_
      exact e_iret dL_addCloud_20 rfl rfl ⟨by rw [exK_2 he (by decide)], rfl, fun q => absurd (he.symm.trans q) (by simp), fun _ => rfl⟩
    · refine e_catch (name := xUn) [_, _] _ _ rfl (fun z hz => Or.inr (by rcases List.mem_cons.mp hz with e1 | e1; rw [e1]; exact ⟨by decide, xAr, wd_2_198, List.mem_of_getElem? (i := 74) rfl⟩; rw [List.mem_singleton.mp e1]; exact ⟨by decide, xSt, wd_2_199, List.mem_of_getElem? (i := 75) rfl⟩)) rfl (by decide) wd_2_200 (List.mem_of_getElem? (i := 4) rfl) (fun q => ?_)
      refine f_astore dL_addCloud_21 rfl (Nat.le_of_ble_eq_true rfl) rfl ?_
      refine e_iconst dL_addCloud_23 rfl ?_
      exact e_iret dL_addCloud_24 rfl rfl ⟨by rw [exK_3 he (by decide) (by decide)], rfl, fun q => absurd (he.symm.trans q) (by simp), fun _ => rfl⟩
theorem C_L_removeCloud {X : eXT} {a : Nat → Nat} {z : Nat → Int} {ln : Int → Int} {F : eFs} {P : Int → Int} {D : eFs} {DQ : Int → Int} {S : eFs} {SP : Int → Int} {c n : Int} {h : eHs} {g rc : Int → Int} {T : eFs} {Mt : Int → Int → Int} {o : Int → Int} {N : Int} (hF : okF N F) (hcc : 0 ≤ c ∧ c ≤ 8) (hnn : 0 ≤ n ∧ n ≤ 7) {x y : Int} (gx : -2147483648 ≤ x ∧ x ≤ 2147483647) (gy : -2147483648 ≤ y ∧ y ≤ 2147483647) :
    EM X mL_removeCloud (eRt 10 2) a [.ref (a 0), vi x, vi y, .ref (a 131)] (wA a z ln F P D DQ S SP c n h g rc T Mt [eJ 1 1 o]) (eRets (some (vi (exK (eEx (sHin F 4 x y 0)) xAr xNo ""))) a (fun cs1 => (eEx (sHin F 4 x y 0) = none → cs1 = wA a z ln (sDo F 4 x y 0) P D DQ S SP (if 8 < c + 1 then 8 else c + 1) (if n + 1 < 8 then n + 1 else 0) (hU h n.toNat F) g rc T Mt [eJ 1 1 (eU o 0 (w32 (sDoR F 4 x y 0)))]) ∧ (¬ eEx (sHin F 4 x y 0) = none → cs1 = wA a (zHi z F 4 x y 0) ln F P D DQ S SP c n h g rc T Mt [eJ 1 1 o]))) := by
  have hE : ∀ e, eEx (sHin F 4 x y 0) = some e → e = xAr ∨ e = xNo := by
    intro e he
    rcases hk_4 (F := F) (p := x) (q := y) (r := 0) with w | w | w <;> rw [w] at he
    · exact absurd (show (none : Option String) = some e from he) (by simp)
    · injection (show some xAr = some e from he) with he
      subst he
      exact Or.inl rfl
    · injection (show some xNo = some e from he) with he
      subst he
      exact Or.inr rfl
  refine EM.of (by decide +kernel) rfl (Nat.le_of_ble_eq_true rfl) ?_
  refine e_aload_n dL_removeCloud_0 rfl rfl ?_
  refine e_iconst dL_removeCloud_1 rfl ?_
  refine e_aload_n dL_removeCloud_2 rfl rfl ?_
  refine e_iload_n dL_removeCloud_3 rfl rfl ?_
  refine e_iload_n dL_removeCloud_4 rfl rfl ?_
  refine e_cVo (b' := (1, 6)) [0, 1, 2, 3, 4, 5, 6, 7, 8, 9, 10, 31, 32, 33, 34, 35, 36, 37, 38, 39, 40, 41, 42, 43, 44, 45, 46, 47, 48, 49, 50, 51, 52, 53, 54, 55, 56, 57, 58, 59, 60, 61, 62, 63, 64, 65, 66, 67, 68, 69, 70, 71, 72, 73, 74, 75, 76, 77, 78, 79, 80, 81, 82, 83, 84, 85, 86, 87, 88, 89, 90, 91, 92, 93, 94, 95, 96, 97, 98, 99, 100, 101, 102, 103, 104, 105, 106, 107, 108, 109, 110, 111, 112] lk_L_59 rfl dL_removeCloud_5 rfl (C_X6_removeCloud (z := z) (F := F) (P := P) (c := c) (n := n) (h := h) hF hcc hnn (by omega) (by omega)) rfl rfl (Nat.le_of_ble_eq_true rfl) (Nat.le_of_ble_eq_true rfl) (Nat.le_of_ble_eq_true rfl) ⟨(Nat.le_of_ble_eq_true rfl), (Nat.le_of_ble_eq_true rfl)⟩ rfl rfl rfl rfl rfl rfl (cs' := wA a z ln (sDo F 4 x y 0) P D DQ S SP (if 8 < c + 1 then 8 else c + 1) (if n + 1 < 8 then n + 1 else 0) (hU h n.toNat F) g rc T Mt [eJ 1 1 o]) (csX := wA a (zHi z F 4 x y 0) ln F P D DQ S SP c n h g rc T Mt [eJ 1 1 o]) rfl rfl (gOFH (t := [eJ 1 1 o]) (O' := [wO (a 1) (a 11) (a 21) (a 31) (a 113) (a 116) (a 130) (z)]) (F' := wFl (fun k => a (1 + k)) (sDo F 4 x y 0) (P)) (H' := wHi (fun k => a (31 + k)) (if 8 < c + 1 then 8 else c + 1) (if n + 1 < 8 then n + 1 else 0) (hU h n.toNat F)) rfl rfl rfl rfl rfl rfl rfl rfl rfl rfl rfl) (gOFH (t := [eJ 1 1 o]) (O' := [wO (a 1) (a 11) (a 21) (a 31) (a 113) (a 116) (a 130) (zHi z F 4 x y 0)]) (F' := wFl (fun k => a (1 + k)) (F) (P)) (H' := wHi (fun k => a (31 + k)) (c) (n) (h)) rfl rfl rfl rfl rfl rfl rfl rfl rfl rfl rfl) (fun ge => ?_) (fun e he => ?_)
  · refine EV.eq (st' := [vi (w32 (sDoR F 4 x y 0)), vi 0, .ref (a 131)]) (by show [vi (sDoR F 4 x y 0), vi 0, .ref (a 131)] = _; rw [← w32_v]) ?_
    refine e_i2l dL_removeCloud_8 rfl w32_in ?_
    refine e_lastore (i := 131) (N := 1) (x := o) dL_removeCloud_9 rfl rfl wA_get (by decide) (by decide) ?_
    refine EV.ceq (cs' := wA a z ln (sDo F 4 x y 0) P D DQ S SP (if 8 < c + 1 then 8 else c + 1) (if n + 1 < 8 then n + 1 else 0) (hU h n.toNat F) g rc T Mt [eJ 1 1 (eU o 0 (w32 (sDoR F 4 x y 0)))]) wA_set ?_
    refine e_goto (n := 21) dL_removeCloud_10 rfl ?_
    refine e_iconst dL_removeCloud_21 rfl ?_
    exact e_iret dL_removeCloud_22 rfl rfl ⟨by rw [exK_n ge], rfl, fun _ => rfl, fun q => absurd ge q⟩
  · rcases hE e he with hc | hc <;> subst hc
    · refine e_catch (name := xAr) [] _ _ rfl (fun z hz => absurd hz List.not_mem_nil) rfl (by decide) wd_2_198 (List.mem_of_getElem? (i := 1) rfl) (fun q => ?_)
      refine f_astore dL_removeCloud_13 rfl (Nat.le_of_ble_eq_true rfl) rfl ?_
      refine e_iconst dL_removeCloud_15 rfl ?_
      exact e_iret dL_removeCloud_16 rfl rfl ⟨by rw [exK_1 he], rfl, fun q => absurd (he.symm.trans q) (by simp), fun _ => rfl⟩
    · refine e_catch (name := xNo) [_] _ _ rfl (fun z hz => Or.inr (by rw [List.mem_singleton.mp hz]; exact ⟨by decide, xAr, wd_2_198, List.mem_of_getElem? (i := 79) rfl⟩)) rfl (by decide) wd_3_234 (List.mem_of_getElem? (i := 3) rfl) (fun q => ?_)
      refine f_astore dL_removeCloud_17 rfl (Nat.le_of_ble_eq_true rfl) rfl ?_
      refine e_iconst dL_removeCloud_19 rfl ?_
      exact e_iret dL_removeCloud_20 rfl rfl ⟨by rw [exK_2 he (by decide)], rfl, fun q => absurd (he.symm.trans q) (by simp), fun _ => rfl⟩
theorem C_L_setTurnLength {X : eXT} {a : Nat → Nat} {z : Nat → Int} {ln : Int → Int} {F : eFs} {P : Int → Int} {D : eFs} {DQ : Int → Int} {S : eFs} {SP : Int → Int} {c n : Int} {h : eHs} {g rc : Int → Int} {T : eFs} {Mt : Int → Int → Int} {o : Int → Int} {N : Int} (hF : okF N F) (hcc : 0 ≤ c ∧ c ≤ 8) (hnn : 0 ≤ n ∧ n ≤ 7) {s : Int} (gs : -2147483648 ≤ s ∧ s ≤ 2147483647) :
    EM X mL_setTurnLength (eRt 10 2) a [.ref (a 0), vi s, .ref (a 131)] (wA a z ln F P D DQ S SP c n h g rc T Mt [eJ 1 1 o]) (eRets (some (vi (exK (eEx (sHin F 5 s 0 0)) xAr "" ""))) a (fun cs1 => (eEx (sHin F 5 s 0 0) = none → cs1 = wA a z ln (sDo F 5 s 0 0) P D DQ S SP (if 8 < c + 1 then 8 else c + 1) (if n + 1 < 8 then n + 1 else 0) (hU h n.toNat F) g rc T Mt [eJ 1 1 (eU o 0 (w32 (sDoR F 5 s 0 0)))]) ∧ (¬ eEx (sHin F 5 s 0 0) = none → cs1 = wA a (zHi z F 5 s 0 0) ln F P D DQ S SP c n h g rc T Mt [eJ 1 1 o]))) := by
  have hE : ∀ e, eEx (sHin F 5 s 0 0) = some e → e = xAr := by
    intro e he
    rcases hk_5 (F := F) (p := s) (q := 0) (r := 0) with w | w <;> rw [w] at he
    · exact absurd (show (none : Option String) = some e from he) (by simp)
    · injection (show some xAr = some e from he) with he
      subst he
      exact rfl
  refine EM.of (by decide +kernel) rfl (Nat.le_of_ble_eq_true rfl) ?_
  refine e_aload_n dL_setTurnLength_0 rfl rfl ?_
  refine e_iconst dL_setTurnLength_1 rfl ?_
  refine e_aload_n dL_setTurnLength_2 rfl rfl ?_
  refine e_iload_n dL_setTurnLength_3 rfl rfl ?_
  refine e_cVo (b' := (1, 6)) [0, 1, 2, 3, 4, 5, 6, 7, 8, 9, 10, 31, 32, 33, 34, 35, 36, 37, 38, 39, 40, 41, 42, 43, 44, 45, 46, 47, 48, 49, 50, 51, 52, 53, 54, 55, 56, 57, 58, 59, 60, 61, 62, 63, 64, 65, 66, 67, 68, 69, 70, 71, 72, 73, 74, 75, 76, 77, 78, 79, 80, 81, 82, 83, 84, 85, 86, 87, 88, 89, 90, 91, 92, 93, 94, 95, 96, 97, 98, 99, 100, 101, 102, 103, 104, 105, 106, 107, 108, 109, 110, 111, 112] lk_L_66 rfl dL_setTurnLength_4 rfl (C_X6_setTurnLength (z := z) (F := F) (P := P) (c := c) (n := n) (h := h) hF hcc hnn (by omega)) rfl rfl (Nat.le_of_ble_eq_true rfl) (Nat.le_of_ble_eq_true rfl) (Nat.le_of_ble_eq_true rfl) ⟨(Nat.le_of_ble_eq_true rfl), (Nat.le_of_ble_eq_true rfl)⟩ rfl rfl rfl rfl rfl rfl (cs' := wA a z ln (sDo F 5 s 0 0) P D DQ S SP (if 8 < c + 1 then 8 else c + 1) (if n + 1 < 8 then n + 1 else 0) (hU h n.toNat F) g rc T Mt [eJ 1 1 o]) (csX := wA a (zHi z F 5 s 0 0) ln F P D DQ S SP c n h g rc T Mt [eJ 1 1 o]) rfl rfl (gOFH (t := [eJ 1 1 o]) (O' := [wO (a 1) (a 11) (a 21) (a 31) (a 113) (a 116) (a 130) (z)]) (F' := wFl (fun k => a (1 + k)) (sDo F 5 s 0 0) (P)) (H' := wHi (fun k => a (31 + k)) (if 8 < c + 1 then 8 else c + 1) (if n + 1 < 8 then n + 1 else 0) (hU h n.toNat F)) rfl rfl rfl rfl rfl rfl rfl rfl rfl rfl rfl) (gOFH (t := [eJ 1 1 o]) (O' := [wO (a 1) (a 11) (a 21) (a 31) (a 113) (a 116) (a 130) (zHi z F 5 s 0 0)]) (F' := wFl (fun k => a (1 + k)) (F) (P)) (H' := wHi (fun k => a (31 + k)) (c) (n) (h)) rfl rfl rfl rfl rfl rfl rfl rfl rfl rfl rfl) (fun ge => ?_) (fun e he => ?_)
  · refine EV.eq (st' := [vi (w32 (sDoR F 5 s 0 0)), vi 0, .ref (a 131)]) (by show [vi (sDoR F 5 s 0 0), vi 0, .ref (a 131)] = _; rw [← w32_v]) ?_
    refine e_i2l dL_setTurnLength_7 rfl w32_in ?_
    refine e_lastore (i := 131) (N := 1) (x := o) dL_setTurnLength_8 rfl rfl wA_get (by decide) (by decide) ?_
    refine EV.ceq (cs' := wA a z ln (sDo F 5 s 0 0) P D DQ S SP (if 8 < c + 1 then 8 else c + 1) (if n + 1 < 8 then n + 1 else 0) (hU h n.toNat F) g rc T Mt [eJ 1 1 (eU o 0 (w32 (sDoR F 5 s 0 0)))]) wA_set ?_
    refine e_goto (n := 15) dL_setTurnLength_9 rfl ?_
    refine e_iconst dL_setTurnLength_15 rfl ?_
    exact e_iret dL_setTurnLength_16 rfl rfl ⟨by rw [exK_n ge], rfl, fun _ => rfl, fun q => absurd ge q⟩
  · have hc := hE e he
    subst hc
    refine e_catch (name := xAr) [] _ _ rfl (fun z hz => absurd hz List.not_mem_nil) rfl (by decide) wd_2_198 (List.mem_of_getElem? (i := 1) rfl) (fun q => ?_)
    refine f_astore_n dL_setTurnLength_12 rfl (Nat.le_of_ble_eq_true rfl) rfl ?_
    refine e_iconst dL_setTurnLength_13 rfl ?_
    exact e_iret dL_setTurnLength_14 rfl rfl ⟨by rw [exK_1 he], rfl, fun q => absurd (he.symm.trans q) (by simp), fun _ => rfl⟩
theorem C_L_setTarget {X : eXT} {a : Nat → Nat} {z : Nat → Int} {ln : Int → Int} {F : eFs} {P : Int → Int} {D : eFs} {DQ : Int → Int} {S : eFs} {SP : Int → Int} {c n : Int} {h : eHs} {g rc : Int → Int} {T : eFs} {Mt : Int → Int → Int} {o : Int → Int} {N : Int} (hF : okF N F) (hcc : 0 ≤ c ∧ c ≤ 8) (hnn : 0 ≤ n ∧ n ≤ 7) {x y : Int} (gx : -2147483648 ≤ x ∧ x ≤ 2147483647) (gy : -2147483648 ≤ y ∧ y ≤ 2147483647) :
    EM X mL_setTarget (eRt 10 2) a [.ref (a 0), vi x, vi y, .ref (a 131)] (wA a z ln F P D DQ S SP c n h g rc T Mt [eJ 1 1 o]) (eRets (some (vi (exK (eEx (sHin F 6 x y 0)) xAr xNo ""))) a (fun cs1 => (eEx (sHin F 6 x y 0) = none → cs1 = wA a z ln (sDo F 6 x y 0) P D DQ S SP (if 8 < c + 1 then 8 else c + 1) (if n + 1 < 8 then n + 1 else 0) (hU h n.toNat F) g rc T Mt [eJ 1 1 (eU o 0 (w32 (sDoR F 6 x y 0)))]) ∧ (¬ eEx (sHin F 6 x y 0) = none → cs1 = wA a (zHi z F 6 x y 0) ln F P D DQ S SP c n h g rc T Mt [eJ 1 1 o]))) := by
  have hE : ∀ e, eEx (sHin F 6 x y 0) = some e → e = xAr ∨ e = xNo := by
    intro e he
    rcases hk_6 (F := F) (p := x) (q := y) (r := 0) with w | w | w <;> rw [w] at he
    · exact absurd (show (none : Option String) = some e from he) (by simp)
    · injection (show some xAr = some e from he) with he
      subst he
      exact Or.inl rfl
    · injection (show some xNo = some e from he) with he
      subst he
      exact Or.inr rfl
  refine EM.of (by decide +kernel) rfl (Nat.le_of_ble_eq_true rfl) ?_
  refine e_aload_n dL_setTarget_0 rfl rfl ?_
  refine e_iconst dL_setTarget_1 rfl ?_
  refine e_aload_n dL_setTarget_2 rfl rfl ?_
  refine e_iload_n dL_setTarget_3 rfl rfl ?_
  refine e_iload_n dL_setTarget_4 rfl rfl ?_
  refine e_cVo (b' := (1, 6)) [0, 1, 2, 3, 4, 5, 6, 7, 8, 9, 10, 31, 32, 33, 34, 35, 36, 37, 38, 39, 40, 41, 42, 43, 44, 45, 46, 47, 48, 49, 50, 51, 52, 53, 54, 55, 56, 57, 58, 59, 60, 61, 62, 63, 64, 65, 66, 67, 68, 69, 70, 71, 72, 73, 74, 75, 76, 77, 78, 79, 80, 81, 82, 83, 84, 85, 86, 87, 88, 89, 90, 91, 92, 93, 94, 95, 96, 97, 98, 99, 100, 101, 102, 103, 104, 105, 106, 107, 108, 109, 110, 111, 112] lk_L_78 rfl dL_setTarget_5 rfl (C_X6_setTarget (z := z) (F := F) (P := P) (c := c) (n := n) (h := h) hF hcc hnn (by omega) (by omega)) rfl rfl (Nat.le_of_ble_eq_true rfl) (Nat.le_of_ble_eq_true rfl) (Nat.le_of_ble_eq_true rfl) ⟨(Nat.le_of_ble_eq_true rfl), (Nat.le_of_ble_eq_true rfl)⟩ rfl rfl rfl rfl rfl rfl (cs' := wA a z ln (sDo F 6 x y 0) P D DQ S SP (if 8 < c + 1 then 8 else c + 1) (if n + 1 < 8 then n + 1 else 0) (hU h n.toNat F) g rc T Mt [eJ 1 1 o]) (csX := wA a (zHi z F 6 x y 0) ln F P D DQ S SP c n h g rc T Mt [eJ 1 1 o]) rfl rfl (gOFH (t := [eJ 1 1 o]) (O' := [wO (a 1) (a 11) (a 21) (a 31) (a 113) (a 116) (a 130) (z)]) (F' := wFl (fun k => a (1 + k)) (sDo F 6 x y 0) (P)) (H' := wHi (fun k => a (31 + k)) (if 8 < c + 1 then 8 else c + 1) (if n + 1 < 8 then n + 1 else 0) (hU h n.toNat F)) rfl rfl rfl rfl rfl rfl rfl rfl rfl rfl rfl) (gOFH (t := [eJ 1 1 o]) (O' := [wO (a 1) (a 11) (a 21) (a 31) (a 113) (a 116) (a 130) (zHi z F 6 x y 0)]) (F' := wFl (fun k => a (1 + k)) (F) (P)) (H' := wHi (fun k => a (31 + k)) (c) (n) (h)) rfl rfl rfl rfl rfl rfl rfl rfl rfl rfl rfl) (fun ge => ?_) (fun e he => ?_)
  · refine EV.eq (st' := [vi (w32 (sDoR F 6 x y 0)), vi 0, .ref (a 131)]) (by show [vi (sDoR F 6 x y 0), vi 0, .ref (a 131)] = _; rw [← w32_v]) ?_
    refine e_i2l dL_setTarget_8 rfl w32_in ?_
    refine e_lastore (i := 131) (N := 1) (x := o) dL_setTarget_9 rfl rfl wA_get (by decide) (by decide) ?_
    refine EV.ceq (cs' := wA a z ln (sDo F 6 x y 0) P D DQ S SP (if 8 < c + 1 then 8 else c + 1) (if n + 1 < 8 then n + 1 else 0) (hU h n.toNat F) g rc T Mt [eJ 1 1 (eU o 0 (w32 (sDoR F 6 x y 0)))]) wA_set ?_
    refine e_goto (n := 21) dL_setTarget_10 rfl ?_
    refine e_iconst dL_setTarget_21 rfl ?_
    exact e_iret dL_setTarget_22 rfl rfl ⟨by rw [exK_n ge], rfl, fun _ => rfl, fun q => absurd ge q⟩
  · rcases hE e he with hc | hc <;> subst hc
    · refine e_catch (name := xAr) [] _ _ rfl (fun z hz => absurd hz List.not_mem_nil) rfl (by decide) wd_2_198 (List.mem_of_getElem? (i := 1) rfl) (fun q => ?_)
      refine f_astore dL_setTarget_13 rfl (Nat.le_of_ble_eq_true rfl) rfl ?_
      refine e_iconst dL_setTarget_15 rfl ?_
      exact e_iret dL_setTarget_16 rfl rfl ⟨by rw [exK_1 he], rfl, fun q => absurd (he.symm.trans q) (by simp), fun _ => rfl⟩
    · refine e_catch (name := xNo) [_] _ _ rfl (fun z hz => Or.inr (by rw [List.mem_singleton.mp hz]; exact ⟨by decide, xAr, wd_2_198, List.mem_of_getElem? (i := 79) rfl⟩)) rfl (by decide) wd_3_234 (List.mem_of_getElem? (i := 3) rfl) (fun q => ?_)
      refine f_astore dL_setTarget_17 rfl (Nat.le_of_ble_eq_true rfl) rfl ?_
      refine e_iconst dL_setTarget_19 rfl ?_
      exact e_iret dL_setTarget_20 rfl rfl ⟨by rw [exK_2 he (by decide)], rfl, fun q => absurd (he.symm.trans q) (by simp), fun _ => rfl⟩
theorem C_L_setKeep {X : eXT} {a : Nat → Nat} {z : Nat → Int} {ln : Int → Int} {F : eFs} {P : Int → Int} {D : eFs} {DQ : Int → Int} {S : eFs} {SP : Int → Int} {c n : Int} {h : eHs} {g rc : Int → Int} {T : eFs} {Mt : Int → Int → Int} {o : Int → Int} {N : Int} (hF : okF N F) (hcc : 0 ≤ c ∧ c ≤ 8) (hnn : 0 ≤ n ∧ n ≤ 7) {s : Int} (gs : -2147483648 ≤ s ∧ s ≤ 2147483647) :
    EM X mL_setKeep (eRt 10 2) a [.ref (a 0), vi s, .ref (a 131)] (wA a z ln F P D DQ S SP c n h g rc T Mt [eJ 1 1 o]) (eRets (some (vi (exK (eEx (sHin F 7 s 0 0)) xAr "" ""))) a (fun cs1 => (eEx (sHin F 7 s 0 0) = none → cs1 = wA a z ln (sDo F 7 s 0 0) P D DQ S SP (if 8 < c + 1 then 8 else c + 1) (if n + 1 < 8 then n + 1 else 0) (hU h n.toNat F) g rc T Mt [eJ 1 1 (eU o 0 (w32 (sDoR F 7 s 0 0)))]) ∧ (¬ eEx (sHin F 7 s 0 0) = none → cs1 = wA a (zHi z F 7 s 0 0) ln F P D DQ S SP c n h g rc T Mt [eJ 1 1 o]))) := by
  have hE : ∀ e, eEx (sHin F 7 s 0 0) = some e → e = xAr := by
    intro e he
    rcases hk_7 (F := F) (p := s) (q := 0) (r := 0) with w | w <;> rw [w] at he
    · exact absurd (show (none : Option String) = some e from he) (by simp)
    · injection (show some xAr = some e from he) with he
      subst he
      exact rfl
  refine EM.of (by decide +kernel) rfl (Nat.le_of_ble_eq_true rfl) ?_
  refine e_aload_n dL_setKeep_0 rfl rfl ?_
  refine e_iconst dL_setKeep_1 rfl ?_
  refine e_aload_n dL_setKeep_2 rfl rfl ?_
  refine e_iload_n dL_setKeep_3 rfl rfl ?_
  refine e_cVo (b' := (1, 6)) [0, 1, 2, 3, 4, 5, 6, 7, 8, 9, 10, 31, 32, 33, 34, 35, 36, 37, 38, 39, 40, 41, 42, 43, 44, 45, 46, 47, 48, 49, 50, 51, 52, 53, 54, 55, 56, 57, 58, 59, 60, 61, 62, 63, 64, 65, 66, 67, 68, 69, 70, 71, 72, 73, 74, 75, 76, 77, 78, 79, 80, 81, 82, 83, 84, 85, 86, 87, 88, 89, 90, 91, 92, 93, 94, 95, 96, 97, 98, 99, 100, 101, 102, 103, 104, 105, 106, 107, 108, 109, 110, 111, 112] lk_L_90 rfl dL_setKeep_4 rfl (C_X6_setKeep (z := z) (F := F) (P := P) (c := c) (n := n) (h := h) hF hcc hnn (by omega)) rfl rfl (Nat.le_of_ble_eq_true rfl) (Nat.le_of_ble_eq_true rfl) (Nat.le_of_ble_eq_true rfl) ⟨(Nat.le_of_ble_eq_true rfl), (Nat.le_of_ble_eq_true rfl)⟩ rfl rfl rfl rfl rfl rfl (cs' := wA a z ln (sDo F 7 s 0 0) P D DQ S SP (if 8 < c + 1 then 8 else c + 1) (if n + 1 < 8 then n + 1 else 0) (hU h n.toNat F) g rc T Mt [eJ 1 1 o]) (csX := wA a (zHi z F 7 s 0 0) ln F P D DQ S SP c n h g rc T Mt [eJ 1 1 o]) rfl rfl (gOFH (t := [eJ 1 1 o]) (O' := [wO (a 1) (a 11) (a 21) (a 31) (a 113) (a 116) (a 130) (z)]) (F' := wFl (fun k => a (1 + k)) (sDo F 7 s 0 0) (P)) (H' := wHi (fun k => a (31 + k)) (if 8 < c + 1 then 8 else c + 1) (if n + 1 < 8 then n + 1 else 0) (hU h n.toNat F)) rfl rfl rfl rfl rfl rfl rfl rfl rfl rfl rfl) (gOFH (t := [eJ 1 1 o]) (O' := [wO (a 1) (a 11) (a 21) (a 31) (a 113) (a 116) (a 130) (zHi z F 7 s 0 0)]) (F' := wFl (fun k => a (1 + k)) (F) (P)) (H' := wHi (fun k => a (31 + k)) (c) (n) (h)) rfl rfl rfl rfl rfl rfl rfl rfl rfl rfl rfl) (fun ge => ?_) (fun e he => ?_)
  · refine EV.eq (st' := [vi (w32 (sDoR F 7 s 0 0)), vi 0, .ref (a 131)]) (by show [vi (sDoR F 7 s 0 0), vi 0, .ref (a 131)] = _; rw [← w32_v]) ?_
    refine e_i2l dL_setKeep_7 rfl w32_in ?_
    refine e_lastore (i := 131) (N := 1) (x := o) dL_setKeep_8 rfl rfl wA_get (by decide) (by decide) ?_
    refine EV.ceq (cs' := wA a z ln (sDo F 7 s 0 0) P D DQ S SP (if 8 < c + 1 then 8 else c + 1) (if n + 1 < 8 then n + 1 else 0) (hU h n.toNat F) g rc T Mt [eJ 1 1 (eU o 0 (w32 (sDoR F 7 s 0 0)))]) wA_set ?_
    refine e_goto (n := 15) dL_setKeep_9 rfl ?_
    refine e_iconst dL_setKeep_15 rfl ?_
    exact e_iret dL_setKeep_16 rfl rfl ⟨by rw [exK_n ge], rfl, fun _ => rfl, fun q => absurd ge q⟩
  · have hc := hE e he
    subst hc
    refine e_catch (name := xAr) [] _ _ rfl (fun z hz => absurd hz List.not_mem_nil) rfl (by decide) wd_2_198 (List.mem_of_getElem? (i := 1) rfl) (fun q => ?_)
    refine f_astore_n dL_setKeep_12 rfl (Nat.le_of_ble_eq_true rfl) rfl ?_
    refine e_iconst dL_setKeep_13 rfl ?_
    exact e_iret dL_setKeep_14 rfl rfl ⟨by rw [exK_1 he], rfl, fun q => absurd (he.symm.trans q) (by simp), fun _ => rfl⟩
theorem C_L_advance {X : eXT} {a : Nat → Nat} {z : Nat → Int} {ln : Int → Int} {F : eFs} {P : Int → Int} {D : eFs} {DQ : Int → Int} {S : eFs} {SP : Int → Int} {c n : Int} {h : eHs} {g rc : Int → Int} {T : eFs} {Mt : Int → Int → Int} {o : Int → Int} {N : Int} (hF : okF N F) (hcc : 0 ≤ c ∧ c ≤ 8) (hnn : 0 ≤ n ∧ n ≤ 7) (hNs : N + 20000 ≤ 100000000) {s : Int} (gs : -2147483648 ≤ s ∧ s ≤ 2147483647) :
    EM X mL_advance (eRt 10 2) a [.ref (a 0), vi s, .ref (a 131)] (wA a z ln F P D DQ S SP c n h g rc T Mt [eJ 1 1 o]) (eRets (some (vi (exK (eEx (sHin F 8 s 0 0)) xAr "" ""))) a (fun cs1 => (eEx (sHin F 8 s 0 0) = none → cs1 = wA a z ln (sDo F 8 s 0 0) (sStsP (s - 0).toNat F P) D DQ S SP (if 8 < c + 1 then 8 else c + 1) (if n + 1 < 8 then n + 1 else 0) (hU h n.toNat F) g rc T Mt [eJ 1 1 (eU o 0 (w32 (sDoR F 8 s 0 0)))]) ∧ (¬ eEx (sHin F 8 s 0 0) = none → cs1 = wA a (zHi z F 8 s 0 0) ln F P D DQ S SP c n h g rc T Mt [eJ 1 1 o]))) := by
  have hE : ∀ e, eEx (sHin F 8 s 0 0) = some e → e = xAr := by
    intro e he
    rcases hk_8 (F := F) (p := s) (q := 0) (r := 0) with w | w <;> rw [w] at he
    · exact absurd (show (none : Option String) = some e from he) (by simp)
    · injection (show some xAr = some e from he) with he
      subst he
      exact rfl
  refine EM.of (by decide +kernel) rfl (Nat.le_of_ble_eq_true rfl) ?_
  refine e_aload_n dL_advance_0 rfl rfl ?_
  refine e_iconst dL_advance_1 rfl ?_
  refine e_aload_n dL_advance_2 rfl rfl ?_
  refine e_iload_n dL_advance_3 rfl rfl ?_
  refine e_cVo (b' := (1, 6)) [0, 1, 2, 3, 4, 5, 6, 7, 8, 9, 10, 31, 32, 33, 34, 35, 36, 37, 38, 39, 40, 41, 42, 43, 44, 45, 46, 47, 48, 49, 50, 51, 52, 53, 54, 55, 56, 57, 58, 59, 60, 61, 62, 63, 64, 65, 66, 67, 68, 69, 70, 71, 72, 73, 74, 75, 76, 77, 78, 79, 80, 81, 82, 83, 84, 85, 86, 87, 88, 89, 90, 91, 92, 93, 94, 95, 96, 97, 98, 99, 100, 101, 102, 103, 104, 105, 106, 107, 108, 109, 110, 111, 112] lk_L_93 rfl dL_advance_4 rfl (C_X6_advance (z := z) (F := F) (P := P) (c := c) (n := n) (h := h) hF hcc hnn (by omega) hNs) rfl rfl (Nat.le_of_ble_eq_true rfl) (Nat.le_of_ble_eq_true rfl) (Nat.le_of_ble_eq_true rfl) ⟨(Nat.le_of_ble_eq_true rfl), (Nat.le_of_ble_eq_true rfl)⟩ rfl rfl rfl rfl rfl rfl (cs' := wA a z ln (sDo F 8 s 0 0) (sStsP (s - 0).toNat F P) D DQ S SP (if 8 < c + 1 then 8 else c + 1) (if n + 1 < 8 then n + 1 else 0) (hU h n.toNat F) g rc T Mt [eJ 1 1 o]) (csX := wA a (zHi z F 8 s 0 0) ln F P D DQ S SP c n h g rc T Mt [eJ 1 1 o]) rfl rfl (gOFH (t := [eJ 1 1 o]) (O' := [wO (a 1) (a 11) (a 21) (a 31) (a 113) (a 116) (a 130) (z)]) (F' := wFl (fun k => a (1 + k)) (sDo F 8 s 0 0) (sStsP (s - 0).toNat F P)) (H' := wHi (fun k => a (31 + k)) (if 8 < c + 1 then 8 else c + 1) (if n + 1 < 8 then n + 1 else 0) (hU h n.toNat F)) rfl rfl rfl rfl rfl rfl rfl rfl rfl rfl rfl) (gOFH (t := [eJ 1 1 o]) (O' := [wO (a 1) (a 11) (a 21) (a 31) (a 113) (a 116) (a 130) (zHi z F 8 s 0 0)]) (F' := wFl (fun k => a (1 + k)) (F) (P)) (H' := wHi (fun k => a (31 + k)) (c) (n) (h)) rfl rfl rfl rfl rfl rfl rfl rfl rfl rfl rfl) (fun ge => ?_) (fun e he => ?_)
  · refine EV.eq (st' := [vi (w32 (sDoR F 8 s 0 0)), vi 0, .ref (a 131)]) (by show [vi (sDoR F 8 s 0 0), vi 0, .ref (a 131)] = _; rw [← w32_v]) ?_
    refine e_i2l dL_advance_7 rfl w32_in ?_
    refine e_lastore (i := 131) (N := 1) (x := o) dL_advance_8 rfl rfl wA_get (by decide) (by decide) ?_
    refine EV.ceq (cs' := wA a z ln (sDo F 8 s 0 0) (sStsP (s - 0).toNat F P) D DQ S SP (if 8 < c + 1 then 8 else c + 1) (if n + 1 < 8 then n + 1 else 0) (hU h n.toNat F) g rc T Mt [eJ 1 1 (eU o 0 (w32 (sDoR F 8 s 0 0)))]) wA_set ?_
    refine e_goto (n := 15) dL_advance_9 rfl ?_
    refine e_iconst dL_advance_15 rfl ?_
    exact e_iret dL_advance_16 rfl rfl ⟨by rw [exK_n ge], rfl, fun _ => rfl, fun q => absurd ge q⟩
  · have hc := hE e he
    subst hc
    refine e_catch (name := xAr) [] _ _ rfl (fun z hz => absurd hz List.not_mem_nil) rfl (by decide) wd_2_198 (List.mem_of_getElem? (i := 1) rfl) (fun q => ?_)
    refine f_astore_n dL_advance_12 rfl (Nat.le_of_ble_eq_true rfl) rfl ?_
    refine e_iconst dL_advance_13 rfl ?_
    exact e_iret dL_advance_14 rfl rfl ⟨by rw [exK_1 he], rfl, fun q => absurd (he.symm.trans q) (by simp), fun _ => rfl⟩
theorem C_L_xOf {X : eXT} {a : Nat → Nat} {z : Nat → Int} {ln : Int → Int} {F : eFs} {P : Int → Int} {D : eFs} {DQ : Int → Int} {S : eFs} {SP : Int → Int} {c n : Int} {h : eHs} {g rc : Int → Int} {T : eFs} {Mt : Int → Int → Int} {o : Int → Int} {N : Int} (hF : okF N F) {b : Int} (gb : -2147483648 ≤ b ∧ b ≤ 2147483647) :
    EM X mL_xOf (eRt 10 2) a [.ref (a 0), vi b, .ref (a 131)] (wA a z ln F P D DQ S SP c n h g rc T Mt [eJ 1 1 o]) (eRets (some (vi (exK ((if sHas F b then none else some xIx)) xIx "" ""))) a (fun cs1 => ((if sHas F b then none else some xIx) = none → cs1 = wA a z ln F P D DQ S SP c n h g rc T Mt [eJ 1 1 (eU o 0 (w32 (F.2 0 b)))]) ∧ (¬ (if sHas F b then none else some xIx) = none → cs1 = wA a z ln F P D DQ S SP c n h g rc T Mt [eJ 1 1 o]))) := by
  have hE : ∀ e, (if sHas F b then none else some xIx) = some e → e = xIx := by
    intro e he
    (repeat' split at he) <;> first | (cases he; done) | (injection he with he; subst he; first | exact rfl | exact Or.inl rfl | exact Or.inr rfl | exact Or.inr (Or.inl rfl) | exact Or.inr (Or.inr rfl))
  refine EM.of (by decide +kernel) rfl (Nat.le_of_ble_eq_true rfl) ?_
  refine e_aload_n dL_xOf_0 rfl rfl ?_
  refine e_iconst dL_xOf_1 rfl ?_
  refine e_aload_n dL_xOf_2 rfl rfl ?_
  refine e_iload_n dL_xOf_3 rfl rfl ?_
  refine e_cVo (b' := (1, 6)) [0, 1, 2, 3, 4, 5, 6, 7, 8, 9, 10] lk_L_28 rfl dL_xOf_4 rfl (C_X6_xOf (z := z) (F := F) (P := P) hF (by omega)) rfl rfl (Nat.le_of_ble_eq_true rfl) (Nat.le_of_ble_eq_true rfl) (Nat.le_of_ble_eq_true rfl) ⟨(Nat.le_of_ble_eq_true rfl), (Nat.le_of_ble_eq_true rfl)⟩ rfl rfl rfl rfl rfl rfl (cs' := wA a z ln F P D DQ S SP c n h g rc T Mt [eJ 1 1 o]) (csX := wA a z ln F P D DQ S SP c n h g rc T Mt [eJ 1 1 o]) rfl rfl (gOF (t := [eJ 1 1 o]) (O' := [wO (a 1) (a 11) (a 21) (a 31) (a 113) (a 116) (a 130) (z)]) (F' := wFl (fun k => a (1 + k)) (F) (P)) rfl rfl rfl rfl rfl rfl rfl rfl rfl rfl) (gOF (t := [eJ 1 1 o]) (O' := [wO (a 1) (a 11) (a 21) (a 31) (a 113) (a 116) (a 130) (z)]) (F' := wFl (fun k => a (1 + k)) (F) (P)) rfl rfl rfl rfl rfl rfl rfl rfl rfl rfl) (fun ge => ?_) (fun e he => ?_)
  · refine EV.eq (st' := [vi (w32 (F.2 0 b)), vi 0, .ref (a 131)]) (by show [vi (F.2 0 b), vi 0, .ref (a 131)] = _; rw [← w32_v]) ?_
    refine e_i2l dL_xOf_7 rfl w32_in ?_
    refine e_lastore (i := 131) (N := 1) (x := o) dL_xOf_8 rfl rfl wA_get (by decide) (by decide) ?_
    refine EV.ceq (cs' := wA a z ln F P D DQ S SP c n h g rc T Mt [eJ 1 1 (eU o 0 (w32 (F.2 0 b)))]) wA_set ?_
    refine e_goto (n := 15) dL_xOf_9 rfl ?_
    refine e_iconst dL_xOf_15 rfl ?_
    exact e_iret dL_xOf_16 rfl rfl ⟨by rw [exK_n ge], rfl, fun _ => rfl, fun q => absurd ge q⟩
  · have hc := hE e he
    subst hc
    refine e_catch (name := xIx) [] _ _ rfl (fun z hz => absurd hz List.not_mem_nil) rfl (by decide) wd_3_165 (List.mem_of_getElem? (i := 0) rfl) (fun q => ?_)
    refine f_astore_n dL_xOf_12 rfl (Nat.le_of_ble_eq_true rfl) rfl ?_
    refine e_iconst dL_xOf_13 rfl ?_
    exact e_iret dL_xOf_14 rfl rfl ⟨by rw [exK_1 he], rfl, fun q => absurd (he.symm.trans q) (by simp), fun _ => rfl⟩
theorem C_L_yOf {X : eXT} {a : Nat → Nat} {z : Nat → Int} {ln : Int → Int} {F : eFs} {P : Int → Int} {D : eFs} {DQ : Int → Int} {S : eFs} {SP : Int → Int} {c n : Int} {h : eHs} {g rc : Int → Int} {T : eFs} {Mt : Int → Int → Int} {o : Int → Int} {N : Int} (hF : okF N F) {b : Int} (gb : -2147483648 ≤ b ∧ b ≤ 2147483647) :
    EM X mL_yOf (eRt 10 2) a [.ref (a 0), vi b, .ref (a 131)] (wA a z ln F P D DQ S SP c n h g rc T Mt [eJ 1 1 o]) (eRets (some (vi (exK ((if sHas F b then none else some xIx)) xIx "" ""))) a (fun cs1 => ((if sHas F b then none else some xIx) = none → cs1 = wA a z ln F P D DQ S SP c n h g rc T Mt [eJ 1 1 (eU o 0 (w32 (F.2 1 b)))]) ∧ (¬ (if sHas F b then none else some xIx) = none → cs1 = wA a z ln F P D DQ S SP c n h g rc T Mt [eJ 1 1 o]))) := by
  have hE : ∀ e, (if sHas F b then none else some xIx) = some e → e = xIx := by
    intro e he
    (repeat' split at he) <;> first | (cases he; done) | (injection he with he; subst he; first | exact rfl | exact Or.inl rfl | exact Or.inr rfl | exact Or.inr (Or.inl rfl) | exact Or.inr (Or.inr rfl))
  refine EM.of (by decide +kernel) rfl (Nat.le_of_ble_eq_true rfl) ?_
  refine e_aload_n dL_yOf_0 rfl rfl ?_
  refine e_iconst dL_yOf_1 rfl ?_
  refine e_aload_n dL_yOf_2 rfl rfl ?_
  refine e_iload_n dL_yOf_3 rfl rfl ?_
  refine e_cVo (b' := (1, 6)) [0, 1, 2, 3, 4, 5, 6, 7, 8, 9, 10] lk_L_32 rfl dL_yOf_4 rfl (C_X6_yOf (z := z) (F := F) (P := P) hF (by omega)) rfl rfl (Nat.le_of_ble_eq_true rfl) (Nat.le_of_ble_eq_true rfl) (Nat.le_of_ble_eq_true rfl) ⟨(Nat.le_of_ble_eq_true rfl), (Nat.le_of_ble_eq_true rfl)⟩ rfl rfl rfl rfl rfl rfl (cs' := wA a z ln F P D DQ S SP c n h g rc T Mt [eJ 1 1 o]) (csX := wA a z ln F P D DQ S SP c n h g rc T Mt [eJ 1 1 o]) rfl rfl (gOF (t := [eJ 1 1 o]) (O' := [wO (a 1) (a 11) (a 21) (a 31) (a 113) (a 116) (a 130) (z)]) (F' := wFl (fun k => a (1 + k)) (F) (P)) rfl rfl rfl rfl rfl rfl rfl rfl rfl rfl) (gOF (t := [eJ 1 1 o]) (O' := [wO (a 1) (a 11) (a 21) (a 31) (a 113) (a 116) (a 130) (z)]) (F' := wFl (fun k => a (1 + k)) (F) (P)) rfl rfl rfl rfl rfl rfl rfl rfl rfl rfl) (fun ge => ?_) (fun e he => ?_)
  · refine EV.eq (st' := [vi (w32 (F.2 1 b)), vi 0, .ref (a 131)]) (by show [vi (F.2 1 b), vi 0, .ref (a 131)] = _; rw [← w32_v]) ?_
    refine e_i2l dL_yOf_7 rfl w32_in ?_
    refine e_lastore (i := 131) (N := 1) (x := o) dL_yOf_8 rfl rfl wA_get (by decide) (by decide) ?_
    refine EV.ceq (cs' := wA a z ln F P D DQ S SP c n h g rc T Mt [eJ 1 1 (eU o 0 (w32 (F.2 1 b)))]) wA_set ?_
    refine e_goto (n := 15) dL_yOf_9 rfl ?_
    refine e_iconst dL_yOf_15 rfl ?_
    exact e_iret dL_yOf_16 rfl rfl ⟨by rw [exK_n ge], rfl, fun _ => rfl, fun q => absurd ge q⟩
  · have hc := hE e he
    subst hc
    refine e_catch (name := xIx) [] _ _ rfl (fun z hz => absurd hz List.not_mem_nil) rfl (by decide) wd_3_165 (List.mem_of_getElem? (i := 0) rfl) (fun q => ?_)
    refine f_astore_n dL_yOf_12 rfl (Nat.le_of_ble_eq_true rfl) rfl ?_
    refine e_iconst dL_yOf_13 rfl ?_
    exact e_iret dL_yOf_14 rfl rfl ⟨by rw [exK_1 he], rfl, fun q => absurd (he.symm.trans q) (by simp), fun _ => rfl⟩
theorem C_L_handleOf {X : eXT} {a : Nat → Nat} {z : Nat → Int} {ln : Int → Int} {F : eFs} {P : Int → Int} {D : eFs} {DQ : Int → Int} {S : eFs} {SP : Int → Int} {c n : Int} {h : eHs} {g rc : Int → Int} {T : eFs} {Mt : Int → Int → Int} {o : Int → Int} {N : Int} (hF : okF N F) {b : Int} (gb : -2147483648 ≤ b ∧ b ≤ 2147483647) :
    EM X mL_handleOf (eRt 10 2) a [.ref (a 0), vi b, .ref (a 131)] (wA a z ln F P D DQ S SP c n h g rc T Mt [eJ 1 1 o]) (eRets (some (vi (exK ((if sHas F b then none else some xIx)) xIx "" ""))) a (fun cs1 => ((if sHas F b then none else some xIx) = none → cs1 = wA a z ln F P D DQ S SP c n h g rc T Mt [eJ 1 1 (eU o 0 (w32 (F.2 2 b)))]) ∧ (¬ (if sHas F b then none else some xIx) = none → cs1 = wA a z ln F P D DQ S SP c n h g rc T Mt [eJ 1 1 o]))) := by
  have hE : ∀ e, (if sHas F b then none else some xIx) = some e → e = xIx := by
    intro e he
    (repeat' split at he) <;> first | (cases he; done) | (injection he with he; subst he; first | exact rfl | exact Or.inl rfl | exact Or.inr rfl | exact Or.inr (Or.inl rfl) | exact Or.inr (Or.inr rfl))
  refine EM.of (by decide +kernel) rfl (Nat.le_of_ble_eq_true rfl) ?_
  refine e_aload_n dL_handleOf_0 rfl rfl ?_
  refine e_iconst dL_handleOf_1 rfl ?_
  refine e_aload_n dL_handleOf_2 rfl rfl ?_
  refine e_iload_n dL_handleOf_3 rfl rfl ?_
  refine e_cVo (b' := (1, 6)) [0, 1, 2, 3, 4, 5, 6, 7, 8, 9, 10] lk_L_35 rfl dL_handleOf_4 rfl (C_X6_handleOf (z := z) (F := F) (P := P) hF (by omega)) rfl rfl (Nat.le_of_ble_eq_true rfl) (Nat.le_of_ble_eq_true rfl) (Nat.le_of_ble_eq_true rfl) ⟨(Nat.le_of_ble_eq_true rfl), (Nat.le_of_ble_eq_true rfl)⟩ rfl rfl rfl rfl rfl rfl (cs' := wA a z ln F P D DQ S SP c n h g rc T Mt [eJ 1 1 o]) (csX := wA a z ln F P D DQ S SP c n h g rc T Mt [eJ 1 1 o]) rfl rfl (gOF (t := [eJ 1 1 o]) (O' := [wO (a 1) (a 11) (a 21) (a 31) (a 113) (a 116) (a 130) (z)]) (F' := wFl (fun k => a (1 + k)) (F) (P)) rfl rfl rfl rfl rfl rfl rfl rfl rfl rfl) (gOF (t := [eJ 1 1 o]) (O' := [wO (a 1) (a 11) (a 21) (a 31) (a 113) (a 116) (a 130) (z)]) (F' := wFl (fun k => a (1 + k)) (F) (P)) rfl rfl rfl rfl rfl rfl rfl rfl rfl rfl) (fun ge => ?_) (fun e he => ?_)
  · refine EV.eq (st' := [vi (w32 (F.2 2 b)), vi 0, .ref (a 131)]) (by show [vi (F.2 2 b), vi 0, .ref (a 131)] = _; rw [← w32_v]) ?_
    refine e_i2l dL_handleOf_7 rfl w32_in ?_
    refine e_lastore (i := 131) (N := 1) (x := o) dL_handleOf_8 rfl rfl wA_get (by decide) (by decide) ?_
    refine EV.ceq (cs' := wA a z ln F P D DQ S SP c n h g rc T Mt [eJ 1 1 (eU o 0 (w32 (F.2 2 b)))]) wA_set ?_
    refine e_goto (n := 15) dL_handleOf_9 rfl ?_
    refine e_iconst dL_handleOf_15 rfl ?_
    exact e_iret dL_handleOf_16 rfl rfl ⟨by rw [exK_n ge], rfl, fun _ => rfl, fun q => absurd ge q⟩
  · have hc := hE e he
    subst hc
    refine e_catch (name := xIx) [] _ _ rfl (fun z hz => absurd hz List.not_mem_nil) rfl (by decide) wd_3_165 (List.mem_of_getElem? (i := 0) rfl) (fun q => ?_)
    refine f_astore_n dL_handleOf_12 rfl (Nat.le_of_ble_eq_true rfl) rfl ?_
    refine e_iconst dL_handleOf_13 rfl ?_
    exact e_iret dL_handleOf_14 rfl rfl ⟨by rw [exK_1 he], rfl, fun q => absurd (he.symm.trans q) (by simp), fun _ => rfl⟩
theorem C_L_movesOf {X : eXT} {a : Nat → Nat} {z : Nat → Int} {ln : Int → Int} {F : eFs} {P : Int → Int} {D : eFs} {DQ : Int → Int} {S : eFs} {SP : Int → Int} {c n : Int} {h : eHs} {g rc : Int → Int} {T : eFs} {Mt : Int → Int → Int} {o : Int → Int} {N : Int} (hF : okF N F) {b : Int} (gb : -2147483648 ≤ b ∧ b ≤ 2147483647) :
    EM X mL_movesOf (eRt 10 2) a [.ref (a 0), vi b, .ref (a 131)] (wA a z ln F P D DQ S SP c n h g rc T Mt [eJ 1 1 o]) (eRets (some (vi (exK ((if sHas F b then none else some xIx)) xIx "" ""))) a (fun cs1 => ((if sHas F b then none else some xIx) = none → cs1 = wA a z ln F P D DQ S SP c n h g rc T Mt [eJ 1 1 (eU o 0 (w32 (F.2 3 b)))]) ∧ (¬ (if sHas F b then none else some xIx) = none → cs1 = wA a z ln F P D DQ S SP c n h g rc T Mt [eJ 1 1 o]))) := by
  have hE : ∀ e, (if sHas F b then none else some xIx) = some e → e = xIx := by
    intro e he
    (repeat' split at he) <;> first | (cases he; done) | (injection he with he; subst he; first | exact rfl | exact Or.inl rfl | exact Or.inr rfl | exact Or.inr (Or.inl rfl) | exact Or.inr (Or.inr rfl))
  refine EM.of (by decide +kernel) rfl (Nat.le_of_ble_eq_true rfl) ?_
  refine e_aload_n dL_movesOf_0 rfl rfl ?_
  refine e_iconst dL_movesOf_1 rfl ?_
  refine e_aload_n dL_movesOf_2 rfl rfl ?_
  refine e_iload_n dL_movesOf_3 rfl rfl ?_
  refine e_cVo (b' := (1, 6)) [0, 1, 2, 3, 4, 5, 6, 7, 8, 9, 10] lk_L_96 rfl dL_movesOf_4 rfl (C_X6_movesOf (z := z) (F := F) (P := P) hF (by omega)) rfl rfl (Nat.le_of_ble_eq_true rfl) (Nat.le_of_ble_eq_true rfl) (Nat.le_of_ble_eq_true rfl) ⟨(Nat.le_of_ble_eq_true rfl), (Nat.le_of_ble_eq_true rfl)⟩ rfl rfl rfl rfl rfl rfl (cs' := wA a z ln F P D DQ S SP c n h g rc T Mt [eJ 1 1 o]) (csX := wA a z ln F P D DQ S SP c n h g rc T Mt [eJ 1 1 o]) rfl rfl (gOF (t := [eJ 1 1 o]) (O' := [wO (a 1) (a 11) (a 21) (a 31) (a 113) (a 116) (a 130) (z)]) (F' := wFl (fun k => a (1 + k)) (F) (P)) rfl rfl rfl rfl rfl rfl rfl rfl rfl rfl) (gOF (t := [eJ 1 1 o]) (O' := [wO (a 1) (a 11) (a 21) (a 31) (a 113) (a 116) (a 130) (z)]) (F' := wFl (fun k => a (1 + k)) (F) (P)) rfl rfl rfl rfl rfl rfl rfl rfl rfl rfl) (fun ge => ?_) (fun e he => ?_)
  · refine EV.eq (st' := [vi (w32 (F.2 3 b)), vi 0, .ref (a 131)]) (by show [vi (F.2 3 b), vi 0, .ref (a 131)] = _; rw [← w32_v]) ?_
    refine e_i2l dL_movesOf_7 rfl w32_in ?_
    refine e_lastore (i := 131) (N := 1) (x := o) dL_movesOf_8 rfl rfl wA_get (by decide) (by decide) ?_
    refine EV.ceq (cs' := wA a z ln F P D DQ S SP c n h g rc T Mt [eJ 1 1 (eU o 0 (w32 (F.2 3 b)))]) wA_set ?_
    refine e_goto (n := 15) dL_movesOf_9 rfl ?_
    refine e_iconst dL_movesOf_15 rfl ?_
    exact e_iret dL_movesOf_16 rfl rfl ⟨by rw [exK_n ge], rfl, fun _ => rfl, fun q => absurd ge q⟩
  · have hc := hE e he
    subst hc
    refine e_catch (name := xIx) [] _ _ rfl (fun z hz => absurd hz List.not_mem_nil) rfl (by decide) wd_3_165 (List.mem_of_getElem? (i := 0) rfl) (fun q => ?_)
    refine f_astore_n dL_movesOf_12 rfl (Nat.le_of_ble_eq_true rfl) rfl ?_
    refine e_iconst dL_movesOf_13 rfl ?_
    exact e_iret dL_movesOf_14 rfl rfl ⟨by rw [exK_1 he], rfl, fun q => absurd (he.symm.trans q) (by simp), fun _ => rfl⟩
theorem C_L_distance {X : eXT} {a : Nat → Nat} {z : Nat → Int} {ln : Int → Int} {F : eFs} {P : Int → Int} {D : eFs} {DQ : Int → Int} {S : eFs} {SP : Int → Int} {c n : Int} {h : eHs} {g rc : Int → Int} {T : eFs} {Mt : Int → Int → Int} {o : Int → Int} {N : Int} (hF : okF N F) {b w : Int} (gb : -2147483648 ≤ b ∧ b ≤ 2147483647) (gw : -2147483648 ≤ w ∧ w ≤ 2147483647) :
    EM X mL_distance (eRt 10 2) a [.ref (a 0), vi b, vi w, .ref (a 131)] (wA a z ln F P D DQ S SP c n h g rc T Mt [eJ 1 1 o]) (eRets (some (vi (exK ((if sHas F b then (if sHas F w then none else some xIx) else some xIx)) xIx "" ""))) a (fun cs1 => ((if sHas F b then (if sHas F w then none else some xIx) else some xIx) = none → cs1 = wA a z ln F P D DQ S SP c n h g rc T Mt [eJ 1 1 (eU o 0 (w32 (sDD F b w)))]) ∧ (¬ (if sHas F b then (if sHas F w then none else some xIx) else some xIx) = none → cs1 = wA a z ln F P D DQ S SP c n h g rc T Mt [eJ 1 1 o]))) := by
  have hE : ∀ e, (if sHas F b then (if sHas F w then none else some xIx) else some xIx) = some e → e = xIx := by
    intro e he
    (repeat' split at he) <;> first | (cases he; done) | (injection he with he; subst he; first | exact rfl | exact Or.inl rfl | exact Or.inr rfl | exact Or.inr (Or.inl rfl) | exact Or.inr (Or.inr rfl))
  refine EM.of (by decide +kernel) rfl (Nat.le_of_ble_eq_true rfl) ?_
  refine e_aload_n dL_distance_0 rfl rfl ?_
  refine e_iconst dL_distance_1 rfl ?_
  refine e_aload_n dL_distance_2 rfl rfl ?_
  refine e_iload_n dL_distance_3 rfl rfl ?_
  refine e_iload_n dL_distance_4 rfl rfl ?_
  refine e_cVo (b' := (0, 0)) [0, 1, 2, 3, 4, 5, 6, 7, 8, 9, 10] lk_L_43 rfl dL_distance_5 rfl (C_X6_distance (z := z) (F := F) (P := P) hF (by omega) (by omega)) rfl rfl (Nat.le_of_ble_eq_true rfl) (Nat.le_of_ble_eq_true rfl) (Nat.le_of_ble_eq_true rfl) ⟨(Nat.le_of_ble_eq_true rfl), (Nat.le_of_ble_eq_true rfl)⟩ rfl rfl rfl rfl rfl rfl (cs' := wA a z ln F P D DQ S SP c n h g rc T Mt [eJ 1 1 o]) (csX := wA a z ln F P D DQ S SP c n h g rc T Mt [eJ 1 1 o]) rfl rfl (gOF (t := [eJ 1 1 o]) (O' := [wO (a 1) (a 11) (a 21) (a 31) (a 113) (a 116) (a 130) (z)]) (F' := wFl (fun k => a (1 + k)) (F) (P)) rfl rfl rfl rfl rfl rfl rfl rfl rfl rfl) (gOF (t := [eJ 1 1 o]) (O' := [wO (a 1) (a 11) (a 21) (a 31) (a 113) (a 116) (a 130) (z)]) (F' := wFl (fun k => a (1 + k)) (F) (P)) rfl rfl rfl rfl rfl rfl rfl rfl rfl rfl) (fun ge => ?_) (fun e he => ?_)
  · refine EV.eq (st' := [vi (w32 (sDD F b w)), vi 0, .ref (a 131)]) (by show [vi (sDD F b w), vi 0, .ref (a 131)] = _; rw [← w32_v]) ?_
    refine e_i2l dL_distance_8 rfl w32_in ?_
    refine e_lastore (i := 131) (N := 1) (x := o) dL_distance_9 rfl rfl wA_get (by decide) (by decide) ?_
    refine EV.ceq (cs' := wA a z ln F P D DQ S SP c n h g rc T Mt [eJ 1 1 (eU o 0 (w32 (sDD F b w)))]) wA_set ?_
    refine e_goto (n := 17) dL_distance_10 rfl ?_
    refine e_iconst dL_distance_17 rfl ?_
    exact e_iret dL_distance_18 rfl rfl ⟨by rw [exK_n ge], rfl, fun _ => rfl, fun q => absurd ge q⟩
  · have hc := hE e he
    subst hc
    refine e_catch (name := xIx) [] _ _ rfl (fun z hz => absurd hz List.not_mem_nil) rfl (by decide) wd_3_165 (List.mem_of_getElem? (i := 0) rfl) (fun q => ?_)
    refine f_astore dL_distance_13 rfl (Nat.le_of_ble_eq_true rfl) rfl ?_
    refine e_iconst dL_distance_15 rfl ?_
    exact e_iret dL_distance_16 rfl rfl ⟨by rw [exK_1 he], rfl, fun q => absurd (he.symm.trans q) (by simp), fun _ => rfl⟩
theorem C_L_nearestTo {X : eXT} {a : Nat → Nat} {z : Nat → Int} {ln : Int → Int} {F : eFs} {P : Int → Int} {D : eFs} {DQ : Int → Int} {S : eFs} {SP : Int → Int} {c n : Int} {h : eHs} {g rc : Int → Int} {T : eFs} {Mt : Int → Int → Int} {o : Int → Int} {N : Int} (hF : okF N F) {b : Int} (gb : -2147483648 ≤ b ∧ b ≤ 2147483647) :
    EM X mL_nearestTo (eRt 10 2) a [.ref (a 0), vi b, .ref (a 131)] (wA a z ln F P D DQ S SP c n h g rc T Mt [eJ 1 1 o]) (eRets (some (vi (exK ((if sHas F b then (if ¬ sNear F b = -1 then none else some xNo) else some xIx)) xIx xNo ""))) a (fun cs1 => ((if sHas F b then (if ¬ sNear F b = -1 then none else some xNo) else some xIx) = none → cs1 = wA a z ln F P D DQ S SP c n h g rc T Mt [eJ 1 1 (eU o 0 (w32 (sNear F b)))]) ∧ (¬ (if sHas F b then (if ¬ sNear F b = -1 then none else some xNo) else some xIx) = none → cs1 = wA a z ln F P D DQ S SP c n h g rc T Mt [eJ 1 1 o]))) := by
  have hE : ∀ e, (if sHas F b then (if ¬ sNear F b = -1 then none else some xNo) else some xIx) = some e → e = xIx ∨ e = xNo := by
    intro e he
    (repeat' split at he) <;> first | (cases he; done) | (injection he with he; subst he; first | exact rfl | exact Or.inl rfl | exact Or.inr rfl | exact Or.inr (Or.inl rfl) | exact Or.inr (Or.inr rfl))
  refine EM.of (by decide +kernel) rfl (Nat.le_of_ble_eq_true rfl) ?_
  refine e_aload_n dL_nearestTo_0 rfl rfl ?_
  refine e_iconst dL_nearestTo_1 rfl ?_
  refine e_aload_n dL_nearestTo_2 rfl rfl ?_
  refine e_iload_n dL_nearestTo_3 rfl rfl ?_
  refine e_cVo (b' := (0, 0)) [0, 1, 2, 3, 4, 5, 6, 7, 8, 9, 10] lk_L_46 rfl dL_nearestTo_4 rfl (C_X6_nearestTo (z := z) (F := F) (P := P) hF (by omega)) rfl rfl (Nat.le_of_ble_eq_true rfl) (Nat.le_of_ble_eq_true rfl) (Nat.le_of_ble_eq_true rfl) ⟨(Nat.le_of_ble_eq_true rfl), (Nat.le_of_ble_eq_true rfl)⟩ rfl rfl rfl rfl rfl rfl (cs' := wA a z ln F P D DQ S SP c n h g rc T Mt [eJ 1 1 o]) (csX := wA a z ln F P D DQ S SP c n h g rc T Mt [eJ 1 1 o]) rfl rfl (gOF (t := [eJ 1 1 o]) (O' := [wO (a 1) (a 11) (a 21) (a 31) (a 113) (a 116) (a 130) (z)]) (F' := wFl (fun k => a (1 + k)) (F) (P)) rfl rfl rfl rfl rfl rfl rfl rfl rfl rfl) (gOF (t := [eJ 1 1 o]) (O' := [wO (a 1) (a 11) (a 21) (a 31) (a 113) (a 116) (a 130) (z)]) (F' := wFl (fun k => a (1 + k)) (F) (P)) rfl rfl rfl rfl rfl rfl rfl rfl rfl rfl) (fun ge => ?_) (fun e he => ?_)
  · refine EV.eq (st' := [vi (w32 (sNear F b)), vi 0, .ref (a 131)]) (by show [vi (sNear F b), vi 0, .ref (a 131)] = _; rw [← w32_v]) ?_
    refine e_i2l dL_nearestTo_7 rfl w32_in ?_
    refine e_lastore (i := 131) (N := 1) (x := o) dL_nearestTo_8 rfl rfl wA_get (by decide) (by decide) ?_
    refine EV.ceq (cs' := wA a z ln F P D DQ S SP c n h g rc T Mt [eJ 1 1 (eU o 0 (w32 (sNear F b)))]) wA_set ?_
    refine e_goto (n := 18) dL_nearestTo_9 rfl ?_
    refine e_iconst dL_nearestTo_18 rfl ?_
    exact e_iret dL_nearestTo_19 rfl rfl ⟨by rw [exK_n ge], rfl, fun _ => rfl, fun q => absurd ge q⟩
  · rcases hE e he with hc | hc <;> subst hc
    · refine e_catch (name := xIx) [] _ _ rfl (fun z hz => absurd hz List.not_mem_nil) rfl (by decide) wd_3_165 (List.mem_of_getElem? (i := 0) rfl) (fun q => ?_)
      refine f_astore_n dL_nearestTo_12 rfl (Nat.le_of_ble_eq_true rfl) rfl ?_
      refine e_iconst dL_nearestTo_13 rfl ?_
      exact e_iret dL_nearestTo_14 rfl rfl ⟨by rw [exK_1 he], rfl, fun q => absurd (he.symm.trans q) (by simp), fun _ => rfl⟩
    · refine e_catch (name := xNo) [_] _ _ rfl (fun z hz => Or.inr (by rw [List.mem_singleton.mp hz]; exact ⟨by decide, xIx, wd_3_165, List.mem_of_getElem? (i := 81) rfl⟩)) rfl (by decide) wd_3_234 (List.mem_of_getElem? (i := 3) rfl) (fun q => ?_)
      refine f_astore_n dL_nearestTo_15 rfl (Nat.le_of_ble_eq_true rfl) rfl ?_
      refine e_iconst dL_nearestTo_16 rfl ?_
      exact e_iret dL_nearestTo_17 rfl rfl ⟨by rw [exK_2 he (by decide)], rfl, fun q => absurd (he.symm.trans q) (by simp), fun _ => rfl⟩
theorem C_L_basketAt {X : eXT} {a : Nat → Nat} {z : Nat → Int} {ln : Int → Int} {F : eFs} {P : Int → Int} {D : eFs} {DQ : Int → Int} {S : eFs} {SP : Int → Int} {c n : Int} {h : eHs} {g rc : Int → Int} {T : eFs} {Mt : Int → Int → Int} {o : Int → Int} {N : Int} (hF : okF N F) {x y : Int} (gx : -2147483648 ≤ x ∧ x ≤ 2147483647) (gy : -2147483648 ≤ y ∧ y ≤ 2147483647) :
    EM X mL_basketAt (eRt 10 2) a [.ref (a 0), vi x, vi y, .ref (a 131)] (wA a z ln F P D DQ S SP c n h g rc T Mt [eJ 1 1 o]) (eRets (some (vi (exK ((if sIn x y then (if ¬ sAt F x y = -1 then none else some xNo) else some xAr)) xAr xNo ""))) a (fun cs1 => ((if sIn x y then (if ¬ sAt F x y = -1 then none else some xNo) else some xAr) = none → cs1 = wA a z ln F P D DQ S SP c n h g rc T Mt [eJ 1 1 (eU o 0 (w32 (sAt F x y)))]) ∧ (¬ (if sIn x y then (if ¬ sAt F x y = -1 then none else some xNo) else some xAr) = none → cs1 = wA a z ln F P D DQ S SP c n h g rc T Mt [eJ 1 1 o]))) := by
  have hE : ∀ e, (if sIn x y then (if ¬ sAt F x y = -1 then none else some xNo) else some xAr) = some e → e = xAr ∨ e = xNo := by
    intro e he
    (repeat' split at he) <;> first | (cases he; done) | (injection he with he; subst he; first | exact rfl | exact Or.inl rfl | exact Or.inr rfl | exact Or.inr (Or.inl rfl) | exact Or.inr (Or.inr rfl))
  refine EM.of (by decide +kernel) rfl (Nat.le_of_ble_eq_true rfl) ?_
  refine e_aload_n dL_basketAt_0 rfl rfl ?_
  refine e_iconst dL_basketAt_1 rfl ?_
  refine e_aload_n dL_basketAt_2 rfl rfl ?_
  refine e_iload_n dL_basketAt_3 rfl rfl ?_
  refine e_iload_n dL_basketAt_4 rfl rfl ?_
  refine e_cVo (b' := (0, 0)) [0, 1, 2, 3, 4, 5, 6, 7, 8, 9, 10] lk_L_38 rfl dL_basketAt_5 rfl (C_X6_basketAt (z := z) (F := F) (P := P) hF (by omega) (by omega)) rfl rfl (Nat.le_of_ble_eq_true rfl) (Nat.le_of_ble_eq_true rfl) (Nat.le_of_ble_eq_true rfl) ⟨(Nat.le_of_ble_eq_true rfl), (Nat.le_of_ble_eq_true rfl)⟩ rfl rfl rfl rfl rfl rfl (cs' := wA a z ln F P D DQ S SP c n h g rc T Mt [eJ 1 1 o]) (csX := wA a z ln F P D DQ S SP c n h g rc T Mt [eJ 1 1 o]) rfl rfl (gOF (t := [eJ 1 1 o]) (O' := [wO (a 1) (a 11) (a 21) (a 31) (a 113) (a 116) (a 130) (z)]) (F' := wFl (fun k => a (1 + k)) (F) (P)) rfl rfl rfl rfl rfl rfl rfl rfl rfl rfl) (gOF (t := [eJ 1 1 o]) (O' := [wO (a 1) (a 11) (a 21) (a 31) (a 113) (a 116) (a 130) (z)]) (F' := wFl (fun k => a (1 + k)) (F) (P)) rfl rfl rfl rfl rfl rfl rfl rfl rfl rfl) (fun ge => ?_) (fun e he => ?_)
  · refine EV.eq (st' := [vi (w32 (sAt F x y)), vi 0, .ref (a 131)]) (by show [vi (sAt F x y), vi 0, .ref (a 131)] = _; rw [← w32_v]) ?_
    refine e_i2l dL_basketAt_8 rfl w32_in ?_
    refine e_lastore (i := 131) (N := 1) (x := o) dL_basketAt_9 rfl rfl wA_get (by decide) (by decide) ?_
    refine EV.ceq (cs' := wA a z ln F P D DQ S SP c n h g rc T Mt [eJ 1 1 (eU o 0 (w32 (sAt F x y)))]) wA_set ?_
    refine e_goto (n := 21) dL_basketAt_10 rfl ?_
    refine e_iconst dL_basketAt_21 rfl ?_
    exact e_iret dL_basketAt_22 rfl rfl ⟨by rw [exK_n ge], rfl, fun _ => rfl, fun q => absurd ge q⟩
  · rcases hE e he with hc | hc <;> subst hc
    · refine e_catch (name := xAr) [] _ _ rfl (fun z hz => absurd hz List.not_mem_nil) rfl (by decide) wd_2_198 (List.mem_of_getElem? (i := 1) rfl) (fun q => ?_)
      refine f_astore dL_basketAt_13 rfl (Nat.le_of_ble_eq_true rfl) rfl ?_
      refine e_iconst dL_basketAt_15 rfl ?_
      exact e_iret dL_basketAt_16 rfl rfl ⟨by rw [exK_1 he], rfl, fun q => absurd (he.symm.trans q) (by simp), fun _ => rfl⟩
    · refine e_catch (name := xNo) [_] _ _ rfl (fun z hz => Or.inr (by rw [List.mem_singleton.mp hz]; exact ⟨by decide, xAr, wd_2_198, List.mem_of_getElem? (i := 79) rfl⟩)) rfl (by decide) wd_3_234 (List.mem_of_getElem? (i := 3) rfl) (fun q => ?_)
      refine f_astore dL_basketAt_17 rfl (Nat.le_of_ble_eq_true rfl) rfl ?_
      refine e_iconst dL_basketAt_19 rfl ?_
      exact e_iret dL_basketAt_20 rfl rfl ⟨by rw [exK_2 he (by decide)], rfl, fun q => absurd (he.symm.trans q) (by simp), fun _ => rfl⟩
theorem C_L_refusalReason {X : eXT} {a : Nat → Nat} {z : Nat → Int} {ln : Int → Int} {F : eFs} {P : Int → Int} {D : eFs} {DQ : Int → Int} {S : eFs} {SP : Int → Int} {c n : Int} {h : eHs} {g rc : Int → Int} {T : eFs} {Mt : Int → Int → Int} {o : Int → Int} {N : Int} (hF : okF N F) (hz : okZ z) :
    EM X mL_refusalReason (eRt 10 2) a [.ref (a 0), .ref (a 131)] (wA a z ln F P D DQ S SP c n h g rc T Mt [eJ 1 1 o]) (eRets (some (vi (exK ((if ¬ z 2 = -1 then none else some xNo)) xNo "" ""))) a (fun cs1 => ((if ¬ z 2 = -1 then none else some xNo) = none → cs1 = wA a z ln F P D DQ S SP c n h g rc T Mt [eJ 1 1 (eU o 0 (w32 (z 2)))]) ∧ (¬ (if ¬ z 2 = -1 then none else some xNo) = none → cs1 = wA a z ln F P D DQ S SP c n h g rc T Mt [eJ 1 1 o]))) := by
  have hE : ∀ e, (if ¬ z 2 = -1 then none else some xNo) = some e → e = xNo := by
    intro e he
    (repeat' split at he) <;> first | (cases he; done) | (injection he with he; subst he; first | exact rfl | exact Or.inl rfl | exact Or.inr rfl | exact Or.inr (Or.inl rfl) | exact Or.inr (Or.inr rfl))
  refine EM.of (by decide +kernel) rfl (Nat.le_of_ble_eq_true rfl) ?_
  refine e_aload_n dL_refusalReason_0 rfl rfl ?_
  refine e_iconst dL_refusalReason_1 rfl ?_
  refine e_aload_n dL_refusalReason_2 rfl rfl ?_
  refine e_cVo (b' := (1, 6)) [0, 1, 2, 3, 4, 5, 6, 7, 8, 9, 10] lk_L_49 rfl dL_refusalReason_3 rfl (C_X6_refusalReason (z := z) (F := F) (P := P) hF hz ) rfl rfl (Nat.le_of_ble_eq_true rfl) (Nat.le_of_ble_eq_true rfl) (Nat.le_of_ble_eq_true rfl) ⟨(Nat.le_of_ble_eq_true rfl), (Nat.le_of_ble_eq_true rfl)⟩ rfl rfl rfl rfl rfl rfl (cs' := wA a z ln F P D DQ S SP c n h g rc T Mt [eJ 1 1 o]) (csX := wA a z ln F P D DQ S SP c n h g rc T Mt [eJ 1 1 o]) rfl rfl (gOF (t := [eJ 1 1 o]) (O' := [wO (a 1) (a 11) (a 21) (a 31) (a 113) (a 116) (a 130) (z)]) (F' := wFl (fun k => a (1 + k)) (F) (P)) rfl rfl rfl rfl rfl rfl rfl rfl rfl rfl) (gOF (t := [eJ 1 1 o]) (O' := [wO (a 1) (a 11) (a 21) (a 31) (a 113) (a 116) (a 130) (z)]) (F' := wFl (fun k => a (1 + k)) (F) (P)) rfl rfl rfl rfl rfl rfl rfl rfl rfl rfl) (fun ge => ?_) (fun e he => ?_)
  · refine EV.eq (st' := [vi (w32 (z 2)), vi 0, .ref (a 131)]) (by show [vi (z 2), vi 0, .ref (a 131)] = _; rw [← w32_v]) ?_
    refine e_i2l dL_refusalReason_6 rfl w32_in ?_
    refine e_lastore (i := 131) (N := 1) (x := o) dL_refusalReason_7 rfl rfl wA_get (by decide) (by decide) ?_
    refine EV.ceq (cs' := wA a z ln F P D DQ S SP c n h g rc T Mt [eJ 1 1 (eU o 0 (w32 (z 2)))]) wA_set ?_
    refine e_goto (n := 14) dL_refusalReason_8 rfl ?_
    refine e_iconst dL_refusalReason_14 rfl ?_
    exact e_iret dL_refusalReason_15 rfl rfl ⟨by rw [exK_n ge], rfl, fun _ => rfl, fun q => absurd ge q⟩
  · have hc := hE e he
    subst hc
    refine e_catch (name := xNo) [] _ _ rfl (fun z hz => absurd hz List.not_mem_nil) rfl (by decide) wd_3_234 (List.mem_of_getElem? (i := 3) rfl) (fun q => ?_)
    refine f_astore_n dL_refusalReason_11 rfl (Nat.le_of_ble_eq_true rfl) rfl ?_
    refine e_iconst dL_refusalReason_12 rfl ?_
    exact e_iret dL_refusalReason_13 rfl rfl ⟨by rw [exK_1 he], rfl, fun q => absurd (he.symm.trans q) (by simp), fun _ => rfl⟩
theorem C_L_refusalDetail {X : eXT} {a : Nat → Nat} {z : Nat → Int} {ln : Int → Int} {F : eFs} {P : Int → Int} {D : eFs} {DQ : Int → Int} {S : eFs} {SP : Int → Int} {c n : Int} {h : eHs} {g rc : Int → Int} {T : eFs} {Mt : Int → Int → Int} {o : Int → Int} {N : Int} (hF : okF N F) (hz : okZ z) :
    EM X mL_refusalDetail (eRt 10 2) a [.ref (a 0), .ref (a 131)] (wA a z ln F P D DQ S SP c n h g rc T Mt [eJ 1 1 o]) (eRets (some (vi (exK ((if ¬ z 2 = -1 then none else some xNo)) xNo "" ""))) a (fun cs1 => ((if ¬ z 2 = -1 then none else some xNo) = none → cs1 = wA a z ln F P D DQ S SP c n h g rc T Mt [eJ 1 1 (eU o 0 (w32 (z 3)))]) ∧ (¬ (if ¬ z 2 = -1 then none else some xNo) = none → cs1 = wA a z ln F P D DQ S SP c n h g rc T Mt [eJ 1 1 o]))) := by
  have hE : ∀ e, (if ¬ z 2 = -1 then none else some xNo) = some e → e = xNo := by
    intro e he
    (repeat' split at he) <;> first | (cases he; done) | (injection he with he; subst he; first | exact rfl | exact Or.inl rfl | exact Or.inr rfl | exact Or.inr (Or.inl rfl) | exact Or.inr (Or.inr rfl))
  refine EM.of (by decide +kernel) rfl (Nat.le_of_ble_eq_true rfl) ?_
  refine e_aload_n dL_refusalDetail_0 rfl rfl ?_
  refine e_iconst dL_refusalDetail_1 rfl ?_
  refine e_aload_n dL_refusalDetail_2 rfl rfl ?_
  refine e_cVo (b' := (1, 6)) [0, 1, 2, 3, 4, 5, 6, 7, 8, 9, 10] lk_L_53 rfl dL_refusalDetail_3 rfl (C_X6_refusalDetail (z := z) (F := F) (P := P) hF hz ) rfl rfl (Nat.le_of_ble_eq_true rfl) (Nat.le_of_ble_eq_true rfl) (Nat.le_of_ble_eq_true rfl) ⟨(Nat.le_of_ble_eq_true rfl), (Nat.le_of_ble_eq_true rfl)⟩ rfl rfl rfl rfl rfl rfl (cs' := wA a z ln F P D DQ S SP c n h g rc T Mt [eJ 1 1 o]) (csX := wA a z ln F P D DQ S SP c n h g rc T Mt [eJ 1 1 o]) rfl rfl (gOF (t := [eJ 1 1 o]) (O' := [wO (a 1) (a 11) (a 21) (a 31) (a 113) (a 116) (a 130) (z)]) (F' := wFl (fun k => a (1 + k)) (F) (P)) rfl rfl rfl rfl rfl rfl rfl rfl rfl rfl) (gOF (t := [eJ 1 1 o]) (O' := [wO (a 1) (a 11) (a 21) (a 31) (a 113) (a 116) (a 130) (z)]) (F' := wFl (fun k => a (1 + k)) (F) (P)) rfl rfl rfl rfl rfl rfl rfl rfl rfl rfl) (fun ge => ?_) (fun e he => ?_)
  · refine EV.eq (st' := [vi (w32 (z 3)), vi 0, .ref (a 131)]) (by show [vi (z 3), vi 0, .ref (a 131)] = _; rw [← w32_v]) ?_
    refine e_i2l dL_refusalDetail_6 rfl w32_in ?_
    refine e_lastore (i := 131) (N := 1) (x := o) dL_refusalDetail_7 rfl rfl wA_get (by decide) (by decide) ?_
    refine EV.ceq (cs' := wA a z ln F P D DQ S SP c n h g rc T Mt [eJ 1 1 (eU o 0 (w32 (z 3)))]) wA_set ?_
    refine e_goto (n := 14) dL_refusalDetail_8 rfl ?_
    refine e_iconst dL_refusalDetail_14 rfl ?_
    exact e_iret dL_refusalDetail_15 rfl rfl ⟨by rw [exK_n ge], rfl, fun _ => rfl, fun q => absurd ge q⟩
  · have hc := hE e he
    subst hc
    refine e_catch (name := xNo) [] _ _ rfl (fun z hz => absurd hz List.not_mem_nil) rfl (by decide) wd_3_234 (List.mem_of_getElem? (i := 3) rfl) (fun q => ?_)
    refine f_astore_n dL_refusalDetail_11 rfl (Nat.le_of_ble_eq_true rfl) rfl ?_
    refine e_iconst dL_refusalDetail_12 rfl ?_
    exact e_iret dL_refusalDetail_13 rfl rfl ⟨by rw [exK_1 he], rfl, fun q => absurd (he.symm.trans q) (by simp), fun _ => rfl⟩
theorem C_L_isCloud {X : eXT} {a : Nat → Nat} {z : Nat → Int} {ln : Int → Int} {F : eFs} {P : Int → Int} {D : eFs} {DQ : Int → Int} {S : eFs} {SP : Int → Int} {c n : Int} {h : eHs} {g rc : Int → Int} {T : eFs} {Mt : Int → Int → Int} {o : Int → Int} {N : Int} (hF : okF N F) {x y : Int} (gx : -2147483648 ≤ x ∧ x ≤ 2147483647) (gy : -2147483648 ≤ y ∧ y ≤ 2147483647) :
    EM X mL_isCloud (eRt 10 2) a [.ref (a 0), vi x, vi y, .ref (a 131)] (wA a z ln F P D DQ S SP c n h g rc T Mt [eJ 1 1 o]) (eRets (some (vi (exK ((if sIn x y then none else some xAr)) xAr "" ""))) a (fun cs1 => ((if sIn x y then none else some xAr) = none → cs1 = wA a z ln F P D DQ S SP c n h g rc T Mt [eJ 1 1 (eU o 0 (if sCov (F.2 4) x y then 1 else 0))]) ∧ (¬ (if sIn x y then none else some xAr) = none → cs1 = wA a z ln F P D DQ S SP c n h g rc T Mt [eJ 1 1 o]))) := by
  have hE : ∀ e, (if sIn x y then none else some xAr) = some e → e = xAr := by
    intro e he
    (repeat' split at he) <;> first | (cases he; done) | (injection he with he; subst he; first | exact rfl | exact Or.inl rfl | exact Or.inr rfl | exact Or.inr (Or.inl rfl) | exact Or.inr (Or.inr rfl))
  refine EM.of (by decide +kernel) rfl (Nat.le_of_ble_eq_true rfl) ?_
  refine e_aload_n dL_isCloud_0 rfl rfl ?_
  refine e_iconst dL_isCloud_1 rfl ?_
  refine e_aload_n dL_isCloud_2 rfl rfl ?_
  refine e_iload_n dL_isCloud_3 rfl rfl ?_
  refine e_iload_n dL_isCloud_4 rfl rfl ?_
  refine e_cVo (b' := (1, 6)) [0, 1, 2, 3, 4, 5, 6, 7, 8, 9, 10] lk_L_62 rfl dL_isCloud_5 rfl (C_X6_isCloud (z := z) (F := F) (P := P) hF (by omega) (by omega)) rfl rfl (Nat.le_of_ble_eq_true rfl) (Nat.le_of_ble_eq_true rfl) (Nat.le_of_ble_eq_true rfl) ⟨(Nat.le_of_ble_eq_true rfl), (Nat.le_of_ble_eq_true rfl)⟩ rfl rfl rfl rfl rfl rfl (cs' := wA a z ln F P D DQ S SP c n h g rc T Mt [eJ 1 1 o]) (csX := wA a z ln F P D DQ S SP c n h g rc T Mt [eJ 1 1 o]) rfl rfl (gOF (t := [eJ 1 1 o]) (O' := [wO (a 1) (a 11) (a 21) (a 31) (a 113) (a 116) (a 130) (z)]) (F' := wFl (fun k => a (1 + k)) (F) (P)) rfl rfl rfl rfl rfl rfl rfl rfl rfl rfl) (gOF (t := [eJ 1 1 o]) (O' := [wO (a 1) (a 11) (a 21) (a 31) (a 113) (a 116) (a 130) (z)]) (F' := wFl (fun k => a (1 + k)) (F) (P)) rfl rfl rfl rfl rfl rfl rfl rfl rfl rfl) (fun ge => ?_) (fun e he => ?_)
  · refine e_ifb_eq (t := 15) dL_isCloud_8 rfl rfl (fun hb => ?_) (fun hb => ?_)
    · refine e_lconst dL_isCloud_15 rfl ?_
      refine e_lastore (i := 131) (N := 1) (x := o) dL_isCloud_16 rfl rfl wA_get (by decide) (by decide) ?_
      refine EV.ceq (cs' := wA a z ln F P D DQ S SP c n h g rc T Mt [eJ 1 1 (eU o 0 (if sCov (F.2 4) x y then 1 else 0))]) (by rw [if_neg hb]; exact wA_set) ?_
      refine e_goto (n := 24) dL_isCloud_17 rfl ?_
      refine e_iconst dL_isCloud_24 rfl ?_
      exact e_iret dL_isCloud_25 rfl rfl ⟨by rw [exK_n ge], rfl, fun _ => rfl, fun q => absurd ge q⟩
    · refine e_lconst dL_isCloud_11 rfl ?_
      refine e_goto (n := 16) dL_isCloud_12 rfl ?_
      refine e_lastore (i := 131) (N := 1) (x := o) dL_isCloud_16 rfl rfl wA_get (by decide) (by decide) ?_
      refine EV.ceq (cs' := wA a z ln F P D DQ S SP c n h g rc T Mt [eJ 1 1 (eU o 0 (if sCov (F.2 4) x y then 1 else 0))]) (by rw [if_pos hb]; exact wA_set) ?_
      refine e_goto (n := 24) dL_isCloud_17 rfl ?_
      refine e_iconst dL_isCloud_24 rfl ?_
      exact e_iret dL_isCloud_25 rfl rfl ⟨by rw [exK_n ge], rfl, fun _ => rfl, fun q => absurd ge q⟩
  · have hc := hE e he
    subst hc
    refine e_catch (name := xAr) [] _ _ rfl (fun z hz => absurd hz List.not_mem_nil) rfl (by decide) wd_2_198 (List.mem_of_getElem? (i := 1) rfl) (fun q => ?_)
    refine f_astore dL_isCloud_20 rfl (Nat.le_of_ble_eq_true rfl) rfl ?_
    refine e_iconst dL_isCloud_22 rfl ?_
    exact e_iret dL_isCloud_23 rfl rfl ⟨by rw [exK_1 he], rfl, fun q => absurd (he.symm.trans q) (by simp), fun _ => rfl⟩
theorem C_L_leader {X : eXT} {a : Nat → Nat} {z : Nat → Int} {ln : Int → Int} {F : eFs} {P : Int → Int} {D : eFs} {DQ : Int → Int} {S : eFs} {SP : Int → Int} {c n : Int} {h : eHs} {g rc : Int → Int} {T : eFs} {Mt : Int → Int → Int} {o : Int → Int} {N : Int} (hF : okF N F) :
    EM X mL_leader (eRt 10 2) a [.ref (a 0), .ref (a 131)] (wA a z ln F P D DQ S SP c n h g rc T Mt [eJ 1 1 o]) (eRets (some (vi (exK ((if 1 ≤ F.1 0 then none else some xNo)) xNo "" ""))) a (fun cs1 => ((if 1 ≤ F.1 0 then none else some xNo) = none → cs1 = wA a z ln F P D DQ S SP c n h g rc T Mt [eJ 1 1 (eU o 0 (w32 (F.1 1)))]) ∧ (¬ (if 1 ≤ F.1 0 then none else some xNo) = none → cs1 = wA a z ln F P D DQ S SP c n h g rc T Mt [eJ 1 1 o]))) := by
  have hE : ∀ e, (if 1 ≤ F.1 0 then none else some xNo) = some e → e = xNo := by
    intro e he
    (repeat' split at he) <;> first | (cases he; done) | (injection he with he; subst he; first | exact rfl | exact Or.inl rfl | exact Or.inr rfl | exact Or.inr (Or.inl rfl) | exact Or.inr (Or.inr rfl))
  refine EM.of (by decide +kernel) rfl (Nat.le_of_ble_eq_true rfl) ?_
  refine e_aload_n dL_leader_0 rfl rfl ?_
  refine e_iconst dL_leader_1 rfl ?_
  refine e_aload_n dL_leader_2 rfl rfl ?_
  refine e_cVo (b' := (1, 6)) [0, 1, 2, 3, 4, 5, 6, 7, 8, 9, 10] lk_L_69 rfl dL_leader_3 rfl (C_X6_leader (z := z) (F := F) (P := P) hF ) rfl rfl (Nat.le_of_ble_eq_true rfl) (Nat.le_of_ble_eq_true rfl) (Nat.le_of_ble_eq_true rfl) ⟨(Nat.le_of_ble_eq_true rfl), (Nat.le_of_ble_eq_true rfl)⟩ rfl rfl rfl rfl rfl rfl (cs' := wA a z ln F P D DQ S SP c n h g rc T Mt [eJ 1 1 o]) (csX := wA a z ln F P D DQ S SP c n h g rc T Mt [eJ 1 1 o]) rfl rfl (gOF (t := [eJ 1 1 o]) (O' := [wO (a 1) (a 11) (a 21) (a 31) (a 113) (a 116) (a 130) (z)]) (F' := wFl (fun k => a (1 + k)) (F) (P)) rfl rfl rfl rfl rfl rfl rfl rfl rfl rfl) (gOF (t := [eJ 1 1 o]) (O' := [wO (a 1) (a 11) (a 21) (a 31) (a 113) (a 116) (a 130) (z)]) (F' := wFl (fun k => a (1 + k)) (F) (P)) rfl rfl rfl rfl rfl rfl rfl rfl rfl rfl) (fun ge => ?_) (fun e he => ?_)
  · refine EV.eq (st' := [vi (w32 (F.1 1)), vi 0, .ref (a 131)]) (by show [vi (F.1 1), vi 0, .ref (a 131)] = _; rw [← w32_v]) ?_
    refine e_i2l dL_leader_6 rfl w32_in ?_
    refine e_lastore (i := 131) (N := 1) (x := o) dL_leader_7 rfl rfl wA_get (by decide) (by decide) ?_
    refine EV.ceq (cs' := wA a z ln F P D DQ S SP c n h g rc T Mt [eJ 1 1 (eU o 0 (w32 (F.1 1)))]) wA_set ?_
    refine e_goto (n := 14) dL_leader_8 rfl ?_
    refine e_iconst dL_leader_14 rfl ?_
    exact e_iret dL_leader_15 rfl rfl ⟨by rw [exK_n ge], rfl, fun _ => rfl, fun q => absurd ge q⟩
  · have hc := hE e he
    subst hc
    refine e_catch (name := xNo) [] _ _ rfl (fun z hz => absurd hz List.not_mem_nil) rfl (by decide) wd_3_234 (List.mem_of_getElem? (i := 3) rfl) (fun q => ?_)
    refine f_astore_n dL_leader_11 rfl (Nat.le_of_ble_eq_true rfl) rfl ?_
    refine e_iconst dL_leader_12 rfl ?_
    exact e_iret dL_leader_13 rfl rfl ⟨by rw [exK_1 he], rfl, fun q => absurd (he.symm.trans q) (by simp), fun _ => rfl⟩
theorem C_L_leaderAfter {X : eXT} {a : Nat → Nat} {z : Nat → Int} {ln : Int → Int} {F : eFs} {P : Int → Int} {D : eFs} {DQ : Int → Int} {S : eFs} {SP : Int → Int} {c n : Int} {h : eHs} {g rc : Int → Int} {T : eFs} {Mt : Int → Int → Int} {o : Int → Int} {N : Int} (hF : okF N F) {s : Int} (gs : -2147483648 ≤ s ∧ s ≤ 2147483647) :
    EM X mL_leaderAfter (eRt 10 2) a [.ref (a 0), vi s, .ref (a 131)] (wA a z ln F P D DQ S SP c n h g rc T Mt [eJ 1 1 o]) (eRets (some (vi (exK ((if 0 ≤ s ∧ s ≤ 99 then (if 1 ≤ F.1 0 then none else some xNo) else some xAr)) xAr xNo ""))) a (fun cs1 => ((if 0 ≤ s ∧ s ≤ 99 then (if 1 ≤ F.1 0 then none else some xNo) else some xAr) = none → cs1 = wA a z ln F P D DQ S SP c n h g rc T Mt [eJ 1 1 (eU o 0 (w32 (sLead F s)))]) ∧ (¬ (if 0 ≤ s ∧ s ≤ 99 then (if 1 ≤ F.1 0 then none else some xNo) else some xAr) = none → cs1 = wA a z ln F P D DQ S SP c n h g rc T Mt [eJ 1 1 o]))) := by
  have hE : ∀ e, (if 0 ≤ s ∧ s ≤ 99 then (if 1 ≤ F.1 0 then none else some xNo) else some xAr) = some e → e = xAr ∨ e = xNo := by
    intro e he
    (repeat' split at he) <;> first | (cases he; done) | (injection he with he; subst he; first | exact rfl | exact Or.inl rfl | exact Or.inr rfl | exact Or.inr (Or.inl rfl) | exact Or.inr (Or.inr rfl))
  refine EM.of (by decide +kernel) rfl (Nat.le_of_ble_eq_true rfl) ?_
  refine e_aload_n dL_leaderAfter_0 rfl rfl ?_
  refine e_iconst dL_leaderAfter_1 rfl ?_
  refine e_aload_n dL_leaderAfter_2 rfl rfl ?_
  refine e_iload_n dL_leaderAfter_3 rfl rfl ?_
  refine e_cVo (b' := (0, 0)) [0, 1, 2, 3, 4, 5, 6, 7, 8, 9, 10] lk_L_72 rfl dL_leaderAfter_4 rfl (C_X6_leaderAfter (z := z) (F := F) (P := P) hF (by omega)) rfl rfl (Nat.le_of_ble_eq_true rfl) (Nat.le_of_ble_eq_true rfl) (Nat.le_of_ble_eq_true rfl) ⟨(Nat.le_of_ble_eq_true rfl), (Nat.le_of_ble_eq_true rfl)⟩ rfl rfl rfl rfl rfl rfl (cs' := wA a z ln F P D DQ S SP c n h g rc T Mt [eJ 1 1 o]) (csX := wA a z ln F P D DQ S SP c n h g rc T Mt [eJ 1 1 o]) rfl rfl (gOF (t := [eJ 1 1 o]) (O' := [wO (a 1) (a 11) (a 21) (a 31) (a 113) (a 116) (a 130) (z)]) (F' := wFl (fun k => a (1 + k)) (F) (P)) rfl rfl rfl rfl rfl rfl rfl rfl rfl rfl) (gOF (t := [eJ 1 1 o]) (O' := [wO (a 1) (a 11) (a 21) (a 31) (a 113) (a 116) (a 130) (z)]) (F' := wFl (fun k => a (1 + k)) (F) (P)) rfl rfl rfl rfl rfl rfl rfl rfl rfl rfl) (fun ge => ?_) (fun e he => ?_)
  · refine EV.eq (st' := [vi (w32 (sLead F s)), vi 0, .ref (a 131)]) (by show [vi (sLead F s), vi 0, .ref (a 131)] = _; rw [← w32_v]) ?_
    refine e_i2l dL_leaderAfter_7 rfl w32_in ?_
    refine e_lastore (i := 131) (N := 1) (x := o) dL_leaderAfter_8 rfl rfl wA_get (by decide) (by decide) ?_
    refine EV.ceq (cs' := wA a z ln F P D DQ S SP c n h g rc T Mt [eJ 1 1 (eU o 0 (w32 (sLead F s)))]) wA_set ?_
    refine e_goto (n := 18) dL_leaderAfter_9 rfl ?_
    refine e_iconst dL_leaderAfter_18 rfl ?_
    exact e_iret dL_leaderAfter_19 rfl rfl ⟨by rw [exK_n ge], rfl, fun _ => rfl, fun q => absurd ge q⟩
  · rcases hE e he with hc | hc <;> subst hc
    · refine e_catch (name := xAr) [] _ _ rfl (fun z hz => absurd hz List.not_mem_nil) rfl (by decide) wd_2_198 (List.mem_of_getElem? (i := 1) rfl) (fun q => ?_)
      refine f_astore_n dL_leaderAfter_12 rfl (Nat.le_of_ble_eq_true rfl) rfl ?_
      refine e_iconst dL_leaderAfter_13 rfl ?_
      exact e_iret dL_leaderAfter_14 rfl rfl ⟨by rw [exK_1 he], rfl, fun q => absurd (he.symm.trans q) (by simp), fun _ => rfl⟩
    · refine e_catch (name := xNo) [_] _ _ rfl (fun z hz => Or.inr (by rw [List.mem_singleton.mp hz]; exact ⟨by decide, xAr, wd_2_198, List.mem_of_getElem? (i := 79) rfl⟩)) rfl (by decide) wd_3_234 (List.mem_of_getElem? (i := 3) rfl) (fun q => ?_)
      refine f_astore_n dL_leaderAfter_15 rfl (Nat.le_of_ble_eq_true rfl) rfl ?_
      refine e_iconst dL_leaderAfter_16 rfl ?_
      exact e_iret dL_leaderAfter_17 rfl rfl ⟨by rw [exK_2 he (by decide)], rfl, fun q => absurd (he.symm.trans q) (by simp), fun _ => rfl⟩
theorem C_L_leaderAfterByCounting {X : eXT} {a : Nat → Nat} {z : Nat → Int} {ln : Int → Int} {F : eFs} {P : Int → Int} {D : eFs} {DQ : Int → Int} {S : eFs} {SP : Int → Int} {c n : Int} {h : eHs} {g rc : Int → Int} {T : eFs} {Mt : Int → Int → Int} {o : Int → Int} {N : Int} (hF : okF N F) {s : Int} (gs : -2147483648 ≤ s ∧ s ≤ 2147483647) :
    EM X mL_leaderAfterByCounting (eRt 10 2) a [.ref (a 0), vi s, .ref (a 131)] (wA a z ln F P D DQ S SP c n h g rc T Mt [eJ 1 1 o]) (eRets (some (vi (exK ((if 0 ≤ s ∧ s ≤ 99 then (if 1 ≤ F.1 0 then none else some xNo) else some xAr)) xAr xNo ""))) a (fun cs1 => ((if 0 ≤ s ∧ s ≤ 99 then (if 1 ≤ F.1 0 then none else some xNo) else some xAr) = none → cs1 = wA a z ln F P D DQ S SP c n h g rc T Mt [eJ 1 1 (eU o 0 (w32 (sLead F s)))]) ∧ (¬ (if 0 ≤ s ∧ s ≤ 99 then (if 1 ≤ F.1 0 then none else some xNo) else some xAr) = none → cs1 = wA a z ln F P D DQ S SP c n h g rc T Mt [eJ 1 1 o]))) := by
  have hE : ∀ e, (if 0 ≤ s ∧ s ≤ 99 then (if 1 ≤ F.1 0 then none else some xNo) else some xAr) = some e → e = xAr ∨ e = xNo := by
    intro e he
    (repeat' split at he) <;> first | (cases he; done) | (injection he with he; subst he; first | exact rfl | exact Or.inl rfl | exact Or.inr rfl | exact Or.inr (Or.inl rfl) | exact Or.inr (Or.inr rfl))
  refine EM.of (by decide +kernel) rfl (Nat.le_of_ble_eq_true rfl) ?_
  refine e_aload_n dL_leaderAfterByCounting_0 rfl rfl ?_
  refine e_iconst dL_leaderAfterByCounting_1 rfl ?_
  refine e_aload_n dL_leaderAfterByCounting_2 rfl rfl ?_
  refine e_iload_n dL_leaderAfterByCounting_3 rfl rfl ?_
  refine e_cVo (b' := (0, 0)) [0, 1, 2, 3, 4, 5, 6, 7, 8, 9, 10] lk_L_75 rfl dL_leaderAfterByCounting_4 rfl (C_X6_leaderAfterByCounting (z := z) (F := F) (P := P) hF (by omega)) rfl rfl (Nat.le_of_ble_eq_true rfl) (Nat.le_of_ble_eq_true rfl) (Nat.le_of_ble_eq_true rfl) ⟨(Nat.le_of_ble_eq_true rfl), (Nat.le_of_ble_eq_true rfl)⟩ rfl rfl rfl rfl rfl rfl (cs' := wA a z ln F P D DQ S SP c n h g rc T Mt [eJ 1 1 o]) (csX := wA a z ln F P D DQ S SP c n h g rc T Mt [eJ 1 1 o]) rfl rfl (gOF (t := [eJ 1 1 o]) (O' := [wO (a 1) (a 11) (a 21) (a 31) (a 113) (a 116) (a 130) (z)]) (F' := wFl (fun k => a (1 + k)) (F) (P)) rfl rfl rfl rfl rfl rfl rfl rfl rfl rfl) (gOF (t := [eJ 1 1 o]) (O' := [wO (a 1) (a 11) (a 21) (a 31) (a 113) (a 116) (a 130) (z)]) (F' := wFl (fun k => a (1 + k)) (F) (P)) rfl rfl rfl rfl rfl rfl rfl rfl rfl rfl) (fun ge => ?_) (fun e he => ?_)
  · refine EV.eq (st' := [vi (w32 (sLead F s)), vi 0, .ref (a 131)]) (by show [vi (sLead F s), vi 0, .ref (a 131)] = _; rw [← w32_v]) ?_
    refine e_i2l dL_leaderAfterByCounting_7 rfl w32_in ?_
    refine e_lastore (i := 131) (N := 1) (x := o) dL_leaderAfterByCounting_8 rfl rfl wA_get (by decide) (by decide) ?_
    refine EV.ceq (cs' := wA a z ln F P D DQ S SP c n h g rc T Mt [eJ 1 1 (eU o 0 (w32 (sLead F s)))]) wA_set ?_
    refine e_goto (n := 18) dL_leaderAfterByCounting_9 rfl ?_
    refine e_iconst dL_leaderAfterByCounting_18 rfl ?_
    exact e_iret dL_leaderAfterByCounting_19 rfl rfl ⟨by rw [exK_n ge], rfl, fun _ => rfl, fun q => absurd ge q⟩
  · rcases hE e he with hc | hc <;> subst hc
    · refine e_catch (name := xAr) [] _ _ rfl (fun z hz => absurd hz List.not_mem_nil) rfl (by decide) wd_2_198 (List.mem_of_getElem? (i := 1) rfl) (fun q => ?_)
      refine f_astore_n dL_leaderAfterByCounting_12 rfl (Nat.le_of_ble_eq_true rfl) rfl ?_
      refine e_iconst dL_leaderAfterByCounting_13 rfl ?_
      exact e_iret dL_leaderAfterByCounting_14 rfl rfl ⟨by rw [exK_1 he], rfl, fun q => absurd (he.symm.trans q) (by simp), fun _ => rfl⟩
    · refine e_catch (name := xNo) [_] _ _ rfl (fun z hz => Or.inr (by rw [List.mem_singleton.mp hz]; exact ⟨by decide, xAr, wd_2_198, List.mem_of_getElem? (i := 79) rfl⟩)) rfl (by decide) wd_3_234 (List.mem_of_getElem? (i := 3) rfl) (fun q => ?_)
      refine f_astore_n dL_leaderAfterByCounting_15 rfl (Nat.le_of_ble_eq_true rfl) rfl ?_
      refine e_iconst dL_leaderAfterByCounting_16 rfl ?_
      exact e_iret dL_leaderAfterByCounting_17 rfl rfl ⟨by rw [exK_2 he (by decide)], rfl, fun q => absurd (he.symm.trans q) (by simp), fun _ => rfl⟩
theorem C_L_targetX {X : eXT} {a : Nat → Nat} {z : Nat → Int} {ln : Int → Int} {F : eFs} {P : Int → Int} {D : eFs} {DQ : Int → Int} {S : eFs} {SP : Int → Int} {c n : Int} {h : eHs} {g rc : Int → Int} {T : eFs} {Mt : Int → Int → Int} {o : Int → Int} {N : Int} (hF : okF N F) :
    EM X mL_targetX (eRt 10 2) a [.ref (a 0), .ref (a 131)] (wA a z ln F P D DQ S SP c n h g rc T Mt [eJ 1 1 o]) (eRets (some (vi (exK ((if ¬ F.1 4 = -1 then none else some xNo)) xNo "" ""))) a (fun cs1 => ((if ¬ F.1 4 = -1 then none else some xNo) = none → cs1 = wA a z ln F P D DQ S SP c n h g rc T Mt [eJ 1 1 (eU o 0 (w32 (F.1 4)))]) ∧ (¬ (if ¬ F.1 4 = -1 then none else some xNo) = none → cs1 = wA a z ln F P D DQ S SP c n h g rc T Mt [eJ 1 1 o]))) := by
  have hE : ∀ e, (if ¬ F.1 4 = -1 then none else some xNo) = some e → e = xNo := by
    intro e he
    (repeat' split at he) <;> first | (cases he; done) | (injection he with he; subst he; first | exact rfl | exact Or.inl rfl | exact Or.inr rfl | exact Or.inr (Or.inl rfl) | exact Or.inr (Or.inr rfl))
  refine EM.of (by decide +kernel) rfl (Nat.le_of_ble_eq_true rfl) ?_
  refine e_aload_n dL_targetX_0 rfl rfl ?_
  refine e_iconst dL_targetX_1 rfl ?_
  refine e_aload_n dL_targetX_2 rfl rfl ?_
  refine e_cVo (b' := (1, 6)) [0, 1, 2, 3, 4, 5, 6, 7, 8, 9, 10] lk_L_81 rfl dL_targetX_3 rfl (C_X6_targetX (z := z) (F := F) (P := P) hF ) rfl rfl (Nat.le_of_ble_eq_true rfl) (Nat.le_of_ble_eq_true rfl) (Nat.le_of_ble_eq_true rfl) ⟨(Nat.le_of_ble_eq_true rfl), (Nat.le_of_ble_eq_true rfl)⟩ rfl rfl rfl rfl rfl rfl (cs' := wA a z ln F P D DQ S SP c n h g rc T Mt [eJ 1 1 o]) (csX := wA a z ln F P D DQ S SP c n h g rc T Mt [eJ 1 1 o]) rfl rfl (gOF (t := [eJ 1 1 o]) (O' := [wO (a 1) (a 11) (a 21) (a 31) (a 113) (a 116) (a 130) (z)]) (F' := wFl (fun k => a (1 + k)) (F) (P)) rfl rfl rfl rfl rfl rfl rfl rfl rfl rfl) (gOF (t := [eJ 1 1 o]) (O' := [wO (a 1) (a 11) (a 21) (a 31) (a 113) (a 116) (a 130) (z)]) (F' := wFl (fun k => a (1 + k)) (F) (P)) rfl rfl rfl rfl rfl rfl rfl rfl rfl rfl) (fun ge => ?_) (fun e he => ?_)
  · refine EV.eq (st' := [vi (w32 (F.1 4)), vi 0, .ref (a 131)]) (by show [vi (F.1 4), vi 0, .ref (a 131)] = _; rw [← w32_v]) ?_
    refine e_i2l dL_targetX_6 rfl w32_in ?_
    refine e_lastore (i := 131) (N := 1) (x := o) dL_targetX_7 rfl rfl wA_get (by decide) (by decide) ?_
    refine EV.ceq (cs' := wA a z ln F P D DQ S SP c n h g rc T Mt [eJ 1 1 (eU o 0 (w32 (F.1 4)))]) wA_set ?_
    refine e_goto (n := 14) dL_targetX_8 rfl ?_
    refine e_iconst dL_targetX_14 rfl ?_
    exact e_iret dL_targetX_15 rfl rfl ⟨by rw [exK_n ge], rfl, fun _ => rfl, fun q => absurd ge q⟩
  · have hc := hE e he
    subst hc
    refine e_catch (name := xNo) [] _ _ rfl (fun z hz => absurd hz List.not_mem_nil) rfl (by decide) wd_3_234 (List.mem_of_getElem? (i := 3) rfl) (fun q => ?_)
    refine f_astore_n dL_targetX_11 rfl (Nat.le_of_ble_eq_true rfl) rfl ?_
    refine e_iconst dL_targetX_12 rfl ?_
    exact e_iret dL_targetX_13 rfl rfl ⟨by rw [exK_1 he], rfl, fun q => absurd (he.symm.trans q) (by simp), fun _ => rfl⟩
theorem C_L_targetY {X : eXT} {a : Nat → Nat} {z : Nat → Int} {ln : Int → Int} {F : eFs} {P : Int → Int} {D : eFs} {DQ : Int → Int} {S : eFs} {SP : Int → Int} {c n : Int} {h : eHs} {g rc : Int → Int} {T : eFs} {Mt : Int → Int → Int} {o : Int → Int} {N : Int} (hF : okF N F) :
    EM X mL_targetY (eRt 10 2) a [.ref (a 0), .ref (a 131)] (wA a z ln F P D DQ S SP c n h g rc T Mt [eJ 1 1 o]) (eRets (some (vi (exK ((if ¬ F.1 4 = -1 then none else some xNo)) xNo "" ""))) a (fun cs1 => ((if ¬ F.1 4 = -1 then none else some xNo) = none → cs1 = wA a z ln F P D DQ S SP c n h g rc T Mt [eJ 1 1 (eU o 0 (w32 (F.1 5)))]) ∧ (¬ (if ¬ F.1 4 = -1 then none else some xNo) = none → cs1 = wA a z ln F P D DQ S SP c n h g rc T Mt [eJ 1 1 o]))) := by
  have hE : ∀ e, (if ¬ F.1 4 = -1 then none else some xNo) = some e → e = xNo := by
    intro e he
    (repeat' split at he) <;> first | (cases he; done) | (injection he with he; subst he; first | exact rfl | exact Or.inl rfl | exact Or.inr rfl | exact Or.inr (Or.inl rfl) | exact Or.inr (Or.inr rfl))
  refine EM.of (by decide +kernel) rfl (Nat.le_of_ble_eq_true rfl) ?_
  refine e_aload_n dL_targetY_0 rfl rfl ?_
  refine e_iconst dL_targetY_1 rfl ?_
  refine e_aload_n dL_targetY_2 rfl rfl ?_
  refine e_cVo (b' := (1, 6)) [0, 1, 2, 3, 4, 5, 6, 7, 8, 9, 10] lk_L_84 rfl dL_targetY_3 rfl (C_X6_targetY (z := z) (F := F) (P := P) hF ) rfl rfl (Nat.le_of_ble_eq_true rfl) (Nat.le_of_ble_eq_true rfl) (Nat.le_of_ble_eq_true rfl) ⟨(Nat.le_of_ble_eq_true rfl), (Nat.le_of_ble_eq_true rfl)⟩ rfl rfl rfl rfl rfl rfl (cs' := wA a z ln F P D DQ S SP c n h g rc T Mt [eJ 1 1 o]) (csX := wA a z ln F P D DQ S SP c n h g rc T Mt [eJ 1 1 o]) rfl rfl (gOF (t := [eJ 1 1 o]) (O' := [wO (a 1) (a 11) (a 21) (a 31) (a 113) (a 116) (a 130) (z)]) (F' := wFl (fun k => a (1 + k)) (F) (P)) rfl rfl rfl rfl rfl rfl rfl rfl rfl rfl) (gOF (t := [eJ 1 1 o]) (O' := [wO (a 1) (a 11) (a 21) (a 31) (a 113) (a 116) (a 130) (z)]) (F' := wFl (fun k => a (1 + k)) (F) (P)) rfl rfl rfl rfl rfl rfl rfl rfl rfl rfl) (fun ge => ?_) (fun e he => ?_)
  · refine EV.eq (st' := [vi (w32 (F.1 5)), vi 0, .ref (a 131)]) (by show [vi (F.1 5), vi 0, .ref (a 131)] = _; rw [← w32_v]) ?_
    refine e_i2l dL_targetY_6 rfl w32_in ?_
    refine e_lastore (i := 131) (N := 1) (x := o) dL_targetY_7 rfl rfl wA_get (by decide) (by decide) ?_
    refine EV.ceq (cs' := wA a z ln F P D DQ S SP c n h g rc T Mt [eJ 1 1 (eU o 0 (w32 (F.1 5)))]) wA_set ?_
    refine e_goto (n := 14) dL_targetY_8 rfl ?_
    refine e_iconst dL_targetY_14 rfl ?_
    exact e_iret dL_targetY_15 rfl rfl ⟨by rw [exK_n ge], rfl, fun _ => rfl, fun q => absurd ge q⟩
  · have hc := hE e he
    subst hc
    refine e_catch (name := xNo) [] _ _ rfl (fun z hz => absurd hz List.not_mem_nil) rfl (by decide) wd_3_234 (List.mem_of_getElem? (i := 3) rfl) (fun q => ?_)
    refine f_astore_n dL_targetY_11 rfl (Nat.le_of_ble_eq_true rfl) rfl ?_
    refine e_iconst dL_targetY_12 rfl ?_
    exact e_iret dL_targetY_13 rfl rfl ⟨by rw [exK_1 he], rfl, fun q => absurd (he.symm.trans q) (by simp), fun _ => rfl⟩
theorem C_L_stepsSinceShape {X : eXT} {a : Nat → Nat} {z : Nat → Int} {ln : Int → Int} {F : eFs} {P : Int → Int} {D : eFs} {DQ : Int → Int} {S : eFs} {SP : Int → Int} {c n : Int} {h : eHs} {g rc : Int → Int} {T : eFs} {Mt : Int → Int → Int} {o : Int → Int} {N : Int} (hF : okF N F) :
    EM X mL_stepsSinceShape (eRt 10 2) a [.ref (a 0), .ref (a 131)] (wA a z ln F P D DQ S SP c n h g rc T Mt [eJ 1 1 o]) (eRets (some (vi (exK ((if ¬ sSince F = -1 then none else some xNo)) xNo "" ""))) a (fun cs1 => ((if ¬ sSince F = -1 then none else some xNo) = none → cs1 = wA a z ln F (sShp F) D DQ S SP c n h g rc T Mt [eJ 1 1 (eU o 0 (w32 (sSince F)))]) ∧ (¬ (if ¬ sSince F = -1 then none else some xNo) = none → cs1 = wA a z ln F (sShp F) D DQ S SP c n h g rc T Mt [eJ 1 1 o]))) := by
  have hE : ∀ e, (if ¬ sSince F = -1 then none else some xNo) = some e → e = xNo := by
    intro e he
    (repeat' split at he) <;> first | (cases he; done) | (injection he with he; subst he; first | exact rfl | exact Or.inl rfl | exact Or.inr rfl | exact Or.inr (Or.inl rfl) | exact Or.inr (Or.inr rfl))
  refine EM.of (by decide +kernel) rfl (Nat.le_of_ble_eq_true rfl) ?_
  refine e_aload_n dL_stepsSinceShape_0 rfl rfl ?_
  refine e_iconst dL_stepsSinceShape_1 rfl ?_
  refine e_aload_n dL_stepsSinceShape_2 rfl rfl ?_
  refine e_cVo (b' := (1, 6)) [0, 1, 2, 3, 4, 5, 6, 7, 8, 9, 10] lk_L_102 rfl dL_stepsSinceShape_3 rfl (C_X6_stepsSinceShape (z := z) (F := F) (P := P) hF ) rfl rfl (Nat.le_of_ble_eq_true rfl) (Nat.le_of_ble_eq_true rfl) (Nat.le_of_ble_eq_true rfl) ⟨(Nat.le_of_ble_eq_true rfl), (Nat.le_of_ble_eq_true rfl)⟩ rfl rfl rfl rfl rfl rfl (cs' := wA a z ln F (sShp F) D DQ S SP c n h g rc T Mt [eJ 1 1 o]) (csX := wA a z ln F (sShp F) D DQ S SP c n h g rc T Mt [eJ 1 1 o]) rfl rfl (gOF (t := [eJ 1 1 o]) (O' := [wO (a 1) (a 11) (a 21) (a 31) (a 113) (a 116) (a 130) (z)]) (F' := wFl (fun k => a (1 + k)) (F) (sShp F)) rfl rfl rfl rfl rfl rfl rfl rfl rfl rfl) (gOF (t := [eJ 1 1 o]) (O' := [wO (a 1) (a 11) (a 21) (a 31) (a 113) (a 116) (a 130) (z)]) (F' := wFl (fun k => a (1 + k)) (F) (sShp F)) rfl rfl rfl rfl rfl rfl rfl rfl rfl rfl) (fun ge => ?_) (fun e he => ?_)
  · refine EV.eq (st' := [vi (w32 (sSince F)), vi 0, .ref (a 131)]) (by show [vi (sSince F), vi 0, .ref (a 131)] = _; rw [← w32_v]) ?_
    refine e_i2l dL_stepsSinceShape_6 rfl w32_in ?_
    refine e_lastore (i := 131) (N := 1) (x := o) dL_stepsSinceShape_7 rfl rfl wA_get (by decide) (by decide) ?_
    refine EV.ceq (cs' := wA a z ln F (sShp F) D DQ S SP c n h g rc T Mt [eJ 1 1 (eU o 0 (w32 (sSince F)))]) wA_set ?_
    refine e_goto (n := 14) dL_stepsSinceShape_8 rfl ?_
    refine e_iconst dL_stepsSinceShape_14 rfl ?_
    exact e_iret dL_stepsSinceShape_15 rfl rfl ⟨by rw [exK_n ge], rfl, fun _ => rfl, fun q => absurd ge q⟩
  · have hc := hE e he
    subst hc
    refine e_catch (name := xNo) [] _ _ rfl (fun z hz => absurd hz List.not_mem_nil) rfl (by decide) wd_3_234 (List.mem_of_getElem? (i := 3) rfl) (fun q => ?_)
    refine f_astore_n dL_stepsSinceShape_11 rfl (Nat.le_of_ble_eq_true rfl) rfl ?_
    refine e_iconst dL_stepsSinceShape_12 rfl ?_
    exact e_iret dL_stepsSinceShape_13 rfl rfl ⟨by rw [exK_1 he], rfl, fun q => absurd (he.symm.trans q) (by simp), fun _ => rfl⟩
theorem C_L_basketAtRank {X : eXT} {a : Nat → Nat} {z : Nat → Int} {ln : Int → Int} {F : eFs} {P : Int → Int} {D : eFs} {DQ : Int → Int} {S : eFs} {SP : Int → Int} {c n : Int} {h : eHs} {g rc : Int → Int} {T : eFs} {Mt : Int → Int → Int} {o : Int → Int} {N : Int} (hF : okF N F) {r : Int} (gr : -2147483648 ≤ r ∧ r ≤ 2147483647) :
    EM X mL_basketAtRank (eRt 10 2) a [.ref (a 0), vi r, .ref (a 131)] (wA a z ln F P D DQ S SP c n h g rc T Mt [eJ 1 1 o]) (eRets (some (vi (exK ((if ¬ sWithRk F r = -1 then none else some xNo)) xNo "" ""))) a (fun cs1 => ((if ¬ sWithRk F r = -1 then none else some xNo) = none → cs1 = wA a z ln F P D DQ S SP c n h g rc T Mt [eJ 1 1 (eU o 0 (w32 (sWithRk F r)))]) ∧ (¬ (if ¬ sWithRk F r = -1 then none else some xNo) = none → cs1 = wA a z ln F P D DQ S SP c n h g rc T Mt [eJ 1 1 o]))) := by
  have hE : ∀ e, (if ¬ sWithRk F r = -1 then none else some xNo) = some e → e = xNo := by
    intro e he
    (repeat' split at he) <;> first | (cases he; done) | (injection he with he; subst he; first | exact rfl | exact Or.inl rfl | exact Or.inr rfl | exact Or.inr (Or.inl rfl) | exact Or.inr (Or.inr rfl))
  refine EM.of (by decide +kernel) rfl (Nat.le_of_ble_eq_true rfl) ?_
  refine e_aload_n dL_basketAtRank_0 rfl rfl ?_
  refine e_iconst dL_basketAtRank_1 rfl ?_
  refine e_aload_n dL_basketAtRank_2 rfl rfl ?_
  refine e_iload_n dL_basketAtRank_3 rfl rfl ?_
  refine e_cVo (b' := (1, 6)) [0, 1, 2, 3, 4, 5, 6, 7, 8, 9, 10] lk_L_105 rfl dL_basketAtRank_4 rfl (C_X6_basketAtRank (z := z) (F := F) (P := P) hF (by omega)) rfl rfl (Nat.le_of_ble_eq_true rfl) (Nat.le_of_ble_eq_true rfl) (Nat.le_of_ble_eq_true rfl) ⟨(Nat.le_of_ble_eq_true rfl), (Nat.le_of_ble_eq_true rfl)⟩ rfl rfl rfl rfl rfl rfl (cs' := wA a z ln F P D DQ S SP c n h g rc T Mt [eJ 1 1 o]) (csX := wA a z ln F P D DQ S SP c n h g rc T Mt [eJ 1 1 o]) rfl rfl (gOF (t := [eJ 1 1 o]) (O' := [wO (a 1) (a 11) (a 21) (a 31) (a 113) (a 116) (a 130) (z)]) (F' := wFl (fun k => a (1 + k)) (F) (P)) rfl rfl rfl rfl rfl rfl rfl rfl rfl rfl) (gOF (t := [eJ 1 1 o]) (O' := [wO (a 1) (a 11) (a 21) (a 31) (a 113) (a 116) (a 130) (z)]) (F' := wFl (fun k => a (1 + k)) (F) (P)) rfl rfl rfl rfl rfl rfl rfl rfl rfl rfl) (fun ge => ?_) (fun e he => ?_)
  · refine EV.eq (st' := [vi (w32 (sWithRk F r)), vi 0, .ref (a 131)]) (by show [vi (sWithRk F r), vi 0, .ref (a 131)] = _; rw [← w32_v]) ?_
    refine e_i2l dL_basketAtRank_7 rfl w32_in ?_
    refine e_lastore (i := 131) (N := 1) (x := o) dL_basketAtRank_8 rfl rfl wA_get (by decide) (by decide) ?_
    refine EV.ceq (cs' := wA a z ln F P D DQ S SP c n h g rc T Mt [eJ 1 1 (eU o 0 (w32 (sWithRk F r)))]) wA_set ?_
    refine e_goto (n := 15) dL_basketAtRank_9 rfl ?_
    refine e_iconst dL_basketAtRank_15 rfl ?_
    exact e_iret dL_basketAtRank_16 rfl rfl ⟨by rw [exK_n ge], rfl, fun _ => rfl, fun q => absurd ge q⟩
  · have hc := hE e he
    subst hc
    refine e_catch (name := xNo) [] _ _ rfl (fun z hz => absurd hz List.not_mem_nil) rfl (by decide) wd_3_234 (List.mem_of_getElem? (i := 3) rfl) (fun q => ?_)
    refine f_astore_n dL_basketAtRank_12 rfl (Nat.le_of_ble_eq_true rfl) rfl ?_
    refine e_iconst dL_basketAtRank_13 rfl ?_
    exact e_iret dL_basketAtRank_14 rfl rfl ⟨by rw [exK_1 he], rfl, fun q => absurd (he.symm.trans q) (by simp), fun _ => rfl⟩
theorem C_L_errorPosition {X : eXT} {a : Nat → Nat} {z : Nat → Int} {ln : Int → Int} {F : eFs} {P : Int → Int} {D : eFs} {DQ : Int → Int} {S : eFs} {SP : Int → Int} {c n : Int} {h : eHs} {g rc : Int → Int} {T : eFs} {Mt : Int → Int → Int} {o : Int → Int} {N : Int} (hF : okF N F) (hz : okZ z) :
    EM X mL_errorPosition (eRt 10 2) a [.ref (a 0), .ref (a 131)] (wA a z ln F P D DQ S SP c n h g rc T Mt [eJ 1 1 o]) (eRets (some (vi (exK ((if ¬ z 0 = -1 then none else some xNo)) xNo "" ""))) a (fun cs1 => ((if ¬ z 0 = -1 then none else some xNo) = none → cs1 = wA a z ln F P D DQ S SP c n h g rc T Mt [eJ 1 1 (eU o 0 (w32 (z 0)))]) ∧ (¬ (if ¬ z 0 = -1 then none else some xNo) = none → cs1 = wA a z ln F P D DQ S SP c n h g rc T Mt [eJ 1 1 o]))) := by
  have hE : ∀ e, (if ¬ z 0 = -1 then none else some xNo) = some e → e = xNo := by
    intro e he
    (repeat' split at he) <;> first | (cases he; done) | (injection he with he; subst he; first | exact rfl | exact Or.inl rfl | exact Or.inr rfl | exact Or.inr (Or.inl rfl) | exact Or.inr (Or.inr rfl))
  refine EM.of (by decide +kernel) rfl (Nat.le_of_ble_eq_true rfl) ?_
  refine e_aload_n dL_errorPosition_0 rfl rfl ?_
  refine e_iconst dL_errorPosition_1 rfl ?_
  refine e_aload_n dL_errorPosition_2 rfl rfl ?_
  refine e_cVo (b' := (1, 6)) [0, 1, 2, 3, 4, 5, 6, 7, 8, 9, 10] lk_L_115 rfl dL_errorPosition_3 rfl (C_X6_errorPosition (z := z) (F := F) (P := P) hF hz ) rfl rfl (Nat.le_of_ble_eq_true rfl) (Nat.le_of_ble_eq_true rfl) (Nat.le_of_ble_eq_true rfl) ⟨(Nat.le_of_ble_eq_true rfl), (Nat.le_of_ble_eq_true rfl)⟩ rfl rfl rfl rfl rfl rfl (cs' := wA a z ln F P D DQ S SP c n h g rc T Mt [eJ 1 1 o]) (csX := wA a z ln F P D DQ S SP c n h g rc T Mt [eJ 1 1 o]) rfl rfl (gOF (t := [eJ 1 1 o]) (O' := [wO (a 1) (a 11) (a 21) (a 31) (a 113) (a 116) (a 130) (z)]) (F' := wFl (fun k => a (1 + k)) (F) (P)) rfl rfl rfl rfl rfl rfl rfl rfl rfl rfl) (gOF (t := [eJ 1 1 o]) (O' := [wO (a 1) (a 11) (a 21) (a 31) (a 113) (a 116) (a 130) (z)]) (F' := wFl (fun k => a (1 + k)) (F) (P)) rfl rfl rfl rfl rfl rfl rfl rfl rfl rfl) (fun ge => ?_) (fun e he => ?_)
  · refine EV.eq (st' := [vi (w32 (z 0)), vi 0, .ref (a 131)]) (by show [vi (z 0), vi 0, .ref (a 131)] = _; rw [← w32_v]) ?_
    refine e_i2l dL_errorPosition_6 rfl w32_in ?_
    refine e_lastore (i := 131) (N := 1) (x := o) dL_errorPosition_7 rfl rfl wA_get (by decide) (by decide) ?_
    refine EV.ceq (cs' := wA a z ln F P D DQ S SP c n h g rc T Mt [eJ 1 1 (eU o 0 (w32 (z 0)))]) wA_set ?_
    refine e_goto (n := 14) dL_errorPosition_8 rfl ?_
    refine e_iconst dL_errorPosition_14 rfl ?_
    exact e_iret dL_errorPosition_15 rfl rfl ⟨by rw [exK_n ge], rfl, fun _ => rfl, fun q => absurd ge q⟩
  · have hc := hE e he
    subst hc
    refine e_catch (name := xNo) [] _ _ rfl (fun z hz => absurd hz List.not_mem_nil) rfl (by decide) wd_3_234 (List.mem_of_getElem? (i := 3) rfl) (fun q => ?_)
    refine f_astore_n dL_errorPosition_11 rfl (Nat.le_of_ble_eq_true rfl) rfl ?_
    refine e_iconst dL_errorPosition_12 rfl ?_
    exact e_iret dL_errorPosition_13 rfl rfl ⟨by rw [exK_1 he], rfl, fun q => absurd (he.symm.trans q) (by simp), fun _ => rfl⟩
theorem C_L_failedCommand {X : eXT} {a : Nat → Nat} {z : Nat → Int} {ln : Int → Int} {F : eFs} {P : Int → Int} {D : eFs} {DQ : Int → Int} {S : eFs} {SP : Int → Int} {c n : Int} {h : eHs} {g rc : Int → Int} {T : eFs} {Mt : Int → Int → Int} {o : Int → Int} {N : Int} (hF : okF N F) (hz : okZ z) :
    EM X mL_failedCommand (eRt 10 2) a [.ref (a 0), .ref (a 131)] (wA a z ln F P D DQ S SP c n h g rc T Mt [eJ 1 1 o]) (eRets (some (vi (exK ((if ¬ z 1 = -1 then none else some xNo)) xNo "" ""))) a (fun cs1 => ((if ¬ z 1 = -1 then none else some xNo) = none → cs1 = wA a z ln F P D DQ S SP c n h g rc T Mt [eJ 1 1 (eU o 0 (w32 (z 1)))]) ∧ (¬ (if ¬ z 1 = -1 then none else some xNo) = none → cs1 = wA a z ln F P D DQ S SP c n h g rc T Mt [eJ 1 1 o]))) := by
  have hE : ∀ e, (if ¬ z 1 = -1 then none else some xNo) = some e → e = xNo := by
    intro e he
    (repeat' split at he) <;> first | (cases he; done) | (injection he with he; subst he; first | exact rfl | exact Or.inl rfl | exact Or.inr rfl | exact Or.inr (Or.inl rfl) | exact Or.inr (Or.inr rfl))
  refine EM.of (by decide +kernel) rfl (Nat.le_of_ble_eq_true rfl) ?_
  refine e_aload_n dL_failedCommand_0 rfl rfl ?_
  refine e_iconst dL_failedCommand_1 rfl ?_
  refine e_aload_n dL_failedCommand_2 rfl rfl ?_
  refine e_cVo (b' := (1, 6)) [0, 1, 2, 3, 4, 5, 6, 7, 8, 9, 10] lk_L_118 rfl dL_failedCommand_3 rfl (C_X6_failedCommand (z := z) (F := F) (P := P) hF hz ) rfl rfl (Nat.le_of_ble_eq_true rfl) (Nat.le_of_ble_eq_true rfl) (Nat.le_of_ble_eq_true rfl) ⟨(Nat.le_of_ble_eq_true rfl), (Nat.le_of_ble_eq_true rfl)⟩ rfl rfl rfl rfl rfl rfl (cs' := wA a z ln F P D DQ S SP c n h g rc T Mt [eJ 1 1 o]) (csX := wA a z ln F P D DQ S SP c n h g rc T Mt [eJ 1 1 o]) rfl rfl (gOF (t := [eJ 1 1 o]) (O' := [wO (a 1) (a 11) (a 21) (a 31) (a 113) (a 116) (a 130) (z)]) (F' := wFl (fun k => a (1 + k)) (F) (P)) rfl rfl rfl rfl rfl rfl rfl rfl rfl rfl) (gOF (t := [eJ 1 1 o]) (O' := [wO (a 1) (a 11) (a 21) (a 31) (a 113) (a 116) (a 130) (z)]) (F' := wFl (fun k => a (1 + k)) (F) (P)) rfl rfl rfl rfl rfl rfl rfl rfl rfl rfl) (fun ge => ?_) (fun e he => ?_)
  · refine EV.eq (st' := [vi (w32 (z 1)), vi 0, .ref (a 131)]) (by show [vi (z 1), vi 0, .ref (a 131)] = _; rw [← w32_v]) ?_
    refine e_i2l dL_failedCommand_6 rfl w32_in ?_
    refine e_lastore (i := 131) (N := 1) (x := o) dL_failedCommand_7 rfl rfl wA_get (by decide) (by decide) ?_
    refine EV.ceq (cs' := wA a z ln F P D DQ S SP c n h g rc T Mt [eJ 1 1 (eU o 0 (w32 (z 1)))]) wA_set ?_
    refine e_goto (n := 14) dL_failedCommand_8 rfl ?_
    refine e_iconst dL_failedCommand_14 rfl ?_
    exact e_iret dL_failedCommand_15 rfl rfl ⟨by rw [exK_n ge], rfl, fun _ => rfl, fun q => absurd ge q⟩
  · have hc := hE e he
    subst hc
    refine e_catch (name := xNo) [] _ _ rfl (fun z hz => absurd hz List.not_mem_nil) rfl (by decide) wd_3_234 (List.mem_of_getElem? (i := 3) rfl) (fun q => ?_)
    refine f_astore_n dL_failedCommand_11 rfl (Nat.le_of_ble_eq_true rfl) rfl ?_
    refine e_iconst dL_failedCommand_12 rfl ?_
    exact e_iret dL_failedCommand_13 rfl rfl ⟨by rw [exK_1 he], rfl, fun q => absurd (he.symm.trans q) (by simp), fun _ => rfl⟩
theorem C_L_meanDistance {X : eXT} {a : Nat → Nat} {z : Nat → Int} {ln : Int → Int} {F : eFs} {P : Int → Int} {D : eFs} {DQ : Int → Int} {S : eFs} {SP : Int → Int} {c n : Int} {h : eHs} {g rc : Int → Int} {T : eFs} {Mt : Int → Int → Int} {o : Nat → UInt64} {N : Int} (hF : okF N F) :
    EM X mL_meanDistance (eRt 10 2) a [.ref (a 0), .ref (a 131)] (wA a z ln F P D DQ S SP c n h g rc T Mt [eDd 1 o]) (eRets (some (vi (exK ((if 2 ≤ F.1 0 then none else some xMa)) xMa "" ""))) a (fun cs1 => ((if 2 ≤ F.1 0 then none else some xMa) = none → cs1 = wA a z ln F P D DQ S SP c n h g rc T Mt [eDd 1 (vf_upd o 0 (FP.ddiv (FP.i2d (Int32.ofInt (sSumD F))) (FP.i2d (Int32.ofInt (F.1 0 - 1)))))]) ∧ (¬ (if 2 ≤ F.1 0 then none else some xMa) = none → cs1 = wA a z ln F P D DQ S SP c n h g rc T Mt [eDd 1 o]))) := by
  have hE : ∀ e, (if 2 ≤ F.1 0 then none else some xMa) = some e → e = xMa := by
    intro e he
    (repeat' split at he) <;> first | (cases he; done) | (injection he with he; subst he; first | exact rfl | exact Or.inl rfl | exact Or.inr rfl | exact Or.inr (Or.inl rfl) | exact Or.inr (Or.inr rfl))
  refine EM.of (by decide +kernel) rfl (Nat.le_of_ble_eq_true rfl) ?_
  refine e_aload_n dL_meanDistance_0 rfl rfl ?_
  refine e_iconst dL_meanDistance_1 rfl ?_
  refine e_aload_n dL_meanDistance_2 rfl rfl ?_
  refine e_cVo (b' := (1, 6)) [0, 1, 2, 3, 4, 5, 6, 7, 8, 9, 10] lk_L_128 rfl dL_meanDistance_3 rfl (C_X6_meanDistance (z := z) (F := F) (P := P) hF ) rfl rfl (Nat.le_of_ble_eq_true rfl) (Nat.le_of_ble_eq_true rfl) (Nat.le_of_ble_eq_true rfl) ⟨(Nat.le_of_ble_eq_true rfl), (Nat.le_of_ble_eq_true rfl)⟩ rfl rfl rfl rfl rfl rfl (cs' := wA a z ln F P D DQ S SP c n h g rc T Mt [eDd 1 o]) (csX := wA a z ln F P D DQ S SP c n h g rc T Mt [eDd 1 o]) rfl rfl (gOF (t := [eDd 1 o]) (O' := [wO (a 1) (a 11) (a 21) (a 31) (a 113) (a 116) (a 130) (z)]) (F' := wFl (fun k => a (1 + k)) (F) (P)) rfl rfl rfl rfl rfl rfl rfl rfl rfl rfl) (gOF (t := [eDd 1 o]) (O' := [wO (a 1) (a 11) (a 21) (a 31) (a 113) (a 116) (a 130) (z)]) (F' := wFl (fun k => a (1 + k)) (F) (P)) rfl rfl rfl rfl rfl rfl rfl rfl rfl rfl) (fun ge => ?_) (fun e he => ?_)
  · refine e_dastore (i := 131) (N := 1) (f := o) dL_meanDistance_6 rfl rfl wA_get (by decide) (by decide) ?_
    refine EV.ceq (cs' := wA a z ln F P D DQ S SP c n h g rc T Mt [eDd 1 (vf_upd o 0 (FP.ddiv (FP.i2d (Int32.ofInt (sSumD F))) (FP.i2d (Int32.ofInt (F.1 0 - 1)))))]) wA_set ?_
    refine e_goto (n := 13) dL_meanDistance_7 rfl ?_
    refine e_iconst dL_meanDistance_13 rfl ?_
    exact e_iret dL_meanDistance_14 rfl rfl ⟨by rw [exK_n ge], rfl, fun _ => rfl, fun q => absurd ge q⟩
  · have hc := hE e he
    subst hc
    refine e_catch (name := xMa) [] _ _ rfl (fun z hz => absurd hz List.not_mem_nil) rfl (by decide) wd_5_211 (List.mem_of_getElem? (i := 6) rfl) (fun q => ?_)
    refine f_astore_n dL_meanDistance_10 rfl (Nat.le_of_ble_eq_true rfl) rfl ?_
    refine e_iconst dL_meanDistance_11 rfl ?_
    exact e_iret dL_meanDistance_12 rfl rfl ⟨by rw [exK_1 he], rfl, fun q => absurd (he.symm.trans q) (by simp), fun _ => rfl⟩
theorem C_L_mixedShare {X : eXT} {a : Nat → Nat} {z : Nat → Int} {ln : Int → Int} {F : eFs} {P : Int → Int} {D : eFs} {DQ : Int → Int} {S : eFs} {SP : Int → Int} {c n : Int} {h : eHs} {g rc : Int → Int} {T : eFs} {Mt : Int → Int → Int} {o : Nat → UInt64} {N : Int} (hF : okF N F) (hn64 : vf_n64 (FP.f2d (FP.fdiv (FP.i2f (Int32.ofInt (sMix F))) (FP.i2f (Int32.ofInt (sPrs F)))))) :
    EM X mL_mixedShare (eRt 10 2) a [.ref (a 0), .ref (a 131)] (wA a z ln F P D DQ S SP c n h g rc T Mt [eDd 1 o]) (eRets (some (vi (exK ((if 1 ≤ sPrs F then none else some xMa)) xMa "" ""))) a (fun cs1 => ((if 1 ≤ sPrs F then none else some xMa) = none → cs1 = wA a z ln F P D DQ S SP c n h g rc T Mt [eDd 1 (vf_upd o 0 (FP.f2d (FP.fdiv (FP.i2f (Int32.ofInt (sMix F))) (FP.i2f (Int32.ofInt (sPrs F))))))]) ∧ (¬ (if 1 ≤ sPrs F then none else some xMa) = none → cs1 = wA a z ln F P D DQ S SP c n h g rc T Mt [eDd 1 o]))) := by
  have hE : ∀ e, (if 1 ≤ sPrs F then none else some xMa) = some e → e = xMa := by
    intro e he
    (repeat' split at he) <;> first | (cases he; done) | (injection he with he; subst he; first | exact rfl | exact Or.inl rfl | exact Or.inr rfl | exact Or.inr (Or.inl rfl) | exact Or.inr (Or.inr rfl))
  refine EM.of (by decide +kernel) rfl (Nat.le_of_ble_eq_true rfl) ?_
  refine e_aload_n dL_mixedShare_0 rfl rfl ?_
  refine e_iconst dL_mixedShare_1 rfl ?_
  refine e_aload_n dL_mixedShare_2 rfl rfl ?_
  refine e_cVo (b' := (1, 6)) [0, 1, 2, 3, 4, 5, 6, 7, 8, 9, 10] lk_L_134 rfl dL_mixedShare_3 rfl (C_X6_mixedShare (z := z) (F := F) (P := P) hF ) rfl rfl (Nat.le_of_ble_eq_true rfl) (Nat.le_of_ble_eq_true rfl) (Nat.le_of_ble_eq_true rfl) ⟨(Nat.le_of_ble_eq_true rfl), (Nat.le_of_ble_eq_true rfl)⟩ rfl rfl rfl rfl rfl rfl (cs' := wA a z ln F P D DQ S SP c n h g rc T Mt [eDd 1 o]) (csX := wA a z ln F P D DQ S SP c n h g rc T Mt [eDd 1 o]) rfl rfl (gOF (t := [eDd 1 o]) (O' := [wO (a 1) (a 11) (a 21) (a 31) (a 113) (a 116) (a 130) (z)]) (F' := wFl (fun k => a (1 + k)) (F) (P)) rfl rfl rfl rfl rfl rfl rfl rfl rfl rfl) (gOF (t := [eDd 1 o]) (O' := [wO (a 1) (a 11) (a 21) (a 31) (a 113) (a 116) (a 130) (z)]) (F' := wFl (fun k => a (1 + k)) (F) (P)) rfl rfl rfl rfl rfl rfl rfl rfl rfl rfl) (fun ge => ?_) (fun e he => ?_)
  · refine e_f2d dL_mixedShare_6 rfl hn64 ?_
    refine e_dastore (i := 131) (N := 1) (f := o) dL_mixedShare_7 rfl rfl wA_get (by decide) (by decide) ?_
    refine EV.ceq (cs' := wA a z ln F P D DQ S SP c n h g rc T Mt [eDd 1 (vf_upd o 0 (FP.f2d (FP.fdiv (FP.i2f (Int32.ofInt (sMix F))) (FP.i2f (Int32.ofInt (sPrs F))))))]) wA_set ?_
    refine e_goto (n := 14) dL_mixedShare_8 rfl ?_
    refine e_iconst dL_mixedShare_14 rfl ?_
    exact e_iret dL_mixedShare_15 rfl rfl ⟨by rw [exK_n ge], rfl, fun _ => rfl, fun q => absurd ge q⟩
  · have hc := hE e he
    subst hc
    refine e_catch (name := xMa) [] _ _ rfl (fun z hz => absurd hz List.not_mem_nil) rfl (by decide) wd_5_211 (List.mem_of_getElem? (i := 6) rfl) (fun q => ?_)
    refine f_astore_n dL_mixedShare_11 rfl (Nat.le_of_ble_eq_true rfl) rfl ?_
    refine e_iconst dL_mixedShare_12 rfl ?_
    exact e_iret dL_mixedShare_13 rfl rfl ⟨by rw [exK_1 he], rfl, fun q => absurd (he.symm.trans q) (by simp), fun _ => rfl⟩
theorem C_L_lineAt {X : eXT} {a : Nat → Nat} {z : Nat → Int} {ln : Int → Int} {F : eFs} {P : Int → Int} {D : eFs} {DQ : Int → Int} {S : eFs} {SP : Int → Int} {c n : Int} {h : eHs} {g rc : Int → Int} {T : eFs} {Mt : Int → Int → Int} {o : Int → Int}  (hz : okZ z) (hln : ∀ j, 0 ≤ ln j ∧ ln j ≤ 65535) {i : Int} (gi : -2147483648 ≤ i ∧ i ≤ 2147483647) :
    EM X mL_lineAt (eRt 10 2) a [.ref (a 0), vi i, .ref (a 131)] (wA a z ln F P D DQ S SP c n h g rc T Mt [eJ 1 1 o]) (eRets (some (vi (exK ((if 0 ≤ i ∧ i < z 4 then none else some xIx)) xIx "" ""))) a (fun cs1 => ((if 0 ≤ i ∧ i < z 4 then none else some xIx) = none → cs1 = wA a z ln F P D DQ S SP c n h g rc T Mt [eJ 1 1 (eU o 0 (w32 (ln i)))]) ∧ (¬ (if 0 ≤ i ∧ i < z 4 then none else some xIx) = none → cs1 = wA a z ln F P D DQ S SP c n h g rc T Mt [eJ 1 1 o]))) := by
  have hE : ∀ e, (if 0 ≤ i ∧ i < z 4 then none else some xIx) = some e → e = xIx := by
    intro e he
    (repeat' split at he) <;> first | (cases he; done) | (injection he with he; subst he; first | exact rfl | exact Or.inl rfl | exact Or.inr rfl | exact Or.inr (Or.inl rfl) | exact Or.inr (Or.inr rfl))
  refine EM.of (by decide +kernel) rfl (Nat.le_of_ble_eq_true rfl) ?_
  refine e_aload_n dL_lineAt_0 rfl rfl ?_
  refine e_iconst dL_lineAt_1 rfl ?_
  refine e_aload_n dL_lineAt_2 rfl rfl ?_
  refine e_iload_n dL_lineAt_3 rfl rfl ?_
  refine e_cVo (b' := (1, 6)) [0, 130] lk_L_124 rfl dL_lineAt_4 rfl (C_X6_lineAt (z := z) (ln := ln) hz hln (by omega)) rfl rfl (Nat.le_of_ble_eq_true rfl) (Nat.le_of_ble_eq_true rfl) (Nat.le_of_ble_eq_true rfl) ⟨(Nat.le_of_ble_eq_true rfl), (Nat.le_of_ble_eq_true rfl)⟩ rfl rfl rfl rfl rfl rfl (cs' := wA a z ln F P D DQ S SP c n h g rc T Mt [eJ 1 1 o]) (csX := wA a z ln F P D DQ S SP c n h g rc T Mt [eJ 1 1 o]) rfl rfl (gOL (t := [eJ 1 1 o]) (O' := [wO (a 1) (a 11) (a 21) (a 31) (a 113) (a 116) (a 130) (z)]) (L' := [eI 2 12 (ln)]) rfl rfl rfl rfl rfl rfl rfl rfl rfl rfl) (gOL (t := [eJ 1 1 o]) (O' := [wO (a 1) (a 11) (a 21) (a 31) (a 113) (a 116) (a 130) (z)]) (L' := [eI 2 12 (ln)]) rfl rfl rfl rfl rfl rfl rfl rfl rfl rfl) (fun ge => ?_) (fun e he => ?_)
  · refine EV.eq (st' := [vi (w32 (ln i)), vi 0, .ref (a 131)]) (by show [vi (ln i), vi 0, .ref (a 131)] = _; rw [← w32_v]) ?_
    refine e_i2l dL_lineAt_7 rfl w32_in ?_
    refine e_lastore (i := 131) (N := 1) (x := o) dL_lineAt_8 rfl rfl wA_get (by decide) (by decide) ?_
    refine EV.ceq (cs' := wA a z ln F P D DQ S SP c n h g rc T Mt [eJ 1 1 (eU o 0 (w32 (ln i)))]) wA_set ?_
    refine e_goto (n := 15) dL_lineAt_9 rfl ?_
    refine e_iconst dL_lineAt_15 rfl ?_
    exact e_iret dL_lineAt_16 rfl rfl ⟨by rw [exK_n ge], rfl, fun _ => rfl, fun q => absurd ge q⟩
  · have hc := hE e he
    subst hc
    refine e_catch (name := xIx) [] _ _ rfl (fun z hz => absurd hz List.not_mem_nil) rfl (by decide) wd_3_165 (List.mem_of_getElem? (i := 0) rfl) (fun q => ?_)
    refine f_astore_n dL_lineAt_12 rfl (Nat.le_of_ble_eq_true rfl) rfl ?_
    refine e_iconst dL_lineAt_13 rfl ?_
    exact e_iret dL_lineAt_14 rfl rfl ⟨by rw [exK_1 he], rfl, fun q => absurd (he.symm.trans q) (by simp), fun _ => rfl⟩
theorem C_L_describeRow {X : eXT} {a : Nat → Nat} {z : Nat → Int} {ln : Int → Int} {F : eFs} {P : Int → Int} {D : eFs} {DQ : Int → Int} {S : eFs} {SP : Int → Int} {c n : Int} {h : eHs} {g rc : Int → Int} {T : eFs} {Mt : Int → Int → Int} {o : Int → Int} {N : Int} (hF : okF N F) {y : Int} (gy : -2147483648 ≤ y ∧ y ≤ 2147483647) :
    EM X mL_describeRow (eRt 10 2) a [.ref (a 0), vi y, .ref (a 131)] (wA a z ln F P D DQ S SP c n h g rc T Mt [eJ 1 1 o]) (eRets (some (vi (exK ((if 0 ≤ y ∧ y ≤ 11 then none else some xAr)) xAr "" ""))) a (fun cs1 => ((if 0 ≤ y ∧ y ≤ 11 then none else some xAr) = none → cs1 = wA a (zS z 4 12) (fun x => sSgn F x y) F P D DQ S SP c n h g rc T Mt [eJ 1 1 (eU o 0 (w32 (12)))]) ∧ (¬ (if 0 ≤ y ∧ y ≤ 11 then none else some xAr) = none → cs1 = wA a z ln F P D DQ S SP c n h g rc T Mt [eJ 1 1 o]))) := by
  have hE : ∀ e, (if 0 ≤ y ∧ y ≤ 11 then none else some xAr) = some e → e = xAr := by
    intro e he
    (repeat' split at he) <;> first | (cases he; done) | (injection he with he; subst he; first | exact rfl | exact Or.inl rfl | exact Or.inr rfl | exact Or.inr (Or.inl rfl) | exact Or.inr (Or.inr rfl))
  refine EM.of (by decide +kernel) rfl (Nat.le_of_ble_eq_true rfl) ?_
  refine e_aload_n dL_describeRow_0 rfl rfl ?_
  refine e_iconst dL_describeRow_1 rfl ?_
  refine e_aload_n dL_describeRow_2 rfl rfl ?_
  refine e_iload_n dL_describeRow_3 rfl rfl ?_
  refine e_cVo (b' := (1, 6)) [0, 1, 2, 3, 4, 5, 6, 7, 8, 9, 10, 130] lk_L_121 rfl dL_describeRow_4 rfl (C_X6_describeRow (z := z) (F := F) (P := P) (ln := ln) hF (by omega)) rfl rfl (Nat.le_of_ble_eq_true rfl) (Nat.le_of_ble_eq_true rfl) (Nat.le_of_ble_eq_true rfl) ⟨(Nat.le_of_ble_eq_true rfl), (Nat.le_of_ble_eq_true rfl)⟩ rfl rfl rfl rfl rfl rfl (cs' := wA a (zS z 4 12) (fun x => sSgn F x y) F P D DQ S SP c n h g rc T Mt [eJ 1 1 o]) (csX := wA a z ln F P D DQ S SP c n h g rc T Mt [eJ 1 1 o]) rfl rfl (gOFL (t := [eJ 1 1 o]) (O' := [wO (a 1) (a 11) (a 21) (a 31) (a 113) (a 116) (a 130) (zS z 4 12)]) (F' := wFl (fun k => a (1 + k)) (F) (P)) (L' := [eI 2 12 (fun x => sSgn F x y)]) rfl rfl rfl rfl rfl rfl rfl rfl rfl rfl rfl) (gOFL (t := [eJ 1 1 o]) (O' := [wO (a 1) (a 11) (a 21) (a 31) (a 113) (a 116) (a 130) (z)]) (F' := wFl (fun k => a (1 + k)) (F) (P)) (L' := [eI 2 12 (ln)]) rfl rfl rfl rfl rfl rfl rfl rfl rfl rfl rfl) (fun ge => ?_) (fun e he => ?_)
  · refine EV.eq (st' := [vi (w32 (12)), vi 0, .ref (a 131)]) (by show [vi (12), vi 0, .ref (a 131)] = _; rw [← w32_v]) ?_
    refine e_i2l dL_describeRow_7 rfl w32_in ?_
    refine e_lastore (i := 131) (N := 1) (x := o) dL_describeRow_8 rfl rfl wA_get (by decide) (by decide) ?_
    refine EV.ceq (cs' := wA a (zS z 4 12) (fun x => sSgn F x y) F P D DQ S SP c n h g rc T Mt [eJ 1 1 (eU o 0 (w32 (12)))]) wA_set ?_
    refine e_goto (n := 15) dL_describeRow_9 rfl ?_
    refine e_iconst dL_describeRow_15 rfl ?_
    exact e_iret dL_describeRow_16 rfl rfl ⟨by rw [exK_n ge], rfl, fun _ => rfl, fun q => absurd ge q⟩
  · have hc := hE e he
    subst hc
    refine e_catch (name := xAr) [] _ _ rfl (fun z hz => absurd hz List.not_mem_nil) rfl (by decide) wd_2_198 (List.mem_of_getElem? (i := 1) rfl) (fun q => ?_)
    refine f_astore_n dL_describeRow_12 rfl (Nat.le_of_ble_eq_true rfl) rfl ?_
    refine e_iconst dL_describeRow_13 rfl ?_
    exact e_iret dL_describeRow_14 rfl rfl ⟨by rw [exK_1 he], rfl, fun q => absurd (he.symm.trans q) (by simp), fun _ => rfl⟩
theorem C_L_append {X : eXT} {a : Nat → Nat} {z : Nat → Int} {ln : Int → Int} {F : eFs} {P : Int → Int} {D : eFs} {DQ : Int → Int} {S : eFs} {SP : Int → Int} {c n : Int} {h : eHs} {g rc : Int → Int} {T : eFs} {Mt : Int → Int → Int} {o : Int → Int}  (hT : okT T Mt) {cc : Int} (gc : 0 ≤ cc ∧ cc ≤ 65535) :
    EM X mL_append (eRt 10 2) a [.ref (a 0), vi cc, .ref (a 131)] (wA a z ln F P D DQ S SP c n h g rc T Mt [eJ 1 1 o]) (eRets (some (vi (exK ((if 32 ≤ cc ∧ cc ≤ 126 then (if T.1 0 < 60 then none else some xSt) else some xAr)) xAr xSt ""))) a (fun cs1 => ((if 32 ≤ cc ∧ cc ≤ 126 then (if T.1 0 < 60 then none else some xSt) else some xAr) = none → cs1 = wA a z ln F P D DQ S SP c n h g rc (sS (sA T 0 (T.1 0) cc) 0 (T.1 0 + 1)) Mt [eJ 1 1 (eU o 0 (w32 (T.1 0 + 1)))]) ∧ (¬ (if 32 ≤ cc ∧ cc ≤ 126 then (if T.1 0 < 60 then none else some xSt) else some xAr) = none → cs1 = wA a z ln F P D DQ S SP c n h g rc T Mt [eJ 1 1 o]))) := by
  have hE : ∀ e, (if 32 ≤ cc ∧ cc ≤ 126 then (if T.1 0 < 60 then none else some xSt) else some xAr) = some e → e = xAr ∨ e = xSt := by
    intro e he
    (repeat' split at he) <;> first | (cases he; done) | (injection he with he; subst he; first | exact rfl | exact Or.inl rfl | exact Or.inr rfl | exact Or.inr (Or.inl rfl) | exact Or.inr (Or.inr rfl))
  refine EM.of (by decide +kernel) rfl (Nat.le_of_ble_eq_true rfl) ?_
  refine e_aload_n dL_append_0 rfl rfl ?_
  refine e_iconst dL_append_1 rfl ?_
  refine e_aload_n dL_append_2 rfl rfl ?_
  refine e_iload_n dL_append_3 rfl rfl ?_
  refine e_cVo (b' := (1, 6)) [0, 116, 117, 118, 119, 120, 121, 122, 123, 124, 125, 126, 127, 128, 129] lk_L_108 rfl dL_append_4 rfl (C_X6_append (z := z) (T := T) (M := Mt) hT (by omega)) rfl rfl (Nat.le_of_ble_eq_true rfl) (Nat.le_of_ble_eq_true rfl) (Nat.le_of_ble_eq_true rfl) ⟨(Nat.le_of_ble_eq_true rfl), (Nat.le_of_ble_eq_true rfl)⟩ rfl rfl rfl rfl rfl rfl (cs' := wA a z ln F P D DQ S SP c n h g rc (sS (sA T 0 (T.1 0) cc) 0 (T.1 0 + 1)) Mt [eJ 1 1 o]) (csX := wA a z ln F P D DQ S SP c n h g rc T Mt [eJ 1 1 o]) rfl rfl (gOT (t := [eJ 1 1 o]) (O' := [wO (a 1) (a 11) (a 21) (a 31) (a 113) (a 116) (a 130) (z)]) (T' := wTx (fun k => a (116 + k)) (sS (sA T 0 (T.1 0) cc) 0 (T.1 0 + 1)) (Mt)) rfl rfl rfl rfl rfl rfl rfl rfl rfl rfl) (gOT (t := [eJ 1 1 o]) (O' := [wO (a 1) (a 11) (a 21) (a 31) (a 113) (a 116) (a 130) (z)]) (T' := wTx (fun k => a (116 + k)) (T) (Mt)) rfl rfl rfl rfl rfl rfl rfl rfl rfl rfl) (fun ge => ?_) (fun e he => ?_)
  · refine EV.eq (st' := [vi (w32 (T.1 0 + 1)), vi 0, .ref (a 131)]) (by show [vi (T.1 0 + 1), vi 0, .ref (a 131)] = _; rw [← w32_v]) ?_
    refine e_i2l dL_append_7 rfl w32_in ?_
    refine e_lastore (i := 131) (N := 1) (x := o) dL_append_8 rfl rfl wA_get (by decide) (by decide) ?_
    refine EV.ceq (cs' := wA a z ln F P D DQ S SP c n h g rc (sS (sA T 0 (T.1 0) cc) 0 (T.1 0 + 1)) Mt [eJ 1 1 (eU o 0 (w32 (T.1 0 + 1)))]) wA_set ?_
    refine e_goto (n := 18) dL_append_9 rfl ?_
    refine e_iconst dL_append_18 rfl ?_
    exact e_iret dL_append_19 rfl rfl ⟨by rw [exK_n ge], rfl, fun _ => rfl, fun q => absurd ge q⟩
  · rcases hE e he with hc | hc <;> subst hc
    · refine e_catch (name := xAr) [] _ _ rfl (fun z hz => absurd hz List.not_mem_nil) rfl (by decide) wd_2_198 (List.mem_of_getElem? (i := 1) rfl) (fun q => ?_)
      refine f_astore_n dL_append_12 rfl (Nat.le_of_ble_eq_true rfl) rfl ?_
      refine e_iconst dL_append_13 rfl ?_
      exact e_iret dL_append_14 rfl rfl ⟨by rw [exK_1 he], rfl, fun q => absurd (he.symm.trans q) (by simp), fun _ => rfl⟩
    · refine e_catch (name := xSt) [_] _ _ rfl (fun z hz => Or.inr (by rw [List.mem_singleton.mp hz]; exact ⟨by decide, xAr, wd_2_198, List.mem_of_getElem? (i := 64) rfl⟩)) rfl (by decide) wd_2_199 (List.mem_of_getElem? (i := 2) rfl) (fun q => ?_)
      refine f_astore_n dL_append_15 rfl (Nat.le_of_ble_eq_true rfl) rfl ?_
      refine e_iconst dL_append_16 rfl ?_
      exact e_iret dL_append_17 rfl rfl ⟨by rw [exK_2 he (by decide)], rfl, fun q => absurd (he.symm.trans q) (by simp), fun _ => rfl⟩
theorem C_L_undo {X : eXT} {a : Nat → Nat} {z : Nat → Int} {ln : Int → Int} {F : eFs} {P : Int → Int} {D : eFs} {DQ : Int → Int} {S : eFs} {SP : Int → Int} {c n : Int} {h : eHs} {g rc : Int → Int} {T : eFs} {Mt : Int → Int → Int} {o : Int → Int}  (hcc : 0 ≤ c ∧ c ≤ 8) (hnn : 0 ≤ n ∧ n ≤ 7) :
    EM X mL_undo (eRt 10 2) a [.ref (a 0), .ref (a 131)] (wA a z ln F P D DQ S SP c n h g rc T Mt [eJ 1 1 o]) (eRets (some (vi (exK ((if 1 ≤ c then none else some xSt)) xSt "" ""))) a (fun cs1 => ((if 1 ≤ c then none else some xSt) = none → cs1 = wA a z ln ((h (if 0 < n then n - 1 else 7).toNat).1) P D DQ S SP (c - 1) (if 0 < n then n - 1 else 7) h g rc T Mt [eJ 1 1 (eU o 0 (w32 (c - 1)))]) ∧ (¬ (if 1 ≤ c then none else some xSt) = none → cs1 = wA a z ln F P D DQ S SP c n h g rc T Mt [eJ 1 1 o]))) := by
  have hE : ∀ e, (if 1 ≤ c then none else some xSt) = some e → e = xSt := by
    intro e he
    (repeat' split at he) <;> first | (cases he; done) | (injection he with he; subst he; first | exact rfl | exact Or.inl rfl | exact Or.inr rfl | exact Or.inr (Or.inl rfl) | exact Or.inr (Or.inr rfl))
  refine EM.of (by decide +kernel) rfl (Nat.le_of_ble_eq_true rfl) ?_
  refine e_aload_n dL_undo_0 rfl rfl ?_
  refine e_iconst dL_undo_1 rfl ?_
  refine e_aload_n dL_undo_2 rfl rfl ?_
  refine e_cVo (b' := (1, 6)) [0, 1, 2, 3, 4, 5, 6, 7, 8, 9, 10, 31, 32, 33, 34, 35, 36, 37, 38, 39, 40, 41, 42, 43, 44, 45, 46, 47, 48, 49, 50, 51, 52, 53, 54, 55, 56, 57, 58, 59, 60, 61, 62, 63, 64, 65, 66, 67, 68, 69, 70, 71, 72, 73, 74, 75, 76, 77, 78, 79, 80, 81, 82, 83, 84, 85, 86, 87, 88, 89, 90, 91, 92, 93, 94, 95, 96, 97, 98, 99, 100, 101, 102, 103, 104, 105, 106, 107, 108, 109, 110, 111, 112] lk_L_138 rfl dL_undo_3 rfl (C_X6_undo (z := z) (F := F) (P := P) (c := c) (n := n) (h := h) hcc hnn) rfl rfl (Nat.le_of_ble_eq_true rfl) (Nat.le_of_ble_eq_true rfl) (Nat.le_of_ble_eq_true rfl) ⟨(Nat.le_of_ble_eq_true rfl), (Nat.le_of_ble_eq_true rfl)⟩ rfl rfl rfl rfl rfl rfl (cs' := wA a z ln ((h (if 0 < n then n - 1 else 7).toNat).1) P D DQ S SP (c - 1) (if 0 < n then n - 1 else 7) h g rc T Mt [eJ 1 1 o]) (csX := wA a z ln F P D DQ S SP c n h g rc T Mt [eJ 1 1 o]) rfl rfl (gOFH (t := [eJ 1 1 o]) (O' := [wO (a 1) (a 11) (a 21) (a 31) (a 113) (a 116) (a 130) (z)]) (F' := wFl (fun k => a (1 + k)) ((h (if 0 < n then n - 1 else 7).toNat).1) (P)) (H' := wHi (fun k => a (31 + k)) (c - 1) (if 0 < n then n - 1 else 7) (h)) rfl rfl rfl rfl rfl rfl rfl rfl rfl rfl rfl) (gOFH (t := [eJ 1 1 o]) (O' := [wO (a 1) (a 11) (a 21) (a 31) (a 113) (a 116) (a 130) (z)]) (F' := wFl (fun k => a (1 + k)) (F) (P)) (H' := wHi (fun k => a (31 + k)) (c) (n) (h)) rfl rfl rfl rfl rfl rfl rfl rfl rfl rfl rfl) (fun ge => ?_) (fun e he => ?_)
  · refine EV.eq (st' := [vi (w32 (c - 1)), vi 0, .ref (a 131)]) (by show [vi (c - 1), vi 0, .ref (a 131)] = _; rw [← w32_v]) ?_
    refine e_i2l dL_undo_6 rfl w32_in ?_
    refine e_lastore (i := 131) (N := 1) (x := o) dL_undo_7 rfl rfl wA_get (by decide) (by decide) ?_
    refine EV.ceq (cs' := wA a z ln ((h (if 0 < n then n - 1 else 7).toNat).1) P D DQ S SP (c - 1) (if 0 < n then n - 1 else 7) h g rc T Mt [eJ 1 1 (eU o 0 (w32 (c - 1)))]) wA_set ?_
    refine e_goto (n := 14) dL_undo_8 rfl ?_
    refine e_iconst dL_undo_14 rfl ?_
    exact e_iret dL_undo_15 rfl rfl ⟨by rw [exK_n ge], rfl, fun _ => rfl, fun q => absurd ge q⟩
  · have hc := hE e he
    subst hc
    refine e_catch (name := xSt) [] _ _ rfl (fun z hz => absurd hz List.not_mem_nil) rfl (by decide) wd_2_199 (List.mem_of_getElem? (i := 2) rfl) (fun q => ?_)
    refine f_astore_n dL_undo_11 rfl (Nat.le_of_ble_eq_true rfl) rfl ?_
    refine e_iconst dL_undo_12 rfl ?_
    exact e_iret dL_undo_13 rfl rfl ⟨by rw [exK_1 he], rfl, fun q => absurd (he.symm.trans q) (by simp), fun _ => rfl⟩
theorem C_L_restore {X : eXT} {a : Nat → Nat} {z : Nat → Int} {ln : Int → Int} {F : eFs} {P : Int → Int} {D : eFs} {DQ : Int → Int} {S : eFs} {SP : Int → Int} {c n : Int} {h : eHs} {g rc : Int → Int} {T : eFs} {Mt : Int → Int → Int} {o : Int → Int}   :
    EM X mL_restore (eRt 10 2) a [.ref (a 0), .ref (a 131)] (wA a z ln F P D DQ S SP c n h g rc T Mt [eJ 1 1 o]) (eRets (some (vi (exK ((if z 5 = 1 then none else some xSt)) xSt "" ""))) a (fun cs1 => ((if z 5 = 1 then none else some xSt) = none → cs1 = wA a z ln (S) P D DQ S SP (0) (0) h g rc T Mt [eJ 1 1 (eU o 0 (w32 (S.1 0)))]) ∧ (¬ (if z 5 = 1 then none else some xSt) = none → cs1 = wA a z ln F P D DQ S SP c n h g rc T Mt [eJ 1 1 o]))) := by
  have hE : ∀ e, (if z 5 = 1 then none else some xSt) = some e → e = xSt := by
    intro e he
    (repeat' split at he) <;> first | (cases he; done) | (injection he with he; subst he; first | exact rfl | exact Or.inl rfl | exact Or.inr rfl | exact Or.inr (Or.inl rfl) | exact Or.inr (Or.inr rfl))
  refine EM.of (by decide +kernel) rfl (Nat.le_of_ble_eq_true rfl) ?_
  refine e_aload_n dL_restore_0 rfl rfl ?_
  refine e_iconst dL_restore_1 rfl ?_
  refine e_aload_n dL_restore_2 rfl rfl ?_
  refine e_cVo (b' := (1, 6)) [0, 31, 1, 2, 3, 4, 5, 6, 7, 8, 9, 10, 21, 22, 23, 24, 25, 26, 27, 28, 29, 30] lk_L_141 rfl dL_restore_3 rfl (C_X6_restore (z := z) (F := F) (P := P) (F2 := S) (P2 := SP) (c := c) (n := n)) rfl rfl (Nat.le_of_ble_eq_true rfl) (Nat.le_of_ble_eq_true rfl) (Nat.le_of_ble_eq_true rfl) ⟨(Nat.le_of_ble_eq_true rfl), (Nat.le_of_ble_eq_true rfl)⟩ rfl rfl rfl rfl rfl rfl (cs' := wA a z ln (S) P D DQ S SP (0) (0) h g rc T Mt [eJ 1 1 o]) (csX := wA a z ln F P D DQ S SP c n h g rc T Mt [eJ 1 1 o]) rfl rfl (gOhFS (t := [eJ 1 1 o]) (H0 := [.inr (4, [.ref (a 32), vi c, vi n])]) (H1 := (wHi (fun k => a (31 + k)) c n h).tail) (O' := [wO (a 1) (a 11) (a 21) (a 31) (a 113) (a 116) (a 130) (z)]) (H0' := [.inr (4, [.ref (a 32), vi (0), vi (0)])]) (F' := wFl (fun k => a (1 + k)) (S) (P)) (S' := wFl (fun k => a (21 + k)) (S) (SP)) rfl rfl rfl rfl rfl rfl rfl rfl rfl rfl rfl rfl rfl) (gOhFS (t := [eJ 1 1 o]) (H0 := [.inr (4, [.ref (a 32), vi c, vi n])]) (H1 := (wHi (fun k => a (31 + k)) c n h).tail) (O' := [wO (a 1) (a 11) (a 21) (a 31) (a 113) (a 116) (a 130) (z)]) (H0' := [.inr (4, [.ref (a 32), vi (c), vi (n)])]) (F' := wFl (fun k => a (1 + k)) (F) (P)) (S' := wFl (fun k => a (21 + k)) (S) (SP)) rfl rfl rfl rfl rfl rfl rfl rfl rfl rfl rfl rfl rfl) (fun ge => ?_) (fun e he => ?_)
  · refine EV.eq (st' := [vi (w32 (S.1 0)), vi 0, .ref (a 131)]) (by show [vi (S.1 0), vi 0, .ref (a 131)] = _; rw [← w32_v]) ?_
    refine e_i2l dL_restore_6 rfl w32_in ?_
    refine e_lastore (i := 131) (N := 1) (x := o) dL_restore_7 rfl rfl wA_get (by decide) (by decide) ?_
    refine EV.ceq (cs' := wA a z ln (S) P D DQ S SP (0) (0) h g rc T Mt [eJ 1 1 (eU o 0 (w32 (S.1 0)))]) wA_set ?_
    refine e_goto (n := 14) dL_restore_8 rfl ?_
    refine e_iconst dL_restore_14 rfl ?_
    exact e_iret dL_restore_15 rfl rfl ⟨by rw [exK_n ge], rfl, fun _ => rfl, fun q => absurd ge q⟩
  · have hc := hE e he
    subst hc
    refine e_catch (name := xSt) [] _ _ rfl (fun z hz => absurd hz List.not_mem_nil) rfl (by decide) wd_2_199 (List.mem_of_getElem? (i := 2) rfl) (fun q => ?_)
    refine f_astore_n dL_restore_11 rfl (Nat.le_of_ble_eq_true rfl) rfl ?_
    refine e_iconst dL_restore_12 rfl ?_
    exact e_iret dL_restore_13 rfl rfl ⟨by rw [exK_1 he], rfl, fun q => absurd (he.symm.trans q) (by simp), fun _ => rfl⟩
theorem C_L_stepsToTarget {X : eXT} {a : Nat → Nat} {z : Nat → Int} {ln : Int → Int} {F : eFs} {P : Int → Int} {D : eFs} {DQ : Int → Int} {S : eFs} {SP : Int → Int} {c n : Int} {h : eHs} {g rc : Int → Int} {T : eFs} {Mt : Int → Int → Int} {o : Int → Int} {N : Int} (hF : okF N F) (hNs : N + 40000 ≤ 100000000) :
    EM X mL_stepsToTarget (eRt 10 2) a [.ref (a 0), .ref (a 131)] (wA a z ln F P D DQ S SP c n h g rc T Mt [eJ 1 1 o]) (eRets (some (vi (exK ((if ¬ F.1 4 = -1 then (if sHit (sTT F DQ).2.1 then none else some xNo) else some xNo)) xNo "" ""))) a (fun cs1 => ((if ¬ F.1 4 = -1 then (if sHit (sTT F DQ).2.1 then none else some xNo) else some xNo) = none → cs1 = wA a z ln F P ((sTT F DQ).2.1) ((sTT F DQ).2.2) S SP c n h g rc T Mt [eJ 1 1 (eU o 0 (w32 ((sTT F DQ).1)))]) ∧ (¬ (if ¬ F.1 4 = -1 then (if sHit (sTT F DQ).2.1 then none else some xNo) else some xNo) = none → cs1 = wA a z ln F P (if ¬ F.1 4 = -1 then (sTT F DQ).2.1 else D) (if ¬ F.1 4 = -1 then (sTT F DQ).2.2 else DQ) S SP c n h g rc T Mt [eJ 1 1 o]))) := by
  have hE : ∀ e, (if ¬ F.1 4 = -1 then (if sHit (sTT F DQ).2.1 then none else some xNo) else some xNo) = some e → e = xNo := by
    intro e he
    (repeat' split at he) <;> first | (cases he; done) | (injection he with he; subst he; first | exact rfl | exact Or.inl rfl | exact Or.inr rfl | exact Or.inr (Or.inl rfl) | exact Or.inr (Or.inr rfl))
  refine EM.of (by decide +kernel) rfl (Nat.le_of_ble_eq_true rfl) ?_
  refine e_aload_n dL_stepsToTarget_0 rfl rfl ?_
  refine e_iconst dL_stepsToTarget_1 rfl ?_
  refine e_aload_n dL_stepsToTarget_2 rfl rfl ?_
  refine e_cVo (b' := (0, 0)) [0, 1, 2, 3, 4, 5, 6, 7, 8, 9, 10, 11, 12, 13, 14, 15, 16, 17, 18, 19, 20] lk_L_87 rfl dL_stepsToTarget_3 rfl (C_X6_stepsToTarget (z := z) (F := F) (P := P) (F2 := D) (P2 := DQ) hF hNs) rfl rfl (Nat.le_of_ble_eq_true rfl) (Nat.le_of_ble_eq_true rfl) (Nat.le_of_ble_eq_true rfl) ⟨(Nat.le_of_ble_eq_true rfl), (Nat.le_of_ble_eq_true rfl)⟩ rfl rfl rfl rfl rfl rfl (cs' := wA a z ln F P ((sTT F DQ).2.1) ((sTT F DQ).2.2) S SP c n h g rc T Mt [eJ 1 1 o]) (csX := wA a z ln F P (if ¬ F.1 4 = -1 then (sTT F DQ).2.1 else D) (if ¬ F.1 4 = -1 then (sTT F DQ).2.2 else DQ) S SP c n h g rc T Mt [eJ 1 1 o]) rfl rfl (gOFD (t := [eJ 1 1 o]) (O' := [wO (a 1) (a 11) (a 21) (a 31) (a 113) (a 116) (a 130) (z)]) (F' := wFl (fun k => a (1 + k)) (F) (P)) (D' := wFl (fun k => a (11 + k)) ((sTT F DQ).2.1) ((sTT F DQ).2.2)) rfl rfl rfl rfl rfl rfl rfl rfl rfl rfl rfl) (by by_cases q : ¬ F.1 4 = -1; rw [if_pos q, if_pos q, if_pos q]; exact (gOFD (t := [eJ 1 1 o]) (O' := [wO (a 1) (a 11) (a 21) (a 31) (a 113) (a 116) (a 130) (z)]) (F' := wFl (fun k => a (1 + k)) (F) (P)) (D' := wFl (fun k => a (11 + k)) ((sTT F DQ).2.1) ((sTT F DQ).2.2)) rfl rfl rfl rfl rfl rfl rfl rfl rfl rfl rfl); rw [if_neg q, if_neg q, if_neg q]; exact (gOFD (t := [eJ 1 1 o]) (O' := [wO (a 1) (a 11) (a 21) (a 31) (a 113) (a 116) (a 130) (z)]) (F' := wFl (fun k => a (1 + k)) (F) (P)) (D' := wFl (fun k => a (11 + k)) (D) (DQ)) rfl rfl rfl rfl rfl rfl rfl rfl rfl rfl rfl)) (fun ge => ?_) (fun e he => ?_)
  · refine EV.eq (st' := [vi (w32 ((sTT F DQ).1)), vi 0, .ref (a 131)]) (by show [vi ((sTT F DQ).1), vi 0, .ref (a 131)] = _; rw [← w32_v]) ?_
    refine e_i2l dL_stepsToTarget_6 rfl w32_in ?_
    refine e_lastore (i := 131) (N := 1) (x := o) dL_stepsToTarget_7 rfl rfl wA_get (by decide) (by decide) ?_
    refine EV.ceq (cs' := wA a z ln F P ((sTT F DQ).2.1) ((sTT F DQ).2.2) S SP c n h g rc T Mt [eJ 1 1 (eU o 0 (w32 ((sTT F DQ).1)))]) wA_set ?_
    refine e_goto (n := 14) dL_stepsToTarget_8 rfl ?_
    refine e_iconst dL_stepsToTarget_14 rfl ?_
    exact e_iret dL_stepsToTarget_15 rfl rfl ⟨by rw [exK_n ge], rfl, fun _ => rfl, fun q => absurd ge q⟩
  · have hc := hE e he
    subst hc
    refine e_catch (name := xNo) [] _ _ rfl (fun z hz => absurd hz List.not_mem_nil) rfl (by decide) wd_3_234 (List.mem_of_getElem? (i := 3) rfl) (fun q => ?_)
    refine f_astore_n dL_stepsToTarget_11 rfl (Nat.le_of_ble_eq_true rfl) rfl ?_
    refine e_iconst dL_stepsToTarget_12 rfl ?_
    exact e_iret dL_stepsToTarget_13 rfl rfl ⟨by rw [exK_1 he], rfl, fun q => absurd (he.symm.trans q) (by simp), fun _ => rfl⟩
theorem C_L_run {X : eXT} {a : Nat → Nat} {z : Nat → Int} {ln : Int → Int} {F : eFs} {P : Int → Int} {D : eFs} {DQ : Int → Int} {S : eFs} {SP : Int → Int} {c n : Int} {h : eHs} {g rc : Int → Int} {T : eFs} {Mt : Int → Int → Int} {o : Int → Int} {N : Int} (hF : okF N F) (hT : okT T Mt) (hz : okZ z) (hcc : 0 ≤ c ∧ c ≤ 8) (hnn : 0 ≤ n ∧ n ≤ 7) (hC : okC F) (hNs : N + 40000 ≤ 100000000) :
    EM X mL_run (eRt 10 2) a [.ref (a 0), .ref (a 131)] (wA a z ln F P D DQ S SP c n h g rc T Mt [eJ 1 1 o]) (eRets (some (vi (exK ((if (tPR T Mt).1 = -1 then (if (sRn ((tPR T Mt).2.2.2.1) ((tPR T Mt).2.2.2.2) ((tPR T Mt).2.1 - 0).toNat 0 F DQ).1 = -1 then none else some xSt) else some xAr)) xAr xSt ""))) a (fun cs1 => ((if (tPR T Mt).1 = -1 then (if (sRn ((tPR T Mt).2.2.2.1) ((tPR T Mt).2.2.2.2) ((tPR T Mt).2.1 - 0).toNat 0 F DQ).1 = -1 then none else some xSt) else some xAr) = none → cs1 = wA a z ln ((sRn ((tPR T Mt).2.2.2.1) ((tPR T Mt).2.2.2.2) ((tPR T Mt).2.1 - 0).toNat 0 F DQ).2.1) P ((sRn ((tPR T Mt).2.2.2.1) ((tPR T Mt).2.2.2.2) ((tPR T Mt).2.1 - 0).toNat 0 F DQ).2.1) ((sRn ((tPR T Mt).2.2.2.1) ((tPR T Mt).2.2.2.2) ((tPR T Mt).2.1 - 0).toNat 0 F DQ).2.2) S SP (if 8 < c + 1 then 8 else c + 1) (if n + 1 < 8 then n + 1 else 0) (hU h n.toNat F) g rc (tRun T Mt) ((tPR T Mt).2.2.2.2) [eJ 1 1 (eU o 0 (w32 ((tPR T Mt).2.1)))]) ∧ (¬ (if (tPR T Mt).1 = -1 then (if (sRn ((tPR T Mt).2.2.2.1) ((tPR T Mt).2.2.2.2) ((tPR T Mt).2.1 - 0).toNat 0 F DQ).1 = -1 then none else some xSt) else some xAr) = none → cs1 = wA a (if (tPR T Mt).1 = -1 then zS (zHi z (sRn ((tPR T Mt).2.2.2.1) ((tPR T Mt).2.2.2.2) ((tPR T Mt).2.1 - 0).toNat 0 F DQ).2.1 ((tPR T Mt).2.2.2.1 (sRn ((tPR T Mt).2.2.2.1) ((tPR T Mt).2.2.2.2) ((tPR T Mt).2.1 - 0).toNat 0 F DQ).1) ((tPR T Mt).2.2.2.2 (sRn ((tPR T Mt).2.2.2.1) ((tPR T Mt).2.2.2.2) ((tPR T Mt).2.1 - 0).toNat 0 F DQ).1 0) ((tPR T Mt).2.2.2.2 (sRn ((tPR T Mt).2.2.2.1) ((tPR T Mt).2.2.2.2) ((tPR T Mt).2.1 - 0).toNat 0 F DQ).1 1) ((tPR T Mt).2.2.2.2 (sRn ((tPR T Mt).2.2.2.1) ((tPR T Mt).2.2.2.2) ((tPR T Mt).2.1 - 0).toNat 0 F DQ).1 2)) 1 (sRn ((tPR T Mt).2.2.2.1) ((tPR T Mt).2.2.2.2) ((tPR T Mt).2.1 - 0).toNat 0 F DQ).1 else zS z 0 (tPR T Mt).1) ln F P (if (tPR T Mt).1 = -1 then (sRn ((tPR T Mt).2.2.2.1) ((tPR T Mt).2.2.2.2) ((tPR T Mt).2.1 - 0).toNat 0 F DQ).2.1 else D) (if (tPR T Mt).1 = -1 then (sRn ((tPR T Mt).2.2.2.1) ((tPR T Mt).2.2.2.2) ((tPR T Mt).2.1 - 0).toNat 0 F DQ).2.2 else DQ) S SP c n h g rc (tRun T Mt) ((tPR T Mt).2.2.2.2) [eJ 1 1 o]))) := by
  have hE : ∀ e, (if (tPR T Mt).1 = -1 then (if (sRn ((tPR T Mt).2.2.2.1) ((tPR T Mt).2.2.2.2) ((tPR T Mt).2.1 - 0).toNat 0 F DQ).1 = -1 then none else some xSt) else some xAr) = some e → e = xAr ∨ e = xSt := by
    intro e he
    (repeat' split at he) <;> first | (cases he; done) | (injection he with he; subst he; first | exact rfl | exact Or.inl rfl | exact Or.inr rfl | exact Or.inr (Or.inl rfl) | exact Or.inr (Or.inr rfl))
  refine EM.of (by decide +kernel) rfl (Nat.le_of_ble_eq_true rfl) ?_
  refine e_aload_n dL_run_0 rfl rfl ?_
  refine e_iconst dL_run_1 rfl ?_
  refine e_aload_n dL_run_2 rfl rfl ?_
  refine e_cVo (b' := (1, 6)) [0, 116, 117, 118, 119, 120, 121, 122, 123, 124, 125, 126, 127, 128, 129, 11, 12, 13, 14, 15, 16, 17, 18, 19, 20, 31, 32, 33, 34, 35, 36, 37, 38, 39, 40, 41, 42, 43, 44, 45, 46, 47, 48, 49, 50, 51, 52, 53, 54, 55, 56, 57, 58, 59, 60, 61, 62, 63, 64, 65, 66, 67, 68, 69, 70, 71, 72, 73, 74, 75, 76, 77, 78, 79, 80, 81, 82, 83, 84, 85, 86, 87, 88, 89, 90, 91, 92, 93, 94, 95, 96, 97, 98, 99, 100, 101, 102, 103, 104, 105, 106, 107, 108, 109, 110, 111, 112, 1, 2, 3, 4, 5, 6, 7, 8, 9, 10] lk_L_112 rfl dL_run_3 rfl (C_X6_run (z := z) (T := T) (M := Mt) (D := D) (DQ := DQ) (c := c) (n := n) (h := h) (F := F) (P := P) hT hz hcc hnn hF hC hNs) rfl rfl (Nat.le_of_ble_eq_true rfl) (Nat.le_of_ble_eq_true rfl) (Nat.le_of_ble_eq_true rfl) ⟨(Nat.le_of_ble_eq_true rfl), (Nat.le_of_ble_eq_true rfl)⟩ rfl rfl rfl rfl rfl rfl (cs' := wA a z ln ((sRn ((tPR T Mt).2.2.2.1) ((tPR T Mt).2.2.2.2) ((tPR T Mt).2.1 - 0).toNat 0 F DQ).2.1) P ((sRn ((tPR T Mt).2.2.2.1) ((tPR T Mt).2.2.2.2) ((tPR T Mt).2.1 - 0).toNat 0 F DQ).2.1) ((sRn ((tPR T Mt).2.2.2.1) ((tPR T Mt).2.2.2.2) ((tPR T Mt).2.1 - 0).toNat 0 F DQ).2.2) S SP (if 8 < c + 1 then 8 else c + 1) (if n + 1 < 8 then n + 1 else 0) (hU h n.toNat F) g rc (tRun T Mt) ((tPR T Mt).2.2.2.2) [eJ 1 1 o]) (csX := wA a (if (tPR T Mt).1 = -1 then zS (zHi z (sRn ((tPR T Mt).2.2.2.1) ((tPR T Mt).2.2.2.2) ((tPR T Mt).2.1 - 0).toNat 0 F DQ).2.1 ((tPR T Mt).2.2.2.1 (sRn ((tPR T Mt).2.2.2.1) ((tPR T Mt).2.2.2.2) ((tPR T Mt).2.1 - 0).toNat 0 F DQ).1) ((tPR T Mt).2.2.2.2 (sRn ((tPR T Mt).2.2.2.1) ((tPR T Mt).2.2.2.2) ((tPR T Mt).2.1 - 0).toNat 0 F DQ).1 0) ((tPR T Mt).2.2.2.2 (sRn ((tPR T Mt).2.2.2.1) ((tPR T Mt).2.2.2.2) ((tPR T Mt).2.1 - 0).toNat 0 F DQ).1 1) ((tPR T Mt).2.2.2.2 (sRn ((tPR T Mt).2.2.2.1) ((tPR T Mt).2.2.2.2) ((tPR T Mt).2.1 - 0).toNat 0 F DQ).1 2)) 1 (sRn ((tPR T Mt).2.2.2.1) ((tPR T Mt).2.2.2.2) ((tPR T Mt).2.1 - 0).toNat 0 F DQ).1 else zS z 0 (tPR T Mt).1) ln F P (if (tPR T Mt).1 = -1 then (sRn ((tPR T Mt).2.2.2.1) ((tPR T Mt).2.2.2.2) ((tPR T Mt).2.1 - 0).toNat 0 F DQ).2.1 else D) (if (tPR T Mt).1 = -1 then (sRn ((tPR T Mt).2.2.2.1) ((tPR T Mt).2.2.2.2) ((tPR T Mt).2.1 - 0).toNat 0 F DQ).2.2 else DQ) S SP c n h g rc (tRun T Mt) ((tPR T Mt).2.2.2.2) [eJ 1 1 o]) rfl rfl (gOTDHF (t := [eJ 1 1 o]) (O' := [wO (a 1) (a 11) (a 21) (a 31) (a 113) (a 116) (a 130) (z)]) (T' := wTx (fun k => a (116 + k)) (tRun T Mt) ((tPR T Mt).2.2.2.2)) (D' := wFl (fun k => a (11 + k)) ((sRn ((tPR T Mt).2.2.2.1) ((tPR T Mt).2.2.2.2) ((tPR T Mt).2.1 - 0).toNat 0 F DQ).2.1) ((sRn ((tPR T Mt).2.2.2.1) ((tPR T Mt).2.2.2.2) ((tPR T Mt).2.1 - 0).toNat 0 F DQ).2.2)) (H' := wHi (fun k => a (31 + k)) (if 8 < c + 1 then 8 else c + 1) (if n + 1 < 8 then n + 1 else 0) (hU h n.toNat F)) (F' := wFl (fun k => a (1 + k)) ((sRn ((tPR T Mt).2.2.2.1) ((tPR T Mt).2.2.2.2) ((tPR T Mt).2.1 - 0).toNat 0 F DQ).2.1) (P)) rfl rfl rfl rfl rfl rfl rfl rfl rfl rfl rfl rfl rfl) (by by_cases q : (tPR T Mt).1 = -1; rw [if_pos q, if_pos q, if_pos q, if_pos q]; exact (gOTDHF (t := [eJ 1 1 o]) (O' := [wO (a 1) (a 11) (a 21) (a 31) (a 113) (a 116) (a 130) (zS (zHi z (sRn ((tPR T Mt).2.2.2.1) ((tPR T Mt).2.2.2.2) ((tPR T Mt).2.1 - 0).toNat 0 F DQ).2.1 ((tPR T Mt).2.2.2.1 (sRn ((tPR T Mt).2.2.2.1) ((tPR T Mt).2.2.2.2) ((tPR T Mt).2.1 - 0).toNat 0 F DQ).1) ((tPR T Mt).2.2.2.2 (sRn ((tPR T Mt).2.2.2.1) ((tPR T Mt).2.2.2.2) ((tPR T Mt).2.1 - 0).toNat 0 F DQ).1 0) ((tPR T Mt).2.2.2.2 (sRn ((tPR T Mt).2.2.2.1) ((tPR T Mt).2.2.2.2) ((tPR T Mt).2.1 - 0).toNat 0 F DQ).1 1) ((tPR T Mt).2.2.2.2 (sRn ((tPR T Mt).2.2.2.1) ((tPR T Mt).2.2.2.2) ((tPR T Mt).2.1 - 0).toNat 0 F DQ).1 2)) 1 (sRn ((tPR T Mt).2.2.2.1) ((tPR T Mt).2.2.2.2) ((tPR T Mt).2.1 - 0).toNat 0 F DQ).1)]) (T' := wTx (fun k => a (116 + k)) (tRun T Mt) ((tPR T Mt).2.2.2.2)) (D' := wFl (fun k => a (11 + k)) ((sRn ((tPR T Mt).2.2.2.1) ((tPR T Mt).2.2.2.2) ((tPR T Mt).2.1 - 0).toNat 0 F DQ).2.1) ((sRn ((tPR T Mt).2.2.2.1) ((tPR T Mt).2.2.2.2) ((tPR T Mt).2.1 - 0).toNat 0 F DQ).2.2)) (H' := wHi (fun k => a (31 + k)) (c) (n) (h)) (F' := wFl (fun k => a (1 + k)) (F) (P)) rfl rfl rfl rfl rfl rfl rfl rfl rfl rfl rfl rfl rfl); rw [if_neg q, if_neg q, if_neg q, if_neg q]; exact (gOTDHF (t := [eJ 1 1 o]) (O' := [wO (a 1) (a 11) (a 21) (a 31) (a 113) (a 116) (a 130) (zS z 0 (tPR T Mt).1)]) (T' := wTx (fun k => a (116 + k)) (tRun T Mt) ((tPR T Mt).2.2.2.2)) (D' := wFl (fun k => a (11 + k)) (D) (DQ)) (H' := wHi (fun k => a (31 + k)) (c) (n) (h)) (F' := wFl (fun k => a (1 + k)) (F) (P)) rfl rfl rfl rfl rfl rfl rfl rfl rfl rfl rfl rfl rfl)) (fun ge => ?_) (fun e he => ?_)
  · refine EV.eq (st' := [vi (w32 ((tPR T Mt).2.1)), vi 0, .ref (a 131)]) (by show [vi ((tPR T Mt).2.1), vi 0, .ref (a 131)] = _; rw [← w32_v]) ?_
    refine e_i2l dL_run_6 rfl w32_in ?_
    refine e_lastore (i := 131) (N := 1) (x := o) dL_run_7 rfl rfl wA_get (by decide) (by decide) ?_
    refine EV.ceq (cs' := wA a z ln ((sRn ((tPR T Mt).2.2.2.1) ((tPR T Mt).2.2.2.2) ((tPR T Mt).2.1 - 0).toNat 0 F DQ).2.1) P ((sRn ((tPR T Mt).2.2.2.1) ((tPR T Mt).2.2.2.2) ((tPR T Mt).2.1 - 0).toNat 0 F DQ).2.1) ((sRn ((tPR T Mt).2.2.2.1) ((tPR T Mt).2.2.2.2) ((tPR T Mt).2.1 - 0).toNat 0 F DQ).2.2) S SP (if 8 < c + 1 then 8 else c + 1) (if n + 1 < 8 then n + 1 else 0) (hU h n.toNat F) g rc (tRun T Mt) ((tPR T Mt).2.2.2.2) [eJ 1 1 (eU o 0 (w32 ((tPR T Mt).2.1)))]) wA_set ?_
    refine e_goto (n := 17) dL_run_8 rfl ?_
    refine e_iconst dL_run_17 rfl ?_
    exact e_iret dL_run_18 rfl rfl ⟨by rw [exK_n ge], rfl, fun _ => rfl, fun q => absurd ge q⟩
  · rcases hE e he with hc | hc <;> subst hc
    · refine e_catch (name := xAr) [] _ _ rfl (fun z hz => absurd hz List.not_mem_nil) rfl (by decide) wd_2_198 (List.mem_of_getElem? (i := 1) rfl) (fun q => ?_)
      refine f_astore_n dL_run_11 rfl (Nat.le_of_ble_eq_true rfl) rfl ?_
      refine e_iconst dL_run_12 rfl ?_
      exact e_iret dL_run_13 rfl rfl ⟨by rw [exK_1 he], rfl, fun q => absurd (he.symm.trans q) (by simp), fun _ => rfl⟩
    · refine e_catch (name := xSt) [_] _ _ rfl (fun z hz => Or.inr (by rw [List.mem_singleton.mp hz]; exact ⟨by decide, xAr, wd_2_198, List.mem_of_getElem? (i := 64) rfl⟩)) rfl (by decide) wd_2_199 (List.mem_of_getElem? (i := 2) rfl) (fun q => ?_)
      refine f_astore_n dL_run_14 rfl (Nat.le_of_ble_eq_true rfl) rfl ?_
      refine e_iconst dL_run_15 rfl ?_
      exact e_iret dL_run_16 rfl rfl ⟨by rw [exK_2 he (by decide)], rfl, fun q => absurd (he.symm.trans q) (by simp), fun _ => rfl⟩
theorem C_L_formationOf {X : eXT} {a : Nat → Nat} {z : Nat → Int} {ln : Int → Int} {F : eFs} {P : Int → Int} {D : eFs} {DQ : Int → Int} {S : eFs} {SP : Int → Int} {c n : Int} {h : eHs} {g rc : Int → Int} {T : eFs} {Mt : Int → Int → Int} {o : Int → Int} {N : Int} (hF : okF N F) (hg : okG g) (hr : ∀ j, 0 ≤ rc j ∧ rc j ≤ 9) {b : Int} (gb : -2147483648 ≤ b ∧ b ≤ 2147483647) :
    EM X mL_formationOf (eRt 10 2) a [.ref (a 0), vi b, .ref (a 131)] (wA a z ln F P D DQ S SP c n h g rc T Mt [eJ 1 1 o]) (eRets (some (vi (exK (if sHas F b then none else some xIx) xIx "" ""))) a (fun cs1 => ∃ g1 rc1 : Int → Int, (∀ j, 0 ≤ rc1 j ∧ rc1 j ≤ 9) ∧ okG g1 ∧ ((if sHas F b then none else some xIx) = none → cs1 = wA a z ln F P D DQ S SP c n h g1 rc1 T Mt [eJ 1 1 (eU o 0 (w32 (sGr F b)))]) ∧ (¬ (if sHas F b then none else some xIx) = none → cs1 = wA a z ln F P D DQ S SP c n h g1 rc1 T Mt [eJ 1 1 o]))) := by
  have hE : ∀ e, (if sHas F b then none else some xIx) = some e → e = xIx := by
    intro e he
    split at he
    · cases he
    · injection he with he; exact he.symm
  refine EM.of (by decide +kernel) rfl (Nat.le_of_ble_eq_true rfl) ?_
  refine e_aload_n dL_formationOf_0 rfl rfl ?_
  refine e_iconst dL_formationOf_1 rfl ?_
  refine e_aload_n dL_formationOf_2 rfl rfl ?_
  refine e_iload_n dL_formationOf_3 rfl rfl ?_
  refine e_cV (b' := (1, 6)) [0, 1, 2, 3, 4, 5, 6, 7, 8, 9, 10, 113, 114, 115] lk_L_99 rfl dL_formationOf_4 rfl (C_X6_formationOf (z := z) (F := F) (P := P) (g := g) (rc := rc) hF hg hr (by omega)) rfl rfl (Nat.le_of_ble_eq_true rfl) (Nat.le_of_ble_eq_true rfl) (Nat.le_of_ble_eq_true rfl) ⟨(Nat.le_of_ble_eq_true rfl), (Nat.le_of_ble_eq_true rfl)⟩ rfl rfl rfl rfl rfl rfl (fun o1 a1 cs1 hq => ?_) (fun w cs1 hq => ?_) (fun e cs1 hq => ?_)
  · obtain ⟨h1, ⟨g1, rc1, h2, -, -⟩, -⟩ := hq
    exact ⟨h1, by rw [h2]; rfl⟩
  · obtain ⟨-, ⟨g1, rc1, h2, h3, h4⟩, h5⟩ := hq
    by_cases ge : (if sHas F b then none else some xIx) = none
    · rw [ge] at h5
      cases h5
      subst h2
      refine EV.ceq (cs' := wA a z ln F P D DQ S SP c n h g1 rc1 T Mt [eJ 1 1 o]) (gOFG (t := [eJ 1 1 o]) (O' := [wO (a 1) (a 11) (a 21) (a 31) (a 113) (a 116) (a 130) (z)]) (F' := wFl (fun k => a (1 + k)) (F) (P)) (G' := [.inr (3, [.ref (a 114), .ref (a 115)]), eI 0 10 g1, eI 0 10 rc1]) rfl rfl rfl rfl rfl rfl rfl rfl rfl rfl rfl) ?_
      refine EV.eq (st' := [vi (w32 (sGr F b)), vi 0, .ref (a 131)]) (by show [vi (sGr F b), vi 0, .ref (a 131)] = _; rw [← w32_v]) ?_
      refine e_i2l dL_formationOf_7 rfl w32_in ?_
      refine e_lastore (i := 131) (N := 1) (x := o) dL_formationOf_8 rfl rfl wA_get (by decide) (by decide) ?_
      refine EV.ceq (cs' := wA a z ln F P D DQ S SP c n h g1 rc1 T Mt [eJ 1 1 (eU o 0 (w32 (sGr F b)))]) wA_set ?_
      refine e_goto (n := 15) dL_formationOf_9 rfl ?_
      refine e_iconst dL_formationOf_15 rfl ?_
      exact e_iret dL_formationOf_16 rfl rfl ⟨by rw [exK_n ge], rfl, g1, rc1, h3, h4, fun _ => rfl, fun q => absurd ge q⟩
    · have he : (if sHas F b then none else some xIx) = some xIx := by
        split at ge
        · exact absurd rfl ge
        · rename_i q; exact if_neg q
      rw [he] at h5
      cases h5
  · obtain ⟨-, ⟨g1, rc1, h2, h3, h4⟩, h5⟩ := hq
    by_cases ge : (if sHas F b then none else some xIx) = none
    · rw [ge] at h5
      cases h5
    · have he : (if sHas F b then none else some xIx) = some xIx := by
        split at ge
        · exact absurd rfl ge
        · rename_i q; exact if_neg q
      have hc : e = xIx := by
        rw [he] at h5
        cases h5
        rfl
      subst hc
      subst h2
      refine EX.ceq (cs' := wA a z ln F P D DQ S SP c n h g1 rc1 T Mt [eJ 1 1 o]) (gOFG (t := [eJ 1 1 o]) (O' := [wO (a 1) (a 11) (a 21) (a 31) (a 113) (a 116) (a 130) (z)]) (F' := wFl (fun k => a (1 + k)) (F) (P)) (G' := [.inr (3, [.ref (a 114), .ref (a 115)]), eI 0 10 g1, eI 0 10 rc1]) rfl rfl rfl rfl rfl rfl rfl rfl rfl rfl rfl) ?_
      refine e_catch (name := xIx) [] _ _ rfl (fun z hz => absurd hz List.not_mem_nil) rfl (by decide) wd_3_165 (List.mem_of_getElem? (i := 0) rfl) (fun q => ?_)
      refine f_astore_n dL_formationOf_12 rfl (Nat.le_of_ble_eq_true rfl) rfl ?_
      refine e_iconst dL_formationOf_13 rfl ?_
      exact e_iret dL_formationOf_14 rfl rfl ⟨by rw [exK_1 he], rfl, g1, rc1, h3, h4, fun q => absurd (he.symm.trans q) (by simp), fun _ => rfl⟩
