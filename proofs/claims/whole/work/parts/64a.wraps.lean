/-! ===== the law: its wrappers ===== -/
theorem wA_get {a : Nat → Nat} {z : Nat → Int} {ln : Int → Int} {F : eFs} {P : Int → Int} {D : eFs} {DQ : Int → Int} {S : eFs} {SP : Int → Int} {c n : Int} {h : eHs} {g rc : Int → Int} {T : eFs} {Mt : Int → Int → Int} {x : eE} : (wA a z ln F P D DQ S SP c n h g rc T Mt [x])[131]? = some x := rfl
theorem wA_set {a : Nat → Nat} {z : Nat → Int} {ln : Int → Int} {F : eFs} {P : Int → Int} {D : eFs} {DQ : Int → Int} {S : eFs} {SP : Int → Int} {c n : Int} {h : eHs} {g rc : Int → Int} {T : eFs} {Mt : Int → Int → Int} {x y : eE} : (wA a z ln F P D DQ S SP c n h g rc T Mt [x]).set 131 y = wA a z ln F P D DQ S SP c n h g rc T Mt [y] := by
  have e : ∀ t, wA a z ln F P D DQ S SP c n h g rc T Mt t = wA a z ln F P D DQ S SP c n h g rc T Mt [] ++ t := fun t => by unfold wA; simp only [List.append_assoc, List.append_nil, List.nil_append]
  rw [e [x], e [y]]
  exact out_set rfl
theorem C_L_addBasket {X : eXT} {a : Nat → Nat} {z : Nat → Int} {ln : Int → Int} {F : eFs} {P : Int → Int} {D : eFs} {DQ : Int → Int} {S : eFs} {SP : Int → Int} {c n : Int} {h : eHs} {g rc : Int → Int} {T : eFs} {Mt : Int → Int → Int} {o : Int → Int} {N : Int} (hF : okF N F) (hcc : 0 ≤ c ∧ c ≤ 8) (hnn : 0 ≤ n ∧ n ≤ 7) {x y w : Int} (gx : -2147483648 ≤ x ∧ x ≤ 2147483647) (gy : -2147483648 ≤ y ∧ y ≤ 2147483647) (gw : -2147483648 ≤ w ∧ w ≤ 2147483647) :
    EM X mL_addBasket (eRt 10 2) a [.ref (a 0), vi x, vi y, vi w, .ref (a 131)] (wA a z ln F P D DQ S SP c n h g rc T Mt [eJ 1 1 o]) (eRets (some (vi (exK (eEx (sHin F 0 x y w)) xAr xSt xUn))) a (fun cs1 => (eEx (sHin F 0 x y w) = none → cs1 = wA a z ln (sDo F 0 x y w) P D DQ S SP (if 8 < c + 1 then 8 else c + 1) (if n + 1 < 8 then n + 1 else 0) (hU h n.toNat F) g rc T Mt [eJ 1 1 (eU o 0 (w32 (sDoR F 0 x y w)))]) ∧ (¬ eEx (sHin F 0 x y w) = none → cs1 = wA a (zHi z F 0 x y w) ln F P D DQ S SP c n h g rc T Mt [eJ 1 1 o]))) := by
  have hE : ∀ e, eEx (sHin F 0 x y w) = some e → e = xAr ∨ e = xSt ∨ e = xUn := by
    intro e he
    rcases hk_0 (F := F) (p := x) (q := y) (r := w) with w | w | w | w <;> rw [w] at he
    · exact absurd (show (none : Option String) = some e from he) (by simp)
    · injection (show some xAr = some e from he) with he
      subst he
      exact Or.inl rfl
    · injection (show some xSt = some e from he) with he
      subst he
      exact Or.inr (Or.inl rfl)
    · injection (show some xUn = some e from he) with he
      subst he
      exact Or.inr (Or.inr rfl)
  refine EM.of (by decide +kernel) rfl (Nat.le_of_ble_eq_true rfl) ?_
  refine e_aload dL_addBasket_0 rfl rfl ?_
  refine e_iconst dL_addBasket_2 rfl ?_
  refine e_aload_n dL_addBasket_3 rfl rfl ?_
  refine e_iload_n dL_addBasket_4 rfl rfl ?_
  refine e_iload_n dL_addBasket_5 rfl rfl ?_
  refine e_iload_n dL_addBasket_6 rfl rfl ?_
  refine e_cVo (b' := (1, 6)) [0, 1, 2, 3, 4, 5, 6, 7, 8, 9, 10, 31, 32, 33, 34, 35, 36, 37, 38, 39, 40, 41, 42, 43, 44, 45, 46, 47, 48, 49, 50, 51, 52, 53, 54, 55, 56, 57, 58, 59, 60, 61, 62, 63, 64, 65, 66, 67, 68, 69, 70, 71, 72, 73, 74, 75, 76, 77, 78, 79, 80, 81, 82, 83, 84, 85, 86, 87, 88, 89, 90, 91, 92, 93, 94, 95, 96, 97, 98, 99, 100, 101, 102, 103, 104, 105, 106, 107, 108, 109, 110, 111, 112] lk_L_7 rfl dL_addBasket_7 rfl (C_X6_addBasket (z := z) (F := F) (P := P) (c := c) (n := n) (h := h) hF hcc hnn (by omega) (by omega) (by omega)) rfl rfl (Nat.le_of_ble_eq_true rfl) (Nat.le_of_ble_eq_true rfl) (Nat.le_of_ble_eq_true rfl) ⟨(Nat.le_of_ble_eq_true rfl), (Nat.le_of_ble_eq_true rfl)⟩ rfl rfl rfl rfl rfl rfl (cs' := wA a z ln (sDo F 0 x y w) P D DQ S SP (if 8 < c + 1 then 8 else c + 1) (if n + 1 < 8 then n + 1 else 0) (hU h n.toNat F) g rc T Mt [eJ 1 1 o]) (csX := wA a (zHi z F 0 x y w) ln F P D DQ S SP c n h g rc T Mt [eJ 1 1 o]) rfl rfl (gOFH (t := [eJ 1 1 o]) (O' := [wO (a 1) (a 11) (a 21) (a 31) (a 113) (a 116) (a 130) (z)]) (F' := wFl (fun k => a (1 + k)) (sDo F 0 x y w) (P)) (H' := wHi (fun k => a (31 + k)) (if 8 < c + 1 then 8 else c + 1) (if n + 1 < 8 then n + 1 else 0) (hU h n.toNat F)) rfl rfl rfl rfl rfl rfl rfl rfl rfl rfl rfl) (gOFH (t := [eJ 1 1 o]) (O' := [wO (a 1) (a 11) (a 21) (a 31) (a 113) (a 116) (a 130) (zHi z F 0 x y w)]) (F' := wFl (fun k => a (1 + k)) (F) (P)) (H' := wHi (fun k => a (31 + k)) (c) (n) (h)) rfl rfl rfl rfl rfl rfl rfl rfl rfl rfl rfl) (fun ge => ?_) (fun e he => ?_)
  · refine EV.eq (st' := [vi (w32 (sDoR F 0 x y w)), vi 0, .ref (a 131)]) (by show [vi (sDoR F 0 x y w), vi 0, .ref (a 131)] = _; rw [← w32_v]) ?_
    refine e_i2l dL_addBasket_10 rfl w32_in ?_
    refine e_lastore (i := 131) (N := 1) (x := o) dL_addBasket_11 rfl rfl wA_get (by decide) (by decide) ?_
    refine EV.ceq (cs' := wA a z ln (sDo F 0 x y w) P D DQ S SP (if 8 < c + 1 then 8 else c + 1) (if n + 1 < 8 then n + 1 else 0) (hU h n.toNat F) g rc T Mt [eJ 1 1 (eU o 0 (w32 (sDoR F 0 x y w)))]) wA_set ?_
    refine e_goto (n := 27) dL_addBasket_12 rfl ?_
    refine e_iconst dL_addBasket_27 rfl ?_
    exact e_iret dL_addBasket_28 rfl rfl ⟨by rw [exK_n ge], rfl, fun _ => rfl, fun q => absurd ge q⟩
  · rcases hE e he with hc | hc | hc <;> subst hc
    · refine e_catch (name := xAr) [] _ _ rfl (fun z hz => absurd hz List.not_mem_nil) rfl (by decide) wd_2_198 (List.mem_of_getElem? (i := 1) rfl) (fun q => ?_)
      refine f_astore dL_addBasket_15 rfl (Nat.le_of_ble_eq_true rfl) rfl ?_
      refine e_iconst dL_addBasket_17 rfl ?_
      exact e_iret dL_addBasket_18 rfl rfl ⟨by rw [exK_1 he], rfl, fun q => absurd (he.symm.trans q) (by simp), fun _ => rfl⟩
    · refine e_catch (name := xSt) [_] _ _ rfl (fun z hz => Or.inr (by rw [List.mem_singleton.mp hz]; exact ⟨by decide, xAr, wd_2_198, List.mem_of_getElem? (i := 64) rfl⟩)) rfl (by decide) wd_2_199 (List.mem_of_getElem? (i := 2) rfl) (fun q => ?_)
      refine f_astore dL_addBasket_19 rfl (Nat.le_of_ble_eq_true rfl) rfl ?_
      refine e_iconst dL_addBasket_21 rfl ?_
      exact e_iret dL_addBasket_22 rfl rfl ⟨by rw [exK_2 he (by decide)], rfl, fun q => absurd (he.symm.trans q) (by simp), fun _ => rfl⟩
    · refine e_catch (name := xUn) [_, _] _ _ rfl (fun z hz => Or.inr (by rcases List.mem_cons.mp hz with e1 | e1; rw [e1]; exact ⟨by decide, xAr, wd_2_198, List.mem_of_getElem? (i := 74) rfl⟩; rw [List.mem_singleton.mp e1]; exact ⟨by decide, xSt, wd_2_199, List.mem_of_getElem? (i := 75) rfl⟩)) rfl (by decide) wd_2_200 (List.mem_of_getElem? (i := 4) rfl) (fun q => ?_)
      refine f_astore dL_addBasket_23 rfl (Nat.le_of_ble_eq_true rfl) rfl ?_
      refine e_iconst dL_addBasket_25 rfl ?_
      exact e_iret dL_addBasket_26 rfl rfl ⟨by rw [exK_3 he (by decide) (by decide)], rfl, fun q => absurd (he.symm.trans q) (by simp), fun _ => rfl⟩
