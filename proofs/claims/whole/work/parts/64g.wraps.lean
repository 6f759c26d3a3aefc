/-! ===== the law: wrappers ===== -/
theorem C_L_lineAt {X : eXT} {a : Nat → Nat} {z : Nat → Int} {ln : Int → Int} {F : eFs} {P : Int → Int} {D : eFs} {DQ : Int → Int} {S : eFs} {SP : Int → Int} {c n : Int} {h : eHs} {g rc : Int → Int} {T : eFs} {Mt : Int → Int → Int} {o : Int → Int}  (hz : okZ z) (hln : ∀ j, 0 ≤ ln j ∧ ln j ≤ 65535) {i : Int} (gi : -2147483648 ≤ i ∧ i ≤ 2147483647) :
    EM X mL_lineAt (eRt 10 2) a [.ref (a 0), vi i, .ref (a 131)] (wA a z ln F P D DQ S SP c n h g rc T Mt [eJ 1 1 o]) (eRets (some (vi (exK ((if 0 ≤ i ∧ i < z 4 then none else some xIx)) xIx "" ""))) a (fun cs1 => ((if 0 ≤ i ∧ i < z 4 then none else some xIx) = none → cs1 = wA a z ln F P D DQ S SP c n h g rc T Mt [eJ 1 1 (eU o 0 (w32 (ln i)))]) ∧ (¬ (if 0 ≤ i ∧ i < z 4 then none else some xIx) = none → cs1 = wA a z ln F P D DQ S SP c n h g rc T Mt [eJ 1 1 o]))) := by
  have hE : ∀ e, (if 0 ≤ i ∧ i < z 4 then none else some xIx) = some e → e = xIx := by
    intro e he
    (repeat' split at he) <;> first | (cases he; done) | (injection he with he; subst he; first | exact rfl | exact Or.inl rfl | exact Or.inr rfl | exact Or.inr (Or.inl rfl) | exact Or.inr (Or.inr rfl))
  refine EM.of (by decide +kernel) rfl (Nat.le_of_ble_eq_true rfl) ?_
  refine e_aload_n dL_lineAt_0 rfl rfl ?_
  refine e_iconst dL_lineAt_1 rfl ?_
  refine e_aload_n dL_lineAt_2 rfl rfl ?_
  refine e_iload_n dL_lineAt_3 rfl rfl ?_
  refine e_cVo (b' := (1, 6)) [0, 130] lk_L_124 rfl dL_lineAt_4 rfl (C_X6_lineAt (z := z) (ln := ln) hz hln (by omega)) rfl rfl (Nat.le_of_ble_eq_true rfl) (Nat.le_of_ble_eq_true rfl) (Nat.le_of_ble_eq_true rfl) ⟨(Nat.le_of_ble_eq_true rfl), (Nat.le_of_ble_eq_true rfl)⟩ rfl rfl rfl rfl rfl rfl (cs' := wA a z ln F P D DQ S SP c n h g rc T Mt [eJ 1 1 o]) (csX := wA a z ln F P D DQ S SP c n h g rc T Mt [eJ 1 1 o]) rfl rfl (gOL (t := [eJ 1 1 o]) (O' := [wO (a 1) (a 11) (a 21) (a 31) (a 113) (a 116) (a 130) (z)]) (L' := [eI 2 12 (ln)]) rfl rfl rfl rfl rfl rfl rfl rfl rfl rfl) (gOL (t := [eJ 1 1 o]) (O' := [wO (a 1) (a 11) (a 21) (a 31) (a 113) (a 116) (a 130) (z)]) (L' := [eI 2 12 (ln)]) rfl rfl rfl rfl rfl rfl rfl rfl rfl rfl) (fun ge => ?_) (fun e he => ?_)
  · refine EV.eq (st' := [vi (w32 (ln i)), vi 0, .ref (a 131)]) (by show [vi (ln i), vi 0, .ref (a 131)] = _; rw [← w32_v]) ?_
    refine e_i2l dL_lineAt_7 rfl w32_in ?_
    refine e_lastore (i := 131) (N := 1) (x := o) dL_lineAt_8 rfl rfl wA_get (by decide) (by decide) ?_
    refine EV.ceq (cs' := wA a z ln F P D DQ S SP c n h g rc T Mt [eJ 1 1 (eU o 0 (w32 (ln i)))]) wA_set ?_
    refine e_goto (n := 15) dL_lineAt_9 rfl ?_
    refine e_iconst dL_lineAt_15 rfl ?_
    exact e_iret dL_lineAt_16 rfl rfl ⟨by rw [exK_n ge], rfl, fun _ => rfl, fun q => absurd ge q⟩
  · have hc := hE e he
    subst hc
    refine e_catch (name := xIx) [] _ _ rfl (fun z hz => absurd hz List.not_mem_nil) rfl (by decide) wd_3_165 (List.mem_of_getElem? (i := 0) rfl) (fun q => ?_)
    refine f_astore_n dL_lineAt_12 rfl (Nat.le_of_ble_eq_true rfl) rfl ?_
    refine e_iconst dL_lineAt_13 rfl ?_
    exact e_iret dL_lineAt_14 rfl rfl ⟨by rw [exK_1 he], rfl, fun q => absurd (he.symm.trans q) (by simp), fun _ => rfl⟩
theorem C_L_describeRow {X : eXT} {a : Nat → Nat} {z : Nat → Int} {ln : Int → Int} {F : eFs} {P : Int → Int} {D : eFs} {DQ : Int → Int} {S : eFs} {SP : Int → Int} {c n : Int} {h : eHs} {g rc : Int → Int} {T : eFs} {Mt : Int → Int → Int} {o : Int → Int} {N : Int} (hF : okF N F) {y : Int} (gy : -2147483648 ≤ y ∧ y ≤ 2147483647) :
    EM X mL_describeRow (eRt 10 2) a [.ref (a 0), vi y, .ref (a 131)] (wA a z ln F P D DQ S SP c n h g rc T Mt [eJ 1 1 o]) (eRets (some (vi (exK ((if 0 ≤ y ∧ y ≤ 11 then none else some xAr)) xAr "" ""))) a (fun cs1 => ((if 0 ≤ y ∧ y ≤ 11 then none else some xAr) = none → cs1 = wA a (zS z 4 12) (fun x => sSgn F x y) F P D DQ S SP c n h g rc T Mt [eJ 1 1 (eU o 0 (w32 (12)))]) ∧ (¬ (if 0 ≤ y ∧ y ≤ 11 then none else some xAr) = none → cs1 = wA a z ln F P D DQ S SP c n h g rc T Mt [eJ 1 1 o]))) := by
  have hE : ∀ e, (if 0 ≤ y ∧ y ≤ 11 then none else some xAr) = some e → e = xAr := by
    intro e he
    (repeat' split at he) <;> first | (cases he; done) | (injection he with he; subst he; first | exact rfl | exact Or.inl rfl | exact Or.inr rfl | exact Or.inr (Or.inl rfl) | exact Or.inr (Or.inr rfl))
  refine EM.of (by decide +kernel) rfl (Nat.le_of_ble_eq_true rfl) ?_
  refine e_aload_n dL_describeRow_0 rfl rfl ?_
  refine e_iconst dL_describeRow_1 rfl ?_
  refine e_aload_n dL_describeRow_2 rfl rfl ?_
  refine e_iload_n dL_describeRow_3 rfl rfl ?_
  refine e_cVo (b' := (1, 6)) [0, 1, 2, 3, 4, 5, 6, 7, 8, 9, 10, 130] lk_L_121 rfl dL_describeRow_4 rfl (C_X6_describeRow (z := z) (F := F) (P := P) (ln := ln) hF (by omega)) rfl rfl (Nat.le_of_ble_eq_true rfl) (Nat.le_of_ble_eq_true rfl) (Nat.le_of_ble_eq_true rfl) ⟨(Nat.le_of_ble_eq_true rfl), (Nat.le_of_ble_eq_true rfl)⟩ rfl rfl rfl rfl rfl rfl (cs' := wA a (zS z 4 12) (fun x => sSgn F x y) F P D DQ S SP c n h g rc T Mt [eJ 1 1 o]) (csX := wA a z ln F P D DQ S SP c n h g rc T Mt [eJ 1 1 o]) rfl rfl (gOFL (t := [eJ 1 1 o]) (O' := [wO (a 1) (a 11) (a 21) (a 31) (a 113) (a 116) (a 130) (zS z 4 12)]) (F' := wFl (fun k => a (1 + k)) (F) (P)) (L' := [eI 2 12 (fun x => sSgn F x y)]) rfl rfl rfl rfl rfl rfl rfl rfl rfl rfl rfl) (gOFL (t := [eJ 1 1 o]) (O' := [wO (a 1) (a 11) (a 21) (a 31) (a 113) (a 116) (a 130) (z)]) (F' := wFl (fun k => a (1 + k)) (F) (P)) (L' := [eI 2 12 (ln)]) rfl rfl rfl rfl rfl rfl rfl rfl rfl rfl rfl) (fun ge => ?_) (fun e he => ?_)
  · refine EV.eq (st' := [vi (w32 (12)), vi 0, .ref (a 131)]) (by show [vi (12), vi 0, .ref (a 131)] = _; rw [← w32_v]) ?_
    refine e_i2l dL_describeRow_7 rfl w32_in ?_
    refine e_lastore (i := 131) (N := 1) (x := o) dL_describeRow_8 rfl rfl wA_get (by decide) (by decide) ?_
    refine EV.ceq (cs' := wA a (zS z 4 12) (fun x => sSgn F x y) F P D DQ S SP c n h g rc T Mt [eJ 1 1 (eU o 0 (w32 (12)))]) wA_set ?_
    refine e_goto (n := 15) dL_describeRow_9 rfl ?_
    refine e_iconst dL_describeRow_15 rfl ?_
    exact e_iret dL_describeRow_16 rfl rfl ⟨by rw [exK_n ge], rfl, fun _ => rfl, fun q => absurd ge q⟩
  · have hc := hE e he
    subst hc
    refine e_catch (name := xAr) [] _ _ rfl (fun z hz => absurd hz List.not_mem_nil) rfl (by decide) wd_2_198 (List.mem_of_getElem? (i := 1) rfl) (fun q => ?_)
    refine f_astore_n dL_describeRow_12 rfl (Nat.le_of_ble_eq_true rfl) rfl ?_
    refine e_iconst dL_describeRow_13 rfl ?_
    exact e_iret dL_describeRow_14 rfl rfl ⟨by rw [exK_1 he], rfl, fun q => absurd (he.symm.trans q) (by simp), fun _ => rfl⟩
theorem C_L_append {X : eXT} {a : Nat → Nat} {z : Nat → Int} {ln : Int → Int} {F : eFs} {P : Int → Int} {D : eFs} {DQ : Int → Int} {S : eFs} {SP : Int → Int} {c n : Int} {h : eHs} {g rc : Int → Int} {T : eFs} {Mt : Int → Int → Int} {o : Int → Int}  (hT : okT T Mt) {cc : Int} (gc : 0 ≤ cc ∧ cc ≤ 65535) :
    EM X mL_append (eRt 10 2) a [.ref (a 0), vi cc, .ref (a 131)] (wA a z ln F P D DQ S SP c n h g rc T Mt [eJ 1 1 o]) (eRets (some (vi (exK ((if 32 ≤ cc ∧ cc ≤ 126 then (if T.1 0 < 60 then none else some xSt) else some xAr)) xAr xSt ""))) a (fun cs1 => ((if 32 ≤ cc ∧ cc ≤ 126 then (if T.1 0 < 60 then none else some xSt) else some xAr) = none → cs1 = wA a z ln F P D DQ S SP c n h g rc (sS (sA T 0 (T.1 0) cc) 0 (T.1 0 + 1)) Mt [eJ 1 1 (eU o 0 (w32 (T.1 0 + 1)))]) ∧ (¬ (if 32 ≤ cc ∧ cc ≤ 126 then (if T.1 0 < 60 then none else some xSt) else some xAr) = none → cs1 = wA a z ln F P D DQ S SP c n h g rc T Mt [eJ 1 1 o]))) := by
  have hE : ∀ e, (if 32 ≤ cc ∧ cc ≤ 126 then (if T.1 0 < 60 then none else some xSt) else some xAr) = some e → e = xAr ∨ e = xSt := by
    intro e he
    (repeat' split at he) <;> first | (cases he; done) | (injection he with he; subst he; first | exact rfl | exact Or.inl rfl | exact Or.inr rfl | exact Or.inr (Or.inl rfl) | exact Or.inr (Or.inr rfl))
  refine EM.of (by decide +kernel) rfl (Nat.le_of_ble_eq_true rfl) ?_
  refine e_aload_n dL_append_0 rfl rfl ?_
  refine e_iconst dL_append_1 rfl ?_
  refine e_aload_n dL_append_2 rfl rfl ?_
  refine e_iload_n dL_append_3 rfl rfl ?_
  refine e_cVo (b' := (1, 6)) [0, 116, 117, 118, 119, 120, 121, 122, 123, 124, 125, 126, 127, 128, 129] lk_L_108 rfl dL_append_4 rfl (C_X6_append (z := z) (T := T) (M := Mt) hT (by omega)) rfl rfl (Nat.le_of_ble_eq_true rfl) (Nat.le_of_ble_eq_true rfl) (Nat.le_of_ble_eq_true rfl) ⟨(Nat.le_of_ble_eq_true rfl), (Nat.le_of_ble_eq_true rfl)⟩ rfl rfl rfl rfl rfl rfl (cs' := wA a z ln F P D DQ S SP c n h g rc (sS (sA T 0 (T.1 0) cc) 0 (T.1 0 + 1)) Mt [eJ 1 1 o]) (csX := wA a z ln F P D DQ S SP c n h g rc T Mt [eJ 1 1 o]) rfl rfl (gOT (t := [eJ 1 1 o]) (O' := [wO (a 1) (a 11) (a 21) (a 31) (a 113) (a 116) (a 130) (z)]) (T' := wTx (fun k => a (116 + k)) (sS (sA T 0 (T.1 0) cc) 0 (T.1 0 + 1)) (Mt)) rfl rfl rfl rfl rfl rfl rfl rfl rfl rfl) (gOT (t := [eJ 1 1 o]) (O' := [wO (a 1) (a 11) (a 21) (a 31) (a 113) (a 116) (a 130) (z)]) (T' := wTx (fun k => a (116 + k)) (T) (Mt)) rfl rfl rfl rfl rfl rfl rfl rfl rfl rfl) (fun ge => ?_) (fun e he => ?_)
  · refine EV.eq (st' := [vi (w32 (T.1 0 + 1)), vi 0, .ref (a 131)]) (by show [vi (T.1 0 + 1), vi 0, .ref (a 131)] = _; rw [← w32_v]) ?_
    refine e_i2l dL_append_7 rfl w32_in ?_
    refine e_lastore (i := 131) (N := 1) (x := o) dL_append_8 rfl rfl wA_get (by decide) (by decide) ?_
    refine EV.ceq (cs' := wA a z ln F P D DQ S SP c n h g rc (sS (sA T 0 (T.1 0) cc) 0 (T.1 0 + 1)) Mt [eJ 1 1 (eU o 0 (w32 (T.1 0 + 1)))]) wA_set ?_
    refine e_goto (n := 18) dL_append_9 rfl ?_
    refine e_iconst dL_append_18 rfl ?_
    exact e_iret dL_append_19 rfl rfl ⟨by rw [exK_n ge], rfl, fun _ => rfl, fun q => absurd ge q⟩
  · rcases hE e he with hc | hc <;> subst hc
    · refine e_catch (name := xAr) [] _ _ rfl (fun z hz => absurd hz List.not_mem_nil) rfl (by decide) wd_2_198 (List.mem_of_getElem? (i := 1) rfl) (fun q => ?_)
      refine f_astore_n dL_append_12 rfl (Nat.le_of_ble_eq_true rfl) rfl ?_
      refine e_iconst dL_append_13 rfl ?_
      exact e_iret dL_append_14 rfl rfl ⟨by rw [exK_1 he], rfl, fun q => absurd (he.symm.trans q) (by simp), fun _ => rfl⟩
    · refine e_catch (name := xSt) [_] _ _ rfl (fun z hz => Or.inr (by rw [List.mem_singleton.mp hz]; exact ⟨by decide, xAr, wd_2_198, List.mem_of_getElem? (i := 64) rfl⟩)) rfl (by decide) wd_2_199 (List.mem_of_getElem? (i := 2) rfl) (fun q => ?_)
      refine f_astore_n dL_append_15 rfl (Nat.le_of_ble_eq_true rfl) rfl ?_
      refine e_iconst dL_append_16 rfl ?_
      exact e_iret dL_append_17 rfl rfl ⟨by rw [exK_2 he (by decide)], rfl, fun q => absurd (he.symm.trans q) (by simp), fun _ => rfl⟩
theorem C_L_undo {X : eXT} {a : Nat → Nat} {z : Nat → Int} {ln : Int → Int} {F : eFs} {P : Int → Int} {D : eFs} {DQ : Int → Int} {S : eFs} {SP : Int → Int} {c n : Int} {h : eHs} {g rc : Int → Int} {T : eFs} {Mt : Int → Int → Int} {o : Int → Int}  (hcc : 0 ≤ c ∧ c ≤ 8) (hnn : 0 ≤ n ∧ n ≤ 7) :
    EM X mL_undo (eRt 10 2) a [.ref (a 0), .ref (a 131)] (wA a z ln F P D DQ S SP c n h g rc T Mt [eJ 1 1 o]) (eRets (some (vi (exK ((if 1 ≤ c then none else some xSt)) xSt "" ""))) a (fun cs1 => ((if 1 ≤ c then none else some xSt) = none → cs1 = wA a z ln ((h (if 0 < n then n - 1 else 7).toNat).1) P D DQ S SP (c - 1) (if 0 < n then n - 1 else 7) h g rc T Mt [eJ 1 1 (eU o 0 (w32 (c - 1)))]) ∧ (¬ (if 1 ≤ c then none else some xSt) = none → cs1 = wA a z ln F P D DQ S SP c n h g rc T Mt [eJ 1 1 o]))) := by
  have hE : ∀ e, (if 1 ≤ c then none else some xSt) = some e → e = xSt := by
    intro e he
    (repeat' split at he) <;> first | (cases he; done) | (injection he with he; subst he; first | exact rfl | exact Or.inl rfl | exact Or.inr rfl | exact Or.inr (Or.inl rfl) | exact Or.inr (Or.inr rfl))
  refine EM.of (by decide +kernel) rfl (Nat.le_of_ble_eq_true rfl) ?_
  refine e_aload_n dL_undo_0 rfl rfl ?_
  refine e_iconst dL_undo_1 rfl ?_
  refine e_aload_n dL_undo_2 rfl rfl ?_
  refine e_cVo (b' := (1, 6)) [0, 1, 2, 3, 4, 5, 6, 7, 8, 9, 10, 31, 32, 33, 34, 35, 36, 37, 38, 39, 40, 41, 42, 43, 44, 45, 46, 47, 48, 49, 50, 51, 52, 53, 54, 55, 56, 57, 58, 59, 60, 61, 62, 63, 64, 65, 66, 67, 68, 69, 70, 71, 72, 73, 74, 75, 76, 77, 78, 79, 80, 81, 82, 83, 84, 85, 86, 87, 88, 89, 90, 91, 92, 93, 94, 95, 96, 97, 98, 99, 100, 101, 102, 103, 104, 105, 106, 107, 108, 109, 110, 111, 112] lk_L_138 rfl dL_undo_3 rfl (C_X6_undo (z := z) (F := F) (P := P) (c := c) (n := n) (h := h) hcc hnn) rfl rfl (Nat.le_of_ble_eq_true rfl) (Nat.le_of_ble_eq_true rfl) (Nat.le_of_ble_eq_true rfl) ⟨(Nat.le_of_ble_eq_true rfl), (Nat.le_of_ble_eq_true rfl)⟩ rfl rfl rfl rfl rfl rfl (cs' := wA a z ln ((h (if 0 < n then n - 1 else 7).toNat).1) P D DQ S SP (c - 1) (if 0 < n then n - 1 else 7) h g rc T Mt [eJ 1 1 o]) (csX := wA a z ln F P D DQ S SP c n h g rc T Mt [eJ 1 1 o]) rfl rfl (gOFH (t := [eJ 1 1 o]) (O' := [wO (a 1) (a 11) (a 21) (a 31) (a 113) (a 116) (a 130) (z)]) (F' := wFl (fun k => a (1 + k)) ((h (if 0 < n then n - 1 else 7).toNat).1) (P)) (H' := wHi (fun k => a (31 + k)) (c - 1) (if 0 < n then n - 1 else 7) (h)) rfl rfl rfl rfl rfl rfl rfl rfl rfl rfl rfl) (gOFH (t := [eJ 1 1 o]) (O' := [wO (a 1) (a 11) (a 21) (a 31) (a 113) (a 116) (a 130) (z)]) (F' := wFl (fun k => a (1 + k)) (F) (P)) (H' := wHi (fun k => a (31 + k)) (c) (n) (h)) rfl rfl rfl rfl rfl rfl rfl rfl rfl rfl rfl) (fun ge => ?_) (fun e he => ?_)
  · refine EV.eq (st' := [vi (w32 (c - 1)), vi 0, .ref (a 131)]) (by show [vi (c - 1), vi 0, .ref (a 131)] = _; rw [← w32_v]) ?_
    refine e_i2l dL_undo_6 rfl w32_in ?_
    refine e_lastore (i := 131) (N := 1) (x := o) dL_undo_7 rfl rfl wA_get (by decide) (by decide) ?_
    refine EV.ceq (cs' := wA a z ln ((h (if 0 < n then n - 1 else 7).toNat).1) P D DQ S SP (c - 1) (if 0 < n then n - 1 else 7) h g rc T Mt [eJ 1 1 (eU o 0 (w32 (c - 1)))]) wA_set ?_
    refine e_goto (n := 14) dL_undo_8 rfl ?_
    refine e_iconst dL_undo_14 rfl ?_
    exact e_iret dL_undo_15 rfl rfl ⟨by rw [exK_n ge], rfl, fun _ => rfl, fun q => absurd ge q⟩
  · have hc := hE e he
    subst hc
    refine e_catch (name := xSt) [] _ _ rfl (fun z hz => absurd hz List.not_mem_nil) rfl (by decide) wd_2_199 (List.mem_of_getElem? (i := 2) rfl) (fun q => ?_)
    refine f_astore_n dL_undo_11 rfl (Nat.le_of_ble_eq_true rfl) rfl ?_
    refine e_iconst dL_undo_12 rfl ?_
    exact e_iret dL_undo_13 rfl rfl ⟨by rw [exK_1 he], rfl, fun q => absurd (he.symm.trans q) (by simp), fun _ => rfl⟩
theorem C_L_restore {X : eXT} {a : Nat → Nat} {z : Nat → Int} {ln : Int → Int} {F : eFs} {P : Int → Int} {D : eFs} {DQ : Int → Int} {S : eFs} {SP : Int → Int} {c n : Int} {h : eHs} {g rc : Int → Int} {T : eFs} {Mt : Int → Int → Int} {o : Int → Int}   :
    EM X mL_restore (eRt 10 2) a [.ref (a 0), .ref (a 131)] (wA a z ln F P D DQ S SP c n h g rc T Mt [eJ 1 1 o]) (eRets (some (vi (exK ((if z 5 = 1 then none else some xSt)) xSt "" ""))) a (fun cs1 => ((if z 5 = 1 then none else some xSt) = none → cs1 = wA a z ln (S) P D DQ S SP (0) (0) h g rc T Mt [eJ 1 1 (eU o 0 (w32 (S.1 0)))]) ∧ (¬ (if z 5 = 1 then none else some xSt) = none → cs1 = wA a z ln F P D DQ S SP c n h g rc T Mt [eJ 1 1 o]))) := by
  have hE : ∀ e, (if z 5 = 1 then none else some xSt) = some e → e = xSt := by
    intro e he
    (repeat' split at he) <;> first | (cases he; done) | (injection he with he; subst he; first | exact rfl | exact Or.inl rfl | exact Or.inr rfl | exact Or.inr (Or.inl rfl) | exact Or.inr (Or.inr rfl))
  refine EM.of (by decide +kernel) rfl (Nat.le_of_ble_eq_true rfl) ?_
  refine e_aload_n dL_restore_0 rfl rfl ?_
  refine e_iconst dL_restore_1 rfl ?_
  refine e_aload_n dL_restore_2 rfl rfl ?_
  refine e_cVo (b' := (1, 6)) [0, 31, 1, 2, 3, 4, 5, 6, 7, 8, 9, 10, 21, 22, 23, 24, 25, 26, 27, 28, 29, 30] lk_L_141 rfl dL_restore_3 rfl (C_X6_restore (z := z) (F := F) (P := P) (F2 := S) (P2 := SP) (c := c) (n := n)) rfl rfl (Nat.le_of_ble_eq_true rfl) (Nat.le_of_ble_eq_true rfl) (Nat.le_of_ble_eq_true rfl) ⟨(Nat.le_of_ble_eq_true rfl), (Nat.le_of_ble_eq_true rfl)⟩ rfl rfl rfl rfl rfl rfl (cs' := wA a z ln (S) P D DQ S SP (0) (0) h g rc T Mt [eJ 1 1 o]) (csX := wA a z ln F P D DQ S SP c n h g rc T Mt [eJ 1 1 o]) rfl rfl (gOhFS (t := [eJ 1 1 o]) (H0 := [.inr (4, [.ref (a 32), vi c, vi n])]) (H1 := (wHi (fun k => a (31 + k)) c n h).tail) (O' := [wO (a 1) (a 11) (a 21) (a 31) (a 113) (a 116) (a 130) (z)]) (H0' := [.inr (4, [.ref (a 32), vi (0), vi (0)])]) (F' := wFl (fun k => a (1 + k)) (S) (P)) (S' := wFl (fun k => a (21 + k)) (S) (SP)) rfl rfl rfl rfl rfl rfl rfl rfl rfl rfl rfl rfl rfl) (gOhFS (t := [eJ 1 1 o]) (H0 := [.inr (4, [.ref (a 32), vi c, vi n])]) (H1 := (wHi (fun k => a (31 + k)) c n h).tail) (O' := [wO (a 1) (a 11) (a 21) (a 31) (a 113) (a 116) (a 130) (z)]) (H0' := [.inr (4, [.ref (a 32), vi (c), vi (n)])]) (F' := wFl (fun k => a (1 + k)) (F) (P)) (S' := wFl (fun k => a (21 + k)) (S) (SP)) rfl rfl rfl rfl rfl rfl rfl rfl rfl rfl rfl rfl rfl) (fun ge => ?_) (fun e he => ?_)
  · refine EV.eq (st' := [vi (w32 (S.1 0)), vi 0, .ref (a 131)]) (by show [vi (S.1 0), vi 0, .ref (a 131)] = _; rw [← w32_v]) ?_
    refine e_i2l dL_restore_6 rfl w32_in ?_
    refine e_lastore (i := 131) (N := 1) (x := o) dL_restore_7 rfl rfl wA_get (by decide) (by decide) ?_
    refine EV.ceq (cs' := wA a z ln (S) P D DQ S SP (0) (0) h g rc T Mt [eJ 1 1 (eU o 0 (w32 (S.1 0)))]) wA_set ?_
    refine e_goto (n := 14) dL_restore_8 rfl ?_
    refine e_iconst dL_restore_14 rfl ?_
    exact e_iret dL_restore_15 rfl rfl ⟨by rw [exK_n ge], rfl, fun _ => rfl, fun q => absurd ge q⟩
  · have hc := hE e he
    subst hc
    refine e_catch (name := xSt) [] _ _ rfl (fun z hz => absurd hz List.not_mem_nil) rfl (by decide) wd_2_199 (List.mem_of_getElem? (i := 2) rfl) (fun q => ?_)
    refine f_astore_n dL_restore_11 rfl (Nat.le_of_ble_eq_true rfl) rfl ?_
    refine e_iconst dL_restore_12 rfl ?_
    exact e_iret dL_restore_13 rfl rfl ⟨by rw [exK_1 he], rfl, fun q => absurd (he.symm.trans q) (by simp), fun _ => rfl⟩
