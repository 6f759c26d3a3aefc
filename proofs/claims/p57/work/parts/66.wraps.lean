/-! ===== the law: its wrappers ===== -/
theorem hk_0 {F : eFs} {p q r : Int} : sHin F 0 p q r = 0 ∨ sHin F 0 p q r = 2 ∨ sHin F 0 p q r = 3 ∨ sHin F 0 p q r = 6 := by
  rw [show sHin F 0 p q r = hAdd F p q r from rfl]
  unfold hAdd
  (repeat' split) <;> omega
theorem hk_1 {F : eFs} {p q r : Int} : sHin F 1 p q r = 0 ∨ sHin F 1 p q r = 1 ∨ sHin F 1 p q r = 2 ∨ sHin F 1 p q r = 6 := by
  rw [show sHin F 1 p q r = hJump F p q r from rfl]
  unfold hJump
  (repeat' split) <;> omega
theorem hk_2 {F : eFs} {p q r : Int} : sHin F 2 p q r = 0 ∨ sHin F 2 p q r = 1 ∨ sHin F 2 p q r = 2 := by
  rw [show sHin F 2 p q r = hHand F p q from rfl]
  unfold hHand hOut
  (repeat' split) <;> omega
theorem hk_3 {F : eFs} {p q r : Int} : sHin F 3 p q r = 0 ∨ sHin F 3 p q r = 2 ∨ sHin F 3 p q r = 3 ∨ sHin F 3 p q r = 5 := by
  rw [show sHin F 3 p q r = hCloud F p q from rfl]
  unfold hCloud
  (repeat' split) <;> omega
theorem hk_4 {F : eFs} {p q r : Int} : sHin F 4 p q r = 0 ∨ sHin F 4 p q r = 2 ∨ sHin F 4 p q r = 4 := by
  rw [show sHin F 4 p q r = hClear F p q from rfl]
  unfold hClear
  (repeat' split) <;> omega
theorem hk_5 {F : eFs} {p q r : Int} : sHin F 5 p q r = 0 ∨ sHin F 5 p q r = 2 := by
  rw [show sHin F 5 p q r = hOut p 2 9 from rfl]
  unfold hOut
  split <;> omega
theorem hk_6 {F : eFs} {p q r : Int} : sHin F 6 p q r = 0 ∨ sHin F 6 p q r = 2 ∨ sHin F 6 p q r = 4 := by
  rw [show sHin F 6 p q r = hGoal F p q from rfl]
  unfold hGoal
  (repeat' split) <;> omega
theorem hk_7 {F : eFs} {p q r : Int} : sHin F 7 p q r = 0 ∨ sHin F 7 p q r = 2 := by
  rw [show sHin F 7 p q r = hOut p 2 6 from rfl]
  unfold hOut
  split <;> omega
theorem hk_8 {F : eFs} {p q r : Int} : sHin F 8 p q r = 0 ∨ sHin F 8 p q r = 2 := by
  rw [show sHin F 8 p q r = hOut p 1 20 from rfl]
  unfold hOut
  split <;> omega
theorem zRf_at {z : Nat → Int} {F : eFs} {m x y : Int} : (zRf z F m x y 0 = z 0 ∧ zRf z F m x y 1 = z 1 ∧ zRf z F m x y 4 = z 4 ∧ zRf z F m x y 5 = z 5) ∧ (zRf z F m x y 2 = if sCov (F.2 4) x y then 1 else 2) ∧ (zRf z F m x y 3 = if sCov (F.2 4) x y then F.1 9 else sTo F m x y) := ⟨⟨rfl, rfl, rfl, rfl⟩, rfl, rfl⟩
theorem zHi_at {z : Nat → Int} {F : eFs} {k p q r : Int} : (zHi z F k p q r 0 = z 0 ∧ zHi z F k p q r 1 = z 1 ∧ zHi z F k p q r 4 = z 4 ∧ zHi z F k p q r 5 = z 5) := by
  unfold zHi zRk
  (repeat' split) <;> exact ⟨rfl, rfl, rfl, rfl⟩
theorem zHi_ok {N : Int} {z : Nat → Int} {F : eFs} {k p q r : Int} (hF : okF N F) (h : okZ z) : okZ (zHi z F k p q r) := by
  obtain ⟨hc, hld, hled, htn, hgo, hkp, hst, hwt, hcl, -⟩ := hF
  have w := zHi_at (z := z) (F := F) (k := k) (p := p) (q := q) (r := r)
  have v : (-1 ≤ zHi z F k p q r 2 ∧ zHi z F k p q r 2 ≤ 2) ∧ (-1 ≤ zHi z F k p q r 3 ∧ zHi z F k p q r 3 ≤ 10) := by
    unfold zHi zRk
    (repeat' split)
    · have t := sTo_in (F := F) (m := p) (x := q) (y := r)
      have u := zRf_at (z := z) (F := F) (m := p) (x := q) (y := r)
      rw [u.2.1, u.2.2]
      split <;> omega
    · have t := sTo_in (F := F) (m := -1) (x := p) (y := q)
      have u := zRf_at (z := z) (F := F) (m := -1) (x := p) (y := q)
      rw [u.2.1, u.2.2]
      split <;> omega
    · exact ⟨h.2.2.1, h.2.2.2.1⟩
  show (-1 ≤ zHi z F k p q r 0 ∧ zHi z F k p q r 0 ≤ 60) ∧ (-1 ≤ zHi z F k p q r 1 ∧ zHi z F k p q r 1 ≤ 10) ∧ (-1 ≤ zHi z F k p q r 2 ∧ zHi z F k p q r 2 ≤ 2) ∧ (-1 ≤ zHi z F k p q r 3 ∧ zHi z F k p q r 3 ≤ 10) ∧ (zHi z F k p q r 4 = 0 ∨ zHi z F k p q r 4 = 12)
  rw [w.1, w.2.1, w.2.2.1]
  exact ⟨h.1, h.2.1, v.1, v.2, h.2.2.2.2⟩
theorem eEx_n0 {h : Int} (hr : 0 ≤ h ∧ h ≤ 6) (e : eEx h = none) : h = 0 := by
  unfold eEx at e
  (repeat' split at e) <;> first | (cases e; done) | omega
theorem W_addBasket {X : eXT} {a : Nat → Nat} {q1 q2 q3 q4 q5 : Nat} {z : Nat → Int} {N : Int} {F : eFs} {P : Int → Int} {c n : Int} {h : eHs} (hF : okF N F) (hz : okZ z) (hcc : 0 ≤ c ∧ c ≤ 8) (hnn : 0 ≤ n ∧ n ≤ 7) {x y w : Int} (gx : -2147483648 ≤ x ∧ x ≤ 2147483647) (gy : -2147483648 ≤ y ∧ y ≤ 2147483647) (gw : -2147483648 ≤ w ∧ w ≤ 2147483647) :
    EM X mL_addBasket (eRt 10 2) a [.ref (a 0), vi x, vi y, vi w] (wMu a q1 q2 q3 q4 q5 z F P c n h) (qMu a q1 q2 q3 q4 q5 F 0 x y w) := by
  have hE : ∀ e, eEx (sHin F 0 x y w) = some e → e = xAr ∨ e = xSt ∨ e = xUn := by
    intro e he
    rcases hk_0 (F := F) (p := x) (q := y) (r := w) with w | w | w | w <;> rw [w] at he
    · exact absurd (show (none : Option String) = some e from he) (by simp)
    · injection (show some xAr = some e from he) with he
      subst he
      exact Or.inl rfl
    · injection (show some xSt = some e from he) with he
      subst he
      exact Or.inr (Or.inl rfl)
    · injection (show some xUn = some e from he) with he
      subst he
      exact Or.inr (Or.inr rfl)
  refine EM.of (by decide +kernel) rfl (Nat.le_of_ble_eq_true rfl) ?_
  refine e_aload_n dL_addBasket_0 rfl rfl ?_
  refine e_iload_n dL_addBasket_1 rfl rfl ?_
  refine e_iload_n dL_addBasket_2 rfl rfl ?_
  refine e_iload_n dL_addBasket_3 rfl rfl ?_
  refine e_cVwo (b' := (1, 6)) (m := 93) lk_L_13 rfl dL_addBasket_4 rfl (C_X6_addBasket (z := z) (F := F) (P := P) (c := c) (n := n) (h := h) hF hcc hnn (by omega) (by omega) (by omega)) rfl rfl (Nat.le_of_ble_eq_true rfl) (Nat.le_of_ble_eq_true rfl) (Nat.le_of_ble_eq_true rfl) ⟨(Nat.le_of_ble_eq_true rfl), (Nat.le_of_ble_eq_true rfl)⟩ rfl rfl rfl rfl rfl rfl rfl (fun ge => ?_) (fun e he => ?_)
  · exact e_iret dL_addBasket_7 rfl rfl ⟨rfl, ⟨_, rfl⟩, sDo F 0 x y w, z, P, (if 8 < c + 1 then 8 else c + 1), (if n + 1 < 8 then n + 1 else 0), hU h n.toNat F, rfl, Or.inl ⟨eEx_n0 (by rcases hk_0 (F := F) (p := x) (q := y) (r := w) with w | w | w | w <;> omega) ge, rfl⟩, hz, by split <;> omega, by split <;> omega⟩
  · rcases hE e he with hc | hc | hc <;> subst hc
    · refine e_catch (name := xAr) [] _ _ rfl (fun z hz => absurd hz List.not_mem_nil) rfl (by decide) wd_3_146 (List.mem_of_getElem? (i := 1) rfl) (fun q => ?_)
      refine f_astore dL_addBasket_8 rfl (Nat.le_of_ble_eq_true rfl) rfl ?_
      refine e_sipush dL_addBasket_10 rfl rfl ?_
      exact e_iret dL_addBasket_13 rfl rfl ⟨rfl, ⟨-20000, rfl⟩, F, zHi z F 0 x y w, P, c, n, h, rfl, Or.inr ⟨fun q => (by rw [q] at he; cases he), rfl⟩, zHi_ok hF hz, hcc, hnn⟩
    · refine e_catch (name := xSt) [_] _ _ rfl (fun z hz => Or.inr (by rw [List.mem_singleton.mp hz]; exact ⟨by decide, xAr, wd_3_146, List.mem_of_getElem? (i := 48) rfl⟩)) rfl (by decide) wd_3_238 (List.mem_of_getElem? (i := 2) rfl) (fun q => ?_)
      refine f_astore dL_addBasket_14 rfl (Nat.le_of_ble_eq_true rfl) rfl ?_
      refine e_sipush dL_addBasket_16 rfl rfl ?_
      exact e_iret dL_addBasket_19 rfl rfl ⟨rfl, ⟨-10000, rfl⟩, F, zHi z F 0 x y w, P, c, n, h, rfl, Or.inr ⟨fun q => (by rw [q] at he; cases he), rfl⟩, zHi_ok hF hz, hcc, hnn⟩
    · refine e_catch (name := xUn) [_, _] _ _ rfl (fun z hz => Or.inr (by rcases List.mem_cons.mp hz with e1 | e1; rw [e1]; exact ⟨by decide, xAr, wd_3_146, List.mem_of_getElem? (i := 66) rfl⟩; rw [List.mem_singleton.mp e1]; exact ⟨by decide, xSt, wd_3_238, List.mem_of_getElem? (i := 67) rfl⟩)) rfl (by decide) wd_3_239 (List.mem_of_getElem? (i := 4) rfl) (fun q => ?_)
      refine f_astore dL_addBasket_20 rfl (Nat.le_of_ble_eq_true rfl) rfl ?_
      refine e_sipush dL_addBasket_22 rfl rfl ?_
      exact e_iret dL_addBasket_25 rfl rfl ⟨rfl, ⟨-15000, rfl⟩, F, zHi z F 0 x y w, P, c, n, h, rfl, Or.inr ⟨fun q => (by rw [q] at he; cases he), rfl⟩, zHi_ok hF hz, hcc, hnn⟩
theorem W_jump {X : eXT} {a : Nat → Nat} {q1 q2 q3 q4 q5 : Nat} {z : Nat → Int} {N : Int} {F : eFs} {P : Int → Int} {c n : Int} {h : eHs} (hF : okF N F) (hz : okZ z) (hcc : 0 ≤ c ∧ c ≤ 8) (hnn : 0 ≤ n ∧ n ≤ 7) {b x y : Int} (gb : -2147483648 ≤ b ∧ b ≤ 2147483647) (gx : -2147483648 ≤ x ∧ x ≤ 2147483647) (gy : -2147483648 ≤ y ∧ y ≤ 2147483647) :
    EM X mL_jump (eRt 10 2) a [.ref (a 0), vi b, vi x, vi y] (wMu a q1 q2 q3 q4 q5 z F P c n h) (qMu a q1 q2 q3 q4 q5 F 1 b x y) := by
  have hE : ∀ e, eEx (sHin F 1 b x y) = some e → e = xIx ∨ e = xAr ∨ e = xUn := by
    intro e he
    rcases hk_1 (F := F) (p := b) (q := x) (r := y) with w | w | w | w <;> rw [w] at he
    · exact absurd (show (none : Option String) = some e from he) (by simp)
    · injection (show some xIx = some e from he) with he
      subst he
      exact Or.inl rfl
    · injection (show some xAr = some e from he) with he
      subst he
      exact Or.inr (Or.inl rfl)
    · injection (show some xUn = some e from he) with he
      subst he
      exact Or.inr (Or.inr rfl)
  refine EM.of (by decide +kernel) rfl (Nat.le_of_ble_eq_true rfl) ?_
  refine e_aload_n dL_jump_0 rfl rfl ?_
  refine e_iload_n dL_jump_1 rfl rfl ?_
  refine e_iload_n dL_jump_2 rfl rfl ?_
  refine e_iload_n dL_jump_3 rfl rfl ?_
  refine e_cVwo (b' := (1, 6)) (m := 93) lk_L_25 rfl dL_jump_4 rfl (C_X6_jump (z := z) (F := F) (P := P) (c := c) (n := n) (h := h) hF hcc hnn (by omega) (by omega) (by omega)) rfl rfl (Nat.le_of_ble_eq_true rfl) (Nat.le_of_ble_eq_true rfl) (Nat.le_of_ble_eq_true rfl) ⟨(Nat.le_of_ble_eq_true rfl), (Nat.le_of_ble_eq_true rfl)⟩ rfl rfl rfl rfl rfl rfl rfl (fun ge => ?_) (fun e he => ?_)
  · exact e_iret dL_jump_7 rfl rfl ⟨rfl, ⟨_, rfl⟩, sDo F 1 b x y, z, P, (if 8 < c + 1 then 8 else c + 1), (if n + 1 < 8 then n + 1 else 0), hU h n.toNat F, rfl, Or.inl ⟨eEx_n0 (by rcases hk_1 (F := F) (p := b) (q := x) (r := y) with w | w | w | w <;> omega) ge, rfl⟩, hz, by split <;> omega, by split <;> omega⟩
  · rcases hE e he with hc | hc | hc <;> subst hc
    · refine e_catch (name := xIx) [] _ _ rfl (fun z hz => absurd hz List.not_mem_nil) rfl (by decide) wd_3_151 (List.mem_of_getElem? (i := 0) rfl) (fun q => ?_)
      refine f_astore dL_jump_8 rfl (Nat.le_of_ble_eq_true rfl) rfl ?_
      refine e_sipush dL_jump_10 rfl rfl ?_
      exact e_iret dL_jump_13 rfl rfl ⟨rfl, ⟨-25000, rfl⟩, F, zHi z F 1 b x y, P, c, n, h, rfl, Or.inr ⟨fun q => (by rw [q] at he; cases he), rfl⟩, zHi_ok hF hz, hcc, hnn⟩
    · refine e_catch (name := xAr) [_] _ _ rfl (fun z hz => Or.inr (by rw [List.mem_singleton.mp hz]; exact ⟨by decide, xIx, wd_3_151, List.mem_of_getElem? (i := 45) rfl⟩)) rfl (by decide) wd_3_146 (List.mem_of_getElem? (i := 1) rfl) (fun q => ?_)
      refine f_astore dL_jump_14 rfl (Nat.le_of_ble_eq_true rfl) rfl ?_
      refine e_sipush dL_jump_16 rfl rfl ?_
      exact e_iret dL_jump_19 rfl rfl ⟨rfl, ⟨-20000, rfl⟩, F, zHi z F 1 b x y, P, c, n, h, rfl, Or.inr ⟨fun q => (by rw [q] at he; cases he), rfl⟩, zHi_ok hF hz, hcc, hnn⟩
    · refine e_catch (name := xUn) [_, _] _ _ rfl (fun z hz => Or.inr (by rcases List.mem_cons.mp hz with e1 | e1; rw [e1]; exact ⟨by decide, xIx, wd_3_151, List.mem_of_getElem? (i := 68) rfl⟩; rw [List.mem_singleton.mp e1]; exact ⟨by decide, xAr, wd_3_146, List.mem_of_getElem? (i := 66) rfl⟩)) rfl (by decide) wd_3_239 (List.mem_of_getElem? (i := 4) rfl) (fun q => ?_)
      refine f_astore dL_jump_20 rfl (Nat.le_of_ble_eq_true rfl) rfl ?_
      refine e_sipush dL_jump_22 rfl rfl ?_
      exact e_iret dL_jump_25 rfl rfl ⟨rfl, ⟨-15000, rfl⟩, F, zHi z F 1 b x y, P, c, n, h, rfl, Or.inr ⟨fun q => (by rw [q] at he; cases he), rfl⟩, zHi_ok hF hz, hcc, hnn⟩
theorem W_setHandle {X : eXT} {a : Nat → Nat} {q1 q2 q3 q4 q5 : Nat} {z : Nat → Int} {N : Int} {F : eFs} {P : Int → Int} {c n : Int} {h : eHs} (hF : okF N F) (hz : okZ z) (hcc : 0 ≤ c ∧ c ≤ 8) (hnn : 0 ≤ n ∧ n ≤ 7) {b w : Int} (gb : -2147483648 ≤ b ∧ b ≤ 2147483647) (gw : -2147483648 ≤ w ∧ w ≤ 2147483647) :
    EM X mL_setHandle (eRt 10 2) a [.ref (a 0), vi b, vi w] (wMu a q1 q2 q3 q4 q5 z F P c n h) (qMu a q1 q2 q3 q4 q5 F 2 b w 0) := by
  have hE : ∀ e, eEx (sHin F 2 b w 0) = some e → e = xIx ∨ e = xAr := by
    intro e he
    rcases hk_2 (F := F) (p := b) (q := w) (r := 0) with w | w | w <;> rw [w] at he
    · exact absurd (show (none : Option String) = some e from he) (by simp)
    · injection (show some xIx = some e from he) with he
      subst he
      exact Or.inl rfl
    · injection (show some xAr = some e from he) with he
      subst he
      exact Or.inr rfl
  refine EM.of (by decide +kernel) rfl (Nat.le_of_ble_eq_true rfl) ?_
  refine e_aload_n dL_setHandle_0 rfl rfl ?_
  refine e_iload_n dL_setHandle_1 rfl rfl ?_
  refine e_iload_n dL_setHandle_2 rfl rfl ?_
  refine e_cVwo (b' := (1, 6)) (m := 93) lk_L_30 rfl dL_setHandle_3 rfl (C_X6_setHandle (z := z) (F := F) (P := P) (c := c) (n := n) (h := h) hF hcc hnn (by omega) (by omega)) rfl rfl (Nat.le_of_ble_eq_true rfl) (Nat.le_of_ble_eq_true rfl) (Nat.le_of_ble_eq_true rfl) ⟨(Nat.le_of_ble_eq_true rfl), (Nat.le_of_ble_eq_true rfl)⟩ rfl rfl rfl rfl rfl rfl rfl (fun ge => ?_) (fun e he => ?_)
  · exact e_iret dL_setHandle_6 rfl rfl ⟨rfl, ⟨_, rfl⟩, sDo F 2 b w 0, z, P, (if 8 < c + 1 then 8 else c + 1), (if n + 1 < 8 then n + 1 else 0), hU h n.toNat F, rfl, Or.inl ⟨eEx_n0 (by rcases hk_2 (F := F) (p := b) (q := w) (r := 0) with w | w | w <;> omega) ge, rfl⟩, hz, by split <;> omega, by split <;> omega⟩
  · rcases hE e he with hc | hc <;> subst hc
    · refine e_catch (name := xIx) [] _ _ rfl (fun z hz => absurd hz List.not_mem_nil) rfl (by decide) wd_3_151 (List.mem_of_getElem? (i := 0) rfl) (fun q => ?_)
      refine f_astore_n dL_setHandle_7 rfl (Nat.le_of_ble_eq_true rfl) rfl ?_
      refine e_sipush dL_setHandle_8 rfl rfl ?_
      exact e_iret dL_setHandle_11 rfl rfl ⟨rfl, ⟨-25000, rfl⟩, F, zHi z F 2 b w 0, P, c, n, h, rfl, Or.inr ⟨fun q => (by rw [q] at he; cases he), rfl⟩, zHi_ok hF hz, hcc, hnn⟩
    · refine e_catch (name := xAr) [_] _ _ rfl (fun z hz => Or.inr (by rw [List.mem_singleton.mp hz]; exact ⟨by decide, xIx, wd_3_151, List.mem_of_getElem? (i := 45) rfl⟩)) rfl (by decide) wd_3_146 (List.mem_of_getElem? (i := 1) rfl) (fun q => ?_)
      refine f_astore_n dL_setHandle_12 rfl (Nat.le_of_ble_eq_true rfl) rfl ?_
      refine e_sipush dL_setHandle_13 rfl rfl ?_
      exact e_iret dL_setHandle_16 rfl rfl ⟨rfl, ⟨-20000, rfl⟩, F, zHi z F 2 b w 0, P, c, n, h, rfl, Or.inr ⟨fun q => (by rw [q] at he; cases he), rfl⟩, zHi_ok hF hz, hcc, hnn⟩
theorem W_addCloud {X : eXT} {a : Nat → Nat} {q1 q2 q3 q4 q5 : Nat} {z : Nat → Int} {N : Int} {F : eFs} {P : Int → Int} {c n : Int} {h : eHs} (hF : okF N F) (hz : okZ z) (hcc : 0 ≤ c ∧ c ≤ 8) (hnn : 0 ≤ n ∧ n ≤ 7) {x y : Int} (gx : -2147483648 ≤ x ∧ x ≤ 2147483647) (gy : -2147483648 ≤ y ∧ y ≤ 2147483647) :
    EM X mL_addCloud (eRt 10 2) a [.ref (a 0), vi x, vi y] (wMu a q1 q2 q3 q4 q5 z F P c n h) (qMu a q1 q2 q3 q4 q5 F 3 x y 0) := by
  have hE : ∀ e, eEx (sHin F 3 x y 0) = some e → e = xAr ∨ e = xSt ∨ e = xUn := by
    intro e he
    rcases hk_3 (F := F) (p := x) (q := y) (r := 0) with w | w | w | w <;> rw [w] at he
    · exact absurd (show (none : Option String) = some e from he) (by simp)
    · injection (show some xAr = some e from he) with he
      subst he
      exact Or.inl rfl
    · injection (show some xSt = some e from he) with he
      subst he
      exact Or.inr (Or.inl rfl)
    · injection (show some xUn = some e from he) with he
      subst he
      exact Or.inr (Or.inr rfl)
  refine EM.of (by decide +kernel) rfl (Nat.le_of_ble_eq_true rfl) ?_
  refine e_aload_n dL_addCloud_0 rfl rfl ?_
  refine e_iload_n dL_addCloud_1 rfl rfl ?_
  refine e_iload_n dL_addCloud_2 rfl rfl ?_
  refine e_cVwo (b' := (1, 6)) (m := 93) lk_L_43 rfl dL_addCloud_3 rfl (C_X6_addCloud (z := z) (F := F) (P := P) (c := c) (n := n) (h := h) hF hcc hnn (by omega) (by omega)) rfl rfl (Nat.le_of_ble_eq_true rfl) (Nat.le_of_ble_eq_true rfl) (Nat.le_of_ble_eq_true rfl) ⟨(Nat.le_of_ble_eq_true rfl), (Nat.le_of_ble_eq_true rfl)⟩ rfl rfl rfl rfl rfl rfl rfl (fun ge => ?_) (fun e he => ?_)
  · exact e_iret dL_addCloud_6 rfl rfl ⟨rfl, ⟨_, rfl⟩, sDo F 3 x y 0, z, P, (if 8 < c + 1 then 8 else c + 1), (if n + 1 < 8 then n + 1 else 0), hU h n.toNat F, rfl, Or.inl ⟨eEx_n0 (by rcases hk_3 (F := F) (p := x) (q := y) (r := 0) with w | w | w | w <;> omega) ge, rfl⟩, hz, by split <;> omega, by split <;> omega⟩
  · rcases hE e he with hc | hc | hc <;> subst hc
    · refine e_catch (name := xAr) [] _ _ rfl (fun z hz => absurd hz List.not_mem_nil) rfl (by decide) wd_3_146 (List.mem_of_getElem? (i := 1) rfl) (fun q => ?_)
      refine f_astore_n dL_addCloud_7 rfl (Nat.le_of_ble_eq_true rfl) rfl ?_
      refine e_sipush dL_addCloud_8 rfl rfl ?_
      exact e_iret dL_addCloud_11 rfl rfl ⟨rfl, ⟨-20000, rfl⟩, F, zHi z F 3 x y 0, P, c, n, h, rfl, Or.inr ⟨fun q => (by rw [q] at he; cases he), rfl⟩, zHi_ok hF hz, hcc, hnn⟩
    · refine e_catch (name := xSt) [_] _ _ rfl (fun z hz => Or.inr (by rw [List.mem_singleton.mp hz]; exact ⟨by decide, xAr, wd_3_146, List.mem_of_getElem? (i := 48) rfl⟩)) rfl (by decide) wd_3_238 (List.mem_of_getElem? (i := 2) rfl) (fun q => ?_)
      refine f_astore_n dL_addCloud_12 rfl (Nat.le_of_ble_eq_true rfl) rfl ?_
      refine e_sipush dL_addCloud_13 rfl rfl ?_
      exact e_iret dL_addCloud_16 rfl rfl ⟨rfl, ⟨-10000, rfl⟩, F, zHi z F 3 x y 0, P, c, n, h, rfl, Or.inr ⟨fun q => (by rw [q] at he; cases he), rfl⟩, zHi_ok hF hz, hcc, hnn⟩
    · refine e_catch (name := xUn) [_, _] _ _ rfl (fun z hz => Or.inr (by rcases List.mem_cons.mp hz with e1 | e1; rw [e1]; exact ⟨by decide, xAr, wd_3_146, List.mem_of_getElem? (i := 66) rfl⟩; rw [List.mem_singleton.mp e1]; exact ⟨by decide, xSt, wd_3_238, List.mem_of_getElem? (i := 67) rfl⟩)) rfl (by decide) wd_3_239 (List.mem_of_getElem? (i := 4) rfl) (fun q => ?_)
      refine f_astore_n dL_addCloud_17 rfl (Nat.le_of_ble_eq_true rfl) rfl ?_
      refine e_sipush dL_addCloud_18 rfl rfl ?_
      exact e_iret dL_addCloud_21 rfl rfl ⟨rfl, ⟨-15000, rfl⟩, F, zHi z F 3 x y 0, P, c, n, h, rfl, Or.inr ⟨fun q => (by rw [q] at he; cases he), rfl⟩, zHi_ok hF hz, hcc, hnn⟩
theorem W_removeCloud {X : eXT} {a : Nat → Nat} {q1 q2 q3 q4 q5 : Nat} {z : Nat → Int} {N : Int} {F : eFs} {P : Int → Int} {c n : Int} {h : eHs} (hF : okF N F) (hz : okZ z) (hcc : 0 ≤ c ∧ c ≤ 8) (hnn : 0 ≤ n ∧ n ≤ 7) {x y : Int} (gx : -2147483648 ≤ x ∧ x ≤ 2147483647) (gy : -2147483648 ≤ y ∧ y ≤ 2147483647) :
    EM X mL_removeCloud (eRt 10 2) a [.ref (a 0), vi x, vi y] (wMu a q1 q2 q3 q4 q5 z F P c n h) (qMu a q1 q2 q3 q4 q5 F 4 x y 0) := by
  have hE : ∀ e, eEx (sHin F 4 x y 0) = some e → e = xAr ∨ e = xNo := by
    intro e he
    rcases hk_4 (F := F) (p := x) (q := y) (r := 0) with w | w | w <;> rw [w] at he
    · exact absurd (show (none : Option String) = some e from he) (by simp)
    · injection (show some xAr = some e from he) with he
      subst he
      exact Or.inl rfl
    · injection (show some xNo = some e from he) with he
      subst he
      exact Or.inr rfl
  refine EM.of (by decide +kernel) rfl (Nat.le_of_ble_eq_true rfl) ?_
  refine e_aload_n dL_removeCloud_0 rfl rfl ?_
  refine e_iload_n dL_removeCloud_1 rfl rfl ?_
  refine e_iload_n dL_removeCloud_2 rfl rfl ?_
  refine e_cVwo (b' := (1, 6)) (m := 93) lk_L_46 rfl dL_removeCloud_3 rfl (C_X6_removeCloud (z := z) (F := F) (P := P) (c := c) (n := n) (h := h) hF hcc hnn (by omega) (by omega)) rfl rfl (Nat.le_of_ble_eq_true rfl) (Nat.le_of_ble_eq_true rfl) (Nat.le_of_ble_eq_true rfl) ⟨(Nat.le_of_ble_eq_true rfl), (Nat.le_of_ble_eq_true rfl)⟩ rfl rfl rfl rfl rfl rfl rfl (fun ge => ?_) (fun e he => ?_)
  · exact e_iret dL_removeCloud_6 rfl rfl ⟨rfl, ⟨_, rfl⟩, sDo F 4 x y 0, z, P, (if 8 < c + 1 then 8 else c + 1), (if n + 1 < 8 then n + 1 else 0), hU h n.toNat F, rfl, Or.inl ⟨eEx_n0 (by rcases hk_4 (F := F) (p := x) (q := y) (r := 0) with w | w | w <;> omega) ge, rfl⟩, hz, by split <;> omega, by split <;> omega⟩
  · rcases hE e he with hc | hc <;> subst hc
    · refine e_catch (name := xAr) [] _ _ rfl (fun z hz => absurd hz List.not_mem_nil) rfl (by decide) wd_3_146 (List.mem_of_getElem? (i := 1) rfl) (fun q => ?_)
      refine f_astore_n dL_removeCloud_7 rfl (Nat.le_of_ble_eq_true rfl) rfl ?_
      refine e_sipush dL_removeCloud_8 rfl rfl ?_
      exact e_iret dL_removeCloud_11 rfl rfl ⟨rfl, ⟨-20000, rfl⟩, F, zHi z F 4 x y 0, P, c, n, h, rfl, Or.inr ⟨fun q => (by rw [q] at he; cases he), rfl⟩, zHi_ok hF hz, hcc, hnn⟩
    · refine e_catch (name := xNo) [_] _ _ rfl (fun z hz => Or.inr (by rw [List.mem_singleton.mp hz]; exact ⟨by decide, xAr, wd_3_146, List.mem_of_getElem? (i := 70) rfl⟩)) rfl (by decide) wd_3_147 (List.mem_of_getElem? (i := 3) rfl) (fun q => ?_)
      refine f_astore_n dL_removeCloud_12 rfl (Nat.le_of_ble_eq_true rfl) rfl ?_
      refine e_sipush dL_removeCloud_13 rfl rfl ?_
      exact e_iret dL_removeCloud_16 rfl rfl ⟨rfl, ⟨-30000, rfl⟩, F, zHi z F 4 x y 0, P, c, n, h, rfl, Or.inr ⟨fun q => (by rw [q] at he; cases he), rfl⟩, zHi_ok hF hz, hcc, hnn⟩
theorem W_setTurnLength {X : eXT} {a : Nat → Nat} {q1 q2 q3 q4 q5 : Nat} {z : Nat → Int} {N : Int} {F : eFs} {P : Int → Int} {c n : Int} {h : eHs} (hF : okF N F) (hz : okZ z) (hcc : 0 ≤ c ∧ c ≤ 8) (hnn : 0 ≤ n ∧ n ≤ 7) {s : Int} (gs : -2147483648 ≤ s ∧ s ≤ 2147483647) :
    EM X mL_setTurnLength (eRt 10 2) a [.ref (a 0), vi s] (wMu a q1 q2 q3 q4 q5 z F P c n h) (qMu a q1 q2 q3 q4 q5 F 5 s 0 0) := by
  have hE : ∀ e, eEx (sHin F 5 s 0 0) = some e → e = xAr := by
    intro e he
    rcases hk_5 (F := F) (p := s) (q := 0) (r := 0) with w | w <;> rw [w] at he
    · exact absurd (show (none : Option String) = some e from he) (by simp)
    · injection (show some xAr = some e from he) with he
      subst he
      exact rfl
  refine EM.of (by decide +kernel) rfl (Nat.le_of_ble_eq_true rfl) ?_
  refine e_aload_n dL_setTurnLength_0 rfl rfl ?_
  refine e_iload_n dL_setTurnLength_1 rfl rfl ?_
  refine e_cVwo (b' := (1, 6)) (m := 93) lk_L_49 rfl dL_setTurnLength_2 rfl (C_X6_setTurnLength (z := z) (F := F) (P := P) (c := c) (n := n) (h := h) hF hcc hnn (by omega)) rfl rfl (Nat.le_of_ble_eq_true rfl) (Nat.le_of_ble_eq_true rfl) (Nat.le_of_ble_eq_true rfl) ⟨(Nat.le_of_ble_eq_true rfl), (Nat.le_of_ble_eq_true rfl)⟩ rfl rfl rfl rfl rfl rfl rfl (fun ge => ?_) (fun e he => ?_)
  · exact e_iret dL_setTurnLength_5 rfl rfl ⟨rfl, ⟨_, rfl⟩, sDo F 5 s 0 0, z, P, (if 8 < c + 1 then 8 else c + 1), (if n + 1 < 8 then n + 1 else 0), hU h n.toNat F, rfl, Or.inl ⟨eEx_n0 (by rcases hk_5 (F := F) (p := s) (q := 0) (r := 0) with w | w <;> omega) ge, rfl⟩, hz, by split <;> omega, by split <;> omega⟩
  · have hc := hE e he
    subst hc
    refine e_catch (name := xAr) [] _ _ rfl (fun z hz => absurd hz List.not_mem_nil) rfl (by decide) wd_3_146 (List.mem_of_getElem? (i := 1) rfl) (fun q => ?_)
    refine f_astore_n dL_setTurnLength_6 rfl (Nat.le_of_ble_eq_true rfl) rfl ?_
    refine e_sipush dL_setTurnLength_7 rfl rfl ?_
    exact e_iret dL_setTurnLength_10 rfl rfl ⟨rfl, ⟨-20000, rfl⟩, F, zHi z F 5 s 0 0, P, c, n, h, rfl, Or.inr ⟨fun q => (by rw [q] at he; cases he), rfl⟩, zHi_ok hF hz, hcc, hnn⟩
theorem W_setTarget {X : eXT} {a : Nat → Nat} {q1 q2 q3 q4 q5 : Nat} {z : Nat → Int} {N : Int} {F : eFs} {P : Int → Int} {c n : Int} {h : eHs} (hF : okF N F) (hz : okZ z) (hcc : 0 ≤ c ∧ c ≤ 8) (hnn : 0 ≤ n ∧ n ≤ 7) {x y : Int} (gx : -2147483648 ≤ x ∧ x ≤ 2147483647) (gy : -2147483648 ≤ y ∧ y ≤ 2147483647) :
    EM X mL_setTarget (eRt 10 2) a [.ref (a 0), vi x, vi y] (wMu a q1 q2 q3 q4 q5 z F P c n h) (qMu a q1 q2 q3 q4 q5 F 6 x y 0) := by
  have hE : ∀ e, eEx (sHin F 6 x y 0) = some e → e = xAr ∨ e = xNo := by
    intro e he
    rcases hk_6 (F := F) (p := x) (q := y) (r := 0) with w | w | w <;> rw [w] at he
    · exact absurd (show (none : Option String) = some e from he) (by simp)
    · injection (show some xAr = some e from he) with he
      subst he
      exact Or.inl rfl
    · injection (show some xNo = some e from he) with he
      subst he
      exact Or.inr rfl
  refine EM.of (by decide +kernel) rfl (Nat.le_of_ble_eq_true rfl) ?_
  refine e_aload_n dL_setTarget_0 rfl rfl ?_
  refine e_iload_n dL_setTarget_1 rfl rfl ?_
  refine e_iload_n dL_setTarget_2 rfl rfl ?_
  refine e_cVwo (b' := (1, 6)) (m := 93) lk_L_58 rfl dL_setTarget_3 rfl (C_X6_setTarget (z := z) (F := F) (P := P) (c := c) (n := n) (h := h) hF hcc hnn (by omega) (by omega)) rfl rfl (Nat.le_of_ble_eq_true rfl) (Nat.le_of_ble_eq_true rfl) (Nat.le_of_ble_eq_true rfl) ⟨(Nat.le_of_ble_eq_true rfl), (Nat.le_of_ble_eq_true rfl)⟩ rfl rfl rfl rfl rfl rfl rfl (fun ge => ?_) (fun e he => ?_)
  · exact e_iret dL_setTarget_6 rfl rfl ⟨rfl, ⟨_, rfl⟩, sDo F 6 x y 0, z, P, (if 8 < c + 1 then 8 else c + 1), (if n + 1 < 8 then n + 1 else 0), hU h n.toNat F, rfl, Or.inl ⟨eEx_n0 (by rcases hk_6 (F := F) (p := x) (q := y) (r := 0) with w | w | w <;> omega) ge, rfl⟩, hz, by split <;> omega, by split <;> omega⟩
  · rcases hE e he with hc | hc <;> subst hc
    · refine e_catch (name := xAr) [] _ _ rfl (fun z hz => absurd hz List.not_mem_nil) rfl (by decide) wd_3_146 (List.mem_of_getElem? (i := 1) rfl) (fun q => ?_)
      refine f_astore_n dL_setTarget_7 rfl (Nat.le_of_ble_eq_true rfl) rfl ?_
      refine e_sipush dL_setTarget_8 rfl rfl ?_
      exact e_iret dL_setTarget_11 rfl rfl ⟨rfl, ⟨-20000, rfl⟩, F, zHi z F 6 x y 0, P, c, n, h, rfl, Or.inr ⟨fun q => (by rw [q] at he; cases he), rfl⟩, zHi_ok hF hz, hcc, hnn⟩
    · refine e_catch (name := xNo) [_] _ _ rfl (fun z hz => Or.inr (by rw [List.mem_singleton.mp hz]; exact ⟨by decide, xAr, wd_3_146, List.mem_of_getElem? (i := 70) rfl⟩)) rfl (by decide) wd_3_147 (List.mem_of_getElem? (i := 3) rfl) (fun q => ?_)
      refine f_astore_n dL_setTarget_12 rfl (Nat.le_of_ble_eq_true rfl) rfl ?_
      refine e_sipush dL_setTarget_13 rfl rfl ?_
      exact e_iret dL_setTarget_16 rfl rfl ⟨rfl, ⟨-30000, rfl⟩, F, zHi z F 6 x y 0, P, c, n, h, rfl, Or.inr ⟨fun q => (by rw [q] at he; cases he), rfl⟩, zHi_ok hF hz, hcc, hnn⟩
theorem W_setKeep {X : eXT} {a : Nat → Nat} {q1 q2 q3 q4 q5 : Nat} {z : Nat → Int} {N : Int} {F : eFs} {P : Int → Int} {c n : Int} {h : eHs} (hF : okF N F) (hz : okZ z) (hcc : 0 ≤ c ∧ c ≤ 8) (hnn : 0 ≤ n ∧ n ≤ 7) {s : Int} (gs : -2147483648 ≤ s ∧ s ≤ 2147483647) :
    EM X mL_setKeep (eRt 10 2) a [.ref (a 0), vi s] (wMu a q1 q2 q3 q4 q5 z F P c n h) (qMu a q1 q2 q3 q4 q5 F 7 s 0 0) := by
  have hE : ∀ e, eEx (sHin F 7 s 0 0) = some e → e = xAr := by
    intro e he
    rcases hk_7 (F := F) (p := s) (q := 0) (r := 0) with w | w <;> rw [w] at he
    · exact absurd (show (none : Option String) = some e from he) (by simp)
    · injection (show some xAr = some e from he) with he
      subst he
      exact rfl
  refine EM.of (by decide +kernel) rfl (Nat.le_of_ble_eq_true rfl) ?_
  refine e_aload_n dL_setKeep_0 rfl rfl ?_
  refine e_iload_n dL_setKeep_1 rfl rfl ?_
  refine e_cVwo (b' := (1, 6)) (m := 93) lk_L_61 rfl dL_setKeep_2 rfl (C_X6_setKeep (z := z) (F := F) (P := P) (c := c) (n := n) (h := h) hF hcc hnn (by omega)) rfl rfl (Nat.le_of_ble_eq_true rfl) (Nat.le_of_ble_eq_true rfl) (Nat.le_of_ble_eq_true rfl) ⟨(Nat.le_of_ble_eq_true rfl), (Nat.le_of_ble_eq_true rfl)⟩ rfl rfl rfl rfl rfl rfl rfl (fun ge => ?_) (fun e he => ?_)
  · exact e_iret dL_setKeep_5 rfl rfl ⟨rfl, ⟨_, rfl⟩, sDo F 7 s 0 0, z, P, (if 8 < c + 1 then 8 else c + 1), (if n + 1 < 8 then n + 1 else 0), hU h n.toNat F, rfl, Or.inl ⟨eEx_n0 (by rcases hk_7 (F := F) (p := s) (q := 0) (r := 0) with w | w <;> omega) ge, rfl⟩, hz, by split <;> omega, by split <;> omega⟩
  · have hc := hE e he
    subst hc
    refine e_catch (name := xAr) [] _ _ rfl (fun z hz => absurd hz List.not_mem_nil) rfl (by decide) wd_3_146 (List.mem_of_getElem? (i := 1) rfl) (fun q => ?_)
    refine f_astore_n dL_setKeep_6 rfl (Nat.le_of_ble_eq_true rfl) rfl ?_
    refine e_sipush dL_setKeep_7 rfl rfl ?_
    exact e_iret dL_setKeep_10 rfl rfl ⟨rfl, ⟨-20000, rfl⟩, F, zHi z F 7 s 0 0, P, c, n, h, rfl, Or.inr ⟨fun q => (by rw [q] at he; cases he), rfl⟩, zHi_ok hF hz, hcc, hnn⟩
theorem W_advance {X : eXT} {a : Nat → Nat} {q1 q2 q3 q4 q5 : Nat} {z : Nat → Int} {N : Int} {F : eFs} {P : Int → Int} {c n : Int} {h : eHs} (hF : okF N F) (hz : okZ z) (hcc : 0 ≤ c ∧ c ≤ 8) (hnn : 0 ≤ n ∧ n ≤ 7) {s : Int} (gs : -2147483648 ≤ s ∧ s ≤ 2147483647) (hNs : N + 20000 ≤ 100000000) :
    EM X mL_advance (eRt 10 2) a [.ref (a 0), vi s] (wMu a q1 q2 q3 q4 q5 z F P c n h) (qMu a q1 q2 q3 q4 q5 F 8 s 0 0) := by
  have hE : ∀ e, eEx (sHin F 8 s 0 0) = some e → e = xAr := by
    intro e he
    rcases hk_8 (F := F) (p := s) (q := 0) (r := 0) with w | w <;> rw [w] at he
    · exact absurd (show (none : Option String) = some e from he) (by simp)
    · injection (show some xAr = some e from he) with he
      subst he
      exact rfl
  refine EM.of (by decide +kernel) rfl (Nat.le_of_ble_eq_true rfl) ?_
  refine e_aload_n dL_advance_0 rfl rfl ?_
  refine e_iload_n dL_advance_1 rfl rfl ?_
  refine e_cVwo (b' := (1, 6)) (m := 93) lk_L_64 rfl dL_advance_2 rfl (C_X6_advance (z := z) (F := F) (P := P) (c := c) (n := n) (h := h) hF hcc hnn (by omega) hNs) rfl rfl (Nat.le_of_ble_eq_true rfl) (Nat.le_of_ble_eq_true rfl) (Nat.le_of_ble_eq_true rfl) ⟨(Nat.le_of_ble_eq_true rfl), (Nat.le_of_ble_eq_true rfl)⟩ rfl rfl rfl rfl rfl rfl rfl (fun ge => ?_) (fun e he => ?_)
  · exact e_iret dL_advance_5 rfl rfl ⟨rfl, ⟨_, rfl⟩, sDo F 8 s 0 0, z, (sStsP (s - 0).toNat F P), (if 8 < c + 1 then 8 else c + 1), (if n + 1 < 8 then n + 1 else 0), hU h n.toNat F, rfl, Or.inl ⟨eEx_n0 (by rcases hk_8 (F := F) (p := s) (q := 0) (r := 0) with w | w <;> omega) ge, rfl⟩, hz, by split <;> omega, by split <;> omega⟩
  · have hc := hE e he
    subst hc
    refine e_catch (name := xAr) [] _ _ rfl (fun z hz => absurd hz List.not_mem_nil) rfl (by decide) wd_3_146 (List.mem_of_getElem? (i := 1) rfl) (fun q => ?_)
    refine f_astore_n dL_advance_6 rfl (Nat.le_of_ble_eq_true rfl) rfl ?_
    refine e_sipush dL_advance_7 rfl rfl ?_
    exact e_iret dL_advance_10 rfl rfl ⟨rfl, ⟨-20000, rfl⟩, F, zHi z F 8 s 0 0, P, c, n, h, rfl, Or.inr ⟨fun q => (by rw [q] at he; cases he), rfl⟩, zHi_ok hF hz, hcc, hnn⟩
theorem W_nearestTo {X : eXT} {a : Nat → Nat} {q1 q2 q3 q4 q5 q6 : Nat} {z : Nat → Int} {N : Int} {F : eFs} {P : Int → Int} (hF : okF N F) {b : Int} (hb : sHas F b) :
    EM X mL_nearestTo (eRt 10 2) a [.ref (a 0), vi b] (wO (a 1) q1 q2 q3 q4 q5 q6 z :: wFl (fun k => a (1 + k)) F P) (eRet (some (vi (if sNear F b = -1 then -30000 else sNear F b))) a (wO (a 1) q1 q2 q3 q4 q5 q6 z :: wFl (fun k => a (1 + k)) F P)) := by
  have hE : ∀ e, (if sHas F b then (if ¬ sNear F b = -1 then none else some xNo) else some xIx) = some e → e = xIx ∨ e = xNo := by
    intro e he
    (repeat' split at he) <;> first | (cases he; done) | (injection he with he; subst he; first | exact rfl | exact Or.inl rfl | exact Or.inr rfl | exact Or.inr (Or.inl rfl) | exact Or.inr (Or.inr rfl))
  refine EM.of (by decide +kernel) rfl (Nat.le_of_ble_eq_true rfl) ?_
  refine e_aload_n dL_nearestTo_0 rfl rfl ?_
  refine e_iload_n dL_nearestTo_1 rfl rfl ?_
  refine e_cVwo (b' := (0, 0)) (m := 11) lk_L_39 rfl dL_nearestTo_2 rfl (C_X6_nearestTo (z := z) (F := F) (P := P) hF (by have := hF.1; omega)) rfl rfl (Nat.le_of_ble_eq_true rfl) (Nat.le_of_ble_eq_true rfl) (Nat.le_of_ble_eq_true rfl) ⟨(Nat.le_of_ble_eq_true rfl), (Nat.le_of_ble_eq_true rfl)⟩ rfl rfl rfl rfl rfl rfl rfl (fun ge => ?_) (fun e he => ?_)
  · exact e_iret dL_nearestTo_5 rfl rfl ⟨by rw [if_neg (fun q => by rw [if_pos hb, if_neg (fun w => w q)] at ge; cases ge)], rfl, rfl⟩
  · rcases hE e he with hc | hc <;> subst hc
    · refine e_catch (name := xIx) [] _ _ rfl (fun z hz => absurd hz List.not_mem_nil) rfl (by decide) wd_3_151 (List.mem_of_getElem? (i := 0) rfl) (fun q => ?_)
      refine f_astore_n dL_nearestTo_6 rfl (Nat.le_of_ble_eq_true rfl) rfl ?_
      refine e_sipush dL_nearestTo_7 rfl rfl ?_
      exact e_iret dL_nearestTo_10 rfl rfl (absurd he (by rw [if_pos hb]; split <;> (intro w; first | (cases w; done) | exact absurd (Option.some.inj w) (by decide))))
    · refine e_catch (name := xNo) [_] _ _ rfl (fun z hz => Or.inr (by rw [List.mem_singleton.mp hz]; exact ⟨by decide, xIx, wd_3_151, List.mem_of_getElem? (i := 72) rfl⟩)) rfl (by decide) wd_3_147 (List.mem_of_getElem? (i := 3) rfl) (fun q => ?_)
      refine f_astore_n dL_nearestTo_11 rfl (Nat.le_of_ble_eq_true rfl) rfl ?_
      refine e_sipush dL_nearestTo_12 rfl rfl ?_
      exact e_iret dL_nearestTo_15 rfl rfl ⟨(by rw [if_pos (Decidable.byContradiction fun q => by rw [if_pos hb, if_pos q] at he; cases he)]; try rfl), rfl, rfl⟩
theorem W_basketAt {X : eXT} {a : Nat → Nat} {q1 q2 q3 q4 q5 q6 : Nat} {z : Nat → Int} {N : Int} {F : eFs} {P : Int → Int} (hF : okF N F) {x y : Int} (hin : sIn x y) :
    EM X mL_basketAt (eRt 10 2) a [.ref (a 0), vi x, vi y] (wO (a 1) q1 q2 q3 q4 q5 q6 z :: wFl (fun k => a (1 + k)) F P) (eRet (some (vi (if sAt F x y = -1 then -30000 else sAt F x y))) a (wO (a 1) q1 q2 q3 q4 q5 q6 z :: wFl (fun k => a (1 + k)) F P)) := by
  have hE : ∀ e, (if sIn x y then (if ¬ sAt F x y = -1 then none else some xNo) else some xAr) = some e → e = xAr ∨ e = xNo := by
    intro e he
    (repeat' split at he) <;> first | (cases he; done) | (injection he with he; subst he; first | exact rfl | exact Or.inl rfl | exact Or.inr rfl | exact Or.inr (Or.inl rfl) | exact Or.inr (Or.inr rfl))
  refine EM.of (by decide +kernel) rfl (Nat.le_of_ble_eq_true rfl) ?_
  refine e_aload_n dL_basketAt_0 rfl rfl ?_
  refine e_iload_n dL_basketAt_1 rfl rfl ?_
  refine e_iload_n dL_basketAt_2 rfl rfl ?_
  refine e_cVwo (b' := (0, 0)) (m := 11) lk_L_34 rfl dL_basketAt_3 rfl (C_X6_basketAt (z := z) (F := F) (P := P) hF (by omega) (by omega)) rfl rfl (Nat.le_of_ble_eq_true rfl) (Nat.le_of_ble_eq_true rfl) (Nat.le_of_ble_eq_true rfl) ⟨(Nat.le_of_ble_eq_true rfl), (Nat.le_of_ble_eq_true rfl)⟩ rfl rfl rfl rfl rfl rfl rfl (fun ge => ?_) (fun e he => ?_)
  · exact e_iret dL_basketAt_6 rfl rfl ⟨by rw [if_neg (fun q => by rw [if_pos hin, if_neg (fun w => w q)] at ge; cases ge)], rfl, rfl⟩
  · rcases hE e he with hc | hc <;> subst hc
    · refine e_catch (name := xAr) [] _ _ rfl (fun z hz => absurd hz List.not_mem_nil) rfl (by decide) wd_3_146 (List.mem_of_getElem? (i := 1) rfl) (fun q => ?_)
      refine f_astore_n dL_basketAt_7 rfl (Nat.le_of_ble_eq_true rfl) rfl ?_
      refine e_sipush dL_basketAt_8 rfl rfl ?_
      exact e_iret dL_basketAt_11 rfl rfl (absurd he (by rw [if_pos hin]; split <;> (intro w; first | (cases w; done) | exact absurd (Option.some.inj w) (by decide))))
    · refine e_catch (name := xNo) [_] _ _ rfl (fun z hz => Or.inr (by rw [List.mem_singleton.mp hz]; exact ⟨by decide, xAr, wd_3_146, List.mem_of_getElem? (i := 70) rfl⟩)) rfl (by decide) wd_3_147 (List.mem_of_getElem? (i := 3) rfl) (fun q => ?_)
      refine f_astore_n dL_basketAt_12 rfl (Nat.le_of_ble_eq_true rfl) rfl ?_
      refine e_sipush dL_basketAt_13 rfl rfl ?_
      exact e_iret dL_basketAt_16 rfl rfl ⟨(by rw [if_pos (Decidable.byContradiction fun q => by rw [if_pos hin, if_pos q] at he; cases he)]; try rfl), rfl, rfl⟩
theorem W_stepsSinceShape {X : eXT} {a : Nat → Nat} {q1 q2 q3 q4 q5 q6 : Nat} {z : Nat → Int} {N : Int} {F : eFs} {P : Int → Int} (hF : okF N F)  :
    EM X mL_stepsSinceShape (eRt 10 2) a [.ref (a 0)] (wO (a 1) q1 q2 q3 q4 q5 q6 z :: wFl (fun k => a (1 + k)) F P) (eRet (some (vi (if sSince F = -1 then -30000 else sSince F))) a (wO (a 1) q1 q2 q3 q4 q5 q6 z :: wFl (fun k => a (1 + k)) F (sShp F))) := by
  have hE : ∀ e, (if ¬ sSince F = -1 then none else some xNo) = some e → e = xNo := by
    intro e he
    (repeat' split at he) <;> first | (cases he; done) | (injection he with he; subst he; first | exact rfl | exact Or.inl rfl | exact Or.inr rfl | exact Or.inr (Or.inl rfl) | exact Or.inr (Or.inr rfl))
  refine EM.of (by decide +kernel) rfl (Nat.le_of_ble_eq_true rfl) ?_
  refine e_aload_n dL_stepsSinceShape_0 rfl rfl ?_
  refine e_cVwo (b' := (0, 0)) (m := 11) lk_L_67 rfl dL_stepsSinceShape_1 rfl (C_X6_stepsSinceShape (z := z) (F := F) (P := P) hF) rfl rfl (Nat.le_of_ble_eq_true rfl) (Nat.le_of_ble_eq_true rfl) (Nat.le_of_ble_eq_true rfl) ⟨(Nat.le_of_ble_eq_true rfl), (Nat.le_of_ble_eq_true rfl)⟩ rfl rfl rfl rfl rfl rfl rfl (fun ge => ?_) (fun e he => ?_)
  · exact e_iret dL_stepsSinceShape_4 rfl rfl ⟨by rw [if_neg (fun q => by rw [if_neg (fun w => w q)] at ge; cases ge)], rfl, rfl⟩
  · have hc := hE e he
    subst hc
    refine e_catch (name := xNo) [] _ _ rfl (fun z hz => absurd hz List.not_mem_nil) rfl (by decide) wd_3_147 (List.mem_of_getElem? (i := 3) rfl) (fun q => ?_)
    refine f_astore_n dL_stepsSinceShape_5 rfl (Nat.le_of_ble_eq_true rfl) rfl ?_
    refine e_sipush dL_stepsSinceShape_6 rfl rfl ?_
    exact e_iret dL_stepsSinceShape_9 rfl rfl ⟨(by rw [if_pos (Decidable.byContradiction fun q => by rw [if_pos q] at he; cases he)]; try rfl), rfl, rfl⟩
theorem W_basketAtRank {X : eXT} {a : Nat → Nat} {q1 q2 q3 q4 q5 q6 : Nat} {z : Nat → Int} {N : Int} {F : eFs} {P : Int → Int} (hF : okF N F) {r : Int} (gr : -2147483648 ≤ r ∧ r ≤ 2147483647) :
    EM X mL_basketAtRank (eRt 10 2) a [.ref (a 0), vi r] (wO (a 1) q1 q2 q3 q4 q5 q6 z :: wFl (fun k => a (1 + k)) F P) (eRet (some (vi (if sWithRk F r = -1 then -30000 else sWithRk F r))) a (wO (a 1) q1 q2 q3 q4 q5 q6 z :: wFl (fun k => a (1 + k)) F P)) := by
  have hE : ∀ e, (if ¬ sWithRk F r = -1 then none else some xNo) = some e → e = xNo := by
    intro e he
    (repeat' split at he) <;> first | (cases he; done) | (injection he with he; subst he; first | exact rfl | exact Or.inl rfl | exact Or.inr rfl | exact Or.inr (Or.inl rfl) | exact Or.inr (Or.inr rfl))
  refine EM.of (by decide +kernel) rfl (Nat.le_of_ble_eq_true rfl) ?_
  refine e_aload_n dL_basketAtRank_0 rfl rfl ?_
  refine e_iload_n dL_basketAtRank_1 rfl rfl ?_
  refine e_cVwo (b' := (0, 0)) (m := 11) lk_L_71 rfl dL_basketAtRank_2 rfl (C_X6_basketAtRank (z := z) (F := F) (P := P) hF (by omega)) rfl rfl (Nat.le_of_ble_eq_true rfl) (Nat.le_of_ble_eq_true rfl) (Nat.le_of_ble_eq_true rfl) ⟨(Nat.le_of_ble_eq_true rfl), (Nat.le_of_ble_eq_true rfl)⟩ rfl rfl rfl rfl rfl rfl rfl (fun ge => ?_) (fun e he => ?_)
  · exact e_iret dL_basketAtRank_5 rfl rfl ⟨by rw [if_neg (fun q => by rw [if_neg (fun w => w q)] at ge; cases ge)], rfl, rfl⟩
  · have hc := hE e he
    subst hc
    refine e_catch (name := xNo) [] _ _ rfl (fun z hz => absurd hz List.not_mem_nil) rfl (by decide) wd_3_147 (List.mem_of_getElem? (i := 3) rfl) (fun q => ?_)
    refine f_astore_n dL_basketAtRank_6 rfl (Nat.le_of_ble_eq_true rfl) rfl ?_
    refine e_sipush dL_basketAtRank_7 rfl rfl ?_
    exact e_iret dL_basketAtRank_10 rfl rfl ⟨(by rw [if_pos (Decidable.byContradiction fun q => by rw [if_pos q] at he; cases he)]; try rfl), rfl, rfl⟩
theorem W_leaderAfter {X : eXT} {a : Nat → Nat} {q1 q2 q3 q4 q5 q6 : Nat} {z : Nat → Int} {N : Int} {F : eFs} {P : Int → Int} (hF : okF N F) {s : Int} (hs : 0 ≤ s ∧ s ≤ 99) (h1 : 1 ≤ F.1 0) :
    EM X mL_leaderAfter (eRm 7) a [.ref (a 0), vi s] (wO (a 1) q1 q2 q3 q4 q5 q6 z :: wFl (fun k => a (1 + k)) F P) (eRet (some (vi (sLead F s))) a (wO (a 1) q1 q2 q3 q4 q5 q6 z :: wFl (fun k => a (1 + k)) F P)) := by
  refine EM.of (by decide +kernel) rfl (Nat.le_of_ble_eq_true rfl) ?_
  refine e_aload_n dL_leaderAfter_0 rfl rfl ?_
  refine e_iload_n dL_leaderAfter_1 rfl rfl ?_
  refine e_cV0 [0, 1, 2, 3, 4, 5, 6, 7, 8, 9, 10] lk_L_52 rfl dL_leaderAfter_2 rfl (N_X6_leaderAfter (z := z) (F := F) (P := P) hF hs h1) rfl rfl (Nat.le_of_ble_eq_true rfl) (Nat.le_of_ble_eq_true rfl) (Nat.le_of_ble_eq_true rfl) ⟨rfl, rfl⟩ rfl rfl rfl rfl rfl rfl ?_
  exact e_iret dL_leaderAfter_5 rfl rfl (eRet_i rfl rfl)
theorem W_leaderAfterByCounting {X : eXT} {a : Nat → Nat} {q1 q2 q3 q4 q5 q6 : Nat} {z : Nat → Int} {N : Int} {F : eFs} {P : Int → Int} (hF : okF N F) {s : Int} (hs : 0 ≤ s ∧ s ≤ 99) (h1 : 1 ≤ F.1 0) :
    EM X mL_leaderAfterByCounting (eRm 7) a [.ref (a 0), vi s] (wO (a 1) q1 q2 q3 q4 q5 q6 z :: wFl (fun k => a (1 + k)) F P) (eRet (some (vi (sLead F s))) a (wO (a 1) q1 q2 q3 q4 q5 q6 z :: wFl (fun k => a (1 + k)) F P)) := by
  refine EM.of (by decide +kernel) rfl (Nat.le_of_ble_eq_true rfl) ?_
  refine e_aload_n dL_leaderAfterByCounting_0 rfl rfl ?_
  refine e_iload_n dL_leaderAfterByCounting_1 rfl rfl ?_
  refine e_cV0 [0, 1, 2, 3, 4, 5, 6, 7, 8, 9, 10] lk_L_55 rfl dL_leaderAfterByCounting_2 rfl (N_X6_leaderAfterByCounting (z := z) (F := F) (P := P) hF hs h1) rfl rfl (Nat.le_of_ble_eq_true rfl) (Nat.le_of_ble_eq_true rfl) (Nat.le_of_ble_eq_true rfl) ⟨rfl, rfl⟩ rfl rfl rfl rfl rfl rfl ?_
  exact e_iret dL_leaderAfterByCounting_5 rfl rfl (eRet_i rfl rfl)
