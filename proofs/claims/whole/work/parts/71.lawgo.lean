/-! ===== the law: from its entry to its loop ===== -/
theorem eNw_d {N : Nat} (cA : ClassId) : vp_cell cA (N, .inr (.inr (.inr (.inl (fun _ : Nat => (0 : UInt64)))))) = arrV cA N (fun _ => defaultValue .double) := by rw [vp_cell_d]; rfl
/-- the addresses of the law's things, after one another -/
def lAd (a1 a2 : Nat → Nat) (x1 x2 : Nat) : Nat → Nat := fun k => if k < 131 then a1 k else if k < 137 then a2 (k - 131) else if k = 137 then x1 else x2
theorem lAd_ok {a1 a2 : Nat → Nat} {x1 x2 : Nat} : ∀ k, k < 139 → eAd (((a1 0 :: (List.range 130).map (fun i => a1 (1 + i))) ++ (a2 0 :: (List.range 5).map (fun i => a2 (1 + i)))) ++ [x1] ++ [x2]) k = lAd a1 a2 x1 x2 k := by
  intro k hk
  have l1 : (a1 0 :: (List.range 130).map (fun i => a1 (1 + i))).length = 131 := by simp
  have l2 : (a2 0 :: (List.range 5).map (fun i => a2 (1 + i))).length = 6 := by simp
  unfold lAd
  by_cases h1 : k < 131
  · rw [if_pos h1, eAd_lt (by simp; omega), eAd_lt (by simp; omega), eAd_lt (by rw [l1]; exact h1)]
    exact eAd_rng k h1
  · rw [if_neg h1]
    by_cases h2 : k < 137
    · rw [if_pos h2, eAd_lt (by simp; omega), eAd_lt (by simp; omega)]
      have e : k = (a1 0 :: (List.range 130).map (fun i => a1 (1 + i))).length + (k - 131) := by rw [l1]; omega
      have e2 : eAd ((a1 0 :: (List.range 130).map (fun i => a1 (1 + i))) ++ (a2 0 :: (List.range 5).map (fun i => a2 (1 + i)))) k = eAd (a2 0 :: (List.range 5).map (fun i => a2 (1 + i))) (k - 131) := by
        conv => lhs; rw [e]
        exact eAd_ge
      rw [e2]
      exact eAd_rng (k - 131) (by omega)
    · rw [if_neg h2]
      by_cases h3 : k = 137
      · rw [if_pos h3, eAd_lt (by simp; omega)]
        subst h3
        have e : (137 : Nat) = ((a1 0 :: (List.range 130).map (fun i => a1 (1 + i))) ++ (a2 0 :: (List.range 5).map (fun i => a2 (1 + i)))).length + 0 := by simp
        rw [e, eAd_ge]
        rfl
      · rw [if_neg h3]
        have h4 : k = 138 := by omega
        subst h4
        have e : (138 : Nat) = ((a1 0 :: (List.range 130).map (fun i => a1 (1 + i))) ++ (a2 0 :: (List.range 5).map (fun i => a2 (1 + i))) ++ [x1]).length + 0 := by simp
        rw [e, eAd_ge]
        rfl
theorem lAd_A {a1 a2 : Nat → Nat} {x1 x2 : Nat} : wA (lAd a1 a2 x1 x2) zz0 (fun _ => 0) sF0 (fun _ => 0) sF0 (fun _ => 0) sF0 (fun _ => 0) 0 0 hs0 (fun _ => 0) (fun _ => 0) tT0 (fun _ _ => 0) [] = wA a1 zz0 (fun _ => 0) sF0 (fun _ => 0) sF0 (fun _ => 0) sF0 (fun _ => 0) 0 0 hs0 (fun _ => 0) (fun _ => 0) tT0 (fun _ _ => 0) [] := rfl
theorem lAd_M {a1 a2 : Nat → Nat} {x1 x2 : Nat} : wM (fun k => lAd a1 a2 x1 x2 (131 + k)) mm0 = wM a2 mm0 := rfl
set_option maxHeartbeats 1000000 in
theorem law_go {X : eXT} {bb L : Nat} {xs : Nat → Int32} (hX : X.2 = some (bb, L, xs)) (hL : L ≤ 2048) : EV (lK X) (eAd []) (603072, 7194730) [] 0 [some (.ref bb), none, none, none, none, none, none, none, none] [] := by
  refine e_new (K := lK X) (qs := []) (cs := []) (ci := 6) (N := 13) (fs := [.null, .null, .null, vi 0, .null, .null, .null, vi 0, vi 0, vi 0, vi 0, .null, vi 0]) ⟨RX6, TX6, tyX6, rfl, inX6, tyX6_ok, wd_1_25, wd_1_26, wd_1_1, fun j hj => by
      rcases (show j = 0 ∨ j = 1 ∨ j = 2 ∨ j = 3 ∨ j = 4 ∨ j = 5 ∨ j = 6 ∨ j = 7 ∨ j = 8 ∨ j = 9 ∨ j = 10 ∨ j = 11 ∨ j = 12 by omega) with h | h | h | h | h | h | h | h | h | h | h | h | h <;> subst h <;> rfl⟩ dL_law_0 rfl rfl (603071, 7194717) ⟨(Nat.le_of_ble_eq_true rfl), (Nat.le_of_ble_eq_true rfl)⟩ ?_
  intro q1
  refine e_dup (K := lK X) dL_law_3 rfl rfl ?_
  refine e_ctorI (K := lK X) (qs := []) (q := q1) (k := 130) (cs := []) (c0 := .inr (6, [.null, .null, .null, vi 0, .null, .null, .null, vi 0, vi 0, vi 0, vi 0, .null, vi 0])) (W := fun a1 => wA a1 zz0 (fun _ => 0) sF0 (fun _ => 0) sF0 (fun _ => 0) sF0 (fun _ => 0) 0 0 hs0 (fun _ => 0) (fun _ => 0) tT0 (fun _ _ => 0) []) li_L_144 rfl rfl dL_law_4 rfl (fun a0 => C_X6_init) (fun a1 => wA_len) rfl rfl (Nat.le_of_ble_eq_true rfl) (Nat.le_of_ble_eq_true rfl) (Nat.le_of_ble_eq_true rfl) (602941, 7193192) ⟨(Nat.le_of_ble_eq_true rfl), (Nat.le_of_ble_eq_true rfl)⟩ ?_
  intro a1 h1
  subst h1
  refine f_astore_n (K := lK X) dL_law_7 rfl (Nat.le_of_ble_eq_true rfl) rfl ?_
  have hl1 : (a1 0 :: (List.range 130).map (fun i => a1 (1 + i))).length = 131 := by simp
  have hlA : (wA a1 zz0 (fun _ => 0) sF0 (fun _ => 0) sF0 (fun _ => 0) sF0 (fun _ => 0) 0 0 hs0 (fun _ => 0) (fun _ => 0) tT0 (fun _ _ => 0) []).length = 131 := wA_len
  generalize hQ : (a1 0 :: (List.range 130).map (fun i => a1 (1 + i))) = Q1 at hl1 ⊢
  generalize hA : wA a1 zz0 (fun _ => 0) sF0 (fun _ => 0) sF0 (fun _ => 0) sF0 (fun _ => 0) 0 0 hs0 (fun _ => 0) (fun _ => 0) tT0 (fun _ _ => 0) [] = A1 at hlA ⊢
  refine EV.ceq (cs' := A1) rfl ?_
  refine EV.cong (a' := eAd Q1) (fun k hk => rfl) ?_
  refine e_new (K := lK X) (qs := Q1) (cs := A1) (ci := 7) (N := 18) (fs := [vi 0, .null, vi 0, vi 0, vi 0, vi 0, vi 0, .null, .null, vi 0, vi 0, vi 0, vi 0, vi 0, .null, vi 0, .null, vi 0]) ⟨RX7, TX7, tyX7, rfl, inX7, tyX7_ok, wd_6_29, wd_6_30, wd_1_8, fun j hj => by
      rcases (show j = 0 ∨ j = 1 ∨ j = 2 ∨ j = 3 ∨ j = 4 ∨ j = 5 ∨ j = 6 ∨ j = 7 ∨ j = 8 ∨ j = 9 ∨ j = 10 ∨ j = 11 ∨ j = 12 ∨ j = 13 ∨ j = 14 ∨ j = 15 ∨ j = 16 ∨ j = 17 by omega) with h | h | h | h | h | h | h | h | h | h | h | h | h | h | h | h | h | h <;> subst h <;> rfl⟩ dL_law_8 rfl (hl1.trans hlA.symm) (602940, 7193174) ⟨(Nat.le_of_ble_eq_true rfl), (Nat.le_of_ble_eq_true rfl)⟩ ?_
  intro q2
  refine e_dup (K := lK X) dL_law_11 rfl rfl ?_
  refine e_ctorI (K := lK X) (qs := Q1) (q := q2) (k := 5) (cs := A1) (c0 := .inr (7, [vi 0, .null, vi 0, vi 0, vi 0, vi 0, vi 0, .null, .null, vi 0, vi 0, vi 0, vi 0, vi 0, .null, vi 0, .null, vi 0])) (W := fun a1 => wM a1 mm0) li_L_147 rfl rfl dL_law_12 rfl (fun a0 => C_X7_init) (fun a1 => rfl) rfl (hl1.trans hlA.symm) (Nat.le_of_ble_eq_true rfl) (Nat.le_of_ble_eq_true rfl) (Nat.le_of_ble_eq_true rfl) (602935, 7189846) ⟨(Nat.le_of_ble_eq_true rfl), (Nat.le_of_ble_eq_true rfl)⟩ ?_
  intro a2 h2
  subst h2
  refine f_astore_n (K := lK X) dL_law_15 rfl (Nat.le_of_ble_eq_true rfl) rfl ?_
  have hl2 : (Q1 ++ (a2 0 :: (List.range 5).map (fun i => a2 (1 + i)))).length = (A1 ++ wM a2 mm0).length := by rw [List.length_append, List.length_append, hl1, hlA]; rfl
  refine e_iconst (K := lK X) dL_law_16 rfl ?_
  refine e_newarray (K := lK X) (qs := Q1 ++ (a2 0 :: (List.range 5).map (fun i => a2 (1 + i)))) (cs := A1 ++ wM a2 mm0) (ar := .long) (ty := .long) (t := 1) (N := 1) (x := (1, .inr (.inl (fun j : Nat => Int64.ofInt ((fun _ => (0 : Int)) (j : Int)))))) wd_1_72 rfl rfl (fun C h => by cases h) (fun cA => eNw_l cA) dL_law_17 rfl (Nat.le_of_ble_eq_true rfl) (Nat.le_of_ble_eq_true rfl) hl2 (602934, 7189845) ⟨(Nat.le_of_ble_eq_true rfl), (Nat.le_of_ble_eq_true rfl)⟩ ?_
  intro x1
  have hl3 : (Q1 ++ (a2 0 :: (List.range 5).map (fun i => a2 (1 + i))) ++ [x1]).length = (A1 ++ wM a2 mm0 ++ ([.inl (1, (1, .inr (.inl (fun j : Nat => Int64.ofInt ((fun _ => (0 : Int)) (j : Int))))))] : List eE)).length := by
    have h := hl2
    simp only [List.length_append, List.length_cons, List.length_nil] at h ⊢
    omega
  refine f_astore_n (K := lK X) dL_law_19 rfl (Nat.le_of_ble_eq_true rfl) rfl ?_
  refine e_iconst (K := lK X) dL_law_20 rfl ?_
  refine e_newarray (K := lK X) (qs := Q1 ++ (a2 0 :: (List.range 5).map (fun i => a2 (1 + i))) ++ [x1]) (cs := A1 ++ wM a2 mm0 ++ ([.inl (1, (1, .inr (.inl (fun j : Nat => Int64.ofInt ((fun _ => (0 : Int)) (j : Int))))))] : List eE)) (ar := .double) (ty := .double) (t := 3) (N := 1) (x := (1, .inr (.inr (.inr (.inl (fun _ : Nat => (0 : UInt64))))))) wd_8_40 rfl rfl (fun C h => by cases h) (fun cA => eNw_d cA) dL_law_21 rfl (Nat.le_of_ble_eq_true rfl) (Nat.le_of_ble_eq_true rfl) hl3 (602933, 7189844) ⟨(Nat.le_of_ble_eq_true rfl), (Nat.le_of_ble_eq_true rfl)⟩ ?_
  intro x2
  refine f_astore (K := lK X) dL_law_23 rfl (Nat.le_of_ble_eq_true rfl) rfl ?_
  refine e_iconst (K := lK X) dL_law_25 rfl ?_
  refine f_istore (K := lK X) dL_law_26 rfl (Nat.le_of_ble_eq_true rfl) rfl ?_
  subst hQ
  refine EV.cong (a' := lAd a1 a2 x1 x2) (fun k hk => lAd_ok k (by simp only [List.length_append, hlA] at hk; exact hk)) ?_
  refine EV.ceq (cs' := wA (lAd a1 a2 x1 x2) zz0 (fun _ => 0) sF0 (fun _ => 0) sF0 (fun _ => 0) sF0 (fun _ => 0) 0 0 hs0 (fun _ => 0) (fun _ => 0) tT0 (fun _ _ => 0) [] ++ (wM (fun k => lAd a1 a2 x1 x2 (131 + k)) mm0 ++ [eJ 1 1 (fun _ => 0), eDd 1 (fun _ => 0)])) (by rw [lAd_A, lAd_M, hA, List.append_assoc, List.append_assoc]; rfl) ?_
  refine EV.leq (ls' := lLs (lAd a1 a2 x1 x2) bb 0) rfl ?_
  exact law_loop (X := X) (b := (602933, 7189844)) hX (by omega) ((L : Int) - 0).toNat rfl (by omega) (by omega) ⟨(show 2 * ((L : Int) - 0).toNat ≤ 602933 by omega), (show 12 * ((L : Int) - 0).toNat ≤ 7189844 by omega)⟩ SIM_0
