/-! ===== the reference: the line ===== -/
theorem C_X7_lineAt {X : eXT} {a : Nat → Nat} {M : eFs} {i : Int} (gi : -2147483648 ≤ i ∧ i ≤ 2147483647) (hz : 0 ≤ M.1 12 ∧ M.1 12 ≤ 12) (hl : ∀ j, 0 ≤ M.2 4 j ∧ M.2 4 j ≤ 126) :
    EM X mX7_lineAt (eRm 1) a [.ref (a 0), vi i] (wM a M) (eRet (some (vi (if ((if 0 ≤ i ∧ i ≤ M.1 12 - 1 then 0 else 1) : Int) = 0 then (M.2 4 i) else 0))) a (wM a (sS M 0 ((if 0 ≤ i ∧ i ≤ M.1 12 - 1 then 0 else 1))))) := by
  refine EM.of (by decide +kernel) rfl (Nat.le_of_ble_eq_true rfl) ?_
  refine e_aload_n dX7_lineAt_0 rfl rfl ?_
  refine e_iload_n dX7_lineAt_1 rfl rfl ?_
  refine e_iconst dX7_lineAt_2 rfl ?_
  refine e_aload_n dX7_lineAt_3 rfl rfl ?_
  refine e_getfield fd_X7_242 dX7_lineAt_4 rfl rfl rfl rfl ?_
  refine e_iconst dX7_lineAt_7 rfl ?_
  refine e_isub dX7_lineAt_8 rfl ?_
  refine e_cS0 [] lk_X7_46 rfl dX7_lineAt_9 rfl (C_X7_in (by omega) (by omega) (by omega)) rfl rfl (Nat.le_of_ble_eq_true rfl) (Nat.le_of_ble_eq_true rfl) (Nat.le_of_ble_eq_true rfl) ⟨rfl, rfl⟩ rfl rfl  ?_
  refine e_cV2 [0, 1, 2, 3, 4, 5] lk_X7_78 rfl dX7_lineAt_12 rfl (C_X7_isFine (M := M) (c := (0 ≤ i ∧ i ≤ M.1 12 - 1))) rfl rfl (Nat.le_of_ble_eq_true rfl) (Nat.le_of_ble_eq_true rfl) (Nat.le_of_ble_eq_true rfl) ⟨rfl, rfl⟩ rfl rfl rfl rfl rfl rfl rfl rfl ?_
  refine e_ifb_eq (t := 27) dX7_lineAt_15 rfl rfl (fun h15 => ?_) (fun h15 => ?_)
  · refine EV.ceq (cs' := wM a (sS M 0 1)) (by rw [if_neg h15] <;> rfl) ?_
    refine e_iconst dX7_lineAt_27 rfl ?_
    exact e_iret dX7_lineAt_28 rfl (narC (by first | omega | exact ⟨(hl i).1, Int.le_trans (hl i).2 (by decide)⟩)) (mq_n (a := a) (M := M) (T := (if 0 ≤ i ∧ i ≤ M.1 12 - 1 then 0 else 1)) (v := (M.2 4 i)) (t := 1) (if_neg h15) (by decide) (rfl))
  · have li := hl i
    refine EV.ceq (cs' := wM a (sS M 0 0)) (by rw [if_pos h15] <;> rfl) ?_
    refine e_aload_n dX7_lineAt_18 rfl rfl ?_
    refine e_getfield fd_X7_30 dX7_lineAt_19 rfl rfl rfl rfl ?_
    refine e_iload_n dX7_lineAt_22 rfl rfl ?_
    refine e_caload dX7_lineAt_23 rfl rfl rfl (by omega) (by decide) ?_
    refine e_goto (n := 28) dX7_lineAt_24 rfl ?_
    exact e_iret dX7_lineAt_28 rfl (narC (by first | omega | exact ⟨(hl i).1, Int.le_trans (hl i).2 (by decide)⟩)) (mq_y (a := a) (M := M) (T := (if 0 ≤ i ∧ i ≤ M.1 12 - 1 then 0 else 1)) (v := (M.2 4 i)) (if_pos h15) (rfl) (rfl))
/-- the line with a row's first x cells -/
def mLn (M F : eFs) (y n : Int) : Int → Int := fun j => if 0 ≤ j ∧ j < n then sSgn F j y else M.2 4 j
theorem mLn_up {M F : eFs} {y x z : Int} (hx : 0 ≤ x) (hz : z = sSgn F x y) : eU (mLn M F y x) x z = mLn M F y (x + 1) := by
  funext j
  unfold mLn
  by_cases h : j = x
  · rw [h, eU_self, if_pos (by omega), hz]
  · rw [eU_ne h]
    by_cases h2 : 0 ≤ j ∧ j < x
    · rw [if_pos h2, if_pos (by omega)]
    · rw [if_neg h2, if_neg (by omega)]
theorem mLn_0 {M F : eFs} {y : Int} : mLn M F y 0 = M.2 4 := by
  funext j
  unfold mLn
  rw [if_neg (by omega)]
def mDsc (M F : eFs) (y : Int) : eFs := if 0 ≤ y ∧ y ≤ 11 then sR (sS (sS M 0 0) 12 12) 4 (mLn M F y 12) else sS M 0 1

theorem C_X7_describeRow {X : eXT} {a : Nat → Nat} {N : Int} {F M : eFs} (hF : okF N F) (hR : mR F (M.2 0)) {y : Int} (gy : -2147483648 ≤ y ∧ y ≤ 2147483647) :
    EM X mX7_describeRow (eRm 3) a [.ref (a 0), vi y] (wM a M) (eRet (some (vi (if 0 ≤ y ∧ y ≤ 11 then 12 else 0))) a (wM a (mDsc M F y))) := by
  refine EM.of (by decide +kernel) rfl (Nat.le_of_ble_eq_true rfl) ?_
  have hF0 := hF
  obtain ⟨hc, hld, hled, htn, hgo, hkp, hst, hwt, hcl, hsh, hnx, hN, rx, ry, rh, rm, rc, rw9⟩ := hF
  obtain ⟨⟨n0, n1, n2, n3, n4, n5, n6, n7, n8, n9⟩, hb, hcd, hss⟩ := id hR
  refine e_aload_n dX7_describeRow_0 rfl rfl ?_
  refine e_iload_n dX7_describeRow_1 rfl rfl ?_
  refine e_iconst dX7_describeRow_2 rfl ?_
  refine e_bipush dX7_describeRow_3 rfl rfl ?_
  refine e_cS0 [] lk_X7_46 rfl dX7_describeRow_5 rfl (C_X7_in (by omega) (by omega) (by omega)) rfl rfl (Nat.le_of_ble_eq_true rfl) (Nat.le_of_ble_eq_true rfl) (Nat.le_of_ble_eq_true rfl) ⟨rfl, rfl⟩ rfl rfl  ?_
  refine e_cV2 [0, 1, 2, 3, 4, 5] lk_X7_78 rfl dX7_describeRow_8 rfl (C_X7_isFine (M := M) (c := 0 ≤ y ∧ y ≤ 11)) rfl rfl (Nat.le_of_ble_eq_true rfl) (Nat.le_of_ble_eq_true rfl) (Nat.le_of_ble_eq_true rfl) ⟨rfl, rfl⟩ rfl rfl rfl rfl rfl rfl rfl rfl ?_
  refine e_ifb_ne (t := 16) dX7_describeRow_11 rfl rfl (fun h11 => ?_) (fun h11 => ?_)
  · refine EV.ceq (cs' := wM a (sS M 0 0)) (by rw [if_pos h11] <;> rfl) ?_
    refine e_aload_n dX7_describeRow_16 rfl rfl ?_
    refine e_bipush dX7_describeRow_17 rfl rfl ?_
    refine e_putfield fd_X7_242 dX7_describeRow_19 rfl rfl rfl (Nat.le_of_ble_eq_true rfl) rfl rfl ?_
    refine EV.ceq (cs' := wM a (sR (sS (sS M 0 0) 12 12) 4 (M.2 4))) rfl ?_
    refine e_iconst dX7_describeRow_22 rfl ?_
    refine f_istore_n dX7_describeRow_23 rfl (Nat.le_of_ble_eq_true rfl) rfl ?_
    have hL24 : ∀ (k24 : Nat) (x : Int) (hk24 : (12 - x).toNat = k24) (g24 : 0 ≤ x ∧ x ≤ 12), EV (mX7_describeRow, (eRm 3), eRet (some (vi (if 0 ≤ y ∧ y ≤ 11 then 12 else 0))) a (wM a (mDsc M F y)), X) a (0, 0) (wM a (sR (sS (sS M 0 0) 12 12) 4 (mLn M F y x))) 24 [some (.ref (a 0)), some (vi y), some (vi x)] [] := by
      intro k24
      induction k24 using Nat.strongRecOn with
      | _ k24 ih24 =>
      intro x hk24 g24
      refine e_iload_n dX7_describeRow_24 rfl rfl ?_
      refine e_bipush dX7_describeRow_25 rfl rfl ?_
      refine e_icmp_ge (t := 80) dX7_describeRow_27 rfl rfl (by omega) (by omega) (fun h27 => ?_) (fun h27 => ?_)
      · refine e_aload_n dX7_describeRow_80 rfl rfl ?_
        refine e_getfield fd_X7_242 dX7_describeRow_81 rfl rfl rfl rfl ?_
        refine EV.eq (st' := [vi 12]) rfl ?_
        exact e_iret dX7_describeRow_84 rfl rfl (eRet_i (by rw [if_pos h11]) (by unfold mDsc; rw [if_pos h11, show x = 12 by omega]))
      · have hJ72 : ∀ (z : Int) (hz : z = sSgn F x y), EV (mX7_describeRow, (eRm 3), eRet (some (vi (if 0 ≤ y ∧ y ≤ 11 then 12 else 0))) a (wM a (mDsc M F y)), X) a (0, 0) (wM a (sR (sS (sS M 0 0) 12 12) 4 (mLn M F y x))) 72 [some (.ref (a 0)), some (vi y), some (vi x)] [vi z, vi x, .ref (a 5)] := by
          intro z hz
          have zs : 0 ≤ z ∧ z ≤ 126 := by have us := sAt_in (F := F) (x := x) (y := y); rw [hz]; unfold sSgn; (repeat' split) <;> omega
          refine e_i2c dX7_describeRow_72 rfl (by omega) ?_
          refine e_castore dX7_describeRow_73 rfl rfl rfl (by omega) (by decide) (by omega) ?_
          refine f_iinc dX7_describeRow_74 rfl rfl (Nat.le_of_ble_eq_true rfl) rfl ?_
          refine e_goto (n := 24) dX7_describeRow_77 rfl ?_
          refine EV.ceq (cs' := wM a (sR (sS (sS M 0 0) 12 12) 4 (mLn M F y (x + 1)))) (by rw [← mLn_up g24.1 hz] <;> rfl) ?_
          exact ih24 _ (by omega) (x + 1) rfl (by omega)
        have ain := sAt_in (F := F) (x := x) (y := y)
        have mc := mCl_cov (u := x) (v := y) hF0 hR (show sIn x y by omega)
        refine e_aload_n dX7_describeRow_30 rfl rfl ?_
        refine e_getfield fd_X7_30 dX7_describeRow_31 rfl rfl rfl rfl ?_
        refine e_iload_n dX7_describeRow_34 rfl rfl ?_
        refine e_aload_n dX7_describeRow_35 rfl rfl ?_
        refine e_iload_n dX7_describeRow_36 rfl rfl ?_
        refine e_iload_n dX7_describeRow_37 rfl rfl ?_
        refine e_cV0 [0, 1, 2, 3, 4, 5] lk_X7_138 rfl dX7_describeRow_38 rfl (C_X7_at (M := sR (sS (sS M 0 0) 12 12) 4 (mLn M F y x)) hF0 hR (x := x) (y := y) (by omega) (by omega)) rfl rfl (Nat.le_of_ble_eq_true rfl) (Nat.le_of_ble_eq_true rfl) (Nat.le_of_ble_eq_true rfl) ⟨rfl, rfl⟩ rfl rfl rfl rfl rfl rfl  ?_
        refine e_if_lt (t := 56) dX7_describeRow_41 rfl rfl (by omega) (fun h41 => ?_) (fun h41 => ?_)
        · refine e_aload_n dX7_describeRow_56 rfl rfl ?_
          refine e_iload_n dX7_describeRow_57 rfl rfl ?_
          refine e_iload_n dX7_describeRow_58 rfl rfl ?_
          refine e_cV0 [0, 1, 2, 3, 4, 5] lk_X7_66 rfl dX7_describeRow_59 rfl (C_X7_cloud (M := sR (sS (sS M 0 0) 12 12) 4 (mLn M F y x)) hF0 hR (x := x) (y := y) (by omega) (by omega)) rfl rfl (Nat.le_of_ble_eq_true rfl) (Nat.le_of_ble_eq_true rfl) (Nat.le_of_ble_eq_true rfl) ⟨rfl, rfl⟩ rfl rfl rfl rfl rfl rfl  ?_
          refine EV.eq (st' := [vi (mCl M x y), vi x, .ref (a 5)]) rfl ?_
          refine e_if_lt (t := 70) dX7_describeRow_62 rfl rfl (by omega) (fun h62 => ?_) (fun h62 => ?_)
          · refine e_bipush dX7_describeRow_70 rfl rfl ?_
            exact hJ72 _ (by unfold sSgn; rw [if_pos (by omega), if_neg (fun q => absurd (mc.2.1.mpr q) (by omega))])
          · refine e_bipush dX7_describeRow_65 rfl rfl ?_
            refine e_goto (n := 72) dX7_describeRow_67 rfl ?_
            exact hJ72 _ (by unfold sSgn; rw [if_pos (by omega), if_pos (mc.2.1.mp (by omega))])
        · refine e_bipush dX7_describeRow_44 rfl rfl ?_
          refine e_aload_n dX7_describeRow_46 rfl rfl ?_
          refine e_iload_n dX7_describeRow_47 rfl rfl ?_
          refine e_iload_n dX7_describeRow_48 rfl rfl ?_
          refine e_cV0 [0, 1, 2, 3, 4, 5] lk_X7_138 rfl dX7_describeRow_49 rfl (C_X7_at (M := sR (sS (sS M 0 0) 12 12) 4 (mLn M F y x)) hF0 hR (x := x) (y := y) (by omega) (by omega)) rfl rfl (Nat.le_of_ble_eq_true rfl) (Nat.le_of_ble_eq_true rfl) (Nat.le_of_ble_eq_true rfl) ⟨rfl, rfl⟩ rfl rfl rfl rfl rfl rfl  ?_
          refine e_iadd dX7_describeRow_52 rfl ?_
          refine e_goto (n := 72) dX7_describeRow_53 rfl ?_
          exact hJ72 _ (by unfold sSgn; rw [if_neg (by omega)])
    refine EV.ceq (cs' := wM a (sR (sS (sS M 0 0) 12 12) 4 (mLn M F y 0))) (by rw [mLn_0] <;> rfl) ?_
    exact hL24 _ 0 rfl (by omega)
  · refine EV.ceq (cs' := wM a (sS M 0 1)) (by rw [if_neg h11] <;> rfl) ?_
    refine e_iconst dX7_describeRow_14 rfl ?_
    exact e_iret dX7_describeRow_15 rfl rfl (eRet_i (by rw [if_neg h11]) (by unfold mDsc; rw [if_neg h11]))
