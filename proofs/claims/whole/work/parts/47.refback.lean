/-! ===== the reference: back again ===== -/
def mUn (M : eFs) : eFs := if 0 < M.1 1 then sR (sS (sS M 0 0) 1 (M.1 1 - 1)) 0 (eCy (M.2 0) (M.2 0) (250 * M.1 1) (250 * 0) 250) else sS M 0 1
def mRe (M : eFs) : eFs := if M.1 2 = 1 then sR (sS (sS M 0 0) 1 0) 0 (eCy (M.2 0) (M.2 0) (250 * 9) (250 * 0) 250) else sS M 0 1

theorem C_X7_isCloud {X : eXT} {a : Nat → Nat} {N : Int} {F M : eFs} (hF : okF N F) (hR : mR F (M.2 0)) {x y : Int} (gx : -2147483648 ≤ x ∧ x ≤ 2147483647) (gy : -2147483648 ≤ y ∧ y ≤ 2147483647) :
    EM X mX7_isCloud (eRm 2) a [.ref (a 0), vi x, vi y] (wM a M) (eRet (some (vb (sCov (F.2 4) x y))) a (wM a (sS M 0 (if sIn x y then 0 else 1)))) := by
  refine EM.of (by decide +kernel) rfl (Nat.le_of_ble_eq_true rfl) ?_
  have hF0 := hF
  obtain ⟨hc, hld, hled, htn, hgo, hkp, hst, hwt, hcl, hsh, hnx, hN, rx, ry, rh, rm, rc, rw9⟩ := hF
  obtain ⟨⟨n0, n1, n2, n3, n4, n5, n6, n7, n8, n9⟩, hb, hcd, hss⟩ := id hR
  refine e_aload_n dX7_isCloud_0 rfl rfl ?_
  refine e_iload_n dX7_isCloud_1 rfl rfl ?_
  refine e_iload_n dX7_isCloud_2 rfl rfl ?_
  refine e_cS0 [] lk_X7_62 rfl dX7_isCloud_3 rfl (C_X7_isCell (by omega) (by omega)) rfl rfl (Nat.le_of_ble_eq_true rfl) (Nat.le_of_ble_eq_true rfl) (Nat.le_of_ble_eq_true rfl) ⟨rfl, rfl⟩ rfl rfl  ?_
  refine e_cV2 [0, 1, 2, 3, 4, 5] lk_X7_78 rfl dX7_isCloud_6 rfl (C_X7_isFine (M := M) (c := sIn x y)) rfl rfl (Nat.le_of_ble_eq_true rfl) (Nat.le_of_ble_eq_true rfl) (Nat.le_of_ble_eq_true rfl) ⟨rfl, rfl⟩ rfl rfl rfl rfl rfl rfl rfl rfl ?_
  refine e_ifb_eq (t := 25) dX7_isCloud_9 rfl rfl (fun h9 => ?_) (fun h9 => ?_)
  · refine e_iconst dX7_isCloud_25 rfl ?_
    exact e_iret dX7_isCloud_26 rfl (by decide) (eRet_f (fun q => h9 q.1) rfl)
  · have mc := mCl_cov (u := x) (v := y) hF0 hR h9
    refine e_aload_n dX7_isCloud_12 rfl rfl ?_
    refine e_iload_n dX7_isCloud_13 rfl rfl ?_
    refine e_iload_n dX7_isCloud_14 rfl rfl ?_
    refine e_cV0 [0, 1, 2, 3, 4, 5] lk_X7_66 rfl dX7_isCloud_15 rfl (C_X7_cloud (M := sS M 0 (if sIn x y then 0 else 1)) hF0 hR (by omega) (by omega)) rfl rfl (Nat.le_of_ble_eq_true rfl) (Nat.le_of_ble_eq_true rfl) (Nat.le_of_ble_eq_true rfl) ⟨rfl, rfl⟩ rfl rfl rfl rfl rfl rfl  ?_
    refine EV.eq (st' := [vi (mCl M x y)]) rfl ?_
    refine e_if_lt (t := 25) dX7_isCloud_18 rfl rfl (by omega) (fun h18 => ?_) (fun h18 => ?_)
    · refine e_iconst dX7_isCloud_25 rfl ?_
      exact e_iret dX7_isCloud_26 rfl (by decide) (eRet_f (fun q => absurd (mc.2.1.mpr q) (by omega)) rfl)
    · refine e_iconst dX7_isCloud_21 rfl ?_
      refine e_goto (n := 26) dX7_isCloud_22 rfl ?_
      exact e_iret dX7_isCloud_26 rfl (by decide) (eRet_t (mc.2.1.mp (by omega)) rfl)
theorem C_X7_moveTotal {X : eXT} {a : Nat → Nat} {N : Int} {F M : eFs} (hF : okF N F) (hR : mR F (M.2 0))  :
    EM X mX7_moveTotal (eRm 1) a [.ref (a 0)] (wM a M) (eRet (some (vl (sSumM F))) a (wM a (sS M 0 0))) := by
  refine EM.of (by decide +kernel) rfl (Nat.le_of_ble_eq_true rfl) ?_
  have hF0 := hF
  obtain ⟨hc, hld, hled, htn, hgo, hkp, hst, hwt, hcl, hsh, hnx, hN, rx, ry, rh, rm, rc, rw9⟩ := hF
  obtain ⟨⟨n0, n1, n2, n3, n4, n5, n6, n7, n8, n9⟩, hb, hcd, hss⟩ := id hR
  refine e_aload_n dX7_moveTotal_0 rfl rfl ?_
  refine e_iconst dX7_moveTotal_1 rfl ?_
  refine e_putfield fd_X7_33 dX7_moveTotal_2 rfl rfl rfl (Nat.le_of_ble_eq_true rfl) rfl rfl ?_
  refine EV.ceq (cs' := wM a (sS M 0 0)) rfl ?_
  refine e_iconst dX7_moveTotal_5 rfl ?_
  refine f_istore_n dX7_moveTotal_6 rfl (Nat.le_of_ble_eq_true rfl) rfl ?_
  refine e_iconst dX7_moveTotal_7 rfl ?_
  refine f_istore_n dX7_moveTotal_8 rfl (Nat.le_of_ble_eq_true rfl) rfl ?_
  have hL9 : ∀ (k9 : Nat) (k n : Int) (hk9 : ((F.1 0) - k).toNat = k9) (g9 : 0 ≤ k ∧ k ≤ F.1 0) (e9 : 0 + eSB (fun b => F.2 3 b) (F.1 0) 0 = n + eSB (fun b => F.2 3 b) (F.1 0) k) , EV (mX7_moveTotal, (eRm 1), eRet (some (vl (sSumM F))) a (wM a (sS M 0 0)), X) a (0, 0) (wM a (sS M 0 0)) 9 [some (.ref (a 0)), some (vi n), some (vi k)] [] := by
    intro k9
    induction k9 using Nat.strongRecOn with
    | _ k9 ih9 =>
    intro k n hk9 g9 e9
    refine e_iload_n dX7_moveTotal_9 rfl rfl ?_
    refine e_aload_n dX7_moveTotal_10 rfl rfl ?_
    refine e_getfield fd_X7_9 dX7_moveTotal_11 rfl rfl rfl rfl ?_
    refine e_iconst dX7_moveTotal_14 rfl ?_
    refine e_iaload dX7_moveTotal_15 rfl rfl rfl (by omega) (by decide) ?_
    refine EV.eq (st' := [vi (F.1 0), vi k]) (by show [vi (M.2 0 0), vi k] = _; rw [n0]) ?_
    refine e_icmp_ge (t := 34) dX7_moveTotal_16 rfl rfl (by omega) (by omega) (fun h16 => ?_) (fun h16 => ?_)
    · have w := eSB_end (f := fun b => F.2 3 b) (n := F.1 0) (i := k) (by omega)
      have sn : n = sSumM F := by unfold sSumM; omega
      have sb := eSB_bnd (f := fun b => F.2 3 b) (n := F.1 0) (i := 0) (lo := 0) (hi := N) (fun j _ _ => rm j) (by omega)
      have sb2 : 0 ≤ n ∧ n ≤ N * 10 := by rw [sn]; unfold sSumM; refine ⟨by omega, Int.le_trans sb.2 (Int.mul_le_mul_of_nonneg_left (by omega) (by omega))⟩
      refine e_iload_n dX7_moveTotal_34 rfl rfl ?_
      refine e_i2l dX7_moveTotal_35 rfl (by omega) ?_
      exact e_lret dX7_moveTotal_36 rfl (eRet_l sn rfl)
    · refine e_iload_n dX7_moveTotal_19 rfl rfl ?_
      refine e_aload_n dX7_moveTotal_20 rfl rfl ?_
      refine e_iload_n dX7_moveTotal_21 rfl rfl ?_
      refine e_iconst dX7_moveTotal_22 rfl ?_
      refine e_cV0 [0, 1, 2, 3, 4, 5] lk_X7_50 rfl dX7_moveTotal_23 rfl (C_X7_b (M := sS M 0 0) (by omega) (by omega)) rfl rfl (Nat.le_of_ble_eq_true rfl) (Nat.le_of_ble_eq_true rfl) (Nat.le_of_ble_eq_true rfl) ⟨rfl, rfl⟩ rfl rfl rfl rfl rfl rfl  ?_
      have bk := hb k (by omega) (by omega)
      refine EV.eq (st' := [vi (F.2 3 k), vi n]) (by show [vi (M.2 0 (10 + 4 * k + 3)), vi n] = _; rw [bk.2.2.2]) ?_
      refine e_iadd dX7_moveTotal_26 rfl ?_
      refine f_istore_n dX7_moveTotal_27 rfl (Nat.le_of_ble_eq_true rfl) rfl ?_
      refine f_iinc dX7_moveTotal_28 rfl rfl (Nat.le_of_ble_eq_true rfl) rfl ?_
      refine e_goto (n := 9) dX7_moveTotal_31 rfl ?_
      exact ih9 _ (by omega) (k + 1) (n + F.2 3 k) rfl (by omega) (by have w := eSB_go (f := fun b => F.2 3 b) (n := F.1 0) (i := k) (by omega); omega)
  exact hL9 _ 0 0 rfl (by omega) rfl 
theorem C_X7_isConsistent {X : eXT} {a : Nat → Nat} {M : eFs}  :
    EM X mX7_isConsistent (eRm 0) a [.ref (a 0)] (wM a M) (eRet (some (vb True)) a (wM a (sS M 0 0))) := by
  refine EM.of (by decide +kernel) rfl (Nat.le_of_ble_eq_true rfl) ?_
  refine e_aload_n dX7_isConsistent_0 rfl rfl ?_
  refine e_iconst dX7_isConsistent_1 rfl ?_
  refine e_putfield fd_X7_33 dX7_isConsistent_2 rfl rfl rfl (Nat.le_of_ble_eq_true rfl) rfl rfl ?_
  refine e_iconst dX7_isConsistent_5 rfl ?_
  exact e_iret dX7_isConsistent_6 rfl (by decide) (eRet_t True.intro rfl)
theorem C_X7_save {X : eXT} {a : Nat → Nat} {N : Int} {F M : eFs} (hF : okF N F) (hR : mR F (M.2 0))  :
    EM X mX7_save (eRm 1) a [.ref (a 0)] (wM a M) (eRet (some (vi (F.1 0))) a (wM a (sR (sS (sS M 0 0) 2 1) 0 (eCy (M.2 0) (M.2 0) (250 * 0) (250 * 9) 250)))) := by
  refine EM.of (by decide +kernel) rfl (Nat.le_of_ble_eq_true rfl) ?_
  have hF0 := hF
  obtain ⟨hc, hld, hled, htn, hgo, hkp, hst, hwt, hcl, hsh, hnx, hN, rx, ry, rh, rm, rc, rw9⟩ := hF
  obtain ⟨⟨n0, n1, n2, n3, n4, n5, n6, n7, n8, n9⟩, hb, hcd, hss⟩ := id hR
  refine e_aload_n dX7_save_0 rfl rfl ?_
  refine e_iconst dX7_save_1 rfl ?_
  refine e_putfield fd_X7_33 dX7_save_2 rfl rfl rfl (Nat.le_of_ble_eq_true rfl) rfl rfl ?_
  refine e_aload_n dX7_save_5 rfl rfl ?_
  refine e_iconst dX7_save_6 rfl ?_
  refine e_putfield fd_X7_245 dX7_save_7 rfl rfl rfl (Nat.le_of_ble_eq_true rfl) (by decide) (by decide) ?_
  refine e_aload_n dX7_save_10 rfl rfl ?_
  refine EV.ceq (cs' := wM a (sS (sS M 0 0) 2 1)) rfl ?_
  refine e_iconst dX7_save_11 rfl ?_
  refine e_bipush dX7_save_12 rfl rfl ?_
  refine e_cV2 [0, 1, 2, 3, 4, 5] lk_X7_36 rfl dX7_save_14 rfl (C_X7_copies (M := sS (sS M 0 0) 2 1) (f := 0) (t := 9) (by omega)) rfl rfl (Nat.le_of_ble_eq_true rfl) (Nat.le_of_ble_eq_true rfl) (Nat.le_of_ble_eq_true rfl) ⟨rfl, rfl⟩ rfl rfl rfl rfl rfl rfl rfl rfl ?_
  refine EV.ceq (cs' := wM a (sR (sS (sS M 0 0) 2 1) 0 (eCy (M.2 0) (M.2 0) (250 * 0) (250 * 9) 250))) rfl ?_
  refine e_aload_n dX7_save_17 rfl rfl ?_
  refine e_getfield fd_X7_9 dX7_save_18 rfl rfl rfl rfl ?_
  refine e_iconst dX7_save_21 rfl ?_
  refine e_iaload dX7_save_22 rfl rfl rfl (by omega) (by decide) ?_
  exact e_iret dX7_save_23 rfl rfl (eRet_i (by show eCy (M.2 0) (M.2 0) (250 * 0) (250 * 9) 250 0 = F.1 0; rw [cyO (by omega), n0]) rfl)
theorem C_X7_restore {X : eXT} {a : Nat → Nat} {M : eFs}  :
    EM X mX7_restore (eRm 1) a [.ref (a 0)] (wM a M) (eRet (some (vi (if M.1 2 = 1 then M.2 0 2250 else 0))) a (wM a (mRe M))) := by
  refine EM.of (by decide +kernel) rfl (Nat.le_of_ble_eq_true rfl) ?_
  refine e_aload_n dX7_restore_0 rfl rfl ?_
  refine e_aload_n dX7_restore_1 rfl rfl ?_
  refine e_getfield fd_X7_245 dX7_restore_2 rfl rfl rfl rfl ?_
  refine e_cV2 [0, 1, 2, 3, 4, 5] lk_X7_78 rfl dX7_restore_5 rfl (C_X7_isFine (M := M) (c := M.1 2 = 1)) rfl rfl (Nat.le_of_ble_eq_true rfl) (Nat.le_of_ble_eq_true rfl) (Nat.le_of_ble_eq_true rfl) ⟨rfl, rfl⟩ rfl rfl rfl rfl rfl rfl rfl rfl ?_
  refine e_ifb_ne (t := 13) dX7_restore_8 rfl rfl (fun h8 => ?_) (fun h8 => ?_)
  · refine EV.ceq (cs' := wM a (sS M 0 0)) (by rw [if_pos h8] <;> rfl) ?_
    refine e_aload_n dX7_restore_13 rfl rfl ?_
    refine e_bipush dX7_restore_14 rfl rfl ?_
    refine e_iconst dX7_restore_16 rfl ?_
    refine e_cV2 [0, 1, 2, 3, 4, 5] lk_X7_36 rfl dX7_restore_17 rfl (C_X7_copies (M := sS M 0 0) (f := 9) (t := 0) (by omega)) rfl rfl (Nat.le_of_ble_eq_true rfl) (Nat.le_of_ble_eq_true rfl) (Nat.le_of_ble_eq_true rfl) ⟨rfl, rfl⟩ rfl rfl rfl rfl rfl rfl rfl rfl ?_
    refine EV.ceq (cs' := wM a (sR (sS M 0 0) 0 (eCy (M.2 0) (M.2 0) (250 * 9) (250 * 0) 250))) rfl ?_
    refine e_aload_n dX7_restore_20 rfl rfl ?_
    refine e_iconst dX7_restore_21 rfl ?_
    refine e_putfield fd_X7_40 dX7_restore_22 rfl rfl rfl (Nat.le_of_ble_eq_true rfl) rfl rfl ?_
    refine e_aload_n dX7_restore_25 rfl rfl ?_
    refine e_getfield fd_X7_9 dX7_restore_26 rfl rfl rfl rfl ?_
    refine e_iconst dX7_restore_29 rfl ?_
    refine e_iaload dX7_restore_30 rfl rfl rfl (by omega) (by decide) ?_
    exact e_iret dX7_restore_31 rfl rfl (eRet_i (by show eCy (M.2 0) (M.2 0) (250 * 9) (250 * 0) 250 0 = _; rw [cyI (by omega), if_pos h8] <;> rfl) (by unfold mRe; rw [if_pos h8] <;> rfl))
  · refine EV.ceq (cs' := wM a (sS M 0 1)) (by rw [if_neg h8] <;> rfl) ?_
    refine e_iconst dX7_restore_11 rfl ?_
    exact e_iret dX7_restore_12 rfl rfl (eRet_i (by rw [if_neg h8]) (by unfold mRe; rw [if_neg h8]))
theorem C_X7_undo {X : eXT} {a : Nat → Nat} {M : eFs} (hcc : 0 ≤ M.1 1 ∧ M.1 1 ≤ 8) :
    EM X mX7_undo (eRm 1) a [.ref (a 0)] (wM a M) (eRet (some (vi (if 0 < M.1 1 then M.1 1 - 1 else 0))) a (wM a (mUn M))) := by
  refine EM.of (by decide +kernel) rfl (Nat.le_of_ble_eq_true rfl) ?_
  refine e_aload_n dX7_undo_0 rfl rfl ?_
  refine e_aload_n dX7_undo_1 rfl rfl ?_
  refine e_getfield fd_X7_40 dX7_undo_2 rfl rfl rfl rfl ?_
  refine e_if_le (t := 12) dX7_undo_5 rfl rfl (by omega) (fun h5 => ?_) (fun h5 => ?_)
  · refine e_iconst dX7_undo_12 rfl ?_
    refine e_cV2 [0, 1, 2, 3, 4, 5] lk_X7_78 rfl dX7_undo_13 rfl (C_X7_isFine0 (M := M)) rfl rfl (Nat.le_of_ble_eq_true rfl) (Nat.le_of_ble_eq_true rfl) (Nat.le_of_ble_eq_true rfl) ⟨rfl, rfl⟩ rfl rfl rfl rfl rfl rfl rfl rfl ?_
    refine e_if_ne (t := 21) dX7_undo_16 rfl rfl (by omega) (fun h16 => ?_) (fun h16 => ?_)
    · exfalso; omega
    · refine e_iconst dX7_undo_19 rfl ?_
      exact e_iret dX7_undo_20 rfl rfl (eRet_i (by rw [if_neg (by omega)]) (by unfold mUn; rw [if_neg (by omega)] <;> rfl))
  · refine e_iconst dX7_undo_8 rfl ?_
    refine e_goto (n := 13) dX7_undo_9 rfl ?_
    refine e_cV2 [0, 1, 2, 3, 4, 5] lk_X7_78 rfl dX7_undo_13 rfl (C_X7_isFine1 (M := M)) rfl rfl (Nat.le_of_ble_eq_true rfl) (Nat.le_of_ble_eq_true rfl) (Nat.le_of_ble_eq_true rfl) ⟨rfl, rfl⟩ rfl rfl rfl rfl rfl rfl rfl rfl ?_
    refine e_if_ne (t := 21) dX7_undo_16 rfl rfl (by omega) (fun h16 => ?_) (fun h16 => ?_)
    · refine e_aload_n dX7_undo_21 rfl rfl ?_
      refine e_aload_n dX7_undo_22 rfl rfl ?_
      refine e_getfield fd_X7_40 dX7_undo_23 rfl rfl rfl rfl ?_
      refine EV.eq (st' := [vi (M.1 1), .ref (a 0)]) rfl ?_
      refine e_iconst dX7_undo_26 rfl ?_
      refine e_cV2 [0, 1, 2, 3, 4, 5] lk_X7_36 rfl dX7_undo_27 rfl (C_X7_copies (M := sS M 0 0) (f := M.1 1) (t := 0) (by omega)) rfl rfl (Nat.le_of_ble_eq_true rfl) (Nat.le_of_ble_eq_true rfl) (Nat.le_of_ble_eq_true rfl) ⟨rfl, rfl⟩ rfl rfl rfl rfl rfl rfl rfl rfl ?_
      refine EV.ceq (cs' := wM a (sR (sS M 0 0) 0 (eCy (M.2 0) (M.2 0) (250 * M.1 1) (250 * 0) 250))) rfl ?_
      refine e_aload_n dX7_undo_30 rfl rfl ?_
      refine e_dup dX7_undo_31 rfl rfl ?_
      refine e_getfield fd_X7_40 dX7_undo_32 rfl rfl rfl rfl ?_
      refine e_iconst dX7_undo_35 rfl ?_
      refine e_isub dX7_undo_36 rfl ?_
      refine e_putfield fd_X7_40 dX7_undo_37 rfl rfl rfl (Nat.le_of_ble_eq_true rfl) rfl rfl ?_
      refine e_aload_n dX7_undo_40 rfl rfl ?_
      refine e_getfield fd_X7_40 dX7_undo_41 rfl rfl rfl rfl ?_
      refine EV.eq (st' := [vi (M.1 1 - 1)]) rfl ?_
      exact e_iret dX7_undo_44 rfl rfl (eRet_i (by rw [if_pos (by omega)]) (by unfold mUn; rw [if_pos (by omega)] <;> rfl))
    · exfalso; omega
