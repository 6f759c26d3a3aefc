/-! ===== the reference: shares ===== -/
theorem C_X7_mixedShare {X : eXT} {a : Nat → Nat} {N : Int} {F M : eFs} (hF : okF N F) (hR : mR F (M.2 0))  :
    EM X mX7_mixedShare (eRm 5) a [.ref (a 0)] (wM a M) (eRet (some (if 1 ≤ sPrs F then .float (FP.fdiv (FP.i2f (Int32.ofInt (sMix F))) (FP.i2f (Int32.ofInt (sPrs F)))) else .float 0)) a (wM a (sS M 0 (if 1 ≤ sPrs F then 0 else 1)))) := by
  refine EM.of (by decide +kernel) rfl (Nat.le_of_ble_eq_true rfl) ?_
  have hF0 := hF
  obtain ⟨hc, hld, hled, htn, hgo, hkp, hst, hwt, hcl, hsh, hnx, hN, rx, ry, rh, rm, rc, rw9⟩ := hF
  obtain ⟨⟨n0, n1, n2, n3, n4, n5, n6, n7, n8, n9⟩, hb, hcd, hss⟩ := id hR
  refine e_aload_n dX7_mixedShare_0 rfl rfl ?_
  refine e_iconst dX7_mixedShare_1 rfl ?_
  refine e_cV0 [0, 1, 2, 3, 4, 5] lk_X7_187 rfl dX7_mixedShare_2 rfl (C_X7_pairsA hF0 hR) rfl rfl (Nat.le_of_ble_eq_true rfl) (Nat.le_of_ble_eq_true rfl) (Nat.le_of_ble_eq_true rfl) ⟨rfl, rfl⟩ rfl rfl rfl rfl rfl rfl  ?_
  have us := sPrs_in hc
  have um := sMix_in hc
  refine f_istore_n dX7_mixedShare_5 rfl (Nat.le_of_ble_eq_true rfl) rfl ?_
  refine e_aload_n dX7_mixedShare_6 rfl rfl ?_
  refine e_iload_n dX7_mixedShare_7 rfl rfl ?_
  refine e_if_le (t := 15) dX7_mixedShare_8 rfl rfl (by omega) (fun h8 => ?_) (fun h8 => ?_)
  · refine e_iconst dX7_mixedShare_15 rfl ?_
    refine e_cV2 [0, 1, 2, 3, 4, 5] lk_X7_78 rfl dX7_mixedShare_16 rfl (C_X7_isFine0 (M := M)) rfl rfl (Nat.le_of_ble_eq_true rfl) (Nat.le_of_ble_eq_true rfl) (Nat.le_of_ble_eq_true rfl) ⟨rfl, rfl⟩ rfl rfl rfl rfl rfl rfl rfl rfl ?_
    refine e_if_eq (t := 34) dX7_mixedShare_19 rfl rfl (by omega) (fun h19 => ?_) (fun h19 => ?_)
    · refine e_fconst0 dX7_mixedShare_34 rfl ?_
      exact e_fret dX7_mixedShare_35 rfl ⟨by rw [if_neg (by omega)], rfl, by rw [if_neg (by omega)] <;> rfl⟩
    · exfalso; omega
  · refine e_iconst dX7_mixedShare_11 rfl ?_
    refine e_goto (n := 16) dX7_mixedShare_12 rfl ?_
    refine e_cV2 [0, 1, 2, 3, 4, 5] lk_X7_78 rfl dX7_mixedShare_16 rfl (C_X7_isFine1 (M := M)) rfl rfl (Nat.le_of_ble_eq_true rfl) (Nat.le_of_ble_eq_true rfl) (Nat.le_of_ble_eq_true rfl) ⟨rfl, rfl⟩ rfl rfl rfl rfl rfl rfl rfl rfl ?_
    refine e_if_eq (t := 34) dX7_mixedShare_19 rfl rfl (by omega) (fun h19 => ?_) (fun h19 => ?_)
    · exfalso; omega
    · refine e_aload_n dX7_mixedShare_22 rfl rfl ?_
      refine e_iconst dX7_mixedShare_23 rfl ?_
      refine e_cV0 [0, 1, 2, 3, 4, 5] lk_X7_187 rfl dX7_mixedShare_24 rfl (C_X7_pairsM (M := sS M 0 0) hF0 hR) rfl rfl (Nat.le_of_ble_eq_true rfl) (Nat.le_of_ble_eq_true rfl) (Nat.le_of_ble_eq_true rfl) ⟨rfl, rfl⟩ rfl rfl rfl rfl rfl rfl  ?_
      refine e_i2f dX7_mixedShare_27 rfl ?_
      refine e_iload_n dX7_mixedShare_28 rfl rfl ?_
      refine e_i2f dX7_mixedShare_29 rfl ?_
      refine e_fdiv dX7_mixedShare_30 rfl (fp_div32 (by omega) (by omega)) ?_
      refine e_goto (n := 35) dX7_mixedShare_31 rfl ?_
      exact e_fret dX7_mixedShare_35 rfl ⟨by rw [if_pos (by omega)], rfl, by rw [if_pos (by omega)] <;> rfl⟩
theorem C_X7_meanDistance {X : eXT} {a : Nat → Nat} {N : Int} {F M : eFs} (hF : okF N F) (hR : mR F (M.2 0))  :
    EM X mX7_meanDistance (eRm 3) a [.ref (a 0)] (wM a M) (eRet (some (if 2 ≤ F.1 0 then .double (FP.ddiv (FP.i2d (Int32.ofInt (sSumD F))) (FP.i2d (Int32.ofInt (F.1 0 - 1)))) else .double 0)) a (wM a (sS M 0 (if 2 ≤ F.1 0 then 0 else 1)))) := by
  refine EM.of (by decide +kernel) rfl (Nat.le_of_ble_eq_true rfl) ?_
  have hF0 := hF
  obtain ⟨hc, hld, hled, htn, hgo, hkp, hst, hwt, hcl, hsh, hnx, hN, rx, ry, rh, rm, rc, rw9⟩ := hF
  obtain ⟨⟨n0, n1, n2, n3, n4, n5, n6, n7, n8, n9⟩, hb, hcd, hss⟩ := id hR
  refine e_aload_n dX7_meanDistance_0 rfl rfl ?_
  refine e_aload_n dX7_meanDistance_1 rfl rfl ?_
  refine e_getfield fd_X7_9 dX7_meanDistance_2 rfl rfl rfl rfl ?_
  refine e_iconst dX7_meanDistance_5 rfl ?_
  refine e_iaload dX7_meanDistance_6 rfl rfl rfl (by omega) (by decide) ?_
  refine e_iconst dX7_meanDistance_7 rfl ?_
  refine e_icmp_le (t := 15) dX7_meanDistance_8 rfl rfl (by omega) (by omega) (fun h8 => ?_) (fun h8 => ?_)
  · refine e_iconst dX7_meanDistance_15 rfl ?_
    refine e_cV2 [0, 1, 2, 3, 4, 5] lk_X7_78 rfl dX7_meanDistance_16 rfl (C_X7_isFine0 (M := M)) rfl rfl (Nat.le_of_ble_eq_true rfl) (Nat.le_of_ble_eq_true rfl) (Nat.le_of_ble_eq_true rfl) ⟨rfl, rfl⟩ rfl rfl rfl rfl rfl rfl rfl rfl ?_
    refine e_if_ne (t := 24) dX7_meanDistance_19 rfl rfl (by omega) (fun h19 => ?_) (fun h19 => ?_)
    · exfalso; omega
    · refine e_dconst0 dX7_meanDistance_22 rfl ?_
      exact e_dret dX7_meanDistance_23 rfl ⟨by rw [if_neg (by omega)], rfl, by rw [if_neg (by omega)] <;> rfl⟩
  · refine e_iconst dX7_meanDistance_11 rfl ?_
    refine e_goto (n := 16) dX7_meanDistance_12 rfl ?_
    refine e_cV2 [0, 1, 2, 3, 4, 5] lk_X7_78 rfl dX7_meanDistance_16 rfl (C_X7_isFine1 (M := M)) rfl rfl (Nat.le_of_ble_eq_true rfl) (Nat.le_of_ble_eq_true rfl) (Nat.le_of_ble_eq_true rfl) ⟨rfl, rfl⟩ rfl rfl rfl rfl rfl rfl rfl rfl ?_
    refine e_if_ne (t := 24) dX7_meanDistance_19 rfl rfl (by omega) (fun h19 => ?_) (fun h19 => ?_)
    · refine e_iconst dX7_meanDistance_24 rfl ?_
      refine f_istore_n dX7_meanDistance_25 rfl (Nat.le_of_ble_eq_true rfl) rfl ?_
      refine e_iconst dX7_meanDistance_26 rfl ?_
      refine f_istore_n dX7_meanDistance_27 rfl (Nat.le_of_ble_eq_true rfl) rfl ?_
      have hL28 : ∀ (k28 : Nat) (k n : Int) (hk28 : ((F.1 0) - k).toNat = k28) (g28 : 0 ≤ k ∧ k ≤ F.1 0) (e28 : 0 + eSB (fun b => sDD F b (F.1 1)) (F.1 0) 0 = n + eSB (fun b => sDD F b (F.1 1)) (F.1 0) k) , EV (mX7_meanDistance, (eRm 3), eRet (some (if 2 ≤ F.1 0 then .double (FP.ddiv (FP.i2d (Int32.ofInt (sSumD F))) (FP.i2d (Int32.ofInt (F.1 0 - 1)))) else .double 0)) a (wM a (sS M 0 (if 2 ≤ F.1 0 then 0 else 1))), X) a (0, 0) (wM a (sS M 0 0)) 28 [some (.ref (a 0)), some (vi n), some (vi k)] [] := by
        intro k28
        induction k28 using Nat.strongRecOn with
        | _ k28 ih28 =>
        intro k n hk28 g28 e28
        refine e_iload_n dX7_meanDistance_28 rfl rfl ?_
        refine e_aload_n dX7_meanDistance_29 rfl rfl ?_
        refine e_getfield fd_X7_9 dX7_meanDistance_30 rfl rfl rfl rfl ?_
        refine e_iconst dX7_meanDistance_33 rfl ?_
        refine e_iaload dX7_meanDistance_34 rfl rfl rfl (by omega) (by decide) ?_
        refine EV.eq (st' := [vi (F.1 0), vi k]) (by show [vi (M.2 0 0), vi k] = _; rw [n0]) ?_
        refine e_icmp_ge (t := 58) dX7_meanDistance_35 rfl rfl (by omega) (by omega) (fun h35 => ?_) (fun h35 => ?_)
        · have w := eSB_end (f := fun b => sDD F b (F.1 1)) (n := F.1 0) (i := k) (by omega)
          have sn : n = sSumD F := by unfold sSumD; omega
          subst sn
          have us := sSumD_in hF0
          refine e_iload_n dX7_meanDistance_58 rfl rfl ?_
          refine e_i2d dX7_meanDistance_59 rfl ?_
          refine e_aload_n dX7_meanDistance_60 rfl rfl ?_
          refine e_getfield fd_X7_9 dX7_meanDistance_61 rfl rfl rfl rfl ?_
          refine e_iconst dX7_meanDistance_64 rfl ?_
          refine e_iaload dX7_meanDistance_65 rfl rfl rfl (by omega) (by decide) ?_
          refine EV.eq (st' := [vi (F.1 0), .double (FP.i2d (Int32.ofInt (sSumD F)))]) (by show [vi (M.2 0 0), .double (FP.i2d (Int32.ofInt (sSumD F)))] = _; rw [n0]) ?_
          refine e_iconst dX7_meanDistance_66 rfl ?_
          refine e_isub dX7_meanDistance_67 rfl ?_
          refine e_i2d dX7_meanDistance_68 rfl ?_
          refine e_ddiv dX7_meanDistance_69 rfl (fp_div64 (by omega) (by omega)) ?_
          exact e_dret dX7_meanDistance_70 rfl ⟨by rw [if_pos (by omega)], rfl, by rw [if_pos (by omega)] <;> rfl⟩
        · refine e_iload_n dX7_meanDistance_38 rfl rfl ?_
          refine e_aload_n dX7_meanDistance_39 rfl rfl ?_
          refine e_iload_n dX7_meanDistance_40 rfl rfl ?_
          refine e_aload_n dX7_meanDistance_41 rfl rfl ?_
          refine e_getfield fd_X7_9 dX7_meanDistance_42 rfl rfl rfl rfl ?_
          refine e_iconst dX7_meanDistance_45 rfl ?_
          refine e_iaload dX7_meanDistance_46 rfl rfl rfl (by omega) (by decide) ?_
          refine EV.eq (st' := [vi (F.1 1), vi k, .ref (a 0), vi n]) (by show [vi (M.2 0 2), vi k, .ref (a 0), vi n] = _; rw [n2]) ?_
          refine e_cV0 [0, 1, 2, 3, 4, 5] lk_X7_99 rfl dX7_meanDistance_47 rfl (C_X7_apart (M := sS M 0 0) hF0 hR (b := k) (o := F.1 1) (by omega) (by omega)) rfl rfl (Nat.le_of_ble_eq_true rfl) (Nat.le_of_ble_eq_true rfl) (Nat.le_of_ble_eq_true rfl) ⟨rfl, rfl⟩ rfl rfl rfl rfl rfl rfl  ?_
          refine e_iadd dX7_meanDistance_50 rfl ?_
          refine f_istore_n dX7_meanDistance_51 rfl (Nat.le_of_ble_eq_true rfl) rfl ?_
          refine f_iinc dX7_meanDistance_52 rfl rfl (Nat.le_of_ble_eq_true rfl) rfl ?_
          refine e_goto (n := 28) dX7_meanDistance_55 rfl ?_
          exact ih28 _ (by omega) (k + 1) (n + sDD F k (F.1 1)) rfl (by omega) (by have w := eSB_go (f := fun b => sDD F b (F.1 1)) (n := F.1 0) (i := k) (by omega); omega)
      exact hL28 _ 0 0 rfl (by omega) rfl 
    · exfalso; omega
