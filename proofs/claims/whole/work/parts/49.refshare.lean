/-! ===== the reference: shares ===== -/
theorem C_X7_mixedShare {X : eXT} {a : Nat → Nat} {N : Int} {F M : eFs} (hF : okF N F) (hR : mR F (M.2 0))  :
    EM X mX7_mixedShare (eRm 5) a [.ref (a 0)] (wM a M) (eRet (some (if 1 ≤ sPrs F then .float (FP.fdiv (FP.i2f (Int32.ofInt (sMix F))) (FP.i2f (Int32.ofInt (sPrs F)))) else .float 0)) a (wM a (sS M 0 (if 1 ≤ sPrs F then 0 else 1)))) := by
  refine EM.of (by decide +kernel) rfl (Nat.le_of_ble_eq_true rfl) ?_
  have hF0 := hF
  obtain ⟨hc, hld, hled, htn, hgo, hkp, hst, hwt, hcl, hsh, hnx, hN, rx, ry, rh, rm, rc, rw9⟩ := hF
  obtain ⟨⟨n0, n1, n2, n3, n4, n5, n6, n7, n8, n9⟩, hb, hcd, hss⟩ := id hR
  refine e_aload_n dX7_mixedShare_0 rfl rfl ?_
  refine e_iconst dX7_mixedShare_1 rfl ?_
  refine e_cV0 [0, 1, 2, 3, 4, 5] lk_X7_187 rfl dX7_mixedShare_2 rfl (C_X7_pairsA hF0 hR) rfl rfl (Nat.le_of_ble_eq_true rfl) (Nat.le_of_ble_eq_true rfl) (Nat.le_of_ble_eq_true rfl) ⟨rfl, rfl⟩ rfl rfl rfl rfl rfl rfl  ?_
  have us := sPrs_in hc
  have um := sMix_in hc
  refine f_istore_n dX7_mixedShare_5 rfl (Nat.le_of_ble_eq_true rfl) rfl ?_
  refine e_aload_n dX7_mixedShare_6 rfl rfl ?_
  refine e_iload_n dX7_mixedShare_7 rfl rfl ?_
  refine e_if_le (t := 15) dX7_mixedShare_8 rfl rfl (by omega) (fun h8 => ?_) (fun h8 => ?_)
  · refine e_iconst dX7_mixedShare_15 rfl ?_
    refine e_cV2 [0, 1, 2, 3, 4, 5] lk_X7_78 rfl dX7_mixedShare_16 rfl (C_X7_isFine0 (M := M)) rfl rfl (Nat.le_of_ble_eq_true rfl) (Nat.le_of_ble_eq_true rfl) (Nat.le_of_ble_eq_true rfl) ⟨rfl, rfl⟩ rfl rfl rfl rfl rfl rfl rfl rfl ?_
    refine e_if_eq (t := 34) dX7_mixedShare_19 rfl rfl (by omega) (fun h19 => ?_) (fun h19 => ?_)
    · refine e_fconst0 dX7_mixedShare_34 rfl ?_
      exact e_fret dX7_mixedShare_35 rfl ⟨by rw [if_neg (by omega)], rfl, by rw [if_neg (by omega)] <;> rfl⟩
    · exfalso; omega
  · refine e_iconst dX7_mixedShare_11 rfl ?_
    refine e_goto (n := 16) dX7_mixedShare_12 rfl ?_
    refine e_cV2 [0, 1, 2, 3, 4, 5] lk_X7_78 rfl dX7_mixedShare_16 rfl (C_X7_isFine1 (M := M)) rfl rfl (Nat.le_of_ble_eq_true rfl) (Nat.le_of_ble_eq_true rfl) (Nat.le_of_ble_eq_true rfl) ⟨rfl, rfl⟩ rfl rfl rfl rfl rfl rfl rfl rfl ?_
    refine e_if_eq (t := 34) dX7_mixedShare_19 rfl rfl (by omega) (fun h19 => ?_) (fun h19 => ?_)
    · exfalso; omega
    · refine e_aload_n dX7_mixedShare_22 rfl rfl ?_
      refine e_iconst dX7_mixedShare_23 rfl ?_
      refine e_cV0 [0, 1, 2, 3, 4, 5] lk_X7_187 rfl dX7_mixedShare_24 rfl (C_X7_pairsM (M := sS M 0 0) hF0 hR) rfl rfl (Nat.le_of_ble_eq_true rfl) (Nat.le_of_ble_eq_true rfl) (Nat.le_of_ble_eq_true rfl) ⟨rfl, rfl⟩ rfl rfl rfl rfl rfl rfl  ?_
      refine e_i2f dX7_mixedShare_27 rfl ?_
      refine e_iload_n dX7_mixedShare_28 rfl rfl ?_
      refine e_i2f dX7_mixedShare_29 rfl ?_
      refine e_fdiv dX7_mixedShare_30 rfl (fp_div32 (by omega) (by omega)) ?_
      refine e_goto (n := 35) dX7_mixedShare_31 rfl ?_
      exact e_fret dX7_mixedShare_35 rfl ⟨by rw [if_pos (by omega)], rfl, by rw [if_pos (by omega)] <;> rfl⟩
