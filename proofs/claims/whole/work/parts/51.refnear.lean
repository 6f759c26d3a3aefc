/-! ===== the reference: the nearest ===== -/
theorem C_X7_nearestTo {X : eXT} {a : Nat → Nat} {N : Int} {F M : eFs} (hF : okF N F) (hR : mR F (M.2 0)) {b : Int} (gb : -2147483648 ≤ b ∧ b ≤ 2147483647) :
    EM X mX7_nearestTo (eRm 3) a [.ref (a 0), vi b] (wM a M) (eRet (some (vi (if ((if ¬ sHas F b then 1 else if F.1 0 < 2 then 2 else 0) : Int) = 0 then (sNear F b) else 0))) a (wM a (sS M 0 ((if ¬ sHas F b then 1 else if F.1 0 < 2 then 2 else 0))))) := by
  refine EM.of (by decide +kernel) rfl (Nat.le_of_ble_eq_true rfl) ?_
  have hF0 := hF
  obtain ⟨hc, hld, hled, htn, hgo, hkp, hst, hwt, hcl, hsh, hnx, hN, rx, ry, rh, rm, rc, rw9⟩ := hF
  obtain ⟨⟨n0, n1, n2, n3, n4, n5, n6, n7, n8, n9⟩, hb, hcd, hss⟩ := id hR
  refine e_aload_n dX7_nearestTo_0 rfl rfl ?_
  refine e_aload_n dX7_nearestTo_1 rfl rfl ?_
  refine e_iload_n dX7_nearestTo_2 rfl rfl ?_
  refine e_cV0 [0, 1, 2, 3, 4, 5] lk_X7_128 rfl dX7_nearestTo_3 rfl (C_X7_isBasket hF0 hR (by omega)) rfl rfl (Nat.le_of_ble_eq_true rfl) (Nat.le_of_ble_eq_true rfl) (Nat.le_of_ble_eq_true rfl) ⟨rfl, rfl⟩ rfl rfl rfl rfl rfl rfl  ?_
  refine e_ifb_ne (t := 13) dX7_nearestTo_6 rfl rfl (fun h6 => ?_) (fun h6 => ?_)
  · refine e_aload_n dX7_nearestTo_13 rfl rfl ?_
    refine e_getfield fd_X7_9 dX7_nearestTo_14 rfl rfl rfl rfl ?_
    refine e_iconst dX7_nearestTo_17 rfl ?_
    refine e_iaload dX7_nearestTo_18 rfl rfl rfl (by omega) (by decide) ?_
    refine e_iconst dX7_nearestTo_19 rfl ?_
    refine e_icmp_ge (t := 27) dX7_nearestTo_20 rfl rfl (by omega) (by omega) (fun h20 => ?_) (fun h20 => ?_)
    · refine e_iconst dX7_nearestTo_27 rfl ?_
      refine e_putfield fd_X7_33 dX7_nearestTo_28 rfl rfl rfl (Nat.le_of_ble_eq_true rfl) rfl rfl ?_
      refine EV.ceq (cs' := wM a (sS M 0 0)) rfl ?_
      refine e_aload_n dX7_nearestTo_31 rfl rfl ?_
      refine e_getfield fd_X7_33 dX7_nearestTo_32 rfl rfl rfl rfl ?_
      refine EV.eq (st' := [vi 0]) rfl ?_
      refine e_if_eq (t := 40) dX7_nearestTo_35 rfl rfl (by omega) (fun h35 => ?_) (fun h35 => ?_)
      · have hJ49 : ∀ (z : Int) (hz : (b = 0 ∧ z = 1) ∨ (¬ b = 0 ∧ z = 0)), EV (mX7_nearestTo, (eRm 3), eRet (some (vi (if ((if ¬ sHas F b then 1 else if F.1 0 < 2 then 2 else 0) : Int) = 0 then (sNear F b) else 0))) a (wM a (sS M 0 ((if ¬ sHas F b then 1 else if F.1 0 < 2 then 2 else 0)))), X) a (0, 0) (wM a (sS M 0 0)) 49 [some (.ref (a 0)), some (vi b), none, none] [vi z] := by
          intro z hz
          refine f_istore_n dX7_nearestTo_49 rfl (Nat.le_of_ble_eq_true rfl) rfl ?_
          refine e_iload_n dX7_nearestTo_50 rfl rfl ?_
          refine e_iconst dX7_nearestTo_51 rfl ?_
          refine e_iadd dX7_nearestTo_52 rfl ?_
          refine f_istore_n dX7_nearestTo_53 rfl (Nat.le_of_ble_eq_true rfl) rfl ?_
          have hL54 : ∀ (k54 : Nat) (k z : Int) (hk54 : (F.1 0 - k).toNat = k54) (g54 : 1 ≤ k ∧ k ≤ F.1 0) (e54 : sNrC F b k z) (z54 : 0 ≤ z ∧ z < k), EV (mX7_nearestTo, (eRm 3), eRet (some (vi (if ((if ¬ sHas F b then 1 else if F.1 0 < 2 then 2 else 0) : Int) = 0 then (sNear F b) else 0))) a (wM a (sS M 0 ((if ¬ sHas F b then 1 else if F.1 0 < 2 then 2 else 0)))), X) a (0, 0) (wM a (sS M 0 0)) 54 [some (.ref (a 0)), some (vi b), some (vi z), some (vi k)] [] := by
            intro k54
            induction k54 using Nat.strongRecOn with
            | _ k54 ih54 =>
            intro k z hk54 g54 e54 z54
            refine e_iload_n dX7_nearestTo_54 rfl rfl ?_
            refine e_aload_n dX7_nearestTo_55 rfl rfl ?_
            refine e_getfield fd_X7_9 dX7_nearestTo_56 rfl rfl rfl rfl ?_
            refine e_iconst dX7_nearestTo_59 rfl ?_
            refine e_iaload dX7_nearestTo_60 rfl rfl rfl (by omega) (by decide) ?_
            refine EV.eq (st' := [vi (F.1 0), vi k]) (by show [vi (M.2 0 0), vi k] = _; rw [n0]) ?_
            refine e_icmp_ge (t := 96) dX7_nearestTo_61 rfl rfl (by omega) (by omega) (fun h61 => ?_) (fun h61 => ?_)
            · refine e_iload_n dX7_nearestTo_96 rfl rfl ?_
              exact e_iret dX7_nearestTo_97 rfl rfl (mq_y (a := a) (M := M) (T := (if ¬ sHas F b then 1 else if F.1 0 < 2 then 2 else 0)) (v := (sNear F b)) (by rw [if_neg (Decidable.not_not.mpr h6), if_neg (by omega)]) (near_e (by omega) (by omega) e54) (rfl))
            · have uk := sDD_in hF0 b k
              have uz := sDD_in hF0 b z
              refine e_iload_n dX7_nearestTo_64 rfl rfl ?_
              refine e_iload_n dX7_nearestTo_65 rfl rfl ?_
              refine e_icmp_eq (t := 88) dX7_nearestTo_66 rfl rfl (by omega) (by omega) (fun h66 => ?_) (fun h66 => ?_)
              · refine e_iload_n dX7_nearestTo_88 rfl rfl ?_
                refine f_istore_n dX7_nearestTo_89 rfl (Nat.le_of_ble_eq_true rfl) rfl ?_
                refine f_iinc dX7_nearestTo_90 rfl rfl (Nat.le_of_ble_eq_true rfl) rfl ?_
                refine e_goto (n := 54) dX7_nearestTo_93 rfl ?_
                exact ih54 _ (by omega) (k + 1) z rfl (by omega) (near_o (by omega) e54 (by omega)) (by omega)
              · refine e_aload_n dX7_nearestTo_69 rfl rfl ?_
                refine e_iload_n dX7_nearestTo_70 rfl rfl ?_
                refine e_iload_n dX7_nearestTo_71 rfl rfl ?_
                refine e_cV0 [0, 1, 2, 3, 4, 5] lk_X7_99 rfl dX7_nearestTo_72 rfl (C_X7_apart (M := sS M 0 0) hF0 hR (b := b) (o := k) (by omega) (by omega)) rfl rfl (Nat.le_of_ble_eq_true rfl) (Nat.le_of_ble_eq_true rfl) (Nat.le_of_ble_eq_true rfl) ⟨rfl, rfl⟩ rfl rfl rfl rfl rfl rfl  ?_
                refine e_aload_n dX7_nearestTo_75 rfl rfl ?_
                refine e_iload_n dX7_nearestTo_76 rfl rfl ?_
                refine e_iload_n dX7_nearestTo_77 rfl rfl ?_
                refine e_cV0 [0, 1, 2, 3, 4, 5] lk_X7_99 rfl dX7_nearestTo_78 rfl (C_X7_apart (M := sS M 0 0) hF0 hR (b := b) (o := z) (by omega) (by omega)) rfl rfl (Nat.le_of_ble_eq_true rfl) (Nat.le_of_ble_eq_true rfl) (Nat.le_of_ble_eq_true rfl) ⟨rfl, rfl⟩ rfl rfl rfl rfl rfl rfl  ?_
                refine e_icmp_ge (t := 88) dX7_nearestTo_81 rfl rfl (by omega) (by omega) (fun h81 => ?_) (fun h81 => ?_)
                · refine e_iload_n dX7_nearestTo_88 rfl rfl ?_
                  refine f_istore_n dX7_nearestTo_89 rfl (Nat.le_of_ble_eq_true rfl) rfl ?_
                  refine f_iinc dX7_nearestTo_90 rfl rfl (Nat.le_of_ble_eq_true rfl) rfl ?_
                  refine e_goto (n := 54) dX7_nearestTo_93 rfl ?_
                  exact ih54 _ (by omega) (k + 1) z rfl (by omega) (near_o (by omega) e54 (by omega)) (by omega)
                · refine e_iload_n dX7_nearestTo_84 rfl rfl ?_
                  refine e_goto (n := 89) dX7_nearestTo_85 rfl ?_
                  refine f_istore_n dX7_nearestTo_89 rfl (Nat.le_of_ble_eq_true rfl) rfl ?_
                  refine f_iinc dX7_nearestTo_90 rfl rfl (Nat.le_of_ble_eq_true rfl) rfl ?_
                  refine e_goto (n := 54) dX7_nearestTo_93 rfl ?_
                  exact ih54 _ (by omega) (k + 1) k rfl (by omega) (near_n (by omega) e54 (by omega)) (by omega)
          exact hL54 _ (z + 1) z rfl (by omega) (Or.inr ⟨by omega, by omega, by omega, fun j j0 j1 j2 => Or.inr ⟨by rw [show j = z by omega], by omega⟩⟩) (by omega)
        refine e_iload_n dX7_nearestTo_40 rfl rfl ?_
        refine e_if_ne (t := 48) dX7_nearestTo_41 rfl rfl (by omega) (fun h41 => ?_) (fun h41 => ?_)
        · refine e_iconst dX7_nearestTo_48 rfl ?_
          refine EV.fgt 2 ?_
          refine EV.fgt 3 ?_
          exact hJ49 0 (by omega)
        · refine e_iconst dX7_nearestTo_44 rfl ?_
          refine e_goto (n := 49) dX7_nearestTo_45 rfl ?_
          refine EV.fgt 2 ?_
          refine EV.fgt 3 ?_
          exact hJ49 1 (by omega)
      · exfalso; omega
    · refine e_iconst dX7_nearestTo_23 rfl ?_
      refine e_goto (n := 28) dX7_nearestTo_24 rfl ?_
      refine e_putfield fd_X7_33 dX7_nearestTo_28 rfl rfl rfl (Nat.le_of_ble_eq_true rfl) rfl rfl ?_
      refine EV.ceq (cs' := wM a (sS M 0 2)) rfl ?_
      refine e_aload_n dX7_nearestTo_31 rfl rfl ?_
      refine e_getfield fd_X7_33 dX7_nearestTo_32 rfl rfl rfl rfl ?_
      refine EV.eq (st' := [vi 2]) rfl ?_
      refine e_if_eq (t := 40) dX7_nearestTo_35 rfl rfl (by omega) (fun h35 => ?_) (fun h35 => ?_)
      · exfalso; omega
      · refine e_iconst dX7_nearestTo_38 rfl ?_
        exact e_iret dX7_nearestTo_39 rfl rfl (mq_n (a := a) (M := M) (T := (if ¬ sHas F b then 1 else if F.1 0 < 2 then 2 else 0)) (v := (sNear F b)) (t := 2) (by rw [if_neg (Decidable.not_not.mpr h6), if_pos (by omega)]) (by decide) (rfl))
  · refine e_iconst dX7_nearestTo_9 rfl ?_
    refine e_goto (n := 28) dX7_nearestTo_10 rfl ?_
    refine e_putfield fd_X7_33 dX7_nearestTo_28 rfl rfl rfl (Nat.le_of_ble_eq_true rfl) rfl rfl ?_
    refine EV.ceq (cs' := wM a (sS M 0 1)) rfl ?_
    refine e_aload_n dX7_nearestTo_31 rfl rfl ?_
    refine e_getfield fd_X7_33 dX7_nearestTo_32 rfl rfl rfl rfl ?_
    refine EV.eq (st' := [vi 1]) rfl ?_
    refine e_if_eq (t := 40) dX7_nearestTo_35 rfl rfl (by omega) (fun h35 => ?_) (fun h35 => ?_)
    · exfalso; omega
    · refine e_iconst dX7_nearestTo_38 rfl ?_
      exact e_iret dX7_nearestTo_39 rfl rfl (mq_n (a := a) (M := M) (T := (if ¬ sHas F b then 1 else if F.1 0 < 2 then 2 else 0)) (v := (sNear F b)) (t := 1) (if_pos h6) (by decide) (rfl))
