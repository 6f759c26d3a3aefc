/-! ===== the reference: ranks ===== -/
theorem C_X7_basketAtRank {X : eXT} {a : Nat → Nat} {N : Int} {F M : eFs} (hF : okF N F) (hR : mR F (M.2 0)) {r : Int} (gr : -2147483648 ≤ r ∧ r ≤ 2147483647) :
    EM X mX7_basketAtRank (eRm 3) a [.ref (a 0), vi r] (wM a M) (eRet (some (vi (if ((if ¬ sWithRk F r = -1 then 0 else 1) : Int) = 0 then (sWithRk F r) else 0))) a (wM a (sS M 0 ((if ¬ sWithRk F r = -1 then 0 else 1))))) := by
  refine EM.of (by decide +kernel) rfl (Nat.le_of_ble_eq_true rfl) ?_
  have hF0 := hF
  obtain ⟨hc, hld, hled, htn, hgo, hkp, hst, hwt, hcl, hsh, hnx, hN, rx, ry, rh, rm, rc, rw9⟩ := hF
  obtain ⟨⟨n0, n1, n2, n3, n4, n5, n6, n7, n8, n9⟩, hb, hcd, hss⟩ := id hR
  refine e_aload_n dX7_basketAtRank_0 rfl rfl ?_
  refine e_getfield fd_X7_9 dX7_basketAtRank_1 rfl rfl rfl rfl ?_
  refine e_iconst dX7_basketAtRank_4 rfl ?_
  refine e_iaload dX7_basketAtRank_5 rfl rfl rfl (by omega) (by decide) ?_
  refine EV.eq (st' := [vi (F.1 1)]) (by rw [← n2] <;> rfl) ?_
  refine f_istore_n dX7_basketAtRank_6 rfl (Nat.le_of_ble_eq_true rfl) rfl ?_
  refine e_iconst dX7_basketAtRank_7 rfl ?_
  refine f_istore_n dX7_basketAtRank_8 rfl (Nat.le_of_ble_eq_true rfl) rfl ?_
  have hL9 : ∀ (k9 : Nat) (k t : Int) (hk9 : (F.1 0 - k).toNat = k9) (g9 : 0 ≤ k ∧ k ≤ F.1 0) (e9 : eFB (fun b => sRk F b = r) (F.1 0) 0 = eFB (fun b => sRk F b = r) (F.1 0) k), EV (mX7_basketAtRank, (eRm 3), eRet (some (vi (if ((if ¬ sWithRk F r = -1 then 0 else 1) : Int) = 0 then (sWithRk F r) else 0))) a (wM a (sS M 0 ((if ¬ sWithRk F r = -1 then 0 else 1)))), X) a (0, 0) (wM a (sS M 0 t)) 9 [some (.ref (a 0)), some (vi r), some (vi (F.1 1)), some (vi k), none, none] [] := by
    intro k9
    induction k9 using Nat.strongRecOn with
    | _ k9 ih9 =>
    intro k t hk9 g9 e9
    refine e_iload_n dX7_basketAtRank_9 rfl rfl ?_
    refine e_aload_n dX7_basketAtRank_10 rfl rfl ?_
    refine e_getfield fd_X7_9 dX7_basketAtRank_11 rfl rfl rfl rfl ?_
    refine e_iconst dX7_basketAtRank_14 rfl ?_
    refine e_iaload dX7_basketAtRank_15 rfl rfl rfl (by omega) (by decide) ?_
    refine EV.eq (st' := [vi (F.1 0), vi k]) (by show [vi (M.2 0 0), vi k] = _; rw [n0]) ?_
    refine e_icmp_ge (t := 116) dX7_basketAtRank_16 rfl rfl (by omega) (by omega) (fun h16 => ?_) (fun h16 => ?_)
    · have hk : sWithRk F r = -1 := e9.trans (eFB_end (by omega))
      refine e_aload_n dX7_basketAtRank_116 rfl rfl ?_
      refine e_iconst dX7_basketAtRank_117 rfl ?_
      refine e_putfield fd_X7_33 dX7_basketAtRank_118 rfl rfl rfl (Nat.le_of_ble_eq_true rfl) rfl rfl ?_
      refine EV.ceq (cs' := wM a (sS M 0 1)) rfl ?_
      refine e_iconst dX7_basketAtRank_121 rfl ?_
      exact e_iret dX7_basketAtRank_122 rfl rfl (mq_n (a := a) (M := M) (T := (if ¬ sWithRk F r = -1 then 0 else 1)) (v := (sWithRk F r)) (t := 1) (by rw [if_neg (by omega)]) (by decide) (rfl))
    · refine e_iconst dX7_basketAtRank_19 rfl ?_
      refine f_istore dX7_basketAtRank_20 rfl (Nat.le_of_ble_eq_true rfl) rfl ?_
      refine e_iconst dX7_basketAtRank_22 rfl ?_
      refine f_istore dX7_basketAtRank_23 rfl (Nat.le_of_ble_eq_true rfl) rfl ?_
      have hL25 : ∀ (k25 : Nat) (j q : Int) (hk25 : ((F.1 0) - j).toNat = k25) (g25 : 0 ≤ j ∧ j ≤ F.1 0) (e25 : 0 + eCB (fun j => sDD F j (F.1 1) < sDD F k (F.1 1) ∨ (sDD F j (F.1 1) = sDD F k (F.1 1) ∧ j < k)) (F.1 0) 0 = q + eCB (fun j => sDD F j (F.1 1) < sDD F k (F.1 1) ∨ (sDD F j (F.1 1) = sDD F k (F.1 1) ∧ j < k)) (F.1 0) j) , EV (mX7_basketAtRank, (eRm 3), eRet (some (vi (if ((if ¬ sWithRk F r = -1 then 0 else 1) : Int) = 0 then (sWithRk F r) else 0))) a (wM a (sS M 0 ((if ¬ sWithRk F r = -1 then 0 else 1)))), X) a (0, 0) (wM a (sS M 0 t)) 25 [some (.ref (a 0)), some (vi r), some (vi (F.1 1)), some (vi k), some (vi q), some (vi j)] [] := by
        intro k25
        induction k25 using Nat.strongRecOn with
        | _ k25 ih25 =>
        intro j q hk25 g25 e25
        refine e_iload dX7_basketAtRank_25 rfl rfl ?_
        refine e_aload_n dX7_basketAtRank_27 rfl rfl ?_
        refine e_getfield fd_X7_9 dX7_basketAtRank_28 rfl rfl rfl rfl ?_
        refine e_iconst dX7_basketAtRank_31 rfl ?_
        refine e_iaload dX7_basketAtRank_32 rfl rfl rfl (by omega) (by decide) ?_
        refine EV.eq (st' := [vi (F.1 0), vi j]) (by show [vi (M.2 0 0), vi j] = _; rw [n0]) ?_
        refine e_icmp_ge (t := 90) dX7_basketAtRank_33 rfl rfl (by omega) (by omega) (fun h33 => ?_) (fun h33 => ?_)
        · have w := eCB_end (P := fun j => sDD F j (F.1 1) < sDD F k (F.1 1) ∨ (sDD F j (F.1 1) = sDD F k (F.1 1) ∧ j < k)) (n := F.1 0) (i := j) (by omega)
          have qr : q = sRk F k := by unfold sRk; omega
          have qb : 0 ≤ sRk F k ∧ sRk F k ≤ F.1 0 - 0 := eCB_in (by omega)
          refine e_aload_n dX7_basketAtRank_90 rfl rfl ?_
          refine e_iload dX7_basketAtRank_91 rfl rfl ?_
          refine e_iload_n dX7_basketAtRank_93 rfl rfl ?_
          refine e_icmp_ne (t := 101) dX7_basketAtRank_94 rfl rfl (by omega) (by omega) (fun h94 => ?_) (fun h94 => ?_)
          · refine e_iconst dX7_basketAtRank_101 rfl ?_
            refine e_cV2 [0, 1, 2, 3, 4, 5] lk_X7_78 rfl dX7_basketAtRank_102 rfl (C_X7_isFine0 (M := sS M 0 t)) rfl rfl (Nat.le_of_ble_eq_true rfl) (Nat.le_of_ble_eq_true rfl) (Nat.le_of_ble_eq_true rfl) ⟨rfl, rfl⟩ rfl rfl rfl rfl rfl rfl rfl rfl ?_
            refine EV.ceq (cs' := wM a (sS M 0 1)) rfl ?_
            refine e_if_eq (t := 110) dX7_basketAtRank_105 rfl rfl (by omega) (fun h105 => ?_) (fun h105 => ?_)
            · refine f_iinc dX7_basketAtRank_110 rfl rfl (Nat.le_of_ble_eq_true rfl) rfl ?_
              refine e_goto (n := 9) dX7_basketAtRank_113 rfl ?_
              refine EV.fgt 4 ?_
              refine EV.fgt 5 ?_
              exact ih9 _ (by omega) (k + 1) 1 rfl (by omega) (e9.trans (eFB_go (by omega) (show ¬ sRk F k = r by omega)))
            · exfalso; omega
          · refine e_iconst dX7_basketAtRank_97 rfl ?_
            refine e_goto (n := 102) dX7_basketAtRank_98 rfl ?_
            refine e_cV2 [0, 1, 2, 3, 4, 5] lk_X7_78 rfl dX7_basketAtRank_102 rfl (C_X7_isFine1 (M := sS M 0 t)) rfl rfl (Nat.le_of_ble_eq_true rfl) (Nat.le_of_ble_eq_true rfl) (Nat.le_of_ble_eq_true rfl) ⟨rfl, rfl⟩ rfl rfl rfl rfl rfl rfl rfl rfl ?_
            refine EV.ceq (cs' := wM a (sS M 0 0)) rfl ?_
            refine e_if_eq (t := 110) dX7_basketAtRank_105 rfl rfl (by omega) (fun h105 => ?_) (fun h105 => ?_)
            · exfalso; omega
            · have hk : sWithRk F r = k := e9.trans (eFB_hit (by omega) (show sRk F k = r by omega))
              refine e_iload_n dX7_basketAtRank_108 rfl rfl ?_
              exact e_iret dX7_basketAtRank_109 rfl rfl (mq_y (a := a) (M := M) (T := (if ¬ sWithRk F r = -1 then 0 else 1)) (v := (sWithRk F r)) (by rw [if_pos (by omega)]) (hk.symm) (rfl))
        · refine e_iload dX7_basketAtRank_36 rfl rfl ?_
          have hJ81 : ∀ (z : Int) (hz : z = eI1 (sDD F j (F.1 1) < sDD F k (F.1 1) ∨ (sDD F j (F.1 1) = sDD F k (F.1 1) ∧ j < k))), EV (mX7_basketAtRank, (eRm 3), eRet (some (vi (if ((if ¬ sWithRk F r = -1 then 0 else 1) : Int) = 0 then (sWithRk F r) else 0))) a (wM a (sS M 0 ((if ¬ sWithRk F r = -1 then 0 else 1)))), X) a (0, 0) (wM a (sS M 0 t)) 81 [some (.ref (a 0)), some (vi r), some (vi (F.1 1)), some (vi k), some (vi q), some (vi j)] [vi z, vi q] := by
            intro z hz
            refine e_iadd dX7_basketAtRank_81 rfl ?_
            refine f_istore dX7_basketAtRank_82 rfl (Nat.le_of_ble_eq_true rfl) rfl ?_
            refine f_iinc dX7_basketAtRank_84 rfl rfl (Nat.le_of_ble_eq_true rfl) rfl ?_
            refine e_goto (n := 25) dX7_basketAtRank_87 rfl ?_
            exact ih25 _ (by omega) (j + 1) (q + z) rfl (by omega) (by have w := eCB_go (P := fun j => sDD F j (F.1 1) < sDD F k (F.1 1) ∨ (sDD F j (F.1 1) = sDD F k (F.1 1) ∧ j < k)) (n := F.1 0) (i := j) (by omega); omega)
          have uj := sDD_in hF0 j (F.1 1)
          have uk := sDD_in hF0 k (F.1 1)
          refine e_aload_n dX7_basketAtRank_38 rfl rfl ?_
          refine e_iload dX7_basketAtRank_39 rfl rfl ?_
          refine e_iload_n dX7_basketAtRank_41 rfl rfl ?_
          refine e_cV0 [0, 1, 2, 3, 4, 5] lk_X7_99 rfl dX7_basketAtRank_42 rfl (C_X7_apart (M := sS M 0 t) hF0 hR (b := j) (o := F.1 1) (by omega) (by omega)) rfl rfl (Nat.le_of_ble_eq_true rfl) (Nat.le_of_ble_eq_true rfl) (Nat.le_of_ble_eq_true rfl) ⟨rfl, rfl⟩ rfl rfl rfl rfl rfl rfl  ?_
          refine e_aload_n dX7_basketAtRank_45 rfl rfl ?_
          refine e_iload_n dX7_basketAtRank_46 rfl rfl ?_
          refine e_iload_n dX7_basketAtRank_47 rfl rfl ?_
          refine e_cV0 [0, 1, 2, 3, 4, 5] lk_X7_99 rfl dX7_basketAtRank_48 rfl (C_X7_apart (M := sS M 0 t) hF0 hR (b := k) (o := F.1 1) (by omega) (by omega)) rfl rfl (Nat.le_of_ble_eq_true rfl) (Nat.le_of_ble_eq_true rfl) (Nat.le_of_ble_eq_true rfl) ⟨rfl, rfl⟩ rfl rfl rfl rfl rfl rfl  ?_
          refine e_icmp_lt (t := 76) dX7_basketAtRank_51 rfl rfl (by omega) (by omega) (fun h51 => ?_) (fun h51 => ?_)
          · refine e_iconst dX7_basketAtRank_76 rfl ?_
            refine e_goto (n := 81) dX7_basketAtRank_77 rfl ?_
            exact hJ81 _ (eI1_t (by omega)).symm
          · refine e_aload_n dX7_basketAtRank_54 rfl rfl ?_
            refine e_iload dX7_basketAtRank_55 rfl rfl ?_
            refine e_iload_n dX7_basketAtRank_57 rfl rfl ?_
            refine e_cV0 [0, 1, 2, 3, 4, 5] lk_X7_99 rfl dX7_basketAtRank_58 rfl (C_X7_apart (M := sS M 0 t) hF0 hR (b := j) (o := F.1 1) (by omega) (by omega)) rfl rfl (Nat.le_of_ble_eq_true rfl) (Nat.le_of_ble_eq_true rfl) (Nat.le_of_ble_eq_true rfl) ⟨rfl, rfl⟩ rfl rfl rfl rfl rfl rfl  ?_
            refine e_aload_n dX7_basketAtRank_61 rfl rfl ?_
            refine e_iload_n dX7_basketAtRank_62 rfl rfl ?_
            refine e_iload_n dX7_basketAtRank_63 rfl rfl ?_
            refine e_cV0 [0, 1, 2, 3, 4, 5] lk_X7_99 rfl dX7_basketAtRank_64 rfl (C_X7_apart (M := sS M 0 t) hF0 hR (b := k) (o := F.1 1) (by omega) (by omega)) rfl rfl (Nat.le_of_ble_eq_true rfl) (Nat.le_of_ble_eq_true rfl) (Nat.le_of_ble_eq_true rfl) ⟨rfl, rfl⟩ rfl rfl rfl rfl rfl rfl  ?_
            refine e_icmp_ne (t := 80) dX7_basketAtRank_67 rfl rfl (by omega) (by omega) (fun h67 => ?_) (fun h67 => ?_)
            · refine e_iconst dX7_basketAtRank_80 rfl ?_
              exact hJ81 _ (eI1_f (by omega)).symm
            · refine e_iload dX7_basketAtRank_70 rfl rfl ?_
              refine e_iload_n dX7_basketAtRank_72 rfl rfl ?_
              refine e_icmp_ge (t := 80) dX7_basketAtRank_73 rfl rfl (by omega) (by omega) (fun h73 => ?_) (fun h73 => ?_)
              · refine e_iconst dX7_basketAtRank_80 rfl ?_
                exact hJ81 _ (eI1_f (by omega)).symm
              · refine e_iconst dX7_basketAtRank_76 rfl ?_
                refine e_goto (n := 81) dX7_basketAtRank_77 rfl ?_
                exact hJ81 _ (eI1_t (by omega)).symm
      exact hL25 _ 0 0 rfl (by omega) rfl 
  refine EV.fgt 4 ?_
  refine EV.fgt 5 ?_
  refine EV.ceq (cs' := wM a (sS M 0 (M.1 0))) rfl ?_
  exact hL9 _ 0 (M.1 0) rfl (by omega) rfl
