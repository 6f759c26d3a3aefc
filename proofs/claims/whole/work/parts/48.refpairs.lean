/-! ===== the reference: pairs ===== -/
theorem eCB_tri {P : Int → Int → Prop} [∀ b o, Decidable (P b o)] {n : Int} : eSB (fun b => eCB (fun o => P b o) n (b + 1)) n 0 = eSB (fun k => eCB (fun j => P j k) k 0) n 0 := by
  have l : ∀ b, 0 ≤ b → b < n → eCB (fun o => P b o) n (b + 1) = eSB (fun o => eI1 (b < o ∧ P b o)) n 0 := by
    intro b b0 b1
    rw [eSB_split (f := fun o => eI1 (b < o ∧ P b o)) (m := b + 1) (by omega) (by omega), eSB_zero (f := fun o => eI1 (b < o ∧ P b o)) (n := b + 1) (fun j j0 j1 => eI1_f (fun q => by omega)), Int.zero_add]
    exact eSB_cong (fun j j0 j1 => eI1_cong ⟨fun q => ⟨by omega, q⟩, fun q => q.2⟩)
  have r : ∀ k, 0 ≤ k → k < n → eCB (fun j => P j k) k 0 = eSB (fun j => eI1 (j < k ∧ P j k)) n 0 := by
    intro k k0 k1
    rw [eSB_split (f := fun j => eI1 (j < k ∧ P j k)) (m := k) (by omega) (by omega), eSB_zero (f := fun j => eI1 (j < k ∧ P j k)) (n := n) (i := k) (fun j j0 j1 => eI1_f (fun q => by omega)), Int.add_zero]
    exact eSB_cong (fun j j0 j1 => eI1_cong ⟨fun q => ⟨by omega, q⟩, fun q => q.2⟩)
  rw [eSB_cong l, eSB_cong r]
  exact eSB_swap (f := fun b o => eI1 (b < o ∧ P b o))

theorem C_X7_areLinked {X : eXT} {a : Nat → Nat} {N : Int} {F M : eFs} (hF : okF N F) (hR : mR F (M.2 0)) {b o : Int} (hb0 : sHas F b) (ho : sHas F o) :
    EM X mX7_areLinked (eRm 3) a [.ref (a 0), vi b, vi o] (wM a M) (eRet (some (vb (¬ b = o ∧ sLk F b o))) a (wM a M)) := by
  refine EM.of (by decide +kernel) rfl (Nat.le_of_ble_eq_true rfl) ?_
  have hF0 := hF
  obtain ⟨hc, hld, hled, htn, hgo, hkp, hst, hwt, hcl, hsh, hnx, hN, rx, ry, rh, rm, rc, rw9⟩ := hF
  obtain ⟨⟨n0, n1, n2, n3, n4, n5, n6, n7, n8, n9⟩, hb, hcd, hss⟩ := id hR
  have sdd := sDD_in hF0 b o
  refine e_iload_n dX7_areLinked_0 rfl rfl ?_
  refine e_iload_n dX7_areLinked_1 rfl rfl ?_
  refine e_icmp_eq (t := 25) dX7_areLinked_2 rfl rfl (by omega) (by omega) (fun h2 => ?_) (fun h2 => ?_)
  · refine e_iconst dX7_areLinked_25 rfl ?_
    exact e_iret dX7_areLinked_26 rfl (by decide) (eRet_f (fun q => q.1 (by omega)) rfl)
  · refine e_aload_n dX7_areLinked_5 rfl rfl ?_
    refine e_iload_n dX7_areLinked_6 rfl rfl ?_
    refine e_iload_n dX7_areLinked_7 rfl rfl ?_
    refine e_cV0 [0, 1, 2, 3, 4, 5] lk_X7_99 rfl dX7_areLinked_8 rfl (C_X7_apart hF0 hR (by omega) (by omega)) rfl rfl (Nat.le_of_ble_eq_true rfl) (Nat.le_of_ble_eq_true rfl) (Nat.le_of_ble_eq_true rfl) ⟨rfl, rfl⟩ rfl rfl rfl rfl rfl rfl  ?_
    refine e_aload_n dX7_areLinked_11 rfl rfl ?_
    refine e_getfield fd_X7_9 dX7_areLinked_12 rfl rfl rfl rfl ?_
    refine e_bipush dX7_areLinked_15 rfl rfl ?_
    refine e_iaload dX7_areLinked_17 rfl rfl rfl (by omega) (by decide) ?_
    refine e_icmp_gt (t := 25) dX7_areLinked_18 rfl rfl (by omega) (by omega) (fun h18 => ?_) (fun h18 => ?_)
    · refine e_iconst dX7_areLinked_25 rfl ?_
      exact e_iret dX7_areLinked_26 rfl (by decide) (eRet_f (fun q => absurd (show sDD F b o ≤ F.1 6 from q.2) (by omega)) rfl)
    · refine e_iconst dX7_areLinked_21 rfl ?_
      refine e_goto (n := 26) dX7_areLinked_22 rfl ?_
      exact e_iret dX7_areLinked_26 rfl (by decide) (eRet_t ⟨h2, (show sDD F b o ≤ F.1 6 by omega)⟩ rfl)
theorem C_X7_pairs0 {X : eXT} {a : Nat → Nat} {N : Int} {F M : eFs} (hF : okF N F) (hR : mR F (M.2 0)) :
    EM X mX7_pairs (eRm 4) a [.ref (a 0), vi 0] (wM a M) (eRet (some (vi (eSB (fun k => eCB (fun j => ¬ k = j ∧ sLk F k j) k 0) (F.1 0) 0))) a (wM a M)) := by
  refine EM.of (by decide +kernel) rfl (Nat.le_of_ble_eq_true rfl) ?_
  have hF0 := hF
  obtain ⟨hc, hld, hled, htn, hgo, hkp, hst, hwt, hcl, hsh, hnx, hN, rx, ry, rh, rm, rc, rw9⟩ := hF
  obtain ⟨⟨n0, n1, n2, n3, n4, n5, n6, n7, n8, n9⟩, hb, hcd, hss⟩ := id hR
  refine e_iconst dX7_pairs_0 rfl ?_
  refine f_istore_n dX7_pairs_1 rfl (Nat.le_of_ble_eq_true rfl) rfl ?_
  refine e_iconst dX7_pairs_2 rfl ?_
  refine f_istore_n dX7_pairs_3 rfl (Nat.le_of_ble_eq_true rfl) rfl ?_
  have hL4 : ∀ (k4 : Nat) (k n : Int) (hk4 : ((F.1 0) - k).toNat = k4) (g4 : 0 ≤ k ∧ k ≤ F.1 0) (e4 : 0 + eSB (fun k => eCB (fun j => ¬ k = j ∧ sLk F k j) k 0) (F.1 0) 0 = n + eSB (fun k => eCB (fun j => ¬ k = j ∧ sLk F k j) k 0) (F.1 0) k) , EV (mX7_pairs, (eRm 4), eRet (some (vi (eSB (fun k => eCB (fun j => ¬ k = j ∧ sLk F k j) k 0) (F.1 0) 0))) a (wM a M), X) a (0, 0) (wM a M) 4 [some (.ref (a 0)), some (vi 0), some (vi n), some (vi k), none] [] := by
    intro k4
    induction k4 using Nat.strongRecOn with
    | _ k4 ih4 =>
    intro k n hk4 g4 e4
    refine e_iload_n dX7_pairs_4 rfl rfl ?_
    refine e_aload_n dX7_pairs_5 rfl rfl ?_
    refine e_getfield fd_X7_9 dX7_pairs_6 rfl rfl rfl rfl ?_
    refine e_iconst dX7_pairs_9 rfl ?_
    refine e_iaload dX7_pairs_10 rfl rfl rfl (by omega) (by decide) ?_
    refine EV.eq (st' := [vi (F.1 0), vi k]) (by rw [← n0] <;> rfl) ?_
    refine e_icmp_ge (t := 73) dX7_pairs_11 rfl rfl (by omega) (by omega) (fun h11 => ?_) (fun h11 => ?_)
    · refine e_iload_n dX7_pairs_73 rfl rfl ?_
      exact e_iret dX7_pairs_74 rfl rfl (eRet_i (by have w := eSB_end (f := fun k => eCB (fun j => ¬ k = j ∧ sLk F k j) k 0) (n := F.1 0) (i := k) (by omega); omega) rfl)
    · refine e_iconst dX7_pairs_14 rfl ?_
      refine f_istore dX7_pairs_15 rfl (Nat.le_of_ble_eq_true rfl) rfl ?_
      have hL17 : ∀ (k17 : Nat) (j q : Int) (hk17 : ((k) - j).toNat = k17) (g17 : 0 ≤ j ∧ j ≤ k) (e17 : n + eCB (fun j => ¬ k = j ∧ sLk F k j) (k) 0 = q + eCB (fun j => ¬ k = j ∧ sLk F k j) (k) j) , EV (mX7_pairs, (eRm 4), eRet (some (vi (eSB (fun k => eCB (fun j => ¬ k = j ∧ sLk F k j) k 0) (F.1 0) 0))) a (wM a M), X) a (0, 0) (wM a M) 17 [some (.ref (a 0)), some (vi 0), some (vi q), some (vi k), some (vi j)] [] := by
        intro k17
        induction k17 using Nat.strongRecOn with
        | _ k17 ih17 =>
        intro j q hk17 g17 e17
        refine e_iload dX7_pairs_17 rfl rfl ?_
        refine e_iload_n dX7_pairs_19 rfl rfl ?_
        refine e_icmp_ge (t := 67) dX7_pairs_20 rfl rfl (by omega) (by omega) (fun h20 => ?_) (fun h20 => ?_)
        · refine f_iinc dX7_pairs_67 rfl rfl (Nat.le_of_ble_eq_true rfl) rfl ?_
          refine e_goto (n := 4) dX7_pairs_70 rfl ?_
          refine EV.fgt 4 ?_
          exact ih4 _ (by omega) (k + 1) q rfl (by omega) (by have w := eSB_go (f := fun k => eCB (fun j => ¬ k = j ∧ sLk F k j) k 0) (n := F.1 0) (i := k) (by omega); have w2 := eCB_end (P := fun j => ¬ k = j ∧ sLk F k j) (n := k) (i := j) (by omega); omega)
        · refine e_iload_n dX7_pairs_23 rfl rfl ?_
          have hJ59 : ∀ (z : Int) (hz : z = eI1 (¬ k = j ∧ sLk F k j)), EV (mX7_pairs, (eRm 4), eRet (some (vi (eSB (fun k => eCB (fun j => ¬ k = j ∧ sLk F k j) k 0) (F.1 0) 0))) a (wM a M), X) a (0, 0) (wM a M) 59 [some (.ref (a 0)), some (vi 0), some (vi q), some (vi k), some (vi j)] [vi z, vi q] := by
            intro z hz
            refine e_iadd dX7_pairs_59 rfl ?_
            refine f_istore_n dX7_pairs_60 rfl (Nat.le_of_ble_eq_true rfl) rfl ?_
            refine f_iinc dX7_pairs_61 rfl rfl (Nat.le_of_ble_eq_true rfl) rfl ?_
            refine e_goto (n := 17) dX7_pairs_64 rfl ?_
            exact ih17 _ (by omega) (j + 1) (q + z) rfl (by omega) (by have w := eCB_go (P := fun j => ¬ k = j ∧ sLk F k j) (n := k) (i := j) (by omega); omega)
          refine e_aload_n dX7_pairs_24 rfl rfl ?_
          refine e_iload_n dX7_pairs_25 rfl rfl ?_
          refine e_iload dX7_pairs_26 rfl rfl ?_
          refine e_cV0 [0, 1, 2, 3, 4, 5] lk_X7_175 rfl dX7_pairs_28 rfl (C_X7_areLinked hF0 hR (by omega) (by omega)) rfl rfl (Nat.le_of_ble_eq_true rfl) (Nat.le_of_ble_eq_true rfl) (Nat.le_of_ble_eq_true rfl) ⟨rfl, rfl⟩ rfl rfl rfl rfl rfl rfl  ?_
          refine e_ifb_eq (t := 58) dX7_pairs_31 rfl rfl (fun h31 => ?_) (fun h31 => ?_)
          · refine e_iconst dX7_pairs_58 rfl ?_
            exact hJ59 _ (eI1_f (by omega)).symm
          · refine e_iload_n dX7_pairs_34 rfl rfl ?_
            refine e_if_eq (t := 54) dX7_pairs_35 rfl rfl (by omega) (fun h35 => ?_) (fun h35 => ?_)
            · refine e_iconst dX7_pairs_54 rfl ?_
              refine e_goto (n := 59) dX7_pairs_55 rfl ?_
              exact hJ59 _ (eI1_t (by omega)).symm
            · exfalso; omega
      exact hL17 _ 0 n rfl (by omega) rfl 
  refine EV.fgt 4 ?_
  exact hL4 _ 0 0 rfl (by omega) rfl 
theorem C_X7_pairs1 {X : eXT} {a : Nat → Nat} {N : Int} {F M : eFs} (hF : okF N F) (hR : mR F (M.2 0)) :
    EM X mX7_pairs (eRm 4) a [.ref (a 0), vi 1] (wM a M) (eRet (some (vi (eSB (fun k => eCB (fun j => (¬ k = j ∧ sLk F k j) ∧ ¬ F.2 2 k = F.2 2 j) k 0) (F.1 0) 0))) a (wM a M)) := by
  refine EM.of (by decide +kernel) rfl (Nat.le_of_ble_eq_true rfl) ?_
  have hF0 := hF
  obtain ⟨hc, hld, hled, htn, hgo, hkp, hst, hwt, hcl, hsh, hnx, hN, rx, ry, rh, rm, rc, rw9⟩ := hF
  obtain ⟨⟨n0, n1, n2, n3, n4, n5, n6, n7, n8, n9⟩, hb, hcd, hss⟩ := id hR
  refine e_iconst dX7_pairs_0 rfl ?_
  refine f_istore_n dX7_pairs_1 rfl (Nat.le_of_ble_eq_true rfl) rfl ?_
  refine e_iconst dX7_pairs_2 rfl ?_
  refine f_istore_n dX7_pairs_3 rfl (Nat.le_of_ble_eq_true rfl) rfl ?_
  have hL4 : ∀ (k4 : Nat) (k n : Int) (hk4 : ((F.1 0) - k).toNat = k4) (g4 : 0 ≤ k ∧ k ≤ F.1 0) (e4 : 0 + eSB (fun k => eCB (fun j => (¬ k = j ∧ sLk F k j) ∧ ¬ F.2 2 k = F.2 2 j) k 0) (F.1 0) 0 = n + eSB (fun k => eCB (fun j => (¬ k = j ∧ sLk F k j) ∧ ¬ F.2 2 k = F.2 2 j) k 0) (F.1 0) k) , EV (mX7_pairs, (eRm 4), eRet (some (vi (eSB (fun k => eCB (fun j => (¬ k = j ∧ sLk F k j) ∧ ¬ F.2 2 k = F.2 2 j) k 0) (F.1 0) 0))) a (wM a M), X) a (0, 0) (wM a M) 4 [some (.ref (a 0)), some (vi 1), some (vi n), some (vi k), none] [] := by
    intro k4
    induction k4 using Nat.strongRecOn with
    | _ k4 ih4 =>
    intro k n hk4 g4 e4
    refine e_iload_n dX7_pairs_4 rfl rfl ?_
    refine e_aload_n dX7_pairs_5 rfl rfl ?_
    refine e_getfield fd_X7_9 dX7_pairs_6 rfl rfl rfl rfl ?_
    refine e_iconst dX7_pairs_9 rfl ?_
    refine e_iaload dX7_pairs_10 rfl rfl rfl (by omega) (by decide) ?_
    refine EV.eq (st' := [vi (F.1 0), vi k]) (by rw [← n0] <;> rfl) ?_
    refine e_icmp_ge (t := 73) dX7_pairs_11 rfl rfl (by omega) (by omega) (fun h11 => ?_) (fun h11 => ?_)
    · refine e_iload_n dX7_pairs_73 rfl rfl ?_
      exact e_iret dX7_pairs_74 rfl rfl (eRet_i (by have w := eSB_end (f := fun k => eCB (fun j => (¬ k = j ∧ sLk F k j) ∧ ¬ F.2 2 k = F.2 2 j) k 0) (n := F.1 0) (i := k) (by omega); omega) rfl)
    · refine e_iconst dX7_pairs_14 rfl ?_
      refine f_istore dX7_pairs_15 rfl (Nat.le_of_ble_eq_true rfl) rfl ?_
      have hL17 : ∀ (k17 : Nat) (j q : Int) (hk17 : ((k) - j).toNat = k17) (g17 : 0 ≤ j ∧ j ≤ k) (e17 : n + eCB (fun j => (¬ k = j ∧ sLk F k j) ∧ ¬ F.2 2 k = F.2 2 j) (k) 0 = q + eCB (fun j => (¬ k = j ∧ sLk F k j) ∧ ¬ F.2 2 k = F.2 2 j) (k) j) , EV (mX7_pairs, (eRm 4), eRet (some (vi (eSB (fun k => eCB (fun j => (¬ k = j ∧ sLk F k j) ∧ ¬ F.2 2 k = F.2 2 j) k 0) (F.1 0) 0))) a (wM a M), X) a (0, 0) (wM a M) 17 [some (.ref (a 0)), some (vi 1), some (vi q), some (vi k), some (vi j)] [] := by
        intro k17
        induction k17 using Nat.strongRecOn with
        | _ k17 ih17 =>
        intro j q hk17 g17 e17
        refine e_iload dX7_pairs_17 rfl rfl ?_
        refine e_iload_n dX7_pairs_19 rfl rfl ?_
        refine e_icmp_ge (t := 67) dX7_pairs_20 rfl rfl (by omega) (by omega) (fun h20 => ?_) (fun h20 => ?_)
        · refine f_iinc dX7_pairs_67 rfl rfl (Nat.le_of_ble_eq_true rfl) rfl ?_
          refine e_goto (n := 4) dX7_pairs_70 rfl ?_
          refine EV.fgt 4 ?_
          exact ih4 _ (by omega) (k + 1) q rfl (by omega) (by have w := eSB_go (f := fun k => eCB (fun j => (¬ k = j ∧ sLk F k j) ∧ ¬ F.2 2 k = F.2 2 j) k 0) (n := F.1 0) (i := k) (by omega); have w2 := eCB_end (P := fun j => (¬ k = j ∧ sLk F k j) ∧ ¬ F.2 2 k = F.2 2 j) (n := k) (i := j) (by omega); omega)
        · refine e_iload_n dX7_pairs_23 rfl rfl ?_
          have hJ59 : ∀ (z : Int) (hz : z = eI1 ((¬ k = j ∧ sLk F k j) ∧ ¬ F.2 2 k = F.2 2 j)), EV (mX7_pairs, (eRm 4), eRet (some (vi (eSB (fun k => eCB (fun j => (¬ k = j ∧ sLk F k j) ∧ ¬ F.2 2 k = F.2 2 j) k 0) (F.1 0) 0))) a (wM a M), X) a (0, 0) (wM a M) 59 [some (.ref (a 0)), some (vi 1), some (vi q), some (vi k), some (vi j)] [vi z, vi q] := by
            intro z hz
            refine e_iadd dX7_pairs_59 rfl ?_
            refine f_istore_n dX7_pairs_60 rfl (Nat.le_of_ble_eq_true rfl) rfl ?_
            refine f_iinc dX7_pairs_61 rfl rfl (Nat.le_of_ble_eq_true rfl) rfl ?_
            refine e_goto (n := 17) dX7_pairs_64 rfl ?_
            exact ih17 _ (by omega) (j + 1) (q + z) rfl (by omega) (by have w := eCB_go (P := fun j => (¬ k = j ∧ sLk F k j) ∧ ¬ F.2 2 k = F.2 2 j) (n := k) (i := j) (by omega); omega)
          refine e_aload_n dX7_pairs_24 rfl rfl ?_
          refine e_iload_n dX7_pairs_25 rfl rfl ?_
          refine e_iload dX7_pairs_26 rfl rfl ?_
          refine e_cV0 [0, 1, 2, 3, 4, 5] lk_X7_175 rfl dX7_pairs_28 rfl (C_X7_areLinked hF0 hR (by omega) (by omega)) rfl rfl (Nat.le_of_ble_eq_true rfl) (Nat.le_of_ble_eq_true rfl) (Nat.le_of_ble_eq_true rfl) ⟨rfl, rfl⟩ rfl rfl rfl rfl rfl rfl  ?_
          refine e_ifb_eq (t := 58) dX7_pairs_31 rfl rfl (fun h31 => ?_) (fun h31 => ?_)
          · refine e_iconst dX7_pairs_58 rfl ?_
            exact hJ59 _ (eI1_f (by omega)).symm
          · refine e_iload_n dX7_pairs_34 rfl rfl ?_
            refine e_if_eq (t := 54) dX7_pairs_35 rfl rfl (by omega) (fun h35 => ?_) (fun h35 => ?_)
            · exfalso; omega
            · refine e_aload_n dX7_pairs_38 rfl rfl ?_
              refine e_iload_n dX7_pairs_39 rfl rfl ?_
              refine e_iconst dX7_pairs_40 rfl ?_
              refine e_cV0 [0, 1, 2, 3, 4, 5] lk_X7_50 rfl dX7_pairs_41 rfl (C_X7_b (by omega) (by omega)) rfl rfl (Nat.le_of_ble_eq_true rfl) (Nat.le_of_ble_eq_true rfl) (Nat.le_of_ble_eq_true rfl) ⟨rfl, rfl⟩ rfl rfl rfl rfl rfl rfl  ?_
              have bk := hb k (by omega) (by omega)
              refine EV.eq (st' := [vi (F.2 2 k), vi q]) (by show [vi (M.2 0 (10 + 4 * k + 2)), vi q] = _; rw [bk.2.2.1]) ?_
              refine e_aload_n dX7_pairs_44 rfl rfl ?_
              refine e_iload dX7_pairs_45 rfl rfl ?_
              refine e_iconst dX7_pairs_47 rfl ?_
              refine e_cV0 [0, 1, 2, 3, 4, 5] lk_X7_50 rfl dX7_pairs_48 rfl (C_X7_b (by omega) (by omega)) rfl rfl (Nat.le_of_ble_eq_true rfl) (Nat.le_of_ble_eq_true rfl) (Nat.le_of_ble_eq_true rfl) ⟨rfl, rfl⟩ rfl rfl rfl rfl rfl rfl  ?_
              have bj := hb j (by omega) (by omega)
              have rk := rh k
              have rj := rh j
              refine EV.eq (st' := [vi (F.2 2 j), vi (F.2 2 k), vi q]) (by show [vi (M.2 0 (10 + 4 * j + 2)), vi (F.2 2 k), vi q] = _; rw [bj.2.2.1]) ?_
              refine e_icmp_eq (t := 58) dX7_pairs_51 rfl rfl (by omega) (by omega) (fun h51 => ?_) (fun h51 => ?_)
              · refine e_iconst dX7_pairs_58 rfl ?_
                exact hJ59 _ (eI1_f (by omega)).symm
              · refine e_iconst dX7_pairs_54 rfl ?_
                refine e_goto (n := 59) dX7_pairs_55 rfl ?_
                exact hJ59 _ (eI1_t (by omega)).symm
      exact hL17 _ 0 n rfl (by omega) rfl 
  refine EV.fgt 4 ?_
  exact hL4 _ 0 0 rfl (by omega) rfl 
theorem mPr_mix {F : eFs} : eSB (fun k => eCB (fun j => (¬ k = j ∧ sLk F k j) ∧ ¬ F.2 2 k = F.2 2 j) k 0) (F.1 0) 0 = sMix F := by
  unfold sMix
  rw [eCB_tri (P := fun b o => ¬ F.2 2 b = F.2 2 o ∧ sLk F b o)]
  refine eSB_cong (fun k k0 k1 => eCB_cong (fun j j0 j1 => ?_))
  have e := sDD_sym F k j
  constructor
  · rintro ⟨⟨_, h⟩, h2⟩; exact ⟨fun q => h2 q.symm, by show sDD F j k ≤ F.1 6; rw [← e]; exact h⟩
  · rintro ⟨h2, h⟩; exact ⟨⟨by omega, by show sDD F k j ≤ F.1 6; rw [e]; exact h⟩, fun q => h2 q.symm⟩
theorem mPr_all {F : eFs} : eSB (fun k => eCB (fun j => ¬ k = j ∧ sLk F k j) k 0) (F.1 0) 0 = sPrs F := by
  unfold sPrs
  rw [eCB_tri (P := fun b o => sLk F b o)]
  refine eSB_cong (fun k k0 k1 => eCB_cong (fun j j0 j1 => ?_))
  have e := sDD_sym F k j
  constructor
  · rintro ⟨_, h⟩; show sDD F j k ≤ F.1 6; rw [← e]; exact h
  · intro h; exact ⟨by omega, by show sDD F k j ≤ F.1 6; rw [e]; exact h⟩
theorem C_X7_pairsM {X : eXT} {a : Nat → Nat} {N : Int} {F M : eFs} (hF : okF N F) (hR : mR F (M.2 0)) : EM X mX7_pairs (eRm 4) a [.ref (a 0), vi 1] (wM a M) (eRet (some (vi (sMix F))) a (wM a M)) := by
  rw [← mPr_mix]
  exact C_X7_pairs1 hF hR
theorem C_X7_pairsA {X : eXT} {a : Nat → Nat} {N : Int} {F M : eFs} (hF : okF N F) (hR : mR F (M.2 0)) : EM X mX7_pairs (eRm 4) a [.ref (a 0), vi 0] (wM a M) (eRet (some (vi (sPrs F))) a (wM a M)) := by
  rw [← mPr_all]
  exact C_X7_pairs0 hF hR

theorem C_X7_mixedPairs {X : eXT} {a : Nat → Nat} {N : Int} {F M : eFs} (hF : okF N F) (hR : mR F (M.2 0))  :
    EM X mX7_mixedPairs (eRm 5) a [.ref (a 0)] (wM a M) (eRet (some (vi (sMix F))) a (wM a (sS M 0 0))) := by
  refine EM.of (by decide +kernel) rfl (Nat.le_of_ble_eq_true rfl) ?_
  have hF0 := hF
  obtain ⟨hc, hld, hled, htn, hgo, hkp, hst, hwt, hcl, hsh, hnx, hN, rx, ry, rh, rm, rc, rw9⟩ := hF
  obtain ⟨⟨n0, n1, n2, n3, n4, n5, n6, n7, n8, n9⟩, hb, hcd, hss⟩ := id hR
  refine e_aload_n dX7_mixedPairs_0 rfl rfl ?_
  refine e_iconst dX7_mixedPairs_1 rfl ?_
  refine e_putfield fd_X7_33 dX7_mixedPairs_2 rfl rfl rfl (Nat.le_of_ble_eq_true rfl) rfl rfl ?_
  refine EV.ceq (cs' := wM a (sS M 0 0)) rfl ?_
  refine e_aload_n dX7_mixedPairs_5 rfl rfl ?_
  refine e_iconst dX7_mixedPairs_6 rfl ?_
  refine e_cV0 [0, 1, 2, 3, 4, 5] lk_X7_187 rfl dX7_mixedPairs_7 rfl (C_X7_pairsM (M := sS M 0 0) hF0 hR) rfl rfl (Nat.le_of_ble_eq_true rfl) (Nat.le_of_ble_eq_true rfl) (Nat.le_of_ble_eq_true rfl) ⟨rfl, rfl⟩ rfl rfl rfl rfl rfl rfl  ?_
  exact e_iret dX7_mixedPairs_10 rfl rfl (eRet_i rfl rfl)
theorem C_X7_mixedPairsByHandles {X : eXT} {a : Nat → Nat} {N : Int} {F M : eFs} (hF : okF N F) (hR : mR F (M.2 0))  :
    EM X mX7_mixedPairsByHandles (eRm 6) a [.ref (a 0)] (wM a M) (eRet (some (vi (sMix F))) a (wM a (sS M 0 0))) := by
  refine EM.of (by decide +kernel) rfl (Nat.le_of_ble_eq_true rfl) ?_
  have hF0 := hF
  obtain ⟨hc, hld, hled, htn, hgo, hkp, hst, hwt, hcl, hsh, hnx, hN, rx, ry, rh, rm, rc, rw9⟩ := hF
  obtain ⟨⟨n0, n1, n2, n3, n4, n5, n6, n7, n8, n9⟩, hb, hcd, hss⟩ := id hR
  refine e_aload_n dX7_mixedPairsByHandles_0 rfl rfl ?_
  refine e_cV2 [0, 1, 2, 3, 4, 5] lk_X7_190 rfl dX7_mixedPairsByHandles_1 rfl (C_X7_mixedPairs hF0 hR) rfl rfl (Nat.le_of_ble_eq_true rfl) (Nat.le_of_ble_eq_true rfl) (Nat.le_of_ble_eq_true rfl) ⟨rfl, rfl⟩ rfl rfl rfl rfl rfl rfl rfl rfl ?_
  exact e_iret dX7_mixedPairsByHandles_4 rfl rfl (eRet_i rfl rfl)
