/-! ===== the reference: pairs ===== -/
theorem eCB_tri {P : Int → Int → Prop} [∀ b o, Decidable (P b o)] {n : Int} : eSB (fun b => eCB (fun o => P b o) n (b + 1)) n 0 = eSB (fun k => eCB (fun j => P j k) k 0) n 0 := by
  have l : ∀ b, 0 ≤ b → b < n → eCB (fun o => P b o) n (b + 1) = eSB (fun o => eI1 (b < o ∧ P b o)) n 0 := by
    intro b b0 b1
    rw [eSB_split (f := fun o => eI1 (b < o ∧ P b o)) (m := b + 1) (by omega) (by omega), eSB_zero (f := fun o => eI1 (b < o ∧ P b o)) (n := b + 1) (fun j j0 j1 => eI1_f (fun q => by omega)), Int.zero_add]
    exact eSB_cong (fun j j0 j1 => eI1_cong ⟨fun q => ⟨by omega, q⟩, fun q => q.2⟩)
  have r : ∀ k, 0 ≤ k → k < n → eCB (fun j => P j k) k 0 = eSB (fun j => eI1 (j < k ∧ P j k)) n 0 := by
    intro k k0 k1
    rw [eSB_split (f := fun j => eI1 (j < k ∧ P j k)) (m := k) (by omega) (by omega), eSB_zero (f := fun j => eI1 (j < k ∧ P j k)) (n := n) (i := k) (fun j j0 j1 => eI1_f (fun q => by omega)), Int.add_zero]
    exact eSB_cong (fun j j0 j1 => eI1_cong ⟨fun q => ⟨by omega, q⟩, fun q => q.2⟩)
  rw [eSB_cong l, eSB_cong r]
  exact eSB_swap (f := fun b o => eI1 (b < o ∧ P b o))

theorem C_X7_areLinked {X : eXT} {a : Nat → Nat} {N : Int} {F M : eFs} (hF : okF N F) (hR : mR F (M.2 0)) {b o : Int} (hb0 : sHas F b) (ho : sHas F o) :
    EM X mX7_areLinked (eRm 3) a [.ref (a 0), vi b, vi o] (wM a M) (eRet (some (vb (¬ b = o ∧ sLk F b o))) a (wM a M)) := by
  refine EM.of (by decide +kernel) rfl (Nat.le_of_ble_eq_true rfl) ?_
  have hF0 := hF
  obtain ⟨hc, hld, hled, htn, hgo, hkp, hst, hwt, hcl, hsh, hnx, hN, rx, ry, rh, rm, rc, rw9⟩ := hF
  obtain ⟨⟨n0, n1, n2, n3, n4, n5, n6, n7, n8, n9⟩, hb, hcd, hss⟩ := id hR
  have sdd := sDD_in hF0 b o
  refine e_iload_n dX7_areLinked_0 rfl rfl ?_
  refine e_iload_n dX7_areLinked_1 rfl rfl ?_
  refine e_icmp_eq (t := 25) dX7_areLinked_2 rfl rfl (by omega) (by omega) (fun h2 => ?_) (fun h2 => ?_)
  · refine e_iconst dX7_areLinked_25 rfl ?_
    exact e_iret dX7_areLinked_26 rfl (by decide) (eRet_f (fun q => q.1 (by omega)) rfl)
  · refine e_aload_n dX7_areLinked_5 rfl rfl ?_
    refine e_iload_n dX7_areLinked_6 rfl rfl ?_
    refine e_iload_n dX7_areLinked_7 rfl rfl ?_
    refine e_cV0 [0, 1, 2, 3, 4, 5] lk_X7_99 rfl dX7_areLinked_8 rfl (C_X7_apart hF0 hR (by omega) (by omega)) rfl rfl (Nat.le_of_ble_eq_true rfl) (Nat.le_of_ble_eq_true rfl) (Nat.le_of_ble_eq_true rfl) ⟨rfl, rfl⟩ rfl rfl rfl rfl rfl rfl  ?_
    refine e_aload_n dX7_areLinked_11 rfl rfl ?_
    refine e_getfield fd_X7_9 dX7_areLinked_12 rfl rfl rfl rfl ?_
    refine e_bipush dX7_areLinked_15 rfl rfl ?_
    refine e_iaload dX7_areLinked_17 rfl rfl rfl (by omega) (by decide) ?_
    refine e_icmp_gt (t := 25) dX7_areLinked_18 rfl rfl (by omega) (by omega) (fun h18 => ?_) (fun h18 => ?_)
    · refine e_iconst dX7_areLinked_25 rfl ?_
      exact e_iret dX7_areLinked_26 rfl (by decide) (eRet_f (fun q => absurd (show sDD F b o ≤ F.1 6 from q.2) (by omega)) rfl)
    · refine e_iconst dX7_areLinked_21 rfl ?_
      refine e_goto (n := 26) dX7_areLinked_22 rfl ?_
      exact e_iret dX7_areLinked_26 rfl (by decide) (eRet_t ⟨h2, (show sDD F b o ≤ F.1 6 by omega)⟩ rfl)
