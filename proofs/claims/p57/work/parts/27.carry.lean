/-! ===== Flock: copied, a command carried out ===== -/
theorem hAdd_0 {F : eFs} {x y h : Int} (e : hAdd F x y h = 0) : sIn x y ∧ (0 ≤ h ∧ h ≤ 2) ∧ F.1 0 < 10 ∧ sPos F (-1) x y := by
  unfold hAdd at e
  split at e
  · omega
  · rename_i h1
    split at e
    · omega
    · split at e
      · rename_i h3
        refine ⟨Decidable.byContradiction (fun q => h1 (Or.inl q)), ?_, by omega, h3⟩
        omega
      · omega
theorem hJump_0 {F : eFs} {b x y : Int} (e : hJump F b x y = 0) : sHas F b ∧ sIn x y ∧ sPos F b x y := by
  unfold hJump at e
  split at e
  · omega
  · rename_i h1
    split at e
    · omega
    · rename_i h2
      split at e
      · rename_i h3
        exact ⟨Decidable.not_not.mp h1, Decidable.not_not.mp h2, h3⟩
      · omega
theorem hOut_0 {z lo hi : Int} (e : hOut z lo hi = 0) : lo ≤ z ∧ z ≤ hi := by
  unfold hOut at e
  split at e
  · assumption
  · omega
theorem hHand_0 {F : eFs} {b h : Int} (e : hHand F b h = 0) : sHas F b ∧ (0 ≤ h ∧ h ≤ 2) := by
  unfold hHand at e
  split at e
  · rename_i h1
    exact ⟨h1, hOut_0 e⟩
  · omega
theorem hCloud_0 {F : eFs} {x y : Int} (e : hCloud F x y = 0) : sIn x y ∧ F.1 9 < 8 ∧ ¬ sCov (F.2 4) x y ∧ sAt F x y = -1 := by
  unfold hCloud at e
  split at e
  · omega
  · rename_i h1
    split at e
    · omega
    · rename_i h2
      split at e
      · rename_i h3
        exact ⟨Decidable.not_not.mp h1, by omega, fun q => h2 (Or.inr q), h3⟩
      · omega
theorem hClear_0 {F : eFs} {x y : Int} (e : hClear F x y = 0) : sIn x y ∧ sCov (F.2 4) x y := by
  unfold hClear at e
  split at e
  · omega
  · rename_i h1
    split at e
    · rename_i h2
      exact ⟨Decidable.not_not.mp h1, h2⟩
    · omega
theorem hGoal_0 {F : eFs} {x y : Int} (e : hGoal F x y = 0) : sIn x y ∧ 0 < F.1 0 := by
  unfold hGoal at e
  split at e
  · omega
  · rename_i h1
    split at e
    · rename_i h2
      exact ⟨Decidable.not_not.mp h1, h2⟩
    · omega
theorem okF_add {N : Int} {F : eFs} {x y h : Int} (hF : okF N F) (e : hAdd F x y h = 0) : okF N (sAdd F x y h) := by
  obtain ⟨h1, h2, h3, -⟩ := hAdd_0 e
  obtain ⟨hc, hld, hled, htn, hgo, hkp, hst, hwt, hcl, hsh, hnx, hN, rx, ry, rh, rm, rc, rw9⟩ := hF
  exact ⟨(show 0 ≤ F.1 0 + 1 ∧ F.1 0 + 1 ≤ 10 by omega), (show 0 ≤ F.1 1 ∧ F.1 1 ≤ 9 ∧ (F.1 1 < F.1 0 + 1 ∨ F.1 1 = 0) by omega), (show 0 ≤ F.1 2 ∧ F.1 2 < F.1 3 ∧ (F.1 0 + 1 = 0 → F.1 2 = 0) by omega), htn, (show -1 ≤ F.1 4 ∧ F.1 4 ≤ 11 ∧ -1 ≤ F.1 5 ∧ F.1 5 ≤ 11 ∧ (F.1 4 = -1 ↔ F.1 5 = -1) ∧ (F.1 0 + 1 = 0 → F.1 4 = -1) by omega), hkp, hst, hwt, hcl, hsh, hnx, hN,
    fun j => eU_b rx (by omega) j, fun j => eU_b ry (by omega) j, fun j => eU_b rh (by omega) j, fun j => eU_b rm (by omega) j, rc, rw9⟩
theorem okF_put {N : Int} {F : eFs} {b x y : Int} (hF : okF N F) (h : sIn x y) : okF N (sPut F b x y) := by
  obtain ⟨hc, hld, hled, htn, hgo, hkp, hst, hwt, hcl, hsh, hnx, hN, rx, ry, rh, rm, rc, rw9⟩ := hF
  exact ⟨hc, hld, hled, htn, hgo, hkp, hst, hwt, hcl, hsh, hnx, hN, fun j => eU_b rx (by omega) j, fun j => eU_b ry (by omega) j, rh, rm, rc, rw9⟩
theorem okF_hnd {N : Int} {F : eFs} {b h : Int} (hF : okF N F) (hh : 0 ≤ h ∧ h ≤ 2) : okF N (sHnd F b h) := by
  obtain ⟨hc, hld, hled, htn, hgo, hkp, hst, hwt, hcl, hsh, hnx, hN, rx, ry, rh, rm, rc, rw9⟩ := hF
  exact ⟨hc, hld, hled, htn, hgo, hkp, hst, hwt, hcl, hsh, hnx, hN, rx, ry, fun j => eU_b rh (by omega) j, rm, rc, rw9⟩
theorem okF_cput {N : Int} {F : eFs} {x y : Int} (hF : okF N F) (h : sIn x y) (h9 : F.1 9 < 8) : okF N (sCPut F x y) := by
  obtain ⟨hc, hld, hled, htn, hgo, hkp, hst, hwt, hcl, hsh, hnx, hN, rx, ry, rh, rm, rc, rw9⟩ := hF
  exact ⟨hc, hld, hled, htn, hgo, hkp, hst, hwt, (show 0 ≤ F.1 9 + 1 ∧ F.1 9 + 1 ≤ 8 by omega), hsh, hnx, hN, rx, ry, rh, rm, fun j => eU_b rc (sBit_or (rc y) h.1 h.2.1 (by omega : (0 : Int) ≤ 0) (by omega)).1 j, rw9⟩
theorem okF_crem {N : Int} {F : eFs} {x y : Int} (hF : okF N F) (h : sIn x y) (h9 : 0 < F.1 9) : okF N (sCRem F x y) := by
  obtain ⟨hc, hld, hled, htn, hgo, hkp, hst, hwt, hcl, hsh, hnx, hN, rx, ry, rh, rm, rc, rw9⟩ := hF
  exact ⟨hc, hld, hled, htn, hgo, hkp, hst, hwt, (show 0 ≤ F.1 9 - 1 ∧ F.1 9 - 1 ≤ 8 by omega), hsh, hnx, hN, rx, ry, rh, rm, fun j => eU_b rc (sBit_cl (rc y) h.1 h.2.1 (by omega : (0 : Int) ≤ 0) (by omega)).1 j, rw9⟩
theorem okF_trn {N : Int} {F : eFs} {n : Int} (hF : okF N F) (h : 2 ≤ n ∧ n ≤ 9) : okF N (sTrn F n) := by
  obtain ⟨hc, hld, hled, htn, hgo, hkp, hst, hwt, hcl, hsh, hnx, hN, rx, ry, rh, rm, rc, rw9⟩ := hF
  exact ⟨hc, hld, (show (0 : Int) ≤ 0 ∧ 0 < n ∧ (F.1 0 = 0 → (0 : Int) = 0) by omega), h, hgo, hkp, hst, hwt, hcl, hsh, hnx, hN, rx, ry, rh, rm, rc, rw9⟩
theorem okF_kep {N : Int} {F : eFs} {n : Int} (hF : okF N F) (h : 2 ≤ n ∧ n ≤ 6) : okF N (sKep F n) := by
  obtain ⟨hc, hld, hled, htn, hgo, hkp, hst, hwt, hcl, hsh, hnx, hN, rx, ry, rh, rm, rc, rw9⟩ := hF
  exact ⟨hc, hld, hled, htn, hgo, h, hst, hwt, hcl, hsh, hnx, hN, rx, ry, rh, rm, rc, rw9⟩
/-- what a change makes of a flock -/
def sDo (F : eFs) (k p q r : Int) : eFs := if k = 0 then sAdd F p q r else if k = 1 then sPut F p q r else if k = 2 then sHnd F p q else if k = 3 then sCPut F p q else if k = 4 then sCRem F p q else if k = 5 then sTrn F p else if k = 6 then sGol F p q else if k = 7 then sKep F p else sSts (p - 0).toNat F
def sDoP (F : eFs) (k p : Int) (P : Int → Int) : Int → Int := if k = 8 then sStsP (p - 0).toNat F P else P
/-- what it answers -/
def sDoR (F : eFs) (k p q r : Int) : Int := if k = 0 then F.1 0 else if k = 1 then sD F p q r else if k = 2 then F.2 2 p else if k = 3 then F.1 9 + 1 else if k = 4 then F.1 9 - 1 else if k = 5 then F.1 3 else if k = 6 then sD F (F.1 1) p q else if k = 7 then F.1 6 else sStsR (p - 0).toNat F
/-- clouds are counted -/
def sCnt (F : eFs) : Int := eSB (fun y => eCB (fun x => sBit (F.2 4 y) x) 12 0) 12 0
theorem x9 {k : Int} (hk : 0 ≤ k ∧ k ≤ 8) : k = 0 ∨ k = 1 ∨ k = 2 ∨ k = 3 ∨ k = 4 ∨ k = 5 ∨ k = 6 ∨ k = 7 ∨ k = 8 := by omega

theorem C_X2_copyFrom {X : eXT} {a : Nat → Nat} {F F2 : eFs} {P P2 : Int → Int} :
    EM X mX2_copyFrom (eRm 2) a [.ref (a 0), .ref (a 10)] (wFl a F P ++ wFl (fun k => a (10 + k)) F2 P2) (eRet none a (wFl a F2 P ++ wFl (fun k => a (10 + k)) F2 P2)) := by
  refine EM.of (by decide +kernel) rfl (Nat.le_of_ble_eq_true rfl) ?_
  refine e_aload_n dX2_copyFrom_0 rfl rfl ?_
  refine e_getfield fd_X2_9 dX2_copyFrom_1 rfl rfl rfl rfl ?_
  refine e_iconst dX2_copyFrom_4 rfl ?_
  refine e_aload_n dX2_copyFrom_5 rfl rfl ?_
  refine e_getfield fd_X2_9 dX2_copyFrom_6 rfl rfl rfl rfl ?_
  refine e_iconst dX2_copyFrom_9 rfl ?_
  refine e_bipush dX2_copyFrom_10 rfl rfl ?_
  refine e_copyi cp_X2_70 dX2_copyFrom_12 rfl rfl rfl rfl rfl (by omega) (by omega) (by omega) (by decide) (Nat.le_of_ble_eq_true rfl) (Nat.le_of_ble_eq_true rfl) ?_
  refine e_aload_n dX2_copyFrom_15 rfl rfl ?_
  refine e_getfield fd_X2_15 dX2_copyFrom_16 rfl rfl rfl rfl ?_
  refine e_iconst dX2_copyFrom_19 rfl ?_
  refine e_aload_n dX2_copyFrom_20 rfl rfl ?_
  refine e_getfield fd_X2_15 dX2_copyFrom_21 rfl rfl rfl rfl ?_
  refine e_iconst dX2_copyFrom_24 rfl ?_
  refine e_bipush dX2_copyFrom_25 rfl rfl ?_
  refine e_copyi cp_X2_70 dX2_copyFrom_27 rfl rfl rfl rfl rfl (by omega) (by omega) (by omega) (by decide) (Nat.le_of_ble_eq_true rfl) (Nat.le_of_ble_eq_true rfl) ?_
  refine e_aload_n dX2_copyFrom_30 rfl rfl ?_
  refine e_getfield fd_X2_18 dX2_copyFrom_31 rfl rfl rfl rfl ?_
  refine e_iconst dX2_copyFrom_34 rfl ?_
  refine e_aload_n dX2_copyFrom_35 rfl rfl ?_
  refine e_getfield fd_X2_18 dX2_copyFrom_36 rfl rfl rfl rfl ?_
  refine e_iconst dX2_copyFrom_39 rfl ?_
  refine e_bipush dX2_copyFrom_40 rfl rfl ?_
  refine e_copyi cp_X2_70 dX2_copyFrom_42 rfl rfl rfl rfl rfl (by omega) (by omega) (by omega) (by decide) (Nat.le_of_ble_eq_true rfl) (Nat.le_of_ble_eq_true rfl) ?_
  refine e_aload_n dX2_copyFrom_45 rfl rfl ?_
  refine e_getfield fd_X2_21 dX2_copyFrom_46 rfl rfl rfl rfl ?_
  refine e_iconst dX2_copyFrom_49 rfl ?_
  refine e_aload_n dX2_copyFrom_50 rfl rfl ?_
  refine e_getfield fd_X2_21 dX2_copyFrom_51 rfl rfl rfl rfl ?_
  refine e_iconst dX2_copyFrom_54 rfl ?_
  refine e_bipush dX2_copyFrom_55 rfl rfl ?_
  refine e_copyi cp_X2_70 dX2_copyFrom_57 rfl rfl rfl rfl rfl (by omega) (by omega) (by omega) (by decide) (Nat.le_of_ble_eq_true rfl) (Nat.le_of_ble_eq_true rfl) ?_
  refine EV.sim (i := 1) rfl (eI_sim (fun z h0 h1 => eCy_all z h0 h1)) ?_
  refine EV.sim (i := 2) rfl (eI_sim (fun z h0 h1 => eCy_all z h0 h1)) ?_
  refine EV.sim (i := 3) rfl (eI_sim (fun z h0 h1 => eCy_all z h0 h1)) ?_
  refine EV.sim (i := 4) rfl (eI_sim (fun z h0 h1 => eCy_all z h0 h1)) ?_
  refine e_aload_n dX2_copyFrom_60 rfl rfl ?_
  refine e_aload_n dX2_copyFrom_61 rfl rfl ?_
  refine e_getfield fd_X2_24 dX2_copyFrom_62 rfl rfl rfl rfl ?_
  refine e_putfield fd_X2_24 dX2_copyFrom_65 rfl rfl rfl (Nat.le_of_ble_eq_true rfl) rfl rfl ?_
  refine e_aload_n dX2_copyFrom_68 rfl rfl ?_
  refine e_getfield fd_X2_31 dX2_copyFrom_69 rfl rfl rfl rfl ?_
  refine e_aload_n dX2_copyFrom_72 rfl rfl ?_
  refine e_getfield fd_X2_31 dX2_copyFrom_73 rfl rfl rfl rfl ?_
  refine e_cV2 [5, 6, 15, 16] lk_X2_76 rfl dX2_copyFrom_76 rfl C_X0_copyFrom rfl rfl (Nat.le_of_ble_eq_true rfl) (Nat.le_of_ble_eq_true rfl) (Nat.le_of_ble_eq_true rfl) ⟨rfl, rfl⟩ rfl rfl rfl rfl rfl rfl rfl rfl ?_
  refine EV.ceq (cs' := wFl a (sS (sS (sR (F.1, F2.2) 5 (F.2 5)) 0 (F2.1 0)) 9 (F2.1 9)) P ++ wFl (fun k => a (10 + k)) F2 P2) rfl ?_
  refine e_aload_n dX2_copyFrom_79 rfl rfl ?_
  refine e_getfield fd_X2_38 dX2_copyFrom_80 rfl rfl rfl rfl ?_
  refine e_aload_n dX2_copyFrom_83 rfl rfl ?_
  refine e_getfield fd_X2_38 dX2_copyFrom_84 rfl rfl rfl rfl ?_
  refine e_cV2 [7, 8, 17, 18] lk_X2_80 rfl dX2_copyFrom_87 rfl C_X5_copyFrom rfl rfl (Nat.le_of_ble_eq_true rfl) (Nat.le_of_ble_eq_true rfl) (Nat.le_of_ble_eq_true rfl) ⟨rfl, rfl⟩ rfl rfl rfl rfl rfl rfl rfl rfl ?_
  refine EV.ceq (cs' := wFl a (sS (sS (sS (sS (F.1, F2.2) 0 (F2.1 0)) 9 (F2.1 9)) 10 (F2.1 10)) 11 (F2.1 11)) P ++ wFl (fun k => a (10 + k)) F2 P2) rfl ?_
  refine e_aload_n dX2_copyFrom_90 rfl rfl ?_
  refine e_aload_n dX2_copyFrom_91 rfl rfl ?_
  refine e_getfield fd_X2_46 dX2_copyFrom_92 rfl rfl rfl rfl ?_
  refine e_putfield fd_X2_46 dX2_copyFrom_95 rfl rfl rfl (Nat.le_of_ble_eq_true rfl) rfl rfl ?_
  refine e_aload_n dX2_copyFrom_98 rfl rfl ?_
  refine e_aload_n dX2_copyFrom_99 rfl rfl ?_
  refine e_getfield fd_X2_49 dX2_copyFrom_100 rfl rfl rfl rfl ?_
  refine e_putfield fd_X2_49 dX2_copyFrom_103 rfl rfl rfl (Nat.le_of_ble_eq_true rfl) rfl rfl ?_
  refine e_aload_n dX2_copyFrom_106 rfl rfl ?_
  refine e_aload_n dX2_copyFrom_107 rfl rfl ?_
  refine e_getfield fd_X2_52 dX2_copyFrom_108 rfl rfl rfl rfl ?_
  refine e_putfield fd_X2_52 dX2_copyFrom_111 rfl rfl rfl (Nat.le_of_ble_eq_true rfl) rfl rfl ?_
  refine e_aload_n dX2_copyFrom_114 rfl rfl ?_
  refine e_aload_n dX2_copyFrom_115 rfl rfl ?_
  refine e_getfield fd_X2_55 dX2_copyFrom_116 rfl rfl rfl rfl ?_
  refine e_putfield fd_X2_55 dX2_copyFrom_119 rfl rfl rfl (Nat.le_of_ble_eq_true rfl) rfl rfl ?_
  refine e_aload_n dX2_copyFrom_122 rfl rfl ?_
  refine e_aload_n dX2_copyFrom_123 rfl rfl ?_
  refine e_getfield fd_X2_58 dX2_copyFrom_124 rfl rfl rfl rfl ?_
  refine e_putfield fd_X2_58 dX2_copyFrom_127 rfl rfl rfl (Nat.le_of_ble_eq_true rfl) rfl rfl ?_
  refine e_aload_n dX2_copyFrom_130 rfl rfl ?_
  refine e_aload_n dX2_copyFrom_131 rfl rfl ?_
  refine e_getfield fd_X2_61 dX2_copyFrom_132 rfl rfl rfl rfl ?_
  refine e_putfield fd_X2_61 dX2_copyFrom_135 rfl rfl rfl (Nat.le_of_ble_eq_true rfl) rfl rfl ?_
  refine e_aload_n dX2_copyFrom_138 rfl rfl ?_
  refine e_aload_n dX2_copyFrom_139 rfl rfl ?_
  refine e_getfield fd_X2_64 dX2_copyFrom_140 rfl rfl rfl rfl ?_
  refine e_putfield fd_X2_64 dX2_copyFrom_143 rfl rfl rfl (Nat.le_of_ble_eq_true rfl) rfl rfl ?_
  refine e_aload_n dX2_copyFrom_146 rfl rfl ?_
  refine e_aload_n dX2_copyFrom_147 rfl rfl ?_
  refine e_getfield fd_X2_67 dX2_copyFrom_148 rfl rfl rfl rfl ?_
  refine e_putfield fd_X2_67 dX2_copyFrom_151 rfl rfl rfl (Nat.le_of_ble_eq_true rfl) rfl rfl ?_
  exact e_vret dX2_copyFrom_154 rfl (eRet_v rfl)
theorem okF_do {N : Int} {F : eFs} {k p q r : Int} (hk : 0 ≤ k ∧ k ≤ 8) (hF : okF N F) (hN : N + 240 ≤ 100000000) (e : sHin F k p q r = 0) (hcl : k = 4 → 0 < F.1 9) : okF (N + 240) (sDo F k p q r) := by
  have m := fun (G : eFs) (h : okF N G) => okF_mono (N2 := N + 240) (by have := hF.2.2.2.2.2.2.2.2.2.2.2.1; omega) h
  rcases x9 hk with h | h | h | h | h | h | h | h | h <;> subst h
  · exact m _ (okF_add hF e)
  · exact m _ (okF_put hF (hJump_0 e).2.1)
  · exact m _ (okF_hnd hF (hHand_0 e).2)
  · exact m _ (okF_cput hF (hCloud_0 e).1 (hCloud_0 e).2.1)
  · exact m _ (okF_crem hF (hClear_0 e).1 (hcl rfl))
  · exact m _ (okF_trn hF (hOut_0 e))
  · have g := hGoal_0 e
    have g1 := g.1
    have g2 := g.2
    have hld := hF.2.1
    exact m _ (okF_gol hF (by omega) (by omega) (by omega))
  · exact m _ (okF_kep hF (hOut_0 e))
  · have g : 1 ≤ p ∧ p ≤ 20 := hOut_0 e
    have := (okF_sts (p - 0).toNat F hF (by omega)).1
    exact okF_mono (by omega) this

