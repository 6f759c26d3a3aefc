/-! ===== the reference: moves ===== -/
abbrev mFr (x y : Int → Int) : Prop := ∀ j, 250 ≤ j → y j = x j
def mS1 (a : Nat → Nat) (M G : eFs) (cs1 : List eE) : Prop := ∃ x1 : Int → Int, cs1 = wM a (sR M 0 x1) ∧ mR G x1 ∧ mFr (M.2 0) x1
def opq (p : Prop) : Prop := p
theorem tow {x g : Int} : x + (if g - x < 0 then -1 else if 0 < g - x then 1 else 0) = sTw x g := by
  unfold sTw
  (repeat' split) <;> omega
theorem mR_8 {N : Int} {F : eFs} {x : Int → Int} (hF : okF N F) (hR : mR F x) : mR F (eU x 8 (x 8 + 0)) := by
  refine mR_cong hF (fun j _ _ => ?_) hR
  by_cases h : j = 8
  · rw [h, eU_self]; omega
  · rw [eU_ne h]
def mCn (M : eFs) (c : Prop) [Decidable c] : eFs := if c then sR M 0 (eU (M.2 0) 8 (M.2 0 8 + 0)) else sR M 0 (eU (M.2 0) 8 (M.2 0 8 + 1))
theorem mCn_y {N : Int} {a : Nat → Nat} {F M G : eFs} {c : Prop} [Decidable c] {b u v r : Int} (hF : okF N F) (hN : N + 1 ≤ 100000000) (hR : mR F (M.2 0)) (hb : sHas F b) (hc : c) (hp : sPos F b u v) (e : G = sMv F b u v ∧ r = 1) : eRets (some (vi r)) a (mS1 a M G) (.inl (some (vi (if c then 1 else 0)))) a (wM a (mCn (sR M 0 (mGo F (M.2 0) b u v)) c)) := by
  obtain ⟨e1, e2⟩ := e
  have g := mR_go (u := u) (v := v) hF hR hb
  refine ⟨by rw [if_pos hc, e2], rfl, eU (mGo F (M.2 0) b u v) 8 (mGo F (M.2 0) b u v 8 + 0), by unfold mCn; rw [if_pos hc]; rfl, ?_, fun j hj => by rw [eU_ne (by omega)]; exact g.2 j hj⟩
  rw [e1, ← sGo_y hp]
  refine mR_8 (N := N + 1) ?_ g.1
  rw [sGo_y hp]
  exact okF_mv hF hN hp.1
theorem mCn_n {N : Int} {a : Nat → Nat} {F M G : eFs} {c : Prop} [Decidable c] {b u v r : Int} (hF : okF N F) (hR : mR F (M.2 0)) (hc : ¬ c) (hp : ¬ sPos F b u v) (e : G = sWt F ∧ r = 0) : eRets (some (vi r)) a (mS1 a M G) (.inl (some (vi (if c then 1 else 0)))) a (wM a (mCn (sR M 0 (mGo F (M.2 0) b u v)) c)) := by
  obtain ⟨e1, e2⟩ := e
  have g : mGo F (M.2 0) b u v = M.2 0 := if_neg hp
  refine ⟨by rw [if_neg hc, e2], rfl, eU (M.2 0) 8 (M.2 0 8 + 1), by unfold mCn; rw [if_neg hc, g]; rfl, ?_, fun j hj => eU_ne (by omega)⟩
  rw [e1]
  exact mR_wt hF hR
theorem mCn_w {N : Int} {a : Nat → Nat} {F M G : eFs} {c : Prop} [Decidable c] {r : Int} (hF : okF N F) (hR : mR F (M.2 0)) (hc : ¬ c) (e : G = sWt F ∧ r = 0) : eRets (some (vi r)) a (mS1 a M G) (.inl (some (vi (if c then 1 else 0)))) a (wM a (mCn M c)) := by
  obtain ⟨e1, e2⟩ := e
  refine ⟨by rw [if_neg hc, e2], rfl, eU (M.2 0) 8 (M.2 0 8 + 1), by unfold mCn; rw [if_neg hc], ?_, fun j hj => eU_ne (by omega)⟩
  rw [e1]
  exact mR_wt hF hR
theorem mS1_same {N : Int} {a : Nat → Nat} {F M G : eFs} {r : Int} (hR : mR F (M.2 0)) (e : G = F ∧ r = 0) : eRets (some (vi r)) a (mS1 a M G) (.inl (some (vi 0))) a (wM a M) := by
  obtain ⟨e1, e2⟩ := e
  exact ⟨by rw [e2], rfl, M.2 0, rfl, by rw [e1]; exact hR, fun j hj => rfl⟩
theorem C_X7_countedM {X : eXT} {a : Nat → Nat} {M : eFs} {c : Prop} [Decidable c] : EM X mX7_counted (eRm 0) a [.ref (a 0), vb c] (wM a M) (eRet (some (vi (if c then 1 else 0))) a (wM a (mCn M c))) := C_X7_counted
theorem mCnd {a : Nat → Nat} {M : eFs} {c : Prop} [Decidable c] : wM a (if c then sR M 0 (eU (M.2 0) 8 (M.2 0 8 + 0)) else sR M 0 (eU (M.2 0) 8 (M.2 0 8 + 1))) = wM a (mCn M c) := rfl

theorem C_X7_leads_n {X : eXT} {a : Nat → Nat} {N : Int} {F M : eFs} (hF : okF N F) (hR : mR F (M.2 0)) (hN1 : N + 1 ≤ 100000000) (h0 : 1 ≤ F.1 0) (hg : F.1 4 = -1) :
    EM X mX7_leads (eRm 5) a [.ref (a 0)] (wM a M) (eRets (some (vi (sMLr F))) a (mS1 a M (sML F))) := by
  refine EM.of (by decide +kernel) rfl (Nat.le_of_ble_eq_true rfl) ?_
  have hF0 := hF
  obtain ⟨hc, hld, hled, htn, hgo, hkp, hst, hwt, hcl, hsh, hnx, hN, rx, ry, rh, rm, rc, rw9⟩ := hF
  obtain ⟨⟨n0, n1, n2, n3, n4, n5, n6, n7, n8, n9⟩, hb, hcd, hss⟩ := id hR
  have x5 : M.2 0 5 = 0 := by rw [n5, if_pos hg]
  refine e_aload_n dX7_leads_0 rfl rfl ?_
  refine e_getfield fd_X7_9 dX7_leads_1 rfl rfl rfl rfl ?_
  refine e_iconst dX7_leads_4 rfl ?_
  refine e_iaload dX7_leads_5 rfl rfl rfl (by omega) (by decide) ?_
  refine EV.eq (st' := [vi (F.1 1)]) (by rw [n2]) ?_
  refine f_istore_n dX7_leads_6 rfl (Nat.le_of_ble_eq_true rfl) rfl ?_
  refine e_aload_n dX7_leads_7 rfl rfl ?_
  refine e_iload_n dX7_leads_8 rfl rfl ?_
  refine e_iconst dX7_leads_9 rfl ?_
  refine e_cV0 [0, 1, 2, 3, 4, 5] lk_X7_50 rfl dX7_leads_10 rfl (C_X7_b (by omega) (by omega)) rfl rfl (Nat.le_of_ble_eq_true rfl) (Nat.le_of_ble_eq_true rfl) (Nat.le_of_ble_eq_true rfl) ⟨rfl, rfl⟩ rfl rfl rfl rfl rfl rfl  ?_
  refine f_istore_n dX7_leads_13 rfl (Nat.le_of_ble_eq_true rfl) rfl ?_
  refine e_aload_n dX7_leads_14 rfl rfl ?_
  refine e_iload_n dX7_leads_15 rfl rfl ?_
  refine e_iconst dX7_leads_16 rfl ?_
  refine e_cV0 [0, 1, 2, 3, 4, 5] lk_X7_50 rfl dX7_leads_17 rfl (C_X7_b (by omega) (by omega)) rfl rfl (Nat.le_of_ble_eq_true rfl) (Nat.le_of_ble_eq_true rfl) (Nat.le_of_ble_eq_true rfl) ⟨rfl, rfl⟩ rfl rfl rfl rfl rfl rfl  ?_
  refine f_istore_n dX7_leads_20 rfl (Nat.le_of_ble_eq_true rfl) rfl ?_
  refine e_aload_n dX7_leads_21 rfl rfl ?_
  refine e_getfield fd_X7_9 dX7_leads_22 rfl rfl rfl rfl ?_
  refine e_iconst dX7_leads_25 rfl ?_
  refine e_iaload dX7_leads_26 rfl rfl rfl (by omega) (by decide) ?_
  refine e_iconst dX7_leads_27 rfl ?_
  refine e_isub dX7_leads_28 rfl ?_
  refine e_bipush dX7_leads_29 rfl rfl ?_
  refine e_irem dX7_leads_31 rfl (by omega) (by omega) (by omega) ?_
  refine e_iload_n dX7_leads_32 rfl rfl ?_
  refine e_isub dX7_leads_33 rfl ?_
  refine f_istore dX7_leads_34 rfl (Nat.le_of_ble_eq_true rfl) rfl ?_
  refine e_aload_n dX7_leads_36 rfl rfl ?_
  refine e_getfield fd_X7_9 dX7_leads_37 rfl rfl rfl rfl ?_
  refine e_iconst dX7_leads_40 rfl ?_
  refine e_iaload dX7_leads_41 rfl rfl rfl (by omega) (by decide) ?_
  refine e_iconst dX7_leads_42 rfl ?_
  refine e_isub dX7_leads_43 rfl ?_
  refine e_bipush dX7_leads_44 rfl rfl ?_
  refine e_idiv dX7_leads_46 rfl (by omega) (by omega) (by omega) ?_
  refine e_iload_n dX7_leads_47 rfl rfl ?_
  refine e_isub dX7_leads_48 rfl ?_
  refine f_istore dX7_leads_49 rfl (Nat.le_of_ble_eq_true rfl) rfl ?_
  have dq := x5
  refine e_aload_n dX7_leads_51 rfl rfl ?_
  refine e_getfield fd_X7_9 dX7_leads_52 rfl rfl rfl rfl ?_
  refine e_iconst dX7_leads_55 rfl ?_
  refine e_iaload dX7_leads_56 rfl rfl rfl (by omega) (by decide) ?_
  refine e_if_eq (t := 70) dX7_leads_57 rfl rfl (by omega) (fun h57 => ?_) (fun h57 => ?_)
  · refine e_iconst dX7_leads_70 rfl ?_
    exact e_iret dX7_leads_71 rfl rfl (mS1_same (N := N) hR ⟨(sML_0 (sWayL_0 (Or.inl hg))).1, (sML_0 (sWayL_0 (Or.inl hg))).2⟩)
  · exfalso; omega
set_option maxHeartbeats 1000000 in
theorem C_X7_leads_y {X : eXT} {a : Nat → Nat} {N : Int} {F M : eFs} (hF : okF N F) (hR : mR F (M.2 0)) (hN1 : N + 1 ≤ 100000000) (h0 : 1 ≤ F.1 0) (hg : ¬ F.1 4 = -1) :
    EM X mX7_leads (eRm 5) a [.ref (a 0)] (wM a M) (eRets (some (vi (sMLr F))) a (mS1 a M (sML F))) := by
  refine EM.of (by decide +kernel) rfl (Nat.le_of_ble_eq_true rfl) ?_
  have hF0 := hF
  obtain ⟨hc, hld, hled, htn, hgo, hkp, hst, hwt, hcl, hsh, hnx, hN, rx, ry, rh, rm, rc, rw9⟩ := hF
  obtain ⟨⟨n0, n1, n2, n3, n4, n5, n6, n7, n8, n9⟩, hb, hcd, hss⟩ := id hR
  have x5 : M.2 0 5 = 12 * F.1 5 + F.1 4 + 1 := by rw [n5, if_neg hg]
  have t1 : (M.2 0 5 - 1).tmod 12 = F.1 4 := by rw [Int.tmod_eq_emod_of_nonneg (by omega)]; omega
  have t2 : (M.2 0 5 - 1).tdiv 12 = F.1 5 := by rw [Int.tdiv_eq_ediv_of_nonneg (by omega)]; omega
  have hbb := hb (F.1 1) (by omega) (by omega)
  have hL : sHas F (F.1 1) := by omega
  have r0 := rx (F.1 1)
  have r1 := ry (F.1 1)
  have tw1 : -1 ≤ sTw (F.2 0 (F.1 1)) (F.1 4) ∧ sTw (F.2 0 (F.1 1)) (F.1 4) ≤ 12 := by unfold sTw; (repeat' split) <;> omega
  have tw2 : -1 ≤ sTw (F.2 1 (F.1 1)) (F.1 5) ∧ sTw (F.2 1 (F.1 1)) (F.1 5) ≤ 12 := by unfold sTw; (repeat' split) <;> omega
  have a1 : 0 ≤ eAbs (F.1 4 - F.2 0 (F.1 1)) ∧ eAbs (F.1 4 - F.2 0 (F.1 1)) ≤ 20 := by have := eAbs_or (F.1 4 - F.2 0 (F.1 1)); omega
  have a2 : 0 ≤ eAbs (F.1 5 - F.2 1 (F.1 1)) ∧ eAbs (F.1 5 - F.2 1 (F.1 1)) ≤ 20 := by have := eAbs_or (F.1 5 - F.2 1 (F.1 1)); omega
  have sx : opq (sTw (F.2 0 (F.1 1)) (F.1 4) = F.2 0 (F.1 1) ↔ F.1 4 - F.2 0 (F.1 1) = 0) := by show _ ↔ _; unfold sTw; (repeat' split) <;> omega
  have sy : opq (sTw (F.2 1 (F.1 1)) (F.1 5) = F.2 1 (F.1 1) ↔ F.1 5 - F.2 1 (F.1 1) = 0) := by show _ ↔ _; unfold sTw; (repeat' split) <;> omega
  have g4 : (0 ≤ F.1 4 ∧ F.1 4 ≤ 11) ∧ 0 ≤ F.1 5 ∧ F.1 5 ≤ 11 := by omega
  clear hled htn hkp hst hwt hcl hsh hnx n3 n4 n5 n6 n7 n8 n9 hN hgo hld
  refine e_aload_n dX7_leads_0 rfl rfl ?_
  refine e_getfield fd_X7_9 dX7_leads_1 rfl rfl rfl rfl ?_
  refine e_iconst dX7_leads_4 rfl ?_
  refine e_iaload dX7_leads_5 rfl rfl rfl (by omega) (by decide) ?_
  refine EV.eq (st' := [vi (F.1 1)]) (by rw [n2]) ?_
  refine f_istore_n dX7_leads_6 rfl (Nat.le_of_ble_eq_true rfl) rfl ?_
  refine e_aload_n dX7_leads_7 rfl rfl ?_
  refine e_iload_n dX7_leads_8 rfl rfl ?_
  refine e_iconst dX7_leads_9 rfl ?_
  refine e_cV0 [0, 1, 2, 3, 4, 5] lk_X7_50 rfl dX7_leads_10 rfl (C_X7_b (by omega) (by omega)) rfl rfl (Nat.le_of_ble_eq_true rfl) (Nat.le_of_ble_eq_true rfl) (Nat.le_of_ble_eq_true rfl) ⟨rfl, rfl⟩ rfl rfl rfl rfl rfl rfl  ?_
  refine EV.eq (st' := [vi (F.2 0 (F.1 1))]) (by rw [hbb.1]) ?_
  refine f_istore_n dX7_leads_13 rfl (Nat.le_of_ble_eq_true rfl) rfl ?_
  refine e_aload_n dX7_leads_14 rfl rfl ?_
  refine e_iload_n dX7_leads_15 rfl rfl ?_
  refine e_iconst dX7_leads_16 rfl ?_
  refine e_cV0 [0, 1, 2, 3, 4, 5] lk_X7_50 rfl dX7_leads_17 rfl (C_X7_b (by omega) (by omega)) rfl rfl (Nat.le_of_ble_eq_true rfl) (Nat.le_of_ble_eq_true rfl) (Nat.le_of_ble_eq_true rfl) ⟨rfl, rfl⟩ rfl rfl rfl rfl rfl rfl  ?_
  refine EV.eq (st' := [vi (F.2 1 (F.1 1))]) (by rw [hbb.2.1]) ?_
  refine f_istore_n dX7_leads_20 rfl (Nat.le_of_ble_eq_true rfl) rfl ?_
  refine e_aload_n dX7_leads_21 rfl rfl ?_
  refine e_getfield fd_X7_9 dX7_leads_22 rfl rfl rfl rfl ?_
  refine e_iconst dX7_leads_25 rfl ?_
  refine e_iaload dX7_leads_26 rfl rfl rfl (by omega) (by decide) ?_
  refine e_iconst dX7_leads_27 rfl ?_
  refine e_isub dX7_leads_28 rfl ?_
  refine e_bipush dX7_leads_29 rfl rfl ?_
  refine e_irem dX7_leads_31 rfl (by omega) (by omega) (by omega) ?_
  refine EV.eq (st' := [vi (F.1 4)]) (by rw [t1]) ?_
  refine e_iload_n dX7_leads_32 rfl rfl ?_
  refine e_isub dX7_leads_33 rfl ?_
  refine f_istore dX7_leads_34 rfl (Nat.le_of_ble_eq_true rfl) rfl ?_
  refine e_aload_n dX7_leads_36 rfl rfl ?_
  refine e_getfield fd_X7_9 dX7_leads_37 rfl rfl rfl rfl ?_
  refine e_iconst dX7_leads_40 rfl ?_
  refine e_iaload dX7_leads_41 rfl rfl rfl (by omega) (by decide) ?_
  refine e_iconst dX7_leads_42 rfl ?_
  refine e_isub dX7_leads_43 rfl ?_
  refine e_bipush dX7_leads_44 rfl rfl ?_
  refine e_idiv dX7_leads_46 rfl (by omega) (by omega) (by omega) ?_
  refine EV.eq (st' := [vi (F.1 5)]) (by rw [t2]) ?_
  refine e_iload_n dX7_leads_47 rfl rfl ?_
  refine e_isub dX7_leads_48 rfl ?_
  refine f_istore dX7_leads_49 rfl (Nat.le_of_ble_eq_true rfl) rfl ?_
  refine e_aload_n dX7_leads_51 rfl rfl ?_
  refine e_getfield fd_X7_9 dX7_leads_52 rfl rfl rfl rfl ?_
  refine e_iconst dX7_leads_55 rfl ?_
  refine e_iaload dX7_leads_56 rfl rfl rfl (by omega) (by decide) ?_
  refine e_if_eq (t := 70) dX7_leads_57 rfl rfl (by omega) (fun h57 => ?_) (fun h57 => ?_)
  · exfalso; omega
  · refine e_iload dX7_leads_60 rfl rfl ?_
    refine e_if_ne (t := 72) dX7_leads_62 rfl rfl (by omega) (fun h62 => ?_) (fun h62 => ?_)
    · refine e_iload dX7_leads_72 rfl rfl ?_
      refine e_cS0 [] lk_X7_54 rfl dX7_leads_74 rfl (C_X7_size (by omega)) rfl rfl (Nat.le_of_ble_eq_true rfl) (Nat.le_of_ble_eq_true rfl) (Nat.le_of_ble_eq_true rfl) ⟨rfl, rfl⟩ rfl rfl  ?_
      refine e_iload dX7_leads_77 rfl rfl ?_
      refine e_cS0 [] lk_X7_54 rfl dX7_leads_79 rfl (C_X7_size (by omega)) rfl rfl (Nat.le_of_ble_eq_true rfl) (Nat.le_of_ble_eq_true rfl) (Nat.le_of_ble_eq_true rfl) ⟨rfl, rfl⟩ rfl rfl  ?_
      refine e_icmp_lt (t := 89) dX7_leads_82 rfl rfl (by omega) (by omega) (fun h82 => ?_) (fun h82 => ?_)
      · refine e_iconst dX7_leads_89 rfl ?_
        refine f_istore dX7_leads_90 rfl (Nat.le_of_ble_eq_true rfl) rfl ?_
        refine e_iload dX7_leads_92 rfl rfl ?_
        refine e_if_eq (t := 113) dX7_leads_94 rfl rfl (by decide) (fun _ => ?_) (fun h => absurd h (by decide))
        refine e_aload_n dX7_leads_113 rfl rfl ?_
        refine e_iload_n dX7_leads_114 rfl rfl ?_
        refine e_iload_n dX7_leads_115 rfl rfl ?_
        refine e_iload_n dX7_leads_116 rfl rfl ?_
        refine e_iload dX7_leads_117 rfl rfl ?_
        refine e_cS0 [] lk_X7_89 rfl dX7_leads_119 rfl (C_X7_toward (by omega)) rfl rfl (Nat.le_of_ble_eq_true rfl) (Nat.le_of_ble_eq_true rfl) (Nat.le_of_ble_eq_true rfl) ⟨rfl, rfl⟩ rfl rfl  ?_
        refine e_iadd dX7_leads_122 rfl ?_
        refine EV.eq (st' := [vi (sTw (F.2 1 (F.1 1)) (F.1 5)), vi (F.2 0 (F.1 1)), vi (F.1 1), .ref (a 0)]) (by rw [tow] <;> rfl) ?_
        refine e_cV2 [0, 1, 2, 3, 4, 5] lk_X7_92 rfl dX7_leads_123 rfl (C_X7_goes hF0 hR hL (by omega) (by omega)) rfl rfl (Nat.le_of_ble_eq_true rfl) (Nat.le_of_ble_eq_true rfl) (Nat.le_of_ble_eq_true rfl) ⟨rfl, rfl⟩ rfl rfl rfl rfl rfl rfl rfl rfl ?_
        refine EV.ceq (cs' := wM a (sR M 0 (mGo F (M.2 0) (F.1 1) (F.2 0 (F.1 1)) (sTw (F.2 1 (F.1 1)) (F.1 5))))) rfl ?_
        refine f_istore dX7_leads_126 rfl (Nat.le_of_ble_eq_true rfl) rfl ?_
        refine e_iload dX7_leads_128 rfl rfl ?_
        refine e_ifb_ne (t := 158) dX7_leads_130 rfl rfl (fun h130 => ?_) (fun h130 => ?_)
        · refine e_iload dX7_leads_158 rfl rfl ?_
          refine e_ifb_ne (t := 188) dX7_leads_160 rfl rfl (fun h160 => ?_) (fun h160 => ?_)
          · refine e_aload_n dX7_leads_188 rfl rfl ?_
            refine e_iload dX7_leads_189 rfl rfl ?_
            refine e_cV2 [0, 1, 2, 3, 4, 5] lk_X7_95 rfl dX7_leads_191 rfl C_X7_countedM rfl rfl (Nat.le_of_ble_eq_true rfl) (Nat.le_of_ble_eq_true rfl) (Nat.le_of_ble_eq_true rfl) ⟨rfl, rfl⟩ rfl rfl rfl rfl rfl rfl rfl rfl ?_
            exact e_iret dX7_leads_194 rfl rfl (by exact mCn_y (b := F.1 1) (u := F.2 0 (F.1 1)) (v := sTw (F.2 1 (F.1 1)) (F.1 5)) hF0 hN1 hR hL h130 h130 (sML_2 (sWayL_y2 (F := F) (show ¬ sOn F from fun q => by rcases q with q | q; exact hg q; have := sD_0.mp q; omega) (show ¬ eAbs (F.1 5 - F.2 1 (F.1 1)) ≤ eAbs (F.1 4 - F.2 0 (F.1 1)) by omega) h130)))
          · exact absurd h130 h160
        · refine e_iload dX7_leads_133 rfl rfl ?_
          refine e_if_eq (t := 158) dX7_leads_135 rfl rfl (by decide) (fun _ => ?_) (fun h => absurd h (by decide))
          refine e_iload dX7_leads_158 rfl rfl ?_
          refine e_ifb_ne (t := 188) dX7_leads_160 rfl rfl (fun h160 => ?_) (fun h160 => ?_)
          · exact absurd h160 h130
          · refine e_iload dX7_leads_163 rfl rfl ?_
            refine e_if_ne (t := 188) dX7_leads_165 rfl rfl (by decide) (fun h => absurd h (by decide)) (fun _ => ?_)
            refine e_iload dX7_leads_168 rfl rfl ?_
            refine e_if_eq (t := 188) dX7_leads_170 rfl rfl (by omega) (fun h170 => ?_) (fun h170 => ?_)
            · refine e_aload_n dX7_leads_188 rfl rfl ?_
              refine e_iload dX7_leads_189 rfl rfl ?_
              refine e_cV2 [0, 1, 2, 3, 4, 5] lk_X7_95 rfl dX7_leads_191 rfl C_X7_countedM rfl rfl (Nat.le_of_ble_eq_true rfl) (Nat.le_of_ble_eq_true rfl) (Nat.le_of_ble_eq_true rfl) ⟨rfl, rfl⟩ rfl rfl rfl rfl rfl rfl rfl rfl ?_
              exact e_iret dX7_leads_194 rfl rfl (by exact mCn_n (b := F.1 1) (u := F.2 0 (F.1 1)) (v := sTw (F.2 1 (F.1 1)) (F.1 5)) hF0 hR h130 h130 (sML_5 (sWayL_y5 (F := F) (show ¬ sOn F from fun q => by rcases q with q | q; exact hg q; have := sD_0.mp q; omega) (show ¬ eAbs (F.1 5 - F.2 1 (F.1 1)) ≤ eAbs (F.1 4 - F.2 0 (F.1 1)) by omega) h130 (fun q => by have q1 : F.1 4 - F.2 0 (F.1 1) = 0 → False := fun r => q.1 (Iff.mpr sx r); first | exact absurd q.2 (by assumption) | exact q1 (by omega)))))
            · refine e_aload_n dX7_leads_173 rfl rfl ?_
              refine e_iload_n dX7_leads_174 rfl rfl ?_
              refine e_iload_n dX7_leads_175 rfl rfl ?_
              refine e_iload dX7_leads_176 rfl rfl ?_
              refine e_cS0 [] lk_X7_89 rfl dX7_leads_178 rfl (C_X7_toward (by omega)) rfl rfl (Nat.le_of_ble_eq_true rfl) (Nat.le_of_ble_eq_true rfl) (Nat.le_of_ble_eq_true rfl) ⟨rfl, rfl⟩ rfl rfl  ?_
              refine e_iadd dX7_leads_181 rfl ?_
              refine EV.eq (st' := [vi (sTw (F.2 0 (F.1 1)) (F.1 4)), vi (F.1 1), .ref (a 0)]) (by rw [tow] <;> rfl) ?_
              refine e_iload_n dX7_leads_182 rfl rfl ?_
              refine EV.ceq (cs' := wM a M) (by unfold mGo; rw [if_neg h130] <;> rfl) ?_
              refine e_cV2 [0, 1, 2, 3, 4, 5] lk_X7_92 rfl dX7_leads_183 rfl (C_X7_goes hF0 hR hL (by omega) (by omega)) rfl rfl (Nat.le_of_ble_eq_true rfl) (Nat.le_of_ble_eq_true rfl) (Nat.le_of_ble_eq_true rfl) ⟨rfl, rfl⟩ rfl rfl rfl rfl rfl rfl rfl rfl ?_
              refine EV.ceq (cs' := wM a (sR M 0 (mGo F (M.2 0) (F.1 1) (sTw (F.2 0 (F.1 1)) (F.1 4)) (F.2 1 (F.1 1))))) rfl ?_
              refine f_istore dX7_leads_186 rfl (Nat.le_of_ble_eq_true rfl) rfl ?_
              refine e_aload_n dX7_leads_188 rfl rfl ?_
              refine e_iload dX7_leads_189 rfl rfl ?_
              refine e_cV2 [0, 1, 2, 3, 4, 5] lk_X7_95 rfl dX7_leads_191 rfl C_X7_countedM rfl rfl (Nat.le_of_ble_eq_true rfl) (Nat.le_of_ble_eq_true rfl) (Nat.le_of_ble_eq_true rfl) ⟨rfl, rfl⟩ rfl rfl rfl rfl rfl rfl rfl rfl ?_
              exact e_iret dX7_leads_194 rfl rfl (by (by_cases hz : sPos F (F.1 1) (sTw (F.2 0 (F.1 1)) (F.1 4)) (F.2 1 (F.1 1)); exact mCn_y (b := F.1 1) (u := sTw (F.2 0 (F.1 1)) (F.1 4)) (v := F.2 1 (F.1 1)) hF0 hN1 hR hL hz hz (sML_1 (sWayL_y1 (F := F) (show ¬ sOn F from fun q => by rcases q with q | q; exact hg q; have := sD_0.mp q; omega) (show ¬ eAbs (F.1 5 - F.2 1 (F.1 1)) ≤ eAbs (F.1 4 - F.2 0 (F.1 1)) by omega) h130 ⟨(fun q => absurd (Iff.mp sx q) (by omega)), hz⟩)); exact mCn_n (b := F.1 1) (u := sTw (F.2 0 (F.1 1)) (F.1 4)) (v := F.2 1 (F.1 1)) hF0 hR hz hz (sML_5 (sWayL_y5 (F := F) (show ¬ sOn F from fun q => by rcases q with q | q; exact hg q; have := sD_0.mp q; omega) (show ¬ eAbs (F.1 5 - F.2 1 (F.1 1)) ≤ eAbs (F.1 4 - F.2 0 (F.1 1)) by omega) h130 (fun q => by have q1 : F.1 4 - F.2 0 (F.1 1) = 0 → False := fun r => q.1 (Iff.mpr sx r); first | exact absurd q.2 hz | exact q1 (by omega))))))
      · refine e_iconst dX7_leads_85 rfl ?_
        refine e_goto (n := 90) dX7_leads_86 rfl ?_
        refine f_istore dX7_leads_90 rfl (Nat.le_of_ble_eq_true rfl) rfl ?_
        refine e_iload dX7_leads_92 rfl rfl ?_
        refine e_if_eq (t := 113) dX7_leads_94 rfl rfl (by decide) (fun h => absurd h (by decide)) (fun _ => ?_)
        refine e_aload_n dX7_leads_97 rfl rfl ?_
        refine e_iload_n dX7_leads_98 rfl rfl ?_
        refine e_iload_n dX7_leads_99 rfl rfl ?_
        refine e_iload dX7_leads_100 rfl rfl ?_
        refine e_cS0 [] lk_X7_89 rfl dX7_leads_102 rfl (C_X7_toward (by omega)) rfl rfl (Nat.le_of_ble_eq_true rfl) (Nat.le_of_ble_eq_true rfl) (Nat.le_of_ble_eq_true rfl) ⟨rfl, rfl⟩ rfl rfl  ?_
        refine e_iadd dX7_leads_105 rfl ?_
        refine EV.eq (st' := [vi (sTw (F.2 0 (F.1 1)) (F.1 4)), vi (F.1 1), .ref (a 0)]) (by rw [tow] <;> rfl) ?_
        refine e_iload_n dX7_leads_106 rfl rfl ?_
        refine e_cV2 [0, 1, 2, 3, 4, 5] lk_X7_92 rfl dX7_leads_107 rfl (C_X7_goes hF0 hR hL (by omega) (by omega)) rfl rfl (Nat.le_of_ble_eq_true rfl) (Nat.le_of_ble_eq_true rfl) (Nat.le_of_ble_eq_true rfl) ⟨rfl, rfl⟩ rfl rfl rfl rfl rfl rfl rfl rfl ?_
        refine EV.ceq (cs' := wM a (sR M 0 (mGo F (M.2 0) (F.1 1) (sTw (F.2 0 (F.1 1)) (F.1 4)) (F.2 1 (F.1 1))))) rfl ?_
        refine e_goto (n := 126) dX7_leads_110 rfl ?_
        refine f_istore dX7_leads_126 rfl (Nat.le_of_ble_eq_true rfl) rfl ?_
        refine e_iload dX7_leads_128 rfl rfl ?_
        refine e_ifb_ne (t := 158) dX7_leads_130 rfl rfl (fun h130 => ?_) (fun h130 => ?_)
        · refine e_iload dX7_leads_158 rfl rfl ?_
          refine e_ifb_ne (t := 188) dX7_leads_160 rfl rfl (fun h160 => ?_) (fun h160 => ?_)
          · refine e_aload_n dX7_leads_188 rfl rfl ?_
            refine e_iload dX7_leads_189 rfl rfl ?_
            refine e_cV2 [0, 1, 2, 3, 4, 5] lk_X7_95 rfl dX7_leads_191 rfl C_X7_countedM rfl rfl (Nat.le_of_ble_eq_true rfl) (Nat.le_of_ble_eq_true rfl) (Nat.le_of_ble_eq_true rfl) ⟨rfl, rfl⟩ rfl rfl rfl rfl rfl rfl rfl rfl ?_
            exact e_iret dX7_leads_194 rfl rfl (by exact mCn_y (b := F.1 1) (u := sTw (F.2 0 (F.1 1)) (F.1 4)) (v := F.2 1 (F.1 1)) hF0 hN1 hR hL h130 h130 (sML_1 (sWayL_x1 (F := F) (show ¬ sOn F from fun q => by rcases q with q | q; exact hg q; have := sD_0.mp q; omega) (show eAbs (F.1 5 - F.2 1 (F.1 1)) ≤ eAbs (F.1 4 - F.2 0 (F.1 1)) by omega) h130)))
          · exact absurd h130 h160
        · refine e_iload dX7_leads_133 rfl rfl ?_
          refine e_if_eq (t := 158) dX7_leads_135 rfl rfl (by decide) (fun h => absurd h (by decide)) (fun _ => ?_)
          refine e_iload dX7_leads_138 rfl rfl ?_
          refine e_if_eq (t := 158) dX7_leads_140 rfl rfl (by omega) (fun h140 => ?_) (fun h140 => ?_)
          · refine e_iload dX7_leads_158 rfl rfl ?_
            refine e_ifb_ne (t := 188) dX7_leads_160 rfl rfl (fun h160 => ?_) (fun h160 => ?_)
            · exact absurd h160 h130
            · refine e_iload dX7_leads_163 rfl rfl ?_
              refine e_if_ne (t := 188) dX7_leads_165 rfl rfl (by decide) (fun _ => ?_) (fun h => absurd h (by decide))
              refine e_aload_n dX7_leads_188 rfl rfl ?_
              refine e_iload dX7_leads_189 rfl rfl ?_
              refine e_cV2 [0, 1, 2, 3, 4, 5] lk_X7_95 rfl dX7_leads_191 rfl C_X7_countedM rfl rfl (Nat.le_of_ble_eq_true rfl) (Nat.le_of_ble_eq_true rfl) (Nat.le_of_ble_eq_true rfl) ⟨rfl, rfl⟩ rfl rfl rfl rfl rfl rfl rfl rfl ?_
              exact e_iret dX7_leads_194 rfl rfl (by exact mCn_n (b := F.1 1) (u := sTw (F.2 0 (F.1 1)) (F.1 4)) (v := F.2 1 (F.1 1)) hF0 hR h130 h130 (sML_5 (sWayL_x5 (F := F) (show ¬ sOn F from fun q => by rcases q with q | q; exact hg q; have := sD_0.mp q; omega) (show eAbs (F.1 5 - F.2 1 (F.1 1)) ≤ eAbs (F.1 4 - F.2 0 (F.1 1)) by omega) h130 (fun q => by have q1 : F.1 5 - F.2 1 (F.1 1) = 0 → False := fun r => q.1 (Iff.mpr sy r); first | exact absurd q.2 (by assumption) | exact q1 (by omega)))))
          · refine e_aload_n dX7_leads_143 rfl rfl ?_
            refine e_iload_n dX7_leads_144 rfl rfl ?_
            refine e_iload_n dX7_leads_145 rfl rfl ?_
            refine e_iload_n dX7_leads_146 rfl rfl ?_
            refine e_iload dX7_leads_147 rfl rfl ?_
            refine e_cS0 [] lk_X7_89 rfl dX7_leads_149 rfl (C_X7_toward (by omega)) rfl rfl (Nat.le_of_ble_eq_true rfl) (Nat.le_of_ble_eq_true rfl) (Nat.le_of_ble_eq_true rfl) ⟨rfl, rfl⟩ rfl rfl  ?_
            refine e_iadd dX7_leads_152 rfl ?_
            refine EV.eq (st' := [vi (sTw (F.2 1 (F.1 1)) (F.1 5)), vi (F.2 0 (F.1 1)), vi (F.1 1), .ref (a 0)]) (by rw [tow] <;> rfl) ?_
            refine EV.ceq (cs' := wM a M) (by unfold mGo; rw [if_neg h130] <;> rfl) ?_
            refine e_cV2 [0, 1, 2, 3, 4, 5] lk_X7_92 rfl dX7_leads_153 rfl (C_X7_goes hF0 hR hL (by omega) (by omega)) rfl rfl (Nat.le_of_ble_eq_true rfl) (Nat.le_of_ble_eq_true rfl) (Nat.le_of_ble_eq_true rfl) ⟨rfl, rfl⟩ rfl rfl rfl rfl rfl rfl rfl rfl ?_
            refine EV.ceq (cs' := wM a (sR M 0 (mGo F (M.2 0) (F.1 1) (F.2 0 (F.1 1)) (sTw (F.2 1 (F.1 1)) (F.1 5))))) rfl ?_
            refine f_istore dX7_leads_156 rfl (Nat.le_of_ble_eq_true rfl) rfl ?_
            refine e_iload dX7_leads_158 rfl rfl ?_
            refine e_ifb_ne (t := 188) dX7_leads_160 rfl rfl (fun h160 => ?_) (fun h160 => ?_)
            · refine e_aload_n dX7_leads_188 rfl rfl ?_
              refine e_iload dX7_leads_189 rfl rfl ?_
              refine e_cV2 [0, 1, 2, 3, 4, 5] lk_X7_95 rfl dX7_leads_191 rfl C_X7_countedM rfl rfl (Nat.le_of_ble_eq_true rfl) (Nat.le_of_ble_eq_true rfl) (Nat.le_of_ble_eq_true rfl) ⟨rfl, rfl⟩ rfl rfl rfl rfl rfl rfl rfl rfl ?_
              exact e_iret dX7_leads_194 rfl rfl (by (by_cases hz : sPos F (F.1 1) (F.2 0 (F.1 1)) (sTw (F.2 1 (F.1 1)) (F.1 5)); exact mCn_y (b := F.1 1) (u := F.2 0 (F.1 1)) (v := sTw (F.2 1 (F.1 1)) (F.1 5)) hF0 hN1 hR hL hz hz (sML_2 (sWayL_x2 (F := F) (show ¬ sOn F from fun q => by rcases q with q | q; exact hg q; have := sD_0.mp q; omega) (show eAbs (F.1 5 - F.2 1 (F.1 1)) ≤ eAbs (F.1 4 - F.2 0 (F.1 1)) by omega) h130 ⟨(fun q => absurd (Iff.mp sy q) (by omega)), hz⟩)); exact mCn_n (b := F.1 1) (u := F.2 0 (F.1 1)) (v := sTw (F.2 1 (F.1 1)) (F.1 5)) hF0 hR hz hz (sML_5 (sWayL_x5 (F := F) (show ¬ sOn F from fun q => by rcases q with q | q; exact hg q; have := sD_0.mp q; omega) (show eAbs (F.1 5 - F.2 1 (F.1 1)) ≤ eAbs (F.1 4 - F.2 0 (F.1 1)) by omega) h130 (fun q => by have q1 : F.1 5 - F.2 1 (F.1 1) = 0 → False := fun r => q.1 (Iff.mpr sy r); first | exact absurd q.2 hz | exact q1 (by omega))))))
            · refine e_iload dX7_leads_163 rfl rfl ?_
              refine e_if_ne (t := 188) dX7_leads_165 rfl rfl (by decide) (fun _ => ?_) (fun h => absurd h (by decide))
              refine e_aload_n dX7_leads_188 rfl rfl ?_
              refine e_iload dX7_leads_189 rfl rfl ?_
              refine e_cV2 [0, 1, 2, 3, 4, 5] lk_X7_95 rfl dX7_leads_191 rfl C_X7_countedM rfl rfl (Nat.le_of_ble_eq_true rfl) (Nat.le_of_ble_eq_true rfl) (Nat.le_of_ble_eq_true rfl) ⟨rfl, rfl⟩ rfl rfl rfl rfl rfl rfl rfl rfl ?_
              exact e_iret dX7_leads_194 rfl rfl (by (by_cases hz : sPos F (F.1 1) (F.2 0 (F.1 1)) (sTw (F.2 1 (F.1 1)) (F.1 5)); exact mCn_y (b := F.1 1) (u := F.2 0 (F.1 1)) (v := sTw (F.2 1 (F.1 1)) (F.1 5)) hF0 hN1 hR hL hz hz (sML_2 (sWayL_x2 (F := F) (show ¬ sOn F from fun q => by rcases q with q | q; exact hg q; have := sD_0.mp q; omega) (show eAbs (F.1 5 - F.2 1 (F.1 1)) ≤ eAbs (F.1 4 - F.2 0 (F.1 1)) by omega) h130 ⟨(fun q => absurd (Iff.mp sy q) (by omega)), hz⟩)); exact mCn_n (b := F.1 1) (u := F.2 0 (F.1 1)) (v := sTw (F.2 1 (F.1 1)) (F.1 5)) hF0 hR hz hz (sML_5 (sWayL_x5 (F := F) (show ¬ sOn F from fun q => by rcases q with q | q; exact hg q; have := sD_0.mp q; omega) (show eAbs (F.1 5 - F.2 1 (F.1 1)) ≤ eAbs (F.1 4 - F.2 0 (F.1 1)) by omega) h130 (fun q => by have q1 : F.1 5 - F.2 1 (F.1 1) = 0 → False := fun r => q.1 (Iff.mpr sy r); first | exact absurd q.2 hz | exact q1 (by omega))))))
    · refine e_iload dX7_leads_65 rfl rfl ?_
      refine e_if_ne (t := 72) dX7_leads_67 rfl rfl (by omega) (fun h67 => ?_) (fun h67 => ?_)
      · refine e_iload dX7_leads_72 rfl rfl ?_
        refine e_cS0 [] lk_X7_54 rfl dX7_leads_74 rfl (C_X7_size (by omega)) rfl rfl (Nat.le_of_ble_eq_true rfl) (Nat.le_of_ble_eq_true rfl) (Nat.le_of_ble_eq_true rfl) ⟨rfl, rfl⟩ rfl rfl  ?_
        refine e_iload dX7_leads_77 rfl rfl ?_
        refine e_cS0 [] lk_X7_54 rfl dX7_leads_79 rfl (C_X7_size (by omega)) rfl rfl (Nat.le_of_ble_eq_true rfl) (Nat.le_of_ble_eq_true rfl) (Nat.le_of_ble_eq_true rfl) ⟨rfl, rfl⟩ rfl rfl  ?_
        refine e_icmp_lt (t := 89) dX7_leads_82 rfl rfl (by omega) (by omega) (fun h82 => ?_) (fun h82 => ?_)
        · refine e_iconst dX7_leads_89 rfl ?_
          refine f_istore dX7_leads_90 rfl (Nat.le_of_ble_eq_true rfl) rfl ?_
          refine e_iload dX7_leads_92 rfl rfl ?_
          refine e_if_eq (t := 113) dX7_leads_94 rfl rfl (by decide) (fun _ => ?_) (fun h => absurd h (by decide))
          refine e_aload_n dX7_leads_113 rfl rfl ?_
          refine e_iload_n dX7_leads_114 rfl rfl ?_
          refine e_iload_n dX7_leads_115 rfl rfl ?_
          refine e_iload_n dX7_leads_116 rfl rfl ?_
          refine e_iload dX7_leads_117 rfl rfl ?_
          refine e_cS0 [] lk_X7_89 rfl dX7_leads_119 rfl (C_X7_toward (by omega)) rfl rfl (Nat.le_of_ble_eq_true rfl) (Nat.le_of_ble_eq_true rfl) (Nat.le_of_ble_eq_true rfl) ⟨rfl, rfl⟩ rfl rfl  ?_
          refine e_iadd dX7_leads_122 rfl ?_
          refine EV.eq (st' := [vi (sTw (F.2 1 (F.1 1)) (F.1 5)), vi (F.2 0 (F.1 1)), vi (F.1 1), .ref (a 0)]) (by rw [tow] <;> rfl) ?_
          refine e_cV2 [0, 1, 2, 3, 4, 5] lk_X7_92 rfl dX7_leads_123 rfl (C_X7_goes hF0 hR hL (by omega) (by omega)) rfl rfl (Nat.le_of_ble_eq_true rfl) (Nat.le_of_ble_eq_true rfl) (Nat.le_of_ble_eq_true rfl) ⟨rfl, rfl⟩ rfl rfl rfl rfl rfl rfl rfl rfl ?_
          refine EV.ceq (cs' := wM a (sR M 0 (mGo F (M.2 0) (F.1 1) (F.2 0 (F.1 1)) (sTw (F.2 1 (F.1 1)) (F.1 5))))) rfl ?_
          refine f_istore dX7_leads_126 rfl (Nat.le_of_ble_eq_true rfl) rfl ?_
          refine e_iload dX7_leads_128 rfl rfl ?_
          refine e_ifb_ne (t := 158) dX7_leads_130 rfl rfl (fun h130 => ?_) (fun h130 => ?_)
          · refine e_iload dX7_leads_158 rfl rfl ?_
            refine e_ifb_ne (t := 188) dX7_leads_160 rfl rfl (fun h160 => ?_) (fun h160 => ?_)
            · refine e_aload_n dX7_leads_188 rfl rfl ?_
              refine e_iload dX7_leads_189 rfl rfl ?_
              refine e_cV2 [0, 1, 2, 3, 4, 5] lk_X7_95 rfl dX7_leads_191 rfl C_X7_countedM rfl rfl (Nat.le_of_ble_eq_true rfl) (Nat.le_of_ble_eq_true rfl) (Nat.le_of_ble_eq_true rfl) ⟨rfl, rfl⟩ rfl rfl rfl rfl rfl rfl rfl rfl ?_
              exact e_iret dX7_leads_194 rfl rfl (by exact mCn_y (b := F.1 1) (u := F.2 0 (F.1 1)) (v := sTw (F.2 1 (F.1 1)) (F.1 5)) hF0 hN1 hR hL h130 h130 (sML_2 (sWayL_y2 (F := F) (show ¬ sOn F from fun q => by rcases q with q | q; exact hg q; have := sD_0.mp q; omega) (show ¬ eAbs (F.1 5 - F.2 1 (F.1 1)) ≤ eAbs (F.1 4 - F.2 0 (F.1 1)) by omega) h130)))
            · exact absurd h130 h160
          · refine e_iload dX7_leads_133 rfl rfl ?_
            refine e_if_eq (t := 158) dX7_leads_135 rfl rfl (by decide) (fun _ => ?_) (fun h => absurd h (by decide))
            refine e_iload dX7_leads_158 rfl rfl ?_
            refine e_ifb_ne (t := 188) dX7_leads_160 rfl rfl (fun h160 => ?_) (fun h160 => ?_)
            · exact absurd h160 h130
            · refine e_iload dX7_leads_163 rfl rfl ?_
              refine e_if_ne (t := 188) dX7_leads_165 rfl rfl (by decide) (fun h => absurd h (by decide)) (fun _ => ?_)
              refine e_iload dX7_leads_168 rfl rfl ?_
              refine e_if_eq (t := 188) dX7_leads_170 rfl rfl (by omega) (fun h170 => ?_) (fun h170 => ?_)
              · refine e_aload_n dX7_leads_188 rfl rfl ?_
                refine e_iload dX7_leads_189 rfl rfl ?_
                refine e_cV2 [0, 1, 2, 3, 4, 5] lk_X7_95 rfl dX7_leads_191 rfl C_X7_countedM rfl rfl (Nat.le_of_ble_eq_true rfl) (Nat.le_of_ble_eq_true rfl) (Nat.le_of_ble_eq_true rfl) ⟨rfl, rfl⟩ rfl rfl rfl rfl rfl rfl rfl rfl ?_
                exact e_iret dX7_leads_194 rfl rfl (by exact mCn_n (b := F.1 1) (u := F.2 0 (F.1 1)) (v := sTw (F.2 1 (F.1 1)) (F.1 5)) hF0 hR h130 h130 (sML_5 (sWayL_y5 (F := F) (show ¬ sOn F from fun q => by rcases q with q | q; exact hg q; have := sD_0.mp q; omega) (show ¬ eAbs (F.1 5 - F.2 1 (F.1 1)) ≤ eAbs (F.1 4 - F.2 0 (F.1 1)) by omega) h130 (fun q => by have q1 : F.1 4 - F.2 0 (F.1 1) = 0 → False := fun r => q.1 (Iff.mpr sx r); first | exact absurd q.2 (by assumption) | exact q1 (by omega)))))
              · refine e_aload_n dX7_leads_173 rfl rfl ?_
                refine e_iload_n dX7_leads_174 rfl rfl ?_
                refine e_iload_n dX7_leads_175 rfl rfl ?_
                refine e_iload dX7_leads_176 rfl rfl ?_
                refine e_cS0 [] lk_X7_89 rfl dX7_leads_178 rfl (C_X7_toward (by omega)) rfl rfl (Nat.le_of_ble_eq_true rfl) (Nat.le_of_ble_eq_true rfl) (Nat.le_of_ble_eq_true rfl) ⟨rfl, rfl⟩ rfl rfl  ?_
                refine e_iadd dX7_leads_181 rfl ?_
                refine EV.eq (st' := [vi (sTw (F.2 0 (F.1 1)) (F.1 4)), vi (F.1 1), .ref (a 0)]) (by rw [tow] <;> rfl) ?_
                refine e_iload_n dX7_leads_182 rfl rfl ?_
                refine EV.ceq (cs' := wM a M) (by unfold mGo; rw [if_neg h130] <;> rfl) ?_
                refine e_cV2 [0, 1, 2, 3, 4, 5] lk_X7_92 rfl dX7_leads_183 rfl (C_X7_goes hF0 hR hL (by omega) (by omega)) rfl rfl (Nat.le_of_ble_eq_true rfl) (Nat.le_of_ble_eq_true rfl) (Nat.le_of_ble_eq_true rfl) ⟨rfl, rfl⟩ rfl rfl rfl rfl rfl rfl rfl rfl ?_
                refine EV.ceq (cs' := wM a (sR M 0 (mGo F (M.2 0) (F.1 1) (sTw (F.2 0 (F.1 1)) (F.1 4)) (F.2 1 (F.1 1))))) rfl ?_
                refine f_istore dX7_leads_186 rfl (Nat.le_of_ble_eq_true rfl) rfl ?_
                refine e_aload_n dX7_leads_188 rfl rfl ?_
                refine e_iload dX7_leads_189 rfl rfl ?_
                refine e_cV2 [0, 1, 2, 3, 4, 5] lk_X7_95 rfl dX7_leads_191 rfl C_X7_countedM rfl rfl (Nat.le_of_ble_eq_true rfl) (Nat.le_of_ble_eq_true rfl) (Nat.le_of_ble_eq_true rfl) ⟨rfl, rfl⟩ rfl rfl rfl rfl rfl rfl rfl rfl ?_
                exact e_iret dX7_leads_194 rfl rfl (by (by_cases hz : sPos F (F.1 1) (sTw (F.2 0 (F.1 1)) (F.1 4)) (F.2 1 (F.1 1)); exact mCn_y (b := F.1 1) (u := sTw (F.2 0 (F.1 1)) (F.1 4)) (v := F.2 1 (F.1 1)) hF0 hN1 hR hL hz hz (sML_1 (sWayL_y1 (F := F) (show ¬ sOn F from fun q => by rcases q with q | q; exact hg q; have := sD_0.mp q; omega) (show ¬ eAbs (F.1 5 - F.2 1 (F.1 1)) ≤ eAbs (F.1 4 - F.2 0 (F.1 1)) by omega) h130 ⟨(fun q => absurd (Iff.mp sx q) (by omega)), hz⟩)); exact mCn_n (b := F.1 1) (u := sTw (F.2 0 (F.1 1)) (F.1 4)) (v := F.2 1 (F.1 1)) hF0 hR hz hz (sML_5 (sWayL_y5 (F := F) (show ¬ sOn F from fun q => by rcases q with q | q; exact hg q; have := sD_0.mp q; omega) (show ¬ eAbs (F.1 5 - F.2 1 (F.1 1)) ≤ eAbs (F.1 4 - F.2 0 (F.1 1)) by omega) h130 (fun q => by have q1 : F.1 4 - F.2 0 (F.1 1) = 0 → False := fun r => q.1 (Iff.mpr sx r); first | exact absurd q.2 hz | exact q1 (by omega))))))
        · refine e_iconst dX7_leads_85 rfl ?_
          refine e_goto (n := 90) dX7_leads_86 rfl ?_
          refine f_istore dX7_leads_90 rfl (Nat.le_of_ble_eq_true rfl) rfl ?_
          refine e_iload dX7_leads_92 rfl rfl ?_
          refine e_if_eq (t := 113) dX7_leads_94 rfl rfl (by decide) (fun h => absurd h (by decide)) (fun _ => ?_)
          refine e_aload_n dX7_leads_97 rfl rfl ?_
          refine e_iload_n dX7_leads_98 rfl rfl ?_
          refine e_iload_n dX7_leads_99 rfl rfl ?_
          refine e_iload dX7_leads_100 rfl rfl ?_
          refine e_cS0 [] lk_X7_89 rfl dX7_leads_102 rfl (C_X7_toward (by omega)) rfl rfl (Nat.le_of_ble_eq_true rfl) (Nat.le_of_ble_eq_true rfl) (Nat.le_of_ble_eq_true rfl) ⟨rfl, rfl⟩ rfl rfl  ?_
          refine e_iadd dX7_leads_105 rfl ?_
          refine EV.eq (st' := [vi (sTw (F.2 0 (F.1 1)) (F.1 4)), vi (F.1 1), .ref (a 0)]) (by rw [tow] <;> rfl) ?_
          refine e_iload_n dX7_leads_106 rfl rfl ?_
          refine e_cV2 [0, 1, 2, 3, 4, 5] lk_X7_92 rfl dX7_leads_107 rfl (C_X7_goes hF0 hR hL (by omega) (by omega)) rfl rfl (Nat.le_of_ble_eq_true rfl) (Nat.le_of_ble_eq_true rfl) (Nat.le_of_ble_eq_true rfl) ⟨rfl, rfl⟩ rfl rfl rfl rfl rfl rfl rfl rfl ?_
          refine EV.ceq (cs' := wM a (sR M 0 (mGo F (M.2 0) (F.1 1) (sTw (F.2 0 (F.1 1)) (F.1 4)) (F.2 1 (F.1 1))))) rfl ?_
          refine e_goto (n := 126) dX7_leads_110 rfl ?_
          refine f_istore dX7_leads_126 rfl (Nat.le_of_ble_eq_true rfl) rfl ?_
          refine e_iload dX7_leads_128 rfl rfl ?_
          refine e_ifb_ne (t := 158) dX7_leads_130 rfl rfl (fun h130 => ?_) (fun h130 => ?_)
          · refine e_iload dX7_leads_158 rfl rfl ?_
            refine e_ifb_ne (t := 188) dX7_leads_160 rfl rfl (fun h160 => ?_) (fun h160 => ?_)
            · refine e_aload_n dX7_leads_188 rfl rfl ?_
              refine e_iload dX7_leads_189 rfl rfl ?_
              refine e_cV2 [0, 1, 2, 3, 4, 5] lk_X7_95 rfl dX7_leads_191 rfl C_X7_countedM rfl rfl (Nat.le_of_ble_eq_true rfl) (Nat.le_of_ble_eq_true rfl) (Nat.le_of_ble_eq_true rfl) ⟨rfl, rfl⟩ rfl rfl rfl rfl rfl rfl rfl rfl ?_
              exact e_iret dX7_leads_194 rfl rfl (by exact mCn_y (b := F.1 1) (u := sTw (F.2 0 (F.1 1)) (F.1 4)) (v := F.2 1 (F.1 1)) hF0 hN1 hR hL h130 h130 (sML_1 (sWayL_x1 (F := F) (show ¬ sOn F from fun q => by rcases q with q | q; exact hg q; have := sD_0.mp q; omega) (show eAbs (F.1 5 - F.2 1 (F.1 1)) ≤ eAbs (F.1 4 - F.2 0 (F.1 1)) by omega) h130)))
            · exact absurd h130 h160
          · refine e_iload dX7_leads_133 rfl rfl ?_
            refine e_if_eq (t := 158) dX7_leads_135 rfl rfl (by decide) (fun h => absurd h (by decide)) (fun _ => ?_)
            refine e_iload dX7_leads_138 rfl rfl ?_
            refine e_if_eq (t := 158) dX7_leads_140 rfl rfl (by omega) (fun h140 => ?_) (fun h140 => ?_)
            · refine e_iload dX7_leads_158 rfl rfl ?_
              refine e_ifb_ne (t := 188) dX7_leads_160 rfl rfl (fun h160 => ?_) (fun h160 => ?_)
              · exact absurd h160 h130
              · refine e_iload dX7_leads_163 rfl rfl ?_
                refine e_if_ne (t := 188) dX7_leads_165 rfl rfl (by decide) (fun _ => ?_) (fun h => absurd h (by decide))
                refine e_aload_n dX7_leads_188 rfl rfl ?_
                refine e_iload dX7_leads_189 rfl rfl ?_
                refine e_cV2 [0, 1, 2, 3, 4, 5] lk_X7_95 rfl dX7_leads_191 rfl C_X7_countedM rfl rfl (Nat.le_of_ble_eq_true rfl) (Nat.le_of_ble_eq_true rfl) (Nat.le_of_ble_eq_true rfl) ⟨rfl, rfl⟩ rfl rfl rfl rfl rfl rfl rfl rfl ?_
                exact e_iret dX7_leads_194 rfl rfl (by exact mCn_n (b := F.1 1) (u := sTw (F.2 0 (F.1 1)) (F.1 4)) (v := F.2 1 (F.1 1)) hF0 hR h130 h130 (sML_5 (sWayL_x5 (F := F) (show ¬ sOn F from fun q => by rcases q with q | q; exact hg q; have := sD_0.mp q; omega) (show eAbs (F.1 5 - F.2 1 (F.1 1)) ≤ eAbs (F.1 4 - F.2 0 (F.1 1)) by omega) h130 (fun q => by have q1 : F.1 5 - F.2 1 (F.1 1) = 0 → False := fun r => q.1 (Iff.mpr sy r); first | exact absurd q.2 (by assumption) | exact q1 (by omega)))))
            · refine e_aload_n dX7_leads_143 rfl rfl ?_
              refine e_iload_n dX7_leads_144 rfl rfl ?_
              refine e_iload_n dX7_leads_145 rfl rfl ?_
              refine e_iload_n dX7_leads_146 rfl rfl ?_
              refine e_iload dX7_leads_147 rfl rfl ?_
              refine e_cS0 [] lk_X7_89 rfl dX7_leads_149 rfl (C_X7_toward (by omega)) rfl rfl (Nat.le_of_ble_eq_true rfl) (Nat.le_of_ble_eq_true rfl) (Nat.le_of_ble_eq_true rfl) ⟨rfl, rfl⟩ rfl rfl  ?_
              refine e_iadd dX7_leads_152 rfl ?_
              refine EV.eq (st' := [vi (sTw (F.2 1 (F.1 1)) (F.1 5)), vi (F.2 0 (F.1 1)), vi (F.1 1), .ref (a 0)]) (by rw [tow] <;> rfl) ?_
              refine EV.ceq (cs' := wM a M) (by unfold mGo; rw [if_neg h130] <;> rfl) ?_
              refine e_cV2 [0, 1, 2, 3, 4, 5] lk_X7_92 rfl dX7_leads_153 rfl (C_X7_goes hF0 hR hL (by omega) (by omega)) rfl rfl (Nat.le_of_ble_eq_true rfl) (Nat.le_of_ble_eq_true rfl) (Nat.le_of_ble_eq_true rfl) ⟨rfl, rfl⟩ rfl rfl rfl rfl rfl rfl rfl rfl ?_
              refine EV.ceq (cs' := wM a (sR M 0 (mGo F (M.2 0) (F.1 1) (F.2 0 (F.1 1)) (sTw (F.2 1 (F.1 1)) (F.1 5))))) rfl ?_
              refine f_istore dX7_leads_156 rfl (Nat.le_of_ble_eq_true rfl) rfl ?_
              refine e_iload dX7_leads_158 rfl rfl ?_
              refine e_ifb_ne (t := 188) dX7_leads_160 rfl rfl (fun h160 => ?_) (fun h160 => ?_)
              · refine e_aload_n dX7_leads_188 rfl rfl ?_
                refine e_iload dX7_leads_189 rfl rfl ?_
                refine e_cV2 [0, 1, 2, 3, 4, 5] lk_X7_95 rfl dX7_leads_191 rfl C_X7_countedM rfl rfl (Nat.le_of_ble_eq_true rfl) (Nat.le_of_ble_eq_true rfl) (Nat.le_of_ble_eq_true rfl) ⟨rfl, rfl⟩ rfl rfl rfl rfl rfl rfl rfl rfl ?_
                exact e_iret dX7_leads_194 rfl rfl (by (by_cases hz : sPos F (F.1 1) (F.2 0 (F.1 1)) (sTw (F.2 1 (F.1 1)) (F.1 5)); exact mCn_y (b := F.1 1) (u := F.2 0 (F.1 1)) (v := sTw (F.2 1 (F.1 1)) (F.1 5)) hF0 hN1 hR hL hz hz (sML_2 (sWayL_x2 (F := F) (show ¬ sOn F from fun q => by rcases q with q | q; exact hg q; have := sD_0.mp q; omega) (show eAbs (F.1 5 - F.2 1 (F.1 1)) ≤ eAbs (F.1 4 - F.2 0 (F.1 1)) by omega) h130 ⟨(fun q => absurd (Iff.mp sy q) (by omega)), hz⟩)); exact mCn_n (b := F.1 1) (u := F.2 0 (F.1 1)) (v := sTw (F.2 1 (F.1 1)) (F.1 5)) hF0 hR hz hz (sML_5 (sWayL_x5 (F := F) (show ¬ sOn F from fun q => by rcases q with q | q; exact hg q; have := sD_0.mp q; omega) (show eAbs (F.1 5 - F.2 1 (F.1 1)) ≤ eAbs (F.1 4 - F.2 0 (F.1 1)) by omega) h130 (fun q => by have q1 : F.1 5 - F.2 1 (F.1 1) = 0 → False := fun r => q.1 (Iff.mpr sy r); first | exact absurd q.2 hz | exact q1 (by omega))))))
              · refine e_iload dX7_leads_163 rfl rfl ?_
                refine e_if_ne (t := 188) dX7_leads_165 rfl rfl (by decide) (fun _ => ?_) (fun h => absurd h (by decide))
                refine e_aload_n dX7_leads_188 rfl rfl ?_
                refine e_iload dX7_leads_189 rfl rfl ?_
                refine e_cV2 [0, 1, 2, 3, 4, 5] lk_X7_95 rfl dX7_leads_191 rfl C_X7_countedM rfl rfl (Nat.le_of_ble_eq_true rfl) (Nat.le_of_ble_eq_true rfl) (Nat.le_of_ble_eq_true rfl) ⟨rfl, rfl⟩ rfl rfl rfl rfl rfl rfl rfl rfl ?_
                exact e_iret dX7_leads_194 rfl rfl (by (by_cases hz : sPos F (F.1 1) (F.2 0 (F.1 1)) (sTw (F.2 1 (F.1 1)) (F.1 5)); exact mCn_y (b := F.1 1) (u := F.2 0 (F.1 1)) (v := sTw (F.2 1 (F.1 1)) (F.1 5)) hF0 hN1 hR hL hz hz (sML_2 (sWayL_x2 (F := F) (show ¬ sOn F from fun q => by rcases q with q | q; exact hg q; have := sD_0.mp q; omega) (show eAbs (F.1 5 - F.2 1 (F.1 1)) ≤ eAbs (F.1 4 - F.2 0 (F.1 1)) by omega) h130 ⟨(fun q => absurd (Iff.mp sy q) (by omega)), hz⟩)); exact mCn_n (b := F.1 1) (u := F.2 0 (F.1 1)) (v := sTw (F.2 1 (F.1 1)) (F.1 5)) hF0 hR hz hz (sML_5 (sWayL_x5 (F := F) (show ¬ sOn F from fun q => by rcases q with q | q; exact hg q; have := sD_0.mp q; omega) (show eAbs (F.1 5 - F.2 1 (F.1 1)) ≤ eAbs (F.1 4 - F.2 0 (F.1 1)) by omega) h130 (fun q => by have q1 : F.1 5 - F.2 1 (F.1 1) = 0 → False := fun r => q.1 (Iff.mpr sy r); first | exact absurd q.2 hz | exact q1 (by omega))))))
      · refine e_iconst dX7_leads_70 rfl ?_
        exact e_iret dX7_leads_71 rfl rfl (mS1_same (N := N) hR (sML_0 (sWayL_0 (F := F) (Or.inr (sD_0.mpr ⟨by omega, by omega⟩)))))
theorem C_X7_leads {X : eXT} {a : Nat → Nat} {N : Int} {F M : eFs} (hF : okF N F) (hR : mR F (M.2 0)) (hN1 : N + 1 ≤ 100000000) (h0 : 1 ≤ F.1 0) : EM X mX7_leads (eRm 5) a [.ref (a 0)] (wM a M) (eRets (some (vi (sMLr F))) a (mS1 a M (sML F))) := by
  by_cases hg : F.1 4 = -1
  · exact C_X7_leads_n hF hR hN1 h0 hg
  · exact C_X7_leads_y hF hR hN1 h0 hg

def folP (F : eFs) (b l : Int) : Prop := (sD F l (F.2 0 b) (F.2 1 b + 1) < sDD F b l ↔ F.2 1 b < F.2 1 l) ∧ (sD F l (F.2 0 b + 1) (F.2 1 b) < sDD F b l ↔ F.2 0 b < F.2 0 l) ∧ (sD F l (F.2 0 b) (F.2 1 b - 1) < sDD F b l ↔ F.2 1 l < F.2 1 b) ∧ (sD F l (F.2 0 b - 1) (F.2 1 b) < sDD F b l ↔ F.2 0 l < F.2 0 b)
theorem fol {N : Int} {F : eFs} (hF : okF N F) {b l : Int} : folP F b l := by
  unfold folP
  have a1 := eAbs_or (F.2 0 b - F.2 0 l)
  have a2 := eAbs_or (F.2 1 b - F.2 1 l)
  have a3 := eAbs_or (F.2 0 l - F.2 0 b)
  have a4 := eAbs_or (F.2 1 l - F.2 1 b)
  have a5 := eAbs_or (F.2 1 l - (F.2 1 b + 1))
  have a6 := eAbs_or (F.2 0 l - (F.2 0 b + 1))
  have a7 := eAbs_or (F.2 1 l - (F.2 1 b - 1))
  have a8 := eAbs_or (F.2 0 l - (F.2 0 b - 1))
  unfold sDD sD
  omega

set_option maxHeartbeats 1000000 in
theorem C_X7_follows {X : eXT} {a : Nat → Nat} {N : Int} {F M : eFs} (hF : okF N F) (hR : mR F (M.2 0)) {b : Int} (hb0 : sHas F b) (hN1 : N + 1 ≤ 100000000) :
    EM X mX7_follows (eRm 5) a [.ref (a 0), vi b] (wM a M) (eRets (some (vi (sMFr F b))) a (mS1 a M (sMF F b))) := by
  refine EM.of (by decide +kernel) rfl (Nat.le_of_ble_eq_true rfl) ?_
  have hF0 := hF
  obtain ⟨hc, hld, hled, htn, hgo, hkp, hst, hwt, hcl, hsh, hnx, hN, rx, ry, rh, rm, rc, rw9⟩ := hF
  obtain ⟨⟨n0, n1, n2, n3, n4, n5, n6, n7, n8, n9⟩, hb, hcd, hss⟩ := id hR
  have hL : sHas F (F.1 1) := by omega
  have hbb := hb b (by omega) (by omega)
  have fw := fol hF0 (b := b) (l := F.1 1)
  have r0 := rx b
  have r1 := ry b
  clear hled htn hgo hst hwt hcl hsh hnx n3 n4 n5 n7 n8 n9 hN hld
  refine e_aload_n dX7_follows_0 rfl rfl ?_
  refine e_getfield fd_X7_9 dX7_follows_1 rfl rfl rfl rfl ?_
  refine e_iconst dX7_follows_4 rfl ?_
  refine e_iaload dX7_follows_5 rfl rfl rfl (by omega) (by decide) ?_
  refine EV.eq (st' := [vi (F.1 1)]) (by rw [n2]) ?_
  refine f_istore_n dX7_follows_6 rfl (Nat.le_of_ble_eq_true rfl) rfl ?_
  refine e_aload_n dX7_follows_7 rfl rfl ?_
  refine e_iload_n dX7_follows_8 rfl rfl ?_
  refine e_iload_n dX7_follows_9 rfl rfl ?_
  refine e_cV0 [0, 1, 2, 3, 4, 5] lk_X7_99 rfl dX7_follows_10 rfl (C_X7_apart hF0 hR (by omega) (by omega)) rfl rfl (Nat.le_of_ble_eq_true rfl) (Nat.le_of_ble_eq_true rfl) (Nat.le_of_ble_eq_true rfl) ⟨rfl, rfl⟩ rfl rfl rfl rfl rfl rfl  ?_
  have ud := sDD_in hF0 b (F.1 1)
  refine f_istore_n dX7_follows_13 rfl (Nat.le_of_ble_eq_true rfl) rfl ?_
  refine e_aload_n dX7_follows_14 rfl rfl ?_
  refine e_iload_n dX7_follows_15 rfl rfl ?_
  refine e_iconst dX7_follows_16 rfl ?_
  refine e_cV0 [0, 1, 2, 3, 4, 5] lk_X7_50 rfl dX7_follows_17 rfl (C_X7_b (by omega) (by omega)) rfl rfl (Nat.le_of_ble_eq_true rfl) (Nat.le_of_ble_eq_true rfl) (Nat.le_of_ble_eq_true rfl) ⟨rfl, rfl⟩ rfl rfl rfl rfl rfl rfl  ?_
  refine EV.eq (st' := [vi (F.2 0 b)]) (by rw [hbb.1]) ?_
  refine f_istore dX7_follows_20 rfl (Nat.le_of_ble_eq_true rfl) rfl ?_
  refine e_aload_n dX7_follows_22 rfl rfl ?_
  refine e_iload_n dX7_follows_23 rfl rfl ?_
  refine e_iconst dX7_follows_24 rfl ?_
  refine e_cV0 [0, 1, 2, 3, 4, 5] lk_X7_50 rfl dX7_follows_25 rfl (C_X7_b (by omega) (by omega)) rfl rfl (Nat.le_of_ble_eq_true rfl) (Nat.le_of_ble_eq_true rfl) (Nat.le_of_ble_eq_true rfl) ⟨rfl, rfl⟩ rfl rfl rfl rfl rfl rfl  ?_
  refine EV.eq (st' := [vi (F.2 1 b)]) (by rw [hbb.2.1]) ?_
  refine f_istore dX7_follows_28 rfl (Nat.le_of_ble_eq_true rfl) rfl ?_
  refine e_iload_n dX7_follows_30 rfl rfl ?_
  refine e_iload_n dX7_follows_31 rfl rfl ?_
  refine e_icmp_eq (t := 46) dX7_follows_32 rfl rfl (by omega) (by omega) (fun h32 => ?_) (fun h32 => ?_)
  · refine e_iconst dX7_follows_46 rfl ?_
    exact e_iret dX7_follows_47 rfl rfl (mS1_same (N := N) hR (sMF_0 (sWay_0 (F := F) (b := b) (by omega))))
  · refine e_iload_n dX7_follows_35 rfl rfl ?_
    refine e_aload_n dX7_follows_36 rfl rfl ?_
    refine e_getfield fd_X7_9 dX7_follows_37 rfl rfl rfl rfl ?_
    refine e_bipush dX7_follows_40 rfl rfl ?_
    refine e_iaload dX7_follows_42 rfl rfl rfl (by omega) (by decide) ?_
    refine e_icmp_gt (t := 48) dX7_follows_43 rfl rfl (by omega) (by omega) (fun h43 => ?_) (fun h43 => ?_)
    · refine e_iconst dX7_follows_48 rfl ?_
      refine f_istore dX7_follows_49 rfl (Nat.le_of_ble_eq_true rfl) rfl ?_
      refine e_iconst dX7_follows_51 rfl ?_
      refine f_istore dX7_follows_52 rfl (Nat.le_of_ble_eq_true rfl) rfl ?_
      have hW4 : ∀ (n0 : ¬ (F.2 1 b < F.2 1 (F.1 1) ∧ sPos F b (F.2 0 b) (F.2 1 b + 1))) (n1 : ¬ (F.2 0 b < F.2 0 (F.1 1) ∧ sPos F b (F.2 0 b + 1) (F.2 1 b))) (n2 : ¬ (F.2 1 (F.1 1) < F.2 1 b ∧ sPos F b (F.2 0 b) (F.2 1 b - 1))) (n3 : ¬ (F.2 0 (F.1 1) < F.2 0 b ∧ sPos F b (F.2 0 b - 1) (F.2 1 b))), EV (mX7_follows, (eRm 5), eRets (some (vi (sMFr F b))) a (mS1 a M (sMF F b)), X) a (0, 0) (wM a M) 54 [some (.ref (a 0)), some (vi b), some (vi (F.1 1)), some (vi (sDD F b (F.1 1))), some (vi (F.2 0 b)), some (vi (F.2 1 b)), some (vi 0), some (vi 4), none, none] [] := by
        intro n0 n1 n2 n3
        refine e_iload dX7_follows_54 rfl rfl ?_
        refine e_iconst dX7_follows_56 rfl ?_
        refine e_icmp_ge (t := 162) dX7_follows_57 rfl rfl (by decide) (by decide) (fun _ => ?_) (fun h => absurd h (by decide))
        refine e_aload_n dX7_follows_162 rfl rfl ?_
        refine e_iload dX7_follows_163 rfl rfl ?_
        refine e_cV2 [0, 1, 2, 3, 4, 5] lk_X7_95 rfl dX7_follows_165 rfl (C_X7_countedM (c := False)) rfl rfl (Nat.le_of_ble_eq_true rfl) (Nat.le_of_ble_eq_true rfl) (Nat.le_of_ble_eq_true rfl) ⟨rfl, rfl⟩ rfl rfl rfl rfl rfl rfl rfl rfl ?_
        
        exact e_iret dX7_follows_168 rfl rfl (mCn_w (c := False) hF0 hR (fun h => h) (sMF_5 (sWay_5 (F := F) (b := b) (show ¬ sStay F b by omega) n0 n1 n2 n3)))
      have hW3 : ∀ (n0 : ¬ (F.2 1 b < F.2 1 (F.1 1) ∧ sPos F b (F.2 0 b) (F.2 1 b + 1))) (n1 : ¬ (F.2 0 b < F.2 0 (F.1 1) ∧ sPos F b (F.2 0 b + 1) (F.2 1 b))) (n2 : ¬ (F.2 1 (F.1 1) < F.2 1 b ∧ sPos F b (F.2 0 b) (F.2 1 b - 1))), EV (mX7_follows, (eRm 5), eRets (some (vi (sMFr F b))) a (mS1 a M (sMF F b)), X) a (0, 0) (wM a M) 54 [some (.ref (a 0)), some (vi b), some (vi (F.1 1)), some (vi (sDD F b (F.1 1))), some (vi (F.2 0 b)), some (vi (F.2 1 b)), some (vi 0), some (vi 3), none, none] [] := by
        intro n0 n1 n2
        refine e_iload dX7_follows_54 rfl rfl ?_
        refine e_iconst dX7_follows_56 rfl ?_
        refine e_icmp_ge (t := 162) dX7_follows_57 rfl rfl (by decide) (by decide) (fun h => absurd h (by decide)) (fun _ => ?_)
        refine e_iload dX7_follows_60 rfl rfl ?_
        refine e_if_ne (t := 162) dX7_follows_62 rfl rfl (by decide) (fun h => absurd h (by decide)) (fun _ => ?_)
        refine e_iload dX7_follows_65 rfl rfl ?_
        refine e_iconst dX7_follows_67 rfl ?_
        refine e_icmp_ne (t := 78) dX7_follows_68 rfl rfl (by decide) (by decide) (fun _ => ?_) (fun h => absurd h (by decide))
        refine e_iload dX7_follows_78 rfl rfl ?_
        refine e_iconst dX7_follows_80 rfl ?_
        refine e_icmp_ne (t := 91) dX7_follows_81 rfl rfl (by decide) (by decide) (fun h => absurd h (by decide)) (fun _ => ?_)
        refine e_iload dX7_follows_84 rfl rfl ?_
        refine e_iconst dX7_follows_86 rfl ?_
        refine e_isub dX7_follows_87 rfl ?_
        refine e_goto (n := 93) dX7_follows_88 rfl ?_
        refine f_istore dX7_follows_93 rfl (Nat.le_of_ble_eq_true rfl) rfl ?_
        refine e_iload dX7_follows_95 rfl rfl ?_
        refine e_if_ne (t := 107) dX7_follows_97 rfl rfl (by decide) (fun _ => ?_) (fun h => absurd h (by decide))
        refine e_iload dX7_follows_107 rfl rfl ?_
        refine e_iconst dX7_follows_109 rfl ?_
        refine e_icmp_ne (t := 120) dX7_follows_110 rfl rfl (by decide) (by decide) (fun _ => ?_) (fun h => absurd h (by decide))
        refine e_iload dX7_follows_120 rfl rfl ?_
        refine f_istore dX7_follows_122 rfl (Nat.le_of_ble_eq_true rfl) rfl ?_
        refine e_aload_n dX7_follows_124 rfl rfl ?_
        refine e_iload_n dX7_follows_125 rfl rfl ?_
        refine e_iload dX7_follows_126 rfl rfl ?_
        refine e_iload dX7_follows_128 rfl rfl ?_
        refine e_cV0 [0, 1, 2, 3, 4, 5] lk_X7_58 rfl dX7_follows_130 rfl (C_X7_far hF0 hR hL (by omega) (by omega)) rfl rfl (Nat.le_of_ble_eq_true rfl) (Nat.le_of_ble_eq_true rfl) (Nat.le_of_ble_eq_true rfl) ⟨rfl, rfl⟩ rfl rfl rfl rfl rfl rfl  ?_
        have ue := sD_w hF0 (F.1 1) (F.2 0 b - 1) (F.2 1 b) (by omega) (by omega)
        refine e_iload_n dX7_follows_133 rfl rfl ?_
        refine e_icmp_ge (t := 153) dX7_follows_134 rfl rfl (by omega) (by omega) (fun h134 => ?_) (fun h134 => ?_)
        · have n3 : ¬ (F.2 0 (F.1 1) < F.2 0 b ∧ sPos F b (F.2 0 b - 1) (F.2 1 b)) := fun q => absurd (fw.2.2.2.mpr q.1) (by omega)
          refine e_iconst dX7_follows_153 rfl ?_
          refine f_istore dX7_follows_154 rfl (Nat.le_of_ble_eq_true rfl) rfl ?_
          refine f_iinc dX7_follows_156 rfl rfl (Nat.le_of_ble_eq_true rfl) rfl ?_
          refine e_goto (n := 54) dX7_follows_159 rfl ?_
          refine EV.fgt 8 ?_
          refine EV.fgt 9 ?_
          exact hW4 n0 n1 n2 n3
        · refine e_aload_n dX7_follows_137 rfl rfl ?_
          refine e_iload_n dX7_follows_138 rfl rfl ?_
          refine e_iload dX7_follows_139 rfl rfl ?_
          refine e_iload dX7_follows_141 rfl rfl ?_
          refine e_cV2 [0, 1, 2, 3, 4, 5] lk_X7_92 rfl dX7_follows_143 rfl (C_X7_goes hF0 hR hb0 (by omega) (by omega)) rfl rfl (Nat.le_of_ble_eq_true rfl) (Nat.le_of_ble_eq_true rfl) (Nat.le_of_ble_eq_true rfl) ⟨rfl, rfl⟩ rfl rfl rfl rfl rfl rfl rfl rfl ?_
          refine e_ifb_eq (t := 153) dX7_follows_146 rfl rfl (fun h146 => ?_) (fun h146 => ?_)
          · have n3 : ¬ (F.2 0 (F.1 1) < F.2 0 b ∧ sPos F b (F.2 0 b - 1) (F.2 1 b)) := fun q => h146 q.2
            refine EV.ceq (cs' := wM a M) (by unfold mGo; rw [if_neg h146] <;> rfl) ?_
            refine e_iconst dX7_follows_153 rfl ?_
            refine f_istore dX7_follows_154 rfl (Nat.le_of_ble_eq_true rfl) rfl ?_
            refine f_iinc dX7_follows_156 rfl rfl (Nat.le_of_ble_eq_true rfl) rfl ?_
            refine e_goto (n := 54) dX7_follows_159 rfl ?_
            refine EV.fgt 8 ?_
            refine EV.fgt 9 ?_
            exact hW4 n0 n1 n2 n3
          · have y3 : F.2 0 (F.1 1) < F.2 0 b ∧ sPos F b (F.2 0 b - 1) (F.2 1 b) := ⟨fw.2.2.2.mp (by omega), h146⟩
            refine e_iconst dX7_follows_149 rfl ?_
            refine e_goto (n := 154) dX7_follows_150 rfl ?_
            refine f_istore dX7_follows_154 rfl (Nat.le_of_ble_eq_true rfl) rfl ?_
            refine f_iinc dX7_follows_156 rfl rfl (Nat.le_of_ble_eq_true rfl) rfl ?_
            refine e_goto (n := 54) dX7_follows_159 rfl ?_
            refine e_iload dX7_follows_54 rfl rfl ?_
            refine e_iconst dX7_follows_56 rfl ?_
            refine e_icmp_ge (t := 162) dX7_follows_57 rfl rfl (by decide) (by decide) (fun _ => ?_) (fun h => absurd h (by decide))
            refine e_aload_n dX7_follows_162 rfl rfl ?_
            refine e_iload dX7_follows_163 rfl rfl ?_
            refine e_cV2 [0, 1, 2, 3, 4, 5] lk_X7_95 rfl dX7_follows_165 rfl (C_X7_countedM (c := True)) rfl rfl (Nat.le_of_ble_eq_true rfl) (Nat.le_of_ble_eq_true rfl) (Nat.le_of_ble_eq_true rfl) ⟨rfl, rfl⟩ rfl rfl rfl rfl rfl rfl rfl rfl ?_
            
            exact e_iret dX7_follows_168 rfl rfl (mCn_y (c := True) (b := b) (u := F.2 0 b - 1) (v := F.2 1 b) hF0 hN1 hR hb0 trivial y3.2 (sMF_4 (sWay_4 (F := F) (b := b) (show ¬ sStay F b by omega) n0 n1 n2 y3)))
      have hW2 : ∀ (n0 : ¬ (F.2 1 b < F.2 1 (F.1 1) ∧ sPos F b (F.2 0 b) (F.2 1 b + 1))) (n1 : ¬ (F.2 0 b < F.2 0 (F.1 1) ∧ sPos F b (F.2 0 b + 1) (F.2 1 b))), EV (mX7_follows, (eRm 5), eRets (some (vi (sMFr F b))) a (mS1 a M (sMF F b)), X) a (0, 0) (wM a M) 54 [some (.ref (a 0)), some (vi b), some (vi (F.1 1)), some (vi (sDD F b (F.1 1))), some (vi (F.2 0 b)), some (vi (F.2 1 b)), some (vi 0), some (vi 2), none, none] [] := by
        intro n0 n1
        refine e_iload dX7_follows_54 rfl rfl ?_
        refine e_iconst dX7_follows_56 rfl ?_
        refine e_icmp_ge (t := 162) dX7_follows_57 rfl rfl (by decide) (by decide) (fun h => absurd h (by decide)) (fun _ => ?_)
        refine e_iload dX7_follows_60 rfl rfl ?_
        refine e_if_ne (t := 162) dX7_follows_62 rfl rfl (by decide) (fun h => absurd h (by decide)) (fun _ => ?_)
        refine e_iload dX7_follows_65 rfl rfl ?_
        refine e_iconst dX7_follows_67 rfl ?_
        refine e_icmp_ne (t := 78) dX7_follows_68 rfl rfl (by decide) (by decide) (fun _ => ?_) (fun h => absurd h (by decide))
        refine e_iload dX7_follows_78 rfl rfl ?_
        refine e_iconst dX7_follows_80 rfl ?_
        refine e_icmp_ne (t := 91) dX7_follows_81 rfl rfl (by decide) (by decide) (fun _ => ?_) (fun h => absurd h (by decide))
        refine e_iload dX7_follows_91 rfl rfl ?_
        refine f_istore dX7_follows_93 rfl (Nat.le_of_ble_eq_true rfl) rfl ?_
        refine e_iload dX7_follows_95 rfl rfl ?_
        refine e_if_ne (t := 107) dX7_follows_97 rfl rfl (by decide) (fun _ => ?_) (fun h => absurd h (by decide))
        refine e_iload dX7_follows_107 rfl rfl ?_
        refine e_iconst dX7_follows_109 rfl ?_
        refine e_icmp_ne (t := 120) dX7_follows_110 rfl rfl (by decide) (by decide) (fun h => absurd h (by decide)) (fun _ => ?_)
        refine e_iload dX7_follows_113 rfl rfl ?_
        refine e_iconst dX7_follows_115 rfl ?_
        refine e_isub dX7_follows_116 rfl ?_
        refine e_goto (n := 122) dX7_follows_117 rfl ?_
        refine f_istore dX7_follows_122 rfl (Nat.le_of_ble_eq_true rfl) rfl ?_
        refine e_aload_n dX7_follows_124 rfl rfl ?_
        refine e_iload_n dX7_follows_125 rfl rfl ?_
        refine e_iload dX7_follows_126 rfl rfl ?_
        refine e_iload dX7_follows_128 rfl rfl ?_
        refine e_cV0 [0, 1, 2, 3, 4, 5] lk_X7_58 rfl dX7_follows_130 rfl (C_X7_far hF0 hR hL (by omega) (by omega)) rfl rfl (Nat.le_of_ble_eq_true rfl) (Nat.le_of_ble_eq_true rfl) (Nat.le_of_ble_eq_true rfl) ⟨rfl, rfl⟩ rfl rfl rfl rfl rfl rfl  ?_
        have ue := sD_w hF0 (F.1 1) (F.2 0 b) (F.2 1 b - 1) (by omega) (by omega)
        refine e_iload_n dX7_follows_133 rfl rfl ?_
        refine e_icmp_ge (t := 153) dX7_follows_134 rfl rfl (by omega) (by omega) (fun h134 => ?_) (fun h134 => ?_)
        · have n2 : ¬ (F.2 1 (F.1 1) < F.2 1 b ∧ sPos F b (F.2 0 b) (F.2 1 b - 1)) := fun q => absurd (fw.2.2.1.mpr q.1) (by omega)
          refine e_iconst dX7_follows_153 rfl ?_
          refine f_istore dX7_follows_154 rfl (Nat.le_of_ble_eq_true rfl) rfl ?_
          refine f_iinc dX7_follows_156 rfl rfl (Nat.le_of_ble_eq_true rfl) rfl ?_
          refine e_goto (n := 54) dX7_follows_159 rfl ?_
          refine EV.fgt 8 ?_
          refine EV.fgt 9 ?_
          exact hW3 n0 n1 n2
        · refine e_aload_n dX7_follows_137 rfl rfl ?_
          refine e_iload_n dX7_follows_138 rfl rfl ?_
          refine e_iload dX7_follows_139 rfl rfl ?_
          refine e_iload dX7_follows_141 rfl rfl ?_
          refine e_cV2 [0, 1, 2, 3, 4, 5] lk_X7_92 rfl dX7_follows_143 rfl (C_X7_goes hF0 hR hb0 (by omega) (by omega)) rfl rfl (Nat.le_of_ble_eq_true rfl) (Nat.le_of_ble_eq_true rfl) (Nat.le_of_ble_eq_true rfl) ⟨rfl, rfl⟩ rfl rfl rfl rfl rfl rfl rfl rfl ?_
          refine e_ifb_eq (t := 153) dX7_follows_146 rfl rfl (fun h146 => ?_) (fun h146 => ?_)
          · have n2 : ¬ (F.2 1 (F.1 1) < F.2 1 b ∧ sPos F b (F.2 0 b) (F.2 1 b - 1)) := fun q => h146 q.2
            refine EV.ceq (cs' := wM a M) (by unfold mGo; rw [if_neg h146] <;> rfl) ?_
            refine e_iconst dX7_follows_153 rfl ?_
            refine f_istore dX7_follows_154 rfl (Nat.le_of_ble_eq_true rfl) rfl ?_
            refine f_iinc dX7_follows_156 rfl rfl (Nat.le_of_ble_eq_true rfl) rfl ?_
            refine e_goto (n := 54) dX7_follows_159 rfl ?_
            refine EV.fgt 8 ?_
            refine EV.fgt 9 ?_
            exact hW3 n0 n1 n2
          · have y2 : F.2 1 (F.1 1) < F.2 1 b ∧ sPos F b (F.2 0 b) (F.2 1 b - 1) := ⟨fw.2.2.1.mp (by omega), h146⟩
            refine e_iconst dX7_follows_149 rfl ?_
            refine e_goto (n := 154) dX7_follows_150 rfl ?_
            refine f_istore dX7_follows_154 rfl (Nat.le_of_ble_eq_true rfl) rfl ?_
            refine f_iinc dX7_follows_156 rfl rfl (Nat.le_of_ble_eq_true rfl) rfl ?_
            refine e_goto (n := 54) dX7_follows_159 rfl ?_
            refine e_iload dX7_follows_54 rfl rfl ?_
            refine e_iconst dX7_follows_56 rfl ?_
            refine e_icmp_ge (t := 162) dX7_follows_57 rfl rfl (by decide) (by decide) (fun h => absurd h (by decide)) (fun _ => ?_)
            refine e_iload dX7_follows_60 rfl rfl ?_
            refine e_if_ne (t := 162) dX7_follows_62 rfl rfl (by decide) (fun _ => ?_) (fun h => absurd h (by decide))
            refine e_aload_n dX7_follows_162 rfl rfl ?_
            refine e_iload dX7_follows_163 rfl rfl ?_
            refine e_cV2 [0, 1, 2, 3, 4, 5] lk_X7_95 rfl dX7_follows_165 rfl (C_X7_countedM (c := True)) rfl rfl (Nat.le_of_ble_eq_true rfl) (Nat.le_of_ble_eq_true rfl) (Nat.le_of_ble_eq_true rfl) ⟨rfl, rfl⟩ rfl rfl rfl rfl rfl rfl rfl rfl ?_
            
            exact e_iret dX7_follows_168 rfl rfl (mCn_y (c := True) (b := b) (u := F.2 0 b) (v := F.2 1 b - 1) hF0 hN1 hR hb0 trivial y2.2 (sMF_3 (sWay_3 (F := F) (b := b) (show ¬ sStay F b by omega) n0 n1 y2)))
      have hW1 : ∀ (n0 : ¬ (F.2 1 b < F.2 1 (F.1 1) ∧ sPos F b (F.2 0 b) (F.2 1 b + 1))), EV (mX7_follows, (eRm 5), eRets (some (vi (sMFr F b))) a (mS1 a M (sMF F b)), X) a (0, 0) (wM a M) 54 [some (.ref (a 0)), some (vi b), some (vi (F.1 1)), some (vi (sDD F b (F.1 1))), some (vi (F.2 0 b)), some (vi (F.2 1 b)), some (vi 0), some (vi 1), none, none] [] := by
        intro n0
        refine e_iload dX7_follows_54 rfl rfl ?_
        refine e_iconst dX7_follows_56 rfl ?_
        refine e_icmp_ge (t := 162) dX7_follows_57 rfl rfl (by decide) (by decide) (fun h => absurd h (by decide)) (fun _ => ?_)
        refine e_iload dX7_follows_60 rfl rfl ?_
        refine e_if_ne (t := 162) dX7_follows_62 rfl rfl (by decide) (fun h => absurd h (by decide)) (fun _ => ?_)
        refine e_iload dX7_follows_65 rfl rfl ?_
        refine e_iconst dX7_follows_67 rfl ?_
        refine e_icmp_ne (t := 78) dX7_follows_68 rfl rfl (by decide) (by decide) (fun h => absurd h (by decide)) (fun _ => ?_)
        refine e_iload dX7_follows_71 rfl rfl ?_
        refine e_iconst dX7_follows_73 rfl ?_
        refine e_iadd dX7_follows_74 rfl ?_
        refine e_goto (n := 93) dX7_follows_75 rfl ?_
        refine f_istore dX7_follows_93 rfl (Nat.le_of_ble_eq_true rfl) rfl ?_
        refine e_iload dX7_follows_95 rfl rfl ?_
        refine e_if_ne (t := 107) dX7_follows_97 rfl rfl (by decide) (fun _ => ?_) (fun h => absurd h (by decide))
        refine e_iload dX7_follows_107 rfl rfl ?_
        refine e_iconst dX7_follows_109 rfl ?_
        refine e_icmp_ne (t := 120) dX7_follows_110 rfl rfl (by decide) (by decide) (fun _ => ?_) (fun h => absurd h (by decide))
        refine e_iload dX7_follows_120 rfl rfl ?_
        refine f_istore dX7_follows_122 rfl (Nat.le_of_ble_eq_true rfl) rfl ?_
        refine e_aload_n dX7_follows_124 rfl rfl ?_
        refine e_iload_n dX7_follows_125 rfl rfl ?_
        refine e_iload dX7_follows_126 rfl rfl ?_
        refine e_iload dX7_follows_128 rfl rfl ?_
        refine e_cV0 [0, 1, 2, 3, 4, 5] lk_X7_58 rfl dX7_follows_130 rfl (C_X7_far hF0 hR hL (by omega) (by omega)) rfl rfl (Nat.le_of_ble_eq_true rfl) (Nat.le_of_ble_eq_true rfl) (Nat.le_of_ble_eq_true rfl) ⟨rfl, rfl⟩ rfl rfl rfl rfl rfl rfl  ?_
        have ue := sD_w hF0 (F.1 1) (F.2 0 b + 1) (F.2 1 b) (by omega) (by omega)
        refine e_iload_n dX7_follows_133 rfl rfl ?_
        refine e_icmp_ge (t := 153) dX7_follows_134 rfl rfl (by omega) (by omega) (fun h134 => ?_) (fun h134 => ?_)
        · have n1 : ¬ (F.2 0 b < F.2 0 (F.1 1) ∧ sPos F b (F.2 0 b + 1) (F.2 1 b)) := fun q => absurd (fw.2.1.mpr q.1) (by omega)
          refine e_iconst dX7_follows_153 rfl ?_
          refine f_istore dX7_follows_154 rfl (Nat.le_of_ble_eq_true rfl) rfl ?_
          refine f_iinc dX7_follows_156 rfl rfl (Nat.le_of_ble_eq_true rfl) rfl ?_
          refine e_goto (n := 54) dX7_follows_159 rfl ?_
          refine EV.fgt 8 ?_
          refine EV.fgt 9 ?_
          exact hW2 n0 n1
        · refine e_aload_n dX7_follows_137 rfl rfl ?_
          refine e_iload_n dX7_follows_138 rfl rfl ?_
          refine e_iload dX7_follows_139 rfl rfl ?_
          refine e_iload dX7_follows_141 rfl rfl ?_
          refine e_cV2 [0, 1, 2, 3, 4, 5] lk_X7_92 rfl dX7_follows_143 rfl (C_X7_goes hF0 hR hb0 (by omega) (by omega)) rfl rfl (Nat.le_of_ble_eq_true rfl) (Nat.le_of_ble_eq_true rfl) (Nat.le_of_ble_eq_true rfl) ⟨rfl, rfl⟩ rfl rfl rfl rfl rfl rfl rfl rfl ?_
          refine e_ifb_eq (t := 153) dX7_follows_146 rfl rfl (fun h146 => ?_) (fun h146 => ?_)
          · have n1 : ¬ (F.2 0 b < F.2 0 (F.1 1) ∧ sPos F b (F.2 0 b + 1) (F.2 1 b)) := fun q => h146 q.2
            refine EV.ceq (cs' := wM a M) (by unfold mGo; rw [if_neg h146] <;> rfl) ?_
            refine e_iconst dX7_follows_153 rfl ?_
            refine f_istore dX7_follows_154 rfl (Nat.le_of_ble_eq_true rfl) rfl ?_
            refine f_iinc dX7_follows_156 rfl rfl (Nat.le_of_ble_eq_true rfl) rfl ?_
            refine e_goto (n := 54) dX7_follows_159 rfl ?_
            refine EV.fgt 8 ?_
            refine EV.fgt 9 ?_
            exact hW2 n0 n1
          · have y1 : F.2 0 b < F.2 0 (F.1 1) ∧ sPos F b (F.2 0 b + 1) (F.2 1 b) := ⟨fw.2.1.mp (by omega), h146⟩
            refine e_iconst dX7_follows_149 rfl ?_
            refine e_goto (n := 154) dX7_follows_150 rfl ?_
            refine f_istore dX7_follows_154 rfl (Nat.le_of_ble_eq_true rfl) rfl ?_
            refine f_iinc dX7_follows_156 rfl rfl (Nat.le_of_ble_eq_true rfl) rfl ?_
            refine e_goto (n := 54) dX7_follows_159 rfl ?_
            refine e_iload dX7_follows_54 rfl rfl ?_
            refine e_iconst dX7_follows_56 rfl ?_
            refine e_icmp_ge (t := 162) dX7_follows_57 rfl rfl (by decide) (by decide) (fun h => absurd h (by decide)) (fun _ => ?_)
            refine e_iload dX7_follows_60 rfl rfl ?_
            refine e_if_ne (t := 162) dX7_follows_62 rfl rfl (by decide) (fun _ => ?_) (fun h => absurd h (by decide))
            refine e_aload_n dX7_follows_162 rfl rfl ?_
            refine e_iload dX7_follows_163 rfl rfl ?_
            refine e_cV2 [0, 1, 2, 3, 4, 5] lk_X7_95 rfl dX7_follows_165 rfl (C_X7_countedM (c := True)) rfl rfl (Nat.le_of_ble_eq_true rfl) (Nat.le_of_ble_eq_true rfl) (Nat.le_of_ble_eq_true rfl) ⟨rfl, rfl⟩ rfl rfl rfl rfl rfl rfl rfl rfl ?_
            
            exact e_iret dX7_follows_168 rfl rfl (mCn_y (c := True) (b := b) (u := F.2 0 b + 1) (v := F.2 1 b) hF0 hN1 hR hb0 trivial y1.2 (sMF_2 (sWay_2 (F := F) (b := b) (show ¬ sStay F b by omega) n0 y1)))
      refine e_iload dX7_follows_54 rfl rfl ?_
      refine e_iconst dX7_follows_56 rfl ?_
      refine e_icmp_ge (t := 162) dX7_follows_57 rfl rfl (by decide) (by decide) (fun h => absurd h (by decide)) (fun _ => ?_)
      refine e_iload dX7_follows_60 rfl rfl ?_
      refine e_if_ne (t := 162) dX7_follows_62 rfl rfl (by decide) (fun h => absurd h (by decide)) (fun _ => ?_)
      refine e_iload dX7_follows_65 rfl rfl ?_
      refine e_iconst dX7_follows_67 rfl ?_
      refine e_icmp_ne (t := 78) dX7_follows_68 rfl rfl (by decide) (by decide) (fun _ => ?_) (fun h => absurd h (by decide))
      refine e_iload dX7_follows_78 rfl rfl ?_
      refine e_iconst dX7_follows_80 rfl ?_
      refine e_icmp_ne (t := 91) dX7_follows_81 rfl rfl (by decide) (by decide) (fun _ => ?_) (fun h => absurd h (by decide))
      refine e_iload dX7_follows_91 rfl rfl ?_
      refine f_istore dX7_follows_93 rfl (Nat.le_of_ble_eq_true rfl) rfl ?_
      refine e_iload dX7_follows_95 rfl rfl ?_
      refine e_if_ne (t := 107) dX7_follows_97 rfl rfl (by decide) (fun h => absurd h (by decide)) (fun _ => ?_)
      refine e_iload dX7_follows_100 rfl rfl ?_
      refine e_iconst dX7_follows_102 rfl ?_
      refine e_iadd dX7_follows_103 rfl ?_
      refine e_goto (n := 122) dX7_follows_104 rfl ?_
      refine f_istore dX7_follows_122 rfl (Nat.le_of_ble_eq_true rfl) rfl ?_
      refine e_aload_n dX7_follows_124 rfl rfl ?_
      refine e_iload_n dX7_follows_125 rfl rfl ?_
      refine e_iload dX7_follows_126 rfl rfl ?_
      refine e_iload dX7_follows_128 rfl rfl ?_
      refine e_cV0 [0, 1, 2, 3, 4, 5] lk_X7_58 rfl dX7_follows_130 rfl (C_X7_far hF0 hR hL (by omega) (by omega)) rfl rfl (Nat.le_of_ble_eq_true rfl) (Nat.le_of_ble_eq_true rfl) (Nat.le_of_ble_eq_true rfl) ⟨rfl, rfl⟩ rfl rfl rfl rfl rfl rfl  ?_
      have ue := sD_w hF0 (F.1 1) (F.2 0 b) (F.2 1 b + 1) (by omega) (by omega)
      refine e_iload_n dX7_follows_133 rfl rfl ?_
      refine e_icmp_ge (t := 153) dX7_follows_134 rfl rfl (by omega) (by omega) (fun h134 => ?_) (fun h134 => ?_)
      · have n0 : ¬ (F.2 1 b < F.2 1 (F.1 1) ∧ sPos F b (F.2 0 b) (F.2 1 b + 1)) := fun q => absurd (fw.1.mpr q.1) (by omega)
        refine e_iconst dX7_follows_153 rfl ?_
        refine f_istore dX7_follows_154 rfl (Nat.le_of_ble_eq_true rfl) rfl ?_
        refine f_iinc dX7_follows_156 rfl rfl (Nat.le_of_ble_eq_true rfl) rfl ?_
        refine e_goto (n := 54) dX7_follows_159 rfl ?_
        refine EV.fgt 8 ?_
        refine EV.fgt 9 ?_
        exact hW1 n0
      · refine e_aload_n dX7_follows_137 rfl rfl ?_
        refine e_iload_n dX7_follows_138 rfl rfl ?_
        refine e_iload dX7_follows_139 rfl rfl ?_
        refine e_iload dX7_follows_141 rfl rfl ?_
        refine e_cV2 [0, 1, 2, 3, 4, 5] lk_X7_92 rfl dX7_follows_143 rfl (C_X7_goes hF0 hR hb0 (by omega) (by omega)) rfl rfl (Nat.le_of_ble_eq_true rfl) (Nat.le_of_ble_eq_true rfl) (Nat.le_of_ble_eq_true rfl) ⟨rfl, rfl⟩ rfl rfl rfl rfl rfl rfl rfl rfl ?_
        refine e_ifb_eq (t := 153) dX7_follows_146 rfl rfl (fun h146 => ?_) (fun h146 => ?_)
        · have n0 : ¬ (F.2 1 b < F.2 1 (F.1 1) ∧ sPos F b (F.2 0 b) (F.2 1 b + 1)) := fun q => h146 q.2
          refine EV.ceq (cs' := wM a M) (by unfold mGo; rw [if_neg h146] <;> rfl) ?_
          refine e_iconst dX7_follows_153 rfl ?_
          refine f_istore dX7_follows_154 rfl (Nat.le_of_ble_eq_true rfl) rfl ?_
          refine f_iinc dX7_follows_156 rfl rfl (Nat.le_of_ble_eq_true rfl) rfl ?_
          refine e_goto (n := 54) dX7_follows_159 rfl ?_
          refine EV.fgt 8 ?_
          refine EV.fgt 9 ?_
          exact hW1 n0
        · have y0 : F.2 1 b < F.2 1 (F.1 1) ∧ sPos F b (F.2 0 b) (F.2 1 b + 1) := ⟨fw.1.mp (by omega), h146⟩
          refine e_iconst dX7_follows_149 rfl ?_
          refine e_goto (n := 154) dX7_follows_150 rfl ?_
          refine f_istore dX7_follows_154 rfl (Nat.le_of_ble_eq_true rfl) rfl ?_
          refine f_iinc dX7_follows_156 rfl rfl (Nat.le_of_ble_eq_true rfl) rfl ?_
          refine e_goto (n := 54) dX7_follows_159 rfl ?_
          refine e_iload dX7_follows_54 rfl rfl ?_
          refine e_iconst dX7_follows_56 rfl ?_
          refine e_icmp_ge (t := 162) dX7_follows_57 rfl rfl (by decide) (by decide) (fun h => absurd h (by decide)) (fun _ => ?_)
          refine e_iload dX7_follows_60 rfl rfl ?_
          refine e_if_ne (t := 162) dX7_follows_62 rfl rfl (by decide) (fun _ => ?_) (fun h => absurd h (by decide))
          refine e_aload_n dX7_follows_162 rfl rfl ?_
          refine e_iload dX7_follows_163 rfl rfl ?_
          refine e_cV2 [0, 1, 2, 3, 4, 5] lk_X7_95 rfl dX7_follows_165 rfl (C_X7_countedM (c := True)) rfl rfl (Nat.le_of_ble_eq_true rfl) (Nat.le_of_ble_eq_true rfl) (Nat.le_of_ble_eq_true rfl) ⟨rfl, rfl⟩ rfl rfl rfl rfl rfl rfl rfl rfl ?_
          
          exact e_iret dX7_follows_168 rfl rfl (mCn_y (c := True) (b := b) (u := F.2 0 b) (v := F.2 1 b + 1) hF0 hN1 hR hb0 trivial y0.2 (sMF_1 (sWay_1 (F := F) (b := b) (show ¬ sStay F b by omega)  y0)))
    · refine e_iconst dX7_follows_46 rfl ?_
      exact e_iret dX7_follows_47 rfl rfl (mS1_same (N := N) hR (sMF_0 (sWay_0 (F := F) (b := b) (by omega))))
