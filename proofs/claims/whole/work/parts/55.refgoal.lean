/-! ===== the reference: steps to the target ===== -/
theorem sTG_P : ∀ (n : Nat) (s : Int) (F : eFs) (P Q : Int → Int), (sTG n s F P).1 = (sTG n s F Q).1 ∧ (sTG n s F P).2.1 = (sTG n s F Q).2.1 := by
  intro n
  induction n with
  | zero => intro s F P Q; exact ⟨rfl, rfl⟩
  | succ n ih =>
    intro s F P Q
    show (if sHit F then (s, F, P) else sTG n (s + 1) (sStp F) (sStpP F P)).1 = (if sHit F then (s, F, Q) else sTG n (s + 1) (sStp F) (sStpP F Q)).1 ∧ (if sHit F then (s, F, P) else sTG n (s + 1) (sStp F) (sStpP F P)).2.1 = (if sHit F then (s, F, Q) else sTG n (s + 1) (sStp F) (sStpP F Q)).2.1
    by_cases h : sHit F
    · rw [if_pos h, if_pos h]; exact ⟨rfl, rfl⟩
    · rw [if_neg h, if_neg h]; exact ih _ _ _ _
theorem sTT_P (F : eFs) (P Q : Int → Int) : (sTT F P).1 = (sTT F Q).1 ∧ (sTT F P).2.1 = (sTT F Q).2.1 := sTG_P _ _ _ _ _
theorem sTG_in : ∀ (n : Nat) (s : Int) (F : eFs) (P : Int → Int), s ≤ (sTG n s F P).1 ∧ (sTG n s F P).1 ≤ s + n := by
  intro n
  induction n with
  | zero => intro s F P; exact ⟨Int.le_refl _, by show s ≤ s + ((0 : Nat) : Int); omega⟩
  | succ n ih =>
    intro s F P
    show s ≤ (if sHit F then (s, F, P) else sTG n (s + 1) (sStp F) (sStpP F P)).1 ∧ (if sHit F then (s, F, P) else sTG n (s + 1) (sStp F) (sStpP F P)).1 ≤ s + ((n + 1 : Nat) : Int)
    by_cases h : sHit F
    · rw [if_pos h]; exact ⟨Int.le_refl _, by show s ≤ s + ((n + 1 : Nat) : Int); omega⟩
    · rw [if_neg h]
      have := ih (s + 1) (sStp F) (sStpP F P)
      omega
def P0 : Int → Int := fun _ => 0
abbrev mTT (F : eFs) : Int := if ¬ F.1 4 = -1 then (if sHit (sTT F P0).2.1 then 0 else 1) else 1
/-- only what is in the reference's spare rows has changed -/
def mSp (M M' : eFs) (T : Int) : Prop := M'.1 0 = T ∧ (∀ j, j ≠ 0 → M'.1 j = M.1 j) ∧ (M'.2 2 = M.2 2 ∧ M'.2 3 = M.2 3 ∧ M'.2 4 = M.2 4) ∧ ∀ j, 0 ≤ j → j < 2750 → M'.2 0 j = M.2 0 j
def mSpc (a : Nat → Nat) (M : eFs) (T : Int) (cs1 : List eE) : Prop := ∃ M' : eFs, cs1 = wM a M' ∧ mSp M M' T
theorem sHit_d {F : eFs} (hg : ¬ F.1 4 = -1) : sHit F ↔ sD F (F.1 1) (F.1 4) (F.1 5) = 0 := ⟨fun q => q.2, fun q => ⟨hg, q⟩⟩
theorem mtt_y {a : Nat → Nat} {F M : eFs} {f : Int} {sh x : Int → Int} (hg : ¬ F.1 4 = -1) (hh : sHit (sTT F P0).2.1) (hf : f = (sTT F P0).1) (hx : ∀ j, 0 ≤ j → j < 2750 → x j = M.2 0 j) : eRets (some (vi (if (mTT F : Int) = 0 then (sTT F P0).1 else 0))) a (mSpc a M (mTT F)) (.inl (some (vi f))) a (wM a (sS (sR (sR (sS M 0 0) 1 sh) 0 x) 0 0)) := by
  have e : mTT F = 0 := by unfold mTT; rw [if_pos hg, if_pos hh]
  rw [e]
  exact ⟨by rw [if_pos rfl, hf], rfl, sS (sR (sR (sS M 0 0) 1 sh) 0 x) 0 0, rfl, rfl, fun j hj => by show (if j = 0 then (0 : Int) else if j = 0 then 0 else M.1 j) = M.1 j; rw [if_neg hj, if_neg hj], ⟨rfl, rfl, rfl⟩, hx⟩
theorem mtt_n {a : Nat → Nat} {F M : eFs} {sh x : Int → Int} (hg : ¬ F.1 4 = -1) (hh : ¬ sHit (sTT F P0).2.1) (hx : ∀ j, 0 ≤ j → j < 2750 → x j = M.2 0 j) : eRets (some (vi (if (mTT F : Int) = 0 then (sTT F P0).1 else 0))) a (mSpc a M (mTT F)) (.inl (some (vi 0))) a (wM a (sS (sR (sR (sS M 0 0) 1 sh) 0 x) 0 1)) := by
  have e : mTT F = 1 := by unfold mTT; rw [if_pos hg, if_neg hh]
  rw [e]
  exact ⟨by rw [if_neg (by decide)], rfl, sS (sR (sR (sS M 0 0) 1 sh) 0 x) 0 1, rfl, rfl, fun j hj => by show (if j = 0 then (1 : Int) else if j = 0 then 0 else M.1 j) = M.1 j; rw [if_neg hj, if_neg hj], ⟨rfl, rfl, rfl⟩, hx⟩
theorem mtt_x {a : Nat → Nat} {F M : eFs} (hg : F.1 4 = -1) : eRets (some (vi (if (mTT F : Int) = 0 then (sTT F P0).1 else 0))) a (mSpc a M (mTT F)) (.inl (some (vi 0))) a (wM a (sS M 0 1)) := by
  have e : mTT F = 1 := by unfold mTT; rw [if_neg (fun q => q hg)]
  rw [e]
  exact ⟨by rw [if_neg (by decide)], rfl, sS M 0 1, rfl, rfl, fun j hj => if_neg hj, ⟨rfl, rfl, rfl⟩, fun j _ _ => rfl⟩
theorem mtt_row {M : eFs} {x : Int → Int} (hf : mFr (eCy (M.2 0) (M.2 0) (250 * 0) (250 * 11) 250) x) : ∀ j, 0 ≤ j → j < 2750 → eCy x x (250 * 11) (250 * 0) 250 j = M.2 0 j := by
  intro j j0 j1
  by_cases h : j < 250
  · rw [cyI (by omega), hf _ (by omega), cyI (by omega)]
    exact congrArg (M.2 0) (by omega)
  · rw [cyO (by omega), hf _ (by omega), cyO (by omega)]

theorem C_X7_isThere {X : eXT} {a : Nat → Nat} {N : Int} {F M : eFs} (hF : okF N F) (hR : mR F (M.2 0)) (hg : ¬ F.1 4 = -1) :
    EM X mX7_isThere (eRm 3) a [.ref (a 0)] (wM a M) (eRet (some (vb (sHit F))) a (wM a M)) := by
  refine EM.of (by decide +kernel) rfl (Nat.le_of_ble_eq_true rfl) ?_
  have hF0 := hF
  obtain ⟨hc, hld, hled, htn, hgo, hkp, hst, hwt, hcl, hsh, hnx, hN, rx, ry, rh, rm, rc, rw9⟩ := hF
  obtain ⟨⟨n0, n1, n2, n3, n4, n5, n6, n7, n8, n9⟩, hb, hcd, hss⟩ := id hR
  have x5 : M.2 0 5 = 12 * F.1 5 + F.1 4 + 1 := by rw [n5, if_neg hg]
  have t1 : (M.2 0 5 - 1).tmod 12 = F.1 4 := by rw [Int.tmod_eq_emod_of_nonneg (by omega)]; omega
  have t2 : (M.2 0 5 - 1).tdiv 12 = F.1 5 := by rw [Int.tdiv_eq_ediv_of_nonneg (by omega)]; omega
  have hL : sHas F (F.1 1) := by omega
  have ud := sD_w hF0 (F.1 1) (F.1 4) (F.1 5) (by omega) (by omega)
  have hd := sHit_d hg
  refine e_aload_n dX7_isThere_0 rfl rfl ?_
  refine e_getfield fd_X7_9 dX7_isThere_1 rfl rfl rfl rfl ?_
  refine e_iconst dX7_isThere_4 rfl ?_
  refine e_iaload dX7_isThere_5 rfl rfl rfl (by omega) (by decide) ?_
  refine EV.eq (st' := [vi (F.1 0)]) (by show [vi (M.2 0 0)] = _; rw [n0]) ?_
  refine e_if_le (t := 48) dX7_isThere_6 rfl rfl (by omega) (fun h6 => ?_) (fun h6 => ?_)
  · exfalso; omega
  · refine e_aload_n dX7_isThere_9 rfl rfl ?_
    refine e_aload_n dX7_isThere_10 rfl rfl ?_
    refine e_getfield fd_X7_9 dX7_isThere_11 rfl rfl rfl rfl ?_
    refine e_iconst dX7_isThere_14 rfl ?_
    refine e_iaload dX7_isThere_15 rfl rfl rfl (by omega) (by decide) ?_
    refine EV.eq (st' := [vi (F.1 1), .ref (a 0)]) (by show [vi (M.2 0 2), .ref (a 0)] = _; rw [n2]) ?_
    refine e_aload_n dX7_isThere_16 rfl rfl ?_
    refine e_getfield fd_X7_9 dX7_isThere_17 rfl rfl rfl rfl ?_
    refine e_iconst dX7_isThere_20 rfl ?_
    refine e_iaload dX7_isThere_21 rfl rfl rfl (by omega) (by decide) ?_
    refine e_iconst dX7_isThere_22 rfl ?_
    refine e_isub dX7_isThere_23 rfl ?_
    refine e_bipush dX7_isThere_24 rfl rfl ?_
    refine e_irem dX7_isThere_26 rfl (by omega) (by omega) (by omega) ?_
    refine EV.eq (st' := [vi (F.1 4), vi (F.1 1), .ref (a 0)]) (by rw [t1]) ?_
    refine e_aload_n dX7_isThere_27 rfl rfl ?_
    refine e_getfield fd_X7_9 dX7_isThere_28 rfl rfl rfl rfl ?_
    refine e_iconst dX7_isThere_31 rfl ?_
    refine e_iaload dX7_isThere_32 rfl rfl rfl (by omega) (by decide) ?_
    refine e_iconst dX7_isThere_33 rfl ?_
    refine e_isub dX7_isThere_34 rfl ?_
    refine e_bipush dX7_isThere_35 rfl rfl ?_
    refine e_idiv dX7_isThere_37 rfl (by omega) (by omega) (by omega) ?_
    refine EV.eq (st' := [vi (F.1 5), vi (F.1 4), vi (F.1 1), .ref (a 0)]) (by rw [t2]) ?_
    refine e_cV0 [0, 1, 2, 3, 4, 5] lk_X7_58 rfl dX7_isThere_38 rfl (C_X7_far hF0 hR hL (x := F.1 4) (y := F.1 5) (by omega) (by omega)) rfl rfl (Nat.le_of_ble_eq_true rfl) (Nat.le_of_ble_eq_true rfl) (Nat.le_of_ble_eq_true rfl) ⟨rfl, rfl⟩ rfl rfl rfl rfl rfl rfl  ?_
    refine e_if_ne (t := 48) dX7_isThere_41 rfl rfl (by omega) (fun h41 => ?_) (fun h41 => ?_)
    · refine e_iconst dX7_isThere_48 rfl ?_
      exact e_iret dX7_isThere_49 rfl (by decide) (eRet_f (fun q => absurd (hd.mp q) (by omega)) rfl)
    · refine e_iconst dX7_isThere_44 rfl ?_
      refine e_goto (n := 49) dX7_isThere_45 rfl ?_
      exact e_iret dX7_isThere_49 rfl (by decide) (eRet_t (hd.mpr (by omega)) rfl)
theorem C_X7_stepsToTarget {X : eXT} {a : Nat → Nat} {N : Int} {F M : eFs} (hF : okF N F) (hR : mR F (M.2 0)) (hNs : N + 20000 ≤ 100000000) :
    EM X mX7_stepsToTarget (eRm 7) a [.ref (a 0)] (wM a M) (eRets (some (vi (if (mTT F : Int) = 0 then (sTT F P0).1 else 0))) a (mSpc a M (mTT F))) := by
  refine EM.of (by decide +kernel) rfl (Nat.le_of_ble_eq_true rfl) ?_
  have hF0 := hF
  obtain ⟨hc, hld, hled, htn, hgo, hkp, hst, hwt, hcl, hsh, hnx, hN, rx, ry, rh, rm, rc, rw9⟩ := hF
  obtain ⟨⟨n0, n1, n2, n3, n4, n5, n6, n7, n8, n9⟩, hb, hcd, hss⟩ := id hR
  have x5 : M.2 0 5 = if F.1 4 = -1 then 0 else 12 * F.1 5 + F.1 4 + 1 := n5
  have x5' : (F.1 4 = -1 ∧ M.2 0 5 = 0) ∨ (¬ F.1 4 = -1 ∧ M.2 0 5 = 12 * F.1 5 + F.1 4 + 1) := by rw [x5]; split; exact Or.inl ⟨by assumption, rfl⟩; exact Or.inr ⟨by assumption, rfl⟩
  refine e_aload_n dX7_stepsToTarget_0 rfl rfl ?_
  refine e_aload_n dX7_stepsToTarget_1 rfl rfl ?_
  refine e_getfield fd_X7_9 dX7_stepsToTarget_2 rfl rfl rfl rfl ?_
  refine e_iconst dX7_stepsToTarget_5 rfl ?_
  refine e_iaload dX7_stepsToTarget_6 rfl rfl rfl (by omega) (by decide) ?_
  refine EV.eq (st' := [vi (M.2 0 5), .ref (a 0)]) rfl ?_
  refine e_if_le (t := 14) dX7_stepsToTarget_7 rfl rfl (by omega) (fun h7 => ?_) (fun h7 => ?_)
  · refine e_iconst dX7_stepsToTarget_14 rfl ?_
    refine e_cV2 [0, 1, 2, 3, 4, 5] lk_X7_78 rfl dX7_stepsToTarget_15 rfl (C_X7_isFine0 (M := M)) rfl rfl (Nat.le_of_ble_eq_true rfl) (Nat.le_of_ble_eq_true rfl) (Nat.le_of_ble_eq_true rfl) ⟨rfl, rfl⟩ rfl rfl rfl rfl rfl rfl rfl rfl ?_
    refine e_if_ne (t := 23) dX7_stepsToTarget_18 rfl rfl (by omega) (fun h18 => ?_) (fun h18 => ?_)
    · exfalso; omega
    · refine e_iconst dX7_stepsToTarget_21 rfl ?_
      exact e_iret dX7_stepsToTarget_22 rfl rfl (mtt_x (by omega))
  · refine e_iconst dX7_stepsToTarget_10 rfl ?_
    refine e_goto (n := 15) dX7_stepsToTarget_11 rfl ?_
    refine e_cV2 [0, 1, 2, 3, 4, 5] lk_X7_78 rfl dX7_stepsToTarget_15 rfl (C_X7_isFine1 (M := M)) rfl rfl (Nat.le_of_ble_eq_true rfl) (Nat.le_of_ble_eq_true rfl) (Nat.le_of_ble_eq_true rfl) ⟨rfl, rfl⟩ rfl rfl rfl rfl rfl rfl rfl rfl ?_
    refine e_if_ne (t := 23) dX7_stepsToTarget_18 rfl rfl (by omega) (fun h18 => ?_) (fun h18 => ?_)
    · have hg : ¬ F.1 4 = -1 := by omega
      have rY : mR F (eCy (M.2 0) (M.2 0) (250 * 0) (250 * 11) 250) := mR_cong hF0 (fun j j0 j1 => cyO (by omega)) hR
      have hJ35 : ∀ (f : Int) (hf : (sHit F ∧ f = 0) ∨ (¬ sHit F ∧ f = -1)), EV (mX7_stepsToTarget, (eRm 7), eRets (some (vi (if (mTT F : Int) = 0 then (sTT F P0).1 else 0))) a (mSpc a M (mTT F)), X) a (0, 0) (wM a (sS M 0 0)) 35 [some (.ref (a 0)), none, none, none] [vi f] := by
        intro f hf
        refine f_istore_n dX7_stepsToTarget_35 rfl (Nat.le_of_ble_eq_true rfl) rfl ?_
        refine e_aload_n dX7_stepsToTarget_36 rfl rfl ?_
        refine e_iconst dX7_stepsToTarget_37 rfl ?_
        refine e_bipush dX7_stepsToTarget_38 rfl rfl ?_
        refine e_cV2 [0, 1, 2, 3, 4, 5] lk_X7_36 rfl dX7_stepsToTarget_40 rfl (C_X7_copies (M := sS M 0 0) (f := 0) (t := 11) (by omega)) rfl rfl (Nat.le_of_ble_eq_true rfl) (Nat.le_of_ble_eq_true rfl) (Nat.le_of_ble_eq_true rfl) ⟨rfl, rfl⟩ rfl rfl rfl rfl rfl rfl rfl rfl ?_
        refine EV.ceq (cs' := wM a (sR (sS M 0 0) 0 (eCy (M.2 0) (M.2 0) (250 * 0) (250 * 11) 250))) rfl ?_
        refine e_iconst dX7_stepsToTarget_43 rfl ?_
        refine f_istore_n dX7_stepsToTarget_44 rfl (Nat.le_of_ble_eq_true rfl) rfl ?_
        have hL45 : ∀ (k45 : Nat) (f k : Int) (G : eFs) (x sh : Int → Int) (hk45 : (61 - k).toNat = k45) (g45 : 1 ≤ k ∧ k ≤ 61) (o45 : okF (N + 12 * (k - 1)) G) (r45 : mR G x) (f45 : mFr (eCy (M.2 0) (M.2 0) (250 * 0) (250 * 11) 250) x) (t45 : G.1 4 = F.1 4) (q45 : ∃ Q, sTT F P0 = sTG (60 - (k - 1)).toNat (k - 1) G Q) (h45 : (sHit G ∧ f = k - 1) ∨ (¬ sHit G ∧ f = -1)), EV (mX7_stepsToTarget, (eRm 7), eRets (some (vi (if (mTT F : Int) = 0 then (sTT F P0).1 else 0))) a (mSpc a M (mTT F)), X) a (0, 0) (wM a (sR (sR (sS M 0 0) 1 (sh)) 0 (x))) 45 [some (.ref (a 0)), some (vi f), some (vi k), none] [] := by
          intro k45
          induction k45 using Nat.strongRecOn with
          | _ k45 ih45 =>
          intro f k G x sh hk45 g45 o45 r45 f45 t45 q45 h45
          have fr : -1 ≤ f ∧ f ≤ 60 := by omega
          refine e_iload_n dX7_stepsToTarget_45 rfl rfl ?_
          refine e_if_ge (t := 79) dX7_stepsToTarget_46 rfl rfl (by omega) (fun h46 => ?_) (fun h46 => ?_)
          · have hres : (sHit (sTT F P0).2.1 ∧ f = (sTT F P0).1 ∧ 0 ≤ f) ∨ (¬ sHit (sTT F P0).2.1 ∧ f = -1) := by
              obtain ⟨Q, hQ⟩ := q45
              rcases h45 with ⟨u1, u2⟩ | ⟨u1, u2⟩
              · by_cases hk : k - 1 < 60
                · rw [hQ, sTG_y (by omega) u1]; exact Or.inl ⟨u1, u2, by omega⟩
                · rw [hQ, sTG_0 (by omega)]; exact Or.inl ⟨u1, u2, by omega⟩
              · rw [hQ, sTG_0 (by omega)]; exact Or.inr ⟨u1, u2⟩
            refine e_aload_n dX7_stepsToTarget_79 rfl rfl ?_
            refine e_bipush dX7_stepsToTarget_80 rfl rfl ?_
            refine e_iconst dX7_stepsToTarget_82 rfl ?_
            refine e_cV2 [0, 1, 2, 3, 4, 5] lk_X7_36 rfl dX7_stepsToTarget_83 rfl (C_X7_copies (M := sR (sR (sS M 0 0) 1 (sh)) 0 (x)) (f := 11) (t := 0) (by omega)) rfl rfl (Nat.le_of_ble_eq_true rfl) (Nat.le_of_ble_eq_true rfl) (Nat.le_of_ble_eq_true rfl) ⟨rfl, rfl⟩ rfl rfl rfl rfl rfl rfl rfl rfl ?_
            refine EV.ceq (cs' := wM a (sR (sR (sS M 0 0) 1 (sh)) 0 (eCy x x (250 * 11) (250 * 0) 250))) rfl ?_
            refine e_aload_n dX7_stepsToTarget_86 rfl rfl ?_
            refine e_iload_n dX7_stepsToTarget_87 rfl rfl ?_
            refine e_if_lt (t := 95) dX7_stepsToTarget_88 rfl rfl (by omega) (fun h88 => ?_) (fun h88 => ?_)
            · refine e_iconst dX7_stepsToTarget_95 rfl ?_
              refine e_cV2 [0, 1, 2, 3, 4, 5] lk_X7_78 rfl dX7_stepsToTarget_96 rfl (C_X7_isFine0 (M := sR (sR (sS M 0 0) 1 (sh)) 0 (eCy x x (250 * 11) (250 * 0) 250))) rfl rfl (Nat.le_of_ble_eq_true rfl) (Nat.le_of_ble_eq_true rfl) (Nat.le_of_ble_eq_true rfl) ⟨rfl, rfl⟩ rfl rfl rfl rfl rfl rfl rfl rfl ?_
              refine e_if_eq (t := 106) dX7_stepsToTarget_99 rfl rfl (by omega) (fun h99 => ?_) (fun h99 => ?_)
              · refine e_iconst dX7_stepsToTarget_106 rfl ?_
                exact e_iret dX7_stepsToTarget_107 rfl rfl (mtt_n hg (by omega) (mtt_row f45))
              · exfalso; omega
            · refine e_iconst dX7_stepsToTarget_91 rfl ?_
              refine e_goto (n := 96) dX7_stepsToTarget_92 rfl ?_
              refine e_cV2 [0, 1, 2, 3, 4, 5] lk_X7_78 rfl dX7_stepsToTarget_96 rfl (C_X7_isFine1 (M := sR (sR (sS M 0 0) 1 (sh)) 0 (eCy x x (250 * 11) (250 * 0) 250))) rfl rfl (Nat.le_of_ble_eq_true rfl) (Nat.le_of_ble_eq_true rfl) (Nat.le_of_ble_eq_true rfl) ⟨rfl, rfl⟩ rfl rfl rfl rfl rfl rfl rfl rfl ?_
              refine e_if_eq (t := 106) dX7_stepsToTarget_99 rfl rfl (by omega) (fun h99 => ?_) (fun h99 => ?_)
              · exfalso; omega
              · refine e_iload_n dX7_stepsToTarget_102 rfl rfl ?_
                refine e_goto (n := 107) dX7_stepsToTarget_103 rfl ?_
                exact e_iret dX7_stepsToTarget_107 rfl rfl (mtt_y hg (by omega) (by omega) (mtt_row f45))
          · refine e_iload_n dX7_stepsToTarget_49 rfl rfl ?_
            refine e_bipush dX7_stepsToTarget_50 rfl rfl ?_
            refine e_icmp_gt (t := 79) dX7_stepsToTarget_52 rfl rfl (by omega) (by omega) (fun h52 => ?_) (fun h52 => ?_)
            · have hres : (sHit (sTT F P0).2.1 ∧ f = (sTT F P0).1 ∧ 0 ≤ f) ∨ (¬ sHit (sTT F P0).2.1 ∧ f = -1) := by
                obtain ⟨Q, hQ⟩ := q45
                rcases h45 with ⟨u1, u2⟩ | ⟨u1, u2⟩
                · by_cases hk : k - 1 < 60
                  · rw [hQ, sTG_y (by omega) u1]; exact Or.inl ⟨u1, u2, by omega⟩
                  · rw [hQ, sTG_0 (by omega)]; exact Or.inl ⟨u1, u2, by omega⟩
                · rw [hQ, sTG_0 (by omega)]; exact Or.inr ⟨u1, u2⟩
              refine e_aload_n dX7_stepsToTarget_79 rfl rfl ?_
              refine e_bipush dX7_stepsToTarget_80 rfl rfl ?_
              refine e_iconst dX7_stepsToTarget_82 rfl ?_
              refine e_cV2 [0, 1, 2, 3, 4, 5] lk_X7_36 rfl dX7_stepsToTarget_83 rfl (C_X7_copies (M := sR (sR (sS M 0 0) 1 (sh)) 0 (x)) (f := 11) (t := 0) (by omega)) rfl rfl (Nat.le_of_ble_eq_true rfl) (Nat.le_of_ble_eq_true rfl) (Nat.le_of_ble_eq_true rfl) ⟨rfl, rfl⟩ rfl rfl rfl rfl rfl rfl rfl rfl ?_
              refine EV.ceq (cs' := wM a (sR (sR (sS M 0 0) 1 (sh)) 0 (eCy x x (250 * 11) (250 * 0) 250))) rfl ?_
              refine e_aload_n dX7_stepsToTarget_86 rfl rfl ?_
              refine e_iload_n dX7_stepsToTarget_87 rfl rfl ?_
              refine e_if_lt (t := 95) dX7_stepsToTarget_88 rfl rfl (by omega) (fun h88 => ?_) (fun h88 => ?_)
              · refine e_iconst dX7_stepsToTarget_95 rfl ?_
                refine e_cV2 [0, 1, 2, 3, 4, 5] lk_X7_78 rfl dX7_stepsToTarget_96 rfl (C_X7_isFine0 (M := sR (sR (sS M 0 0) 1 (sh)) 0 (eCy x x (250 * 11) (250 * 0) 250))) rfl rfl (Nat.le_of_ble_eq_true rfl) (Nat.le_of_ble_eq_true rfl) (Nat.le_of_ble_eq_true rfl) ⟨rfl, rfl⟩ rfl rfl rfl rfl rfl rfl rfl rfl ?_
                refine e_if_eq (t := 106) dX7_stepsToTarget_99 rfl rfl (by omega) (fun h99 => ?_) (fun h99 => ?_)
                · refine e_iconst dX7_stepsToTarget_106 rfl ?_
                  exact e_iret dX7_stepsToTarget_107 rfl rfl (mtt_n hg (by omega) (mtt_row f45))
                · exfalso; omega
              · refine e_iconst dX7_stepsToTarget_91 rfl ?_
                refine e_goto (n := 96) dX7_stepsToTarget_92 rfl ?_
                refine e_cV2 [0, 1, 2, 3, 4, 5] lk_X7_78 rfl dX7_stepsToTarget_96 rfl (C_X7_isFine1 (M := sR (sR (sS M 0 0) 1 (sh)) 0 (eCy x x (250 * 11) (250 * 0) 250))) rfl rfl (Nat.le_of_ble_eq_true rfl) (Nat.le_of_ble_eq_true rfl) (Nat.le_of_ble_eq_true rfl) ⟨rfl, rfl⟩ rfl rfl rfl rfl rfl rfl rfl rfl ?_
                refine e_if_eq (t := 106) dX7_stepsToTarget_99 rfl rfl (by omega) (fun h99 => ?_) (fun h99 => ?_)
                · exfalso; omega
                · refine e_iload_n dX7_stepsToTarget_102 rfl rfl ?_
                  refine e_goto (n := 107) dX7_stepsToTarget_103 rfl ?_
                  exact e_iret dX7_stepsToTarget_107 rfl rfl (mtt_y hg (by omega) (by omega) (mtt_row f45))
            · refine e_aload_n dX7_stepsToTarget_55 rfl rfl ?_
              have nh : ¬ sHit G := by omega
              refine e_cV1 [0, 1, 2, 3, 4, 5] lk_X7_156 rfl dX7_stepsToTarget_56 rfl (C_X7_steps (M := sR (sR (sS M 0 0) 1 (sh)) 0 (x)) o45 r45 (by omega)) rfl rfl (Nat.le_of_ble_eq_true rfl) (Nat.le_of_ble_eq_true rfl) (Nat.le_of_ble_eq_true rfl) ⟨rfl, rfl⟩ rfl rfl rfl rfl rfl rfl (fun cs1 hcs => by obtain ⟨sh2, x2, hcs, -⟩ := hcs; rw [hcs]; rfl) ?_
              intro cs1 hcs
              obtain ⟨sh2, x2, hcs, hr2, hf2⟩ := hcs
              subst hcs
              have o2 : okF (N + 12 * (k + 1 - 1)) (sStp G) := by rw [show N + 12 * (k + 1 - 1) = N + 12 * (k - 1) + 12 by omega]; exact okF_stp o45 (by omega)
              refine EV.ceq (cs' := wM a (sR (sR (sS M 0 0) 1 (sh2)) 0 (x2))) rfl ?_
              refine f_istore_n dX7_stepsToTarget_59 rfl (Nat.le_of_ble_eq_true rfl) rfl ?_
              have hJ72 : ∀ (f2 : Int) (hfz : (sHit (sStp G) ∧ f2 = k) ∨ (¬ sHit (sStp G) ∧ f2 = -1)), EV (mX7_stepsToTarget, (eRm 7), eRets (some (vi (if (mTT F : Int) = 0 then (sTT F P0).1 else 0))) a (mSpc a M (mTT F)), X) a (0, 0) (wM a (sR (sR (sS M 0 0) 1 (sh2)) 0 (x2))) 72 [some (.ref (a 0)), none, some (vi k), none] [vi f2] := by
                intro f2 hfz
                refine f_istore_n dX7_stepsToTarget_72 rfl (Nat.le_of_ble_eq_true rfl) rfl ?_
                refine f_iinc dX7_stepsToTarget_73 rfl rfl (Nat.le_of_ble_eq_true rfl) rfl ?_
                refine e_goto (n := 45) dX7_stepsToTarget_76 rfl ?_
                refine EV.fgt 3 ?_
                refine EV.ceq (cs' := wM a (sR (sR (sS M 0 0) 1 (sh2)) 0 (x2))) rfl ?_
                exact ih45 _ (by omega) f2 (k + 1) (sStp G) x2 sh2 rfl (by omega) o2 hr2 (mR_fr f45 hf2) (by rw [(sStp_fix o45 (by omega)).2.1]; exact t45) (by obtain ⟨Q, hQ⟩ := q45; exact ⟨_, by rw [hQ, sTG_n (by omega) nh, show k + 1 - 1 = k - 1 + 1 by omega]⟩) (by rw [show k + 1 - 1 = k by omega]; exact hfz)
              refine e_aload_n dX7_stepsToTarget_60 rfl rfl ?_
              refine e_cV0 [0, 1, 2, 3, 4, 5] lk_X7_171 rfl dX7_stepsToTarget_61 rfl (C_X7_isThere (M := sR (sR (sS M 0 0) 1 (sh2)) 0 (x2)) o2 hr2 (by rw [(sStp_fix o45 (by omega)).2.1, t45]; exact hg)) rfl rfl (Nat.le_of_ble_eq_true rfl) (Nat.le_of_ble_eq_true rfl) (Nat.le_of_ble_eq_true rfl) ⟨rfl, rfl⟩ rfl rfl rfl rfl rfl rfl  ?_
              refine e_ifb_eq (t := 71) dX7_stepsToTarget_64 rfl rfl (fun h64 => ?_) (fun h64 => ?_)
              · refine e_iconst dX7_stepsToTarget_71 rfl ?_
                refine EV.fgt 1 ?_
                refine EV.fgt 3 ?_
                exact hJ72 _ (Or.inr ⟨h64, rfl⟩)
              · refine e_iload_n dX7_stepsToTarget_67 rfl rfl ?_
                refine e_goto (n := 72) dX7_stepsToTarget_68 rfl ?_
                refine EV.fgt 1 ?_
                refine EV.fgt 3 ?_
                exact hJ72 _ (Or.inl ⟨h64, rfl⟩)
        refine EV.fgt 3 ?_
        refine EV.ceq (cs' := wM a (sR (sR (sS M 0 0) 1 (M.2 1)) 0 (eCy (M.2 0) (M.2 0) (250 * 0) (250 * 11) 250))) rfl ?_
        exact hL45 _ f 1 F (eCy (M.2 0) (M.2 0) (250 * 0) (250 * 11) 250) (M.2 1) rfl (by omega) (by rw [show N + 12 * ((1 : Int) - 1) = N by omega]; exact hF0) rY (fun j hj => rfl) rfl ⟨P0, rfl⟩ (by rw [show (1 : Int) - 1 = 0 by omega]; exact hf)
      refine e_aload_n dX7_stepsToTarget_23 rfl rfl ?_
      refine e_cV0 [0, 1, 2, 3, 4, 5] lk_X7_171 rfl dX7_stepsToTarget_24 rfl (C_X7_isThere (M := sS M 0 0) hF0 hR hg) rfl rfl (Nat.le_of_ble_eq_true rfl) (Nat.le_of_ble_eq_true rfl) (Nat.le_of_ble_eq_true rfl) ⟨rfl, rfl⟩ rfl rfl rfl rfl rfl rfl  ?_
      refine e_ifb_eq (t := 34) dX7_stepsToTarget_27 rfl rfl (fun h27 => ?_) (fun h27 => ?_)
      · refine e_iconst dX7_stepsToTarget_34 rfl ?_
        refine EV.fgt 1 ?_
        refine EV.fgt 2 ?_
        refine EV.fgt 3 ?_
        exact hJ35 _ (Or.inr ⟨h27, rfl⟩)
      · refine e_iconst dX7_stepsToTarget_30 rfl ?_
        refine e_goto (n := 35) dX7_stepsToTarget_31 rfl ?_
        refine EV.fgt 1 ?_
        refine EV.fgt 2 ?_
        refine EV.fgt 3 ?_
        exact hJ35 _ (Or.inl ⟨h27, rfl⟩)
    · exfalso; omega
