/-! ===== BasketFlock: what changes it ===== -/
theorem hAdd_6 {F : eFs} {x y h : Int} (e : hAdd F x y h = 6) : sIn x y := by
  unfold hAdd at e
  split at e
  · omega
  · rename_i h1
    exact Decidable.byContradiction (fun q => h1 (Or.inl q))
theorem hJump_6 {F : eFs} {b x y : Int} (e : hJump F b x y = 6) : sHas F b ∧ sIn x y := by
  unfold hJump at e
  split at e
  · omega
  · rename_i h1
    split at e
    · omega
    · rename_i h2
      exact ⟨Decidable.not_not.mp h1, Decidable.not_not.mp h2⟩
theorem sHin_in {F : eFs} {k p q r : Int} : 0 ≤ sHin F k p q r ∧ sHin F k p q r ≤ 6 := by
  unfold sHin hAdd hJump hHand hCloud hClear hGoal hOut
  (repeat' split) <;> omega
theorem sHin_6 {F : eFs} {k p q r : Int} (hk : 0 ≤ k ∧ k ≤ 8) (e : sHin F k p q r = 6) : (k = 0 ∧ sIn p q) ∨ (k = 1 ∧ sHas F p ∧ sIn q r) := by
  rcases x9 hk with h | h | h | h | h | h | h | h | h <;> subst h
  · exact Or.inl ⟨rfl, hAdd_6 e⟩
  · exact Or.inr ⟨rfl, hJump_6 e⟩
  · exfalso
    have e : hHand F p q = 6 := e
    unfold hHand hOut at e
    split at e
    · split at e <;> omega
    · omega
  · exfalso
    have e : hCloud F p q = 6 := e
    unfold hCloud at e
    (repeat' split at e) <;> omega
  · exfalso
    have e : hClear F p q = 6 := e
    unfold hClear at e
    (repeat' split at e) <;> omega
  · exfalso
    have e : hOut p 2 9 = 6 := e
    unfold hOut at e
    split at e <;> omega
  · exfalso
    have e : hGoal F p q = 6 := e
    unfold hGoal at e
    (repeat' split at e) <;> omega
  · exfalso
    have e : hOut p 2 6 = 6 := e
    unfold hOut at e
    split at e <;> omega
  · exfalso
    have e : hOut p 1 20 = 6 := e
    unfold hOut at e
    split at e <;> omega
/-- the refusal of a placing is kept -/
def zRf (z : Nat → Int) (F : eFs) (m x y : Int) : Nat → Int := zS (zS z 2 (if sCov (F.2 4) x y then 1 else 2)) 3 (if sCov (F.2 4) x y then F.1 9 else sTo F m x y)
def zRk (z : Nat → Int) (F : eFs) (k p q r : Int) : Nat → Int := if k = 1 then zRf z F p q r else zRf z F (-1) p q
def zHi (z : Nat → Int) (F : eFs) (k p q r : Int) : Nat → Int := if sHin F k p q r = 6 then zRk z F k p q r else z
theorem zRf_c {z : Nat → Int} {F : eFs} {m x y : Int} (h : sCov (F.2 4) x y) : zRf z F m x y = zS (zS z 2 1) 3 (F.1 9) := by unfold zRf; rw [if_pos h, if_pos h]
theorem zRf_b {z : Nat → Int} {F : eFs} {m x y : Int} (h : ¬ sCov (F.2 4) x y) : zRf z F m x y = zS (zS z 2 2) 3 (sTo F m x y) := by unfold zRf; rw [if_neg h, if_neg h]
def wMu (a : Nat → Nat) (q1 q2 q3 q4 q5 : Nat) (z : Nat → Int) (F : eFs) (P : Int → Int) (c n : Int) (h : eHs) : List eE := wO (a 1) q1 q2 (a 11) q3 q4 q5 z :: (wFl (fun k => a (1 + k)) F P ++ wHi (fun k => a (11 + k)) c n h)

theorem C_X6_keepRefusal0 {X : eXT} {a : Nat → Nat} {q0 q1 q2 q3 q4 q5 q6 : Nat} {z : Nat → Int} {N : Int} {F : eFs} {P : Int → Int} (hF : okF N F) {p q r : Int} (gp : -2147483648 ≤ p ∧ p ≤ 2147483647) (gq : -2147483648 ≤ q ∧ q ≤ 2147483647) (gr : -2147483648 ≤ r ∧ r ≤ 2147483647) (hin : sIn p q) :
    EM X mX6_keepRefusal (eRm 3) a [.ref (a 0), .ref (a 1), vi 0, vi p, vi q, vi r] (wO q0 q1 q2 q3 q4 q5 q6 (z) :: wFl (fun k => a (1 + k)) F P) (eRet none a (wO q0 q1 q2 q3 q4 q5 q6 (zRf z F (-1) p q) :: wFl (fun k => a (1 + k)) F P)) := by
  refine EM.of (by decide +kernel) rfl (Nat.le_of_ble_eq_true rfl) ?_
  have hF0 := hF
  obtain ⟨hc, hld, hled, htn, hgo, hkp, hst, hwt, hcl, hsh, hnx, hN, rx, ry, rh, rm, rc, rw9⟩ := hF
  refine e_iload_n dX6_keepRefusal_0 rfl rfl ?_
  refine e_iconst dX6_keepRefusal_1 rfl ?_
  refine e_icmp_ne (t := 9) dX6_keepRefusal_2 rfl rfl (by decide) (by decide) (fun _ => ?_) (fun h => absurd h (by decide))
  refine e_iconst dX6_keepRefusal_9 rfl ?_
  refine f_istore dX6_keepRefusal_10 rfl (Nat.le_of_ble_eq_true rfl) rfl ?_
  refine e_iload_n dX6_keepRefusal_12 rfl rfl ?_
  refine e_iconst dX6_keepRefusal_13 rfl ?_
  refine e_icmp_ne (t := 22) dX6_keepRefusal_14 rfl rfl (by decide) (by decide) (fun _ => ?_) (fun h => absurd h (by decide))
  refine e_iload_n dX6_keepRefusal_22 rfl rfl ?_
  refine f_istore dX6_keepRefusal_23 rfl (Nat.le_of_ble_eq_true rfl) rfl ?_
  refine e_iload_n dX6_keepRefusal_25 rfl rfl ?_
  refine e_iconst dX6_keepRefusal_26 rfl ?_
  refine e_icmp_ne (t := 35) dX6_keepRefusal_27 rfl rfl (by decide) (by decide) (fun _ => ?_) (fun h => absurd h (by decide))
  refine e_iload dX6_keepRefusal_35 rfl rfl ?_
  refine f_istore dX6_keepRefusal_37 rfl (Nat.le_of_ble_eq_true rfl) rfl ?_
  refine e_aload_n dX6_keepRefusal_39 rfl rfl ?_
  refine e_getfield fd_X6_125 dX6_keepRefusal_40 rfl rfl rfl rfl ?_
  refine e_iload dX6_keepRefusal_43 rfl rfl ?_
  refine e_iload dX6_keepRefusal_45 rfl rfl ?_
  refine e_cV0 [6, 7] lk_X6_136 rfl dX6_keepRefusal_47 rfl (C_X0_covers (by omega) (by omega)) rfl rfl (Nat.le_of_ble_eq_true rfl) (Nat.le_of_ble_eq_true rfl) (Nat.le_of_ble_eq_true rfl) ⟨rfl, rfl⟩ rfl rfl rfl rfl rfl rfl  ?_
  refine e_ifb_eq (t := 72) dX6_keepRefusal_50 rfl rfl (fun h50 => ?_) (fun h50 => ?_)
  · refine e_aload_n dX6_keepRefusal_72 rfl rfl ?_
    refine e_iconst dX6_keepRefusal_73 rfl ?_
    refine e_putfield fd_X6_54 dX6_keepRefusal_74 rfl rfl rfl (Nat.le_of_ble_eq_true rfl) rfl rfl ?_
    refine e_aload_n dX6_keepRefusal_77 rfl rfl ?_
    refine e_aload_n dX6_keepRefusal_78 rfl rfl ?_
    refine e_iload dX6_keepRefusal_79 rfl rfl ?_
    refine e_iload dX6_keepRefusal_81 rfl rfl ?_
    refine e_iload dX6_keepRefusal_83 rfl rfl ?_
    refine e_cV0 [1, 2, 3, 4, 5, 6, 7, 8, 9, 10] lk_X6_346 rfl dX6_keepRefusal_85 rfl (C_X2_lowestTouched (F := F) hF0 (by omega) (by omega) (by omega)) rfl rfl (Nat.le_of_ble_eq_true rfl) (Nat.le_of_ble_eq_true rfl) (Nat.le_of_ble_eq_true rfl) ⟨rfl, rfl⟩ rfl rfl rfl rfl rfl rfl  ?_
    refine e_putfield fd_X6_57 dX6_keepRefusal_88 rfl rfl rfl (Nat.le_of_ble_eq_true rfl) rfl rfl ?_
    exact e_vret dX6_keepRefusal_91 rfl (eRet_v (by first | (rw [zRf_c h50] <;> rfl) | (rw [zRf_b h50] <;> rfl)))
  · refine e_aload_n dX6_keepRefusal_53 rfl rfl ?_
    refine e_iconst dX6_keepRefusal_54 rfl ?_
    refine e_putfield fd_X6_54 dX6_keepRefusal_55 rfl rfl rfl (Nat.le_of_ble_eq_true rfl) rfl rfl ?_
    refine e_aload_n dX6_keepRefusal_58 rfl rfl ?_
    refine e_aload_n dX6_keepRefusal_59 rfl rfl ?_
    refine e_getfield fd_X6_125 dX6_keepRefusal_60 rfl rfl rfl rfl ?_
    refine e_getfield fd_X6_140 dX6_keepRefusal_63 rfl rfl rfl rfl ?_
    refine e_putfield fd_X6_57 dX6_keepRefusal_66 rfl rfl rfl (Nat.le_of_ble_eq_true rfl) rfl rfl ?_
    refine e_goto (n := 91) dX6_keepRefusal_69 rfl ?_
    exact e_vret dX6_keepRefusal_91 rfl (eRet_v (by first | (rw [zRf_c h50] <;> rfl) | (rw [zRf_b h50] <;> rfl)))
theorem C_X6_keepRefusal1 {X : eXT} {a : Nat → Nat} {q0 q1 q2 q3 q4 q5 q6 : Nat} {z : Nat → Int} {N : Int} {F : eFs} {P : Int → Int} (hF : okF N F) {p q r : Int} (gp : -2147483648 ≤ p ∧ p ≤ 2147483647) (gq : -2147483648 ≤ q ∧ q ≤ 2147483647) (gr : -2147483648 ≤ r ∧ r ≤ 2147483647) (hb : sHas F p) (hin : sIn q r) :
    EM X mX6_keepRefusal (eRm 3) a [.ref (a 0), .ref (a 1), vi 1, vi p, vi q, vi r] (wO q0 q1 q2 q3 q4 q5 q6 (z) :: wFl (fun k => a (1 + k)) F P) (eRet none a (wO q0 q1 q2 q3 q4 q5 q6 (zRf z F p q r) :: wFl (fun k => a (1 + k)) F P)) := by
  refine EM.of (by decide +kernel) rfl (Nat.le_of_ble_eq_true rfl) ?_
  have hF0 := hF
  obtain ⟨hc, hld, hled, htn, hgo, hkp, hst, hwt, hcl, hsh, hnx, hN, rx, ry, rh, rm, rc, rw9⟩ := hF
  refine e_iload_n dX6_keepRefusal_0 rfl rfl ?_
  refine e_iconst dX6_keepRefusal_1 rfl ?_
  refine e_icmp_ne (t := 9) dX6_keepRefusal_2 rfl rfl (by decide) (by decide) (fun h => absurd h (by decide)) (fun _ => ?_)
  refine e_iload_n dX6_keepRefusal_5 rfl rfl ?_
  refine e_goto (n := 10) dX6_keepRefusal_6 rfl ?_
  refine f_istore dX6_keepRefusal_10 rfl (Nat.le_of_ble_eq_true rfl) rfl ?_
  refine e_iload_n dX6_keepRefusal_12 rfl rfl ?_
  refine e_iconst dX6_keepRefusal_13 rfl ?_
  refine e_icmp_ne (t := 22) dX6_keepRefusal_14 rfl rfl (by decide) (by decide) (fun h => absurd h (by decide)) (fun _ => ?_)
  refine e_iload dX6_keepRefusal_17 rfl rfl ?_
  refine e_goto (n := 23) dX6_keepRefusal_19 rfl ?_
  refine f_istore dX6_keepRefusal_23 rfl (Nat.le_of_ble_eq_true rfl) rfl ?_
  refine e_iload_n dX6_keepRefusal_25 rfl rfl ?_
  refine e_iconst dX6_keepRefusal_26 rfl ?_
  refine e_icmp_ne (t := 35) dX6_keepRefusal_27 rfl rfl (by decide) (by decide) (fun h => absurd h (by decide)) (fun _ => ?_)
  refine e_iload dX6_keepRefusal_30 rfl rfl ?_
  refine e_goto (n := 37) dX6_keepRefusal_32 rfl ?_
  refine f_istore dX6_keepRefusal_37 rfl (Nat.le_of_ble_eq_true rfl) rfl ?_
  refine e_aload_n dX6_keepRefusal_39 rfl rfl ?_
  refine e_getfield fd_X6_125 dX6_keepRefusal_40 rfl rfl rfl rfl ?_
  refine e_iload dX6_keepRefusal_43 rfl rfl ?_
  refine e_iload dX6_keepRefusal_45 rfl rfl ?_
  refine e_cV0 [6, 7] lk_X6_136 rfl dX6_keepRefusal_47 rfl (C_X0_covers (by omega) (by omega)) rfl rfl (Nat.le_of_ble_eq_true rfl) (Nat.le_of_ble_eq_true rfl) (Nat.le_of_ble_eq_true rfl) ⟨rfl, rfl⟩ rfl rfl rfl rfl rfl rfl  ?_
  refine e_ifb_eq (t := 72) dX6_keepRefusal_50 rfl rfl (fun h50 => ?_) (fun h50 => ?_)
  · refine e_aload_n dX6_keepRefusal_72 rfl rfl ?_
    refine e_iconst dX6_keepRefusal_73 rfl ?_
    refine e_putfield fd_X6_54 dX6_keepRefusal_74 rfl rfl rfl (Nat.le_of_ble_eq_true rfl) rfl rfl ?_
    refine e_aload_n dX6_keepRefusal_77 rfl rfl ?_
    refine e_aload_n dX6_keepRefusal_78 rfl rfl ?_
    refine e_iload dX6_keepRefusal_79 rfl rfl ?_
    refine e_iload dX6_keepRefusal_81 rfl rfl ?_
    refine e_iload dX6_keepRefusal_83 rfl rfl ?_
    refine e_cV0 [1, 2, 3, 4, 5, 6, 7, 8, 9, 10] lk_X6_346 rfl dX6_keepRefusal_85 rfl (C_X2_lowestTouched (F := F) hF0 (by omega) (by omega) (by omega)) rfl rfl (Nat.le_of_ble_eq_true rfl) (Nat.le_of_ble_eq_true rfl) (Nat.le_of_ble_eq_true rfl) ⟨rfl, rfl⟩ rfl rfl rfl rfl rfl rfl  ?_
    refine e_putfield fd_X6_57 dX6_keepRefusal_88 rfl rfl rfl (Nat.le_of_ble_eq_true rfl) rfl rfl ?_
    exact e_vret dX6_keepRefusal_91 rfl (eRet_v (by first | (rw [zRf_c h50] <;> rfl) | (rw [zRf_b h50] <;> rfl)))
  · refine e_aload_n dX6_keepRefusal_53 rfl rfl ?_
    refine e_iconst dX6_keepRefusal_54 rfl ?_
    refine e_putfield fd_X6_54 dX6_keepRefusal_55 rfl rfl rfl (Nat.le_of_ble_eq_true rfl) rfl rfl ?_
    refine e_aload_n dX6_keepRefusal_58 rfl rfl ?_
    refine e_aload_n dX6_keepRefusal_59 rfl rfl ?_
    refine e_getfield fd_X6_125 dX6_keepRefusal_60 rfl rfl rfl rfl ?_
    refine e_getfield fd_X6_140 dX6_keepRefusal_63 rfl rfl rfl rfl ?_
    refine e_putfield fd_X6_57 dX6_keepRefusal_66 rfl rfl rfl (Nat.le_of_ble_eq_true rfl) rfl rfl ?_
    refine e_goto (n := 91) dX6_keepRefusal_69 rfl ?_
    exact e_vret dX6_keepRefusal_91 rfl (eRet_v (by first | (rw [zRf_c h50] <;> rfl) | (rw [zRf_b h50] <;> rfl)))
theorem C_X6_keepRefusal {X : eXT} {a : Nat → Nat} {q0 q1 q2 q3 q4 q5 q6 : Nat} {z : Nat → Int} {N : Int} {F : eFs} {P : Int → Int} (hF : okF N F) {k p q r : Int} (gp : -2147483648 ≤ p ∧ p ≤ 2147483647) (gq : -2147483648 ≤ q ∧ q ≤ 2147483647) (gr : -2147483648 ≤ r ∧ r ≤ 2147483647) (h6 : (k = 0 ∧ sIn p q) ∨ (k = 1 ∧ sHas F p ∧ sIn q r)) : EM X mX6_keepRefusal (eRm 3) a [.ref (a 0), .ref (a 1), vi k, vi p, vi q, vi r] (wO q0 q1 q2 q3 q4 q5 q6 (z) :: wFl (fun k => a (1 + k)) F P) (eRet none a (wO q0 q1 q2 q3 q4 q5 q6 (zRk z F k p q r) :: wFl (fun k => a (1 + k)) F P)) := by
  rcases h6 with ⟨h, h1⟩ | ⟨h, h1, h2⟩
  · subst h; exact C_X6_keepRefusal0 hF gp gq gr h1
  · subst h; exact C_X6_keepRefusal1 hF gp gq gr h1 h2

theorem C_X6_hindranceIn {X : eXT} {a : Nat → Nat} {q0 q1 q2 q3 q4 q5 q6 : Nat} {z : Nat → Int} {N : Int} {F : eFs} {P : Int → Int} (hF : okF N F) {k p q r : Int} (hk : 0 ≤ k ∧ k ≤ 8) (gp : -2147483648 ≤ p ∧ p ≤ 2147483647) (gq : -2147483648 ≤ q ∧ q ≤ 2147483647) (gr : -2147483648 ≤ r ∧ r ≤ 2147483647) :
    EM X mX6_hindranceIn (eRm 5) a [.ref (a 0), .ref (a 1), vi k, vi p, vi q, vi r] (wO q0 q1 q2 q3 q4 q5 q6 (z) :: wFl (fun k => a (1 + k)) F P) (eRet (some (vi (sHin F k p q r))) a (wO q0 q1 q2 q3 q4 q5 q6 (zHi z F k p q r) :: wFl (fun k => a (1 + k)) F P)) := by
  refine EM.of (by decide +kernel) rfl (Nat.le_of_ble_eq_true rfl) ?_
  have hF0 := hF
  obtain ⟨hc, hld, hled, htn, hgo, hkp, hst, hwt, hcl, hsh, hnx, hN, rx, ry, rh, rm, rc, rw9⟩ := hF
  refine e_aload_n dX6_hindranceIn_0 rfl rfl ?_
  refine e_iload_n dX6_hindranceIn_1 rfl rfl ?_
  refine e_iload_n dX6_hindranceIn_2 rfl rfl ?_
  refine e_iload dX6_hindranceIn_3 rfl rfl ?_
  refine e_iload dX6_hindranceIn_5 rfl rfl ?_
  refine e_cV0 [1, 2, 3, 4, 5, 6, 7, 8, 9, 10] lk_X6_339 rfl dX6_hindranceIn_7 rfl (C_X2_hindrance (F := F) hF0 hk gp gq gr) rfl rfl (Nat.le_of_ble_eq_true rfl) (Nat.le_of_ble_eq_true rfl) (Nat.le_of_ble_eq_true rfl) ⟨rfl, rfl⟩ rfl rfl rfl rfl rfl rfl  ?_
  have uh := sHin_in (F := F) (k := k) (p := p) (q := q) (r := r)
  refine f_istore dX6_hindranceIn_10 rfl (Nat.le_of_ble_eq_true rfl) rfl ?_
  refine e_iload dX6_hindranceIn_12 rfl rfl ?_
  refine e_bipush dX6_hindranceIn_14 rfl rfl ?_
  refine e_icmp_ne (t := 30) dX6_hindranceIn_16 rfl rfl (by omega) (by omega) (fun h16 => ?_) (fun h16 => ?_)
  · refine e_iload dX6_hindranceIn_30 rfl rfl ?_
    exact e_iret dX6_hindranceIn_32 rfl rfl (eRet_i rfl (by unfold zHi; first | (rw [if_pos (show sHin F k p q r = 6 by omega)] <;> rfl) | (rw [if_neg (show ¬ sHin F k p q r = 6 by omega)] <;> rfl)))
  · refine e_aload_n dX6_hindranceIn_19 rfl rfl ?_
    refine e_aload_n dX6_hindranceIn_20 rfl rfl ?_
    refine e_iload_n dX6_hindranceIn_21 rfl rfl ?_
    refine e_iload_n dX6_hindranceIn_22 rfl rfl ?_
    refine e_iload dX6_hindranceIn_23 rfl rfl ?_
    refine e_iload dX6_hindranceIn_25 rfl rfl ?_
    refine e_cV2 [0, 1, 2, 3, 4, 5, 6, 7, 8, 9, 10] lk_X6_342 rfl dX6_hindranceIn_27 rfl (C_X6_keepRefusal hF0 gp gq gr (sHin_6 hk (by omega))) rfl rfl (Nat.le_of_ble_eq_true rfl) (Nat.le_of_ble_eq_true rfl) (Nat.le_of_ble_eq_true rfl) ⟨rfl, rfl⟩ rfl rfl rfl rfl rfl rfl rfl rfl ?_
    refine e_iload dX6_hindranceIn_30 rfl rfl ?_
    exact e_iret dX6_hindranceIn_32 rfl rfl (eRet_i rfl (by unfold zHi; first | (rw [if_pos (show sHin F k p q r = 6 by omega)] <;> rfl) | (rw [if_neg (show ¬ sHin F k p q r = 6 by omega)] <;> rfl)))
theorem C_X6_throwFor0 {X : eXT} {a : Nat → Nat}  :
    EM X mX6_throwFor (eRt 6 1) a [vi 0] ([]) (eOut (eEx 0) none a [] []) := by
  refine EM.of (by decide +kernel) rfl (Nat.le_of_ble_eq_true rfl) ?_
  refine e_iload_n dX6_throwFor_0 rfl rfl ?_
  refine e_tabOut (t := 106) dX6_throwFor_1 (by decide) (by decide) rfl ?_
  exact e_vret dX6_throwFor_106 rfl (eOut_r (E := eEx 0) (csx := []) (cs' := []) rfl rfl rfl)
theorem C_X6_throwFor1 {X : eXT} {a : Nat → Nat}  :
    EM X mX6_throwFor (eRt 6 1) a [vi 1] ([]) (eOut (eEx 1) none a [] []) := by
  refine EM.of (by decide +kernel) rfl (Nat.le_of_ble_eq_true rfl) ?_
  refine e_iload_n dX6_throwFor_0 rfl rfl ?_
  refine e_tabIn (t := 40) dX6_throwFor_1 (by decide) (by decide) (by decide) rfl rfl ?_
  exact nx_throw 1 th_X6_349 rfl (Nat.le_of_ble_eq_true rfl) (Nat.le_of_ble_eq_true rfl) ⟨(Nat.le_of_ble_eq_true rfl), (Nat.le_of_ble_eq_true rfl)⟩ dX6_throwFor_40 dX6_throwFor_43 (Or.inr ⟨rfl, dX6_throwFor_44⟩) dX6_throwFor_47 dX6_throwFor_50 (eOut_t (E := eEx 1) (v := none) (csx := []) (cs' := []) rfl rfl)
theorem C_X6_throwFor2 {X : eXT} {a : Nat → Nat}  :
    EM X mX6_throwFor (eRt 6 1) a [vi 2] ([]) (eOut (eEx 2) none a [] []) := by
  refine EM.of (by decide +kernel) rfl (Nat.le_of_ble_eq_true rfl) ?_
  refine e_iload_n dX6_throwFor_0 rfl rfl ?_
  refine e_tabIn (t := 51) dX6_throwFor_1 (by decide) (by decide) (by decide) rfl rfl ?_
  exact nx_throw 1 th_X6_351 rfl (Nat.le_of_ble_eq_true rfl) (Nat.le_of_ble_eq_true rfl) ⟨(Nat.le_of_ble_eq_true rfl), (Nat.le_of_ble_eq_true rfl)⟩ dX6_throwFor_51 dX6_throwFor_54 (Or.inr ⟨rfl, dX6_throwFor_55⟩) dX6_throwFor_58 dX6_throwFor_61 (eOut_t (E := eEx 2) (v := none) (csx := []) (cs' := []) rfl rfl)
theorem C_X6_throwFor3 {X : eXT} {a : Nat → Nat}  :
    EM X mX6_throwFor (eRt 6 1) a [vi 3] ([]) (eOut (eEx 3) none a [] []) := by
  refine EM.of (by decide +kernel) rfl (Nat.le_of_ble_eq_true rfl) ?_
  refine e_iload_n dX6_throwFor_0 rfl rfl ?_
  refine e_tabIn (t := 62) dX6_throwFor_1 (by decide) (by decide) (by decide) rfl rfl ?_
  exact nx_throw 1 th_X6_353 rfl (Nat.le_of_ble_eq_true rfl) (Nat.le_of_ble_eq_true rfl) ⟨(Nat.le_of_ble_eq_true rfl), (Nat.le_of_ble_eq_true rfl)⟩ dX6_throwFor_62 dX6_throwFor_65 (Or.inr ⟨rfl, dX6_throwFor_66⟩) dX6_throwFor_69 dX6_throwFor_72 (eOut_t (E := eEx 3) (v := none) (csx := []) (cs' := []) rfl rfl)
theorem C_X6_throwFor4 {X : eXT} {a : Nat → Nat}  :
    EM X mX6_throwFor (eRt 6 1) a [vi 4] ([]) (eOut (eEx 4) none a [] []) := by
  refine EM.of (by decide +kernel) rfl (Nat.le_of_ble_eq_true rfl) ?_
  refine e_iload_n dX6_throwFor_0 rfl rfl ?_
  refine e_tabIn (t := 73) dX6_throwFor_1 (by decide) (by decide) (by decide) rfl rfl ?_
  exact nx_throw 1 th_X6_355 rfl (Nat.le_of_ble_eq_true rfl) (Nat.le_of_ble_eq_true rfl) ⟨(Nat.le_of_ble_eq_true rfl), (Nat.le_of_ble_eq_true rfl)⟩ dX6_throwFor_73 dX6_throwFor_76 (Or.inr ⟨rfl, dX6_throwFor_77⟩) dX6_throwFor_80 dX6_throwFor_83 (eOut_t (E := eEx 4) (v := none) (csx := []) (cs' := []) rfl rfl)
theorem C_X6_throwFor5 {X : eXT} {a : Nat → Nat}  :
    EM X mX6_throwFor (eRt 6 1) a [vi 5] ([]) (eOut (eEx 5) none a [] []) := by
  refine EM.of (by decide +kernel) rfl (Nat.le_of_ble_eq_true rfl) ?_
  refine e_iload_n dX6_throwFor_0 rfl rfl ?_
  refine e_tabIn (t := 84) dX6_throwFor_1 (by decide) (by decide) (by decide) rfl rfl ?_
  exact nx_throw 1 th_X6_359 rfl (Nat.le_of_ble_eq_true rfl) (Nat.le_of_ble_eq_true rfl) ⟨(Nat.le_of_ble_eq_true rfl), (Nat.le_of_ble_eq_true rfl)⟩ dX6_throwFor_84 dX6_throwFor_87 (Or.inr ⟨rfl, dX6_throwFor_88⟩) dX6_throwFor_91 dX6_throwFor_94 (eOut_t (E := eEx 5) (v := none) (csx := []) (cs' := []) rfl rfl)
theorem C_X6_throwFor6 {X : eXT} {a : Nat → Nat}  :
    EM X mX6_throwFor (eRt 6 1) a [vi 6] ([]) (eOut (eEx 6) none a [] []) := by
  refine EM.of (by decide +kernel) rfl (Nat.le_of_ble_eq_true rfl) ?_
  refine e_iload_n dX6_throwFor_0 rfl rfl ?_
  refine e_tabIn (t := 95) dX6_throwFor_1 (by decide) (by decide) (by decide) rfl rfl ?_
  exact nx_throw 1 th_X6_362 rfl (Nat.le_of_ble_eq_true rfl) (Nat.le_of_ble_eq_true rfl) ⟨(Nat.le_of_ble_eq_true rfl), (Nat.le_of_ble_eq_true rfl)⟩ dX6_throwFor_95 dX6_throwFor_98 (Or.inr ⟨rfl, dX6_throwFor_99⟩) dX6_throwFor_102 dX6_throwFor_105 (eOut_t (E := eEx 6) (v := none) (csx := []) (cs' := []) rfl rfl)
theorem C_X6_throwFor {X : eXT} {a : Nat → Nat} {k : Int} (hk : 0 ≤ k ∧ k ≤ 6) : EM X mX6_throwFor (eRt 6 1) a [vi k] [] (eOut (eEx k) none a [] []) := by
  rcases (show k = 0 ∨ k = 1 ∨ k = 2 ∨ k = 3 ∨ k = 4 ∨ k = 5 ∨ k = 6 by omega) with h | h | h | h | h | h | h <;> subst h
  · exact C_X6_throwFor0
  · exact C_X6_throwFor1
  · exact C_X6_throwFor2
  · exact C_X6_throwFor3
  · exact C_X6_throwFor4
  · exact C_X6_throwFor5
  · exact C_X6_throwFor6
theorem eEx_0 {k : Int} (hk : 0 ≤ k ∧ k ≤ 6) (h : eEx k = none) : k = 0 := by
  rcases (show k = 0 ∨ k = 1 ∨ k = 2 ∨ k = 3 ∨ k = 4 ∨ k = 5 ∨ k = 6 by omega) with q | q | q | q | q | q | q <;> subst q
  · rfl
  all_goals cases h

theorem C_X6_prepare {X : eXT} {a : Nat → Nat} {q1 q2 q3 q4 q5 : Nat} {z : Nat → Int} {N : Int} {F : eFs} {P : Int → Int} {c n : Int} {h : eHs} (hF : okF N F) (hcc : 0 ≤ c ∧ c ≤ 8) (hnn : 0 ≤ n ∧ n ≤ 7) {k p q r : Int} (hk : 0 ≤ k ∧ k ≤ 8) (gp : -2147483648 ≤ p ∧ p ≤ 2147483647) (gq : -2147483648 ≤ q ∧ q ≤ 2147483647) (gr : -2147483648 ≤ r ∧ r ≤ 2147483647) :
    EM X mX6_prepare (eRt 7 1) a [.ref (a 0), vi k, vi p, vi q, vi r] (wMu a q1 q2 q3 q4 q5 (z) (F) (P) (c) (n) (h)) (eOut (eEx (sHin F k p q r)) none a (wMu a q1 q2 q3 q4 q5 (zHi z F k p q r) (F) (P) (c) (n) (h)) (wMu a q1 q2 q3 q4 q5 (z) (F) (P) (if 8 < c + 1 then 8 else c + 1) (if n + 1 < 8 then n + 1 else 0) (hU h n.toNat F))) := by
  refine EM.of (by decide +kernel) rfl (Nat.le_of_ble_eq_true rfl) ?_
  have hF0 := hF
  obtain ⟨hc, hld, hled, htn, hgo, hkp, hst, hwt, hcl, hsh, hnx, hN, rx, ry, rh, rm, rc, rw9⟩ := hF
  refine e_aload_n dX6_prepare_0 rfl rfl ?_
  refine e_aload_n dX6_prepare_1 rfl rfl ?_
  refine e_getfield fd_X6_10 dX6_prepare_2 rfl rfl rfl rfl ?_
  refine e_iload_n dX6_prepare_5 rfl rfl ?_
  refine e_iload_n dX6_prepare_6 rfl rfl ?_
  refine e_iload_n dX6_prepare_7 rfl rfl ?_
  refine e_iload dX6_prepare_8 rfl rfl ?_
  refine e_cV2 [0, 1, 2, 3, 4, 5, 6, 7, 8, 9, 10] lk_X6_280 rfl dX6_prepare_10 rfl (C_X6_hindranceIn hF0 hk gp gq gr) rfl rfl (Nat.le_of_ble_eq_true rfl) (Nat.le_of_ble_eq_true rfl) (Nat.le_of_ble_eq_true rfl) ⟨rfl, rfl⟩ rfl rfl rfl rfl rfl rfl (cs' := wMu a q1 q2 q3 q4 q5 (zHi z F k p q r) (F) (P) (c) (n) (h)) rfl (eMrg_oneE (A := []) (S := [wO (a 1) q1 q2 (a 11) q3 q4 q5 (z)] ++ (wFl (fun k => a (1 + k)) (F) (P))) (B := (wHi (fun k => a (11 + k)) (c) (n) (h))) rfl rfl rfl rfl rfl) ?_
  have uh := sHin_in (F := F) (k := k) (p := p) (q := q) (r := r)
  refine e_cSo (b' := (0, 0)) [] lk_X6_336 rfl dX6_prepare_13 rfl (C_X6_throwFor uh) rfl rfl (Nat.le_of_ble_eq_true rfl) (Nat.le_of_ble_eq_true rfl) (Nat.le_of_ble_eq_true rfl) ⟨(Nat.le_of_ble_eq_true rfl), (Nat.le_of_ble_eq_true rfl)⟩ rfl rfl (cs' := wMu a q1 q2 q3 q4 q5 (zHi z F k p q r) (F) (P) (c) (n) (h)) (csX := wMu a q1 q2 q3 q4 q5 (zHi z F k p q r) (F) (P) (c) (n) (h)) rfl rfl rfl rfl (fun ge13 => ?_) (fun e ge => e_out rfl (eOut_t ge rfl))
  have h0 := eEx_0 uh ge13
  refine EV.ceq (cs' := wMu a q1 q2 q3 q4 q5 (z) (F) (P) (c) (n) (h)) (by unfold zHi; rw [if_neg (by omega)]) ?_
  refine e_aload_n dX6_prepare_16 rfl rfl ?_
  refine e_getfield fd_X6_29 dX6_prepare_17 rfl rfl rfl rfl ?_
  refine e_aload_n dX6_prepare_20 rfl rfl ?_
  refine e_getfield fd_X6_10 dX6_prepare_21 rfl rfl rfl rfl ?_
  refine e_cV2 [11, 12, 13, 14, 15, 16, 17, 18, 19, 20, 21, 22, 23, 24, 25, 26, 27, 28, 29, 30, 31, 32, 33, 34, 35, 36, 37, 38, 39, 40, 41, 42, 43, 44, 45, 46, 47, 48, 49, 50, 51, 52, 53, 54, 55, 56, 57, 58, 59, 60, 61, 62, 63, 64, 65, 66, 67, 68, 69, 70, 71, 72, 73, 74, 75, 76, 77, 78, 79, 80, 81, 82, 83, 84, 85, 86, 87, 88, 89, 90, 91, 92, 1, 2, 3, 4, 5, 6, 7, 8, 9, 10] lk_X6_290 rfl dX6_prepare_24 rfl (C_X4_push (h := h) (F := F) (P := P) hcc hnn) rfl rfl (Nat.le_of_ble_eq_true rfl) (Nat.le_of_ble_eq_true rfl) (Nat.le_of_ble_eq_true rfl) ⟨rfl, rfl⟩ rfl rfl rfl rfl rfl rfl (cs' := wMu a q1 q2 q3 q4 q5 (z) (F) (P) (if 8 < c + 1 then 8 else c + 1) (if n + 1 < 8 then n + 1 else 0) (hU h n.toNat F)) rfl (eMrg_twoE' (A := [wO (a 1) q1 q2 (a 11) q3 q4 q5 (z)]) (S := (wFl (fun k => a (1 + k)) (F) (P))) (B := []) (T := (wHi (fun k => a (11 + k)) (c) (n) (h))) (S' := (wFl (fun k => a (1 + k)) (F) (P))) (T' := (wHi (fun k => a (11 + k)) (if 8 < c + 1 then 8 else c + 1) (if n + 1 < 8 then n + 1 else 0) (hU h n.toNat F))) rfl rfl rfl rfl rfl rfl rfl) ?_
  exact e_vret dX6_prepare_27 rfl (eOut_r (by rw [h0]; rfl) rfl rfl)
theorem C_X6_addBasket {X : eXT} {a : Nat → Nat} {q1 q2 q3 q4 q5 : Nat} {z : Nat → Int} {N : Int} {F : eFs} {P : Int → Int} {c n : Int} {h : eHs} (hF : okF N F) (hcc : 0 ≤ c ∧ c ≤ 8) (hnn : 0 ≤ n ∧ n ≤ 7) {x y g : Int} (gx : -2147483648 ≤ x ∧ x ≤ 2147483647) (gy : -2147483648 ≤ y ∧ y ≤ 2147483647) (gg : -2147483648 ≤ g ∧ g ≤ 2147483647)  :
    EM X mX6_addBasket (eRt 8 1) a [.ref (a 0), vi x, vi y, vi g] (wMu a q1 q2 q3 q4 q5 (z) (F) (P) (c) (n) (h)) (eOut (eEx (sHin F 0 x y g)) (some (vi (F.1 0))) a (wMu a q1 q2 q3 q4 q5 (zHi z F 0 x y g) (F) (P) (c) (n) (h)) (wMu a q1 q2 q3 q4 q5 (z) (sAdd F x y g) (P) (if 8 < c + 1 then 8 else c + 1) (if n + 1 < 8 then n + 1 else 0) (hU h n.toNat F))) := by
  refine EM.of (by decide +kernel) rfl (Nat.le_of_ble_eq_true rfl) ?_
  have hF0 := hF
  obtain ⟨hc, hld, hled, htn, hgo, hkp, hst, hwt, hcl, hsh, hnx, hN, rx, ry, rh, rm, rc, rw9⟩ := hF
  refine e_aload_n dX6_addBasket_0 rfl rfl ?_
  refine e_iconst dX6_addBasket_1 rfl ?_
  refine e_iload_n dX6_addBasket_2 rfl rfl ?_
  refine e_iload_n dX6_addBasket_3 rfl rfl ?_
  refine e_iload_n dX6_addBasket_4 rfl rfl ?_
  refine e_cVwo (b' := (0, 0)) (m := 93)  lk_X6_67 rfl dX6_addBasket_5 rfl (C_X6_prepare (k := 0) (p := x) (q := y) (r := g) hF0 hcc hnn (by omega) (by omega) (by omega) (by omega)) rfl rfl (Nat.le_of_ble_eq_true rfl) (Nat.le_of_ble_eq_true rfl) (Nat.le_of_ble_eq_true rfl) ⟨(Nat.le_of_ble_eq_true rfl), (Nat.le_of_ble_eq_true rfl)⟩ rfl rfl rfl rfl rfl rfl rfl (fun ge5 => ?_) (fun e ge => e_out rfl (eOut_t ge rfl))
  have h0 : sHin F 0 x y g = 0 := eEx_0 sHin_in ge5
  have y0 := hAdd_0 h0
  refine e_aload_n dX6_addBasket_8 rfl rfl ?_
  refine e_getfield fd_X6_10 dX6_addBasket_9 rfl rfl rfl rfl ?_
  refine e_iload_n dX6_addBasket_12 rfl rfl ?_
  refine e_iload_n dX6_addBasket_13 rfl rfl ?_
  refine e_iload_n dX6_addBasket_14 rfl rfl ?_
  refine e_cV2 [1, 2, 3, 4, 5, 6, 7, 8, 9, 10] lk_X6_71 rfl dX6_addBasket_15 rfl (C_X2_add (F := F) hF0 (by omega)) rfl rfl (Nat.le_of_ble_eq_true rfl) (Nat.le_of_ble_eq_true rfl) (Nat.le_of_ble_eq_true rfl) ⟨rfl, rfl⟩ rfl rfl rfl rfl rfl rfl (cs' := wMu a q1 q2 q3 q4 q5 (z) (sAdd F x y g) (P) (if 8 < c + 1 then 8 else c + 1) (if n + 1 < 8 then n + 1 else 0) (hU h n.toNat F)) rfl (eMrg_oneE (A := [wO (a 1) q1 q2 (a 11) q3 q4 q5 (z)]) (S := (wFl (fun k => a (1 + k)) (F) (P))) (B := (wHi (fun k => a (11 + k)) (if 8 < c + 1 then 8 else c + 1) (if n + 1 < 8 then n + 1 else 0) (hU h n.toNat F))) rfl rfl rfl rfl rfl) ?_
  exact e_iret dX6_addBasket_18 rfl rfl (eOut_r (by rw [h0]; rfl) rfl rfl)
theorem C_X6_jump {X : eXT} {a : Nat → Nat} {q1 q2 q3 q4 q5 : Nat} {z : Nat → Int} {N : Int} {F : eFs} {P : Int → Int} {c n : Int} {h : eHs} (hF : okF N F) (hcc : 0 ≤ c ∧ c ≤ 8) (hnn : 0 ≤ n ∧ n ≤ 7) {b x y : Int} (gb : -2147483648 ≤ b ∧ b ≤ 2147483647) (gx : -2147483648 ≤ x ∧ x ≤ 2147483647) (gy : -2147483648 ≤ y ∧ y ≤ 2147483647)  :
    EM X mX6_jump (eRt 8 1) a [.ref (a 0), vi b, vi x, vi y] (wMu a q1 q2 q3 q4 q5 (z) (F) (P) (c) (n) (h)) (eOut (eEx (sHin F 1 b x y)) (some (vi (sD F b x y))) a (wMu a q1 q2 q3 q4 q5 (zHi z F 1 b x y) (F) (P) (c) (n) (h)) (wMu a q1 q2 q3 q4 q5 (z) (sPut F b x y) (P) (if 8 < c + 1 then 8 else c + 1) (if n + 1 < 8 then n + 1 else 0) (hU h n.toNat F))) := by
  refine EM.of (by decide +kernel) rfl (Nat.le_of_ble_eq_true rfl) ?_
  have hF0 := hF
  obtain ⟨hc, hld, hled, htn, hgo, hkp, hst, hwt, hcl, hsh, hnx, hN, rx, ry, rh, rm, rc, rw9⟩ := hF
  refine e_aload_n dX6_jump_0 rfl rfl ?_
  refine e_iconst dX6_jump_1 rfl ?_
  refine e_iload_n dX6_jump_2 rfl rfl ?_
  refine e_iload_n dX6_jump_3 rfl rfl ?_
  refine e_iload_n dX6_jump_4 rfl rfl ?_
  refine e_cVwo (b' := (0, 0)) (m := 93)  lk_X6_67 rfl dX6_jump_5 rfl (C_X6_prepare (k := 1) (p := b) (q := x) (r := y) hF0 hcc hnn (by omega) (by omega) (by omega) (by omega)) rfl rfl (Nat.le_of_ble_eq_true rfl) (Nat.le_of_ble_eq_true rfl) (Nat.le_of_ble_eq_true rfl) ⟨(Nat.le_of_ble_eq_true rfl), (Nat.le_of_ble_eq_true rfl)⟩ rfl rfl rfl rfl rfl rfl rfl (fun ge5 => ?_) (fun e ge => e_out rfl (eOut_t ge rfl))
  have h0 : sHin F 1 b x y = 0 := eEx_0 sHin_in ge5
  have y0 := hJump_0 h0
  refine e_aload_n dX6_jump_8 rfl rfl ?_
  refine e_getfield fd_X6_10 dX6_jump_9 rfl rfl rfl rfl ?_
  refine e_iload_n dX6_jump_12 rfl rfl ?_
  refine e_iload_n dX6_jump_13 rfl rfl ?_
  refine e_iload_n dX6_jump_14 rfl rfl ?_
  refine e_cV2 [1, 2, 3, 4, 5, 6, 7, 8, 9, 10] lk_X6_75 rfl dX6_jump_15 rfl (C_X2_put (F := F) hF0 y0.1 (by omega) (by omega)) rfl rfl (Nat.le_of_ble_eq_true rfl) (Nat.le_of_ble_eq_true rfl) (Nat.le_of_ble_eq_true rfl) ⟨rfl, rfl⟩ rfl rfl rfl rfl rfl rfl (cs' := wMu a q1 q2 q3 q4 q5 (z) (sPut F b x y) (P) (if 8 < c + 1 then 8 else c + 1) (if n + 1 < 8 then n + 1 else 0) (hU h n.toNat F)) rfl (eMrg_oneE (A := [wO (a 1) q1 q2 (a 11) q3 q4 q5 (z)]) (S := (wFl (fun k => a (1 + k)) (F) (P))) (B := (wHi (fun k => a (11 + k)) (if 8 < c + 1 then 8 else c + 1) (if n + 1 < 8 then n + 1 else 0) (hU h n.toNat F))) rfl rfl rfl rfl rfl) ?_
  exact e_iret dX6_jump_18 rfl rfl (eOut_r (by rw [h0]; rfl) rfl rfl)
theorem C_X6_setHandle {X : eXT} {a : Nat → Nat} {q1 q2 q3 q4 q5 : Nat} {z : Nat → Int} {N : Int} {F : eFs} {P : Int → Int} {c n : Int} {h : eHs} (hF : okF N F) (hcc : 0 ≤ c ∧ c ≤ 8) (hnn : 0 ≤ n ∧ n ≤ 7) {b g : Int} (gb : -2147483648 ≤ b ∧ b ≤ 2147483647) (gg : -2147483648 ≤ g ∧ g ≤ 2147483647)  :
    EM X mX6_setHandle (eRt 8 1) a [.ref (a 0), vi b, vi g] (wMu a q1 q2 q3 q4 q5 (z) (F) (P) (c) (n) (h)) (eOut (eEx (sHin F 2 b g 0)) (some (vi (F.2 2 b))) a (wMu a q1 q2 q3 q4 q5 (zHi z F 2 b g 0) (F) (P) (c) (n) (h)) (wMu a q1 q2 q3 q4 q5 (z) (sHnd F b g) (P) (if 8 < c + 1 then 8 else c + 1) (if n + 1 < 8 then n + 1 else 0) (hU h n.toNat F))) := by
  refine EM.of (by decide +kernel) rfl (Nat.le_of_ble_eq_true rfl) ?_
  have hF0 := hF
  obtain ⟨hc, hld, hled, htn, hgo, hkp, hst, hwt, hcl, hsh, hnx, hN, rx, ry, rh, rm, rc, rw9⟩ := hF
  refine e_aload_n dX6_setHandle_0 rfl rfl ?_
  refine e_iconst dX6_setHandle_1 rfl ?_
  refine e_iload_n dX6_setHandle_2 rfl rfl ?_
  refine e_iload_n dX6_setHandle_3 rfl rfl ?_
  refine e_iconst dX6_setHandle_4 rfl ?_
  refine e_cVwo (b' := (0, 0)) (m := 93)  lk_X6_67 rfl dX6_setHandle_5 rfl (C_X6_prepare (k := 2) (p := b) (q := g) (r := 0) hF0 hcc hnn (by omega) (by omega) (by omega) (by omega)) rfl rfl (Nat.le_of_ble_eq_true rfl) (Nat.le_of_ble_eq_true rfl) (Nat.le_of_ble_eq_true rfl) ⟨(Nat.le_of_ble_eq_true rfl), (Nat.le_of_ble_eq_true rfl)⟩ rfl rfl rfl rfl rfl rfl rfl (fun ge5 => ?_) (fun e ge => e_out rfl (eOut_t ge rfl))
  have h0 : sHin F 2 b g 0 = 0 := eEx_0 sHin_in ge5
  have y0 := hHand_0 h0
  refine e_aload_n dX6_setHandle_8 rfl rfl ?_
  refine e_getfield fd_X6_10 dX6_setHandle_9 rfl rfl rfl rfl ?_
  refine e_iload_n dX6_setHandle_12 rfl rfl ?_
  refine e_iload_n dX6_setHandle_13 rfl rfl ?_
  refine e_cV2 [1, 2, 3, 4, 5, 6, 7, 8, 9, 10] lk_X6_78 rfl dX6_setHandle_14 rfl (C_X2_replaceHandle (F := F) hF0 y0.1) rfl rfl (Nat.le_of_ble_eq_true rfl) (Nat.le_of_ble_eq_true rfl) (Nat.le_of_ble_eq_true rfl) ⟨rfl, rfl⟩ rfl rfl rfl rfl rfl rfl (cs' := wMu a q1 q2 q3 q4 q5 (z) (sHnd F b g) (P) (if 8 < c + 1 then 8 else c + 1) (if n + 1 < 8 then n + 1 else 0) (hU h n.toNat F)) rfl (eMrg_oneE (A := [wO (a 1) q1 q2 (a 11) q3 q4 q5 (z)]) (S := (wFl (fun k => a (1 + k)) (F) (P))) (B := (wHi (fun k => a (11 + k)) (if 8 < c + 1 then 8 else c + 1) (if n + 1 < 8 then n + 1 else 0) (hU h n.toNat F))) rfl rfl rfl rfl rfl) ?_
  exact e_iret dX6_setHandle_17 rfl rfl (eOut_r (by rw [h0]; rfl) rfl rfl)
theorem C_X6_addCloud {X : eXT} {a : Nat → Nat} {q1 q2 q3 q4 q5 : Nat} {z : Nat → Int} {N : Int} {F : eFs} {P : Int → Int} {c n : Int} {h : eHs} (hF : okF N F) (hcc : 0 ≤ c ∧ c ≤ 8) (hnn : 0 ≤ n ∧ n ≤ 7) {x y : Int} (gx : -2147483648 ≤ x ∧ x ≤ 2147483647) (gy : -2147483648 ≤ y ∧ y ≤ 2147483647)  :
    EM X mX6_addCloud (eRt 8 1) a [.ref (a 0), vi x, vi y] (wMu a q1 q2 q3 q4 q5 (z) (F) (P) (c) (n) (h)) (eOut (eEx (sHin F 3 x y 0)) (some (vi (F.1 9 + 1))) a (wMu a q1 q2 q3 q4 q5 (zHi z F 3 x y 0) (F) (P) (c) (n) (h)) (wMu a q1 q2 q3 q4 q5 (z) (sCPut F x y) (P) (if 8 < c + 1 then 8 else c + 1) (if n + 1 < 8 then n + 1 else 0) (hU h n.toNat F))) := by
  refine EM.of (by decide +kernel) rfl (Nat.le_of_ble_eq_true rfl) ?_
  have hF0 := hF
  obtain ⟨hc, hld, hled, htn, hgo, hkp, hst, hwt, hcl, hsh, hnx, hN, rx, ry, rh, rm, rc, rw9⟩ := hF
  refine e_aload_n dX6_addCloud_0 rfl rfl ?_
  refine e_iconst dX6_addCloud_1 rfl ?_
  refine e_iload_n dX6_addCloud_2 rfl rfl ?_
  refine e_iload_n dX6_addCloud_3 rfl rfl ?_
  refine e_iconst dX6_addCloud_4 rfl ?_
  refine e_cVwo (b' := (0, 0)) (m := 93)  lk_X6_67 rfl dX6_addCloud_5 rfl (C_X6_prepare (k := 3) (p := x) (q := y) (r := 0) hF0 hcc hnn (by omega) (by omega) (by omega) (by omega)) rfl rfl (Nat.le_of_ble_eq_true rfl) (Nat.le_of_ble_eq_true rfl) (Nat.le_of_ble_eq_true rfl) ⟨(Nat.le_of_ble_eq_true rfl), (Nat.le_of_ble_eq_true rfl)⟩ rfl rfl rfl rfl rfl rfl rfl (fun ge5 => ?_) (fun e ge => e_out rfl (eOut_t ge rfl))
  have h0 : sHin F 3 x y 0 = 0 := eEx_0 sHin_in ge5
  have y0 := hCloud_0 h0
  refine e_aload_n dX6_addCloud_8 rfl rfl ?_
  refine e_getfield fd_X6_10 dX6_addCloud_9 rfl rfl rfl rfl ?_
  refine e_getfield fd_X6_125 dX6_addCloud_12 rfl rfl rfl rfl ?_
  refine e_iload_n dX6_addCloud_15 rfl rfl ?_
  refine e_iload_n dX6_addCloud_16 rfl rfl ?_
  refine e_cV2 [6, 7] lk_X6_129 rfl dX6_addCloud_17 rfl (C_X0_put y0.1 (fun q => y0.2.2.1 ⟨y0.1, q⟩)) rfl rfl (Nat.le_of_ble_eq_true rfl) (Nat.le_of_ble_eq_true rfl) (Nat.le_of_ble_eq_true rfl) ⟨rfl, rfl⟩ rfl rfl rfl rfl rfl rfl (cs' := wMu a q1 q2 q3 q4 q5 (z) (sCPut F x y) (P) (if 8 < c + 1 then 8 else c + 1) (if n + 1 < 8 then n + 1 else 0) (hU h n.toNat F)) rfl (eMrg_oneE (A := ([wO (a 1) q1 q2 (a 11) q3 q4 q5 (z)] ++ (wFl (fun k => a (1 + k)) F P).take 5)) (S := ((wFl (fun k => a (1 + k)) F P).drop 5).take 2) (B := ((wFl (fun k => a (1 + k)) F P).drop 7 ++ (wHi (fun k => a (11 + k)) (if 8 < c + 1 then 8 else c + 1) (if n + 1 < 8 then n + 1 else 0) (hU h n.toNat F)))) rfl rfl rfl rfl rfl) ?_
  exact e_iret dX6_addCloud_20 rfl rfl (eOut_r (by rw [h0]; rfl) rfl rfl)
theorem C_X6_removeCloud {X : eXT} {a : Nat → Nat} {q1 q2 q3 q4 q5 : Nat} {z : Nat → Int} {N : Int} {F : eFs} {P : Int → Int} {c n : Int} {h : eHs} (hF : okF N F) (hcc : 0 ≤ c ∧ c ≤ 8) (hnn : 0 ≤ n ∧ n ≤ 7) {x y : Int} (gx : -2147483648 ≤ x ∧ x ≤ 2147483647) (gy : -2147483648 ≤ y ∧ y ≤ 2147483647)  :
    EM X mX6_removeCloud (eRt 8 1) a [.ref (a 0), vi x, vi y] (wMu a q1 q2 q3 q4 q5 (z) (F) (P) (c) (n) (h)) (eOut (eEx (sHin F 4 x y 0)) (some (vi (F.1 9 - 1))) a (wMu a q1 q2 q3 q4 q5 (zHi z F 4 x y 0) (F) (P) (c) (n) (h)) (wMu a q1 q2 q3 q4 q5 (z) (sCRem F x y) (P) (if 8 < c + 1 then 8 else c + 1) (if n + 1 < 8 then n + 1 else 0) (hU h n.toNat F))) := by
  refine EM.of (by decide +kernel) rfl (Nat.le_of_ble_eq_true rfl) ?_
  have hF0 := hF
  obtain ⟨hc, hld, hled, htn, hgo, hkp, hst, hwt, hcl, hsh, hnx, hN, rx, ry, rh, rm, rc, rw9⟩ := hF
  refine e_aload_n dX6_removeCloud_0 rfl rfl ?_
  refine e_iconst dX6_removeCloud_1 rfl ?_
  refine e_iload_n dX6_removeCloud_2 rfl rfl ?_
  refine e_iload_n dX6_removeCloud_3 rfl rfl ?_
  refine e_iconst dX6_removeCloud_4 rfl ?_
  refine e_cVwo (b' := (0, 0)) (m := 93)  lk_X6_67 rfl dX6_removeCloud_5 rfl (C_X6_prepare (k := 4) (p := x) (q := y) (r := 0) hF0 hcc hnn (by omega) (by omega) (by omega) (by omega)) rfl rfl (Nat.le_of_ble_eq_true rfl) (Nat.le_of_ble_eq_true rfl) (Nat.le_of_ble_eq_true rfl) ⟨(Nat.le_of_ble_eq_true rfl), (Nat.le_of_ble_eq_true rfl)⟩ rfl rfl rfl rfl rfl rfl rfl (fun ge5 => ?_) (fun e ge => e_out rfl (eOut_t ge rfl))
  have h0 : sHin F 4 x y 0 = 0 := eEx_0 sHin_in ge5
  have y0 := hClear_0 h0
  refine e_aload_n dX6_removeCloud_8 rfl rfl ?_
  refine e_getfield fd_X6_10 dX6_removeCloud_9 rfl rfl rfl rfl ?_
  refine e_getfield fd_X6_125 dX6_removeCloud_12 rfl rfl rfl rfl ?_
  refine e_iload_n dX6_removeCloud_15 rfl rfl ?_
  refine e_iload_n dX6_removeCloud_16 rfl rfl ?_
  refine e_cV2 [6, 7] lk_X6_133 rfl dX6_removeCloud_17 rfl (C_X0_remove y0.2) rfl rfl (Nat.le_of_ble_eq_true rfl) (Nat.le_of_ble_eq_true rfl) (Nat.le_of_ble_eq_true rfl) ⟨rfl, rfl⟩ rfl rfl rfl rfl rfl rfl (cs' := wMu a q1 q2 q3 q4 q5 (z) (sCRem F x y) (P) (if 8 < c + 1 then 8 else c + 1) (if n + 1 < 8 then n + 1 else 0) (hU h n.toNat F)) rfl (eMrg_oneE (A := ([wO (a 1) q1 q2 (a 11) q3 q4 q5 (z)] ++ (wFl (fun k => a (1 + k)) F P).take 5)) (S := ((wFl (fun k => a (1 + k)) F P).drop 5).take 2) (B := ((wFl (fun k => a (1 + k)) F P).drop 7 ++ (wHi (fun k => a (11 + k)) (if 8 < c + 1 then 8 else c + 1) (if n + 1 < 8 then n + 1 else 0) (hU h n.toNat F)))) rfl rfl rfl rfl rfl) ?_
  exact e_iret dX6_removeCloud_20 rfl rfl (eOut_r (by rw [h0]; rfl) rfl rfl)
theorem C_X6_setTurnLength {X : eXT} {a : Nat → Nat} {q1 q2 q3 q4 q5 : Nat} {z : Nat → Int} {N : Int} {F : eFs} {P : Int → Int} {c n : Int} {h : eHs} (hF : okF N F) (hcc : 0 ≤ c ∧ c ≤ 8) (hnn : 0 ≤ n ∧ n ≤ 7) {s : Int} (gs : -2147483648 ≤ s ∧ s ≤ 2147483647)  :
    EM X mX6_setTurnLength (eRt 8 1) a [.ref (a 0), vi s] (wMu a q1 q2 q3 q4 q5 (z) (F) (P) (c) (n) (h)) (eOut (eEx (sHin F 5 s 0 0)) (some (vi (F.1 3))) a (wMu a q1 q2 q3 q4 q5 (zHi z F 5 s 0 0) (F) (P) (c) (n) (h)) (wMu a q1 q2 q3 q4 q5 (z) (sTrn F s) (P) (if 8 < c + 1 then 8 else c + 1) (if n + 1 < 8 then n + 1 else 0) (hU h n.toNat F))) := by
  refine EM.of (by decide +kernel) rfl (Nat.le_of_ble_eq_true rfl) ?_
  have hF0 := hF
  obtain ⟨hc, hld, hled, htn, hgo, hkp, hst, hwt, hcl, hsh, hnx, hN, rx, ry, rh, rm, rc, rw9⟩ := hF
  refine e_aload_n dX6_setTurnLength_0 rfl rfl ?_
  refine e_iconst dX6_setTurnLength_1 rfl ?_
  refine e_iload_n dX6_setTurnLength_2 rfl rfl ?_
  refine e_iconst dX6_setTurnLength_3 rfl ?_
  refine e_iconst dX6_setTurnLength_4 rfl ?_
  refine e_cVwo (b' := (0, 0)) (m := 93)  lk_X6_67 rfl dX6_setTurnLength_5 rfl (C_X6_prepare (k := 5) (p := s) (q := 0) (r := 0) hF0 hcc hnn (by omega) (by omega) (by omega) (by omega)) rfl rfl (Nat.le_of_ble_eq_true rfl) (Nat.le_of_ble_eq_true rfl) (Nat.le_of_ble_eq_true rfl) ⟨(Nat.le_of_ble_eq_true rfl), (Nat.le_of_ble_eq_true rfl)⟩ rfl rfl rfl rfl rfl rfl rfl (fun ge5 => ?_) (fun e ge => e_out rfl (eOut_t ge rfl))
  have h0 : sHin F 5 s 0 0 = 0 := eEx_0 sHin_in ge5
  refine e_aload_n dX6_setTurnLength_8 rfl rfl ?_
  refine e_getfield fd_X6_10 dX6_setTurnLength_9 rfl rfl rfl rfl ?_
  refine e_iload_n dX6_setTurnLength_12 rfl rfl ?_
  refine e_cV2 [1, 2, 3, 4, 5, 6, 7, 8, 9, 10] lk_X6_141 rfl dX6_setTurnLength_13 rfl (C_X2_replaceTurn (F := F) hF0) rfl rfl (Nat.le_of_ble_eq_true rfl) (Nat.le_of_ble_eq_true rfl) (Nat.le_of_ble_eq_true rfl) ⟨rfl, rfl⟩ rfl rfl rfl rfl rfl rfl (cs' := wMu a q1 q2 q3 q4 q5 (z) (sTrn F s) (P) (if 8 < c + 1 then 8 else c + 1) (if n + 1 < 8 then n + 1 else 0) (hU h n.toNat F)) rfl (eMrg_oneE (A := [wO (a 1) q1 q2 (a 11) q3 q4 q5 (z)]) (S := (wFl (fun k => a (1 + k)) (F) (P))) (B := (wHi (fun k => a (11 + k)) (if 8 < c + 1 then 8 else c + 1) (if n + 1 < 8 then n + 1 else 0) (hU h n.toNat F))) rfl rfl rfl rfl rfl) ?_
  exact e_iret dX6_setTurnLength_16 rfl rfl (eOut_r (by rw [h0]; rfl) rfl rfl)
theorem C_X6_setTarget {X : eXT} {a : Nat → Nat} {q1 q2 q3 q4 q5 : Nat} {z : Nat → Int} {N : Int} {F : eFs} {P : Int → Int} {c n : Int} {h : eHs} (hF : okF N F) (hcc : 0 ≤ c ∧ c ≤ 8) (hnn : 0 ≤ n ∧ n ≤ 7) {x y : Int} (gx : -2147483648 ≤ x ∧ x ≤ 2147483647) (gy : -2147483648 ≤ y ∧ y ≤ 2147483647)  :
    EM X mX6_setTarget (eRt 8 1) a [.ref (a 0), vi x, vi y] (wMu a q1 q2 q3 q4 q5 (z) (F) (P) (c) (n) (h)) (eOut (eEx (sHin F 6 x y 0)) (some (vi (sD F (F.1 1) x y))) a (wMu a q1 q2 q3 q4 q5 (zHi z F 6 x y 0) (F) (P) (c) (n) (h)) (wMu a q1 q2 q3 q4 q5 (z) (sGol F x y) (P) (if 8 < c + 1 then 8 else c + 1) (if n + 1 < 8 then n + 1 else 0) (hU h n.toNat F))) := by
  refine EM.of (by decide +kernel) rfl (Nat.le_of_ble_eq_true rfl) ?_
  have hF0 := hF
  obtain ⟨hc, hld, hled, htn, hgo, hkp, hst, hwt, hcl, hsh, hnx, hN, rx, ry, rh, rm, rc, rw9⟩ := hF
  refine e_aload_n dX6_setTarget_0 rfl rfl ?_
  refine e_bipush dX6_setTarget_1 rfl rfl ?_
  refine e_iload_n dX6_setTarget_3 rfl rfl ?_
  refine e_iload_n dX6_setTarget_4 rfl rfl ?_
  refine e_iconst dX6_setTarget_5 rfl ?_
  refine e_cVwo (b' := (0, 0)) (m := 93)  lk_X6_67 rfl dX6_setTarget_6 rfl (C_X6_prepare (k := 6) (p := x) (q := y) (r := 0) hF0 hcc hnn (by omega) (by omega) (by omega) (by omega)) rfl rfl (Nat.le_of_ble_eq_true rfl) (Nat.le_of_ble_eq_true rfl) (Nat.le_of_ble_eq_true rfl) ⟨(Nat.le_of_ble_eq_true rfl), (Nat.le_of_ble_eq_true rfl)⟩ rfl rfl rfl rfl rfl rfl rfl (fun ge6 => ?_) (fun e ge => e_out rfl (eOut_t ge rfl))
  have h0 : sHin F 6 x y 0 = 0 := eEx_0 sHin_in ge6
  have y0 := hGoal_0 h0
  refine e_aload_n dX6_setTarget_9 rfl rfl ?_
  refine e_getfield fd_X6_10 dX6_setTarget_10 rfl rfl rfl rfl ?_
  refine e_iload_n dX6_setTarget_13 rfl rfl ?_
  refine e_iload_n dX6_setTarget_14 rfl rfl ?_
  refine e_cV2 [1, 2, 3, 4, 5, 6, 7, 8, 9, 10] lk_X6_162 rfl dX6_setTarget_15 rfl (C_X2_replaceGoal (F := F) hF0 (by omega) (by omega) (by omega)) rfl rfl (Nat.le_of_ble_eq_true rfl) (Nat.le_of_ble_eq_true rfl) (Nat.le_of_ble_eq_true rfl) ⟨rfl, rfl⟩ rfl rfl rfl rfl rfl rfl (cs' := wMu a q1 q2 q3 q4 q5 (z) (sGol F x y) (P) (if 8 < c + 1 then 8 else c + 1) (if n + 1 < 8 then n + 1 else 0) (hU h n.toNat F)) rfl (eMrg_oneE (A := [wO (a 1) q1 q2 (a 11) q3 q4 q5 (z)]) (S := (wFl (fun k => a (1 + k)) (F) (P))) (B := (wHi (fun k => a (11 + k)) (if 8 < c + 1 then 8 else c + 1) (if n + 1 < 8 then n + 1 else 0) (hU h n.toNat F))) rfl rfl rfl rfl rfl) ?_
  exact e_iret dX6_setTarget_18 rfl rfl (eOut_r (by rw [h0]; rfl) rfl rfl)
theorem C_X6_setKeep {X : eXT} {a : Nat → Nat} {q1 q2 q3 q4 q5 : Nat} {z : Nat → Int} {N : Int} {F : eFs} {P : Int → Int} {c n : Int} {h : eHs} (hF : okF N F) (hcc : 0 ≤ c ∧ c ≤ 8) (hnn : 0 ≤ n ∧ n ≤ 7) {s : Int} (gs : -2147483648 ≤ s ∧ s ≤ 2147483647)  :
    EM X mX6_setKeep (eRt 8 1) a [.ref (a 0), vi s] (wMu a q1 q2 q3 q4 q5 (z) (F) (P) (c) (n) (h)) (eOut (eEx (sHin F 7 s 0 0)) (some (vi (F.1 6))) a (wMu a q1 q2 q3 q4 q5 (zHi z F 7 s 0 0) (F) (P) (c) (n) (h)) (wMu a q1 q2 q3 q4 q5 (z) (sKep F s) (P) (if 8 < c + 1 then 8 else c + 1) (if n + 1 < 8 then n + 1 else 0) (hU h n.toNat F))) := by
  refine EM.of (by decide +kernel) rfl (Nat.le_of_ble_eq_true rfl) ?_
  have hF0 := hF
  obtain ⟨hc, hld, hled, htn, hgo, hkp, hst, hwt, hcl, hsh, hnx, hN, rx, ry, rh, rm, rc, rw9⟩ := hF
  refine e_aload_n dX6_setKeep_0 rfl rfl ?_
  refine e_bipush dX6_setKeep_1 rfl rfl ?_
  refine e_iload_n dX6_setKeep_3 rfl rfl ?_
  refine e_iconst dX6_setKeep_4 rfl ?_
  refine e_iconst dX6_setKeep_5 rfl ?_
  refine e_cVwo (b' := (0, 0)) (m := 93)  lk_X6_67 rfl dX6_setKeep_6 rfl (C_X6_prepare (k := 7) (p := s) (q := 0) (r := 0) hF0 hcc hnn (by omega) (by omega) (by omega) (by omega)) rfl rfl (Nat.le_of_ble_eq_true rfl) (Nat.le_of_ble_eq_true rfl) (Nat.le_of_ble_eq_true rfl) ⟨(Nat.le_of_ble_eq_true rfl), (Nat.le_of_ble_eq_true rfl)⟩ rfl rfl rfl rfl rfl rfl rfl (fun ge6 => ?_) (fun e ge => e_out rfl (eOut_t ge rfl))
  have h0 : sHin F 7 s 0 0 = 0 := eEx_0 sHin_in ge6
  refine e_aload_n dX6_setKeep_9 rfl rfl ?_
  refine e_getfield fd_X6_10 dX6_setKeep_10 rfl rfl rfl rfl ?_
  refine e_iload_n dX6_setKeep_13 rfl rfl ?_
  refine e_cV2 [1, 2, 3, 4, 5, 6, 7, 8, 9, 10] lk_X6_187 rfl dX6_setKeep_14 rfl (C_X2_replaceKept (F := F) hF0) rfl rfl (Nat.le_of_ble_eq_true rfl) (Nat.le_of_ble_eq_true rfl) (Nat.le_of_ble_eq_true rfl) ⟨rfl, rfl⟩ rfl rfl rfl rfl rfl rfl (cs' := wMu a q1 q2 q3 q4 q5 (z) (sKep F s) (P) (if 8 < c + 1 then 8 else c + 1) (if n + 1 < 8 then n + 1 else 0) (hU h n.toNat F)) rfl (eMrg_oneE (A := [wO (a 1) q1 q2 (a 11) q3 q4 q5 (z)]) (S := (wFl (fun k => a (1 + k)) (F) (P))) (B := (wHi (fun k => a (11 + k)) (if 8 < c + 1 then 8 else c + 1) (if n + 1 < 8 then n + 1 else 0) (hU h n.toNat F))) rfl rfl rfl rfl rfl) ?_
  exact e_iret dX6_setKeep_17 rfl rfl (eOut_r (by rw [h0]; rfl) rfl rfl)
theorem C_X6_advance {X : eXT} {a : Nat → Nat} {q1 q2 q3 q4 q5 : Nat} {z : Nat → Int} {N : Int} {F : eFs} {P : Int → Int} {c n : Int} {h : eHs} (hF : okF N F) (hcc : 0 ≤ c ∧ c ≤ 8) (hnn : 0 ≤ n ∧ n ≤ 7) {s : Int} (gs : -2147483648 ≤ s ∧ s ≤ 2147483647) (hNs : N + 20000 ≤ 100000000) :
    EM X mX6_advance (eRt 8 1) a [.ref (a 0), vi s] (wMu a q1 q2 q3 q4 q5 (z) (F) (P) (c) (n) (h)) (eOut (eEx (sHin F 8 s 0 0)) (some (vi (sStsR (s - 0).toNat F))) a (wMu a q1 q2 q3 q4 q5 (zHi z F 8 s 0 0) (F) (P) (c) (n) (h)) (wMu a q1 q2 q3 q4 q5 (z) (sSts (s - 0).toNat F) (sStsP (s - 0).toNat F P) (if 8 < c + 1 then 8 else c + 1) (if n + 1 < 8 then n + 1 else 0) (hU h n.toNat F))) := by
  refine EM.of (by decide +kernel) rfl (Nat.le_of_ble_eq_true rfl) ?_
  have hF0 := hF
  obtain ⟨hc, hld, hled, htn, hgo, hkp, hst, hwt, hcl, hsh, hnx, hN, rx, ry, rh, rm, rc, rw9⟩ := hF
  refine e_aload_n dX6_advance_0 rfl rfl ?_
  refine e_bipush dX6_advance_1 rfl rfl ?_
  refine e_iload_n dX6_advance_3 rfl rfl ?_
  refine e_iconst dX6_advance_4 rfl ?_
  refine e_iconst dX6_advance_5 rfl ?_
  refine e_cVwo (b' := (0, 0)) (m := 93)  lk_X6_67 rfl dX6_advance_6 rfl (C_X6_prepare (k := 8) (p := s) (q := 0) (r := 0) hF0 hcc hnn (by omega) (by omega) (by omega) (by omega)) rfl rfl (Nat.le_of_ble_eq_true rfl) (Nat.le_of_ble_eq_true rfl) (Nat.le_of_ble_eq_true rfl) ⟨(Nat.le_of_ble_eq_true rfl), (Nat.le_of_ble_eq_true rfl)⟩ rfl rfl rfl rfl rfl rfl rfl (fun ge6 => ?_) (fun e ge => e_out rfl (eOut_t ge rfl))
  have h0 : sHin F 8 s 0 0 = 0 := eEx_0 sHin_in ge6
  have y0 : 1 ≤ s ∧ s ≤ 20 := hOut_0 h0
  refine e_aload_n dX6_advance_9 rfl rfl ?_
  refine e_getfield fd_X6_10 dX6_advance_10 rfl rfl rfl rfl ?_
  refine e_iload_n dX6_advance_13 rfl rfl ?_
  refine e_cV2 [1, 2, 3, 4, 5, 6, 7, 8, 9, 10] lk_X6_182 rfl dX6_advance_14 rfl (C_X2_passSteps (F := F) hF0 (by omega) (by omega)) rfl rfl (Nat.le_of_ble_eq_true rfl) (Nat.le_of_ble_eq_true rfl) (Nat.le_of_ble_eq_true rfl) ⟨rfl, rfl⟩ rfl rfl rfl rfl rfl rfl (cs' := wMu a q1 q2 q3 q4 q5 (z) (sSts (s - 0).toNat F) (sStsP (s - 0).toNat F P) (if 8 < c + 1 then 8 else c + 1) (if n + 1 < 8 then n + 1 else 0) (hU h n.toNat F)) rfl (eMrg_oneE (A := [wO (a 1) q1 q2 (a 11) q3 q4 q5 (z)]) (S := (wFl (fun k => a (1 + k)) (F) (P))) (B := (wHi (fun k => a (11 + k)) (if 8 < c + 1 then 8 else c + 1) (if n + 1 < 8 then n + 1 else 0) (hU h n.toNat F))) rfl rfl rfl rfl rfl) ?_
  exact e_iret dX6_advance_17 rfl rfl (eOut_r (by rw [h0]; rfl) rfl rfl)