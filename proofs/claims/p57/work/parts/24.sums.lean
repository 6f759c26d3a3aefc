/-! ===== Flock: sums, leaders, hindrances ===== -/
theorem eCB_go {P : Int → Prop} [DecidablePred P] {n i : Int} (h : i < n) : eCB P n i = eI1 (P i) + eCB P n (i + 1) := eSB_go h
theorem eCB_none {P : Int → Prop} [DecidablePred P] {n i : Int} (h : ∀ j, i ≤ j → j < n → ¬ P j) : eCB P n i = 0 := eSB_zero (fun j a b => eI1_f (h j a b))
theorem sD_in {N : Int} {F : eFs} (hF : okF N F) (k x y : Int) (hx : -20 ≤ x ∧ x ≤ 20) (hy : -20 ≤ y ∧ y ≤ 20) : 0 ≤ sD F k x y ∧ sD F k x y ≤ 62 := by
  obtain ⟨hc, hld, hled, htn, hgo, hkp, hst, hwt, hcl, hsh, hnx, hN, rx, ry, rh, rm, rc, rw9⟩ := hF
  have a1 := eAbs_or (F.2 0 k - x)
  have a2 := eAbs_or (F.2 1 k - y)
  have a3 := rx k
  have a4 := ry k
  unfold sD
  omega
theorem sDD_in {N : Int} {F : eFs} (hF : okF N F) (k o : Int) : 0 ≤ sDD F k o ∧ sDD F k o ≤ 62 := by
  have h := hF
  obtain ⟨hc, hld, hled, htn, hgo, hkp, hst, hwt, hcl, hsh, hnx, hN, rx, ry, rh, rm, rc, rw9⟩ := hF
  have a3 := rx o
  have a4 := ry o
  exact sD_in h k _ _ (by omega) (by omega)
theorem lg_div1 {m t : Int} (ht : 0 < t) : ((m % t + 1 < t → (m + 1) / t = m / t ∧ (m + 1) % t = m % t + 1) ∧ (¬ m % t + 1 < t → (m + 1) / t = m / t + 1 ∧ (m + 1) % t = 0)) ∧ 0 ≤ m % t ∧ m % t < t := by
  have h1 := Int.emod_nonneg m (Int.ne_of_gt ht)
  have h2 := Int.emod_lt_of_pos m ht
  have h3 := Int.emod_add_mul_ediv m t
  refine ⟨⟨fun h => ?_, fun h => ?_⟩, h1, h2⟩
  · exact (Int.ediv_emod_unique ht).mpr ⟨by omega, by omega, h⟩
  · refine (Int.ediv_emod_unique ht).mpr ⟨?_, by omega, ht⟩
    rw [Int.mul_add]
    omega
def sLead (F : eFs) (s : Int) : Int := if F.1 0 < 1 then -1 else (F.1 1 + (F.1 2 + s) / F.1 3) % F.1 0
theorem sLead_in {F : eFs} {s : Int} (h : 0 ≤ F.1 0) : -1 ≤ sLead F s ∧ (sLead F s < F.1 0) := by
  unfold sLead
  split
  · omega
  · have h1 := Int.emod_nonneg (F.1 1 + (F.1 2 + s) / F.1 3) (b := F.1 0) (by omega)
    have h2 := Int.emod_lt_of_pos (F.1 1 + (F.1 2 + s) / F.1 3) (b := F.1 0) (by omega)
    omega
abbrev sLk (F : eFs) (b o : Int) : Prop := sDD F b o ≤ F.1 6
/-- the ranks go by the distance from the leader, then by the number -/
def sRk (F : eFs) (b : Int) : Int := eCB (fun j => sDD F j (F.1 1) < sDD F b (F.1 1) ∨ (sDD F j (F.1 1) = sDD F b (F.1 1) ∧ j < b)) (F.1 0) 0
def sWithRk (F : eFs) (r : Int) : Int := eFB (fun b => sRk F b = r) (F.1 0) 0
def sSumD (F : eFs) : Int := eSB (fun b => sDD F b (F.1 1)) (F.1 0) 0
def sSumM (F : eFs) : Int := eSB (fun b => F.2 3 b) (F.1 0) 0
def sPrs (F : eFs) : Int := eSB (fun b => eCB (fun o => sLk F b o) (F.1 0) (b + 1)) (F.1 0) 0
def sMix (F : eFs) : Int := eSB (fun b => eCB (fun o => ¬ F.2 2 b = F.2 2 o ∧ sLk F b o) (F.1 0) (b + 1)) (F.1 0) 0
def sPrH (F : eFs) (h : Int) : Int := eSB (fun b => eCB (fun o => F.2 2 b = h ∧ F.2 2 o = h ∧ sLk F b o) (F.1 0) (b + 1)) (F.1 0) 0
def sSgn (F : eFs) (x y : Int) : Int := if sAt F x y = -1 then (if sCov (F.2 4) x y then 35 else 46) else 48 + sAt F x y
/-- nobody else is nearer -/
abbrev sNrP (F : eFs) (b z : Int) : Prop := ¬ z = b ∧ eFB (fun j => ¬ j = b ∧ (sDD F b j < sDD F b z ∨ (sDD F b j = sDD F b z ∧ j < z))) (F.1 0) 0 = -1
def sNear (F : eFs) (b : Int) : Int := eFB (fun z => sNrP F b z) (F.1 0) 0
theorem sNrP_all {F : eFs} {b z : Int} (h0 : ¬ z = b) (h : ∀ j, 0 ≤ j → j < F.1 0 → ¬ j = b → sDD F b z < sDD F b j ∨ (sDD F b z = sDD F b j ∧ z ≤ j)) : sNrP F b z := ⟨h0, eFB_no (fun j a c q => by have := h j a c q.1; omega)⟩
theorem sNear_of {F : eFs} {b z : Int} (h1 : 0 ≤ z) (h2 : z < F.1 0) (h0 : ¬ z = b) (h : ∀ j, 0 ≤ j → j < F.1 0 → ¬ j = b → sDD F b z < sDD F b j ∨ (sDD F b z = sDD F b j ∧ z ≤ j)) : sNear F b = z := by
  rcases eFB_or (P := fun z => sNrP F b z) (n := F.1 0) 0 with ⟨-, g2⟩ | ⟨g1, g2, g3, g4⟩
  · exact absurd (sNrP_all h0 h) (g2 z h1 h2)
  · show eFB (fun z => sNrP F b z) (F.1 0) 0 = z
    generalize eFB (fun z => sNrP F b z) (F.1 0) 0 = w at *
    obtain ⟨a1, a2⟩ := g3
    rcases eFB_or (P := fun j => ¬ j = b ∧ (sDD F b j < sDD F b w ∨ (sDD F b j = sDD F b w ∧ j < w))) (n := F.1 0) 0 with ⟨-, u2⟩ | ⟨u1, -⟩
    · have r1 := u2 z h1 h2
      have r2 := h w g1 g2 a1
      simp only [not_and, not_or] at r1
      have r3 := r1 h0
      omega
    · omega
theorem sNear_no {F : eFs} {b : Int} (h : ∀ j, 0 ≤ j → j < F.1 0 → j = b) : sNear F b = -1 := eFB_no (fun j a c q => q.1 (h j a c))
def hOut (z lo hi : Int) : Int := if lo ≤ z ∧ z ≤ hi then 0 else 2
def hAdd (F : eFs) (x y h : Int) : Int := if ¬ sIn x y ∨ h < 0 ∨ 3 ≤ h then 2 else if 10 ≤ F.1 0 then 3 else if sPos F (-1) x y then 0 else 6
def hJump (F : eFs) (b x y : Int) : Int := if ¬ sHas F b then 1 else if ¬ sIn x y then 2 else if sPos F b x y then 0 else 6
def hHand (F : eFs) (b h : Int) : Int := if sHas F b then hOut h 0 2 else 1
def hCloud (F : eFs) (x y : Int) : Int := if ¬ sIn x y then 2 else if 8 ≤ F.1 9 ∨ sCov (F.2 4) x y then 3 else if sAt F x y = -1 then 0 else 5
def hClear (F : eFs) (x y : Int) : Int := if ¬ sIn x y then 2 else if sCov (F.2 4) x y then 0 else 4
def hGoal (F : eFs) (x y : Int) : Int := if ¬ sIn x y then 2 else if 0 < F.1 0 then 0 else 4
def sHin (F : eFs) (k a b c : Int) : Int := if k = 0 then hAdd F a b c else if k = 1 then hJump F a b c else if k = 2 then hHand F a b else if k = 3 then hCloud F a b else if k = 4 then hClear F a b else if k = 5 then hOut a 2 9 else if k = 6 then hGoal F a b else if k = 7 then hOut a 2 6 else hOut a 1 20

theorem C_X2_leaderIsOnTarget {X : eXT} {a : Nat → Nat} {N : Int} {F : eFs} {P : Int → Int} (hF : okF N F) (hgt : ¬ F.1 4 = -1 → sHas F (F.1 1)) :
    EM X mX2_leaderIsOnTarget (eRm 2) a [.ref (a 0)] (wFl a F P) (eRet (some (vb (¬ F.1 4 = -1 ∧ sD F (F.1 1) (F.1 4) (F.1 5) = 0))) a (wFl a F P)) := by
  refine EM.of (by decide +kernel) rfl (Nat.le_of_ble_eq_true rfl) ?_
  have hF0 := hF
  obtain ⟨hc, hld, hled, htn, hgo, hkp, hst, hwt, hcl, hsh, hnx, hN, rx, ry, rh, rm, rc, rw9⟩ := hF
  refine e_aload_n dX2_leaderIsOnTarget_0 rfl rfl ?_
  refine e_cV0 [0, 1, 2, 3, 4, 5, 6, 7, 8, 9] lk_X2_165 rfl dX2_leaderIsOnTarget_1 rfl (C_X2_hasTarget hF0) rfl rfl (Nat.le_of_ble_eq_true rfl) (Nat.le_of_ble_eq_true rfl) (Nat.le_of_ble_eq_true rfl) ⟨rfl, rfl⟩ rfl rfl rfl rfl rfl rfl  ?_
  refine e_ifb_eq (t := 30) dX2_leaderIsOnTarget_4 rfl rfl (fun h4 => ?_) (fun h4 => ?_)
  · refine e_iconst dX2_leaderIsOnTarget_30 rfl ?_
    exact e_iret dX2_leaderIsOnTarget_31 rfl (by decide) (eRet_f (by omega) rfl)
  · have u := sD_in hF0 (F.1 1) (F.1 4) (F.1 5) (by omega) (by omega)
    have u2 := hgt h4
    refine e_aload_n dX2_leaderIsOnTarget_7 rfl rfl ?_
    refine e_aload_n dX2_leaderIsOnTarget_8 rfl rfl ?_
    refine e_getfield fd_X2_46 dX2_leaderIsOnTarget_9 rfl rfl rfl rfl ?_
    refine e_aload_n dX2_leaderIsOnTarget_12 rfl rfl ?_
    refine e_getfield fd_X2_55 dX2_leaderIsOnTarget_13 rfl rfl rfl rfl ?_
    refine e_aload_n dX2_leaderIsOnTarget_16 rfl rfl ?_
    refine e_getfield fd_X2_58 dX2_leaderIsOnTarget_17 rfl rfl rfl rfl ?_
    refine e_cV0 [0, 1, 2, 3, 4, 5, 6, 7, 8, 9] lk_X2_149 rfl dX2_leaderIsOnTarget_20 rfl (C_X2_distanceFrom hF0 (by omega) (by omega) (by omega)) rfl rfl (Nat.le_of_ble_eq_true rfl) (Nat.le_of_ble_eq_true rfl) (Nat.le_of_ble_eq_true rfl) ⟨rfl, rfl⟩ rfl rfl rfl rfl rfl rfl  ?_
    refine e_if_ne (t := 30) dX2_leaderIsOnTarget_23 rfl rfl (by omega) (fun h23 => ?_) (fun h23 => ?_)
    · refine e_iconst dX2_leaderIsOnTarget_30 rfl ?_
      exact e_iret dX2_leaderIsOnTarget_31 rfl (by decide) (eRet_f (by omega) rfl)
    · refine e_iconst dX2_leaderIsOnTarget_26 rfl ?_
      refine e_goto (n := 31) dX2_leaderIsOnTarget_27 rfl ?_
      exact e_iret dX2_leaderIsOnTarget_31 rfl (by decide) (eRet_t (by omega) rfl)
theorem C_X2_leaderByFormula {X : eXT} {a : Nat → Nat} {N : Int} {F : eFs} {P : Int → Int} (hF : okF N F) {s : Int} (hs : 0 ≤ s ∧ s ≤ 1000) :
    EM X mX2_leaderByFormula (eRm 0) a [.ref (a 0), vi s] (wFl a F P) (eRet (some (vi (sLead F s))) a (wFl a F P)) := by
  refine EM.of (by decide +kernel) rfl (Nat.le_of_ble_eq_true rfl) ?_
  have hF0 := hF
  obtain ⟨hc, hld, hled, htn, hgo, hkp, hst, hwt, hcl, hsh, hnx, hN, rx, ry, rh, rm, rc, rw9⟩ := hF
  refine e_aload_n dX2_leaderByFormula_0 rfl rfl ?_
  refine e_getfield fd_X2_24 dX2_leaderByFormula_1 rfl rfl rfl rfl ?_
  refine e_iconst dX2_leaderByFormula_4 rfl ?_
  refine e_icmp_lt (t := 16) dX2_leaderByFormula_5 rfl rfl (by first | omega | (rw [t1]; omega)) (by first | omega | (rw [t1]; omega)) (fun h5 => ?_) (fun h5 => ?_)
  · refine e_iconst dX2_leaderByFormula_16 rfl ?_
    exact e_iret dX2_leaderByFormula_17 rfl rfl (eRet_i (by unfold sLead; split <;> omega) rfl)
  · refine e_aload_n dX2_leaderByFormula_8 rfl rfl ?_
    refine e_getfield fd_X2_52 dX2_leaderByFormula_9 rfl rfl rfl rfl ?_
    refine e_iconst dX2_leaderByFormula_12 rfl ?_
    refine e_icmp_ge (t := 18) dX2_leaderByFormula_13 rfl rfl (by first | omega | (rw [t1]; omega)) (by first | omega | (rw [t1]; omega)) (fun h13 => ?_) (fun h13 => ?_)
    · have t1 : (F.1 2 + s).tdiv (F.1 3) = (F.1 2 + s) / F.1 3 := Int.tdiv_eq_ediv_of_nonneg (by omega)
      have t2 : 0 ≤ (F.1 2 + s) / F.1 3 := Int.ediv_nonneg (by omega) (by omega)
      have t3 : (F.1 2 + s) / F.1 3 ≤ F.1 2 + s := Int.ediv_le_self _ (by omega)
      refine e_aload_n dX2_leaderByFormula_18 rfl rfl ?_
      refine e_getfield fd_X2_46 dX2_leaderByFormula_19 rfl rfl rfl rfl ?_
      refine e_aload_n dX2_leaderByFormula_22 rfl rfl ?_
      refine e_getfield fd_X2_49 dX2_leaderByFormula_23 rfl rfl rfl rfl ?_
      refine e_iload_n dX2_leaderByFormula_26 rfl rfl ?_
      refine e_iadd dX2_leaderByFormula_27 rfl ?_
      refine e_aload_n dX2_leaderByFormula_28 rfl rfl ?_
      refine e_getfield fd_X2_52 dX2_leaderByFormula_29 rfl rfl rfl rfl ?_
      refine e_idiv dX2_leaderByFormula_32 rfl (by first | omega | (rw [t1]; omega)) (by first | omega | (rw [t1]; omega)) (by first | omega | (rw [t1]; omega)) ?_
      refine e_iadd dX2_leaderByFormula_33 rfl ?_
      refine e_aload_n dX2_leaderByFormula_34 rfl rfl ?_
      refine e_getfield fd_X2_24 dX2_leaderByFormula_35 rfl rfl rfl rfl ?_
      refine e_irem dX2_leaderByFormula_38 rfl (by first | omega | (rw [t1]; omega)) (by first | omega | (rw [t1]; omega)) (by first | omega | (rw [t1]; omega)) ?_
      exact e_iret dX2_leaderByFormula_39 rfl rfl (eRet_i (by unfold sLead; rw [if_neg (by omega), t1, Int.tmod_eq_emod_of_nonneg (by omega)]) rfl)
    · refine e_iconst dX2_leaderByFormula_16 rfl ?_
      exact e_iret dX2_leaderByFormula_17 rfl rfl (eRet_i (by unfold sLead; split <;> omega) rfl)
theorem C_X2_leaderByCounting {X : eXT} {a : Nat → Nat} {N : Int} {F : eFs} {P : Int → Int} (hF : okF N F) {s : Int} (hs : 0 ≤ s ∧ s ≤ 1000) :
    EM X mX2_leaderByCounting (eRm 0) a [.ref (a 0), vi s] (wFl a F P) (eRet (some (vi (sLead F s))) a (wFl a F P)) := by
  refine EM.of (by decide +kernel) rfl (Nat.le_of_ble_eq_true rfl) ?_
  have hF0 := hF
  obtain ⟨hc, hld, hled, htn, hgo, hkp, hst, hwt, hcl, hsh, hnx, hN, rx, ry, rh, rm, rc, rw9⟩ := hF
  refine e_aload_n dX2_leaderByCounting_0 rfl rfl ?_
  refine e_getfield fd_X2_24 dX2_leaderByCounting_1 rfl rfl rfl rfl ?_
  refine e_iconst dX2_leaderByCounting_4 rfl ?_
  refine e_icmp_ge (t := 10) dX2_leaderByCounting_5 rfl rfl (by omega) (by omega) (fun h5 => ?_) (fun h5 => ?_)
  · refine e_aload_n dX2_leaderByCounting_10 rfl rfl ?_
    refine e_getfield fd_X2_46 dX2_leaderByCounting_11 rfl rfl rfl rfl ?_
    refine f_istore_n dX2_leaderByCounting_14 rfl (Nat.le_of_ble_eq_true rfl) rfl ?_
    refine e_aload_n dX2_leaderByCounting_15 rfl rfl ?_
    refine e_getfield fd_X2_49 dX2_leaderByCounting_16 rfl rfl rfl rfl ?_
    refine f_istore_n dX2_leaderByCounting_19 rfl (Nat.le_of_ble_eq_true rfl) rfl ?_
    refine e_iconst dX2_leaderByCounting_20 rfl ?_
    refine f_istore dX2_leaderByCounting_21 rfl (Nat.le_of_ble_eq_true rfl) rfl ?_
    have hL23 : ∀ (k23 : Nat) (k bk hl : Int) (hk23 : (s - k).toNat = k23) (g23 : 0 ≤ k ∧ k ≤ s) (e23 : bk = (F.1 1 + (F.1 2 + k) / F.1 3) % F.1 0) (f23 : hl = (F.1 2 + k) % F.1 3), EV (mX2_leaderByCounting, (eRm 0), eRet (some (vi (sLead F s))) a (wFl a F P), X) a (0, 0) (wFl a F P) 23 [some (.ref (a 0)), some (vi s), some (vi bk), some (vi hl), some (vi k)] [] := by
      intro k23
      induction k23 using Nat.strongRecOn with
      | _ k23 ih23 =>
      intro k bk hl hk23 g23 e23 f23
      refine e_iload dX2_leaderByCounting_23 rfl rfl ?_
      refine e_iload_n dX2_leaderByCounting_25 rfl rfl ?_
      refine e_icmp_ge (t := 66) dX2_leaderByCounting_26 rfl rfl (by omega) (by omega) (fun h26 => ?_) (fun h26 => ?_)
      · refine e_iload_n dX2_leaderByCounting_66 rfl rfl ?_
        exact e_iret dX2_leaderByCounting_67 rfl rfl (eRet_i (by unfold sLead; rw [if_neg (by omega), e23, show k = s by omega]) rfl)
      · have dv := lg_div1 (m := F.1 2 + k) (t := F.1 3) (by omega)
        have dc := lg_div1 (m := F.1 1 + (F.1 2 + k) / F.1 3) (t := F.1 0) (by omega)
        rw [show F.1 2 + k + 1 = F.1 2 + (k + 1) by omega] at dv
        rw [show F.1 1 + (F.1 2 + k) / F.1 3 + 1 = F.1 1 + ((F.1 2 + k) / F.1 3 + 1) by omega] at dc
        refine f_iinc dX2_leaderByCounting_29 rfl rfl (Nat.le_of_ble_eq_true rfl) rfl ?_
        refine e_iload_n dX2_leaderByCounting_32 rfl rfl ?_
        refine e_aload_n dX2_leaderByCounting_33 rfl rfl ?_
        refine e_getfield fd_X2_52 dX2_leaderByCounting_34 rfl rfl rfl rfl ?_
        refine e_icmp_lt (t := 60) dX2_leaderByCounting_37 rfl rfl (by omega) (by omega) (fun h37 => ?_) (fun h37 => ?_)
        · refine f_iinc dX2_leaderByCounting_60 rfl rfl (Nat.le_of_ble_eq_true rfl) rfl ?_
          refine e_goto (n := 23) dX2_leaderByCounting_63 rfl ?_
          exact ih23 _ (by omega) (k + 1) bk (hl + 1) rfl (by omega) (by rw [(dv.1.1 (by omega)).1]; exact e23) (by rw [(dv.1.1 (by omega)).2, f23])
        · refine e_iconst dX2_leaderByCounting_40 rfl ?_
          refine f_istore_n dX2_leaderByCounting_41 rfl (Nat.le_of_ble_eq_true rfl) rfl ?_
          refine e_iload_n dX2_leaderByCounting_42 rfl rfl ?_
          refine e_iconst dX2_leaderByCounting_43 rfl ?_
          refine e_iadd dX2_leaderByCounting_44 rfl ?_
          refine e_aload_n dX2_leaderByCounting_45 rfl rfl ?_
          refine e_getfield fd_X2_24 dX2_leaderByCounting_46 rfl rfl rfl rfl ?_
          refine e_icmp_ge (t := 58) dX2_leaderByCounting_49 rfl rfl (by omega) (by omega) (fun h49 => ?_) (fun h49 => ?_)
          · refine e_iconst dX2_leaderByCounting_58 rfl ?_
            refine f_istore_n dX2_leaderByCounting_59 rfl (Nat.le_of_ble_eq_true rfl) rfl ?_
            refine f_iinc dX2_leaderByCounting_60 rfl rfl (Nat.le_of_ble_eq_true rfl) rfl ?_
            refine e_goto (n := 23) dX2_leaderByCounting_63 rfl ?_
            exact ih23 _ (by omega) (k + 1) 0 0 rfl (by omega) (by rw [(dv.1.2 (by omega)).1, (dc.1.2 (by omega)).2]) (by rw [(dv.1.2 (by omega)).2])
          · refine e_iload_n dX2_leaderByCounting_52 rfl rfl ?_
            refine e_iconst dX2_leaderByCounting_53 rfl ?_
            refine e_iadd dX2_leaderByCounting_54 rfl ?_
            refine e_goto (n := 59) dX2_leaderByCounting_55 rfl ?_
            refine f_istore_n dX2_leaderByCounting_59 rfl (Nat.le_of_ble_eq_true rfl) rfl ?_
            refine f_iinc dX2_leaderByCounting_60 rfl rfl (Nat.le_of_ble_eq_true rfl) rfl ?_
            refine e_goto (n := 23) dX2_leaderByCounting_63 rfl ?_
            exact ih23 _ (by omega) (k + 1) (bk + 1) 0 rfl (by omega) (by rw [(dv.1.2 (by omega)).1, (dc.1.1 (by omega)).2, e23]) (by rw [(dv.1.2 (by omega)).2])
    exact hL23 _ 0 (F.1 1) (F.1 2) rfl (by omega) (by rw [Int.add_zero, Int.ediv_eq_zero_of_lt (by omega) (by omega), Int.add_zero, Int.emod_eq_of_lt (by omega) (by omega)]) (by rw [Int.add_zero, Int.emod_eq_of_lt (by omega) (by omega)])
  · refine e_iconst dX2_leaderByCounting_8 rfl ?_
    exact e_iret dX2_leaderByCounting_9 rfl rfl (eRet_i (by unfold sLead; split <;> omega) rfl)
theorem C_X2_rankOf {X : eXT} {a : Nat → Nat} {N : Int} {F : eFs} {P : Int → Int} (hF : okF N F) {b : Int} (hb : sHas F b) :
    EM X mX2_rankOf (eRm 3) a [.ref (a 0), vi b] (wFl a F P) (eRet (some (vi (sRk F b))) a (wFl a F P)) := by
  refine EM.of (by decide +kernel) rfl (Nat.le_of_ble_eq_true rfl) ?_
  have hF0 := hF
  obtain ⟨hc, hld, hled, htn, hgo, hkp, hst, hwt, hcl, hsh, hnx, hN, rx, ry, rh, rm, rc, rw9⟩ := hF
  refine e_aload_n dX2_rankOf_0 rfl rfl ?_
  refine e_iload_n dX2_rankOf_1 rfl rfl ?_
  refine e_aload_n dX2_rankOf_2 rfl rfl ?_
  refine e_getfield fd_X2_46 dX2_rankOf_3 rfl rfl rfl rfl ?_
  refine e_cV0 [0, 1, 2, 3, 4, 5, 6, 7, 8, 9] lk_X2_183 rfl dX2_rankOf_6 rfl (C_X2_distanceOf hF0 (by omega) (by omega)) rfl rfl (Nat.le_of_ble_eq_true rfl) (Nat.le_of_ble_eq_true rfl) (Nat.le_of_ble_eq_true rfl) ⟨rfl, rfl⟩ rfl rfl rfl rfl rfl rfl  ?_
  have u := sDD_in hF0 (b) (F.1 1)
  refine f_istore_n dX2_rankOf_9 rfl (Nat.le_of_ble_eq_true rfl) rfl ?_
  refine e_iconst dX2_rankOf_10 rfl ?_
  refine f_istore_n dX2_rankOf_11 rfl (Nat.le_of_ble_eq_true rfl) rfl ?_
  refine e_iconst dX2_rankOf_12 rfl ?_
  refine f_istore dX2_rankOf_13 rfl (Nat.le_of_ble_eq_true rfl) rfl ?_
  have hL15 : ∀ (k15 : Nat) (k n : Int) (hk15 : ((F.1 0) - k).toNat = k15) (g15 : 0 ≤ k ∧ k ≤ F.1 0) (e15 : 0 + eCB (fun j => sDD F j (F.1 1) < sDD F b (F.1 1) ∨ (sDD F j (F.1 1) = sDD F b (F.1 1) ∧ j < b)) (F.1 0) 0 = n + eCB (fun j => sDD F j (F.1 1) < sDD F b (F.1 1) ∨ (sDD F j (F.1 1) = sDD F b (F.1 1) ∧ j < b)) (F.1 0) k) , EV (mX2_rankOf, (eRm 3), eRet (some (vi (sRk F b))) a (wFl a F P), X) a (0, 0) (wFl a F P) 15 [some (.ref (a 0)), some (vi b), some (vi (sDD F b (F.1 1))), some (vi n), some (vi k), none] [] := by
    intro k15
    induction k15 using Nat.strongRecOn with
    | _ k15 ih15 =>
    intro k n hk15 g15 e15
    refine e_iload dX2_rankOf_15 rfl rfl ?_
    refine e_aload_n dX2_rankOf_17 rfl rfl ?_
    refine e_getfield fd_X2_24 dX2_rankOf_18 rfl rfl rfl rfl ?_
    refine e_icmp_ge (t := 63) dX2_rankOf_21 rfl rfl (by omega) (by omega) (fun h21 => ?_) (fun h21 => ?_)
    · refine e_iload_n dX2_rankOf_63 rfl rfl ?_
      exact e_iret dX2_rankOf_64 rfl rfl (eRet_i (by have w := eCB_end (P := fun j => sDD F j (F.1 1) < sDD F b (F.1 1) ∨ (sDD F j (F.1 1) = sDD F b (F.1 1) ∧ j < b)) (n := F.1 0) (i := k) (by omega); unfold sRk; omega) rfl)
    · refine e_aload_n dX2_rankOf_24 rfl rfl ?_
      refine e_iload dX2_rankOf_25 rfl rfl ?_
      refine e_aload_n dX2_rankOf_27 rfl rfl ?_
      refine e_getfield fd_X2_46 dX2_rankOf_28 rfl rfl rfl rfl ?_
      refine e_cV0 [0, 1, 2, 3, 4, 5, 6, 7, 8, 9] lk_X2_183 rfl dX2_rankOf_31 rfl (C_X2_distanceOf hF0 (by omega) (by omega)) rfl rfl (Nat.le_of_ble_eq_true rfl) (Nat.le_of_ble_eq_true rfl) (Nat.le_of_ble_eq_true rfl) ⟨rfl, rfl⟩ rfl rfl rfl rfl rfl rfl  ?_
      have u2 := sDD_in hF0 k (F.1 1)
      refine f_istore dX2_rankOf_34 rfl (Nat.le_of_ble_eq_true rfl) rfl ?_
      refine e_iload dX2_rankOf_36 rfl rfl ?_
      refine e_iload_n dX2_rankOf_38 rfl rfl ?_
      refine e_icmp_lt (t := 54) dX2_rankOf_39 rfl rfl (by omega) (by omega) (fun h39 => ?_) (fun h39 => ?_)
      · refine f_iinc dX2_rankOf_54 rfl rfl (Nat.le_of_ble_eq_true rfl) rfl ?_
        refine f_iinc dX2_rankOf_57 rfl rfl (Nat.le_of_ble_eq_true rfl) rfl ?_
        refine e_goto (n := 15) dX2_rankOf_60 rfl ?_
        refine EV.fgt 5 ?_
        exact ih15 _ (by omega) (k + 1) (n + 1) rfl (by omega) (by have w := eCB_yes (P := fun j => sDD F j (F.1 1) < sDD F b (F.1 1) ∨ (sDD F j (F.1 1) = sDD F b (F.1 1) ∧ j < b)) (n := F.1 0) (i := k) (by omega) (by omega); omega)
      · refine e_iload dX2_rankOf_42 rfl rfl ?_
        refine e_iload_n dX2_rankOf_44 rfl rfl ?_
        refine e_icmp_ne (t := 57) dX2_rankOf_45 rfl rfl (by omega) (by omega) (fun h45 => ?_) (fun h45 => ?_)
        · refine f_iinc dX2_rankOf_57 rfl rfl (Nat.le_of_ble_eq_true rfl) rfl ?_
          refine e_goto (n := 15) dX2_rankOf_60 rfl ?_
          refine EV.fgt 5 ?_
          exact ih15 _ (by omega) (k + 1) n rfl (by omega) (by have w := eCB_no (P := fun j => sDD F j (F.1 1) < sDD F b (F.1 1) ∨ (sDD F j (F.1 1) = sDD F b (F.1 1) ∧ j < b)) (n := F.1 0) (i := k) (by omega) (by omega); omega)
        · refine e_iload dX2_rankOf_48 rfl rfl ?_
          refine e_iload_n dX2_rankOf_50 rfl rfl ?_
          refine e_icmp_ge (t := 57) dX2_rankOf_51 rfl rfl (by omega) (by omega) (fun h51 => ?_) (fun h51 => ?_)
          · refine f_iinc dX2_rankOf_57 rfl rfl (Nat.le_of_ble_eq_true rfl) rfl ?_
            refine e_goto (n := 15) dX2_rankOf_60 rfl ?_
            refine EV.fgt 5 ?_
            exact ih15 _ (by omega) (k + 1) n rfl (by omega) (by have w := eCB_no (P := fun j => sDD F j (F.1 1) < sDD F b (F.1 1) ∨ (sDD F j (F.1 1) = sDD F b (F.1 1) ∧ j < b)) (n := F.1 0) (i := k) (by omega) (by omega); omega)
          · refine f_iinc dX2_rankOf_54 rfl rfl (Nat.le_of_ble_eq_true rfl) rfl ?_
            refine f_iinc dX2_rankOf_57 rfl rfl (Nat.le_of_ble_eq_true rfl) rfl ?_
            refine e_goto (n := 15) dX2_rankOf_60 rfl ?_
            refine EV.fgt 5 ?_
            exact ih15 _ (by omega) (k + 1) (n + 1) rfl (by omega) (by have w := eCB_yes (P := fun j => sDD F j (F.1 1) < sDD F b (F.1 1) ∨ (sDD F j (F.1 1) = sDD F b (F.1 1) ∧ j < b)) (n := F.1 0) (i := k) (by omega) (by omega); omega)
  refine EV.fgt 5 ?_
  exact hL15 _ 0 0 rfl (by omega) rfl 
theorem C_X2_basketWithRank {X : eXT} {a : Nat → Nat} {N : Int} {F : eFs} {P : Int → Int} (hF : okF N F) {r : Int} (hr : -2147483648 ≤ r ∧ r ≤ 2147483647) :
    EM X mX2_basketWithRank (eRm 4) a [.ref (a 0), vi r] (wFl a F P) (eRet (some (vi (sWithRk F r))) a (wFl a F P)) := by
  refine EM.of (by decide +kernel) rfl (Nat.le_of_ble_eq_true rfl) ?_
  have hF0 := hF
  obtain ⟨hc, hld, hled, htn, hgo, hkp, hst, hwt, hcl, hsh, hnx, hN, rx, ry, rh, rm, rc, rw9⟩ := hF
  refine e_iconst dX2_basketWithRank_0 rfl ?_
  refine f_istore_n dX2_basketWithRank_1 rfl (Nat.le_of_ble_eq_true rfl) rfl ?_
  have hL2 : ∀ (k2 : Nat) (k : Int) (hk2 : ((F.1 0) - k).toNat = k2) (g2 : 0 ≤ k ∧ k ≤ F.1 0) (e2 : eFB (fun b => sRk F b = r) (F.1 0) 0 = eFB (fun b => sRk F b = r) (F.1 0) k) , EV (mX2_basketWithRank, (eRm 4), eRet (some (vi (sWithRk F r))) a (wFl a F P), X) a (0, 0) (wFl a F P) 2 [some (.ref (a 0)), some (vi r), some (vi k)] [] := by
    intro k2
    induction k2 using Nat.strongRecOn with
    | _ k2 ih2 =>
    intro k hk2 g2 e2
    refine e_iload_n dX2_basketWithRank_2 rfl rfl ?_
    refine e_aload_n dX2_basketWithRank_3 rfl rfl ?_
    refine e_getfield fd_X2_24 dX2_basketWithRank_4 rfl rfl rfl rfl ?_
    refine e_icmp_ge (t := 27) dX2_basketWithRank_7 rfl rfl (by omega) (by omega) (fun h7 => ?_) (fun h7 => ?_)
    · refine e_iconst dX2_basketWithRank_27 rfl ?_
      exact e_iret dX2_basketWithRank_28 rfl rfl (eRet_i ((e2.trans (eFB_end (by omega)))).symm rfl)
    · refine e_aload_n dX2_basketWithRank_10 rfl rfl ?_
      refine e_iload_n dX2_basketWithRank_11 rfl rfl ?_
      refine e_cV0 [0, 1, 2, 3, 4, 5, 6, 7, 8, 9] lk_X2_196 rfl dX2_basketWithRank_12 rfl (C_X2_rankOf hF0 (by omega)) rfl rfl (Nat.le_of_ble_eq_true rfl) (Nat.le_of_ble_eq_true rfl) (Nat.le_of_ble_eq_true rfl) ⟨rfl, rfl⟩ rfl rfl rfl rfl rfl rfl  ?_
      have u : 0 ≤ sRk F k ∧ sRk F k ≤ F.1 0 - 0 := eCB_in (by omega)
      refine e_iload_n dX2_basketWithRank_15 rfl rfl ?_
      refine e_icmp_ne (t := 21) dX2_basketWithRank_16 rfl rfl (by omega) (by omega) (fun h16 => ?_) (fun h16 => ?_)
      · refine f_iinc dX2_basketWithRank_21 rfl rfl (Nat.le_of_ble_eq_true rfl) rfl ?_
        refine e_goto (n := 2) dX2_basketWithRank_24 rfl ?_
        exact ih2 _ (by omega) (k + 1) rfl (by omega) (e2.trans (eFB_go (by omega) h16)) 
      · refine e_iload_n dX2_basketWithRank_19 rfl rfl ?_
        exact e_iret dX2_basketWithRank_20 rfl rfl (eRet_i ((e2.trans (eFB_hit (by omega) (by omega)))).symm rfl)
  exact hL2 _ 0 rfl (by omega) rfl 
theorem C_X2_sumOfDistancesFromLeader {X : eXT} {a : Nat → Nat} {N : Int} {F : eFs} {P : Int → Int} (hF : okF N F)  :
    EM X mX2_sumOfDistancesFromLeader (eRm 3) a [.ref (a 0)] (wFl a F P) (eRet (some (vi (sSumD F))) a (wFl a F P)) := by
  refine EM.of (by decide +kernel) rfl (Nat.le_of_ble_eq_true rfl) ?_
  have hF0 := hF
  obtain ⟨hc, hld, hled, htn, hgo, hkp, hst, hwt, hcl, hsh, hnx, hN, rx, ry, rh, rm, rc, rw9⟩ := hF
  refine e_iconst dX2_sumOfDistancesFromLeader_0 rfl ?_
  refine f_istore_n dX2_sumOfDistancesFromLeader_1 rfl (Nat.le_of_ble_eq_true rfl) rfl ?_
  refine e_iconst dX2_sumOfDistancesFromLeader_2 rfl ?_
  refine f_istore_n dX2_sumOfDistancesFromLeader_3 rfl (Nat.le_of_ble_eq_true rfl) rfl ?_
  have hL4 : ∀ (k4 : Nat) (k n : Int) (hk4 : ((F.1 0) - k).toNat = k4) (g4 : 0 ≤ k ∧ k ≤ F.1 0) (e4 : 0 + eSB (fun b => sDD F b (F.1 1)) (F.1 0) 0 = n + eSB (fun b => sDD F b (F.1 1)) (F.1 0) k) , EV (mX2_sumOfDistancesFromLeader, (eRm 3), eRet (some (vi (sSumD F))) a (wFl a F P), X) a (0, 0) (wFl a F P) 4 [some (.ref (a 0)), some (vi n), some (vi k)] [] := by
    intro k4
    induction k4 using Nat.strongRecOn with
    | _ k4 ih4 =>
    intro k n hk4 g4 e4
    refine e_iload_n dX2_sumOfDistancesFromLeader_4 rfl rfl ?_
    refine e_aload_n dX2_sumOfDistancesFromLeader_5 rfl rfl ?_
    refine e_getfield fd_X2_24 dX2_sumOfDistancesFromLeader_6 rfl rfl rfl rfl ?_
    refine e_icmp_ge (t := 30) dX2_sumOfDistancesFromLeader_9 rfl rfl (by omega) (by omega) (fun h9 => ?_) (fun h9 => ?_)
    · refine e_iload_n dX2_sumOfDistancesFromLeader_30 rfl rfl ?_
      exact e_iret dX2_sumOfDistancesFromLeader_31 rfl rfl (eRet_i (by have w := eSB_end (f := fun b => sDD F b (F.1 1)) (n := F.1 0) (i := k) (by omega); unfold sSumD; omega) rfl)
    · refine e_iload_n dX2_sumOfDistancesFromLeader_12 rfl rfl ?_
      refine e_aload_n dX2_sumOfDistancesFromLeader_13 rfl rfl ?_
      refine e_iload_n dX2_sumOfDistancesFromLeader_14 rfl rfl ?_
      refine e_aload_n dX2_sumOfDistancesFromLeader_15 rfl rfl ?_
      refine e_getfield fd_X2_46 dX2_sumOfDistancesFromLeader_16 rfl rfl rfl rfl ?_
      refine e_cV0 [0, 1, 2, 3, 4, 5, 6, 7, 8, 9] lk_X2_183 rfl dX2_sumOfDistancesFromLeader_19 rfl (C_X2_distanceOf hF0 (by omega) (by omega)) rfl rfl (Nat.le_of_ble_eq_true rfl) (Nat.le_of_ble_eq_true rfl) (Nat.le_of_ble_eq_true rfl) ⟨rfl, rfl⟩ rfl rfl rfl rfl rfl rfl  ?_
      refine e_iadd dX2_sumOfDistancesFromLeader_22 rfl ?_
      refine f_istore_n dX2_sumOfDistancesFromLeader_23 rfl (Nat.le_of_ble_eq_true rfl) rfl ?_
      refine f_iinc dX2_sumOfDistancesFromLeader_24 rfl rfl (Nat.le_of_ble_eq_true rfl) rfl ?_
      refine e_goto (n := 4) dX2_sumOfDistancesFromLeader_27 rfl ?_
      exact ih4 _ (by omega) (k + 1) (n + sDD F k (F.1 1)) rfl (by omega) (by have w := eSB_go (f := fun b => sDD F b (F.1 1)) (n := F.1 0) (i := k) (by omega); omega)
  exact hL4 _ 0 0 rfl (by omega) rfl 
theorem C_X2_sumOfMoves {X : eXT} {a : Nat → Nat} {N : Int} {F : eFs} {P : Int → Int} (hF : okF N F)  :
    EM X mX2_sumOfMoves (eRm 0) a [.ref (a 0)] (wFl a F P) (eRet (some (vl (sSumM F))) a (wFl a F P)) := by
  refine EM.of (by decide +kernel) rfl (Nat.le_of_ble_eq_true rfl) ?_
  have hF0 := hF
  obtain ⟨hc, hld, hled, htn, hgo, hkp, hst, hwt, hcl, hsh, hnx, hN, rx, ry, rh, rm, rc, rw9⟩ := hF
  refine e_lconst dX2_sumOfMoves_0 rfl ?_
  refine f_lstore_n dX2_sumOfMoves_1 rfl (Nat.le_of_ble_eq_true rfl) rfl ?_
  refine e_iconst dX2_sumOfMoves_2 rfl ?_
  refine f_istore_n dX2_sumOfMoves_3 rfl (Nat.le_of_ble_eq_true rfl) rfl ?_
  have hL4 : ∀ (k4 : Nat) (k n : Int) (hk4 : ((F.1 0) - k).toNat = k4) (g4 : 0 ≤ k ∧ k ≤ F.1 0) (e4 : 0 + eSB (fun b => F.2 3 b) (F.1 0) 0 = n + eSB (fun b => F.2 3 b) (F.1 0) k) , EV (mX2_sumOfMoves, (eRm 0), eRet (some (vl (sSumM F))) a (wFl a F P), X) a (0, 0) (wFl a F P) 4 [some (.ref (a 0)), some (vl n), none, some (vi k)] [] := by
    intro k4
    induction k4 using Nat.strongRecOn with
    | _ k4 ih4 =>
    intro k n hk4 g4 e4
    refine e_iload_n dX2_sumOfMoves_4 rfl rfl ?_
    refine e_aload_n dX2_sumOfMoves_5 rfl rfl ?_
    refine e_getfield fd_X2_24 dX2_sumOfMoves_6 rfl rfl rfl rfl ?_
    refine e_icmp_ge (t := 28) dX2_sumOfMoves_9 rfl rfl (by omega) (by omega) (fun h9 => ?_) (fun h9 => ?_)
    · refine e_lload_n dX2_sumOfMoves_28 rfl rfl ?_
      exact e_lret dX2_sumOfMoves_29 rfl (eRet_l (by have w := eSB_end (f := fun b => F.2 3 b) (n := F.1 0) (i := k) (by omega); unfold sSumM; omega) rfl)
    · refine e_lload_n dX2_sumOfMoves_12 rfl rfl ?_
      refine e_aload_n dX2_sumOfMoves_13 rfl rfl ?_
      refine e_getfield fd_X2_21 dX2_sumOfMoves_14 rfl rfl rfl rfl ?_
      refine e_iload_n dX2_sumOfMoves_17 rfl rfl ?_
      refine e_ialoadB dX2_sumOfMoves_18 rfl rfl rfl (by omega) (by decide) rm ?_
      intro b18
      refine e_i2l dX2_sumOfMoves_19 rfl (by omega) ?_
      refine e_ladd dX2_sumOfMoves_20 rfl ?_
      refine f_lstore_n dX2_sumOfMoves_21 rfl (Nat.le_of_ble_eq_true rfl) rfl ?_
      refine f_iinc dX2_sumOfMoves_22 rfl rfl (Nat.le_of_ble_eq_true rfl) rfl ?_
      refine e_goto (n := 4) dX2_sumOfMoves_25 rfl ?_
      refine EV.fgt 2 ?_
      exact ih4 _ (by omega) (k + 1) (n + F.2 3 k) rfl (by omega) (by have w := eSB_go (f := fun b => F.2 3 b) (n := F.1 0) (i := k) (by omega); omega)
  refine EV.fgt 2 ?_
  exact hL4 _ 0 0 rfl (by omega) rfl 
theorem C_X2_linkedPairs {X : eXT} {a : Nat → Nat} {N : Int} {F : eFs} {P : Int → Int} (hF : okF N F)  :
    EM X mX2_linkedPairs (eRm 4) a [.ref (a 0)] (wFl a F P) (eRet (some (vi (sPrs F))) a (wFl a F P)) := by
  refine EM.of (by decide +kernel) rfl (Nat.le_of_ble_eq_true rfl) ?_
  have hF0 := hF
  obtain ⟨hc, hld, hled, htn, hgo, hkp, hst, hwt, hcl, hsh, hnx, hN, rx, ry, rh, rm, rc, rw9⟩ := hF
  refine e_iconst dX2_linkedPairs_0 rfl ?_
  refine f_istore_n dX2_linkedPairs_1 rfl (Nat.le_of_ble_eq_true rfl) rfl ?_
  refine e_iconst dX2_linkedPairs_2 rfl ?_
  refine f_istore_n dX2_linkedPairs_3 rfl (Nat.le_of_ble_eq_true rfl) rfl ?_
  have hL4 : ∀ (k4 : Nat) (b n : Int) (hk4 : ((F.1 0) - b).toNat = k4) (g4 : 0 ≤ b ∧ b ≤ F.1 0) (e4 : 0 + eSB (fun b => eCB (fun o => sLk F b o) (F.1 0) (b + 1)) (F.1 0) 0 = n + eSB (fun b => eCB (fun o => sLk F b o) (F.1 0) (b + 1)) (F.1 0) b) , EV (mX2_linkedPairs, (eRm 4), eRet (some (vi (sPrs F))) a (wFl a F P), X) a (0, 0) (wFl a F P) 4 [some (.ref (a 0)), some (vi n), some (vi b), none] [] := by
    intro k4
    induction k4 using Nat.strongRecOn with
    | _ k4 ih4 =>
    intro b n hk4 g4 e4
    refine e_iload_n dX2_linkedPairs_4 rfl rfl ?_
    refine e_aload_n dX2_linkedPairs_5 rfl rfl ?_
    refine e_getfield fd_X2_24 dX2_linkedPairs_6 rfl rfl rfl rfl ?_
    refine e_icmp_ge (t := 53) dX2_linkedPairs_9 rfl rfl (by omega) (by omega) (fun h9 => ?_) (fun h9 => ?_)
    · refine e_iload_n dX2_linkedPairs_53 rfl rfl ?_
      exact e_iret dX2_linkedPairs_54 rfl rfl (eRet_i (by have w := eSB_end (f := fun b => eCB (fun o => sLk F b o) (F.1 0) (b + 1)) (n := F.1 0) (i := b) (by omega); unfold sPrs; omega) rfl)
    · refine e_iload_n dX2_linkedPairs_12 rfl rfl ?_
      refine e_iconst dX2_linkedPairs_13 rfl ?_
      refine e_iadd dX2_linkedPairs_14 rfl ?_
      refine f_istore_n dX2_linkedPairs_15 rfl (Nat.le_of_ble_eq_true rfl) rfl ?_
      have hL16 : ∀ (k16 : Nat) (o q : Int) (hk16 : ((F.1 0) - o).toNat = k16) (g16 : (b + 1) ≤ o ∧ o ≤ F.1 0) (e16 : n + eCB (fun o => sLk F b o) (F.1 0) (b + 1) = q + eCB (fun o => sLk F b o) (F.1 0) o) , EV (mX2_linkedPairs, (eRm 4), eRet (some (vi (sPrs F))) a (wFl a F P), X) a (0, 0) (wFl a F P) 16 [some (.ref (a 0)), some (vi q), some (vi b), some (vi o)] [] := by
        intro k16
        induction k16 using Nat.strongRecOn with
        | _ k16 ih16 =>
        intro o q hk16 g16 e16
        refine e_iload_n dX2_linkedPairs_16 rfl rfl ?_
        refine e_aload_n dX2_linkedPairs_17 rfl rfl ?_
        refine e_getfield fd_X2_24 dX2_linkedPairs_18 rfl rfl rfl rfl ?_
        refine e_icmp_ge (t := 47) dX2_linkedPairs_21 rfl rfl (by omega) (by omega) (fun h21 => ?_) (fun h21 => ?_)
        · refine f_iinc dX2_linkedPairs_47 rfl rfl (Nat.le_of_ble_eq_true rfl) rfl ?_
          refine e_goto (n := 4) dX2_linkedPairs_50 rfl ?_
          refine EV.fgt 3 ?_
          exact ih4 _ (by omega) (b + 1) q rfl (by omega) (by have w := eSB_go (f := fun b => eCB (fun o => sLk F b o) (F.1 0) (b + 1)) (n := F.1 0) (i := b) (by omega); have w2 := eCB_end (P := fun o => sLk F b o) (n := F.1 0) (i := o) (by omega); omega)
        · have hJ39 : ∀ (z : Int) (hz : z = eI1 (sLk F b o)), EV (mX2_linkedPairs, (eRm 4), eRet (some (vi (sPrs F))) a (wFl a F P), X) a (0, 0) (wFl a F P) 39 [some (.ref (a 0)), some (vi q), some (vi b), some (vi o)] [vi z, vi q] := by
            intro z hz
            refine e_iadd dX2_linkedPairs_39 rfl ?_
            refine f_istore_n dX2_linkedPairs_40 rfl (Nat.le_of_ble_eq_true rfl) rfl ?_
            refine f_iinc dX2_linkedPairs_41 rfl rfl (Nat.le_of_ble_eq_true rfl) rfl ?_
            refine e_goto (n := 16) dX2_linkedPairs_44 rfl ?_
            exact ih16 _ (by omega) (o + 1) (q + z) rfl (by omega) (by have w := eCB_go (P := fun o => sLk F b o) (n := F.1 0) (i := o) (by omega); omega)
          refine e_iload_n dX2_linkedPairs_24 rfl rfl ?_
          refine e_aload_n dX2_linkedPairs_25 rfl rfl ?_
          refine e_iload_n dX2_linkedPairs_26 rfl rfl ?_
          refine e_iload_n dX2_linkedPairs_27 rfl rfl ?_
          refine e_cV0 [0, 1, 2, 3, 4, 5, 6, 7, 8, 9] lk_X2_199 rfl dX2_linkedPairs_28 rfl (C_X2_linked hF0 (by omega) (by omega)) rfl rfl (Nat.le_of_ble_eq_true rfl) (Nat.le_of_ble_eq_true rfl) (Nat.le_of_ble_eq_true rfl) ⟨rfl, rfl⟩ rfl rfl rfl rfl rfl rfl  ?_
          refine e_ifb_eq (t := 38) dX2_linkedPairs_31 rfl rfl (fun h31 => ?_) (fun h31 => ?_)
          · refine e_iconst dX2_linkedPairs_38 rfl ?_
            exact hJ39 _ (eI1_f (by omega)).symm
          · refine e_iconst dX2_linkedPairs_34 rfl ?_
            refine e_goto (n := 39) dX2_linkedPairs_35 rfl ?_
            exact hJ39 _ (eI1_t (by omega)).symm
      exact hL16 _ (b + 1) n rfl (by omega) rfl 
  refine EV.fgt 3 ?_
  exact hL4 _ 0 0 rfl (by omega) rfl 
theorem C_X2_mixedByComparing {X : eXT} {a : Nat → Nat} {N : Int} {F : eFs} {P : Int → Int} (hF : okF N F)  :
    EM X mX2_mixedByComparing (eRm 4) a [.ref (a 0)] (wFl a F P) (eRet (some (vi (sMix F))) a (wFl a F P)) := by
  refine EM.of (by decide +kernel) rfl (Nat.le_of_ble_eq_true rfl) ?_
  have hF0 := hF
  obtain ⟨hc, hld, hled, htn, hgo, hkp, hst, hwt, hcl, hsh, hnx, hN, rx, ry, rh, rm, rc, rw9⟩ := hF
  refine e_iconst dX2_mixedByComparing_0 rfl ?_
  refine f_istore_n dX2_mixedByComparing_1 rfl (Nat.le_of_ble_eq_true rfl) rfl ?_
  refine e_iconst dX2_mixedByComparing_2 rfl ?_
  refine f_istore_n dX2_mixedByComparing_3 rfl (Nat.le_of_ble_eq_true rfl) rfl ?_
  have hL4 : ∀ (k4 : Nat) (b n : Int) (hk4 : ((F.1 0) - b).toNat = k4) (g4 : 0 ≤ b ∧ b ≤ F.1 0) (e4 : 0 + eSB (fun b => eCB (fun o => ¬ F.2 2 b = F.2 2 o ∧ sLk F b o) (F.1 0) (b + 1)) (F.1 0) 0 = n + eSB (fun b => eCB (fun o => ¬ F.2 2 b = F.2 2 o ∧ sLk F b o) (F.1 0) (b + 1)) (F.1 0) b) , EV (mX2_mixedByComparing, (eRm 4), eRet (some (vi (sMix F))) a (wFl a F P), X) a (0, 0) (wFl a F P) 4 [some (.ref (a 0)), some (vi n), some (vi b), none] [] := by
    intro k4
    induction k4 using Nat.strongRecOn with
    | _ k4 ih4 =>
    intro b n hk4 g4 e4
    refine e_iload_n dX2_mixedByComparing_4 rfl rfl ?_
    refine e_aload_n dX2_mixedByComparing_5 rfl rfl ?_
    refine e_getfield fd_X2_24 dX2_mixedByComparing_6 rfl rfl rfl rfl ?_
    refine e_icmp_ge (t := 68) dX2_mixedByComparing_9 rfl rfl (by omega) (by omega) (fun h9 => ?_) (fun h9 => ?_)
    · refine e_iload_n dX2_mixedByComparing_68 rfl rfl ?_
      exact e_iret dX2_mixedByComparing_69 rfl rfl (eRet_i (by have w := eSB_end (f := fun b => eCB (fun o => ¬ F.2 2 b = F.2 2 o ∧ sLk F b o) (F.1 0) (b + 1)) (n := F.1 0) (i := b) (by omega); unfold sMix; omega) rfl)
    · refine e_iload_n dX2_mixedByComparing_12 rfl rfl ?_
      refine e_iconst dX2_mixedByComparing_13 rfl ?_
      refine e_iadd dX2_mixedByComparing_14 rfl ?_
      refine f_istore_n dX2_mixedByComparing_15 rfl (Nat.le_of_ble_eq_true rfl) rfl ?_
      have hL16 : ∀ (k16 : Nat) (o q : Int) (hk16 : ((F.1 0) - o).toNat = k16) (g16 : (b + 1) ≤ o ∧ o ≤ F.1 0) (e16 : n + eCB (fun o => ¬ F.2 2 b = F.2 2 o ∧ sLk F b o) (F.1 0) (b + 1) = q + eCB (fun o => ¬ F.2 2 b = F.2 2 o ∧ sLk F b o) (F.1 0) o) , EV (mX2_mixedByComparing, (eRm 4), eRet (some (vi (sMix F))) a (wFl a F P), X) a (0, 0) (wFl a F P) 16 [some (.ref (a 0)), some (vi q), some (vi b), some (vi o)] [] := by
        intro k16
        induction k16 using Nat.strongRecOn with
        | _ k16 ih16 =>
        intro o q hk16 g16 e16
        refine e_iload_n dX2_mixedByComparing_16 rfl rfl ?_
        refine e_aload_n dX2_mixedByComparing_17 rfl rfl ?_
        refine e_getfield fd_X2_24 dX2_mixedByComparing_18 rfl rfl rfl rfl ?_
        refine e_icmp_ge (t := 62) dX2_mixedByComparing_21 rfl rfl (by omega) (by omega) (fun h21 => ?_) (fun h21 => ?_)
        · refine f_iinc dX2_mixedByComparing_62 rfl rfl (Nat.le_of_ble_eq_true rfl) rfl ?_
          refine e_goto (n := 4) dX2_mixedByComparing_65 rfl ?_
          refine EV.fgt 3 ?_
          exact ih4 _ (by omega) (b + 1) q rfl (by omega) (by have w := eSB_go (f := fun b => eCB (fun o => ¬ F.2 2 b = F.2 2 o ∧ sLk F b o) (F.1 0) (b + 1)) (n := F.1 0) (i := b) (by omega); have w2 := eCB_end (P := fun o => ¬ F.2 2 b = F.2 2 o ∧ sLk F b o) (n := F.1 0) (i := o) (by omega); omega)
        · have hJ54 : ∀ (z : Int) (hz : z = eI1 (¬ F.2 2 b = F.2 2 o ∧ sLk F b o)), EV (mX2_mixedByComparing, (eRm 4), eRet (some (vi (sMix F))) a (wFl a F P), X) a (0, 0) (wFl a F P) 54 [some (.ref (a 0)), some (vi q), some (vi b), some (vi o)] [vi z, vi q] := by
            intro z hz
            refine e_iadd dX2_mixedByComparing_54 rfl ?_
            refine f_istore_n dX2_mixedByComparing_55 rfl (Nat.le_of_ble_eq_true rfl) rfl ?_
            refine f_iinc dX2_mixedByComparing_56 rfl rfl (Nat.le_of_ble_eq_true rfl) rfl ?_
            refine e_goto (n := 16) dX2_mixedByComparing_59 rfl ?_
            exact ih16 _ (by omega) (o + 1) (q + z) rfl (by omega) (by have w := eCB_go (P := fun o => ¬ F.2 2 b = F.2 2 o ∧ sLk F b o) (n := F.1 0) (i := o) (by omega); omega)
          refine e_iload_n dX2_mixedByComparing_24 rfl rfl ?_
          refine e_aload_n dX2_mixedByComparing_25 rfl rfl ?_
          refine e_getfield fd_X2_18 dX2_mixedByComparing_26 rfl rfl rfl rfl ?_
          refine e_iload_n dX2_mixedByComparing_29 rfl rfl ?_
          refine e_ialoadB dX2_mixedByComparing_30 rfl rfl rfl (by omega) (by decide) rh ?_
          intro b30
          refine e_aload_n dX2_mixedByComparing_31 rfl rfl ?_
          refine e_getfield fd_X2_18 dX2_mixedByComparing_32 rfl rfl rfl rfl ?_
          refine e_iload_n dX2_mixedByComparing_35 rfl rfl ?_
          refine e_ialoadB dX2_mixedByComparing_36 rfl rfl rfl (by omega) (by decide) rh ?_
          intro b36
          refine e_icmp_eq (t := 53) dX2_mixedByComparing_37 rfl rfl (by omega) (by omega) (fun h37 => ?_) (fun h37 => ?_)
          · refine e_iconst dX2_mixedByComparing_53 rfl ?_
            exact hJ54 _ (eI1_f (by omega)).symm
          · refine e_aload_n dX2_mixedByComparing_40 rfl rfl ?_
            refine e_iload_n dX2_mixedByComparing_41 rfl rfl ?_
            refine e_iload_n dX2_mixedByComparing_42 rfl rfl ?_
            refine e_cV0 [0, 1, 2, 3, 4, 5, 6, 7, 8, 9] lk_X2_199 rfl dX2_mixedByComparing_43 rfl (C_X2_linked hF0 (by omega) (by omega)) rfl rfl (Nat.le_of_ble_eq_true rfl) (Nat.le_of_ble_eq_true rfl) (Nat.le_of_ble_eq_true rfl) ⟨rfl, rfl⟩ rfl rfl rfl rfl rfl rfl  ?_
            refine e_ifb_eq (t := 53) dX2_mixedByComparing_46 rfl rfl (fun h46 => ?_) (fun h46 => ?_)
            · refine e_iconst dX2_mixedByComparing_53 rfl ?_
              exact hJ54 _ (eI1_f (by omega)).symm
            · refine e_iconst dX2_mixedByComparing_49 rfl ?_
              refine e_goto (n := 54) dX2_mixedByComparing_50 rfl ?_
              exact hJ54 _ (eI1_t (by omega)).symm
      exact hL16 _ (b + 1) n rfl (by omega) rfl 
  refine EV.fgt 3 ?_
  exact hL4 _ 0 0 rfl (by omega) rfl 
theorem C_X2_linkedPairsOfHandle {X : eXT} {a : Nat → Nat} {N : Int} {F : eFs} {P : Int → Int} (hF : okF N F) {h : Int} (hh : 0 ≤ h ∧ h ≤ 2) :
    EM X mX2_linkedPairsOfHandle (eRm 4) a [.ref (a 0), vi h] (wFl a F P) (eRet (some (vi (sPrH F h))) a (wFl a F P)) := by
  refine EM.of (by decide +kernel) rfl (Nat.le_of_ble_eq_true rfl) ?_
  have hF0 := hF
  obtain ⟨hc, hld, hled, htn, hgo, hkp, hst, hwt, hcl, hsh, hnx, hN, rx, ry, rh, rm, rc, rw9⟩ := hF
  refine e_iconst dX2_linkedPairsOfHandle_0 rfl ?_
  refine f_istore_n dX2_linkedPairsOfHandle_1 rfl (Nat.le_of_ble_eq_true rfl) rfl ?_
  refine e_iconst dX2_linkedPairsOfHandle_2 rfl ?_
  refine f_istore_n dX2_linkedPairsOfHandle_3 rfl (Nat.le_of_ble_eq_true rfl) rfl ?_
  have hL4 : ∀ (k4 : Nat) (b n : Int) (hk4 : ((F.1 0) - b).toNat = k4) (g4 : 0 ≤ b ∧ b ≤ F.1 0) (e4 : 0 + eSB (fun b => eCB (fun o => F.2 2 b = h ∧ F.2 2 o = h ∧ sLk F b o) (F.1 0) (b + 1)) (F.1 0) 0 = n + eSB (fun b => eCB (fun o => F.2 2 b = h ∧ F.2 2 o = h ∧ sLk F b o) (F.1 0) (b + 1)) (F.1 0) b) , EV (mX2_linkedPairsOfHandle, (eRm 4), eRet (some (vi (sPrH F h))) a (wFl a F P), X) a (0, 0) (wFl a F P) 4 [some (.ref (a 0)), some (vi h), some (vi n), some (vi b), none] [] := by
    intro k4
    induction k4 using Nat.strongRecOn with
    | _ k4 ih4 =>
    intro b n hk4 g4 e4
    refine e_iload_n dX2_linkedPairsOfHandle_4 rfl rfl ?_
    refine e_aload_n dX2_linkedPairsOfHandle_5 rfl rfl ?_
    refine e_getfield fd_X2_24 dX2_linkedPairsOfHandle_6 rfl rfl rfl rfl ?_
    refine e_icmp_ge (t := 77) dX2_linkedPairsOfHandle_9 rfl rfl (by omega) (by omega) (fun h9 => ?_) (fun h9 => ?_)
    · refine e_iload_n dX2_linkedPairsOfHandle_77 rfl rfl ?_
      exact e_iret dX2_linkedPairsOfHandle_78 rfl rfl (eRet_i (by have w := eSB_end (f := fun b => eCB (fun o => F.2 2 b = h ∧ F.2 2 o = h ∧ sLk F b o) (F.1 0) (b + 1)) (n := F.1 0) (i := b) (by omega); unfold sPrH; omega) rfl)
    · refine e_iload_n dX2_linkedPairsOfHandle_12 rfl rfl ?_
      refine e_iconst dX2_linkedPairsOfHandle_13 rfl ?_
      refine e_iadd dX2_linkedPairsOfHandle_14 rfl ?_
      refine f_istore dX2_linkedPairsOfHandle_15 rfl (Nat.le_of_ble_eq_true rfl) rfl ?_
      have hL17 : ∀ (k17 : Nat) (o q : Int) (hk17 : ((F.1 0) - o).toNat = k17) (g17 : (b + 1) ≤ o ∧ o ≤ F.1 0) (e17 : n + eCB (fun o => F.2 2 b = h ∧ F.2 2 o = h ∧ sLk F b o) (F.1 0) (b + 1) = q + eCB (fun o => F.2 2 b = h ∧ F.2 2 o = h ∧ sLk F b o) (F.1 0) o) , EV (mX2_linkedPairsOfHandle, (eRm 4), eRet (some (vi (sPrH F h))) a (wFl a F P), X) a (0, 0) (wFl a F P) 17 [some (.ref (a 0)), some (vi h), some (vi q), some (vi b), some (vi o)] [] := by
        intro k17
        induction k17 using Nat.strongRecOn with
        | _ k17 ih17 =>
        intro o q hk17 g17 e17
        refine e_iload dX2_linkedPairsOfHandle_17 rfl rfl ?_
        refine e_aload_n dX2_linkedPairsOfHandle_19 rfl rfl ?_
        refine e_getfield fd_X2_24 dX2_linkedPairsOfHandle_20 rfl rfl rfl rfl ?_
        refine e_icmp_ge (t := 71) dX2_linkedPairsOfHandle_23 rfl rfl (by omega) (by omega) (fun h23 => ?_) (fun h23 => ?_)
        · refine f_iinc dX2_linkedPairsOfHandle_71 rfl rfl (Nat.le_of_ble_eq_true rfl) rfl ?_
          refine e_goto (n := 4) dX2_linkedPairsOfHandle_74 rfl ?_
          refine EV.fgt 4 ?_
          exact ih4 _ (by omega) (b + 1) q rfl (by omega) (by have w := eSB_go (f := fun b => eCB (fun o => F.2 2 b = h ∧ F.2 2 o = h ∧ sLk F b o) (F.1 0) (b + 1)) (n := F.1 0) (i := b) (by omega); have w2 := eCB_end (P := fun o => F.2 2 b = h ∧ F.2 2 o = h ∧ sLk F b o) (n := F.1 0) (i := o) (by omega); omega)
        · refine e_aload_n dX2_linkedPairsOfHandle_26 rfl rfl ?_
          refine e_getfield fd_X2_18 dX2_linkedPairsOfHandle_27 rfl rfl rfl rfl ?_
          refine e_iload_n dX2_linkedPairsOfHandle_30 rfl rfl ?_
          refine e_ialoadB dX2_linkedPairsOfHandle_31 rfl rfl rfl (by omega) (by decide) rh ?_
          intro b31
          refine e_iload_n dX2_linkedPairsOfHandle_32 rfl rfl ?_
          refine e_icmp_ne (t := 71) dX2_linkedPairsOfHandle_33 rfl rfl (by omega) (by omega) (fun h33 => ?_) (fun h33 => ?_)
          · refine f_iinc dX2_linkedPairsOfHandle_71 rfl rfl (Nat.le_of_ble_eq_true rfl) rfl ?_
            refine e_goto (n := 4) dX2_linkedPairsOfHandle_74 rfl ?_
            refine EV.fgt 4 ?_
            exact ih4 _ (by omega) (b + 1) q rfl (by omega) (by have w := eSB_go (f := fun b => eCB (fun o => F.2 2 b = h ∧ F.2 2 o = h ∧ sLk F b o) (F.1 0) (b + 1)) (n := F.1 0) (i := b) (by omega); have w2 := eCB_none (P := fun o => F.2 2 b = h ∧ F.2 2 o = h ∧ sLk F b o) (n := F.1 0) (i := o) (fun j _ _ q9 => absurd q9.1 (by omega)); omega)
          · have hJ63 : ∀ (z : Int) (hz : z = eI1 (F.2 2 b = h ∧ F.2 2 o = h ∧ sLk F b o)), EV (mX2_linkedPairsOfHandle, (eRm 4), eRet (some (vi (sPrH F h))) a (wFl a F P), X) a (0, 0) (wFl a F P) 63 [some (.ref (a 0)), some (vi h), some (vi q), some (vi b), some (vi o)] [vi z, vi q] := by
              intro z hz
              refine e_iadd dX2_linkedPairsOfHandle_63 rfl ?_
              refine f_istore_n dX2_linkedPairsOfHandle_64 rfl (Nat.le_of_ble_eq_true rfl) rfl ?_
              refine f_iinc dX2_linkedPairsOfHandle_65 rfl rfl (Nat.le_of_ble_eq_true rfl) rfl ?_
              refine e_goto (n := 17) dX2_linkedPairsOfHandle_68 rfl ?_
              exact ih17 _ (by omega) (o + 1) (q + z) rfl (by omega) (by have w := eCB_go (P := fun o => F.2 2 b = h ∧ F.2 2 o = h ∧ sLk F b o) (n := F.1 0) (i := o) (by omega); omega)
            refine e_iload_n dX2_linkedPairsOfHandle_36 rfl rfl ?_
            refine e_aload_n dX2_linkedPairsOfHandle_37 rfl rfl ?_
            refine e_getfield fd_X2_18 dX2_linkedPairsOfHandle_38 rfl rfl rfl rfl ?_
            refine e_iload dX2_linkedPairsOfHandle_41 rfl rfl ?_
            refine e_ialoadB dX2_linkedPairsOfHandle_43 rfl rfl rfl (by omega) (by decide) rh ?_
            intro b43
            refine e_iload_n dX2_linkedPairsOfHandle_44 rfl rfl ?_
            refine e_icmp_ne (t := 62) dX2_linkedPairsOfHandle_45 rfl rfl (by omega) (by omega) (fun h45 => ?_) (fun h45 => ?_)
            · refine e_iconst dX2_linkedPairsOfHandle_62 rfl ?_
              exact hJ63 _ (eI1_f (by omega)).symm
            · refine e_aload_n dX2_linkedPairsOfHandle_48 rfl rfl ?_
              refine e_iload_n dX2_linkedPairsOfHandle_49 rfl rfl ?_
              refine e_iload dX2_linkedPairsOfHandle_50 rfl rfl ?_
              refine e_cV0 [0, 1, 2, 3, 4, 5, 6, 7, 8, 9] lk_X2_199 rfl dX2_linkedPairsOfHandle_52 rfl (C_X2_linked hF0 (by omega) (by omega)) rfl rfl (Nat.le_of_ble_eq_true rfl) (Nat.le_of_ble_eq_true rfl) (Nat.le_of_ble_eq_true rfl) ⟨rfl, rfl⟩ rfl rfl rfl rfl rfl rfl  ?_
              refine e_ifb_eq (t := 62) dX2_linkedPairsOfHandle_55 rfl rfl (fun h55 => ?_) (fun h55 => ?_)
              · refine e_iconst dX2_linkedPairsOfHandle_62 rfl ?_
                exact hJ63 _ (eI1_f (by omega)).symm
              · refine e_iconst dX2_linkedPairsOfHandle_58 rfl ?_
                refine e_goto (n := 63) dX2_linkedPairsOfHandle_59 rfl ?_
                exact hJ63 _ (eI1_t (by omega)).symm
      exact hL17 _ (b + 1) n rfl (by omega) rfl 
  refine EV.fgt 4 ?_
  exact hL4 _ 0 0 rfl (by omega) rfl 
abbrev sNrC (F : eFs) (b k z : Int) : Prop := (∀ j, 0 ≤ j → j < k → j = b) ∧ z = -1 ∨ (0 ≤ z ∧ z < k ∧ ¬ z = b ∧ ∀ j, 0 ≤ j → j < k → ¬ j = b → sDD F b z < sDD F b j ∨ (sDD F b z = sDD F b j ∧ z ≤ j))
theorem near_h {F : eFs} {b k z : Int} (e : sNrC F b k z) (hk : k ≤ F.1 0) (h : ¬ z = -1) : sHas F z := by
  rcases e with ⟨-, e⟩ | ⟨e1, e2, -⟩
  · exact absurd e h
  · exact ⟨e1, by omega⟩
theorem near_n {F : eFs} {b k z : Int} (hk : 0 ≤ k) (e : sNrC F b k z) (h : ¬ k = b ∧ (z = -1 ∨ sDD F b k < sDD F b z)) : sNrC F b (k + 1) k := by
  refine Or.inr ⟨hk, by omega, h.1, fun j h1 h2 h3 => ?_⟩
  by_cases hj : j = k
  · subst hj; omega
  · rcases e with ⟨e, -⟩ | ⟨e1, e2, e3, e4⟩
    · exact absurd (e j h1 (by omega)) h3
    · have := e4 j h1 (by omega) h3
      omega
theorem near_o {F : eFs} {b k z : Int} (hk : 0 ≤ k) (e : sNrC F b k z) (h : k = b ∨ (¬ z = -1 ∧ ¬ sDD F b k < sDD F b z)) : sNrC F b (k + 1) z := by
  rcases e with ⟨e, e5⟩ | ⟨e1, e2, e3, e4⟩
  · refine Or.inl ⟨fun j h1 h2 => ?_, e5⟩
    by_cases hj : j = k
    · omega
    · exact e j h1 (by omega)
  · refine Or.inr ⟨e1, by omega, e3, fun j h1 h2 h3 => ?_⟩
    by_cases hj : j = k
    · subst hj; omega
    · exact e4 j h1 (by omega) h3
theorem near_e {F : eFs} {b k z : Int} (hk : 0 ≤ k ∧ k ≤ F.1 0) (h : F.1 0 ≤ k) (e : sNrC F b k z) : z = sNear F b := by
  rcases e with ⟨e, e5⟩ | ⟨e1, e2, e3, e4⟩
  · rw [e5, sNear_no (fun j h1 h2 => e j h1 (by omega))]
  · exact (sNear_of e1 (by omega) e3 (fun j h1 h2 h3 => e4 j h1 (by omega) h3)).symm

theorem C_X2_nearestOther {X : eXT} {a : Nat → Nat} {N : Int} {F : eFs} {P : Int → Int} (hF : okF N F) {b : Int} (hb : sHas F b) :
    EM X mX2_nearestOther (eRm 3) a [.ref (a 0), vi b] (wFl a F P) (eRet (some (vi (sNear F b))) a (wFl a F P)) := by
  refine EM.of (by decide +kernel) rfl (Nat.le_of_ble_eq_true rfl) ?_
  have hF0 := hF
  obtain ⟨hc, hld, hled, htn, hgo, hkp, hst, hwt, hcl, hsh, hnx, hN, rx, ry, rh, rm, rc, rw9⟩ := hF
  refine e_iconst dX2_nearestOther_0 rfl ?_
  refine f_istore_n dX2_nearestOther_1 rfl (Nat.le_of_ble_eq_true rfl) rfl ?_
  refine e_iconst dX2_nearestOther_2 rfl ?_
  refine f_istore_n dX2_nearestOther_3 rfl (Nat.le_of_ble_eq_true rfl) rfl ?_
  have hL4 : ∀ (k4 : Nat) (k z : Int) (hk4 : (F.1 0 - k).toNat = k4) (g4 : 0 ≤ k ∧ k ≤ F.1 0) (e4 : sNrC F b k z), EV (mX2_nearestOther, (eRm 3), eRet (some (vi (sNear F b))) a (wFl a F P), X) a (0, 0) (wFl a F P) 4 [some (.ref (a 0)), some (vi b), some (vi z), some (vi k)] [] := by
    intro k4
    induction k4 using Nat.strongRecOn with
    | _ k4 ih4 =>
    intro k z hk4 g4 e4
    refine e_iload_n dX2_nearestOther_4 rfl rfl ?_
    refine e_aload_n dX2_nearestOther_5 rfl rfl ?_
    refine e_getfield fd_X2_24 dX2_nearestOther_6 rfl rfl rfl rfl ?_
    refine e_icmp_ge (t := 45) dX2_nearestOther_9 rfl rfl (by omega) (by omega) (fun h9 => ?_) (fun h9 => ?_)
    · refine e_iload_n dX2_nearestOther_45 rfl rfl ?_
      exact e_iret dX2_nearestOther_46 rfl rfl (eRet_i (near_e g4 h9 e4) rfl)
    · refine e_iload_n dX2_nearestOther_12 rfl rfl ?_
      refine e_iload_n dX2_nearestOther_13 rfl rfl ?_
      refine e_icmp_eq (t := 39) dX2_nearestOther_14 rfl rfl (by omega) (by omega) (fun h14 => ?_) (fun h14 => ?_)
      · refine f_iinc dX2_nearestOther_39 rfl rfl (Nat.le_of_ble_eq_true rfl) rfl ?_
        refine e_goto (n := 4) dX2_nearestOther_42 rfl ?_
        exact ih4 _ (by omega) (k + 1) z rfl (by omega) (by first | exact near_o (by omega) e4 (by omega))
      · refine e_iload_n dX2_nearestOther_17 rfl rfl ?_
        refine e_iconst dX2_nearestOther_18 rfl ?_
        refine e_icmp_eq (t := 37) dX2_nearestOther_19 rfl rfl (by omega) (by omega) (fun h19 => ?_) (fun h19 => ?_)
        · refine e_iload_n dX2_nearestOther_37 rfl rfl ?_
          refine f_istore_n dX2_nearestOther_38 rfl (Nat.le_of_ble_eq_true rfl) rfl ?_
          refine f_iinc dX2_nearestOther_39 rfl rfl (Nat.le_of_ble_eq_true rfl) rfl ?_
          refine e_goto (n := 4) dX2_nearestOther_42 rfl ?_
          exact ih4 _ (by omega) (k + 1) k rfl (by omega) (by first | exact near_n (by omega) e4 (by omega))
        · refine e_aload_n dX2_nearestOther_22 rfl rfl ?_
          refine e_iload_n dX2_nearestOther_23 rfl rfl ?_
          refine e_iload_n dX2_nearestOther_24 rfl rfl ?_
          have z0 : sHas F z := near_h e4 (by omega) h19
          refine e_cV0 [0, 1, 2, 3, 4, 5, 6, 7, 8, 9] lk_X2_183 rfl dX2_nearestOther_25 rfl (C_X2_distanceOf hF0 (by omega) (by omega)) rfl rfl (Nat.le_of_ble_eq_true rfl) (Nat.le_of_ble_eq_true rfl) (Nat.le_of_ble_eq_true rfl) ⟨rfl, rfl⟩ rfl rfl rfl rfl rfl rfl  ?_
          have u := sDD_in hF0 (b) (k)
          refine e_aload_n dX2_nearestOther_28 rfl rfl ?_
          refine e_iload_n dX2_nearestOther_29 rfl rfl ?_
          refine e_iload_n dX2_nearestOther_30 rfl rfl ?_
          refine e_cV0 [0, 1, 2, 3, 4, 5, 6, 7, 8, 9] lk_X2_183 rfl dX2_nearestOther_31 rfl (C_X2_distanceOf hF0 (by omega) (by omega)) rfl rfl (Nat.le_of_ble_eq_true rfl) (Nat.le_of_ble_eq_true rfl) (Nat.le_of_ble_eq_true rfl) ⟨rfl, rfl⟩ rfl rfl rfl rfl rfl rfl  ?_
          have u2 := sDD_in hF0 b z
          refine e_icmp_ge (t := 39) dX2_nearestOther_34 rfl rfl (by omega) (by omega) (fun h34 => ?_) (fun h34 => ?_)
          · refine f_iinc dX2_nearestOther_39 rfl rfl (Nat.le_of_ble_eq_true rfl) rfl ?_
            refine e_goto (n := 4) dX2_nearestOther_42 rfl ?_
            exact ih4 _ (by omega) (k + 1) z rfl (by omega) (by first | exact near_o (by omega) e4 (by omega))
          · refine e_iload_n dX2_nearestOther_37 rfl rfl ?_
            refine f_istore_n dX2_nearestOther_38 rfl (Nat.le_of_ble_eq_true rfl) rfl ?_
            refine f_iinc dX2_nearestOther_39 rfl rfl (Nat.le_of_ble_eq_true rfl) rfl ?_
            refine e_goto (n := 4) dX2_nearestOther_42 rfl ?_
            exact ih4 _ (by omega) (k + 1) k rfl (by omega) (by first | exact near_n (by omega) e4 (by omega))
  exact hL4 _ 0 (-1) rfl (by omega) (Or.inl ⟨fun j _ _ => by omega, rfl⟩)
theorem narC {z : Int} (h : 0 ≤ z ∧ z ≤ 65535) : narrow .char (vi z) = vi z := by
  have h2 := oI_nchar h
  unfold vp_nar at h2
  have : ∃ y, narrow .char (.int (Int32.ofInt z)) = .int y := ⟨_, rfl⟩
  obtain ⟨y, hy⟩ := this
  rw [hy] at h2
  show narrow .char (.int (Int32.ofInt z)) = .int (Int32.ofInt z)
  rw [hy]
  exact congrArg _ h2

theorem C_X2_signOf {X : eXT} {a : Nat → Nat} {N : Int} {F : eFs} {P : Int → Int} (hF : okF N F) {x y : Int} (hin : sIn x y) :
    EM X mX2_signOf (eRm 3) a [.ref (a 0), vi x, vi y] (wFl a F P) (eRet (some (vi (sSgn F x y))) a (wFl a F P)) := by
  refine EM.of (by decide +kernel) rfl (Nat.le_of_ble_eq_true rfl) ?_
  have hF0 := hF
  obtain ⟨hc, hld, hled, htn, hgo, hkp, hst, hwt, hcl, hsh, hnx, hN, rx, ry, rh, rm, rc, rw9⟩ := hF
  have tin := sAt_in (F := F) (x := x) (y := y)
  refine e_aload_n dX2_signOf_0 rfl rfl ?_
  refine e_iload_n dX2_signOf_1 rfl rfl ?_
  refine e_iload_n dX2_signOf_2 rfl rfl ?_
  refine e_cV0 [0, 1, 2, 3, 4, 5, 6, 7, 8, 9] lk_X2_119 rfl dX2_signOf_3 rfl (C_X2_basketIn hF0 (by omega) (by omega)) rfl rfl (Nat.le_of_ble_eq_true rfl) (Nat.le_of_ble_eq_true rfl) (Nat.le_of_ble_eq_true rfl) ⟨rfl, rfl⟩ rfl rfl rfl rfl rfl rfl  ?_
  refine f_istore_n dX2_signOf_6 rfl (Nat.le_of_ble_eq_true rfl) rfl ?_
  refine e_iload_n dX2_signOf_7 rfl rfl ?_
  refine e_iconst dX2_signOf_8 rfl ?_
  refine e_icmp_eq (t := 18) dX2_signOf_9 rfl rfl (by omega) (by omega) (fun h9 => ?_) (fun h9 => ?_)
  · refine e_aload_n dX2_signOf_18 rfl rfl ?_
    refine e_getfield fd_X2_31 dX2_signOf_19 rfl rfl rfl rfl ?_
    refine e_iload_n dX2_signOf_22 rfl rfl ?_
    refine e_iload_n dX2_signOf_23 rfl rfl ?_
    refine e_cV0 [5, 6] lk_X2_116 rfl dX2_signOf_24 rfl (C_X0_covers (by omega) (by omega)) rfl rfl (Nat.le_of_ble_eq_true rfl) (Nat.le_of_ble_eq_true rfl) (Nat.le_of_ble_eq_true rfl) ⟨rfl, rfl⟩ rfl rfl rfl rfl rfl rfl  ?_
    refine e_ifb_eq (t := 35) dX2_signOf_27 rfl rfl (fun h27 => ?_) (fun h27 => ?_)
    · refine e_bipush dX2_signOf_35 rfl rfl ?_
      exact e_iret dX2_signOf_37 rfl (by decide) (eRet_i (by unfold sSgn; rw [if_pos h9]; first | rw [if_pos h27] | rw [if_neg h27]) rfl)
    · refine e_bipush dX2_signOf_30 rfl rfl ?_
      refine e_goto (n := 37) dX2_signOf_32 rfl ?_
      exact e_iret dX2_signOf_37 rfl (by decide) (eRet_i (by unfold sSgn; rw [if_pos h9]; first | rw [if_pos h27] | rw [if_neg h27]) rfl)
  · refine e_bipush dX2_signOf_12 rfl rfl ?_
    refine e_iload_n dX2_signOf_14 rfl rfl ?_
    refine e_iadd dX2_signOf_15 rfl ?_
    refine e_i2c dX2_signOf_16 rfl (by omega) ?_
    exact e_iret dX2_signOf_17 rfl (narC (by omega)) (eRet_i (by unfold sSgn; rw [if_neg h9]) rfl)
theorem C_X2_hindranceOutside {X : eXT} {a : Nat → Nat} {z lo hi : Int} (gz : -2147483648 ≤ z ∧ z ≤ 2147483647) (glo : -2147483648 ≤ lo ∧ lo ≤ 2147483647) (ghi : -2147483648 ≤ hi ∧ hi ≤ 2147483647) :
    EM X mX2_hindranceOutside (eRm 0) a [vi z, vi lo, vi hi] ([]) (eRet (some (vi (hOut z lo hi))) a []) := by
  refine EM.of (by decide +kernel) rfl (Nat.le_of_ble_eq_true rfl) ?_
  refine e_iload_n dX2_hindranceOutside_0 rfl rfl ?_
  refine e_iload_n dX2_hindranceOutside_1 rfl rfl ?_
  refine e_icmp_lt (t := 14) dX2_hindranceOutside_2 rfl rfl (by omega) (by omega) (fun h2 => ?_) (fun h2 => ?_)
  · refine e_iconst dX2_hindranceOutside_14 rfl ?_
    exact e_iret dX2_hindranceOutside_15 rfl rfl (eRet_i (by unfold hOut; (repeat' split) <;> omega) rfl)
  · refine e_iload_n dX2_hindranceOutside_5 rfl rfl ?_
    refine e_iload_n dX2_hindranceOutside_6 rfl rfl ?_
    refine e_icmp_gt (t := 14) dX2_hindranceOutside_7 rfl rfl (by omega) (by omega) (fun h7 => ?_) (fun h7 => ?_)
    · refine e_iconst dX2_hindranceOutside_14 rfl ?_
      exact e_iret dX2_hindranceOutside_15 rfl rfl (eRet_i (by unfold hOut; (repeat' split) <;> omega) rfl)
    · refine e_iconst dX2_hindranceOutside_10 rfl ?_
      refine e_goto (n := 15) dX2_hindranceOutside_11 rfl ?_
      exact e_iret dX2_hindranceOutside_15 rfl rfl (eRet_i (by unfold hOut; (repeat' split) <;> omega) rfl)
theorem C_X2_hindranceToAdd {X : eXT} {a : Nat → Nat} {N : Int} {F : eFs} {P : Int → Int} (hF : okF N F) {x y h : Int} (gx : -2147483648 ≤ x ∧ x ≤ 2147483647) (gy : -2147483648 ≤ y ∧ y ≤ 2147483647) (gh : -2147483648 ≤ h ∧ h ≤ 2147483647) :
    EM X mX2_hindranceToAdd (eRm 3) a [.ref (a 0), vi x, vi y, vi h] (wFl a F P) (eRet (some (vi (hAdd F x y h))) a (wFl a F P)) := by
  refine EM.of (by decide +kernel) rfl (Nat.le_of_ble_eq_true rfl) ?_
  have hF0 := hF
  obtain ⟨hc, hld, hled, htn, hgo, hkp, hst, hwt, hcl, hsh, hnx, hN, rx, ry, rh, rm, rc, rw9⟩ := hF
  refine e_iload_n dX2_hindranceToAdd_0 rfl rfl ?_
  refine e_iload_n dX2_hindranceToAdd_1 rfl rfl ?_
  refine e_cS0 [] lk_X2_107 rfl dX2_hindranceToAdd_2 rfl (C_X0_inSky (by omega) (by omega)) rfl rfl (Nat.le_of_ble_eq_true rfl) (Nat.le_of_ble_eq_true rfl) (Nat.le_of_ble_eq_true rfl) ⟨rfl, rfl⟩ rfl rfl  ?_
  refine e_ifb_eq (t := 17) dX2_hindranceToAdd_5 rfl rfl (fun h5 => ?_) (fun h5 => ?_)
  · refine e_iconst dX2_hindranceToAdd_17 rfl ?_
    exact e_iret dX2_hindranceToAdd_18 rfl rfl (eRet_i (by unfold hAdd; first | rw [if_pos (Or.inl h5)] | rw [if_pos (Or.inr (by omega))] | (rw [if_neg (fun q => q.elim (fun r => r h5) (fun r => by omega))]; first | rw [if_pos (by omega)] | (rw [if_neg (by omega)]; first | rw [if_pos h37] | rw [if_neg h37]))) rfl)
  · refine e_iload_n dX2_hindranceToAdd_8 rfl rfl ?_
    refine e_if_lt (t := 17) dX2_hindranceToAdd_9 rfl rfl (by omega) (fun h9 => ?_) (fun h9 => ?_)
    · refine e_iconst dX2_hindranceToAdd_17 rfl ?_
      exact e_iret dX2_hindranceToAdd_18 rfl rfl (eRet_i (by unfold hAdd; first | rw [if_pos (Or.inl h5)] | rw [if_pos (Or.inr (by omega))] | (rw [if_neg (fun q => q.elim (fun r => r h5) (fun r => by omega))]; first | rw [if_pos (by omega)] | (rw [if_neg (by omega)]; first | rw [if_pos h37] | rw [if_neg h37]))) rfl)
    · refine e_iload_n dX2_hindranceToAdd_12 rfl rfl ?_
      refine e_iconst dX2_hindranceToAdd_13 rfl ?_
      refine e_icmp_lt (t := 19) dX2_hindranceToAdd_14 rfl rfl (by omega) (by omega) (fun h14 => ?_) (fun h14 => ?_)
      · refine e_aload_n dX2_hindranceToAdd_19 rfl rfl ?_
        refine e_getfield fd_X2_24 dX2_hindranceToAdd_20 rfl rfl rfl rfl ?_
        refine e_bipush dX2_hindranceToAdd_23 rfl rfl ?_
        refine e_icmp_lt (t := 30) dX2_hindranceToAdd_25 rfl rfl (by omega) (by omega) (fun h25 => ?_) (fun h25 => ?_)
        · refine e_aload_n dX2_hindranceToAdd_30 rfl rfl ?_
          refine e_iconst dX2_hindranceToAdd_31 rfl ?_
          refine e_iload_n dX2_hindranceToAdd_32 rfl rfl ?_
          refine e_iload_n dX2_hindranceToAdd_33 rfl rfl ?_
          refine e_cV0 [0, 1, 2, 3, 4, 5, 6, 7, 8, 9] lk_X2_111 rfl dX2_hindranceToAdd_34 rfl (C_X2_isPossible hF0 (by omega) (by omega) (by omega)) rfl rfl (Nat.le_of_ble_eq_true rfl) (Nat.le_of_ble_eq_true rfl) (Nat.le_of_ble_eq_true rfl) ⟨rfl, rfl⟩ rfl rfl rfl rfl rfl rfl  ?_
          refine e_ifb_eq (t := 44) dX2_hindranceToAdd_37 rfl rfl (fun h37 => ?_) (fun h37 => ?_)
          · refine e_bipush dX2_hindranceToAdd_44 rfl rfl ?_
            exact e_iret dX2_hindranceToAdd_46 rfl rfl (eRet_i (by unfold hAdd; first | rw [if_pos (Or.inl h5)] | rw [if_pos (Or.inr (by omega))] | (rw [if_neg (fun q => q.elim (fun r => r h5) (fun r => by omega))]; first | rw [if_pos (by omega)] | (rw [if_neg (by omega)]; first | rw [if_pos h37] | rw [if_neg h37]))) rfl)
          · refine e_iconst dX2_hindranceToAdd_40 rfl ?_
            refine e_goto (n := 46) dX2_hindranceToAdd_41 rfl ?_
            exact e_iret dX2_hindranceToAdd_46 rfl rfl (eRet_i (by unfold hAdd; first | rw [if_pos (Or.inl h5)] | rw [if_pos (Or.inr (by omega))] | (rw [if_neg (fun q => q.elim (fun r => r h5) (fun r => by omega))]; first | rw [if_pos (by omega)] | (rw [if_neg (by omega)]; first | rw [if_pos h37] | rw [if_neg h37]))) rfl)
        · refine e_iconst dX2_hindranceToAdd_28 rfl ?_
          exact e_iret dX2_hindranceToAdd_29 rfl rfl (eRet_i (by unfold hAdd; first | rw [if_pos (Or.inl h5)] | rw [if_pos (Or.inr (by omega))] | (rw [if_neg (fun q => q.elim (fun r => r h5) (fun r => by omega))]; first | rw [if_pos (by omega)] | (rw [if_neg (by omega)]; first | rw [if_pos h37] | rw [if_neg h37]))) rfl)
      · refine e_iconst dX2_hindranceToAdd_17 rfl ?_
        exact e_iret dX2_hindranceToAdd_18 rfl rfl (eRet_i (by unfold hAdd; first | rw [if_pos (Or.inl h5)] | rw [if_pos (Or.inr (by omega))] | (rw [if_neg (fun q => q.elim (fun r => r h5) (fun r => by omega))]; first | rw [if_pos (by omega)] | (rw [if_neg (by omega)]; first | rw [if_pos h37] | rw [if_neg h37]))) rfl)
theorem C_X2_hindranceToJump {X : eXT} {a : Nat → Nat} {N : Int} {F : eFs} {P : Int → Int} (hF : okF N F) {b x y : Int} (gb : -2147483648 ≤ b ∧ b ≤ 2147483647) (gx : -2147483648 ≤ x ∧ x ≤ 2147483647) (gy : -2147483648 ≤ y ∧ y ≤ 2147483647) :
    EM X mX2_hindranceToJump (eRm 3) a [.ref (a 0), vi b, vi x, vi y] (wFl a F P) (eRet (some (vi (hJump F b x y))) a (wFl a F P)) := by
  refine EM.of (by decide +kernel) rfl (Nat.le_of_ble_eq_true rfl) ?_
  have hF0 := hF
  obtain ⟨hc, hld, hled, htn, hgo, hkp, hst, hwt, hcl, hsh, hnx, hN, rx, ry, rh, rm, rc, rw9⟩ := hF
  refine e_aload_n dX2_hindranceToJump_0 rfl rfl ?_
  refine e_iload_n dX2_hindranceToJump_1 rfl rfl ?_
  refine e_cV0 [0, 1, 2, 3, 4, 5, 6, 7, 8, 9] lk_X2_90 rfl dX2_hindranceToJump_2 rfl (C_X2_has hF0 (by omega)) rfl rfl (Nat.le_of_ble_eq_true rfl) (Nat.le_of_ble_eq_true rfl) (Nat.le_of_ble_eq_true rfl) ⟨rfl, rfl⟩ rfl rfl rfl rfl rfl rfl  ?_
  refine e_ifb_ne (t := 10) dX2_hindranceToJump_5 rfl rfl (fun h5 => ?_) (fun h5 => ?_)
  · refine e_iload_n dX2_hindranceToJump_10 rfl rfl ?_
    refine e_iload_n dX2_hindranceToJump_11 rfl rfl ?_
    refine e_cS0 [] lk_X2_107 rfl dX2_hindranceToJump_12 rfl (C_X0_inSky (by omega) (by omega)) rfl rfl (Nat.le_of_ble_eq_true rfl) (Nat.le_of_ble_eq_true rfl) (Nat.le_of_ble_eq_true rfl) ⟨rfl, rfl⟩ rfl rfl  ?_
    refine e_ifb_ne (t := 20) dX2_hindranceToJump_15 rfl rfl (fun h15 => ?_) (fun h15 => ?_)
    · refine e_aload_n dX2_hindranceToJump_20 rfl rfl ?_
      refine e_iload_n dX2_hindranceToJump_21 rfl rfl ?_
      refine e_iload_n dX2_hindranceToJump_22 rfl rfl ?_
      refine e_iload_n dX2_hindranceToJump_23 rfl rfl ?_
      refine e_cV0 [0, 1, 2, 3, 4, 5, 6, 7, 8, 9] lk_X2_111 rfl dX2_hindranceToJump_24 rfl (C_X2_isPossible hF0 (by omega) (by omega) (by omega)) rfl rfl (Nat.le_of_ble_eq_true rfl) (Nat.le_of_ble_eq_true rfl) (Nat.le_of_ble_eq_true rfl) ⟨rfl, rfl⟩ rfl rfl rfl rfl rfl rfl  ?_
      refine e_ifb_eq (t := 34) dX2_hindranceToJump_27 rfl rfl (fun h27 => ?_) (fun h27 => ?_)
      · refine e_bipush dX2_hindranceToJump_34 rfl rfl ?_
        exact e_iret dX2_hindranceToJump_36 rfl rfl (eRet_i (by unfold hJump; first | rw [if_pos h5] | (rw [if_neg (fun q => q h5)]; first | rw [if_pos h15] | (rw [if_neg (fun q => q h15)]; first | rw [if_pos h27] | rw [if_neg h27]))) rfl)
      · refine e_iconst dX2_hindranceToJump_30 rfl ?_
        refine e_goto (n := 36) dX2_hindranceToJump_31 rfl ?_
        exact e_iret dX2_hindranceToJump_36 rfl rfl (eRet_i (by unfold hJump; first | rw [if_pos h5] | (rw [if_neg (fun q => q h5)]; first | rw [if_pos h15] | (rw [if_neg (fun q => q h15)]; first | rw [if_pos h27] | rw [if_neg h27]))) rfl)
    · refine e_iconst dX2_hindranceToJump_18 rfl ?_
      exact e_iret dX2_hindranceToJump_19 rfl rfl (eRet_i (by unfold hJump; first | rw [if_pos h5] | (rw [if_neg (fun q => q h5)]; first | rw [if_pos h15] | (rw [if_neg (fun q => q h15)]; first | rw [if_pos h27] | rw [if_neg h27]))) rfl)
  · refine e_iconst dX2_hindranceToJump_8 rfl ?_
    exact e_iret dX2_hindranceToJump_9 rfl rfl (eRet_i (by unfold hJump; first | rw [if_pos h5] | (rw [if_neg (fun q => q h5)]; first | rw [if_pos h15] | (rw [if_neg (fun q => q h15)]; first | rw [if_pos h27] | rw [if_neg h27]))) rfl)
theorem C_X2_hindranceToCloud {X : eXT} {a : Nat → Nat} {N : Int} {F : eFs} {P : Int → Int} (hF : okF N F) {x y : Int} (gx : -2147483648 ≤ x ∧ x ≤ 2147483647) (gy : -2147483648 ≤ y ∧ y ≤ 2147483647) :
    EM X mX2_hindranceToCloud (eRm 3) a [.ref (a 0), vi x, vi y] (wFl a F P) (eRet (some (vi (hCloud F x y))) a (wFl a F P)) := by
  refine EM.of (by decide +kernel) rfl (Nat.le_of_ble_eq_true rfl) ?_
  have hF0 := hF
  obtain ⟨hc, hld, hled, htn, hgo, hkp, hst, hwt, hcl, hsh, hnx, hN, rx, ry, rh, rm, rc, rw9⟩ := hF
  have tin := sAt_in (F := F) (x := x) (y := y)
  refine e_iload_n dX2_hindranceToCloud_0 rfl rfl ?_
  refine e_iload_n dX2_hindranceToCloud_1 rfl rfl ?_
  refine e_cS0 [] lk_X2_107 rfl dX2_hindranceToCloud_2 rfl (C_X0_inSky (by omega) (by omega)) rfl rfl (Nat.le_of_ble_eq_true rfl) (Nat.le_of_ble_eq_true rfl) (Nat.le_of_ble_eq_true rfl) ⟨rfl, rfl⟩ rfl rfl  ?_
  refine e_ifb_ne (t := 10) dX2_hindranceToCloud_5 rfl rfl (fun h5 => ?_) (fun h5 => ?_)
  · refine e_aload_n dX2_hindranceToCloud_10 rfl rfl ?_
    refine e_getfield fd_X2_31 dX2_hindranceToCloud_11 rfl rfl rfl rfl ?_
    refine e_getfield fd_X2_115 dX2_hindranceToCloud_14 rfl rfl rfl rfl ?_
    refine e_bipush dX2_hindranceToCloud_17 rfl rfl ?_
    refine e_icmp_ge (t := 34) dX2_hindranceToCloud_19 rfl rfl (by omega) (by omega) (fun h19 => ?_) (fun h19 => ?_)
    · refine e_iconst dX2_hindranceToCloud_34 rfl ?_
      exact e_iret dX2_hindranceToCloud_35 rfl rfl (eRet_i (by unfold hCloud; first | rw [if_pos h5] | (rw [if_neg (fun q => q h5)]; first | rw [if_pos (Or.inl (by omega))] | rw [if_pos (Or.inr h31)] | (rw [if_neg (fun q => q.elim (fun r => by omega) (fun r => h31 r))]; first | rw [if_pos (by omega)] | rw [if_neg (by omega)]))) rfl)
    · refine e_aload_n dX2_hindranceToCloud_22 rfl rfl ?_
      refine e_getfield fd_X2_31 dX2_hindranceToCloud_23 rfl rfl rfl rfl ?_
      refine e_iload_n dX2_hindranceToCloud_26 rfl rfl ?_
      refine e_iload_n dX2_hindranceToCloud_27 rfl rfl ?_
      refine e_cV0 [5, 6] lk_X2_116 rfl dX2_hindranceToCloud_28 rfl (C_X0_covers (by omega) (by omega)) rfl rfl (Nat.le_of_ble_eq_true rfl) (Nat.le_of_ble_eq_true rfl) (Nat.le_of_ble_eq_true rfl) ⟨rfl, rfl⟩ rfl rfl rfl rfl rfl rfl  ?_
      refine e_ifb_eq (t := 36) dX2_hindranceToCloud_31 rfl rfl (fun h31 => ?_) (fun h31 => ?_)
      · refine e_aload_n dX2_hindranceToCloud_36 rfl rfl ?_
        refine e_iload_n dX2_hindranceToCloud_37 rfl rfl ?_
        refine e_iload_n dX2_hindranceToCloud_38 rfl rfl ?_
        refine e_cV0 [0, 1, 2, 3, 4, 5, 6, 7, 8, 9] lk_X2_119 rfl dX2_hindranceToCloud_39 rfl (C_X2_basketIn hF0 (by omega) (by omega)) rfl rfl (Nat.le_of_ble_eq_true rfl) (Nat.le_of_ble_eq_true rfl) (Nat.le_of_ble_eq_true rfl) ⟨rfl, rfl⟩ rfl rfl rfl rfl rfl rfl  ?_
        refine e_iconst dX2_hindranceToCloud_42 rfl ?_
        refine e_icmp_ne (t := 50) dX2_hindranceToCloud_43 rfl rfl (by omega) (by omega) (fun h43 => ?_) (fun h43 => ?_)
        · refine e_iconst dX2_hindranceToCloud_50 rfl ?_
          exact e_iret dX2_hindranceToCloud_51 rfl rfl (eRet_i (by unfold hCloud; first | rw [if_pos h5] | (rw [if_neg (fun q => q h5)]; first | rw [if_pos (Or.inl (by omega))] | rw [if_pos (Or.inr h31)] | (rw [if_neg (fun q => q.elim (fun r => by omega) (fun r => h31 r))]; first | rw [if_pos (by omega)] | rw [if_neg (by omega)]))) rfl)
        · refine e_iconst dX2_hindranceToCloud_46 rfl ?_
          refine e_goto (n := 51) dX2_hindranceToCloud_47 rfl ?_
          exact e_iret dX2_hindranceToCloud_51 rfl rfl (eRet_i (by unfold hCloud; first | rw [if_pos h5] | (rw [if_neg (fun q => q h5)]; first | rw [if_pos (Or.inl (by omega))] | rw [if_pos (Or.inr h31)] | (rw [if_neg (fun q => q.elim (fun r => by omega) (fun r => h31 r))]; first | rw [if_pos (by omega)] | rw [if_neg (by omega)]))) rfl)
      · refine e_iconst dX2_hindranceToCloud_34 rfl ?_
        exact e_iret dX2_hindranceToCloud_35 rfl rfl (eRet_i (by unfold hCloud; first | rw [if_pos h5] | (rw [if_neg (fun q => q h5)]; first | rw [if_pos (Or.inl (by omega))] | rw [if_pos (Or.inr h31)] | (rw [if_neg (fun q => q.elim (fun r => by omega) (fun r => h31 r))]; first | rw [if_pos (by omega)] | rw [if_neg (by omega)]))) rfl)
  · refine e_iconst dX2_hindranceToCloud_8 rfl ?_
    exact e_iret dX2_hindranceToCloud_9 rfl rfl (eRet_i (by unfold hCloud; first | rw [if_pos h5] | (rw [if_neg (fun q => q h5)]; first | rw [if_pos (Or.inl (by omega))] | rw [if_pos (Or.inr h31)] | (rw [if_neg (fun q => q.elim (fun r => by omega) (fun r => h31 r))]; first | rw [if_pos (by omega)] | rw [if_neg (by omega)]))) rfl)
theorem C_X2_hindranceToClear {X : eXT} {a : Nat → Nat} {N : Int} {F : eFs} {P : Int → Int} (hF : okF N F) {x y : Int} (gx : -2147483648 ≤ x ∧ x ≤ 2147483647) (gy : -2147483648 ≤ y ∧ y ≤ 2147483647) :
    EM X mX2_hindranceToClear (eRm 3) a [.ref (a 0), vi x, vi y] (wFl a F P) (eRet (some (vi (hClear F x y))) a (wFl a F P)) := by
  refine EM.of (by decide +kernel) rfl (Nat.le_of_ble_eq_true rfl) ?_
  have hF0 := hF
  obtain ⟨hc, hld, hled, htn, hgo, hkp, hst, hwt, hcl, hsh, hnx, hN, rx, ry, rh, rm, rc, rw9⟩ := hF
  refine e_iload_n dX2_hindranceToClear_0 rfl rfl ?_
  refine e_iload_n dX2_hindranceToClear_1 rfl rfl ?_
  refine e_cS0 [] lk_X2_107 rfl dX2_hindranceToClear_2 rfl (C_X0_inSky (by omega) (by omega)) rfl rfl (Nat.le_of_ble_eq_true rfl) (Nat.le_of_ble_eq_true rfl) (Nat.le_of_ble_eq_true rfl) ⟨rfl, rfl⟩ rfl rfl  ?_
  refine e_ifb_ne (t := 10) dX2_hindranceToClear_5 rfl rfl (fun h5 => ?_) (fun h5 => ?_)
  · refine e_aload_n dX2_hindranceToClear_10 rfl rfl ?_
    refine e_getfield fd_X2_31 dX2_hindranceToClear_11 rfl rfl rfl rfl ?_
    refine e_iload_n dX2_hindranceToClear_14 rfl rfl ?_
    refine e_iload_n dX2_hindranceToClear_15 rfl rfl ?_
    refine e_cV0 [5, 6] lk_X2_116 rfl dX2_hindranceToClear_16 rfl (C_X0_covers (by omega) (by omega)) rfl rfl (Nat.le_of_ble_eq_true rfl) (Nat.le_of_ble_eq_true rfl) (Nat.le_of_ble_eq_true rfl) ⟨rfl, rfl⟩ rfl rfl rfl rfl rfl rfl  ?_
    refine e_ifb_eq (t := 26) dX2_hindranceToClear_19 rfl rfl (fun h19 => ?_) (fun h19 => ?_)
    · refine e_iconst dX2_hindranceToClear_26 rfl ?_
      exact e_iret dX2_hindranceToClear_27 rfl rfl (eRet_i (by unfold hClear; first | rw [if_pos h5] | (rw [if_neg (fun q => q h5)]; first | rw [if_pos h19] | rw [if_neg h19])) rfl)
    · refine e_iconst dX2_hindranceToClear_22 rfl ?_
      refine e_goto (n := 27) dX2_hindranceToClear_23 rfl ?_
      exact e_iret dX2_hindranceToClear_27 rfl rfl (eRet_i (by unfold hClear; first | rw [if_pos h5] | (rw [if_neg (fun q => q h5)]; first | rw [if_pos h19] | rw [if_neg h19])) rfl)
  · refine e_iconst dX2_hindranceToClear_8 rfl ?_
    exact e_iret dX2_hindranceToClear_9 rfl rfl (eRet_i (by unfold hClear; first | rw [if_pos h5] | (rw [if_neg (fun q => q h5)]; first | rw [if_pos h19] | rw [if_neg h19])) rfl)
theorem C_X2_hindranceToGoal {X : eXT} {a : Nat → Nat} {N : Int} {F : eFs} {P : Int → Int} (hF : okF N F) {x y : Int} (gx : -2147483648 ≤ x ∧ x ≤ 2147483647) (gy : -2147483648 ≤ y ∧ y ≤ 2147483647) :
    EM X mX2_hindranceToGoal (eRm 3) a [.ref (a 0), vi x, vi y] (wFl a F P) (eRet (some (vi (hGoal F x y))) a (wFl a F P)) := by
  refine EM.of (by decide +kernel) rfl (Nat.le_of_ble_eq_true rfl) ?_
  have hF0 := hF
  obtain ⟨hc, hld, hled, htn, hgo, hkp, hst, hwt, hcl, hsh, hnx, hN, rx, ry, rh, rm, rc, rw9⟩ := hF
  refine e_iload_n dX2_hindranceToGoal_0 rfl rfl ?_
  refine e_iload_n dX2_hindranceToGoal_1 rfl rfl ?_
  refine e_cS0 [] lk_X2_107 rfl dX2_hindranceToGoal_2 rfl (C_X0_inSky (by omega) (by omega)) rfl rfl (Nat.le_of_ble_eq_true rfl) (Nat.le_of_ble_eq_true rfl) (Nat.le_of_ble_eq_true rfl) ⟨rfl, rfl⟩ rfl rfl  ?_
  refine e_ifb_ne (t := 10) dX2_hindranceToGoal_5 rfl rfl (fun h5 => ?_) (fun h5 => ?_)
  · refine e_aload_n dX2_hindranceToGoal_10 rfl rfl ?_
    refine e_getfield fd_X2_24 dX2_hindranceToGoal_11 rfl rfl rfl rfl ?_
    refine e_if_le (t := 21) dX2_hindranceToGoal_14 rfl rfl (by omega) (fun h14 => ?_) (fun h14 => ?_)
    · refine e_iconst dX2_hindranceToGoal_21 rfl ?_
      exact e_iret dX2_hindranceToGoal_22 rfl rfl (eRet_i (by unfold hGoal; first | rw [if_pos h5] | (rw [if_neg (fun q => q h5)]; first | rw [if_pos (by omega)] | rw [if_neg (by omega)])) rfl)
    · refine e_iconst dX2_hindranceToGoal_17 rfl ?_
      refine e_goto (n := 22) dX2_hindranceToGoal_18 rfl ?_
      exact e_iret dX2_hindranceToGoal_22 rfl rfl (eRet_i (by unfold hGoal; first | rw [if_pos h5] | (rw [if_neg (fun q => q h5)]; first | rw [if_pos (by omega)] | rw [if_neg (by omega)])) rfl)
  · refine e_iconst dX2_hindranceToGoal_8 rfl ?_
    exact e_iret dX2_hindranceToGoal_9 rfl rfl (eRet_i (by unfold hGoal; first | rw [if_pos h5] | (rw [if_neg (fun q => q h5)]; first | rw [if_pos (by omega)] | rw [if_neg (by omega)])) rfl)
theorem C_X2_hindrance0 {X : eXT} {a : Nat → Nat} {N : Int} {F : eFs} {P : Int → Int} (hF : okF N F) {p q r : Int} (gp : -2147483648 ≤ p ∧ p ≤ 2147483647) (gq : -2147483648 ≤ q ∧ q ≤ 2147483647) (gr : -2147483648 ≤ r ∧ r ≤ 2147483647) :
    EM X mX2_hindrance (eRm 4) a [.ref (a 0), vi 0, vi p, vi q, vi r] (wFl a F P) (eRet (some (vi (sHin F 0 p q r))) a (wFl a F P)) := by
  refine EM.of (by decide +kernel) rfl (Nat.le_of_ble_eq_true rfl) ?_
  have hF0 := hF
  obtain ⟨hc, hld, hled, htn, hgo, hkp, hst, hwt, hcl, hsh, hnx, hN, rx, ry, rh, rm, rc, rw9⟩ := hF
  refine e_iload_n dX2_hindrance_0 rfl rfl ?_
  refine e_tabIn (t := 52) dX2_hindrance_1 (by decide) (by decide) (by decide) rfl rfl ?_
  refine e_aload_n dX2_hindrance_52 rfl rfl ?_
  refine e_iload_n dX2_hindrance_53 rfl rfl ?_
  refine e_iload_n dX2_hindrance_54 rfl rfl ?_
  refine e_iload dX2_hindrance_55 rfl rfl ?_
  refine e_cV0 [0, 1, 2, 3, 4, 5, 6, 7, 8, 9] lk_X2_83 rfl dX2_hindrance_57 rfl (C_X2_hindranceToAdd hF0 (by omega) (by omega) (by omega)) rfl rfl (Nat.le_of_ble_eq_true rfl) (Nat.le_of_ble_eq_true rfl) (Nat.le_of_ble_eq_true rfl) ⟨rfl, rfl⟩ rfl rfl rfl rfl rfl rfl  ?_
  exact e_iret dX2_hindrance_60 rfl rfl (eRet_i rfl rfl)
theorem C_X2_hindrance1 {X : eXT} {a : Nat → Nat} {N : Int} {F : eFs} {P : Int → Int} (hF : okF N F) {p q r : Int} (gp : -2147483648 ≤ p ∧ p ≤ 2147483647) (gq : -2147483648 ≤ q ∧ q ≤ 2147483647) (gr : -2147483648 ≤ r ∧ r ≤ 2147483647) :
    EM X mX2_hindrance (eRm 4) a [.ref (a 0), vi 1, vi p, vi q, vi r] (wFl a F P) (eRet (some (vi (sHin F 1 p q r))) a (wFl a F P)) := by
  refine EM.of (by decide +kernel) rfl (Nat.le_of_ble_eq_true rfl) ?_
  have hF0 := hF
  obtain ⟨hc, hld, hled, htn, hgo, hkp, hst, hwt, hcl, hsh, hnx, hN, rx, ry, rh, rm, rc, rw9⟩ := hF
  refine e_iload_n dX2_hindrance_0 rfl rfl ?_
  refine e_tabIn (t := 61) dX2_hindrance_1 (by decide) (by decide) (by decide) rfl rfl ?_
  refine e_aload_n dX2_hindrance_61 rfl rfl ?_
  refine e_iload_n dX2_hindrance_62 rfl rfl ?_
  refine e_iload_n dX2_hindrance_63 rfl rfl ?_
  refine e_iload dX2_hindrance_64 rfl rfl ?_
  refine e_cV0 [0, 1, 2, 3, 4, 5, 6, 7, 8, 9] lk_X2_87 rfl dX2_hindrance_66 rfl (C_X2_hindranceToJump hF0 (by omega) (by omega) (by omega)) rfl rfl (Nat.le_of_ble_eq_true rfl) (Nat.le_of_ble_eq_true rfl) (Nat.le_of_ble_eq_true rfl) ⟨rfl, rfl⟩ rfl rfl rfl rfl rfl rfl  ?_
  exact e_iret dX2_hindrance_69 rfl rfl (eRet_i rfl rfl)
theorem C_X2_hindrance2 {X : eXT} {a : Nat → Nat} {N : Int} {F : eFs} {P : Int → Int} (hF : okF N F) {p q r : Int} (gp : -2147483648 ≤ p ∧ p ≤ 2147483647) (gq : -2147483648 ≤ q ∧ q ≤ 2147483647) (gr : -2147483648 ≤ r ∧ r ≤ 2147483647) :
    EM X mX2_hindrance (eRm 4) a [.ref (a 0), vi 2, vi p, vi q, vi r] (wFl a F P) (eRet (some (vi (sHin F 2 p q r))) a (wFl a F P)) := by
  refine EM.of (by decide +kernel) rfl (Nat.le_of_ble_eq_true rfl) ?_
  have hF0 := hF
  obtain ⟨hc, hld, hled, htn, hgo, hkp, hst, hwt, hcl, hsh, hnx, hN, rx, ry, rh, rm, rc, rw9⟩ := hF
  refine e_iload_n dX2_hindrance_0 rfl rfl ?_
  refine e_tabIn (t := 70) dX2_hindrance_1 (by decide) (by decide) (by decide) rfl rfl ?_
  refine e_aload_n dX2_hindrance_70 rfl rfl ?_
  refine e_iload_n dX2_hindrance_71 rfl rfl ?_
  refine e_cV0 [0, 1, 2, 3, 4, 5, 6, 7, 8, 9] lk_X2_90 rfl dX2_hindrance_72 rfl (C_X2_has hF0 (by omega)) rfl rfl (Nat.le_of_ble_eq_true rfl) (Nat.le_of_ble_eq_true rfl) (Nat.le_of_ble_eq_true rfl) ⟨rfl, rfl⟩ rfl rfl rfl rfl rfl rfl  ?_
  refine e_ifb_eq (t := 87) dX2_hindrance_75 rfl rfl (fun h75 => ?_) (fun h75 => ?_)
  · refine e_iconst dX2_hindrance_87 rfl ?_
    exact e_iret dX2_hindrance_88 rfl rfl (eRet_i (by show _ = hHand F p q; unfold hHand; first | rw [if_pos h75] | rw [if_neg h75]) rfl)
  · refine e_iload_n dX2_hindrance_78 rfl rfl ?_
    refine e_iconst dX2_hindrance_79 rfl ?_
    refine e_iconst dX2_hindrance_80 rfl ?_
    refine e_cS0 [] lk_X2_94 rfl dX2_hindrance_81 rfl (C_X2_hindranceOutside (by omega) (by omega) (by omega)) rfl rfl (Nat.le_of_ble_eq_true rfl) (Nat.le_of_ble_eq_true rfl) (Nat.le_of_ble_eq_true rfl) ⟨rfl, rfl⟩ rfl rfl  ?_
    refine e_goto (n := 88) dX2_hindrance_84 rfl ?_
    exact e_iret dX2_hindrance_88 rfl rfl (eRet_i (by show _ = hHand F p q; unfold hHand; first | rw [if_pos h75] | rw [if_neg h75]) rfl)
theorem C_X2_hindrance3 {X : eXT} {a : Nat → Nat} {N : Int} {F : eFs} {P : Int → Int} (hF : okF N F) {p q r : Int} (gp : -2147483648 ≤ p ∧ p ≤ 2147483647) (gq : -2147483648 ≤ q ∧ q ≤ 2147483647) (gr : -2147483648 ≤ r ∧ r ≤ 2147483647) :
    EM X mX2_hindrance (eRm 4) a [.ref (a 0), vi 3, vi p, vi q, vi r] (wFl a F P) (eRet (some (vi (sHin F 3 p q r))) a (wFl a F P)) := by
  refine EM.of (by decide +kernel) rfl (Nat.le_of_ble_eq_true rfl) ?_
  have hF0 := hF
  obtain ⟨hc, hld, hled, htn, hgo, hkp, hst, hwt, hcl, hsh, hnx, hN, rx, ry, rh, rm, rc, rw9⟩ := hF
  refine e_iload_n dX2_hindrance_0 rfl rfl ?_
  refine e_tabIn (t := 89) dX2_hindrance_1 (by decide) (by decide) (by decide) rfl rfl ?_
  refine e_aload_n dX2_hindrance_89 rfl rfl ?_
  refine e_iload_n dX2_hindrance_90 rfl rfl ?_
  refine e_iload_n dX2_hindrance_91 rfl rfl ?_
  refine e_cV0 [0, 1, 2, 3, 4, 5, 6, 7, 8, 9] lk_X2_97 rfl dX2_hindrance_92 rfl (C_X2_hindranceToCloud hF0 (by omega) (by omega)) rfl rfl (Nat.le_of_ble_eq_true rfl) (Nat.le_of_ble_eq_true rfl) (Nat.le_of_ble_eq_true rfl) ⟨rfl, rfl⟩ rfl rfl rfl rfl rfl rfl  ?_
  exact e_iret dX2_hindrance_95 rfl rfl (eRet_i rfl rfl)
theorem C_X2_hindrance4 {X : eXT} {a : Nat → Nat} {N : Int} {F : eFs} {P : Int → Int} (hF : okF N F) {p q r : Int} (gp : -2147483648 ≤ p ∧ p ≤ 2147483647) (gq : -2147483648 ≤ q ∧ q ≤ 2147483647) (gr : -2147483648 ≤ r ∧ r ≤ 2147483647) :
    EM X mX2_hindrance (eRm 4) a [.ref (a 0), vi 4, vi p, vi q, vi r] (wFl a F P) (eRet (some (vi (sHin F 4 p q r))) a (wFl a F P)) := by
  refine EM.of (by decide +kernel) rfl (Nat.le_of_ble_eq_true rfl) ?_
  have hF0 := hF
  obtain ⟨hc, hld, hled, htn, hgo, hkp, hst, hwt, hcl, hsh, hnx, hN, rx, ry, rh, rm, rc, rw9⟩ := hF
  refine e_iload_n dX2_hindrance_0 rfl rfl ?_
  refine e_tabIn (t := 96) dX2_hindrance_1 (by decide) (by decide) (by decide) rfl rfl ?_
  refine e_aload_n dX2_hindrance_96 rfl rfl ?_
  refine e_iload_n dX2_hindrance_97 rfl rfl ?_
  refine e_iload_n dX2_hindrance_98 rfl rfl ?_
  refine e_cV0 [0, 1, 2, 3, 4, 5, 6, 7, 8, 9] lk_X2_101 rfl dX2_hindrance_99 rfl (C_X2_hindranceToClear hF0 (by omega) (by omega)) rfl rfl (Nat.le_of_ble_eq_true rfl) (Nat.le_of_ble_eq_true rfl) (Nat.le_of_ble_eq_true rfl) ⟨rfl, rfl⟩ rfl rfl rfl rfl rfl rfl  ?_
  exact e_iret dX2_hindrance_102 rfl rfl (eRet_i rfl rfl)
theorem C_X2_hindrance5 {X : eXT} {a : Nat → Nat} {N : Int} {F : eFs} {P : Int → Int} (hF : okF N F) {p q r : Int} (gp : -2147483648 ≤ p ∧ p ≤ 2147483647) (gq : -2147483648 ≤ q ∧ q ≤ 2147483647) (gr : -2147483648 ≤ r ∧ r ≤ 2147483647) :
    EM X mX2_hindrance (eRm 4) a [.ref (a 0), vi 5, vi p, vi q, vi r] (wFl a F P) (eRet (some (vi (sHin F 5 p q r))) a (wFl a F P)) := by
  refine EM.of (by decide +kernel) rfl (Nat.le_of_ble_eq_true rfl) ?_
  have hF0 := hF
  obtain ⟨hc, hld, hled, htn, hgo, hkp, hst, hwt, hcl, hsh, hnx, hN, rx, ry, rh, rm, rc, rw9⟩ := hF
  refine e_iload_n dX2_hindrance_0 rfl rfl ?_
  refine e_tabIn (t := 103) dX2_hindrance_1 (by decide) (by decide) (by decide) rfl rfl ?_
  refine e_iload_n dX2_hindrance_103 rfl rfl ?_
  refine e_iconst dX2_hindrance_104 rfl ?_
  refine e_bipush dX2_hindrance_105 rfl rfl ?_
  refine e_cS0 [] lk_X2_94 rfl dX2_hindrance_107 rfl (C_X2_hindranceOutside (by omega) (by omega) (by omega)) rfl rfl (Nat.le_of_ble_eq_true rfl) (Nat.le_of_ble_eq_true rfl) (Nat.le_of_ble_eq_true rfl) ⟨rfl, rfl⟩ rfl rfl  ?_
  exact e_iret dX2_hindrance_110 rfl rfl (eRet_i rfl rfl)
theorem C_X2_hindrance6 {X : eXT} {a : Nat → Nat} {N : Int} {F : eFs} {P : Int → Int} (hF : okF N F) {p q r : Int} (gp : -2147483648 ≤ p ∧ p ≤ 2147483647) (gq : -2147483648 ≤ q ∧ q ≤ 2147483647) (gr : -2147483648 ≤ r ∧ r ≤ 2147483647) :
    EM X mX2_hindrance (eRm 4) a [.ref (a 0), vi 6, vi p, vi q, vi r] (wFl a F P) (eRet (some (vi (sHin F 6 p q r))) a (wFl a F P)) := by
  refine EM.of (by decide +kernel) rfl (Nat.le_of_ble_eq_true rfl) ?_
  have hF0 := hF
  obtain ⟨hc, hld, hled, htn, hgo, hkp, hst, hwt, hcl, hsh, hnx, hN, rx, ry, rh, rm, rc, rw9⟩ := hF
  refine e_iload_n dX2_hindrance_0 rfl rfl ?_
  refine e_tabIn (t := 111) dX2_hindrance_1 (by decide) (by decide) (by decide) rfl rfl ?_
  refine e_aload_n dX2_hindrance_111 rfl rfl ?_
  refine e_iload_n dX2_hindrance_112 rfl rfl ?_
  refine e_iload_n dX2_hindrance_113 rfl rfl ?_
  refine e_cV0 [0, 1, 2, 3, 4, 5, 6, 7, 8, 9] lk_X2_104 rfl dX2_hindrance_114 rfl (C_X2_hindranceToGoal hF0 (by omega) (by omega)) rfl rfl (Nat.le_of_ble_eq_true rfl) (Nat.le_of_ble_eq_true rfl) (Nat.le_of_ble_eq_true rfl) ⟨rfl, rfl⟩ rfl rfl rfl rfl rfl rfl  ?_
  exact e_iret dX2_hindrance_117 rfl rfl (eRet_i rfl rfl)
theorem C_X2_hindrance7 {X : eXT} {a : Nat → Nat} {N : Int} {F : eFs} {P : Int → Int} (hF : okF N F) {p q r : Int} (gp : -2147483648 ≤ p ∧ p ≤ 2147483647) (gq : -2147483648 ≤ q ∧ q ≤ 2147483647) (gr : -2147483648 ≤ r ∧ r ≤ 2147483647) :
    EM X mX2_hindrance (eRm 4) a [.ref (a 0), vi 7, vi p, vi q, vi r] (wFl a F P) (eRet (some (vi (sHin F 7 p q r))) a (wFl a F P)) := by
  refine EM.of (by decide +kernel) rfl (Nat.le_of_ble_eq_true rfl) ?_
  have hF0 := hF
  obtain ⟨hc, hld, hled, htn, hgo, hkp, hst, hwt, hcl, hsh, hnx, hN, rx, ry, rh, rm, rc, rw9⟩ := hF
  refine e_iload_n dX2_hindrance_0 rfl rfl ?_
  refine e_tabIn (t := 118) dX2_hindrance_1 (by decide) (by decide) (by decide) rfl rfl ?_
  refine e_iload_n dX2_hindrance_118 rfl rfl ?_
  refine e_iconst dX2_hindrance_119 rfl ?_
  refine e_bipush dX2_hindrance_120 rfl rfl ?_
  refine e_cS0 [] lk_X2_94 rfl dX2_hindrance_122 rfl (C_X2_hindranceOutside (by omega) (by omega) (by omega)) rfl rfl (Nat.le_of_ble_eq_true rfl) (Nat.le_of_ble_eq_true rfl) (Nat.le_of_ble_eq_true rfl) ⟨rfl, rfl⟩ rfl rfl  ?_
  exact e_iret dX2_hindrance_125 rfl rfl (eRet_i rfl rfl)
theorem C_X2_hindrance8 {X : eXT} {a : Nat → Nat} {N : Int} {F : eFs} {P : Int → Int} (hF : okF N F) {p q r : Int} (gp : -2147483648 ≤ p ∧ p ≤ 2147483647) (gq : -2147483648 ≤ q ∧ q ≤ 2147483647) (gr : -2147483648 ≤ r ∧ r ≤ 2147483647) :
    EM X mX2_hindrance (eRm 4) a [.ref (a 0), vi 8, vi p, vi q, vi r] (wFl a F P) (eRet (some (vi (sHin F 8 p q r))) a (wFl a F P)) := by
  refine EM.of (by decide +kernel) rfl (Nat.le_of_ble_eq_true rfl) ?_
  have hF0 := hF
  obtain ⟨hc, hld, hled, htn, hgo, hkp, hst, hwt, hcl, hsh, hnx, hN, rx, ry, rh, rm, rc, rw9⟩ := hF
  refine e_iload_n dX2_hindrance_0 rfl rfl ?_
  refine e_tabIn (t := 126) dX2_hindrance_1 (by decide) (by decide) (by decide) rfl rfl ?_
  refine e_iload_n dX2_hindrance_126 rfl rfl ?_
  refine e_iconst dX2_hindrance_127 rfl ?_
  refine e_bipush dX2_hindrance_128 rfl rfl ?_
  refine e_cS0 [] lk_X2_94 rfl dX2_hindrance_130 rfl (C_X2_hindranceOutside (by omega) (by omega) (by omega)) rfl rfl (Nat.le_of_ble_eq_true rfl) (Nat.le_of_ble_eq_true rfl) (Nat.le_of_ble_eq_true rfl) ⟨rfl, rfl⟩ rfl rfl  ?_
  exact e_iret dX2_hindrance_133 rfl rfl (eRet_i rfl rfl)
theorem C_X2_hindrance {X : eXT} {a : Nat → Nat} {N : Int} {F : eFs} {P : Int → Int} (hF : okF N F) {k p q r : Int} (hk : 0 ≤ k ∧ k ≤ 8) (gp : -2147483648 ≤ p ∧ p ≤ 2147483647) (gq : -2147483648 ≤ q ∧ q ≤ 2147483647) (gr : -2147483648 ≤ r ∧ r ≤ 2147483647) : EM X mX2_hindrance (eRm 4) a [.ref (a 0), vi k, vi p, vi q, vi r] (wFl a F P) (eRet (some (vi (sHin F k p q r))) a (wFl a F P)) := by
  rcases (show k = 0 ∨ k = 1 ∨ k = 2 ∨ k = 3 ∨ k = 4 ∨ k = 5 ∨ k = 6 ∨ k = 7 ∨ k = 8 by omega) with h | h | h | h | h | h | h | h | h <;> subst h
  · exact C_X2_hindrance0 hF gp gq gr
  · exact C_X2_hindrance1 hF gp gq gr
  · exact C_X2_hindrance2 hF gp gq gr
  · exact C_X2_hindrance3 hF gp gq gr
  · exact C_X2_hindrance4 hF gp gq gr
  · exact C_X2_hindrance5 hF gp gq gr
  · exact C_X2_hindrance6 hF gp gq gr
  · exact C_X2_hindrance7 hF gp gq gr
  · exact C_X2_hindrance8 hF gp gq gr
