/-! ===== Flock: what changes it ===== -/
def sAdd (F : eFs) (x y h : Int) : eFs := sS (sA (sA (sA (sA F 0 (F.1 0) x) 1 (F.1 0) y) 2 (F.1 0) h) 3 (F.1 0) 0) 0 (F.1 0 + 1)
def sPut (F : eFs) (b x y : Int) : eFs := sA (sA F 0 b x) 1 b y
def sHnd (F : eFs) (b h : Int) : eFs := sA F 2 b h
def sTrn (F : eFs) (n : Int) : eFs := sS (sS F 3 n) 2 0
def sGol (F : eFs) (x y : Int) : eFs := sS (sS F 4 x) 5 y
def sKep (F : eFs) (n : Int) : eFs := sS F 6 n
def sCPut (F : eFs) (x y : Int) : eFs := sS (sA F 4 y (bOr (F.2 4 y) (bShl 1 x))) 9 (F.1 9 + 1)
def sCRem (F : eFs) (x y : Int) : eFs := sS (sA F 4 y (bAnd (F.2 4 y) (bXor (bShl 1 x) (-1)))) 9 (F.1 9 - 1)
def sMv (F : eFs) (b x y : Int) : eFs := sA (sA (sA F 0 b x) 1 b y) 3 b (F.2 3 b + 1)
def sGo (F : eFs) (b x y : Int) : eFs := if sPos F b x y then sMv F b x y else F
theorem sGo_y {F : eFs} {b x y : Int} (h : sPos F b x y) : sGo F b x y = sMv F b x y := if_pos h
theorem sGo_n {F : eFs} {b x y : Int} (h : ¬ sPos F b x y) : sGo F b x y = F := if_neg h
def sTw (z g : Int) : Int := if z = g then z else if z < g then z + 1 else z - 1
def sWt (F : eFs) : eFs := sS F 8 (F.1 8 + 1)
abbrev sStay (F : eFs) (b : Int) : Prop := b = F.1 1 ∨ sDD F b (F.1 1) ≤ F.1 6
/-- a follower's way: 0 it stays, 1 to 4 it goes, 5 it waits -/
def sWay (F : eFs) (b : Int) : Int :=
  if sStay F b then 0 else if F.2 1 b < F.2 1 (F.1 1) ∧ sPos F b (F.2 0 b) (F.2 1 b + 1) then 1 else if F.2 0 b < F.2 0 (F.1 1) ∧ sPos F b (F.2 0 b + 1) (F.2 1 b) then 2
  else if F.2 1 (F.1 1) < F.2 1 b ∧ sPos F b (F.2 0 b) (F.2 1 b - 1) then 3 else if F.2 0 (F.1 1) < F.2 0 b ∧ sPos F b (F.2 0 b - 1) (F.2 1 b) then 4 else 5
def sMF (F : eFs) (b : Int) : eFs := if sWay F b = 0 then F else if sWay F b = 1 then sMv F b (F.2 0 b) (F.2 1 b + 1) else if sWay F b = 2 then sMv F b (F.2 0 b + 1) (F.2 1 b) else if sWay F b = 3 then sMv F b (F.2 0 b) (F.2 1 b - 1) else if sWay F b = 4 then sMv F b (F.2 0 b - 1) (F.2 1 b) else sWt F
def sMFr (F : eFs) (b : Int) : Int := if sWay F b = 0 ∨ sWay F b = 5 then 0 else 1
theorem sWay_0 {F : eFs} {b : Int} (h : sStay F b) : sWay F b = 0 := if_pos h
theorem sWay_1 {F : eFs} {b : Int} (h : ¬ sStay F b) (h1 : F.2 1 b < F.2 1 (F.1 1) ∧ sPos F b (F.2 0 b) (F.2 1 b + 1)) : sWay F b = 1 := by unfold sWay; rw [if_neg h, if_pos h1]
theorem sWay_2 {F : eFs} {b : Int} (h : ¬ sStay F b) (h1 : ¬ (F.2 1 b < F.2 1 (F.1 1) ∧ sPos F b (F.2 0 b) (F.2 1 b + 1))) (h2 : F.2 0 b < F.2 0 (F.1 1) ∧ sPos F b (F.2 0 b + 1) (F.2 1 b)) : sWay F b = 2 := by unfold sWay; rw [if_neg h, if_neg h1, if_pos h2]
theorem sWay_3 {F : eFs} {b : Int} (h : ¬ sStay F b) (h1 : ¬ (F.2 1 b < F.2 1 (F.1 1) ∧ sPos F b (F.2 0 b) (F.2 1 b + 1))) (h2 : ¬ (F.2 0 b < F.2 0 (F.1 1) ∧ sPos F b (F.2 0 b + 1) (F.2 1 b))) (h3 : F.2 1 (F.1 1) < F.2 1 b ∧ sPos F b (F.2 0 b) (F.2 1 b - 1)) : sWay F b = 3 := by unfold sWay; rw [if_neg h, if_neg h1, if_neg h2, if_pos h3]
theorem sWay_4 {F : eFs} {b : Int} (h : ¬ sStay F b) (h1 : ¬ (F.2 1 b < F.2 1 (F.1 1) ∧ sPos F b (F.2 0 b) (F.2 1 b + 1))) (h2 : ¬ (F.2 0 b < F.2 0 (F.1 1) ∧ sPos F b (F.2 0 b + 1) (F.2 1 b))) (h3 : ¬ (F.2 1 (F.1 1) < F.2 1 b ∧ sPos F b (F.2 0 b) (F.2 1 b - 1))) (h4 : F.2 0 (F.1 1) < F.2 0 b ∧ sPos F b (F.2 0 b - 1) (F.2 1 b)) : sWay F b = 4 := by unfold sWay; rw [if_neg h, if_neg h1, if_neg h2, if_neg h3, if_pos h4]
theorem sWay_5 {F : eFs} {b : Int} (h : ¬ sStay F b) (h1 : ¬ (F.2 1 b < F.2 1 (F.1 1) ∧ sPos F b (F.2 0 b) (F.2 1 b + 1))) (h2 : ¬ (F.2 0 b < F.2 0 (F.1 1) ∧ sPos F b (F.2 0 b + 1) (F.2 1 b))) (h3 : ¬ (F.2 1 (F.1 1) < F.2 1 b ∧ sPos F b (F.2 0 b) (F.2 1 b - 1))) (h4 : ¬ (F.2 0 (F.1 1) < F.2 0 b ∧ sPos F b (F.2 0 b - 1) (F.2 1 b))) : sWay F b = 5 := by unfold sWay; rw [if_neg h, if_neg h1, if_neg h2, if_neg h3, if_neg h4]
theorem sMF_0 {F : eFs} {b : Int} (h : sWay F b = 0) : sMF F b = F ∧ sMFr F b = 0 := by unfold sMF sMFr; rw [h]; exact ⟨rfl, rfl⟩
theorem sMF_1 {F : eFs} {b : Int} (h : sWay F b = 1) : sMF F b = sMv F b (F.2 0 b) (F.2 1 b + 1) ∧ sMFr F b = 1 := by unfold sMF sMFr; rw [h]; exact ⟨rfl, rfl⟩
theorem sMF_2 {F : eFs} {b : Int} (h : sWay F b = 2) : sMF F b = sMv F b (F.2 0 b + 1) (F.2 1 b) ∧ sMFr F b = 1 := by unfold sMF sMFr; rw [h]; exact ⟨rfl, rfl⟩
theorem sMF_3 {F : eFs} {b : Int} (h : sWay F b = 3) : sMF F b = sMv F b (F.2 0 b) (F.2 1 b - 1) ∧ sMFr F b = 1 := by unfold sMF sMFr; rw [h]; exact ⟨rfl, rfl⟩
theorem sMF_4 {F : eFs} {b : Int} (h : sWay F b = 4) : sMF F b = sMv F b (F.2 0 b - 1) (F.2 1 b) ∧ sMFr F b = 1 := by unfold sMF sMFr; rw [h]; exact ⟨rfl, rfl⟩
theorem sMF_5 {F : eFs} {b : Int} (h : sWay F b = 5) : sMF F b = sWt F ∧ sMFr F b = 0 := by unfold sMF sMFr; rw [h]; exact ⟨rfl, rfl⟩
abbrev sLX (F : eFs) : Int := F.2 0 (F.1 1)
abbrev sLY (F : eFs) : Int := F.2 1 (F.1 1)
abbrev sNX (F : eFs) : Int := sTw (sLX F) (F.1 4)
abbrev sNY (F : eFs) : Int := sTw (sLY F) (F.1 5)
abbrev sOn (F : eFs) : Prop := F.1 4 = -1 ∨ sD F (F.1 1) (F.1 4) (F.1 5) = 0
abbrev sAlX (F : eFs) : Prop := eAbs (F.1 5 - sLY F) ≤ eAbs (F.1 4 - sLX F)
/-- a leader's way: 0 it stays, 1 along x, 2 along y, 5 it waits -/
def sWayL (F : eFs) : Int :=
  if sOn F then 0 else if sAlX F then (if sPos F (F.1 1) (sNX F) (sLY F) then 1 else if ¬ sNY F = sLY F ∧ sPos F (F.1 1) (sLX F) (sNY F) then 2 else 5)
  else (if sPos F (F.1 1) (sLX F) (sNY F) then 2 else if ¬ sNX F = sLX F ∧ sPos F (F.1 1) (sNX F) (sLY F) then 1 else 5)
def sML (F : eFs) : eFs := if sWayL F = 0 then F else if sWayL F = 1 then sMv F (F.1 1) (sNX F) (sLY F) else if sWayL F = 2 then sMv F (F.1 1) (sLX F) (sNY F) else sWt F
def sMLr (F : eFs) : Int := if sWayL F = 1 ∨ sWayL F = 2 then 1 else 0
theorem sML_0 {F : eFs} (h : sWayL F = 0) : sML F = F ∧ sMLr F = 0 := by unfold sML sMLr; rw [h]; exact ⟨rfl, rfl⟩
theorem sML_1 {F : eFs} (h : sWayL F = 1) : sML F = sMv F (F.1 1) (sNX F) (sLY F) ∧ sMLr F = 1 := by unfold sML sMLr; rw [h]; exact ⟨rfl, rfl⟩
theorem sML_2 {F : eFs} (h : sWayL F = 2) : sML F = sMv F (F.1 1) (sLX F) (sNY F) ∧ sMLr F = 1 := by unfold sML sMLr; rw [h]; exact ⟨rfl, rfl⟩
theorem sML_5 {F : eFs} (h : sWayL F = 5) : sML F = sWt F ∧ sMLr F = 0 := by unfold sML sMLr; rw [h]; exact ⟨rfl, rfl⟩
theorem sWayL_0 {F : eFs} (h : sOn F) : sWayL F = 0 := if_pos h
theorem sWayL_x1 {F : eFs} (h : ¬ sOn F) (hx : sAlX F) (h1 : sPos F (F.1 1) (sNX F) (sLY F)) : sWayL F = 1 := by unfold sWayL; rw [if_neg h, if_pos hx, if_pos h1]
theorem sWayL_x2 {F : eFs} (h : ¬ sOn F) (hx : sAlX F) (h1 : ¬ sPos F (F.1 1) (sNX F) (sLY F)) (h2 : ¬ sNY F = sLY F ∧ sPos F (F.1 1) (sLX F) (sNY F)) : sWayL F = 2 := by unfold sWayL; rw [if_neg h, if_pos hx, if_neg h1, if_pos h2]
theorem sWayL_x5 {F : eFs} (h : ¬ sOn F) (hx : sAlX F) (h1 : ¬ sPos F (F.1 1) (sNX F) (sLY F)) (h2 : ¬ (¬ sNY F = sLY F ∧ sPos F (F.1 1) (sLX F) (sNY F))) : sWayL F = 5 := by unfold sWayL; rw [if_neg h, if_pos hx, if_neg h1, if_neg h2]
theorem sWayL_y2 {F : eFs} (h : ¬ sOn F) (hx : ¬ sAlX F) (h1 : sPos F (F.1 1) (sLX F) (sNY F)) : sWayL F = 2 := by unfold sWayL; rw [if_neg h, if_neg hx, if_pos h1]
theorem sWayL_y1 {F : eFs} (h : ¬ sOn F) (hx : ¬ sAlX F) (h1 : ¬ sPos F (F.1 1) (sLX F) (sNY F)) (h2 : ¬ sNX F = sLX F ∧ sPos F (F.1 1) (sNX F) (sLY F)) : sWayL F = 1 := by unfold sWayL; rw [if_neg h, if_neg hx, if_neg h1, if_pos h2]
theorem sWayL_y5 {F : eFs} (h : ¬ sOn F) (hx : ¬ sAlX F) (h1 : ¬ sPos F (F.1 1) (sLX F) (sNY F)) (h2 : ¬ (¬ sNX F = sLX F ∧ sPos F (F.1 1) (sNX F) (sLY F))) : sWayL F = 5 := by unfold sWayL; rw [if_neg h, if_neg hx, if_neg h1, if_neg h2]
/-- the lead passes on -/
def sPL (F : eFs) : eFs := if F.1 0 < 1 then F else if F.1 2 + 1 < F.1 3 then sS F 2 (F.1 2 + 1) else sS (sS F 2 0) 1 (if F.1 1 + 1 < F.1 0 then F.1 1 + 1 else 0)
theorem sMix_eq {N : Int} {F : eFs} (hF : okF N F) : sPrs F - sPrH F 0 - sPrH F (0 + 1) - sPrH F (0 + 1 + 1) = sMix F := by
  obtain ⟨hc, hld, hled, htn, hgo, hkp, hst, hwt, hcl, hsh, hnx, hN, rx, ry, rh, rm, rc, rw9⟩ := hF
  have e : sPrs F = sMix F + sPrH F 0 + sPrH F (0 + 1) + sPrH F (0 + 1 + 1) := by
    unfold sPrs sMix sPrH
    rw [← eSB_add, ← eSB_add, ← eSB_add]
    apply eSB_cong
    intro b _ _
    unfold eCB
    rw [← eSB_add, ← eSB_add, ← eSB_add]
    apply eSB_cong
    intro o _ _
    have h1 := rh b
    have h2 := rh o
    by_cases hl : sLk F b o
    · by_cases hb : F.2 2 b = F.2 2 o
      · rcases (show F.2 2 b = 0 ∨ F.2 2 b = 1 ∨ F.2 2 b = 2 by omega) with h | h | h <;> (unfold eI1; rw [if_pos hl, if_neg (fun q => q.1 hb)]; rw [h] at hb ⊢; simp [← hb, hl])
      · unfold eI1
        rw [if_pos hl, if_pos ⟨hb, hl⟩, if_neg (fun q => hb (q.1.trans q.2.1.symm)), if_neg (fun q => hb (q.1.trans q.2.1.symm)), if_neg (fun q => hb (q.1.trans q.2.1.symm))]
        rfl
    · unfold eI1
      rw [if_neg hl, if_neg (fun q => hl q.2), if_neg (fun q => hl q.2.2), if_neg (fun q => hl q.2.2), if_neg (fun q => hl q.2.2)]
      rfl
  omega

theorem C_X2_mixedByHandles {X : eXT} {a : Nat → Nat} {N : Int} {F : eFs} {P : Int → Int} (hF : okF N F)  :
    EM X mX2_mixedByHandles (eRm 5) a [.ref (a 0)] (wFl a F P) (eRet (some (vi (sMix F))) a (wFl a F P)) := by
  refine EM.of (by decide +kernel) rfl (Nat.le_of_ble_eq_true rfl) ?_
  have hF0 := hF
  obtain ⟨hc, hld, hled, htn, hgo, hkp, hst, hwt, hcl, hsh, hnx, hN, rx, ry, rh, rm, rc, rw9⟩ := hF
  refine e_aload_n dX2_mixedByHandles_0 rfl rfl ?_
  refine e_cV0 [0, 1, 2, 3, 4, 5, 6, 7, 8, 9] lk_X2_202 rfl dX2_mixedByHandles_1 rfl (C_X2_linkedPairs hF0) rfl rfl (Nat.le_of_ble_eq_true rfl) (Nat.le_of_ble_eq_true rfl) (Nat.le_of_ble_eq_true rfl) ⟨rfl, rfl⟩ rfl rfl rfl rfl rfl rfl  ?_
  refine f_istore_n dX2_mixedByHandles_4 rfl (Nat.le_of_ble_eq_true rfl) rfl ?_
  refine e_iconst dX2_mixedByHandles_5 rfl ?_
  refine f_istore_n dX2_mixedByHandles_6 rfl (Nat.le_of_ble_eq_true rfl) rfl ?_
  refine e_iload_n dX2_mixedByHandles_7 rfl rfl ?_
  refine e_iconst dX2_mixedByHandles_8 rfl ?_
  refine e_icmp_ge (t := 26) dX2_mixedByHandles_9 rfl rfl (by decide) (by decide) (fun h => absurd h (by decide)) (fun _ => ?_)
  refine e_iload_n dX2_mixedByHandles_12 rfl rfl ?_
  refine e_aload_n dX2_mixedByHandles_13 rfl rfl ?_
  refine e_iload_n dX2_mixedByHandles_14 rfl rfl ?_
  refine e_cV0 [0, 1, 2, 3, 4, 5, 6, 7, 8, 9] lk_X2_205 rfl dX2_mixedByHandles_15 rfl (C_X2_linkedPairsOfHandle hF0 (by omega)) rfl rfl (Nat.le_of_ble_eq_true rfl) (Nat.le_of_ble_eq_true rfl) (Nat.le_of_ble_eq_true rfl) ⟨rfl, rfl⟩ rfl rfl rfl rfl rfl rfl  ?_
  refine e_isub dX2_mixedByHandles_18 rfl ?_
  refine f_istore_n dX2_mixedByHandles_19 rfl (Nat.le_of_ble_eq_true rfl) rfl ?_
  refine f_iinc dX2_mixedByHandles_20 rfl rfl (Nat.le_of_ble_eq_true rfl) rfl ?_
  refine e_goto (n := 7) dX2_mixedByHandles_23 rfl ?_
  refine e_iload_n dX2_mixedByHandles_7 rfl rfl ?_
  refine e_iconst dX2_mixedByHandles_8 rfl ?_
  refine e_icmp_ge (t := 26) dX2_mixedByHandles_9 rfl rfl (by decide) (by decide) (fun h => absurd h (by decide)) (fun _ => ?_)
  refine e_iload_n dX2_mixedByHandles_12 rfl rfl ?_
  refine e_aload_n dX2_mixedByHandles_13 rfl rfl ?_
  refine e_iload_n dX2_mixedByHandles_14 rfl rfl ?_
  refine e_cV0 [0, 1, 2, 3, 4, 5, 6, 7, 8, 9] lk_X2_205 rfl dX2_mixedByHandles_15 rfl (C_X2_linkedPairsOfHandle hF0 (by omega)) rfl rfl (Nat.le_of_ble_eq_true rfl) (Nat.le_of_ble_eq_true rfl) (Nat.le_of_ble_eq_true rfl) ⟨rfl, rfl⟩ rfl rfl rfl rfl rfl rfl  ?_
  refine e_isub dX2_mixedByHandles_18 rfl ?_
  refine f_istore_n dX2_mixedByHandles_19 rfl (Nat.le_of_ble_eq_true rfl) rfl ?_
  refine f_iinc dX2_mixedByHandles_20 rfl rfl (Nat.le_of_ble_eq_true rfl) rfl ?_
  refine e_goto (n := 7) dX2_mixedByHandles_23 rfl ?_
  refine e_iload_n dX2_mixedByHandles_7 rfl rfl ?_
  refine e_iconst dX2_mixedByHandles_8 rfl ?_
  refine e_icmp_ge (t := 26) dX2_mixedByHandles_9 rfl rfl (by decide) (by decide) (fun h => absurd h (by decide)) (fun _ => ?_)
  refine e_iload_n dX2_mixedByHandles_12 rfl rfl ?_
  refine e_aload_n dX2_mixedByHandles_13 rfl rfl ?_
  refine e_iload_n dX2_mixedByHandles_14 rfl rfl ?_
  refine e_cV0 [0, 1, 2, 3, 4, 5, 6, 7, 8, 9] lk_X2_205 rfl dX2_mixedByHandles_15 rfl (C_X2_linkedPairsOfHandle hF0 (by omega)) rfl rfl (Nat.le_of_ble_eq_true rfl) (Nat.le_of_ble_eq_true rfl) (Nat.le_of_ble_eq_true rfl) ⟨rfl, rfl⟩ rfl rfl rfl rfl rfl rfl  ?_
  refine e_isub dX2_mixedByHandles_18 rfl ?_
  refine f_istore_n dX2_mixedByHandles_19 rfl (Nat.le_of_ble_eq_true rfl) rfl ?_
  refine f_iinc dX2_mixedByHandles_20 rfl rfl (Nat.le_of_ble_eq_true rfl) rfl ?_
  refine e_goto (n := 7) dX2_mixedByHandles_23 rfl ?_
  refine e_iload_n dX2_mixedByHandles_7 rfl rfl ?_
  refine e_iconst dX2_mixedByHandles_8 rfl ?_
  refine e_icmp_ge (t := 26) dX2_mixedByHandles_9 rfl rfl (by decide) (by decide) (fun _ => ?_) (fun h => absurd h (by decide))
  refine e_iload_n dX2_mixedByHandles_26 rfl rfl ?_
  exact e_iret dX2_mixedByHandles_27 rfl rfl (eRet_i (sMix_eq hF0) rfl)
theorem C_X2_add {X : eXT} {a : Nat → Nat} {N : Int} {F : eFs} {P : Int → Int} (hF : okF N F) {x y h : Int} (hn : F.1 0 < 10) :
    EM X mX2_add (eRm 0) a [.ref (a 0), vi x, vi y, vi h] (wFl a F P) (eRet (some (vi (F.1 0))) a (wFl a (sAdd F x y h) P)) := by
  refine EM.of (by decide +kernel) rfl (Nat.le_of_ble_eq_true rfl) ?_
  have hF0 := hF
  obtain ⟨hc, hld, hled, htn, hgo, hkp, hst, hwt, hcl, hsh, hnx, hN, rx, ry, rh, rm, rc, rw9⟩ := hF
  refine e_aload_n dX2_add_0 rfl rfl ?_
  refine e_getfield fd_X2_24 dX2_add_1 rfl rfl rfl rfl ?_
  refine e_bipush dX2_add_4 rfl rfl ?_
  refine e_icmp_lt (t := 11) dX2_add_6 rfl rfl (by omega) (by omega) (fun h6 => ?_) (fun h6 => ?_)
  · refine e_aload_n dX2_add_11 rfl rfl ?_
    refine e_getfield fd_X2_9 dX2_add_12 rfl rfl rfl rfl ?_
    refine e_aload_n dX2_add_15 rfl rfl ?_
    refine e_getfield fd_X2_24 dX2_add_16 rfl rfl rfl rfl ?_
    refine e_iload_n dX2_add_19 rfl rfl ?_
    refine e_iastore dX2_add_20 rfl rfl rfl (by omega) (by decide) ?_
    refine e_aload_n dX2_add_21 rfl rfl ?_
    refine e_getfield fd_X2_15 dX2_add_22 rfl rfl rfl rfl ?_
    refine e_aload_n dX2_add_25 rfl rfl ?_
    refine e_getfield fd_X2_24 dX2_add_26 rfl rfl rfl rfl ?_
    refine e_iload_n dX2_add_29 rfl rfl ?_
    refine e_iastore dX2_add_30 rfl rfl rfl (by omega) (by decide) ?_
    refine e_aload_n dX2_add_31 rfl rfl ?_
    refine e_getfield fd_X2_18 dX2_add_32 rfl rfl rfl rfl ?_
    refine e_aload_n dX2_add_35 rfl rfl ?_
    refine e_getfield fd_X2_24 dX2_add_36 rfl rfl rfl rfl ?_
    refine e_iload_n dX2_add_39 rfl rfl ?_
    refine e_iastore dX2_add_40 rfl rfl rfl (by omega) (by decide) ?_
    refine e_aload_n dX2_add_41 rfl rfl ?_
    refine e_getfield fd_X2_21 dX2_add_42 rfl rfl rfl rfl ?_
    refine e_aload_n dX2_add_45 rfl rfl ?_
    refine e_getfield fd_X2_24 dX2_add_46 rfl rfl rfl rfl ?_
    refine e_iconst dX2_add_49 rfl ?_
    refine e_iastore dX2_add_50 rfl rfl rfl (by omega) (by decide) ?_
    refine e_aload_n dX2_add_51 rfl rfl ?_
    refine e_dup dX2_add_52 rfl rfl ?_
    refine e_getfield fd_X2_24 dX2_add_53 rfl rfl rfl rfl ?_
    refine e_iconst dX2_add_56 rfl ?_
    refine e_iadd dX2_add_57 rfl ?_
    refine e_putfield fd_X2_24 dX2_add_58 rfl rfl rfl (Nat.le_of_ble_eq_true rfl) rfl rfl ?_
    refine e_aload_n dX2_add_61 rfl rfl ?_
    refine e_getfield fd_X2_24 dX2_add_62 rfl rfl rfl rfl ?_
    refine e_iconst dX2_add_65 rfl ?_
    refine e_isub dX2_add_66 rfl ?_
    exact e_iret dX2_add_67 rfl rfl (eRet_i (by omega) rfl)
  · exfalso; omega
theorem C_X2_put {X : eXT} {a : Nat → Nat} {N : Int} {F : eFs} {P : Int → Int} (hF : okF N F) {b x y : Int} (hb : sHas F b) (hx : -20 ≤ x ∧ x ≤ 20) (hy : -20 ≤ y ∧ y ≤ 20) :
    EM X mX2_put (eRm 2) a [.ref (a 0), vi b, vi x, vi y] (wFl a F P) (eRet (some (vi (sD F b x y))) a (wFl a (sPut F b x y) P)) := by
  refine EM.of (by decide +kernel) rfl (Nat.le_of_ble_eq_true rfl) ?_
  have hF0 := hF
  obtain ⟨hc, hld, hled, htn, hgo, hkp, hst, hwt, hcl, hsh, hnx, hN, rx, ry, rh, rm, rc, rw9⟩ := hF
  refine e_aload_n dX2_put_0 rfl rfl ?_
  refine e_iload_n dX2_put_1 rfl rfl ?_
  refine e_cV0 [0, 1, 2, 3, 4, 5, 6, 7, 8, 9] lk_X2_90 rfl dX2_put_2 rfl (C_X2_has hF0 (by omega)) rfl rfl (Nat.le_of_ble_eq_true rfl) (Nat.le_of_ble_eq_true rfl) (Nat.le_of_ble_eq_true rfl) ⟨rfl, rfl⟩ rfl rfl rfl rfl rfl rfl  ?_
  refine e_ifb_ne (t := 10) dX2_put_5 rfl rfl (fun h5 => ?_) (fun h5 => ?_)
  · refine e_aload_n dX2_put_10 rfl rfl ?_
    refine e_iload_n dX2_put_11 rfl rfl ?_
    refine e_iload_n dX2_put_12 rfl rfl ?_
    refine e_iload_n dX2_put_13 rfl rfl ?_
    refine e_cV0 [0, 1, 2, 3, 4, 5, 6, 7, 8, 9] lk_X2_149 rfl dX2_put_14 rfl (C_X2_distanceFrom hF0 (by omega) (by omega) (by omega)) rfl rfl (Nat.le_of_ble_eq_true rfl) (Nat.le_of_ble_eq_true rfl) (Nat.le_of_ble_eq_true rfl) ⟨rfl, rfl⟩ rfl rfl rfl rfl rfl rfl  ?_
    refine f_istore dX2_put_17 rfl (Nat.le_of_ble_eq_true rfl) rfl ?_
    refine e_aload_n dX2_put_19 rfl rfl ?_
    refine e_getfield fd_X2_9 dX2_put_20 rfl rfl rfl rfl ?_
    refine e_iload_n dX2_put_23 rfl rfl ?_
    refine e_iload_n dX2_put_24 rfl rfl ?_
    refine e_iastore dX2_put_25 rfl rfl rfl (by omega) (by decide) ?_
    refine e_aload_n dX2_put_26 rfl rfl ?_
    refine e_getfield fd_X2_15 dX2_put_27 rfl rfl rfl rfl ?_
    refine e_iload_n dX2_put_30 rfl rfl ?_
    refine e_iload_n dX2_put_31 rfl rfl ?_
    refine e_iastore dX2_put_32 rfl rfl rfl (by omega) (by decide) ?_
    refine e_iload dX2_put_33 rfl rfl ?_
    exact e_iret dX2_put_35 rfl rfl (eRet_i rfl rfl)
  · exact absurd hb h5
theorem C_X2_replaceHandle {X : eXT} {a : Nat → Nat} {N : Int} {F : eFs} {P : Int → Int} (hF : okF N F) {b h : Int} (hb : sHas F b) :
    EM X mX2_replaceHandle (eRm 1) a [.ref (a 0), vi b, vi h] (wFl a F P) (eRet (some (vi (F.2 2 b))) a (wFl a (sHnd F b h) P)) := by
  refine EM.of (by decide +kernel) rfl (Nat.le_of_ble_eq_true rfl) ?_
  have hF0 := hF
  obtain ⟨hc, hld, hled, htn, hgo, hkp, hst, hwt, hcl, hsh, hnx, hN, rx, ry, rh, rm, rc, rw9⟩ := hF
  refine e_aload_n dX2_replaceHandle_0 rfl rfl ?_
  refine e_iload_n dX2_replaceHandle_1 rfl rfl ?_
  refine e_cV0 [0, 1, 2, 3, 4, 5, 6, 7, 8, 9] lk_X2_90 rfl dX2_replaceHandle_2 rfl (C_X2_has hF0 (by omega)) rfl rfl (Nat.le_of_ble_eq_true rfl) (Nat.le_of_ble_eq_true rfl) (Nat.le_of_ble_eq_true rfl) ⟨rfl, rfl⟩ rfl rfl rfl rfl rfl rfl  ?_
  refine e_ifb_ne (t := 10) dX2_replaceHandle_5 rfl rfl (fun h5 => ?_) (fun h5 => ?_)
  · refine e_aload_n dX2_replaceHandle_10 rfl rfl ?_
    refine e_getfield fd_X2_18 dX2_replaceHandle_11 rfl rfl rfl rfl ?_
    refine e_iload_n dX2_replaceHandle_14 rfl rfl ?_
    refine e_ialoadB dX2_replaceHandle_15 rfl rfl rfl (by omega) (by decide) rh ?_
    intro b15
    refine f_istore_n dX2_replaceHandle_16 rfl (Nat.le_of_ble_eq_true rfl) rfl ?_
    refine e_aload_n dX2_replaceHandle_17 rfl rfl ?_
    refine e_getfield fd_X2_18 dX2_replaceHandle_18 rfl rfl rfl rfl ?_
    refine e_iload_n dX2_replaceHandle_21 rfl rfl ?_
    refine e_iload_n dX2_replaceHandle_22 rfl rfl ?_
    refine e_iastore dX2_replaceHandle_23 rfl rfl rfl (by omega) (by decide) ?_
    refine e_iload_n dX2_replaceHandle_24 rfl rfl ?_
    exact e_iret dX2_replaceHandle_25 rfl rfl (eRet_i (by omega) rfl)
  · exact absurd hb h5
theorem C_X2_replaceTurn {X : eXT} {a : Nat → Nat} {N : Int} {F : eFs} {P : Int → Int} (hF : okF N F) {n : Int} :
    EM X mX2_replaceTurn (eRm 0) a [.ref (a 0), vi n] (wFl a F P) (eRet (some (vi (F.1 3))) a (wFl a (sTrn F n) P)) := by
  refine EM.of (by decide +kernel) rfl (Nat.le_of_ble_eq_true rfl) ?_
  have hF0 := hF
  obtain ⟨hc, hld, hled, htn, hgo, hkp, hst, hwt, hcl, hsh, hnx, hN, rx, ry, rh, rm, rc, rw9⟩ := hF
  refine e_aload_n dX2_replaceTurn_0 rfl rfl ?_
  refine e_getfield fd_X2_52 dX2_replaceTurn_1 rfl rfl rfl rfl ?_
  refine f_istore_n dX2_replaceTurn_4 rfl (Nat.le_of_ble_eq_true rfl) rfl ?_
  refine e_aload_n dX2_replaceTurn_5 rfl rfl ?_
  refine e_iload_n dX2_replaceTurn_6 rfl rfl ?_
  refine e_putfield fd_X2_52 dX2_replaceTurn_7 rfl rfl rfl (Nat.le_of_ble_eq_true rfl) rfl rfl ?_
  refine e_aload_n dX2_replaceTurn_10 rfl rfl ?_
  refine e_iconst dX2_replaceTurn_11 rfl ?_
  refine e_putfield fd_X2_49 dX2_replaceTurn_12 rfl rfl rfl (Nat.le_of_ble_eq_true rfl) rfl rfl ?_
  refine e_iload_n dX2_replaceTurn_15 rfl rfl ?_
  exact e_iret dX2_replaceTurn_16 rfl rfl (eRet_i (by omega) rfl)
theorem okF_gol {N : Int} {F : eFs} {x y : Int} (hF : okF N F) (hx : 0 ≤ x ∧ x ≤ 11) (hy : 0 ≤ y ∧ y ≤ 11) (hl : sHas F (F.1 1)) : okF N (sGol F x y) := by
  obtain ⟨hc, hld, hled, htn, hgo, hkp, hst, hwt, hcl, hsh, hnx, hN, rx, ry, rh, rm, rc, rw9⟩ := hF
  exact ⟨hc, hld, hled, htn, (show -1 ≤ x ∧ x ≤ 11 ∧ -1 ≤ y ∧ y ≤ 11 ∧ (x = -1 ↔ y = -1) ∧ (F.1 0 = 0 → x = -1) by omega), hkp, hst, hwt, hcl, hsh, hnx, hN, rx, ry, rh, rm, rc, rw9⟩

theorem C_X2_replaceGoal {X : eXT} {a : Nat → Nat} {N : Int} {F : eFs} {P : Int → Int} (hF : okF N F) {x y : Int} (hl : sHas F (F.1 1)) (hx : 0 ≤ x ∧ x ≤ 11) (hy : 0 ≤ y ∧ y ≤ 11) :
    EM X mX2_replaceGoal (eRm 2) a [.ref (a 0), vi x, vi y] (wFl a F P) (eRet (some (vi (sD F (F.1 1) x y))) a (wFl a (sGol F x y) P)) := by
  refine EM.of (by decide +kernel) rfl (Nat.le_of_ble_eq_true rfl) ?_
  have hF0 := hF
  obtain ⟨hc, hld, hled, htn, hgo, hkp, hst, hwt, hcl, hsh, hnx, hN, rx, ry, rh, rm, rc, rw9⟩ := hF
  refine e_aload_n dX2_replaceGoal_0 rfl rfl ?_
  refine e_iload_n dX2_replaceGoal_1 rfl rfl ?_
  refine e_putfield fd_X2_55 dX2_replaceGoal_2 rfl rfl rfl (Nat.le_of_ble_eq_true rfl) rfl rfl ?_
  refine e_aload_n dX2_replaceGoal_5 rfl rfl ?_
  refine e_iload_n dX2_replaceGoal_6 rfl rfl ?_
  refine e_putfield fd_X2_58 dX2_replaceGoal_7 rfl rfl rfl (Nat.le_of_ble_eq_true rfl) rfl rfl ?_
  refine e_aload_n dX2_replaceGoal_10 rfl rfl ?_
  refine e_aload_n dX2_replaceGoal_11 rfl rfl ?_
  refine e_getfield fd_X2_46 dX2_replaceGoal_12 rfl rfl rfl rfl ?_
  refine e_iload_n dX2_replaceGoal_15 rfl rfl ?_
  refine e_iload_n dX2_replaceGoal_16 rfl rfl ?_
  refine e_cV0 [0, 1, 2, 3, 4, 5, 6, 7, 8, 9] lk_X2_149 rfl dX2_replaceGoal_17 rfl (C_X2_distanceFrom (F := sGol F x y) (okF_gol hF0 hx hy hl) hl (by omega) (by omega)) rfl rfl (Nat.le_of_ble_eq_true rfl) (Nat.le_of_ble_eq_true rfl) (Nat.le_of_ble_eq_true rfl) ⟨rfl, rfl⟩ rfl rfl rfl rfl rfl rfl  ?_
  exact e_iret dX2_replaceGoal_20 rfl rfl (eRet_i rfl rfl)
theorem C_X2_replaceKept {X : eXT} {a : Nat → Nat} {N : Int} {F : eFs} {P : Int → Int} (hF : okF N F) {n : Int} :
    EM X mX2_replaceKept (eRm 0) a [.ref (a 0), vi n] (wFl a F P) (eRet (some (vi (F.1 6))) a (wFl a (sKep F n) P)) := by
  refine EM.of (by decide +kernel) rfl (Nat.le_of_ble_eq_true rfl) ?_
  have hF0 := hF
  obtain ⟨hc, hld, hled, htn, hgo, hkp, hst, hwt, hcl, hsh, hnx, hN, rx, ry, rh, rm, rc, rw9⟩ := hF
  refine e_aload_n dX2_replaceKept_0 rfl rfl ?_
  refine e_getfield fd_X2_61 dX2_replaceKept_1 rfl rfl rfl rfl ?_
  refine f_istore_n dX2_replaceKept_4 rfl (Nat.le_of_ble_eq_true rfl) rfl ?_
  refine e_aload_n dX2_replaceKept_5 rfl rfl ?_
  refine e_iload_n dX2_replaceKept_6 rfl rfl ?_
  refine e_putfield fd_X2_61 dX2_replaceKept_7 rfl rfl rfl (Nat.le_of_ble_eq_true rfl) rfl rfl ?_
  refine e_iload_n dX2_replaceKept_10 rfl rfl ?_
  exact e_iret dX2_replaceKept_11 rfl rfl (eRet_i (by omega) rfl)
theorem C_X2_goTo {X : eXT} {a : Nat → Nat} {N : Int} {F : eFs} {P : Int → Int} (hF : okF N F) {b x y : Int} (hb : sHas F b) (hx : -20 ≤ x ∧ x ≤ 20) (hy : -20 ≤ y ∧ y ≤ 20) :
    EM X mX2_goTo (eRm 3) a [.ref (a 0), vi b, vi x, vi y] (wFl a F P) (eRet (some (vb (sPos F b x y))) a (wFl a (sGo F b x y) P)) := by
  refine EM.of (by decide +kernel) rfl (Nat.le_of_ble_eq_true rfl) ?_
  have hF0 := hF
  obtain ⟨hc, hld, hled, htn, hgo, hkp, hst, hwt, hcl, hsh, hnx, hN, rx, ry, rh, rm, rc, rw9⟩ := hF
  refine e_aload_n dX2_goTo_0 rfl rfl ?_
  refine e_iload_n dX2_goTo_1 rfl rfl ?_
  refine e_cV0 [0, 1, 2, 3, 4, 5, 6, 7, 8, 9] lk_X2_90 rfl dX2_goTo_2 rfl (C_X2_has hF0 (by omega)) rfl rfl (Nat.le_of_ble_eq_true rfl) (Nat.le_of_ble_eq_true rfl) (Nat.le_of_ble_eq_true rfl) ⟨rfl, rfl⟩ rfl rfl rfl rfl rfl rfl  ?_
  refine e_ifb_eq (t := 18) dX2_goTo_5 rfl rfl (fun h5 => ?_) (fun h5 => ?_)
  · exact absurd hb h5
  · refine e_aload_n dX2_goTo_8 rfl rfl ?_
    refine e_iload_n dX2_goTo_9 rfl rfl ?_
    refine e_iload_n dX2_goTo_10 rfl rfl ?_
    refine e_iload_n dX2_goTo_11 rfl rfl ?_
    refine e_cV0 [0, 1, 2, 3, 4, 5, 6, 7, 8, 9] lk_X2_111 rfl dX2_goTo_12 rfl (C_X2_isPossible hF0 (by omega) (by omega) (by omega)) rfl rfl (Nat.le_of_ble_eq_true rfl) (Nat.le_of_ble_eq_true rfl) (Nat.le_of_ble_eq_true rfl) ⟨rfl, rfl⟩ rfl rfl rfl rfl rfl rfl  ?_
    refine e_ifb_ne (t := 20) dX2_goTo_15 rfl rfl (fun h15 => ?_) (fun h15 => ?_)
    · refine e_aload_n dX2_goTo_20 rfl rfl ?_
      refine e_getfield fd_X2_9 dX2_goTo_21 rfl rfl rfl rfl ?_
      refine e_iload_n dX2_goTo_24 rfl rfl ?_
      refine e_iload_n dX2_goTo_25 rfl rfl ?_
      refine e_iastore dX2_goTo_26 rfl rfl rfl (by omega) (by decide) ?_
      refine e_aload_n dX2_goTo_27 rfl rfl ?_
      refine e_getfield fd_X2_15 dX2_goTo_28 rfl rfl rfl rfl ?_
      refine e_iload_n dX2_goTo_31 rfl rfl ?_
      refine e_iload_n dX2_goTo_32 rfl rfl ?_
      refine e_iastore dX2_goTo_33 rfl rfl rfl (by omega) (by decide) ?_
      refine e_aload_n dX2_goTo_34 rfl rfl ?_
      refine e_getfield fd_X2_21 dX2_goTo_35 rfl rfl rfl rfl ?_
      refine e_iload_n dX2_goTo_38 rfl rfl ?_
      refine e_dup2 dX2_goTo_39 rfl rfl rfl ?_
      refine e_ialoadB dX2_goTo_40 rfl rfl rfl (by omega) (by decide) rm ?_
      intro b40
      refine e_iconst dX2_goTo_41 rfl ?_
      refine e_iadd dX2_goTo_42 rfl ?_
      refine e_iastore dX2_goTo_43 rfl rfl rfl (by omega) (by decide) ?_
      refine e_iconst dX2_goTo_44 rfl ?_
      exact e_iret dX2_goTo_45 rfl (by decide) (eRet_t h15 (by first | (rw [sGo_y h15] <;> rfl) | (rw [sGo_n h15] <;> rfl)))
    · refine e_iconst dX2_goTo_18 rfl ?_
      exact e_iret dX2_goTo_19 rfl (by decide) (eRet_f h15 (by first | (rw [sGo_y h15] <;> rfl) | (rw [sGo_n h15] <;> rfl)))
theorem C_X2_oneTowards {X : eXT} {a : Nat → Nat} {z g : Int} (gz : -2147483648 ≤ z ∧ z ≤ 2147483647) (gg : -2147483648 ≤ g ∧ g ≤ 2147483647) :
    EM X mX2_oneTowards (eRm 0) a [vi z, vi g] ([]) (eRet (some (vi (sTw z g))) a []) := by
  refine EM.of (by decide +kernel) rfl (Nat.le_of_ble_eq_true rfl) ?_
  refine e_iload_n dX2_oneTowards_0 rfl rfl ?_
  refine e_iload_n dX2_oneTowards_1 rfl rfl ?_
  refine e_icmp_ne (t := 7) dX2_oneTowards_2 rfl rfl (by omega) (by omega) (fun h2 => ?_) (fun h2 => ?_)
  · refine e_iload_n dX2_oneTowards_7 rfl rfl ?_
    refine e_iload_n dX2_oneTowards_8 rfl rfl ?_
    refine e_icmp_ge (t := 18) dX2_oneTowards_9 rfl rfl (by omega) (by omega) (fun h9 => ?_) (fun h9 => ?_)
    · refine e_iload_n dX2_oneTowards_18 rfl rfl ?_
      refine e_iconst dX2_oneTowards_19 rfl ?_
      refine e_isub dX2_oneTowards_20 rfl ?_
      exact e_iret dX2_oneTowards_21 rfl rfl (eRet_i (by unfold sTw; (repeat' split) <;> omega) rfl)
    · refine e_iload_n dX2_oneTowards_12 rfl rfl ?_
      refine e_iconst dX2_oneTowards_13 rfl ?_
      refine e_iadd dX2_oneTowards_14 rfl ?_
      refine e_goto (n := 21) dX2_oneTowards_15 rfl ?_
      exact e_iret dX2_oneTowards_21 rfl rfl (eRet_i (by unfold sTw; (repeat' split) <;> omega) rfl)
  · refine e_iload_n dX2_oneTowards_5 rfl rfl ?_
    exact e_iret dX2_oneTowards_6 rfl rfl (eRet_i (by unfold sTw; (repeat' split) <;> omega) rfl)

theorem C_X2_moveFollower {X : eXT} {a : Nat → Nat} {N : Int} {F : eFs} {P : Int → Int} (hF : okF N F) {b : Int} (hb : sHas F b) :
    EM X mX2_moveFollower (eRm 4) a [.ref (a 0), vi b] (wFl a F P) (eRet (some (vi (sMFr F b))) a (wFl a (sMF F b) P)) := by
  refine EM.of (by decide +kernel) rfl (Nat.le_of_ble_eq_true rfl) ?_
  have hF0 := hF
  obtain ⟨hc, hld, hled, htn, hgo, hkp, hst, hwt, hcl, hsh, hnx, hN, rx, ry, rh, rm, rc, rw9⟩ := hF
  have b1 := rx b
  have b2 := ry b
  have b3 := rx (F.1 1)
  have b4 := ry (F.1 1)
  refine e_iload_n dX2_moveFollower_0 rfl rfl ?_
  refine e_aload_n dX2_moveFollower_1 rfl rfl ?_
  refine e_getfield fd_X2_46 dX2_moveFollower_2 rfl rfl rfl rfl ?_
  refine e_icmp_eq (t := 24) dX2_moveFollower_5 rfl rfl (by omega) (by omega) (fun h5 => ?_) (fun h5 => ?_)
  · refine e_iconst dX2_moveFollower_24 rfl ?_
    exact e_iret dX2_moveFollower_25 rfl rfl (eRet_i (by first | exact (sMF_0 (sWay_0 (F := F) (b := b) (by omega))).2.symm | exact (sMF_1 (sWay_1 (F := F) (b := b) (fun q => by omega) ⟨by omega, h62⟩)).2.symm | exact (sMF_2 (sWay_2 (F := F) (b := b) (fun q => by omega) (fun q => by have q1 := q.1; first | omega | exact absurd q.2 h62) ⟨by omega, h87⟩)).2.symm | exact (sMF_3 (sWay_3 (F := F) (b := b) (fun q => by omega) (fun q => by have q1 := q.1; first | omega | exact absurd q.2 h62) (fun q => by have q1 := q.1; first | omega | exact absurd q.2 h87) ⟨by omega, h112⟩)).2.symm | exact (sMF_4 (sWay_4 (F := F) (b := b) (fun q => by omega) (fun q => by have q1 := q.1; first | omega | exact absurd q.2 h62) (fun q => by have q1 := q.1; first | omega | exact absurd q.2 h87) (fun q => by have q1 := q.1; first | omega | exact absurd q.2 h112) ⟨by omega, h137⟩)).2.symm | exact (sMF_5 (sWay_5 (F := F) (b := b) (fun q => by omega) (fun q => by have q1 := q.1; first | omega | exact absurd q.2 h62) (fun q => by have q1 := q.1; first | omega | exact absurd q.2 h87) (fun q => by have q1 := q.1; first | omega | exact absurd q.2 h112) (fun q => by have q1 := q.1; first | omega | exact absurd q.2 h137))).2.symm) (by first | (rw [(sMF_0 (sWay_0 (F := F) (b := b) (by omega))).1] <;> rfl) | (rw [(sMF_1 (sWay_1 (F := F) (b := b) (fun q => by omega) ⟨by omega, h62⟩)).1] <;> rfl) | (rw [(sMF_2 (sWay_2 (F := F) (b := b) (fun q => by omega) (fun q => by have q1 := q.1; first | omega | exact absurd q.2 h62) ⟨by omega, h87⟩)).1] <;> rfl) | (rw [(sMF_3 (sWay_3 (F := F) (b := b) (fun q => by omega) (fun q => by have q1 := q.1; first | omega | exact absurd q.2 h62) (fun q => by have q1 := q.1; first | omega | exact absurd q.2 h87) ⟨by omega, h112⟩)).1] <;> rfl) | (rw [(sMF_4 (sWay_4 (F := F) (b := b) (fun q => by omega) (fun q => by have q1 := q.1; first | omega | exact absurd q.2 h62) (fun q => by have q1 := q.1; first | omega | exact absurd q.2 h87) (fun q => by have q1 := q.1; first | omega | exact absurd q.2 h112) ⟨by omega, h137⟩)).1] <;> rfl) | (rw [(sMF_5 (sWay_5 (F := F) (b := b) (fun q => by omega) (fun q => by have q1 := q.1; first | omega | exact absurd q.2 h62) (fun q => by have q1 := q.1; first | omega | exact absurd q.2 h87) (fun q => by have q1 := q.1; first | omega | exact absurd q.2 h112) (fun q => by have q1 := q.1; first | omega | exact absurd q.2 h137))).1] <;> rfl)))
  · refine e_aload_n dX2_moveFollower_8 rfl rfl ?_
    refine e_iload_n dX2_moveFollower_9 rfl rfl ?_
    refine e_aload_n dX2_moveFollower_10 rfl rfl ?_
    refine e_getfield fd_X2_46 dX2_moveFollower_11 rfl rfl rfl rfl ?_
    refine e_cV0 [0, 1, 2, 3, 4, 5, 6, 7, 8, 9] lk_X2_183 rfl dX2_moveFollower_14 rfl (C_X2_distanceOf hF0 (by omega) (by omega)) rfl rfl (Nat.le_of_ble_eq_true rfl) (Nat.le_of_ble_eq_true rfl) (Nat.le_of_ble_eq_true rfl) ⟨rfl, rfl⟩ rfl rfl rfl rfl rfl rfl  ?_
    have u := sDD_in hF0 (b) (F.1 1)
    refine e_aload_n dX2_moveFollower_17 rfl rfl ?_
    refine e_getfield fd_X2_61 dX2_moveFollower_18 rfl rfl rfl rfl ?_
    refine e_icmp_gt (t := 26) dX2_moveFollower_21 rfl rfl (by omega) (by omega) (fun h21 => ?_) (fun h21 => ?_)
    · refine e_aload_n dX2_moveFollower_26 rfl rfl ?_
      refine e_getfield fd_X2_9 dX2_moveFollower_27 rfl rfl rfl rfl ?_
      refine e_iload_n dX2_moveFollower_30 rfl rfl ?_
      refine e_ialoadB dX2_moveFollower_31 rfl rfl rfl (by omega) (by decide) rx ?_
      intro b31
      refine f_istore_n dX2_moveFollower_32 rfl (Nat.le_of_ble_eq_true rfl) rfl ?_
      refine e_aload_n dX2_moveFollower_33 rfl rfl ?_
      refine e_getfield fd_X2_15 dX2_moveFollower_34 rfl rfl rfl rfl ?_
      refine e_iload_n dX2_moveFollower_37 rfl rfl ?_
      refine e_ialoadB dX2_moveFollower_38 rfl rfl rfl (by omega) (by decide) ry ?_
      intro b38
      refine f_istore_n dX2_moveFollower_39 rfl (Nat.le_of_ble_eq_true rfl) rfl ?_
      refine e_iload_n dX2_moveFollower_40 rfl rfl ?_
      refine e_aload_n dX2_moveFollower_41 rfl rfl ?_
      refine e_getfield fd_X2_15 dX2_moveFollower_42 rfl rfl rfl rfl ?_
      refine e_aload_n dX2_moveFollower_45 rfl rfl ?_
      refine e_getfield fd_X2_46 dX2_moveFollower_46 rfl rfl rfl rfl ?_
      refine e_ialoadB dX2_moveFollower_49 rfl rfl rfl (by omega) (by decide) ry ?_
      intro b49
      refine e_icmp_ge (t := 65) dX2_moveFollower_50 rfl rfl (by omega) (by omega) (fun h50 => ?_) (fun h50 => ?_)
      · refine e_iload_n dX2_moveFollower_65 rfl rfl ?_
        refine e_aload_n dX2_moveFollower_66 rfl rfl ?_
        refine e_getfield fd_X2_9 dX2_moveFollower_67 rfl rfl rfl rfl ?_
        refine e_aload_n dX2_moveFollower_70 rfl rfl ?_
        refine e_getfield fd_X2_46 dX2_moveFollower_71 rfl rfl rfl rfl ?_
        refine e_ialoadB dX2_moveFollower_74 rfl rfl rfl (by omega) (by decide) rx ?_
        intro b74
        refine e_icmp_ge (t := 90) dX2_moveFollower_75 rfl rfl (by omega) (by omega) (fun h75 => ?_) (fun h75 => ?_)
        · refine e_iload_n dX2_moveFollower_90 rfl rfl ?_
          refine e_aload_n dX2_moveFollower_91 rfl rfl ?_
          refine e_getfield fd_X2_15 dX2_moveFollower_92 rfl rfl rfl rfl ?_
          refine e_aload_n dX2_moveFollower_95 rfl rfl ?_
          refine e_getfield fd_X2_46 dX2_moveFollower_96 rfl rfl rfl rfl ?_
          refine e_ialoadB dX2_moveFollower_99 rfl rfl rfl (by omega) (by decide) ry ?_
          intro b99
          refine e_icmp_le (t := 115) dX2_moveFollower_100 rfl rfl (by omega) (by omega) (fun h100 => ?_) (fun h100 => ?_)
          · refine e_iload_n dX2_moveFollower_115 rfl rfl ?_
            refine e_aload_n dX2_moveFollower_116 rfl rfl ?_
            refine e_getfield fd_X2_9 dX2_moveFollower_117 rfl rfl rfl rfl ?_
            refine e_aload_n dX2_moveFollower_120 rfl rfl ?_
            refine e_getfield fd_X2_46 dX2_moveFollower_121 rfl rfl rfl rfl ?_
            refine e_ialoadB dX2_moveFollower_124 rfl rfl rfl (by omega) (by decide) rx ?_
            intro b124
            refine e_icmp_le (t := 144) dX2_moveFollower_125 rfl rfl (by omega) (by omega) (fun h125 => ?_) (fun h125 => ?_)
            · refine e_iconst dX2_moveFollower_144 rfl ?_
              refine f_istore dX2_moveFollower_145 rfl (Nat.le_of_ble_eq_true rfl) rfl ?_
              refine e_iload dX2_moveFollower_147 rfl rfl ?_
              refine e_if_ne (t := 162) dX2_moveFollower_149 rfl rfl (by decide) (fun h => absurd h (by decide)) (fun _ => ?_)
              refine e_aload_n dX2_moveFollower_152 rfl rfl ?_
              refine e_dup dX2_moveFollower_153 rfl rfl ?_
              refine e_getfield fd_X2_67 dX2_moveFollower_154 rfl rfl rfl rfl ?_
              refine e_iconst dX2_moveFollower_157 rfl ?_
              refine e_iadd dX2_moveFollower_158 rfl ?_
              refine e_putfield fd_X2_67 dX2_moveFollower_159 rfl rfl rfl (Nat.le_of_ble_eq_true rfl) rfl rfl ?_
              refine e_iload dX2_moveFollower_162 rfl rfl ?_
              refine e_if_eq (t := 171) dX2_moveFollower_164 rfl rfl (by decide) (fun _ => ?_) (fun h => absurd h (by decide))
              refine e_iconst dX2_moveFollower_171 rfl ?_
              exact e_iret dX2_moveFollower_172 rfl rfl (eRet_i (by first | exact (sMF_0 (sWay_0 (F := F) (b := b) (by omega))).2.symm | exact (sMF_1 (sWay_1 (F := F) (b := b) (fun q => by omega) ⟨by omega, h62⟩)).2.symm | exact (sMF_2 (sWay_2 (F := F) (b := b) (fun q => by omega) (fun q => by have q1 := q.1; first | omega | exact absurd q.2 h62) ⟨by omega, h87⟩)).2.symm | exact (sMF_3 (sWay_3 (F := F) (b := b) (fun q => by omega) (fun q => by have q1 := q.1; first | omega | exact absurd q.2 h62) (fun q => by have q1 := q.1; first | omega | exact absurd q.2 h87) ⟨by omega, h112⟩)).2.symm | exact (sMF_4 (sWay_4 (F := F) (b := b) (fun q => by omega) (fun q => by have q1 := q.1; first | omega | exact absurd q.2 h62) (fun q => by have q1 := q.1; first | omega | exact absurd q.2 h87) (fun q => by have q1 := q.1; first | omega | exact absurd q.2 h112) ⟨by omega, h137⟩)).2.symm | exact (sMF_5 (sWay_5 (F := F) (b := b) (fun q => by omega) (fun q => by have q1 := q.1; first | omega | exact absurd q.2 h62) (fun q => by have q1 := q.1; first | omega | exact absurd q.2 h87) (fun q => by have q1 := q.1; first | omega | exact absurd q.2 h112) (fun q => by have q1 := q.1; first | omega | exact absurd q.2 h137))).2.symm) (by first | (rw [(sMF_0 (sWay_0 (F := F) (b := b) (by omega))).1] <;> rfl) | (rw [(sMF_1 (sWay_1 (F := F) (b := b) (fun q => by omega) ⟨by omega, h62⟩)).1] <;> rfl) | (rw [(sMF_2 (sWay_2 (F := F) (b := b) (fun q => by omega) (fun q => by have q1 := q.1; first | omega | exact absurd q.2 h62) ⟨by omega, h87⟩)).1] <;> rfl) | (rw [(sMF_3 (sWay_3 (F := F) (b := b) (fun q => by omega) (fun q => by have q1 := q.1; first | omega | exact absurd q.2 h62) (fun q => by have q1 := q.1; first | omega | exact absurd q.2 h87) ⟨by omega, h112⟩)).1] <;> rfl) | (rw [(sMF_4 (sWay_4 (F := F) (b := b) (fun q => by omega) (fun q => by have q1 := q.1; first | omega | exact absurd q.2 h62) (fun q => by have q1 := q.1; first | omega | exact absurd q.2 h87) (fun q => by have q1 := q.1; first | omega | exact absurd q.2 h112) ⟨by omega, h137⟩)).1] <;> rfl) | (rw [(sMF_5 (sWay_5 (F := F) (b := b) (fun q => by omega) (fun q => by have q1 := q.1; first | omega | exact absurd q.2 h62) (fun q => by have q1 := q.1; first | omega | exact absurd q.2 h87) (fun q => by have q1 := q.1; first | omega | exact absurd q.2 h112) (fun q => by have q1 := q.1; first | omega | exact absurd q.2 h137))).1] <;> rfl)))
            · refine e_aload_n dX2_moveFollower_128 rfl rfl ?_
              refine e_iload_n dX2_moveFollower_129 rfl rfl ?_
              refine e_iload_n dX2_moveFollower_130 rfl rfl ?_
              refine e_iconst dX2_moveFollower_131 rfl ?_
              refine e_isub dX2_moveFollower_132 rfl ?_
              refine e_iload_n dX2_moveFollower_133 rfl rfl ?_
              refine e_cV2 [0, 1, 2, 3, 4, 5, 6, 7, 8, 9] lk_X2_180 rfl dX2_moveFollower_134 rfl (C_X2_goTo hF0 (by omega) (by omega) (by omega)) rfl rfl (Nat.le_of_ble_eq_true rfl) (Nat.le_of_ble_eq_true rfl) (Nat.le_of_ble_eq_true rfl) ⟨rfl, rfl⟩ rfl rfl rfl rfl rfl rfl rfl rfl ?_
              refine e_ifb_eq (t := 144) dX2_moveFollower_137 rfl rfl (fun h137 => ?_) (fun h137 => ?_)
              · refine EV.ceq (cs' := wFl a F P) (by rw [sGo_n h137] <;> rfl) ?_
                refine e_iconst dX2_moveFollower_144 rfl ?_
                refine f_istore dX2_moveFollower_145 rfl (Nat.le_of_ble_eq_true rfl) rfl ?_
                refine e_iload dX2_moveFollower_147 rfl rfl ?_
                refine e_if_ne (t := 162) dX2_moveFollower_149 rfl rfl (by decide) (fun h => absurd h (by decide)) (fun _ => ?_)
                refine e_aload_n dX2_moveFollower_152 rfl rfl ?_
                refine e_dup dX2_moveFollower_153 rfl rfl ?_
                refine e_getfield fd_X2_67 dX2_moveFollower_154 rfl rfl rfl rfl ?_
                refine e_iconst dX2_moveFollower_157 rfl ?_
                refine e_iadd dX2_moveFollower_158 rfl ?_
                refine e_putfield fd_X2_67 dX2_moveFollower_159 rfl rfl rfl (Nat.le_of_ble_eq_true rfl) rfl rfl ?_
                refine e_iload dX2_moveFollower_162 rfl rfl ?_
                refine e_if_eq (t := 171) dX2_moveFollower_164 rfl rfl (by decide) (fun _ => ?_) (fun h => absurd h (by decide))
                refine e_iconst dX2_moveFollower_171 rfl ?_
                exact e_iret dX2_moveFollower_172 rfl rfl (eRet_i (by first | exact (sMF_0 (sWay_0 (F := F) (b := b) (by omega))).2.symm | exact (sMF_1 (sWay_1 (F := F) (b := b) (fun q => by omega) ⟨by omega, h62⟩)).2.symm | exact (sMF_2 (sWay_2 (F := F) (b := b) (fun q => by omega) (fun q => by have q1 := q.1; first | omega | exact absurd q.2 h62) ⟨by omega, h87⟩)).2.symm | exact (sMF_3 (sWay_3 (F := F) (b := b) (fun q => by omega) (fun q => by have q1 := q.1; first | omega | exact absurd q.2 h62) (fun q => by have q1 := q.1; first | omega | exact absurd q.2 h87) ⟨by omega, h112⟩)).2.symm | exact (sMF_4 (sWay_4 (F := F) (b := b) (fun q => by omega) (fun q => by have q1 := q.1; first | omega | exact absurd q.2 h62) (fun q => by have q1 := q.1; first | omega | exact absurd q.2 h87) (fun q => by have q1 := q.1; first | omega | exact absurd q.2 h112) ⟨by omega, h137⟩)).2.symm | exact (sMF_5 (sWay_5 (F := F) (b := b) (fun q => by omega) (fun q => by have q1 := q.1; first | omega | exact absurd q.2 h62) (fun q => by have q1 := q.1; first | omega | exact absurd q.2 h87) (fun q => by have q1 := q.1; first | omega | exact absurd q.2 h112) (fun q => by have q1 := q.1; first | omega | exact absurd q.2 h137))).2.symm) (by first | (rw [(sMF_0 (sWay_0 (F := F) (b := b) (by omega))).1] <;> rfl) | (rw [(sMF_1 (sWay_1 (F := F) (b := b) (fun q => by omega) ⟨by omega, h62⟩)).1] <;> rfl) | (rw [(sMF_2 (sWay_2 (F := F) (b := b) (fun q => by omega) (fun q => by have q1 := q.1; first | omega | exact absurd q.2 h62) ⟨by omega, h87⟩)).1] <;> rfl) | (rw [(sMF_3 (sWay_3 (F := F) (b := b) (fun q => by omega) (fun q => by have q1 := q.1; first | omega | exact absurd q.2 h62) (fun q => by have q1 := q.1; first | omega | exact absurd q.2 h87) ⟨by omega, h112⟩)).1] <;> rfl) | (rw [(sMF_4 (sWay_4 (F := F) (b := b) (fun q => by omega) (fun q => by have q1 := q.1; first | omega | exact absurd q.2 h62) (fun q => by have q1 := q.1; first | omega | exact absurd q.2 h87) (fun q => by have q1 := q.1; first | omega | exact absurd q.2 h112) ⟨by omega, h137⟩)).1] <;> rfl) | (rw [(sMF_5 (sWay_5 (F := F) (b := b) (fun q => by omega) (fun q => by have q1 := q.1; first | omega | exact absurd q.2 h62) (fun q => by have q1 := q.1; first | omega | exact absurd q.2 h87) (fun q => by have q1 := q.1; first | omega | exact absurd q.2 h112) (fun q => by have q1 := q.1; first | omega | exact absurd q.2 h137))).1] <;> rfl)))
              · refine EV.ceq (cs' := wFl a (sMv F b (F.2 0 b - 1) (F.2 1 b)) P) (by rw [sGo_y h137] <;> rfl) ?_
                refine e_iconst dX2_moveFollower_140 rfl ?_
                refine e_goto (n := 145) dX2_moveFollower_141 rfl ?_
                refine f_istore dX2_moveFollower_145 rfl (Nat.le_of_ble_eq_true rfl) rfl ?_
                refine e_iload dX2_moveFollower_147 rfl rfl ?_
                refine e_if_ne (t := 162) dX2_moveFollower_149 rfl rfl (by decide) (fun _ => ?_) (fun h => absurd h (by decide))
                refine e_iload dX2_moveFollower_162 rfl rfl ?_
                refine e_if_eq (t := 171) dX2_moveFollower_164 rfl rfl (by decide) (fun h => absurd h (by decide)) (fun _ => ?_)
                refine e_iconst dX2_moveFollower_167 rfl ?_
                refine e_goto (n := 172) dX2_moveFollower_168 rfl ?_
                exact e_iret dX2_moveFollower_172 rfl rfl (eRet_i (by first | exact (sMF_0 (sWay_0 (F := F) (b := b) (by omega))).2.symm | exact (sMF_1 (sWay_1 (F := F) (b := b) (fun q => by omega) ⟨by omega, h62⟩)).2.symm | exact (sMF_2 (sWay_2 (F := F) (b := b) (fun q => by omega) (fun q => by have q1 := q.1; first | omega | exact absurd q.2 h62) ⟨by omega, h87⟩)).2.symm | exact (sMF_3 (sWay_3 (F := F) (b := b) (fun q => by omega) (fun q => by have q1 := q.1; first | omega | exact absurd q.2 h62) (fun q => by have q1 := q.1; first | omega | exact absurd q.2 h87) ⟨by omega, h112⟩)).2.symm | exact (sMF_4 (sWay_4 (F := F) (b := b) (fun q => by omega) (fun q => by have q1 := q.1; first | omega | exact absurd q.2 h62) (fun q => by have q1 := q.1; first | omega | exact absurd q.2 h87) (fun q => by have q1 := q.1; first | omega | exact absurd q.2 h112) ⟨by omega, h137⟩)).2.symm | exact (sMF_5 (sWay_5 (F := F) (b := b) (fun q => by omega) (fun q => by have q1 := q.1; first | omega | exact absurd q.2 h62) (fun q => by have q1 := q.1; first | omega | exact absurd q.2 h87) (fun q => by have q1 := q.1; first | omega | exact absurd q.2 h112) (fun q => by have q1 := q.1; first | omega | exact absurd q.2 h137))).2.symm) (by first | (rw [(sMF_0 (sWay_0 (F := F) (b := b) (by omega))).1] <;> rfl) | (rw [(sMF_1 (sWay_1 (F := F) (b := b) (fun q => by omega) ⟨by omega, h62⟩)).1] <;> rfl) | (rw [(sMF_2 (sWay_2 (F := F) (b := b) (fun q => by omega) (fun q => by have q1 := q.1; first | omega | exact absurd q.2 h62) ⟨by omega, h87⟩)).1] <;> rfl) | (rw [(sMF_3 (sWay_3 (F := F) (b := b) (fun q => by omega) (fun q => by have q1 := q.1; first | omega | exact absurd q.2 h62) (fun q => by have q1 := q.1; first | omega | exact absurd q.2 h87) ⟨by omega, h112⟩)).1] <;> rfl) | (rw [(sMF_4 (sWay_4 (F := F) (b := b) (fun q => by omega) (fun q => by have q1 := q.1; first | omega | exact absurd q.2 h62) (fun q => by have q1 := q.1; first | omega | exact absurd q.2 h87) (fun q => by have q1 := q.1; first | omega | exact absurd q.2 h112) ⟨by omega, h137⟩)).1] <;> rfl) | (rw [(sMF_5 (sWay_5 (F := F) (b := b) (fun q => by omega) (fun q => by have q1 := q.1; first | omega | exact absurd q.2 h62) (fun q => by have q1 := q.1; first | omega | exact absurd q.2 h87) (fun q => by have q1 := q.1; first | omega | exact absurd q.2 h112) (fun q => by have q1 := q.1; first | omega | exact absurd q.2 h137))).1] <;> rfl)))
          · refine e_aload_n dX2_moveFollower_103 rfl rfl ?_
            refine e_iload_n dX2_moveFollower_104 rfl rfl ?_
            refine e_iload_n dX2_moveFollower_105 rfl rfl ?_
            refine e_iload_n dX2_moveFollower_106 rfl rfl ?_
            refine e_iconst dX2_moveFollower_107 rfl ?_
            refine e_isub dX2_moveFollower_108 rfl ?_
            refine e_cV2 [0, 1, 2, 3, 4, 5, 6, 7, 8, 9] lk_X2_180 rfl dX2_moveFollower_109 rfl (C_X2_goTo hF0 (by omega) (by omega) (by omega)) rfl rfl (Nat.le_of_ble_eq_true rfl) (Nat.le_of_ble_eq_true rfl) (Nat.le_of_ble_eq_true rfl) ⟨rfl, rfl⟩ rfl rfl rfl rfl rfl rfl rfl rfl ?_
            refine e_ifb_ne (t := 140) dX2_moveFollower_112 rfl rfl (fun h112 => ?_) (fun h112 => ?_)
            · refine EV.ceq (cs' := wFl a (sMv F b (F.2 0 b) (F.2 1 b - 1)) P) (by rw [sGo_y h112] <;> rfl) ?_
              refine e_iconst dX2_moveFollower_140 rfl ?_
              refine e_goto (n := 145) dX2_moveFollower_141 rfl ?_
              refine f_istore dX2_moveFollower_145 rfl (Nat.le_of_ble_eq_true rfl) rfl ?_
              refine e_iload dX2_moveFollower_147 rfl rfl ?_
              refine e_if_ne (t := 162) dX2_moveFollower_149 rfl rfl (by decide) (fun _ => ?_) (fun h => absurd h (by decide))
              refine e_iload dX2_moveFollower_162 rfl rfl ?_
              refine e_if_eq (t := 171) dX2_moveFollower_164 rfl rfl (by decide) (fun h => absurd h (by decide)) (fun _ => ?_)
              refine e_iconst dX2_moveFollower_167 rfl ?_
              refine e_goto (n := 172) dX2_moveFollower_168 rfl ?_
              exact e_iret dX2_moveFollower_172 rfl rfl (eRet_i (by first | exact (sMF_0 (sWay_0 (F := F) (b := b) (by omega))).2.symm | exact (sMF_1 (sWay_1 (F := F) (b := b) (fun q => by omega) ⟨by omega, h62⟩)).2.symm | exact (sMF_2 (sWay_2 (F := F) (b := b) (fun q => by omega) (fun q => by have q1 := q.1; first | omega | exact absurd q.2 h62) ⟨by omega, h87⟩)).2.symm | exact (sMF_3 (sWay_3 (F := F) (b := b) (fun q => by omega) (fun q => by have q1 := q.1; first | omega | exact absurd q.2 h62) (fun q => by have q1 := q.1; first | omega | exact absurd q.2 h87) ⟨by omega, h112⟩)).2.symm | exact (sMF_4 (sWay_4 (F := F) (b := b) (fun q => by omega) (fun q => by have q1 := q.1; first | omega | exact absurd q.2 h62) (fun q => by have q1 := q.1; first | omega | exact absurd q.2 h87) (fun q => by have q1 := q.1; first | omega | exact absurd q.2 h112) ⟨by omega, h137⟩)).2.symm | exact (sMF_5 (sWay_5 (F := F) (b := b) (fun q => by omega) (fun q => by have q1 := q.1; first | omega | exact absurd q.2 h62) (fun q => by have q1 := q.1; first | omega | exact absurd q.2 h87) (fun q => by have q1 := q.1; first | omega | exact absurd q.2 h112) (fun q => by have q1 := q.1; first | omega | exact absurd q.2 h137))).2.symm) (by first | (rw [(sMF_0 (sWay_0 (F := F) (b := b) (by omega))).1] <;> rfl) | (rw [(sMF_1 (sWay_1 (F := F) (b := b) (fun q => by omega) ⟨by omega, h62⟩)).1] <;> rfl) | (rw [(sMF_2 (sWay_2 (F := F) (b := b) (fun q => by omega) (fun q => by have q1 := q.1; first | omega | exact absurd q.2 h62) ⟨by omega, h87⟩)).1] <;> rfl) | (rw [(sMF_3 (sWay_3 (F := F) (b := b) (fun q => by omega) (fun q => by have q1 := q.1; first | omega | exact absurd q.2 h62) (fun q => by have q1 := q.1; first | omega | exact absurd q.2 h87) ⟨by omega, h112⟩)).1] <;> rfl) | (rw [(sMF_4 (sWay_4 (F := F) (b := b) (fun q => by omega) (fun q => by have q1 := q.1; first | omega | exact absurd q.2 h62) (fun q => by have q1 := q.1; first | omega | exact absurd q.2 h87) (fun q => by have q1 := q.1; first | omega | exact absurd q.2 h112) ⟨by omega, h137⟩)).1] <;> rfl) | (rw [(sMF_5 (sWay_5 (F := F) (b := b) (fun q => by omega) (fun q => by have q1 := q.1; first | omega | exact absurd q.2 h62) (fun q => by have q1 := q.1; first | omega | exact absurd q.2 h87) (fun q => by have q1 := q.1; first | omega | exact absurd q.2 h112) (fun q => by have q1 := q.1; first | omega | exact absurd q.2 h137))).1] <;> rfl)))
            · refine EV.ceq (cs' := wFl a F P) (by rw [sGo_n h112] <;> rfl) ?_
              refine e_iload_n dX2_moveFollower_115 rfl rfl ?_
              refine e_aload_n dX2_moveFollower_116 rfl rfl ?_
              refine e_getfield fd_X2_9 dX2_moveFollower_117 rfl rfl rfl rfl ?_
              refine e_aload_n dX2_moveFollower_120 rfl rfl ?_
              refine e_getfield fd_X2_46 dX2_moveFollower_121 rfl rfl rfl rfl ?_
              refine e_ialoadB dX2_moveFollower_124 rfl rfl rfl (by omega) (by decide) rx ?_
              intro b124
              refine e_icmp_le (t := 144) dX2_moveFollower_125 rfl rfl (by omega) (by omega) (fun h125 => ?_) (fun h125 => ?_)
              · refine e_iconst dX2_moveFollower_144 rfl ?_
                refine f_istore dX2_moveFollower_145 rfl (Nat.le_of_ble_eq_true rfl) rfl ?_
                refine e_iload dX2_moveFollower_147 rfl rfl ?_
                refine e_if_ne (t := 162) dX2_moveFollower_149 rfl rfl (by decide) (fun h => absurd h (by decide)) (fun _ => ?_)
                refine e_aload_n dX2_moveFollower_152 rfl rfl ?_
                refine e_dup dX2_moveFollower_153 rfl rfl ?_
                refine e_getfield fd_X2_67 dX2_moveFollower_154 rfl rfl rfl rfl ?_
                refine e_iconst dX2_moveFollower_157 rfl ?_
                refine e_iadd dX2_moveFollower_158 rfl ?_
                refine e_putfield fd_X2_67 dX2_moveFollower_159 rfl rfl rfl (Nat.le_of_ble_eq_true rfl) rfl rfl ?_
                refine e_iload dX2_moveFollower_162 rfl rfl ?_
                refine e_if_eq (t := 171) dX2_moveFollower_164 rfl rfl (by decide) (fun _ => ?_) (fun h => absurd h (by decide))
                refine e_iconst dX2_moveFollower_171 rfl ?_
                exact e_iret dX2_moveFollower_172 rfl rfl (eRet_i (by first | exact (sMF_0 (sWay_0 (F := F) (b := b) (by omega))).2.symm | exact (sMF_1 (sWay_1 (F := F) (b := b) (fun q => by omega) ⟨by omega, h62⟩)).2.symm | exact (sMF_2 (sWay_2 (F := F) (b := b) (fun q => by omega) (fun q => by have q1 := q.1; first | omega | exact absurd q.2 h62) ⟨by omega, h87⟩)).2.symm | exact (sMF_3 (sWay_3 (F := F) (b := b) (fun q => by omega) (fun q => by have q1 := q.1; first | omega | exact absurd q.2 h62) (fun q => by have q1 := q.1; first | omega | exact absurd q.2 h87) ⟨by omega, h112⟩)).2.symm | exact (sMF_4 (sWay_4 (F := F) (b := b) (fun q => by omega) (fun q => by have q1 := q.1; first | omega | exact absurd q.2 h62) (fun q => by have q1 := q.1; first | omega | exact absurd q.2 h87) (fun q => by have q1 := q.1; first | omega | exact absurd q.2 h112) ⟨by omega, h137⟩)).2.symm | exact (sMF_5 (sWay_5 (F := F) (b := b) (fun q => by omega) (fun q => by have q1 := q.1; first | omega | exact absurd q.2 h62) (fun q => by have q1 := q.1; first | omega | exact absurd q.2 h87) (fun q => by have q1 := q.1; first | omega | exact absurd q.2 h112) (fun q => by have q1 := q.1; first | omega | exact absurd q.2 h137))).2.symm) (by first | (rw [(sMF_0 (sWay_0 (F := F) (b := b) (by omega))).1] <;> rfl) | (rw [(sMF_1 (sWay_1 (F := F) (b := b) (fun q => by omega) ⟨by omega, h62⟩)).1] <;> rfl) | (rw [(sMF_2 (sWay_2 (F := F) (b := b) (fun q => by omega) (fun q => by have q1 := q.1; first | omega | exact absurd q.2 h62) ⟨by omega, h87⟩)).1] <;> rfl) | (rw [(sMF_3 (sWay_3 (F := F) (b := b) (fun q => by omega) (fun q => by have q1 := q.1; first | omega | exact absurd q.2 h62) (fun q => by have q1 := q.1; first | omega | exact absurd q.2 h87) ⟨by omega, h112⟩)).1] <;> rfl) | (rw [(sMF_4 (sWay_4 (F := F) (b := b) (fun q => by omega) (fun q => by have q1 := q.1; first | omega | exact absurd q.2 h62) (fun q => by have q1 := q.1; first | omega | exact absurd q.2 h87) (fun q => by have q1 := q.1; first | omega | exact absurd q.2 h112) ⟨by omega, h137⟩)).1] <;> rfl) | (rw [(sMF_5 (sWay_5 (F := F) (b := b) (fun q => by omega) (fun q => by have q1 := q.1; first | omega | exact absurd q.2 h62) (fun q => by have q1 := q.1; first | omega | exact absurd q.2 h87) (fun q => by have q1 := q.1; first | omega | exact absurd q.2 h112) (fun q => by have q1 := q.1; first | omega | exact absurd q.2 h137))).1] <;> rfl)))
              · refine e_aload_n dX2_moveFollower_128 rfl rfl ?_
                refine e_iload_n dX2_moveFollower_129 rfl rfl ?_
                refine e_iload_n dX2_moveFollower_130 rfl rfl ?_
                refine e_iconst dX2_moveFollower_131 rfl ?_
                refine e_isub dX2_moveFollower_132 rfl ?_
                refine e_iload_n dX2_moveFollower_133 rfl rfl ?_
                refine e_cV2 [0, 1, 2, 3, 4, 5, 6, 7, 8, 9] lk_X2_180 rfl dX2_moveFollower_134 rfl (C_X2_goTo hF0 (by omega) (by omega) (by omega)) rfl rfl (Nat.le_of_ble_eq_true rfl) (Nat.le_of_ble_eq_true rfl) (Nat.le_of_ble_eq_true rfl) ⟨rfl, rfl⟩ rfl rfl rfl rfl rfl rfl rfl rfl ?_
                refine e_ifb_eq (t := 144) dX2_moveFollower_137 rfl rfl (fun h137 => ?_) (fun h137 => ?_)
                · refine EV.ceq (cs' := wFl a F P) (by rw [sGo_n h137] <;> rfl) ?_
                  refine e_iconst dX2_moveFollower_144 rfl ?_
                  refine f_istore dX2_moveFollower_145 rfl (Nat.le_of_ble_eq_true rfl) rfl ?_
                  refine e_iload dX2_moveFollower_147 rfl rfl ?_
                  refine e_if_ne (t := 162) dX2_moveFollower_149 rfl rfl (by decide) (fun h => absurd h (by decide)) (fun _ => ?_)
                  refine e_aload_n dX2_moveFollower_152 rfl rfl ?_
                  refine e_dup dX2_moveFollower_153 rfl rfl ?_
                  refine e_getfield fd_X2_67 dX2_moveFollower_154 rfl rfl rfl rfl ?_
                  refine e_iconst dX2_moveFollower_157 rfl ?_
                  refine e_iadd dX2_moveFollower_158 rfl ?_
                  refine e_putfield fd_X2_67 dX2_moveFollower_159 rfl rfl rfl (Nat.le_of_ble_eq_true rfl) rfl rfl ?_
                  refine e_iload dX2_moveFollower_162 rfl rfl ?_
                  refine e_if_eq (t := 171) dX2_moveFollower_164 rfl rfl (by decide) (fun _ => ?_) (fun h => absurd h (by decide))
                  refine e_iconst dX2_moveFollower_171 rfl ?_
                  exact e_iret dX2_moveFollower_172 rfl rfl (eRet_i (by first | exact (sMF_0 (sWay_0 (F := F) (b := b) (by omega))).2.symm | exact (sMF_1 (sWay_1 (F := F) (b := b) (fun q => by omega) ⟨by omega, h62⟩)).2.symm | exact (sMF_2 (sWay_2 (F := F) (b := b) (fun q => by omega) (fun q => by have q1 := q.1; first | omega | exact absurd q.2 h62) ⟨by omega, h87⟩)).2.symm | exact (sMF_3 (sWay_3 (F := F) (b := b) (fun q => by omega) (fun q => by have q1 := q.1; first | omega | exact absurd q.2 h62) (fun q => by have q1 := q.1; first | omega | exact absurd q.2 h87) ⟨by omega, h112⟩)).2.symm | exact (sMF_4 (sWay_4 (F := F) (b := b) (fun q => by omega) (fun q => by have q1 := q.1; first | omega | exact absurd q.2 h62) (fun q => by have q1 := q.1; first | omega | exact absurd q.2 h87) (fun q => by have q1 := q.1; first | omega | exact absurd q.2 h112) ⟨by omega, h137⟩)).2.symm | exact (sMF_5 (sWay_5 (F := F) (b := b) (fun q => by omega) (fun q => by have q1 := q.1; first | omega | exact absurd q.2 h62) (fun q => by have q1 := q.1; first | omega | exact absurd q.2 h87) (fun q => by have q1 := q.1; first | omega | exact absurd q.2 h112) (fun q => by have q1 := q.1; first | omega | exact absurd q.2 h137))).2.symm) (by first | (rw [(sMF_0 (sWay_0 (F := F) (b := b) (by omega))).1] <;> rfl) | (rw [(sMF_1 (sWay_1 (F := F) (b := b) (fun q => by omega) ⟨by omega, h62⟩)).1] <;> rfl) | (rw [(sMF_2 (sWay_2 (F := F) (b := b) (fun q => by omega) (fun q => by have q1 := q.1; first | omega | exact absurd q.2 h62) ⟨by omega, h87⟩)).1] <;> rfl) | (rw [(sMF_3 (sWay_3 (F := F) (b := b) (fun q => by omega) (fun q => by have q1 := q.1; first | omega | exact absurd q.2 h62) (fun q => by have q1 := q.1; first | omega | exact absurd q.2 h87) ⟨by omega, h112⟩)).1] <;> rfl) | (rw [(sMF_4 (sWay_4 (F := F) (b := b) (fun q => by omega) (fun q => by have q1 := q.1; first | omega | exact absurd q.2 h62) (fun q => by have q1 := q.1; first | omega | exact absurd q.2 h87) (fun q => by have q1 := q.1; first | omega | exact absurd q.2 h112) ⟨by omega, h137⟩)).1] <;> rfl) | (rw [(sMF_5 (sWay_5 (F := F) (b := b) (fun q => by omega) (fun q => by have q1 := q.1; first | omega | exact absurd q.2 h62) (fun q => by have q1 := q.1; first | omega | exact absurd q.2 h87) (fun q => by have q1 := q.1; first | omega | exact absurd q.2 h112) (fun q => by have q1 := q.1; first | omega | exact absurd q.2 h137))).1] <;> rfl)))
                · refine EV.ceq (cs' := wFl a (sMv F b (F.2 0 b - 1) (F.2 1 b)) P) (by rw [sGo_y h137] <;> rfl) ?_
                  refine e_iconst dX2_moveFollower_140 rfl ?_
                  refine e_goto (n := 145) dX2_moveFollower_141 rfl ?_
                  refine f_istore dX2_moveFollower_145 rfl (Nat.le_of_ble_eq_true rfl) rfl ?_
                  refine e_iload dX2_moveFollower_147 rfl rfl ?_
                  refine e_if_ne (t := 162) dX2_moveFollower_149 rfl rfl (by decide) (fun _ => ?_) (fun h => absurd h (by decide))
                  refine e_iload dX2_moveFollower_162 rfl rfl ?_
                  refine e_if_eq (t := 171) dX2_moveFollower_164 rfl rfl (by decide) (fun h => absurd h (by decide)) (fun _ => ?_)
                  refine e_iconst dX2_moveFollower_167 rfl ?_
                  refine e_goto (n := 172) dX2_moveFollower_168 rfl ?_
                  exact e_iret dX2_moveFollower_172 rfl rfl (eRet_i (by first | exact (sMF_0 (sWay_0 (F := F) (b := b) (by omega))).2.symm | exact (sMF_1 (sWay_1 (F := F) (b := b) (fun q => by omega) ⟨by omega, h62⟩)).2.symm | exact (sMF_2 (sWay_2 (F := F) (b := b) (fun q => by omega) (fun q => by have q1 := q.1; first | omega | exact absurd q.2 h62) ⟨by omega, h87⟩)).2.symm | exact (sMF_3 (sWay_3 (F := F) (b := b) (fun q => by omega) (fun q => by have q1 := q.1; first | omega | exact absurd q.2 h62) (fun q => by have q1 := q.1; first | omega | exact absurd q.2 h87) ⟨by omega, h112⟩)).2.symm | exact (sMF_4 (sWay_4 (F := F) (b := b) (fun q => by omega) (fun q => by have q1 := q.1; first | omega | exact absurd q.2 h62) (fun q => by have q1 := q.1; first | omega | exact absurd q.2 h87) (fun q => by have q1 := q.1; first | omega | exact absurd q.2 h112) ⟨by omega, h137⟩)).2.symm | exact (sMF_5 (sWay_5 (F := F) (b := b) (fun q => by omega) (fun q => by have q1 := q.1; first | omega | exact absurd q.2 h62) (fun q => by have q1 := q.1; first | omega | exact absurd q.2 h87) (fun q => by have q1 := q.1; first | omega | exact absurd q.2 h112) (fun q => by have q1 := q.1; first | omega | exact absurd q.2 h137))).2.symm) (by first | (rw [(sMF_0 (sWay_0 (F := F) (b := b) (by omega))).1] <;> rfl) | (rw [(sMF_1 (sWay_1 (F := F) (b := b) (fun q => by omega) ⟨by omega, h62⟩)).1] <;> rfl) | (rw [(sMF_2 (sWay_2 (F := F) (b := b) (fun q => by omega) (fun q => by have q1 := q.1; first | omega | exact absurd q.2 h62) ⟨by omega, h87⟩)).1] <;> rfl) | (rw [(sMF_3 (sWay_3 (F := F) (b := b) (fun q => by omega) (fun q => by have q1 := q.1; first | omega | exact absurd q.2 h62) (fun q => by have q1 := q.1; first | omega | exact absurd q.2 h87) ⟨by omega, h112⟩)).1] <;> rfl) | (rw [(sMF_4 (sWay_4 (F := F) (b := b) (fun q => by omega) (fun q => by have q1 := q.1; first | omega | exact absurd q.2 h62) (fun q => by have q1 := q.1; first | omega | exact absurd q.2 h87) (fun q => by have q1 := q.1; first | omega | exact absurd q.2 h112) ⟨by omega, h137⟩)).1] <;> rfl) | (rw [(sMF_5 (sWay_5 (F := F) (b := b) (fun q => by omega) (fun q => by have q1 := q.1; first | omega | exact absurd q.2 h62) (fun q => by have q1 := q.1; first | omega | exact absurd q.2 h87) (fun q => by have q1 := q.1; first | omega | exact absurd q.2 h112) (fun q => by have q1 := q.1; first | omega | exact absurd q.2 h137))).1] <;> rfl)))
        · refine e_aload_n dX2_moveFollower_78 rfl rfl ?_
          refine e_iload_n dX2_moveFollower_79 rfl rfl ?_
          refine e_iload_n dX2_moveFollower_80 rfl rfl ?_
          refine e_iconst dX2_moveFollower_81 rfl ?_
          refine e_iadd dX2_moveFollower_82 rfl ?_
          refine e_iload_n dX2_moveFollower_83 rfl rfl ?_
          refine e_cV2 [0, 1, 2, 3, 4, 5, 6, 7, 8, 9] lk_X2_180 rfl dX2_moveFollower_84 rfl (C_X2_goTo hF0 (by omega) (by omega) (by omega)) rfl rfl (Nat.le_of_ble_eq_true rfl) (Nat.le_of_ble_eq_true rfl) (Nat.le_of_ble_eq_true rfl) ⟨rfl, rfl⟩ rfl rfl rfl rfl rfl rfl rfl rfl ?_
          refine e_ifb_ne (t := 140) dX2_moveFollower_87 rfl rfl (fun h87 => ?_) (fun h87 => ?_)
          · refine EV.ceq (cs' := wFl a (sMv F b (F.2 0 b + 1) (F.2 1 b)) P) (by rw [sGo_y h87] <;> rfl) ?_
            refine e_iconst dX2_moveFollower_140 rfl ?_
            refine e_goto (n := 145) dX2_moveFollower_141 rfl ?_
            refine f_istore dX2_moveFollower_145 rfl (Nat.le_of_ble_eq_true rfl) rfl ?_
            refine e_iload dX2_moveFollower_147 rfl rfl ?_
            refine e_if_ne (t := 162) dX2_moveFollower_149 rfl rfl (by decide) (fun _ => ?_) (fun h => absurd h (by decide))
            refine e_iload dX2_moveFollower_162 rfl rfl ?_
            refine e_if_eq (t := 171) dX2_moveFollower_164 rfl rfl (by decide) (fun h => absurd h (by decide)) (fun _ => ?_)
            refine e_iconst dX2_moveFollower_167 rfl ?_
            refine e_goto (n := 172) dX2_moveFollower_168 rfl ?_
            exact e_iret dX2_moveFollower_172 rfl rfl (eRet_i (by first | exact (sMF_0 (sWay_0 (F := F) (b := b) (by omega))).2.symm | exact (sMF_1 (sWay_1 (F := F) (b := b) (fun q => by omega) ⟨by omega, h62⟩)).2.symm | exact (sMF_2 (sWay_2 (F := F) (b := b) (fun q => by omega) (fun q => by have q1 := q.1; first | omega | exact absurd q.2 h62) ⟨by omega, h87⟩)).2.symm | exact (sMF_3 (sWay_3 (F := F) (b := b) (fun q => by omega) (fun q => by have q1 := q.1; first | omega | exact absurd q.2 h62) (fun q => by have q1 := q.1; first | omega | exact absurd q.2 h87) ⟨by omega, h112⟩)).2.symm | exact (sMF_4 (sWay_4 (F := F) (b := b) (fun q => by omega) (fun q => by have q1 := q.1; first | omega | exact absurd q.2 h62) (fun q => by have q1 := q.1; first | omega | exact absurd q.2 h87) (fun q => by have q1 := q.1; first | omega | exact absurd q.2 h112) ⟨by omega, h137⟩)).2.symm | exact (sMF_5 (sWay_5 (F := F) (b := b) (fun q => by omega) (fun q => by have q1 := q.1; first | omega | exact absurd q.2 h62) (fun q => by have q1 := q.1; first | omega | exact absurd q.2 h87) (fun q => by have q1 := q.1; first | omega | exact absurd q.2 h112) (fun q => by have q1 := q.1; first | omega | exact absurd q.2 h137))).2.symm) (by first | (rw [(sMF_0 (sWay_0 (F := F) (b := b) (by omega))).1] <;> rfl) | (rw [(sMF_1 (sWay_1 (F := F) (b := b) (fun q => by omega) ⟨by omega, h62⟩)).1] <;> rfl) | (rw [(sMF_2 (sWay_2 (F := F) (b := b) (fun q => by omega) (fun q => by have q1 := q.1; first | omega | exact absurd q.2 h62) ⟨by omega, h87⟩)).1] <;> rfl) | (rw [(sMF_3 (sWay_3 (F := F) (b := b) (fun q => by omega) (fun q => by have q1 := q.1; first | omega | exact absurd q.2 h62) (fun q => by have q1 := q.1; first | omega | exact absurd q.2 h87) ⟨by omega, h112⟩)).1] <;> rfl) | (rw [(sMF_4 (sWay_4 (F := F) (b := b) (fun q => by omega) (fun q => by have q1 := q.1; first | omega | exact absurd q.2 h62) (fun q => by have q1 := q.1; first | omega | exact absurd q.2 h87) (fun q => by have q1 := q.1; first | omega | exact absurd q.2 h112) ⟨by omega, h137⟩)).1] <;> rfl) | (rw [(sMF_5 (sWay_5 (F := F) (b := b) (fun q => by omega) (fun q => by have q1 := q.1; first | omega | exact absurd q.2 h62) (fun q => by have q1 := q.1; first | omega | exact absurd q.2 h87) (fun q => by have q1 := q.1; first | omega | exact absurd q.2 h112) (fun q => by have q1 := q.1; first | omega | exact absurd q.2 h137))).1] <;> rfl)))
          · refine EV.ceq (cs' := wFl a F P) (by rw [sGo_n h87] <;> rfl) ?_
            refine e_iload_n dX2_moveFollower_90 rfl rfl ?_
            refine e_aload_n dX2_moveFollower_91 rfl rfl ?_
            refine e_getfield fd_X2_15 dX2_moveFollower_92 rfl rfl rfl rfl ?_
            refine e_aload_n dX2_moveFollower_95 rfl rfl ?_
            refine e_getfield fd_X2_46 dX2_moveFollower_96 rfl rfl rfl rfl ?_
            refine e_ialoadB dX2_moveFollower_99 rfl rfl rfl (by omega) (by decide) ry ?_
            intro b99
            refine e_icmp_le (t := 115) dX2_moveFollower_100 rfl rfl (by omega) (by omega) (fun h100 => ?_) (fun h100 => ?_)
            · refine e_iload_n dX2_moveFollower_115 rfl rfl ?_
              refine e_aload_n dX2_moveFollower_116 rfl rfl ?_
              refine e_getfield fd_X2_9 dX2_moveFollower_117 rfl rfl rfl rfl ?_
              refine e_aload_n dX2_moveFollower_120 rfl rfl ?_
              refine e_getfield fd_X2_46 dX2_moveFollower_121 rfl rfl rfl rfl ?_
              refine e_ialoadB dX2_moveFollower_124 rfl rfl rfl (by omega) (by decide) rx ?_
              intro b124
              refine e_icmp_le (t := 144) dX2_moveFollower_125 rfl rfl (by omega) (by omega) (fun h125 => ?_) (fun h125 => ?_)
              · refine e_iconst dX2_moveFollower_144 rfl ?_
                refine f_istore dX2_moveFollower_145 rfl (Nat.le_of_ble_eq_true rfl) rfl ?_
                refine e_iload dX2_moveFollower_147 rfl rfl ?_
                refine e_if_ne (t := 162) dX2_moveFollower_149 rfl rfl (by decide) (fun h => absurd h (by decide)) (fun _ => ?_)
                refine e_aload_n dX2_moveFollower_152 rfl rfl ?_
                refine e_dup dX2_moveFollower_153 rfl rfl ?_
                refine e_getfield fd_X2_67 dX2_moveFollower_154 rfl rfl rfl rfl ?_
                refine e_iconst dX2_moveFollower_157 rfl ?_
                refine e_iadd dX2_moveFollower_158 rfl ?_
                refine e_putfield fd_X2_67 dX2_moveFollower_159 rfl rfl rfl (Nat.le_of_ble_eq_true rfl) rfl rfl ?_
                refine e_iload dX2_moveFollower_162 rfl rfl ?_
                refine e_if_eq (t := 171) dX2_moveFollower_164 rfl rfl (by decide) (fun _ => ?_) (fun h => absurd h (by decide))
                refine e_iconst dX2_moveFollower_171 rfl ?_
                exact e_iret dX2_moveFollower_172 rfl rfl (eRet_i (by first | exact (sMF_0 (sWay_0 (F := F) (b := b) (by omega))).2.symm | exact (sMF_1 (sWay_1 (F := F) (b := b) (fun q => by omega) ⟨by omega, h62⟩)).2.symm | exact (sMF_2 (sWay_2 (F := F) (b := b) (fun q => by omega) (fun q => by have q1 := q.1; first | omega | exact absurd q.2 h62) ⟨by omega, h87⟩)).2.symm | exact (sMF_3 (sWay_3 (F := F) (b := b) (fun q => by omega) (fun q => by have q1 := q.1; first | omega | exact absurd q.2 h62) (fun q => by have q1 := q.1; first | omega | exact absurd q.2 h87) ⟨by omega, h112⟩)).2.symm | exact (sMF_4 (sWay_4 (F := F) (b := b) (fun q => by omega) (fun q => by have q1 := q.1; first | omega | exact absurd q.2 h62) (fun q => by have q1 := q.1; first | omega | exact absurd q.2 h87) (fun q => by have q1 := q.1; first | omega | exact absurd q.2 h112) ⟨by omega, h137⟩)).2.symm | exact (sMF_5 (sWay_5 (F := F) (b := b) (fun q => by omega) (fun q => by have q1 := q.1; first | omega | exact absurd q.2 h62) (fun q => by have q1 := q.1; first | omega | exact absurd q.2 h87) (fun q => by have q1 := q.1; first | omega | exact absurd q.2 h112) (fun q => by have q1 := q.1; first | omega | exact absurd q.2 h137))).2.symm) (by first | (rw [(sMF_0 (sWay_0 (F := F) (b := b) (by omega))).1] <;> rfl) | (rw [(sMF_1 (sWay_1 (F := F) (b := b) (fun q => by omega) ⟨by omega, h62⟩)).1] <;> rfl) | (rw [(sMF_2 (sWay_2 (F := F) (b := b) (fun q => by omega) (fun q => by have q1 := q.1; first | omega | exact absurd q.2 h62) ⟨by omega, h87⟩)).1] <;> rfl) | (rw [(sMF_3 (sWay_3 (F := F) (b := b) (fun q => by omega) (fun q => by have q1 := q.1; first | omega | exact absurd q.2 h62) (fun q => by have q1 := q.1; first | omega | exact absurd q.2 h87) ⟨by omega, h112⟩)).1] <;> rfl) | (rw [(sMF_4 (sWay_4 (F := F) (b := b) (fun q => by omega) (fun q => by have q1 := q.1; first | omega | exact absurd q.2 h62) (fun q => by have q1 := q.1; first | omega | exact absurd q.2 h87) (fun q => by have q1 := q.1; first | omega | exact absurd q.2 h112) ⟨by omega, h137⟩)).1] <;> rfl) | (rw [(sMF_5 (sWay_5 (F := F) (b := b) (fun q => by omega) (fun q => by have q1 := q.1; first | omega | exact absurd q.2 h62) (fun q => by have q1 := q.1; first | omega | exact absurd q.2 h87) (fun q => by have q1 := q.1; first | omega | exact absurd q.2 h112) (fun q => by have q1 := q.1; first | omega | exact absurd q.2 h137))).1] <;> rfl)))
              · refine e_aload_n dX2_moveFollower_128 rfl rfl ?_
                refine e_iload_n dX2_moveFollower_129 rfl rfl ?_
                refine e_iload_n dX2_moveFollower_130 rfl rfl ?_
                refine e_iconst dX2_moveFollower_131 rfl ?_
                refine e_isub dX2_moveFollower_132 rfl ?_
                refine e_iload_n dX2_moveFollower_133 rfl rfl ?_
                refine e_cV2 [0, 1, 2, 3, 4, 5, 6, 7, 8, 9] lk_X2_180 rfl dX2_moveFollower_134 rfl (C_X2_goTo hF0 (by omega) (by omega) (by omega)) rfl rfl (Nat.le_of_ble_eq_true rfl) (Nat.le_of_ble_eq_true rfl) (Nat.le_of_ble_eq_true rfl) ⟨rfl, rfl⟩ rfl rfl rfl rfl rfl rfl rfl rfl ?_
                refine e_ifb_eq (t := 144) dX2_moveFollower_137 rfl rfl (fun h137 => ?_) (fun h137 => ?_)
                · refine EV.ceq (cs' := wFl a F P) (by rw [sGo_n h137] <;> rfl) ?_
                  refine e_iconst dX2_moveFollower_144 rfl ?_
                  refine f_istore dX2_moveFollower_145 rfl (Nat.le_of_ble_eq_true rfl) rfl ?_
                  refine e_iload dX2_moveFollower_147 rfl rfl ?_
                  refine e_if_ne (t := 162) dX2_moveFollower_149 rfl rfl (by decide) (fun h => absurd h (by decide)) (fun _ => ?_)
                  refine e_aload_n dX2_moveFollower_152 rfl rfl ?_
                  refine e_dup dX2_moveFollower_153 rfl rfl ?_
                  refine e_getfield fd_X2_67 dX2_moveFollower_154 rfl rfl rfl rfl ?_
                  refine e_iconst dX2_moveFollower_157 rfl ?_
                  refine e_iadd dX2_moveFollower_158 rfl ?_
                  refine e_putfield fd_X2_67 dX2_moveFollower_159 rfl rfl rfl (Nat.le_of_ble_eq_true rfl) rfl rfl ?_
                  refine e_iload dX2_moveFollower_162 rfl rfl ?_
                  refine e_if_eq (t := 171) dX2_moveFollower_164 rfl rfl (by decide) (fun _ => ?_) (fun h => absurd h (by decide))
                  refine e_iconst dX2_moveFollower_171 rfl ?_
                  exact e_iret dX2_moveFollower_172 rfl rfl (eRet_i (by first | exact (sMF_0 (sWay_0 (F := F) (b := b) (by omega))).2.symm | exact (sMF_1 (sWay_1 (F := F) (b := b) (fun q => by omega) ⟨by omega, h62⟩)).2.symm | exact (sMF_2 (sWay_2 (F := F) (b := b) (fun q => by omega) (fun q => by have q1 := q.1; first | omega | exact absurd q.2 h62) ⟨by omega, h87⟩)).2.symm | exact (sMF_3 (sWay_3 (F := F) (b := b) (fun q => by omega) (fun q => by have q1 := q.1; first | omega | exact absurd q.2 h62) (fun q => by have q1 := q.1; first | omega | exact absurd q.2 h87) ⟨by omega, h112⟩)).2.symm | exact (sMF_4 (sWay_4 (F := F) (b := b) (fun q => by omega) (fun q => by have q1 := q.1; first | omega | exact absurd q.2 h62) (fun q => by have q1 := q.1; first | omega | exact absurd q.2 h87) (fun q => by have q1 := q.1; first | omega | exact absurd q.2 h112) ⟨by omega, h137⟩)).2.symm | exact (sMF_5 (sWay_5 (F := F) (b := b) (fun q => by omega) (fun q => by have q1 := q.1; first | omega | exact absurd q.2 h62) (fun q => by have q1 := q.1; first | omega | exact absurd q.2 h87) (fun q => by have q1 := q.1; first | omega | exact absurd q.2 h112) (fun q => by have q1 := q.1; first | omega | exact absurd q.2 h137))).2.symm) (by first | (rw [(sMF_0 (sWay_0 (F := F) (b := b) (by omega))).1] <;> rfl) | (rw [(sMF_1 (sWay_1 (F := F) (b := b) (fun q => by omega) ⟨by omega, h62⟩)).1] <;> rfl) | (rw [(sMF_2 (sWay_2 (F := F) (b := b) (fun q => by omega) (fun q => by have q1 := q.1; first | omega | exact absurd q.2 h62) ⟨by omega, h87⟩)).1] <;> rfl) | (rw [(sMF_3 (sWay_3 (F := F) (b := b) (fun q => by omega) (fun q => by have q1 := q.1; first | omega | exact absurd q.2 h62) (fun q => by have q1 := q.1; first | omega | exact absurd q.2 h87) ⟨by omega, h112⟩)).1] <;> rfl) | (rw [(sMF_4 (sWay_4 (F := F) (b := b) (fun q => by omega) (fun q => by have q1 := q.1; first | omega | exact absurd q.2 h62) (fun q => by have q1 := q.1; first | omega | exact absurd q.2 h87) (fun q => by have q1 := q.1; first | omega | exact absurd q.2 h112) ⟨by omega, h137⟩)).1] <;> rfl) | (rw [(sMF_5 (sWay_5 (F := F) (b := b) (fun q => by omega) (fun q => by have q1 := q.1; first | omega | exact absurd q.2 h62) (fun q => by have q1 := q.1; first | omega | exact absurd q.2 h87) (fun q => by have q1 := q.1; first | omega | exact absurd q.2 h112) (fun q => by have q1 := q.1; first | omega | exact absurd q.2 h137))).1] <;> rfl)))
                · refine EV.ceq (cs' := wFl a (sMv F b (F.2 0 b - 1) (F.2 1 b)) P) (by rw [sGo_y h137] <;> rfl) ?_
                  refine e_iconst dX2_moveFollower_140 rfl ?_
                  refine e_goto (n := 145) dX2_moveFollower_141 rfl ?_
                  refine f_istore dX2_moveFollower_145 rfl (Nat.le_of_ble_eq_true rfl) rfl ?_
                  refine e_iload dX2_moveFollower_147 rfl rfl ?_
                  refine e_if_ne (t := 162) dX2_moveFollower_149 rfl rfl (by decide) (fun _ => ?_) (fun h => absurd h (by decide))
                  refine e_iload dX2_moveFollower_162 rfl rfl ?_
                  refine e_if_eq (t := 171) dX2_moveFollower_164 rfl rfl (by decide) (fun h => absurd h (by decide)) (fun _ => ?_)
                  refine e_iconst dX2_moveFollower_167 rfl ?_
                  refine e_goto (n := 172) dX2_moveFollower_168 rfl ?_
                  exact e_iret dX2_moveFollower_172 rfl rfl (eRet_i (by first | exact (sMF_0 (sWay_0 (F := F) (b := b) (by omega))).2.symm | exact (sMF_1 (sWay_1 (F := F) (b := b) (fun q => by omega) ⟨by omega, h62⟩)).2.symm | exact (sMF_2 (sWay_2 (F := F) (b := b) (fun q => by omega) (fun q => by have q1 := q.1; first | omega | exact absurd q.2 h62) ⟨by omega, h87⟩)).2.symm | exact (sMF_3 (sWay_3 (F := F) (b := b) (fun q => by omega) (fun q => by have q1 := q.1; first | omega | exact absurd q.2 h62) (fun q => by have q1 := q.1; first | omega | exact absurd q.2 h87) ⟨by omega, h112⟩)).2.symm | exact (sMF_4 (sWay_4 (F := F) (b := b) (fun q => by omega) (fun q => by have q1 := q.1; first | omega | exact absurd q.2 h62) (fun q => by have q1 := q.1; first | omega | exact absurd q.2 h87) (fun q => by have q1 := q.1; first | omega | exact absurd q.2 h112) ⟨by omega, h137⟩)).2.symm | exact (sMF_5 (sWay_5 (F := F) (b := b) (fun q => by omega) (fun q => by have q1 := q.1; first | omega | exact absurd q.2 h62) (fun q => by have q1 := q.1; first | omega | exact absurd q.2 h87) (fun q => by have q1 := q.1; first | omega | exact absurd q.2 h112) (fun q => by have q1 := q.1; first | omega | exact absurd q.2 h137))).2.symm) (by first | (rw [(sMF_0 (sWay_0 (F := F) (b := b) (by omega))).1] <;> rfl) | (rw [(sMF_1 (sWay_1 (F := F) (b := b) (fun q => by omega) ⟨by omega, h62⟩)).1] <;> rfl) | (rw [(sMF_2 (sWay_2 (F := F) (b := b) (fun q => by omega) (fun q => by have q1 := q.1; first | omega | exact absurd q.2 h62) ⟨by omega, h87⟩)).1] <;> rfl) | (rw [(sMF_3 (sWay_3 (F := F) (b := b) (fun q => by omega) (fun q => by have q1 := q.1; first | omega | exact absurd q.2 h62) (fun q => by have q1 := q.1; first | omega | exact absurd q.2 h87) ⟨by omega, h112⟩)).1] <;> rfl) | (rw [(sMF_4 (sWay_4 (F := F) (b := b) (fun q => by omega) (fun q => by have q1 := q.1; first | omega | exact absurd q.2 h62) (fun q => by have q1 := q.1; first | omega | exact absurd q.2 h87) (fun q => by have q1 := q.1; first | omega | exact absurd q.2 h112) ⟨by omega, h137⟩)).1] <;> rfl) | (rw [(sMF_5 (sWay_5 (F := F) (b := b) (fun q => by omega) (fun q => by have q1 := q.1; first | omega | exact absurd q.2 h62) (fun q => by have q1 := q.1; first | omega | exact absurd q.2 h87) (fun q => by have q1 := q.1; first | omega | exact absurd q.2 h112) (fun q => by have q1 := q.1; first | omega | exact absurd q.2 h137))).1] <;> rfl)))
            · refine e_aload_n dX2_moveFollower_103 rfl rfl ?_
              refine e_iload_n dX2_moveFollower_104 rfl rfl ?_
              refine e_iload_n dX2_moveFollower_105 rfl rfl ?_
              refine e_iload_n dX2_moveFollower_106 rfl rfl ?_
              refine e_iconst dX2_moveFollower_107 rfl ?_
              refine e_isub dX2_moveFollower_108 rfl ?_
              refine e_cV2 [0, 1, 2, 3, 4, 5, 6, 7, 8, 9] lk_X2_180 rfl dX2_moveFollower_109 rfl (C_X2_goTo hF0 (by omega) (by omega) (by omega)) rfl rfl (Nat.le_of_ble_eq_true rfl) (Nat.le_of_ble_eq_true rfl) (Nat.le_of_ble_eq_true rfl) ⟨rfl, rfl⟩ rfl rfl rfl rfl rfl rfl rfl rfl ?_
              refine e_ifb_ne (t := 140) dX2_moveFollower_112 rfl rfl (fun h112 => ?_) (fun h112 => ?_)
              · refine EV.ceq (cs' := wFl a (sMv F b (F.2 0 b) (F.2 1 b - 1)) P) (by rw [sGo_y h112] <;> rfl) ?_
                refine e_iconst dX2_moveFollower_140 rfl ?_
                refine e_goto (n := 145) dX2_moveFollower_141 rfl ?_
                refine f_istore dX2_moveFollower_145 rfl (Nat.le_of_ble_eq_true rfl) rfl ?_
                refine e_iload dX2_moveFollower_147 rfl rfl ?_
                refine e_if_ne (t := 162) dX2_moveFollower_149 rfl rfl (by decide) (fun _ => ?_) (fun h => absurd h (by decide))
                refine e_iload dX2_moveFollower_162 rfl rfl ?_
                refine e_if_eq (t := 171) dX2_moveFollower_164 rfl rfl (by decide) (fun h => absurd h (by decide)) (fun _ => ?_)
                refine e_iconst dX2_moveFollower_167 rfl ?_
                refine e_goto (n := 172) dX2_moveFollower_168 rfl ?_
                exact e_iret dX2_moveFollower_172 rfl rfl (eRet_i (by first | exact (sMF_0 (sWay_0 (F := F) (b := b) (by omega))).2.symm | exact (sMF_1 (sWay_1 (F := F) (b := b) (fun q => by omega) ⟨by omega, h62⟩)).2.symm | exact (sMF_2 (sWay_2 (F := F) (b := b) (fun q => by omega) (fun q => by have q1 := q.1; first | omega | exact absurd q.2 h62) ⟨by omega, h87⟩)).2.symm | exact (sMF_3 (sWay_3 (F := F) (b := b) (fun q => by omega) (fun q => by have q1 := q.1; first | omega | exact absurd q.2 h62) (fun q => by have q1 := q.1; first | omega | exact absurd q.2 h87) ⟨by omega, h112⟩)).2.symm | exact (sMF_4 (sWay_4 (F := F) (b := b) (fun q => by omega) (fun q => by have q1 := q.1; first | omega | exact absurd q.2 h62) (fun q => by have q1 := q.1; first | omega | exact absurd q.2 h87) (fun q => by have q1 := q.1; first | omega | exact absurd q.2 h112) ⟨by omega, h137⟩)).2.symm | exact (sMF_5 (sWay_5 (F := F) (b := b) (fun q => by omega) (fun q => by have q1 := q.1; first | omega | exact absurd q.2 h62) (fun q => by have q1 := q.1; first | omega | exact absurd q.2 h87) (fun q => by have q1 := q.1; first | omega | exact absurd q.2 h112) (fun q => by have q1 := q.1; first | omega | exact absurd q.2 h137))).2.symm) (by first | (rw [(sMF_0 (sWay_0 (F := F) (b := b) (by omega))).1] <;> rfl) | (rw [(sMF_1 (sWay_1 (F := F) (b := b) (fun q => by omega) ⟨by omega, h62⟩)).1] <;> rfl) | (rw [(sMF_2 (sWay_2 (F := F) (b := b) (fun q => by omega) (fun q => by have q1 := q.1; first | omega | exact absurd q.2 h62) ⟨by omega, h87⟩)).1] <;> rfl) | (rw [(sMF_3 (sWay_3 (F := F) (b := b) (fun q => by omega) (fun q => by have q1 := q.1; first | omega | exact absurd q.2 h62) (fun q => by have q1 := q.1; first | omega | exact absurd q.2 h87) ⟨by omega, h112⟩)).1] <;> rfl) | (rw [(sMF_4 (sWay_4 (F := F) (b := b) (fun q => by omega) (fun q => by have q1 := q.1; first | omega | exact absurd q.2 h62) (fun q => by have q1 := q.1; first | omega | exact absurd q.2 h87) (fun q => by have q1 := q.1; first | omega | exact absurd q.2 h112) ⟨by omega, h137⟩)).1] <;> rfl) | (rw [(sMF_5 (sWay_5 (F := F) (b := b) (fun q => by omega) (fun q => by have q1 := q.1; first | omega | exact absurd q.2 h62) (fun q => by have q1 := q.1; first | omega | exact absurd q.2 h87) (fun q => by have q1 := q.1; first | omega | exact absurd q.2 h112) (fun q => by have q1 := q.1; first | omega | exact absurd q.2 h137))).1] <;> rfl)))
              · refine EV.ceq (cs' := wFl a F P) (by rw [sGo_n h112] <;> rfl) ?_
                refine e_iload_n dX2_moveFollower_115 rfl rfl ?_
                refine e_aload_n dX2_moveFollower_116 rfl rfl ?_
                refine e_getfield fd_X2_9 dX2_moveFollower_117 rfl rfl rfl rfl ?_
                refine e_aload_n dX2_moveFollower_120 rfl rfl ?_
                refine e_getfield fd_X2_46 dX2_moveFollower_121 rfl rfl rfl rfl ?_
                refine e_ialoadB dX2_moveFollower_124 rfl rfl rfl (by omega) (by decide) rx ?_
                intro b124
                refine e_icmp_le (t := 144) dX2_moveFollower_125 rfl rfl (by omega) (by omega) (fun h125 => ?_) (fun h125 => ?_)
                · refine e_iconst dX2_moveFollower_144 rfl ?_
                  refine f_istore dX2_moveFollower_145 rfl (Nat.le_of_ble_eq_true rfl) rfl ?_
                  refine e_iload dX2_moveFollower_147 rfl rfl ?_
                  refine e_if_ne (t := 162) dX2_moveFollower_149 rfl rfl (by decide) (fun h => absurd h (by decide)) (fun _ => ?_)
                  refine e_aload_n dX2_moveFollower_152 rfl rfl ?_
                  refine e_dup dX2_moveFollower_153 rfl rfl ?_
                  refine e_getfield fd_X2_67 dX2_moveFollower_154 rfl rfl rfl rfl ?_
                  refine e_iconst dX2_moveFollower_157 rfl ?_
                  refine e_iadd dX2_moveFollower_158 rfl ?_
                  refine e_putfield fd_X2_67 dX2_moveFollower_159 rfl rfl rfl (Nat.le_of_ble_eq_true rfl) rfl rfl ?_
                  refine e_iload dX2_moveFollower_162 rfl rfl ?_
                  refine e_if_eq (t := 171) dX2_moveFollower_164 rfl rfl (by decide) (fun _ => ?_) (fun h => absurd h (by decide))
                  refine e_iconst dX2_moveFollower_171 rfl ?_
                  exact e_iret dX2_moveFollower_172 rfl rfl (eRet_i (by first | exact (sMF_0 (sWay_0 (F := F) (b := b) (by omega))).2.symm | exact (sMF_1 (sWay_1 (F := F) (b := b) (fun q => by omega) ⟨by omega, h62⟩)).2.symm | exact (sMF_2 (sWay_2 (F := F) (b := b) (fun q => by omega) (fun q => by have q1 := q.1; first | omega | exact absurd q.2 h62) ⟨by omega, h87⟩)).2.symm | exact (sMF_3 (sWay_3 (F := F) (b := b) (fun q => by omega) (fun q => by have q1 := q.1; first | omega | exact absurd q.2 h62) (fun q => by have q1 := q.1; first | omega | exact absurd q.2 h87) ⟨by omega, h112⟩)).2.symm | exact (sMF_4 (sWay_4 (F := F) (b := b) (fun q => by omega) (fun q => by have q1 := q.1; first | omega | exact absurd q.2 h62) (fun q => by have q1 := q.1; first | omega | exact absurd q.2 h87) (fun q => by have q1 := q.1; first | omega | exact absurd q.2 h112) ⟨by omega, h137⟩)).2.symm | exact (sMF_5 (sWay_5 (F := F) (b := b) (fun q => by omega) (fun q => by have q1 := q.1; first | omega | exact absurd q.2 h62) (fun q => by have q1 := q.1; first | omega | exact absurd q.2 h87) (fun q => by have q1 := q.1; first | omega | exact absurd q.2 h112) (fun q => by have q1 := q.1; first | omega | exact absurd q.2 h137))).2.symm) (by first | (rw [(sMF_0 (sWay_0 (F := F) (b := b) (by omega))).1] <;> rfl) | (rw [(sMF_1 (sWay_1 (F := F) (b := b) (fun q => by omega) ⟨by omega, h62⟩)).1] <;> rfl) | (rw [(sMF_2 (sWay_2 (F := F) (b := b) (fun q => by omega) (fun q => by have q1 := q.1; first | omega | exact absurd q.2 h62) ⟨by omega, h87⟩)).1] <;> rfl) | (rw [(sMF_3 (sWay_3 (F := F) (b := b) (fun q => by omega) (fun q => by have q1 := q.1; first | omega | exact absurd q.2 h62) (fun q => by have q1 := q.1; first | omega | exact absurd q.2 h87) ⟨by omega, h112⟩)).1] <;> rfl) | (rw [(sMF_4 (sWay_4 (F := F) (b := b) (fun q => by omega) (fun q => by have q1 := q.1; first | omega | exact absurd q.2 h62) (fun q => by have q1 := q.1; first | omega | exact absurd q.2 h87) (fun q => by have q1 := q.1; first | omega | exact absurd q.2 h112) ⟨by omega, h137⟩)).1] <;> rfl) | (rw [(sMF_5 (sWay_5 (F := F) (b := b) (fun q => by omega) (fun q => by have q1 := q.1; first | omega | exact absurd q.2 h62) (fun q => by have q1 := q.1; first | omega | exact absurd q.2 h87) (fun q => by have q1 := q.1; first | omega | exact absurd q.2 h112) (fun q => by have q1 := q.1; first | omega | exact absurd q.2 h137))).1] <;> rfl)))
                · refine e_aload_n dX2_moveFollower_128 rfl rfl ?_
                  refine e_iload_n dX2_moveFollower_129 rfl rfl ?_
                  refine e_iload_n dX2_moveFollower_130 rfl rfl ?_
                  refine e_iconst dX2_moveFollower_131 rfl ?_
                  refine e_isub dX2_moveFollower_132 rfl ?_
                  refine e_iload_n dX2_moveFollower_133 rfl rfl ?_
                  refine e_cV2 [0, 1, 2, 3, 4, 5, 6, 7, 8, 9] lk_X2_180 rfl dX2_moveFollower_134 rfl (C_X2_goTo hF0 (by omega) (by omega) (by omega)) rfl rfl (Nat.le_of_ble_eq_true rfl) (Nat.le_of_ble_eq_true rfl) (Nat.le_of_ble_eq_true rfl) ⟨rfl, rfl⟩ rfl rfl rfl rfl rfl rfl rfl rfl ?_
                  refine e_ifb_eq (t := 144) dX2_moveFollower_137 rfl rfl (fun h137 => ?_) (fun h137 => ?_)
                  · refine EV.ceq (cs' := wFl a F P) (by rw [sGo_n h137] <;> rfl) ?_
                    refine e_iconst dX2_moveFollower_144 rfl ?_
                    refine f_istore dX2_moveFollower_145 rfl (Nat.le_of_ble_eq_true rfl) rfl ?_
                    refine e_iload dX2_moveFollower_147 rfl rfl ?_
                    refine e_if_ne (t := 162) dX2_moveFollower_149 rfl rfl (by decide) (fun h => absurd h (by decide)) (fun _ => ?_)
                    refine e_aload_n dX2_moveFollower_152 rfl rfl ?_
                    refine e_dup dX2_moveFollower_153 rfl rfl ?_
                    refine e_getfield fd_X2_67 dX2_moveFollower_154 rfl rfl rfl rfl ?_
                    refine e_iconst dX2_moveFollower_157 rfl ?_
                    refine e_iadd dX2_moveFollower_158 rfl ?_
                    refine e_putfield fd_X2_67 dX2_moveFollower_159 rfl rfl rfl (Nat.le_of_ble_eq_true rfl) rfl rfl ?_
                    refine e_iload dX2_moveFollower_162 rfl rfl ?_
                    refine e_if_eq (t := 171) dX2_moveFollower_164 rfl rfl (by decide) (fun _ => ?_) (fun h => absurd h (by decide))
                    refine e_iconst dX2_moveFollower_171 rfl ?_
                    exact e_iret dX2_moveFollower_172 rfl rfl (eRet_i (by first | exact (sMF_0 (sWay_0 (F := F) (b := b) (by omega))).2.symm | exact (sMF_1 (sWay_1 (F := F) (b := b) (fun q => by omega) ⟨by omega, h62⟩)).2.symm | exact (sMF_2 (sWay_2 (F := F) (b := b) (fun q => by omega) (fun q => by have q1 := q.1; first | omega | exact absurd q.2 h62) ⟨by omega, h87⟩)).2.symm | exact (sMF_3 (sWay_3 (F := F) (b := b) (fun q => by omega) (fun q => by have q1 := q.1; first | omega | exact absurd q.2 h62) (fun q => by have q1 := q.1; first | omega | exact absurd q.2 h87) ⟨by omega, h112⟩)).2.symm | exact (sMF_4 (sWay_4 (F := F) (b := b) (fun q => by omega) (fun q => by have q1 := q.1; first | omega | exact absurd q.2 h62) (fun q => by have q1 := q.1; first | omega | exact absurd q.2 h87) (fun q => by have q1 := q.1; first | omega | exact absurd q.2 h112) ⟨by omega, h137⟩)).2.symm | exact (sMF_5 (sWay_5 (F := F) (b := b) (fun q => by omega) (fun q => by have q1 := q.1; first | omega | exact absurd q.2 h62) (fun q => by have q1 := q.1; first | omega | exact absurd q.2 h87) (fun q => by have q1 := q.1; first | omega | exact absurd q.2 h112) (fun q => by have q1 := q.1; first | omega | exact absurd q.2 h137))).2.symm) (by first | (rw [(sMF_0 (sWay_0 (F := F) (b := b) (by omega))).1] <;> rfl) | (rw [(sMF_1 (sWay_1 (F := F) (b := b) (fun q => by omega) ⟨by omega, h62⟩)).1] <;> rfl) | (rw [(sMF_2 (sWay_2 (F := F) (b := b) (fun q => by omega) (fun q => by have q1 := q.1; first | omega | exact absurd q.2 h62) ⟨by omega, h87⟩)).1] <;> rfl) | (rw [(sMF_3 (sWay_3 (F := F) (b := b) (fun q => by omega) (fun q => by have q1 := q.1; first | omega | exact absurd q.2 h62) (fun q => by have q1 := q.1; first | omega | exact absurd q.2 h87) ⟨by omega, h112⟩)).1] <;> rfl) | (rw [(sMF_4 (sWay_4 (F := F) (b := b) (fun q => by omega) (fun q => by have q1 := q.1; first | omega | exact absurd q.2 h62) (fun q => by have q1 := q.1; first | omega | exact absurd q.2 h87) (fun q => by have q1 := q.1; first | omega | exact absurd q.2 h112) ⟨by omega, h137⟩)).1] <;> rfl) | (rw [(sMF_5 (sWay_5 (F := F) (b := b) (fun q => by omega) (fun q => by have q1 := q.1; first | omega | exact absurd q.2 h62) (fun q => by have q1 := q.1; first | omega | exact absurd q.2 h87) (fun q => by have q1 := q.1; first | omega | exact absurd q.2 h112) (fun q => by have q1 := q.1; first | omega | exact absurd q.2 h137))).1] <;> rfl)))
                  · refine EV.ceq (cs' := wFl a (sMv F b (F.2 0 b - 1) (F.2 1 b)) P) (by rw [sGo_y h137] <;> rfl) ?_
                    refine e_iconst dX2_moveFollower_140 rfl ?_
                    refine e_goto (n := 145) dX2_moveFollower_141 rfl ?_
                    refine f_istore dX2_moveFollower_145 rfl (Nat.le_of_ble_eq_true rfl) rfl ?_
                    refine e_iload dX2_moveFollower_147 rfl rfl ?_
                    refine e_if_ne (t := 162) dX2_moveFollower_149 rfl rfl (by decide) (fun _ => ?_) (fun h => absurd h (by decide))
                    refine e_iload dX2_moveFollower_162 rfl rfl ?_
                    refine e_if_eq (t := 171) dX2_moveFollower_164 rfl rfl (by decide) (fun h => absurd h (by decide)) (fun _ => ?_)
                    refine e_iconst dX2_moveFollower_167 rfl ?_
                    refine e_goto (n := 172) dX2_moveFollower_168 rfl ?_
                    exact e_iret dX2_moveFollower_172 rfl rfl (eRet_i (by first | exact (sMF_0 (sWay_0 (F := F) (b := b) (by omega))).2.symm | exact (sMF_1 (sWay_1 (F := F) (b := b) (fun q => by omega) ⟨by omega, h62⟩)).2.symm | exact (sMF_2 (sWay_2 (F := F) (b := b) (fun q => by omega) (fun q => by have q1 := q.1; first | omega | exact absurd q.2 h62) ⟨by omega, h87⟩)).2.symm | exact (sMF_3 (sWay_3 (F := F) (b := b) (fun q => by omega) (fun q => by have q1 := q.1; first | omega | exact absurd q.2 h62) (fun q => by have q1 := q.1; first | omega | exact absurd q.2 h87) ⟨by omega, h112⟩)).2.symm | exact (sMF_4 (sWay_4 (F := F) (b := b) (fun q => by omega) (fun q => by have q1 := q.1; first | omega | exact absurd q.2 h62) (fun q => by have q1 := q.1; first | omega | exact absurd q.2 h87) (fun q => by have q1 := q.1; first | omega | exact absurd q.2 h112) ⟨by omega, h137⟩)).2.symm | exact (sMF_5 (sWay_5 (F := F) (b := b) (fun q => by omega) (fun q => by have q1 := q.1; first | omega | exact absurd q.2 h62) (fun q => by have q1 := q.1; first | omega | exact absurd q.2 h87) (fun q => by have q1 := q.1; first | omega | exact absurd q.2 h112) (fun q => by have q1 := q.1; first | omega | exact absurd q.2 h137))).2.symm) (by first | (rw [(sMF_0 (sWay_0 (F := F) (b := b) (by omega))).1] <;> rfl) | (rw [(sMF_1 (sWay_1 (F := F) (b := b) (fun q => by omega) ⟨by omega, h62⟩)).1] <;> rfl) | (rw [(sMF_2 (sWay_2 (F := F) (b := b) (fun q => by omega) (fun q => by have q1 := q.1; first | omega | exact absurd q.2 h62) ⟨by omega, h87⟩)).1] <;> rfl) | (rw [(sMF_3 (sWay_3 (F := F) (b := b) (fun q => by omega) (fun q => by have q1 := q.1; first | omega | exact absurd q.2 h62) (fun q => by have q1 := q.1; first | omega | exact absurd q.2 h87) ⟨by omega, h112⟩)).1] <;> rfl) | (rw [(sMF_4 (sWay_4 (F := F) (b := b) (fun q => by omega) (fun q => by have q1 := q.1; first | omega | exact absurd q.2 h62) (fun q => by have q1 := q.1; first | omega | exact absurd q.2 h87) (fun q => by have q1 := q.1; first | omega | exact absurd q.2 h112) ⟨by omega, h137⟩)).1] <;> rfl) | (rw [(sMF_5 (sWay_5 (F := F) (b := b) (fun q => by omega) (fun q => by have q1 := q.1; first | omega | exact absurd q.2 h62) (fun q => by have q1 := q.1; first | omega | exact absurd q.2 h87) (fun q => by have q1 := q.1; first | omega | exact absurd q.2 h112) (fun q => by have q1 := q.1; first | omega | exact absurd q.2 h137))).1] <;> rfl)))
      · refine e_aload_n dX2_moveFollower_53 rfl rfl ?_
        refine e_iload_n dX2_moveFollower_54 rfl rfl ?_
        refine e_iload_n dX2_moveFollower_55 rfl rfl ?_
        refine e_iload_n dX2_moveFollower_56 rfl rfl ?_
        refine e_iconst dX2_moveFollower_57 rfl ?_
        refine e_iadd dX2_moveFollower_58 rfl ?_
        refine e_cV2 [0, 1, 2, 3, 4, 5, 6, 7, 8, 9] lk_X2_180 rfl dX2_moveFollower_59 rfl (C_X2_goTo hF0 (by omega) (by omega) (by omega)) rfl rfl (Nat.le_of_ble_eq_true rfl) (Nat.le_of_ble_eq_true rfl) (Nat.le_of_ble_eq_true rfl) ⟨rfl, rfl⟩ rfl rfl rfl rfl rfl rfl rfl rfl ?_
        refine e_ifb_ne (t := 140) dX2_moveFollower_62 rfl rfl (fun h62 => ?_) (fun h62 => ?_)
        · refine EV.ceq (cs' := wFl a (sMv F b (F.2 0 b) (F.2 1 b + 1)) P) (by rw [sGo_y h62] <;> rfl) ?_
          refine e_iconst dX2_moveFollower_140 rfl ?_
          refine e_goto (n := 145) dX2_moveFollower_141 rfl ?_
          refine f_istore dX2_moveFollower_145 rfl (Nat.le_of_ble_eq_true rfl) rfl ?_
          refine e_iload dX2_moveFollower_147 rfl rfl ?_
          refine e_if_ne (t := 162) dX2_moveFollower_149 rfl rfl (by decide) (fun _ => ?_) (fun h => absurd h (by decide))
          refine e_iload dX2_moveFollower_162 rfl rfl ?_
          refine e_if_eq (t := 171) dX2_moveFollower_164 rfl rfl (by decide) (fun h => absurd h (by decide)) (fun _ => ?_)
          refine e_iconst dX2_moveFollower_167 rfl ?_
          refine e_goto (n := 172) dX2_moveFollower_168 rfl ?_
          exact e_iret dX2_moveFollower_172 rfl rfl (eRet_i (by first | exact (sMF_0 (sWay_0 (F := F) (b := b) (by omega))).2.symm | exact (sMF_1 (sWay_1 (F := F) (b := b) (fun q => by omega) ⟨by omega, h62⟩)).2.symm | exact (sMF_2 (sWay_2 (F := F) (b := b) (fun q => by omega) (fun q => by have q1 := q.1; first | omega | exact absurd q.2 h62) ⟨by omega, h87⟩)).2.symm | exact (sMF_3 (sWay_3 (F := F) (b := b) (fun q => by omega) (fun q => by have q1 := q.1; first | omega | exact absurd q.2 h62) (fun q => by have q1 := q.1; first | omega | exact absurd q.2 h87) ⟨by omega, h112⟩)).2.symm | exact (sMF_4 (sWay_4 (F := F) (b := b) (fun q => by omega) (fun q => by have q1 := q.1; first | omega | exact absurd q.2 h62) (fun q => by have q1 := q.1; first | omega | exact absurd q.2 h87) (fun q => by have q1 := q.1; first | omega | exact absurd q.2 h112) ⟨by omega, h137⟩)).2.symm | exact (sMF_5 (sWay_5 (F := F) (b := b) (fun q => by omega) (fun q => by have q1 := q.1; first | omega | exact absurd q.2 h62) (fun q => by have q1 := q.1; first | omega | exact absurd q.2 h87) (fun q => by have q1 := q.1; first | omega | exact absurd q.2 h112) (fun q => by have q1 := q.1; first | omega | exact absurd q.2 h137))).2.symm) (by first | (rw [(sMF_0 (sWay_0 (F := F) (b := b) (by omega))).1] <;> rfl) | (rw [(sMF_1 (sWay_1 (F := F) (b := b) (fun q => by omega) ⟨by omega, h62⟩)).1] <;> rfl) | (rw [(sMF_2 (sWay_2 (F := F) (b := b) (fun q => by omega) (fun q => by have q1 := q.1; first | omega | exact absurd q.2 h62) ⟨by omega, h87⟩)).1] <;> rfl) | (rw [(sMF_3 (sWay_3 (F := F) (b := b) (fun q => by omega) (fun q => by have q1 := q.1; first | omega | exact absurd q.2 h62) (fun q => by have q1 := q.1; first | omega | exact absurd q.2 h87) ⟨by omega, h112⟩)).1] <;> rfl) | (rw [(sMF_4 (sWay_4 (F := F) (b := b) (fun q => by omega) (fun q => by have q1 := q.1; first | omega | exact absurd q.2 h62) (fun q => by have q1 := q.1; first | omega | exact absurd q.2 h87) (fun q => by have q1 := q.1; first | omega | exact absurd q.2 h112) ⟨by omega, h137⟩)).1] <;> rfl) | (rw [(sMF_5 (sWay_5 (F := F) (b := b) (fun q => by omega) (fun q => by have q1 := q.1; first | omega | exact absurd q.2 h62) (fun q => by have q1 := q.1; first | omega | exact absurd q.2 h87) (fun q => by have q1 := q.1; first | omega | exact absurd q.2 h112) (fun q => by have q1 := q.1; first | omega | exact absurd q.2 h137))).1] <;> rfl)))
        · refine EV.ceq (cs' := wFl a F P) (by rw [sGo_n h62] <;> rfl) ?_
          refine e_iload_n dX2_moveFollower_65 rfl rfl ?_
          refine e_aload_n dX2_moveFollower_66 rfl rfl ?_
          refine e_getfield fd_X2_9 dX2_moveFollower_67 rfl rfl rfl rfl ?_
          refine e_aload_n dX2_moveFollower_70 rfl rfl ?_
          refine e_getfield fd_X2_46 dX2_moveFollower_71 rfl rfl rfl rfl ?_
          refine e_ialoadB dX2_moveFollower_74 rfl rfl rfl (by omega) (by decide) rx ?_
          intro b74
          refine e_icmp_ge (t := 90) dX2_moveFollower_75 rfl rfl (by omega) (by omega) (fun h75 => ?_) (fun h75 => ?_)
          · refine e_iload_n dX2_moveFollower_90 rfl rfl ?_
            refine e_aload_n dX2_moveFollower_91 rfl rfl ?_
            refine e_getfield fd_X2_15 dX2_moveFollower_92 rfl rfl rfl rfl ?_
            refine e_aload_n dX2_moveFollower_95 rfl rfl ?_
            refine e_getfield fd_X2_46 dX2_moveFollower_96 rfl rfl rfl rfl ?_
            refine e_ialoadB dX2_moveFollower_99 rfl rfl rfl (by omega) (by decide) ry ?_
            intro b99
            refine e_icmp_le (t := 115) dX2_moveFollower_100 rfl rfl (by omega) (by omega) (fun h100 => ?_) (fun h100 => ?_)
            · refine e_iload_n dX2_moveFollower_115 rfl rfl ?_
              refine e_aload_n dX2_moveFollower_116 rfl rfl ?_
              refine e_getfield fd_X2_9 dX2_moveFollower_117 rfl rfl rfl rfl ?_
              refine e_aload_n dX2_moveFollower_120 rfl rfl ?_
              refine e_getfield fd_X2_46 dX2_moveFollower_121 rfl rfl rfl rfl ?_
              refine e_ialoadB dX2_moveFollower_124 rfl rfl rfl (by omega) (by decide) rx ?_
              intro b124
              refine e_icmp_le (t := 144) dX2_moveFollower_125 rfl rfl (by omega) (by omega) (fun h125 => ?_) (fun h125 => ?_)
              · refine e_iconst dX2_moveFollower_144 rfl ?_
                refine f_istore dX2_moveFollower_145 rfl (Nat.le_of_ble_eq_true rfl) rfl ?_
                refine e_iload dX2_moveFollower_147 rfl rfl ?_
                refine e_if_ne (t := 162) dX2_moveFollower_149 rfl rfl (by decide) (fun h => absurd h (by decide)) (fun _ => ?_)
                refine e_aload_n dX2_moveFollower_152 rfl rfl ?_
                refine e_dup dX2_moveFollower_153 rfl rfl ?_
                refine e_getfield fd_X2_67 dX2_moveFollower_154 rfl rfl rfl rfl ?_
                refine e_iconst dX2_moveFollower_157 rfl ?_
                refine e_iadd dX2_moveFollower_158 rfl ?_
                refine e_putfield fd_X2_67 dX2_moveFollower_159 rfl rfl rfl (Nat.le_of_ble_eq_true rfl) rfl rfl ?_
                refine e_iload dX2_moveFollower_162 rfl rfl ?_
                refine e_if_eq (t := 171) dX2_moveFollower_164 rfl rfl (by decide) (fun _ => ?_) (fun h => absurd h (by decide))
                refine e_iconst dX2_moveFollower_171 rfl ?_
                exact e_iret dX2_moveFollower_172 rfl rfl (eRet_i (by first | exact (sMF_0 (sWay_0 (F := F) (b := b) (by omega))).2.symm | exact (sMF_1 (sWay_1 (F := F) (b := b) (fun q => by omega) ⟨by omega, h62⟩)).2.symm | exact (sMF_2 (sWay_2 (F := F) (b := b) (fun q => by omega) (fun q => by have q1 := q.1; first | omega | exact absurd q.2 h62) ⟨by omega, h87⟩)).2.symm | exact (sMF_3 (sWay_3 (F := F) (b := b) (fun q => by omega) (fun q => by have q1 := q.1; first | omega | exact absurd q.2 h62) (fun q => by have q1 := q.1; first | omega | exact absurd q.2 h87) ⟨by omega, h112⟩)).2.symm | exact (sMF_4 (sWay_4 (F := F) (b := b) (fun q => by omega) (fun q => by have q1 := q.1; first | omega | exact absurd q.2 h62) (fun q => by have q1 := q.1; first | omega | exact absurd q.2 h87) (fun q => by have q1 := q.1; first | omega | exact absurd q.2 h112) ⟨by omega, h137⟩)).2.symm | exact (sMF_5 (sWay_5 (F := F) (b := b) (fun q => by omega) (fun q => by have q1 := q.1; first | omega | exact absurd q.2 h62) (fun q => by have q1 := q.1; first | omega | exact absurd q.2 h87) (fun q => by have q1 := q.1; first | omega | exact absurd q.2 h112) (fun q => by have q1 := q.1; first | omega | exact absurd q.2 h137))).2.symm) (by first | (rw [(sMF_0 (sWay_0 (F := F) (b := b) (by omega))).1] <;> rfl) | (rw [(sMF_1 (sWay_1 (F := F) (b := b) (fun q => by omega) ⟨by omega, h62⟩)).1] <;> rfl) | (rw [(sMF_2 (sWay_2 (F := F) (b := b) (fun q => by omega) (fun q => by have q1 := q.1; first | omega | exact absurd q.2 h62) ⟨by omega, h87⟩)).1] <;> rfl) | (rw [(sMF_3 (sWay_3 (F := F) (b := b) (fun q => by omega) (fun q => by have q1 := q.1; first | omega | exact absurd q.2 h62) (fun q => by have q1 := q.1; first | omega | exact absurd q.2 h87) ⟨by omega, h112⟩)).1] <;> rfl) | (rw [(sMF_4 (sWay_4 (F := F) (b := b) (fun q => by omega) (fun q => by have q1 := q.1; first | omega | exact absurd q.2 h62) (fun q => by have q1 := q.1; first | omega | exact absurd q.2 h87) (fun q => by have q1 := q.1; first | omega | exact absurd q.2 h112) ⟨by omega, h137⟩)).1] <;> rfl) | (rw [(sMF_5 (sWay_5 (F := F) (b := b) (fun q => by omega) (fun q => by have q1 := q.1; first | omega | exact absurd q.2 h62) (fun q => by have q1 := q.1; first | omega | exact absurd q.2 h87) (fun q => by have q1 := q.1; first | omega | exact absurd q.2 h112) (fun q => by have q1 := q.1; first | omega | exact absurd q.2 h137))).1] <;> rfl)))
              · refine e_aload_n dX2_moveFollower_128 rfl rfl ?_
                refine e_iload_n dX2_moveFollower_129 rfl rfl ?_
                refine e_iload_n dX2_moveFollower_130 rfl rfl ?_
                refine e_iconst dX2_moveFollower_131 rfl ?_
                refine e_isub dX2_moveFollower_132 rfl ?_
                refine e_iload_n dX2_moveFollower_133 rfl rfl ?_
                refine e_cV2 [0, 1, 2, 3, 4, 5, 6, 7, 8, 9] lk_X2_180 rfl dX2_moveFollower_134 rfl (C_X2_goTo hF0 (by omega) (by omega) (by omega)) rfl rfl (Nat.le_of_ble_eq_true rfl) (Nat.le_of_ble_eq_true rfl) (Nat.le_of_ble_eq_true rfl) ⟨rfl, rfl⟩ rfl rfl rfl rfl rfl rfl rfl rfl ?_
                refine e_ifb_eq (t := 144) dX2_moveFollower_137 rfl rfl (fun h137 => ?_) (fun h137 => ?_)
                · refine EV.ceq (cs' := wFl a F P) (by rw [sGo_n h137] <;> rfl) ?_
                  refine e_iconst dX2_moveFollower_144 rfl ?_
                  refine f_istore dX2_moveFollower_145 rfl (Nat.le_of_ble_eq_true rfl) rfl ?_
                  refine e_iload dX2_moveFollower_147 rfl rfl ?_
                  refine e_if_ne (t := 162) dX2_moveFollower_149 rfl rfl (by decide) (fun h => absurd h (by decide)) (fun _ => ?_)
                  refine e_aload_n dX2_moveFollower_152 rfl rfl ?_
                  refine e_dup dX2_moveFollower_153 rfl rfl ?_
                  refine e_getfield fd_X2_67 dX2_moveFollower_154 rfl rfl rfl rfl ?_
                  refine e_iconst dX2_moveFollower_157 rfl ?_
                  refine e_iadd dX2_moveFollower_158 rfl ?_
                  refine e_putfield fd_X2_67 dX2_moveFollower_159 rfl rfl rfl (Nat.le_of_ble_eq_true rfl) rfl rfl ?_
                  refine e_iload dX2_moveFollower_162 rfl rfl ?_
                  refine e_if_eq (t := 171) dX2_moveFollower_164 rfl rfl (by decide) (fun _ => ?_) (fun h => absurd h (by decide))
                  refine e_iconst dX2_moveFollower_171 rfl ?_
                  exact e_iret dX2_moveFollower_172 rfl rfl (eRet_i (by first | exact (sMF_0 (sWay_0 (F := F) (b := b) (by omega))).2.symm | exact (sMF_1 (sWay_1 (F := F) (b := b) (fun q => by omega) ⟨by omega, h62⟩)).2.symm | exact (sMF_2 (sWay_2 (F := F) (b := b) (fun q => by omega) (fun q => by have q1 := q.1; first | omega | exact absurd q.2 h62) ⟨by omega, h87⟩)).2.symm | exact (sMF_3 (sWay_3 (F := F) (b := b) (fun q => by omega) (fun q => by have q1 := q.1; first | omega | exact absurd q.2 h62) (fun q => by have q1 := q.1; first | omega | exact absurd q.2 h87) ⟨by omega, h112⟩)).2.symm | exact (sMF_4 (sWay_4 (F := F) (b := b) (fun q => by omega) (fun q => by have q1 := q.1; first | omega | exact absurd q.2 h62) (fun q => by have q1 := q.1; first | omega | exact absurd q.2 h87) (fun q => by have q1 := q.1; first | omega | exact absurd q.2 h112) ⟨by omega, h137⟩)).2.symm | exact (sMF_5 (sWay_5 (F := F) (b := b) (fun q => by omega) (fun q => by have q1 := q.1; first | omega | exact absurd q.2 h62) (fun q => by have q1 := q.1; first | omega | exact absurd q.2 h87) (fun q => by have q1 := q.1; first | omega | exact absurd q.2 h112) (fun q => by have q1 := q.1; first | omega | exact absurd q.2 h137))).2.symm) (by first | (rw [(sMF_0 (sWay_0 (F := F) (b := b) (by omega))).1] <;> rfl) | (rw [(sMF_1 (sWay_1 (F := F) (b := b) (fun q => by omega) ⟨by omega, h62⟩)).1] <;> rfl) | (rw [(sMF_2 (sWay_2 (F := F) (b := b) (fun q => by omega) (fun q => by have q1 := q.1; first | omega | exact absurd q.2 h62) ⟨by omega, h87⟩)).1] <;> rfl) | (rw [(sMF_3 (sWay_3 (F := F) (b := b) (fun q => by omega) (fun q => by have q1 := q.1; first | omega | exact absurd q.2 h62) (fun q => by have q1 := q.1; first | omega | exact absurd q.2 h87) ⟨by omega, h112⟩)).1] <;> rfl) | (rw [(sMF_4 (sWay_4 (F := F) (b := b) (fun q => by omega) (fun q => by have q1 := q.1; first | omega | exact absurd q.2 h62) (fun q => by have q1 := q.1; first | omega | exact absurd q.2 h87) (fun q => by have q1 := q.1; first | omega | exact absurd q.2 h112) ⟨by omega, h137⟩)).1] <;> rfl) | (rw [(sMF_5 (sWay_5 (F := F) (b := b) (fun q => by omega) (fun q => by have q1 := q.1; first | omega | exact absurd q.2 h62) (fun q => by have q1 := q.1; first | omega | exact absurd q.2 h87) (fun q => by have q1 := q.1; first | omega | exact absurd q.2 h112) (fun q => by have q1 := q.1; first | omega | exact absurd q.2 h137))).1] <;> rfl)))
                · refine EV.ceq (cs' := wFl a (sMv F b (F.2 0 b - 1) (F.2 1 b)) P) (by rw [sGo_y h137] <;> rfl) ?_
                  refine e_iconst dX2_moveFollower_140 rfl ?_
                  refine e_goto (n := 145) dX2_moveFollower_141 rfl ?_
                  refine f_istore dX2_moveFollower_145 rfl (Nat.le_of_ble_eq_true rfl) rfl ?_
                  refine e_iload dX2_moveFollower_147 rfl rfl ?_
                  refine e_if_ne (t := 162) dX2_moveFollower_149 rfl rfl (by decide) (fun _ => ?_) (fun h => absurd h (by decide))
                  refine e_iload dX2_moveFollower_162 rfl rfl ?_
                  refine e_if_eq (t := 171) dX2_moveFollower_164 rfl rfl (by decide) (fun h => absurd h (by decide)) (fun _ => ?_)
                  refine e_iconst dX2_moveFollower_167 rfl ?_
                  refine e_goto (n := 172) dX2_moveFollower_168 rfl ?_
                  exact e_iret dX2_moveFollower_172 rfl rfl (eRet_i (by first | exact (sMF_0 (sWay_0 (F := F) (b := b) (by omega))).2.symm | exact (sMF_1 (sWay_1 (F := F) (b := b) (fun q => by omega) ⟨by omega, h62⟩)).2.symm | exact (sMF_2 (sWay_2 (F := F) (b := b) (fun q => by omega) (fun q => by have q1 := q.1; first | omega | exact absurd q.2 h62) ⟨by omega, h87⟩)).2.symm | exact (sMF_3 (sWay_3 (F := F) (b := b) (fun q => by omega) (fun q => by have q1 := q.1; first | omega | exact absurd q.2 h62) (fun q => by have q1 := q.1; first | omega | exact absurd q.2 h87) ⟨by omega, h112⟩)).2.symm | exact (sMF_4 (sWay_4 (F := F) (b := b) (fun q => by omega) (fun q => by have q1 := q.1; first | omega | exact absurd q.2 h62) (fun q => by have q1 := q.1; first | omega | exact absurd q.2 h87) (fun q => by have q1 := q.1; first | omega | exact absurd q.2 h112) ⟨by omega, h137⟩)).2.symm | exact (sMF_5 (sWay_5 (F := F) (b := b) (fun q => by omega) (fun q => by have q1 := q.1; first | omega | exact absurd q.2 h62) (fun q => by have q1 := q.1; first | omega | exact absurd q.2 h87) (fun q => by have q1 := q.1; first | omega | exact absurd q.2 h112) (fun q => by have q1 := q.1; first | omega | exact absurd q.2 h137))).2.symm) (by first | (rw [(sMF_0 (sWay_0 (F := F) (b := b) (by omega))).1] <;> rfl) | (rw [(sMF_1 (sWay_1 (F := F) (b := b) (fun q => by omega) ⟨by omega, h62⟩)).1] <;> rfl) | (rw [(sMF_2 (sWay_2 (F := F) (b := b) (fun q => by omega) (fun q => by have q1 := q.1; first | omega | exact absurd q.2 h62) ⟨by omega, h87⟩)).1] <;> rfl) | (rw [(sMF_3 (sWay_3 (F := F) (b := b) (fun q => by omega) (fun q => by have q1 := q.1; first | omega | exact absurd q.2 h62) (fun q => by have q1 := q.1; first | omega | exact absurd q.2 h87) ⟨by omega, h112⟩)).1] <;> rfl) | (rw [(sMF_4 (sWay_4 (F := F) (b := b) (fun q => by omega) (fun q => by have q1 := q.1; first | omega | exact absurd q.2 h62) (fun q => by have q1 := q.1; first | omega | exact absurd q.2 h87) (fun q => by have q1 := q.1; first | omega | exact absurd q.2 h112) ⟨by omega, h137⟩)).1] <;> rfl) | (rw [(sMF_5 (sWay_5 (F := F) (b := b) (fun q => by omega) (fun q => by have q1 := q.1; first | omega | exact absurd q.2 h62) (fun q => by have q1 := q.1; first | omega | exact absurd q.2 h87) (fun q => by have q1 := q.1; first | omega | exact absurd q.2 h112) (fun q => by have q1 := q.1; first | omega | exact absurd q.2 h137))).1] <;> rfl)))
            · refine e_aload_n dX2_moveFollower_103 rfl rfl ?_
              refine e_iload_n dX2_moveFollower_104 rfl rfl ?_
              refine e_iload_n dX2_moveFollower_105 rfl rfl ?_
              refine e_iload_n dX2_moveFollower_106 rfl rfl ?_
              refine e_iconst dX2_moveFollower_107 rfl ?_
              refine e_isub dX2_moveFollower_108 rfl ?_
              refine e_cV2 [0, 1, 2, 3, 4, 5, 6, 7, 8, 9] lk_X2_180 rfl dX2_moveFollower_109 rfl (C_X2_goTo hF0 (by omega) (by omega) (by omega)) rfl rfl (Nat.le_of_ble_eq_true rfl) (Nat.le_of_ble_eq_true rfl) (Nat.le_of_ble_eq_true rfl) ⟨rfl, rfl⟩ rfl rfl rfl rfl rfl rfl rfl rfl ?_
              refine e_ifb_ne (t := 140) dX2_moveFollower_112 rfl rfl (fun h112 => ?_) (fun h112 => ?_)
              · refine EV.ceq (cs' := wFl a (sMv F b (F.2 0 b) (F.2 1 b - 1)) P) (by rw [sGo_y h112] <;> rfl) ?_
                refine e_iconst dX2_moveFollower_140 rfl ?_
                refine e_goto (n := 145) dX2_moveFollower_141 rfl ?_
                refine f_istore dX2_moveFollower_145 rfl (Nat.le_of_ble_eq_true rfl) rfl ?_
                refine e_iload dX2_moveFollower_147 rfl rfl ?_
                refine e_if_ne (t := 162) dX2_moveFollower_149 rfl rfl (by decide) (fun _ => ?_) (fun h => absurd h (by decide))
                refine e_iload dX2_moveFollower_162 rfl rfl ?_
                refine e_if_eq (t := 171) dX2_moveFollower_164 rfl rfl (by decide) (fun h => absurd h (by decide)) (fun _ => ?_)
                refine e_iconst dX2_moveFollower_167 rfl ?_
                refine e_goto (n := 172) dX2_moveFollower_168 rfl ?_
                exact e_iret dX2_moveFollower_172 rfl rfl (eRet_i (by first | exact (sMF_0 (sWay_0 (F := F) (b := b) (by omega))).2.symm | exact (sMF_1 (sWay_1 (F := F) (b := b) (fun q => by omega) ⟨by omega, h62⟩)).2.symm | exact (sMF_2 (sWay_2 (F := F) (b := b) (fun q => by omega) (fun q => by have q1 := q.1; first | omega | exact absurd q.2 h62) ⟨by omega, h87⟩)).2.symm | exact (sMF_3 (sWay_3 (F := F) (b := b) (fun q => by omega) (fun q => by have q1 := q.1; first | omega | exact absurd q.2 h62) (fun q => by have q1 := q.1; first | omega | exact absurd q.2 h87) ⟨by omega, h112⟩)).2.symm | exact (sMF_4 (sWay_4 (F := F) (b := b) (fun q => by omega) (fun q => by have q1 := q.1; first | omega | exact absurd q.2 h62) (fun q => by have q1 := q.1; first | omega | exact absurd q.2 h87) (fun q => by have q1 := q.1; first | omega | exact absurd q.2 h112) ⟨by omega, h137⟩)).2.symm | exact (sMF_5 (sWay_5 (F := F) (b := b) (fun q => by omega) (fun q => by have q1 := q.1; first | omega | exact absurd q.2 h62) (fun q => by have q1 := q.1; first | omega | exact absurd q.2 h87) (fun q => by have q1 := q.1; first | omega | exact absurd q.2 h112) (fun q => by have q1 := q.1; first | omega | exact absurd q.2 h137))).2.symm) (by first | (rw [(sMF_0 (sWay_0 (F := F) (b := b) (by omega))).1] <;> rfl) | (rw [(sMF_1 (sWay_1 (F := F) (b := b) (fun q => by omega) ⟨by omega, h62⟩)).1] <;> rfl) | (rw [(sMF_2 (sWay_2 (F := F) (b := b) (fun q => by omega) (fun q => by have q1 := q.1; first | omega | exact absurd q.2 h62) ⟨by omega, h87⟩)).1] <;> rfl) | (rw [(sMF_3 (sWay_3 (F := F) (b := b) (fun q => by omega) (fun q => by have q1 := q.1; first | omega | exact absurd q.2 h62) (fun q => by have q1 := q.1; first | omega | exact absurd q.2 h87) ⟨by omega, h112⟩)).1] <;> rfl) | (rw [(sMF_4 (sWay_4 (F := F) (b := b) (fun q => by omega) (fun q => by have q1 := q.1; first | omega | exact absurd q.2 h62) (fun q => by have q1 := q.1; first | omega | exact absurd q.2 h87) (fun q => by have q1 := q.1; first | omega | exact absurd q.2 h112) ⟨by omega, h137⟩)).1] <;> rfl) | (rw [(sMF_5 (sWay_5 (F := F) (b := b) (fun q => by omega) (fun q => by have q1 := q.1; first | omega | exact absurd q.2 h62) (fun q => by have q1 := q.1; first | omega | exact absurd q.2 h87) (fun q => by have q1 := q.1; first | omega | exact absurd q.2 h112) (fun q => by have q1 := q.1; first | omega | exact absurd q.2 h137))).1] <;> rfl)))
              · refine EV.ceq (cs' := wFl a F P) (by rw [sGo_n h112] <;> rfl) ?_
                refine e_iload_n dX2_moveFollower_115 rfl rfl ?_
                refine e_aload_n dX2_moveFollower_116 rfl rfl ?_
                refine e_getfield fd_X2_9 dX2_moveFollower_117 rfl rfl rfl rfl ?_
                refine e_aload_n dX2_moveFollower_120 rfl rfl ?_
                refine e_getfield fd_X2_46 dX2_moveFollower_121 rfl rfl rfl rfl ?_
                refine e_ialoadB dX2_moveFollower_124 rfl rfl rfl (by omega) (by decide) rx ?_
                intro b124
                refine e_icmp_le (t := 144) dX2_moveFollower_125 rfl rfl (by omega) (by omega) (fun h125 => ?_) (fun h125 => ?_)
                · refine e_iconst dX2_moveFollower_144 rfl ?_
                  refine f_istore dX2_moveFollower_145 rfl (Nat.le_of_ble_eq_true rfl) rfl ?_
                  refine e_iload dX2_moveFollower_147 rfl rfl ?_
                  refine e_if_ne (t := 162) dX2_moveFollower_149 rfl rfl (by decide) (fun h => absurd h (by decide)) (fun _ => ?_)
                  refine e_aload_n dX2_moveFollower_152 rfl rfl ?_
                  refine e_dup dX2_moveFollower_153 rfl rfl ?_
                  refine e_getfield fd_X2_67 dX2_moveFollower_154 rfl rfl rfl rfl ?_
                  refine e_iconst dX2_moveFollower_157 rfl ?_
                  refine e_iadd dX2_moveFollower_158 rfl ?_
                  refine e_putfield fd_X2_67 dX2_moveFollower_159 rfl rfl rfl (Nat.le_of_ble_eq_true rfl) rfl rfl ?_
                  refine e_iload dX2_moveFollower_162 rfl rfl ?_
                  refine e_if_eq (t := 171) dX2_moveFollower_164 rfl rfl (by decide) (fun _ => ?_) (fun h => absurd h (by decide))
                  refine e_iconst dX2_moveFollower_171 rfl ?_
                  exact e_iret dX2_moveFollower_172 rfl rfl (eRet_i (by first | exact (sMF_0 (sWay_0 (F := F) (b := b) (by omega))).2.symm | exact (sMF_1 (sWay_1 (F := F) (b := b) (fun q => by omega) ⟨by omega, h62⟩)).2.symm | exact (sMF_2 (sWay_2 (F := F) (b := b) (fun q => by omega) (fun q => by have q1 := q.1; first | omega | exact absurd q.2 h62) ⟨by omega, h87⟩)).2.symm | exact (sMF_3 (sWay_3 (F := F) (b := b) (fun q => by omega) (fun q => by have q1 := q.1; first | omega | exact absurd q.2 h62) (fun q => by have q1 := q.1; first | omega | exact absurd q.2 h87) ⟨by omega, h112⟩)).2.symm | exact (sMF_4 (sWay_4 (F := F) (b := b) (fun q => by omega) (fun q => by have q1 := q.1; first | omega | exact absurd q.2 h62) (fun q => by have q1 := q.1; first | omega | exact absurd q.2 h87) (fun q => by have q1 := q.1; first | omega | exact absurd q.2 h112) ⟨by omega, h137⟩)).2.symm | exact (sMF_5 (sWay_5 (F := F) (b := b) (fun q => by omega) (fun q => by have q1 := q.1; first | omega | exact absurd q.2 h62) (fun q => by have q1 := q.1; first | omega | exact absurd q.2 h87) (fun q => by have q1 := q.1; first | omega | exact absurd q.2 h112) (fun q => by have q1 := q.1; first | omega | exact absurd q.2 h137))).2.symm) (by first | (rw [(sMF_0 (sWay_0 (F := F) (b := b) (by omega))).1] <;> rfl) | (rw [(sMF_1 (sWay_1 (F := F) (b := b) (fun q => by omega) ⟨by omega, h62⟩)).1] <;> rfl) | (rw [(sMF_2 (sWay_2 (F := F) (b := b) (fun q => by omega) (fun q => by have q1 := q.1; first | omega | exact absurd q.2 h62) ⟨by omega, h87⟩)).1] <;> rfl) | (rw [(sMF_3 (sWay_3 (F := F) (b := b) (fun q => by omega) (fun q => by have q1 := q.1; first | omega | exact absurd q.2 h62) (fun q => by have q1 := q.1; first | omega | exact absurd q.2 h87) ⟨by omega, h112⟩)).1] <;> rfl) | (rw [(sMF_4 (sWay_4 (F := F) (b := b) (fun q => by omega) (fun q => by have q1 := q.1; first | omega | exact absurd q.2 h62) (fun q => by have q1 := q.1; first | omega | exact absurd q.2 h87) (fun q => by have q1 := q.1; first | omega | exact absurd q.2 h112) ⟨by omega, h137⟩)).1] <;> rfl) | (rw [(sMF_5 (sWay_5 (F := F) (b := b) (fun q => by omega) (fun q => by have q1 := q.1; first | omega | exact absurd q.2 h62) (fun q => by have q1 := q.1; first | omega | exact absurd q.2 h87) (fun q => by have q1 := q.1; first | omega | exact absurd q.2 h112) (fun q => by have q1 := q.1; first | omega | exact absurd q.2 h137))).1] <;> rfl)))
                · refine e_aload_n dX2_moveFollower_128 rfl rfl ?_
                  refine e_iload_n dX2_moveFollower_129 rfl rfl ?_
                  refine e_iload_n dX2_moveFollower_130 rfl rfl ?_
                  refine e_iconst dX2_moveFollower_131 rfl ?_
                  refine e_isub dX2_moveFollower_132 rfl ?_
                  refine e_iload_n dX2_moveFollower_133 rfl rfl ?_
                  refine e_cV2 [0, 1, 2, 3, 4, 5, 6, 7, 8, 9] lk_X2_180 rfl dX2_moveFollower_134 rfl (C_X2_goTo hF0 (by omega) (by omega) (by omega)) rfl rfl (Nat.le_of_ble_eq_true rfl) (Nat.le_of_ble_eq_true rfl) (Nat.le_of_ble_eq_true rfl) ⟨rfl, rfl⟩ rfl rfl rfl rfl rfl rfl rfl rfl ?_
                  refine e_ifb_eq (t := 144) dX2_moveFollower_137 rfl rfl (fun h137 => ?_) (fun h137 => ?_)
                  · refine EV.ceq (cs' := wFl a F P) (by rw [sGo_n h137] <;> rfl) ?_
                    refine e_iconst dX2_moveFollower_144 rfl ?_
                    refine f_istore dX2_moveFollower_145 rfl (Nat.le_of_ble_eq_true rfl) rfl ?_
                    refine e_iload dX2_moveFollower_147 rfl rfl ?_
                    refine e_if_ne (t := 162) dX2_moveFollower_149 rfl rfl (by decide) (fun h => absurd h (by decide)) (fun _ => ?_)
                    refine e_aload_n dX2_moveFollower_152 rfl rfl ?_
                    refine e_dup dX2_moveFollower_153 rfl rfl ?_
                    refine e_getfield fd_X2_67 dX2_moveFollower_154 rfl rfl rfl rfl ?_
                    refine e_iconst dX2_moveFollower_157 rfl ?_
                    refine e_iadd dX2_moveFollower_158 rfl ?_
                    refine e_putfield fd_X2_67 dX2_moveFollower_159 rfl rfl rfl (Nat.le_of_ble_eq_true rfl) rfl rfl ?_
                    refine e_iload dX2_moveFollower_162 rfl rfl ?_
                    refine e_if_eq (t := 171) dX2_moveFollower_164 rfl rfl (by decide) (fun _ => ?_) (fun h => absurd h (by decide))
                    refine e_iconst dX2_moveFollower_171 rfl ?_
                    exact e_iret dX2_moveFollower_172 rfl rfl (eRet_i (by first | exact (sMF_0 (sWay_0 (F := F) (b := b) (by omega))).2.symm | exact (sMF_1 (sWay_1 (F := F) (b := b) (fun q => by omega) ⟨by omega, h62⟩)).2.symm | exact (sMF_2 (sWay_2 (F := F) (b := b) (fun q => by omega) (fun q => by have q1 := q.1; first | omega | exact absurd q.2 h62) ⟨by omega, h87⟩)).2.symm | exact (sMF_3 (sWay_3 (F := F) (b := b) (fun q => by omega) (fun q => by have q1 := q.1; first | omega | exact absurd q.2 h62) (fun q => by have q1 := q.1; first | omega | exact absurd q.2 h87) ⟨by omega, h112⟩)).2.symm | exact (sMF_4 (sWay_4 (F := F) (b := b) (fun q => by omega) (fun q => by have q1 := q.1; first | omega | exact absurd q.2 h62) (fun q => by have q1 := q.1; first | omega | exact absurd q.2 h87) (fun q => by have q1 := q.1; first | omega | exact absurd q.2 h112) ⟨by omega, h137⟩)).2.symm | exact (sMF_5 (sWay_5 (F := F) (b := b) (fun q => by omega) (fun q => by have q1 := q.1; first | omega | exact absurd q.2 h62) (fun q => by have q1 := q.1; first | omega | exact absurd q.2 h87) (fun q => by have q1 := q.1; first | omega | exact absurd q.2 h112) (fun q => by have q1 := q.1; first | omega | exact absurd q.2 h137))).2.symm) (by first | (rw [(sMF_0 (sWay_0 (F := F) (b := b) (by omega))).1] <;> rfl) | (rw [(sMF_1 (sWay_1 (F := F) (b := b) (fun q => by omega) ⟨by omega, h62⟩)).1] <;> rfl) | (rw [(sMF_2 (sWay_2 (F := F) (b := b) (fun q => by omega) (fun q => by have q1 := q.1; first | omega | exact absurd q.2 h62) ⟨by omega, h87⟩)).1] <;> rfl) | (rw [(sMF_3 (sWay_3 (F := F) (b := b) (fun q => by omega) (fun q => by have q1 := q.1; first | omega | exact absurd q.2 h62) (fun q => by have q1 := q.1; first | omega | exact absurd q.2 h87) ⟨by omega, h112⟩)).1] <;> rfl) | (rw [(sMF_4 (sWay_4 (F := F) (b := b) (fun q => by omega) (fun q => by have q1 := q.1; first | omega | exact absurd q.2 h62) (fun q => by have q1 := q.1; first | omega | exact absurd q.2 h87) (fun q => by have q1 := q.1; first | omega | exact absurd q.2 h112) ⟨by omega, h137⟩)).1] <;> rfl) | (rw [(sMF_5 (sWay_5 (F := F) (b := b) (fun q => by omega) (fun q => by have q1 := q.1; first | omega | exact absurd q.2 h62) (fun q => by have q1 := q.1; first | omega | exact absurd q.2 h87) (fun q => by have q1 := q.1; first | omega | exact absurd q.2 h112) (fun q => by have q1 := q.1; first | omega | exact absurd q.2 h137))).1] <;> rfl)))
                  · refine EV.ceq (cs' := wFl a (sMv F b (F.2 0 b - 1) (F.2 1 b)) P) (by rw [sGo_y h137] <;> rfl) ?_
                    refine e_iconst dX2_moveFollower_140 rfl ?_
                    refine e_goto (n := 145) dX2_moveFollower_141 rfl ?_
                    refine f_istore dX2_moveFollower_145 rfl (Nat.le_of_ble_eq_true rfl) rfl ?_
                    refine e_iload dX2_moveFollower_147 rfl rfl ?_
                    refine e_if_ne (t := 162) dX2_moveFollower_149 rfl rfl (by decide) (fun _ => ?_) (fun h => absurd h (by decide))
                    refine e_iload dX2_moveFollower_162 rfl rfl ?_
                    refine e_if_eq (t := 171) dX2_moveFollower_164 rfl rfl (by decide) (fun h => absurd h (by decide)) (fun _ => ?_)
                    refine e_iconst dX2_moveFollower_167 rfl ?_
                    refine e_goto (n := 172) dX2_moveFollower_168 rfl ?_
                    exact e_iret dX2_moveFollower_172 rfl rfl (eRet_i (by first | exact (sMF_0 (sWay_0 (F := F) (b := b) (by omega))).2.symm | exact (sMF_1 (sWay_1 (F := F) (b := b) (fun q => by omega) ⟨by omega, h62⟩)).2.symm | exact (sMF_2 (sWay_2 (F := F) (b := b) (fun q => by omega) (fun q => by have q1 := q.1; first | omega | exact absurd q.2 h62) ⟨by omega, h87⟩)).2.symm | exact (sMF_3 (sWay_3 (F := F) (b := b) (fun q => by omega) (fun q => by have q1 := q.1; first | omega | exact absurd q.2 h62) (fun q => by have q1 := q.1; first | omega | exact absurd q.2 h87) ⟨by omega, h112⟩)).2.symm | exact (sMF_4 (sWay_4 (F := F) (b := b) (fun q => by omega) (fun q => by have q1 := q.1; first | omega | exact absurd q.2 h62) (fun q => by have q1 := q.1; first | omega | exact absurd q.2 h87) (fun q => by have q1 := q.1; first | omega | exact absurd q.2 h112) ⟨by omega, h137⟩)).2.symm | exact (sMF_5 (sWay_5 (F := F) (b := b) (fun q => by omega) (fun q => by have q1 := q.1; first | omega | exact absurd q.2 h62) (fun q => by have q1 := q.1; first | omega | exact absurd q.2 h87) (fun q => by have q1 := q.1; first | omega | exact absurd q.2 h112) (fun q => by have q1 := q.1; first | omega | exact absurd q.2 h137))).2.symm) (by first | (rw [(sMF_0 (sWay_0 (F := F) (b := b) (by omega))).1] <;> rfl) | (rw [(sMF_1 (sWay_1 (F := F) (b := b) (fun q => by omega) ⟨by omega, h62⟩)).1] <;> rfl) | (rw [(sMF_2 (sWay_2 (F := F) (b := b) (fun q => by omega) (fun q => by have q1 := q.1; first | omega | exact absurd q.2 h62) ⟨by omega, h87⟩)).1] <;> rfl) | (rw [(sMF_3 (sWay_3 (F := F) (b := b) (fun q => by omega) (fun q => by have q1 := q.1; first | omega | exact absurd q.2 h62) (fun q => by have q1 := q.1; first | omega | exact absurd q.2 h87) ⟨by omega, h112⟩)).1] <;> rfl) | (rw [(sMF_4 (sWay_4 (F := F) (b := b) (fun q => by omega) (fun q => by have q1 := q.1; first | omega | exact absurd q.2 h62) (fun q => by have q1 := q.1; first | omega | exact absurd q.2 h87) (fun q => by have q1 := q.1; first | omega | exact absurd q.2 h112) ⟨by omega, h137⟩)).1] <;> rfl) | (rw [(sMF_5 (sWay_5 (F := F) (b := b) (fun q => by omega) (fun q => by have q1 := q.1; first | omega | exact absurd q.2 h62) (fun q => by have q1 := q.1; first | omega | exact absurd q.2 h87) (fun q => by have q1 := q.1; first | omega | exact absurd q.2 h112) (fun q => by have q1 := q.1; first | omega | exact absurd q.2 h137))).1] <;> rfl)))
          · refine e_aload_n dX2_moveFollower_78 rfl rfl ?_
            refine e_iload_n dX2_moveFollower_79 rfl rfl ?_
            refine e_iload_n dX2_moveFollower_80 rfl rfl ?_
            refine e_iconst dX2_moveFollower_81 rfl ?_
            refine e_iadd dX2_moveFollower_82 rfl ?_
            refine e_iload_n dX2_moveFollower_83 rfl rfl ?_
            refine e_cV2 [0, 1, 2, 3, 4, 5, 6, 7, 8, 9] lk_X2_180 rfl dX2_moveFollower_84 rfl (C_X2_goTo hF0 (by omega) (by omega) (by omega)) rfl rfl (Nat.le_of_ble_eq_true rfl) (Nat.le_of_ble_eq_true rfl) (Nat.le_of_ble_eq_true rfl) ⟨rfl, rfl⟩ rfl rfl rfl rfl rfl rfl rfl rfl ?_
            refine e_ifb_ne (t := 140) dX2_moveFollower_87 rfl rfl (fun h87 => ?_) (fun h87 => ?_)
            · refine EV.ceq (cs' := wFl a (sMv F b (F.2 0 b + 1) (F.2 1 b)) P) (by rw [sGo_y h87] <;> rfl) ?_
              refine e_iconst dX2_moveFollower_140 rfl ?_
              refine e_goto (n := 145) dX2_moveFollower_141 rfl ?_
              refine f_istore dX2_moveFollower_145 rfl (Nat.le_of_ble_eq_true rfl) rfl ?_
              refine e_iload dX2_moveFollower_147 rfl rfl ?_
              refine e_if_ne (t := 162) dX2_moveFollower_149 rfl rfl (by decide) (fun _ => ?_) (fun h => absurd h (by decide))
              refine e_iload dX2_moveFollower_162 rfl rfl ?_
              refine e_if_eq (t := 171) dX2_moveFollower_164 rfl rfl (by decide) (fun h => absurd h (by decide)) (fun _ => ?_)
              refine e_iconst dX2_moveFollower_167 rfl ?_
              refine e_goto (n := 172) dX2_moveFollower_168 rfl ?_
              exact e_iret dX2_moveFollower_172 rfl rfl (eRet_i (by first | exact (sMF_0 (sWay_0 (F := F) (b := b) (by omega))).2.symm | exact (sMF_1 (sWay_1 (F := F) (b := b) (fun q => by omega) ⟨by omega, h62⟩)).2.symm | exact (sMF_2 (sWay_2 (F := F) (b := b) (fun q => by omega) (fun q => by have q1 := q.1; first | omega | exact absurd q.2 h62) ⟨by omega, h87⟩)).2.symm | exact (sMF_3 (sWay_3 (F := F) (b := b) (fun q => by omega) (fun q => by have q1 := q.1; first | omega | exact absurd q.2 h62) (fun q => by have q1 := q.1; first | omega | exact absurd q.2 h87) ⟨by omega, h112⟩)).2.symm | exact (sMF_4 (sWay_4 (F := F) (b := b) (fun q => by omega) (fun q => by have q1 := q.1; first | omega | exact absurd q.2 h62) (fun q => by have q1 := q.1; first | omega | exact absurd q.2 h87) (fun q => by have q1 := q.1; first | omega | exact absurd q.2 h112) ⟨by omega, h137⟩)).2.symm | exact (sMF_5 (sWay_5 (F := F) (b := b) (fun q => by omega) (fun q => by have q1 := q.1; first | omega | exact absurd q.2 h62) (fun q => by have q1 := q.1; first | omega | exact absurd q.2 h87) (fun q => by have q1 := q.1; first | omega | exact absurd q.2 h112) (fun q => by have q1 := q.1; first | omega | exact absurd q.2 h137))).2.symm) (by first | (rw [(sMF_0 (sWay_0 (F := F) (b := b) (by omega))).1] <;> rfl) | (rw [(sMF_1 (sWay_1 (F := F) (b := b) (fun q => by omega) ⟨by omega, h62⟩)).1] <;> rfl) | (rw [(sMF_2 (sWay_2 (F := F) (b := b) (fun q => by omega) (fun q => by have q1 := q.1; first | omega | exact absurd q.2 h62) ⟨by omega, h87⟩)).1] <;> rfl) | (rw [(sMF_3 (sWay_3 (F := F) (b := b) (fun q => by omega) (fun q => by have q1 := q.1; first | omega | exact absurd q.2 h62) (fun q => by have q1 := q.1; first | omega | exact absurd q.2 h87) ⟨by omega, h112⟩)).1] <;> rfl) | (rw [(sMF_4 (sWay_4 (F := F) (b := b) (fun q => by omega) (fun q => by have q1 := q.1; first | omega | exact absurd q.2 h62) (fun q => by have q1 := q.1; first | omega | exact absurd q.2 h87) (fun q => by have q1 := q.1; first | omega | exact absurd q.2 h112) ⟨by omega, h137⟩)).1] <;> rfl) | (rw [(sMF_5 (sWay_5 (F := F) (b := b) (fun q => by omega) (fun q => by have q1 := q.1; first | omega | exact absurd q.2 h62) (fun q => by have q1 := q.1; first | omega | exact absurd q.2 h87) (fun q => by have q1 := q.1; first | omega | exact absurd q.2 h112) (fun q => by have q1 := q.1; first | omega | exact absurd q.2 h137))).1] <;> rfl)))
            · refine EV.ceq (cs' := wFl a F P) (by rw [sGo_n h87] <;> rfl) ?_
              refine e_iload_n dX2_moveFollower_90 rfl rfl ?_
              refine e_aload_n dX2_moveFollower_91 rfl rfl ?_
              refine e_getfield fd_X2_15 dX2_moveFollower_92 rfl rfl rfl rfl ?_
              refine e_aload_n dX2_moveFollower_95 rfl rfl ?_
              refine e_getfield fd_X2_46 dX2_moveFollower_96 rfl rfl rfl rfl ?_
              refine e_ialoadB dX2_moveFollower_99 rfl rfl rfl (by omega) (by decide) ry ?_
              intro b99
              refine e_icmp_le (t := 115) dX2_moveFollower_100 rfl rfl (by omega) (by omega) (fun h100 => ?_) (fun h100 => ?_)
              · refine e_iload_n dX2_moveFollower_115 rfl rfl ?_
                refine e_aload_n dX2_moveFollower_116 rfl rfl ?_
                refine e_getfield fd_X2_9 dX2_moveFollower_117 rfl rfl rfl rfl ?_
                refine e_aload_n dX2_moveFollower_120 rfl rfl ?_
                refine e_getfield fd_X2_46 dX2_moveFollower_121 rfl rfl rfl rfl ?_
                refine e_ialoadB dX2_moveFollower_124 rfl rfl rfl (by omega) (by decide) rx ?_
                intro b124
                refine e_icmp_le (t := 144) dX2_moveFollower_125 rfl rfl (by omega) (by omega) (fun h125 => ?_) (fun h125 => ?_)
                · refine e_iconst dX2_moveFollower_144 rfl ?_
                  refine f_istore dX2_moveFollower_145 rfl (Nat.le_of_ble_eq_true rfl) rfl ?_
                  refine e_iload dX2_moveFollower_147 rfl rfl ?_
                  refine e_if_ne (t := 162) dX2_moveFollower_149 rfl rfl (by decide) (fun h => absurd h (by decide)) (fun _ => ?_)
                  refine e_aload_n dX2_moveFollower_152 rfl rfl ?_
                  refine e_dup dX2_moveFollower_153 rfl rfl ?_
                  refine e_getfield fd_X2_67 dX2_moveFollower_154 rfl rfl rfl rfl ?_
                  refine e_iconst dX2_moveFollower_157 rfl ?_
                  refine e_iadd dX2_moveFollower_158 rfl ?_
                  refine e_putfield fd_X2_67 dX2_moveFollower_159 rfl rfl rfl (Nat.le_of_ble_eq_true rfl) rfl rfl ?_
                  refine e_iload dX2_moveFollower_162 rfl rfl ?_
                  refine e_if_eq (t := 171) dX2_moveFollower_164 rfl rfl (by decide) (fun _ => ?_) (fun h => absurd h (by decide))
                  refine e_iconst dX2_moveFollower_171 rfl ?_
                  exact e_iret dX2_moveFollower_172 rfl rfl (eRet_i (by first | exact (sMF_0 (sWay_0 (F := F) (b := b) (by omega))).2.symm | exact (sMF_1 (sWay_1 (F := F) (b := b) (fun q => by omega) ⟨by omega, h62⟩)).2.symm | exact (sMF_2 (sWay_2 (F := F) (b := b) (fun q => by omega) (fun q => by have q1 := q.1; first | omega | exact absurd q.2 h62) ⟨by omega, h87⟩)).2.symm | exact (sMF_3 (sWay_3 (F := F) (b := b) (fun q => by omega) (fun q => by have q1 := q.1; first | omega | exact absurd q.2 h62) (fun q => by have q1 := q.1; first | omega | exact absurd q.2 h87) ⟨by omega, h112⟩)).2.symm | exact (sMF_4 (sWay_4 (F := F) (b := b) (fun q => by omega) (fun q => by have q1 := q.1; first | omega | exact absurd q.2 h62) (fun q => by have q1 := q.1; first | omega | exact absurd q.2 h87) (fun q => by have q1 := q.1; first | omega | exact absurd q.2 h112) ⟨by omega, h137⟩)).2.symm | exact (sMF_5 (sWay_5 (F := F) (b := b) (fun q => by omega) (fun q => by have q1 := q.1; first | omega | exact absurd q.2 h62) (fun q => by have q1 := q.1; first | omega | exact absurd q.2 h87) (fun q => by have q1 := q.1; first | omega | exact absurd q.2 h112) (fun q => by have q1 := q.1; first | omega | exact absurd q.2 h137))).2.symm) (by first | (rw [(sMF_0 (sWay_0 (F := F) (b := b) (by omega))).1] <;> rfl) | (rw [(sMF_1 (sWay_1 (F := F) (b := b) (fun q => by omega) ⟨by omega, h62⟩)).1] <;> rfl) | (rw [(sMF_2 (sWay_2 (F := F) (b := b) (fun q => by omega) (fun q => by have q1 := q.1; first | omega | exact absurd q.2 h62) ⟨by omega, h87⟩)).1] <;> rfl) | (rw [(sMF_3 (sWay_3 (F := F) (b := b) (fun q => by omega) (fun q => by have q1 := q.1; first | omega | exact absurd q.2 h62) (fun q => by have q1 := q.1; first | omega | exact absurd q.2 h87) ⟨by omega, h112⟩)).1] <;> rfl) | (rw [(sMF_4 (sWay_4 (F := F) (b := b) (fun q => by omega) (fun q => by have q1 := q.1; first | omega | exact absurd q.2 h62) (fun q => by have q1 := q.1; first | omega | exact absurd q.2 h87) (fun q => by have q1 := q.1; first | omega | exact absurd q.2 h112) ⟨by omega, h137⟩)).1] <;> rfl) | (rw [(sMF_5 (sWay_5 (F := F) (b := b) (fun q => by omega) (fun q => by have q1 := q.1; first | omega | exact absurd q.2 h62) (fun q => by have q1 := q.1; first | omega | exact absurd q.2 h87) (fun q => by have q1 := q.1; first | omega | exact absurd q.2 h112) (fun q => by have q1 := q.1; first | omega | exact absurd q.2 h137))).1] <;> rfl)))
                · refine e_aload_n dX2_moveFollower_128 rfl rfl ?_
                  refine e_iload_n dX2_moveFollower_129 rfl rfl ?_
                  refine e_iload_n dX2_moveFollower_130 rfl rfl ?_
                  refine e_iconst dX2_moveFollower_131 rfl ?_
                  refine e_isub dX2_moveFollower_132 rfl ?_
                  refine e_iload_n dX2_moveFollower_133 rfl rfl ?_
                  refine e_cV2 [0, 1, 2, 3, 4, 5, 6, 7, 8, 9] lk_X2_180 rfl dX2_moveFollower_134 rfl (C_X2_goTo hF0 (by omega) (by omega) (by omega)) rfl rfl (Nat.le_of_ble_eq_true rfl) (Nat.le_of_ble_eq_true rfl) (Nat.le_of_ble_eq_true rfl) ⟨rfl, rfl⟩ rfl rfl rfl rfl rfl rfl rfl rfl ?_
                  refine e_ifb_eq (t := 144) dX2_moveFollower_137 rfl rfl (fun h137 => ?_) (fun h137 => ?_)
                  · refine EV.ceq (cs' := wFl a F P) (by rw [sGo_n h137] <;> rfl) ?_
                    refine e_iconst dX2_moveFollower_144 rfl ?_
                    refine f_istore dX2_moveFollower_145 rfl (Nat.le_of_ble_eq_true rfl) rfl ?_
                    refine e_iload dX2_moveFollower_147 rfl rfl ?_
                    refine e_if_ne (t := 162) dX2_moveFollower_149 rfl rfl (by decide) (fun h => absurd h (by decide)) (fun _ => ?_)
                    refine e_aload_n dX2_moveFollower_152 rfl rfl ?_
                    refine e_dup dX2_moveFollower_153 rfl rfl ?_
                    refine e_getfield fd_X2_67 dX2_moveFollower_154 rfl rfl rfl rfl ?_
                    refine e_iconst dX2_moveFollower_157 rfl ?_
                    refine e_iadd dX2_moveFollower_158 rfl ?_
                    refine e_putfield fd_X2_67 dX2_moveFollower_159 rfl rfl rfl (Nat.le_of_ble_eq_true rfl) rfl rfl ?_
                    refine e_iload dX2_moveFollower_162 rfl rfl ?_
                    refine e_if_eq (t := 171) dX2_moveFollower_164 rfl rfl (by decide) (fun _ => ?_) (fun h => absurd h (by decide))
                    refine e_iconst dX2_moveFollower_171 rfl ?_
                    exact e_iret dX2_moveFollower_172 rfl rfl (eRet_i (by first | exact (sMF_0 (sWay_0 (F := F) (b := b) (by omega))).2.symm | exact (sMF_1 (sWay_1 (F := F) (b := b) (fun q => by omega) ⟨by omega, h62⟩)).2.symm | exact (sMF_2 (sWay_2 (F := F) (b := b) (fun q => by omega) (fun q => by have q1 := q.1; first | omega | exact absurd q.2 h62) ⟨by omega, h87⟩)).2.symm | exact (sMF_3 (sWay_3 (F := F) (b := b) (fun q => by omega) (fun q => by have q1 := q.1; first | omega | exact absurd q.2 h62) (fun q => by have q1 := q.1; first | omega | exact absurd q.2 h87) ⟨by omega, h112⟩)).2.symm | exact (sMF_4 (sWay_4 (F := F) (b := b) (fun q => by omega) (fun q => by have q1 := q.1; first | omega | exact absurd q.2 h62) (fun q => by have q1 := q.1; first | omega | exact absurd q.2 h87) (fun q => by have q1 := q.1; first | omega | exact absurd q.2 h112) ⟨by omega, h137⟩)).2.symm | exact (sMF_5 (sWay_5 (F := F) (b := b) (fun q => by omega) (fun q => by have q1 := q.1; first | omega | exact absurd q.2 h62) (fun q => by have q1 := q.1; first | omega | exact absurd q.2 h87) (fun q => by have q1 := q.1; first | omega | exact absurd q.2 h112) (fun q => by have q1 := q.1; first | omega | exact absurd q.2 h137))).2.symm) (by first | (rw [(sMF_0 (sWay_0 (F := F) (b := b) (by omega))).1] <;> rfl) | (rw [(sMF_1 (sWay_1 (F := F) (b := b) (fun q => by omega) ⟨by omega, h62⟩)).1] <;> rfl) | (rw [(sMF_2 (sWay_2 (F := F) (b := b) (fun q => by omega) (fun q => by have q1 := q.1; first | omega | exact absurd q.2 h62) ⟨by omega, h87⟩)).1] <;> rfl) | (rw [(sMF_3 (sWay_3 (F := F) (b := b) (fun q => by omega) (fun q => by have q1 := q.1; first | omega | exact absurd q.2 h62) (fun q => by have q1 := q.1; first | omega | exact absurd q.2 h87) ⟨by omega, h112⟩)).1] <;> rfl) | (rw [(sMF_4 (sWay_4 (F := F) (b := b) (fun q => by omega) (fun q => by have q1 := q.1; first | omega | exact absurd q.2 h62) (fun q => by have q1 := q.1; first | omega | exact absurd q.2 h87) (fun q => by have q1 := q.1; first | omega | exact absurd q.2 h112) ⟨by omega, h137⟩)).1] <;> rfl) | (rw [(sMF_5 (sWay_5 (F := F) (b := b) (fun q => by omega) (fun q => by have q1 := q.1; first | omega | exact absurd q.2 h62) (fun q => by have q1 := q.1; first | omega | exact absurd q.2 h87) (fun q => by have q1 := q.1; first | omega | exact absurd q.2 h112) (fun q => by have q1 := q.1; first | omega | exact absurd q.2 h137))).1] <;> rfl)))
                  · refine EV.ceq (cs' := wFl a (sMv F b (F.2 0 b - 1) (F.2 1 b)) P) (by rw [sGo_y h137] <;> rfl) ?_
                    refine e_iconst dX2_moveFollower_140 rfl ?_
                    refine e_goto (n := 145) dX2_moveFollower_141 rfl ?_
                    refine f_istore dX2_moveFollower_145 rfl (Nat.le_of_ble_eq_true rfl) rfl ?_
                    refine e_iload dX2_moveFollower_147 rfl rfl ?_
                    refine e_if_ne (t := 162) dX2_moveFollower_149 rfl rfl (by decide) (fun _ => ?_) (fun h => absurd h (by decide))
                    refine e_iload dX2_moveFollower_162 rfl rfl ?_
                    refine e_if_eq (t := 171) dX2_moveFollower_164 rfl rfl (by decide) (fun h => absurd h (by decide)) (fun _ => ?_)
                    refine e_iconst dX2_moveFollower_167 rfl ?_
                    refine e_goto (n := 172) dX2_moveFollower_168 rfl ?_
                    exact e_iret dX2_moveFollower_172 rfl rfl (eRet_i (by first | exact (sMF_0 (sWay_0 (F := F) (b := b) (by omega))).2.symm | exact (sMF_1 (sWay_1 (F := F) (b := b) (fun q => by omega) ⟨by omega, h62⟩)).2.symm | exact (sMF_2 (sWay_2 (F := F) (b := b) (fun q => by omega) (fun q => by have q1 := q.1; first | omega | exact absurd q.2 h62) ⟨by omega, h87⟩)).2.symm | exact (sMF_3 (sWay_3 (F := F) (b := b) (fun q => by omega) (fun q => by have q1 := q.1; first | omega | exact absurd q.2 h62) (fun q => by have q1 := q.1; first | omega | exact absurd q.2 h87) ⟨by omega, h112⟩)).2.symm | exact (sMF_4 (sWay_4 (F := F) (b := b) (fun q => by omega) (fun q => by have q1 := q.1; first | omega | exact absurd q.2 h62) (fun q => by have q1 := q.1; first | omega | exact absurd q.2 h87) (fun q => by have q1 := q.1; first | omega | exact absurd q.2 h112) ⟨by omega, h137⟩)).2.symm | exact (sMF_5 (sWay_5 (F := F) (b := b) (fun q => by omega) (fun q => by have q1 := q.1; first | omega | exact absurd q.2 h62) (fun q => by have q1 := q.1; first | omega | exact absurd q.2 h87) (fun q => by have q1 := q.1; first | omega | exact absurd q.2 h112) (fun q => by have q1 := q.1; first | omega | exact absurd q.2 h137))).2.symm) (by first | (rw [(sMF_0 (sWay_0 (F := F) (b := b) (by omega))).1] <;> rfl) | (rw [(sMF_1 (sWay_1 (F := F) (b := b) (fun q => by omega) ⟨by omega, h62⟩)).1] <;> rfl) | (rw [(sMF_2 (sWay_2 (F := F) (b := b) (fun q => by omega) (fun q => by have q1 := q.1; first | omega | exact absurd q.2 h62) ⟨by omega, h87⟩)).1] <;> rfl) | (rw [(sMF_3 (sWay_3 (F := F) (b := b) (fun q => by omega) (fun q => by have q1 := q.1; first | omega | exact absurd q.2 h62) (fun q => by have q1 := q.1; first | omega | exact absurd q.2 h87) ⟨by omega, h112⟩)).1] <;> rfl) | (rw [(sMF_4 (sWay_4 (F := F) (b := b) (fun q => by omega) (fun q => by have q1 := q.1; first | omega | exact absurd q.2 h62) (fun q => by have q1 := q.1; first | omega | exact absurd q.2 h87) (fun q => by have q1 := q.1; first | omega | exact absurd q.2 h112) ⟨by omega, h137⟩)).1] <;> rfl) | (rw [(sMF_5 (sWay_5 (F := F) (b := b) (fun q => by omega) (fun q => by have q1 := q.1; first | omega | exact absurd q.2 h62) (fun q => by have q1 := q.1; first | omega | exact absurd q.2 h87) (fun q => by have q1 := q.1; first | omega | exact absurd q.2 h112) (fun q => by have q1 := q.1; first | omega | exact absurd q.2 h137))).1] <;> rfl)))
              · refine e_aload_n dX2_moveFollower_103 rfl rfl ?_
                refine e_iload_n dX2_moveFollower_104 rfl rfl ?_
                refine e_iload_n dX2_moveFollower_105 rfl rfl ?_
                refine e_iload_n dX2_moveFollower_106 rfl rfl ?_
                refine e_iconst dX2_moveFollower_107 rfl ?_
                refine e_isub dX2_moveFollower_108 rfl ?_
                refine e_cV2 [0, 1, 2, 3, 4, 5, 6, 7, 8, 9] lk_X2_180 rfl dX2_moveFollower_109 rfl (C_X2_goTo hF0 (by omega) (by omega) (by omega)) rfl rfl (Nat.le_of_ble_eq_true rfl) (Nat.le_of_ble_eq_true rfl) (Nat.le_of_ble_eq_true rfl) ⟨rfl, rfl⟩ rfl rfl rfl rfl rfl rfl rfl rfl ?_
                refine e_ifb_ne (t := 140) dX2_moveFollower_112 rfl rfl (fun h112 => ?_) (fun h112 => ?_)
                · refine EV.ceq (cs' := wFl a (sMv F b (F.2 0 b) (F.2 1 b - 1)) P) (by rw [sGo_y h112] <;> rfl) ?_
                  refine e_iconst dX2_moveFollower_140 rfl ?_
                  refine e_goto (n := 145) dX2_moveFollower_141 rfl ?_
                  refine f_istore dX2_moveFollower_145 rfl (Nat.le_of_ble_eq_true rfl) rfl ?_
                  refine e_iload dX2_moveFollower_147 rfl rfl ?_
                  refine e_if_ne (t := 162) dX2_moveFollower_149 rfl rfl (by decide) (fun _ => ?_) (fun h => absurd h (by decide))
                  refine e_iload dX2_moveFollower_162 rfl rfl ?_
                  refine e_if_eq (t := 171) dX2_moveFollower_164 rfl rfl (by decide) (fun h => absurd h (by decide)) (fun _ => ?_)
                  refine e_iconst dX2_moveFollower_167 rfl ?_
                  refine e_goto (n := 172) dX2_moveFollower_168 rfl ?_
                  exact e_iret dX2_moveFollower_172 rfl rfl (eRet_i (by first | exact (sMF_0 (sWay_0 (F := F) (b := b) (by omega))).2.symm | exact (sMF_1 (sWay_1 (F := F) (b := b) (fun q => by omega) ⟨by omega, h62⟩)).2.symm | exact (sMF_2 (sWay_2 (F := F) (b := b) (fun q => by omega) (fun q => by have q1 := q.1; first | omega | exact absurd q.2 h62) ⟨by omega, h87⟩)).2.symm | exact (sMF_3 (sWay_3 (F := F) (b := b) (fun q => by omega) (fun q => by have q1 := q.1; first | omega | exact absurd q.2 h62) (fun q => by have q1 := q.1; first | omega | exact absurd q.2 h87) ⟨by omega, h112⟩)).2.symm | exact (sMF_4 (sWay_4 (F := F) (b := b) (fun q => by omega) (fun q => by have q1 := q.1; first | omega | exact absurd q.2 h62) (fun q => by have q1 := q.1; first | omega | exact absurd q.2 h87) (fun q => by have q1 := q.1; first | omega | exact absurd q.2 h112) ⟨by omega, h137⟩)).2.symm | exact (sMF_5 (sWay_5 (F := F) (b := b) (fun q => by omega) (fun q => by have q1 := q.1; first | omega | exact absurd q.2 h62) (fun q => by have q1 := q.1; first | omega | exact absurd q.2 h87) (fun q => by have q1 := q.1; first | omega | exact absurd q.2 h112) (fun q => by have q1 := q.1; first | omega | exact absurd q.2 h137))).2.symm) (by first | (rw [(sMF_0 (sWay_0 (F := F) (b := b) (by omega))).1] <;> rfl) | (rw [(sMF_1 (sWay_1 (F := F) (b := b) (fun q => by omega) ⟨by omega, h62⟩)).1] <;> rfl) | (rw [(sMF_2 (sWay_2 (F := F) (b := b) (fun q => by omega) (fun q => by have q1 := q.1; first | omega | exact absurd q.2 h62) ⟨by omega, h87⟩)).1] <;> rfl) | (rw [(sMF_3 (sWay_3 (F := F) (b := b) (fun q => by omega) (fun q => by have q1 := q.1; first | omega | exact absurd q.2 h62) (fun q => by have q1 := q.1; first | omega | exact absurd q.2 h87) ⟨by omega, h112⟩)).1] <;> rfl) | (rw [(sMF_4 (sWay_4 (F := F) (b := b) (fun q => by omega) (fun q => by have q1 := q.1; first | omega | exact absurd q.2 h62) (fun q => by have q1 := q.1; first | omega | exact absurd q.2 h87) (fun q => by have q1 := q.1; first | omega | exact absurd q.2 h112) ⟨by omega, h137⟩)).1] <;> rfl) | (rw [(sMF_5 (sWay_5 (F := F) (b := b) (fun q => by omega) (fun q => by have q1 := q.1; first | omega | exact absurd q.2 h62) (fun q => by have q1 := q.1; first | omega | exact absurd q.2 h87) (fun q => by have q1 := q.1; first | omega | exact absurd q.2 h112) (fun q => by have q1 := q.1; first | omega | exact absurd q.2 h137))).1] <;> rfl)))
                · refine EV.ceq (cs' := wFl a F P) (by rw [sGo_n h112] <;> rfl) ?_
                  refine e_iload_n dX2_moveFollower_115 rfl rfl ?_
                  refine e_aload_n dX2_moveFollower_116 rfl rfl ?_
                  refine e_getfield fd_X2_9 dX2_moveFollower_117 rfl rfl rfl rfl ?_
                  refine e_aload_n dX2_moveFollower_120 rfl rfl ?_
                  refine e_getfield fd_X2_46 dX2_moveFollower_121 rfl rfl rfl rfl ?_
                  refine e_ialoadB dX2_moveFollower_124 rfl rfl rfl (by omega) (by decide) rx ?_
                  intro b124
                  refine e_icmp_le (t := 144) dX2_moveFollower_125 rfl rfl (by omega) (by omega) (fun h125 => ?_) (fun h125 => ?_)
                  · refine e_iconst dX2_moveFollower_144 rfl ?_
                    refine f_istore dX2_moveFollower_145 rfl (Nat.le_of_ble_eq_true rfl) rfl ?_
                    refine e_iload dX2_moveFollower_147 rfl rfl ?_
                    refine e_if_ne (t := 162) dX2_moveFollower_149 rfl rfl (by decide) (fun h => absurd h (by decide)) (fun _ => ?_)
                    refine e_aload_n dX2_moveFollower_152 rfl rfl ?_
                    refine e_dup dX2_moveFollower_153 rfl rfl ?_
                    refine e_getfield fd_X2_67 dX2_moveFollower_154 rfl rfl rfl rfl ?_
                    refine e_iconst dX2_moveFollower_157 rfl ?_
                    refine e_iadd dX2_moveFollower_158 rfl ?_
                    refine e_putfield fd_X2_67 dX2_moveFollower_159 rfl rfl rfl (Nat.le_of_ble_eq_true rfl) rfl rfl ?_
                    refine e_iload dX2_moveFollower_162 rfl rfl ?_
                    refine e_if_eq (t := 171) dX2_moveFollower_164 rfl rfl (by decide) (fun _ => ?_) (fun h => absurd h (by decide))
                    refine e_iconst dX2_moveFollower_171 rfl ?_
                    exact e_iret dX2_moveFollower_172 rfl rfl (eRet_i (by first | exact (sMF_0 (sWay_0 (F := F) (b := b) (by omega))).2.symm | exact (sMF_1 (sWay_1 (F := F) (b := b) (fun q => by omega) ⟨by omega, h62⟩)).2.symm | exact (sMF_2 (sWay_2 (F := F) (b := b) (fun q => by omega) (fun q => by have q1 := q.1; first | omega | exact absurd q.2 h62) ⟨by omega, h87⟩)).2.symm | exact (sMF_3 (sWay_3 (F := F) (b := b) (fun q => by omega) (fun q => by have q1 := q.1; first | omega | exact absurd q.2 h62) (fun q => by have q1 := q.1; first | omega | exact absurd q.2 h87) ⟨by omega, h112⟩)).2.symm | exact (sMF_4 (sWay_4 (F := F) (b := b) (fun q => by omega) (fun q => by have q1 := q.1; first | omega | exact absurd q.2 h62) (fun q => by have q1 := q.1; first | omega | exact absurd q.2 h87) (fun q => by have q1 := q.1; first | omega | exact absurd q.2 h112) ⟨by omega, h137⟩)).2.symm | exact (sMF_5 (sWay_5 (F := F) (b := b) (fun q => by omega) (fun q => by have q1 := q.1; first | omega | exact absurd q.2 h62) (fun q => by have q1 := q.1; first | omega | exact absurd q.2 h87) (fun q => by have q1 := q.1; first | omega | exact absurd q.2 h112) (fun q => by have q1 := q.1; first | omega | exact absurd q.2 h137))).2.symm) (by first | (rw [(sMF_0 (sWay_0 (F := F) (b := b) (by omega))).1] <;> rfl) | (rw [(sMF_1 (sWay_1 (F := F) (b := b) (fun q => by omega) ⟨by omega, h62⟩)).1] <;> rfl) | (rw [(sMF_2 (sWay_2 (F := F) (b := b) (fun q => by omega) (fun q => by have q1 := q.1; first | omega | exact absurd q.2 h62) ⟨by omega, h87⟩)).1] <;> rfl) | (rw [(sMF_3 (sWay_3 (F := F) (b := b) (fun q => by omega) (fun q => by have q1 := q.1; first | omega | exact absurd q.2 h62) (fun q => by have q1 := q.1; first | omega | exact absurd q.2 h87) ⟨by omega, h112⟩)).1] <;> rfl) | (rw [(sMF_4 (sWay_4 (F := F) (b := b) (fun q => by omega) (fun q => by have q1 := q.1; first | omega | exact absurd q.2 h62) (fun q => by have q1 := q.1; first | omega | exact absurd q.2 h87) (fun q => by have q1 := q.1; first | omega | exact absurd q.2 h112) ⟨by omega, h137⟩)).1] <;> rfl) | (rw [(sMF_5 (sWay_5 (F := F) (b := b) (fun q => by omega) (fun q => by have q1 := q.1; first | omega | exact absurd q.2 h62) (fun q => by have q1 := q.1; first | omega | exact absurd q.2 h87) (fun q => by have q1 := q.1; first | omega | exact absurd q.2 h112) (fun q => by have q1 := q.1; first | omega | exact absurd q.2 h137))).1] <;> rfl)))
                  · refine e_aload_n dX2_moveFollower_128 rfl rfl ?_
                    refine e_iload_n dX2_moveFollower_129 rfl rfl ?_
                    refine e_iload_n dX2_moveFollower_130 rfl rfl ?_
                    refine e_iconst dX2_moveFollower_131 rfl ?_
                    refine e_isub dX2_moveFollower_132 rfl ?_
                    refine e_iload_n dX2_moveFollower_133 rfl rfl ?_
                    refine e_cV2 [0, 1, 2, 3, 4, 5, 6, 7, 8, 9] lk_X2_180 rfl dX2_moveFollower_134 rfl (C_X2_goTo hF0 (by omega) (by omega) (by omega)) rfl rfl (Nat.le_of_ble_eq_true rfl) (Nat.le_of_ble_eq_true rfl) (Nat.le_of_ble_eq_true rfl) ⟨rfl, rfl⟩ rfl rfl rfl rfl rfl rfl rfl rfl ?_
                    refine e_ifb_eq (t := 144) dX2_moveFollower_137 rfl rfl (fun h137 => ?_) (fun h137 => ?_)
                    · refine EV.ceq (cs' := wFl a F P) (by rw [sGo_n h137] <;> rfl) ?_
                      refine e_iconst dX2_moveFollower_144 rfl ?_
                      refine f_istore dX2_moveFollower_145 rfl (Nat.le_of_ble_eq_true rfl) rfl ?_
                      refine e_iload dX2_moveFollower_147 rfl rfl ?_
                      refine e_if_ne (t := 162) dX2_moveFollower_149 rfl rfl (by decide) (fun h => absurd h (by decide)) (fun _ => ?_)
                      refine e_aload_n dX2_moveFollower_152 rfl rfl ?_
                      refine e_dup dX2_moveFollower_153 rfl rfl ?_
                      refine e_getfield fd_X2_67 dX2_moveFollower_154 rfl rfl rfl rfl ?_
                      refine e_iconst dX2_moveFollower_157 rfl ?_
                      refine e_iadd dX2_moveFollower_158 rfl ?_
                      refine e_putfield fd_X2_67 dX2_moveFollower_159 rfl rfl rfl (Nat.le_of_ble_eq_true rfl) rfl rfl ?_
                      refine e_iload dX2_moveFollower_162 rfl rfl ?_
                      refine e_if_eq (t := 171) dX2_moveFollower_164 rfl rfl (by decide) (fun _ => ?_) (fun h => absurd h (by decide))
                      refine e_iconst dX2_moveFollower_171 rfl ?_
                      exact e_iret dX2_moveFollower_172 rfl rfl (eRet_i (by first | exact (sMF_0 (sWay_0 (F := F) (b := b) (by omega))).2.symm | exact (sMF_1 (sWay_1 (F := F) (b := b) (fun q => by omega) ⟨by omega, h62⟩)).2.symm | exact (sMF_2 (sWay_2 (F := F) (b := b) (fun q => by omega) (fun q => by have q1 := q.1; first | omega | exact absurd q.2 h62) ⟨by omega, h87⟩)).2.symm | exact (sMF_3 (sWay_3 (F := F) (b := b) (fun q => by omega) (fun q => by have q1 := q.1; first | omega | exact absurd q.2 h62) (fun q => by have q1 := q.1; first | omega | exact absurd q.2 h87) ⟨by omega, h112⟩)).2.symm | exact (sMF_4 (sWay_4 (F := F) (b := b) (fun q => by omega) (fun q => by have q1 := q.1; first | omega | exact absurd q.2 h62) (fun q => by have q1 := q.1; first | omega | exact absurd q.2 h87) (fun q => by have q1 := q.1; first | omega | exact absurd q.2 h112) ⟨by omega, h137⟩)).2.symm | exact (sMF_5 (sWay_5 (F := F) (b := b) (fun q => by omega) (fun q => by have q1 := q.1; first | omega | exact absurd q.2 h62) (fun q => by have q1 := q.1; first | omega | exact absurd q.2 h87) (fun q => by have q1 := q.1; first | omega | exact absurd q.2 h112) (fun q => by have q1 := q.1; first | omega | exact absurd q.2 h137))).2.symm) (by first | (rw [(sMF_0 (sWay_0 (F := F) (b := b) (by omega))).1] <;> rfl) | (rw [(sMF_1 (sWay_1 (F := F) (b := b) (fun q => by omega) ⟨by omega, h62⟩)).1] <;> rfl) | (rw [(sMF_2 (sWay_2 (F := F) (b := b) (fun q => by omega) (fun q => by have q1 := q.1; first | omega | exact absurd q.2 h62) ⟨by omega, h87⟩)).1] <;> rfl) | (rw [(sMF_3 (sWay_3 (F := F) (b := b) (fun q => by omega) (fun q => by have q1 := q.1; first | omega | exact absurd q.2 h62) (fun q => by have q1 := q.1; first | omega | exact absurd q.2 h87) ⟨by omega, h112⟩)).1] <;> rfl) | (rw [(sMF_4 (sWay_4 (F := F) (b := b) (fun q => by omega) (fun q => by have q1 := q.1; first | omega | exact absurd q.2 h62) (fun q => by have q1 := q.1; first | omega | exact absurd q.2 h87) (fun q => by have q1 := q.1; first | omega | exact absurd q.2 h112) ⟨by omega, h137⟩)).1] <;> rfl) | (rw [(sMF_5 (sWay_5 (F := F) (b := b) (fun q => by omega) (fun q => by have q1 := q.1; first | omega | exact absurd q.2 h62) (fun q => by have q1 := q.1; first | omega | exact absurd q.2 h87) (fun q => by have q1 := q.1; first | omega | exact absurd q.2 h112) (fun q => by have q1 := q.1; first | omega | exact absurd q.2 h137))).1] <;> rfl)))
                    · refine EV.ceq (cs' := wFl a (sMv F b (F.2 0 b - 1) (F.2 1 b)) P) (by rw [sGo_y h137] <;> rfl) ?_
                      refine e_iconst dX2_moveFollower_140 rfl ?_
                      refine e_goto (n := 145) dX2_moveFollower_141 rfl ?_
                      refine f_istore dX2_moveFollower_145 rfl (Nat.le_of_ble_eq_true rfl) rfl ?_
                      refine e_iload dX2_moveFollower_147 rfl rfl ?_
                      refine e_if_ne (t := 162) dX2_moveFollower_149 rfl rfl (by decide) (fun _ => ?_) (fun h => absurd h (by decide))
                      refine e_iload dX2_moveFollower_162 rfl rfl ?_
                      refine e_if_eq (t := 171) dX2_moveFollower_164 rfl rfl (by decide) (fun h => absurd h (by decide)) (fun _ => ?_)
                      refine e_iconst dX2_moveFollower_167 rfl ?_
                      refine e_goto (n := 172) dX2_moveFollower_168 rfl ?_
                      exact e_iret dX2_moveFollower_172 rfl rfl (eRet_i (by first | exact (sMF_0 (sWay_0 (F := F) (b := b) (by omega))).2.symm | exact (sMF_1 (sWay_1 (F := F) (b := b) (fun q => by omega) ⟨by omega, h62⟩)).2.symm | exact (sMF_2 (sWay_2 (F := F) (b := b) (fun q => by omega) (fun q => by have q1 := q.1; first | omega | exact absurd q.2 h62) ⟨by omega, h87⟩)).2.symm | exact (sMF_3 (sWay_3 (F := F) (b := b) (fun q => by omega) (fun q => by have q1 := q.1; first | omega | exact absurd q.2 h62) (fun q => by have q1 := q.1; first | omega | exact absurd q.2 h87) ⟨by omega, h112⟩)).2.symm | exact (sMF_4 (sWay_4 (F := F) (b := b) (fun q => by omega) (fun q => by have q1 := q.1; first | omega | exact absurd q.2 h62) (fun q => by have q1 := q.1; first | omega | exact absurd q.2 h87) (fun q => by have q1 := q.1; first | omega | exact absurd q.2 h112) ⟨by omega, h137⟩)).2.symm | exact (sMF_5 (sWay_5 (F := F) (b := b) (fun q => by omega) (fun q => by have q1 := q.1; first | omega | exact absurd q.2 h62) (fun q => by have q1 := q.1; first | omega | exact absurd q.2 h87) (fun q => by have q1 := q.1; first | omega | exact absurd q.2 h112) (fun q => by have q1 := q.1; first | omega | exact absurd q.2 h137))).2.symm) (by first | (rw [(sMF_0 (sWay_0 (F := F) (b := b) (by omega))).1] <;> rfl) | (rw [(sMF_1 (sWay_1 (F := F) (b := b) (fun q => by omega) ⟨by omega, h62⟩)).1] <;> rfl) | (rw [(sMF_2 (sWay_2 (F := F) (b := b) (fun q => by omega) (fun q => by have q1 := q.1; first | omega | exact absurd q.2 h62) ⟨by omega, h87⟩)).1] <;> rfl) | (rw [(sMF_3 (sWay_3 (F := F) (b := b) (fun q => by omega) (fun q => by have q1 := q.1; first | omega | exact absurd q.2 h62) (fun q => by have q1 := q.1; first | omega | exact absurd q.2 h87) ⟨by omega, h112⟩)).1] <;> rfl) | (rw [(sMF_4 (sWay_4 (F := F) (b := b) (fun q => by omega) (fun q => by have q1 := q.1; first | omega | exact absurd q.2 h62) (fun q => by have q1 := q.1; first | omega | exact absurd q.2 h87) (fun q => by have q1 := q.1; first | omega | exact absurd q.2 h112) ⟨by omega, h137⟩)).1] <;> rfl) | (rw [(sMF_5 (sWay_5 (F := F) (b := b) (fun q => by omega) (fun q => by have q1 := q.1; first | omega | exact absurd q.2 h62) (fun q => by have q1 := q.1; first | omega | exact absurd q.2 h87) (fun q => by have q1 := q.1; first | omega | exact absurd q.2 h112) (fun q => by have q1 := q.1; first | omega | exact absurd q.2 h137))).1] <;> rfl)))
    · refine e_iconst dX2_moveFollower_24 rfl ?_
      exact e_iret dX2_moveFollower_25 rfl rfl (eRet_i (by first | exact (sMF_0 (sWay_0 (F := F) (b := b) (by omega))).2.symm | exact (sMF_1 (sWay_1 (F := F) (b := b) (fun q => by omega) ⟨by omega, h62⟩)).2.symm | exact (sMF_2 (sWay_2 (F := F) (b := b) (fun q => by omega) (fun q => by have q1 := q.1; first | omega | exact absurd q.2 h62) ⟨by omega, h87⟩)).2.symm | exact (sMF_3 (sWay_3 (F := F) (b := b) (fun q => by omega) (fun q => by have q1 := q.1; first | omega | exact absurd q.2 h62) (fun q => by have q1 := q.1; first | omega | exact absurd q.2 h87) ⟨by omega, h112⟩)).2.symm | exact (sMF_4 (sWay_4 (F := F) (b := b) (fun q => by omega) (fun q => by have q1 := q.1; first | omega | exact absurd q.2 h62) (fun q => by have q1 := q.1; first | omega | exact absurd q.2 h87) (fun q => by have q1 := q.1; first | omega | exact absurd q.2 h112) ⟨by omega, h137⟩)).2.symm | exact (sMF_5 (sWay_5 (F := F) (b := b) (fun q => by omega) (fun q => by have q1 := q.1; first | omega | exact absurd q.2 h62) (fun q => by have q1 := q.1; first | omega | exact absurd q.2 h87) (fun q => by have q1 := q.1; first | omega | exact absurd q.2 h112) (fun q => by have q1 := q.1; first | omega | exact absurd q.2 h137))).2.symm) (by first | (rw [(sMF_0 (sWay_0 (F := F) (b := b) (by omega))).1] <;> rfl) | (rw [(sMF_1 (sWay_1 (F := F) (b := b) (fun q => by omega) ⟨by omega, h62⟩)).1] <;> rfl) | (rw [(sMF_2 (sWay_2 (F := F) (b := b) (fun q => by omega) (fun q => by have q1 := q.1; first | omega | exact absurd q.2 h62) ⟨by omega, h87⟩)).1] <;> rfl) | (rw [(sMF_3 (sWay_3 (F := F) (b := b) (fun q => by omega) (fun q => by have q1 := q.1; first | omega | exact absurd q.2 h62) (fun q => by have q1 := q.1; first | omega | exact absurd q.2 h87) ⟨by omega, h112⟩)).1] <;> rfl) | (rw [(sMF_4 (sWay_4 (F := F) (b := b) (fun q => by omega) (fun q => by have q1 := q.1; first | omega | exact absurd q.2 h62) (fun q => by have q1 := q.1; first | omega | exact absurd q.2 h87) (fun q => by have q1 := q.1; first | omega | exact absurd q.2 h112) ⟨by omega, h137⟩)).1] <;> rfl) | (rw [(sMF_5 (sWay_5 (F := F) (b := b) (fun q => by omega) (fun q => by have q1 := q.1; first | omega | exact absurd q.2 h62) (fun q => by have q1 := q.1; first | omega | exact absurd q.2 h87) (fun q => by have q1 := q.1; first | omega | exact absurd q.2 h112) (fun q => by have q1 := q.1; first | omega | exact absurd q.2 h137))).1] <;> rfl)))
