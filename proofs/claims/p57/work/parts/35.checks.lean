/-! ===== BasketFlock: predictions, formations, checks ===== -/
abbrev sHit (F : eFs) : Prop := ¬ F.1 4 = -1 ∧ sD F (F.1 1) (F.1 4) (F.1 5) = 0
/-- steps are taken until the leader is on the target, n at most -/
def sTG : Nat → Int → eFs → (Int → Int) → Int × eFs × (Int → Int)
  | 0, s, F, P => (s, F, P)
  | n + 1, s, F, P => if sHit F then (s, F, P) else sTG n (s + 1) (sStp F) (sStpP F P)
theorem sTG_y {s : Int} {F : eFs} {P : Int → Int} (hs : 0 ≤ s ∧ s < 60) (h : sHit F) : sTG (60 - s).toNat s F P = (s, F, P) := by
  rw [show (60 - s).toNat = (60 - (s + 1)).toNat + 1 by omega]; exact if_pos h
theorem sTG_n {s : Int} {F : eFs} {P : Int → Int} (hs : 0 ≤ s ∧ s < 60) (h : ¬ sHit F) : sTG (60 - s).toNat s F P = sTG (60 - (s + 1)).toNat (s + 1) (sStp F) (sStpP F P) := by
  rw [show (60 - s).toNat = (60 - (s + 1)).toNat + 1 by omega]; exact if_neg h
theorem sTG_0 {s : Int} {F : eFs} {P : Int → Int} (hs : 60 ≤ s) : sTG (60 - s).toNat s F P = (s, F, P) := by
  rw [show (60 - s).toNat = 0 by omega]; rfl
def sTT (F : eFs) (P : Int → Int) : Int × eFs × (Int → Int) := sTG ((60 : Int) - 0).toNat 0 F P
def wFF (a : Nat → Nat) (q1 q2 q3 q4 q5 : Nat) (z : Nat → Int) (g rc : Int → Int) (F : eFs) (P : Int → Int) : List eE := wO (a 1) q1 q2 q3 (a 11) q4 q5 z :: (wFl (fun k => a (1 + k)) F P ++ [.inr (3, [.ref (a 12), .ref (a 13)]), eI 0 10 g, eI 0 10 rc])

theorem eIf_s {c : Prop} [Decidable c] {e e1 : String} (h : (if c then none else some e1) = some e) : ¬ c := by
  intro hc
  rw [if_pos hc] at h
  cases h
theorem zNt {c : Prop} [Decidable c] {A B : List eE} (h : ¬ c) : (if c then A else B) = B := if_neg h

theorem C_X6_formationCount {X : eXT} {a : Nat → Nat} {q1 q2 q3 q4 q5 : Nat} {z : Nat → Int} {N : Int} {F : eFs} {P g rc : Int → Int} (hF : okF N F) (hg : okG g) (hr : ∀ j, 0 ≤ rc j ∧ rc j ≤ 9) :
    EM X mX6_formationCount (eRm 7) a [.ref (a 0)] (wFF a q1 q2 q3 q4 q5 z g rc F P) (eRets (some (vi (sFor F))) a (fun cs1 => ∃ g1 rc1 : Int → Int, cs1 = wFF a q1 q2 q3 q4 q5 z g1 rc1 F P ∧ (∀ j, 0 ≤ rc1 j ∧ rc1 j ≤ 9) ∧ okG g1)) := by
  refine EM.of (by decide +kernel) rfl (Nat.le_of_ble_eq_true rfl) ?_
  have hF0 := hF
  refine e_aload_n dX6_formationCount_0 rfl rfl ?_
  refine e_getfield fd_X6_36 dX6_formationCount_1 rfl rfl rfl rfl ?_
  refine e_aload_n dX6_formationCount_4 rfl rfl ?_
  refine e_getfield fd_X6_10 dX6_formationCount_5 rfl rfl rfl rfl ?_
  refine e_cV1 [11, 12, 13, 1, 2, 3, 4, 5, 6, 7, 8, 9, 10] lk_X6_206 rfl dX6_formationCount_8 rfl (C_X3_countByGoing hF0 hg hr) rfl rfl (Nat.le_of_ble_eq_true rfl) (Nat.le_of_ble_eq_true rfl) (Nat.le_of_ble_eq_true rfl) ⟨rfl, rfl⟩ rfl rfl rfl rfl rfl rfl (fun cs1 hcs => by obtain ⟨g1, rc1, hcs, -⟩ := hcs; rw [hcs]; rfl) ?_
  intro cs1 hcs
  obtain ⟨g1, rc1, hcs, hr1, hg1⟩ := hcs
  subst hcs
  refine EV.ceq (cs' := wFF a q1 q2 q3 q4 q5 z g1 rc1 F P) (eMrg_twoE' (A := [wO (a 1) q1 q2 q3 (a 11) q4 q5 z]) (S := wFl (fun k => a (1 + k)) F P) (B := []) (T := [.inr (3, [.ref (a 12), .ref (a 13)]), eI 0 10 g, eI 0 10 rc]) (S' := wFl (fun k => a (1 + k)) F P) (T' := [.inr (3, [.ref (a 12), .ref (a 13)]), eI 0 10 g1, eI 0 10 rc1]) rfl rfl rfl rfl rfl rfl rfl) ?_
  exact e_iret dX6_formationCount_11 rfl rfl ⟨rfl, rfl, g1, rc1, rfl, hr1, hg1⟩
theorem C_X6_formationCountByMerging {X : eXT} {a : Nat → Nat} {q1 q2 q3 q4 q5 : Nat} {z : Nat → Int} {N : Int} {F : eFs} {P g rc : Int → Int} (hF : okF N F) (hg : okG g) (hr : ∀ j, 0 ≤ rc j ∧ rc j ≤ 9) :
    EM X mX6_formationCountByMerging (eRm 7) a [.ref (a 0)] (wFF a q1 q2 q3 q4 q5 z g rc F P) (eRets (some (vi (sFor F))) a (fun cs1 => ∃ g1 rc1 : Int → Int, cs1 = wFF a q1 q2 q3 q4 q5 z g1 rc1 F P ∧ (∀ j, 0 ≤ rc1 j ∧ rc1 j ≤ 9) ∧ okG g1)) := by
  refine EM.of (by decide +kernel) rfl (Nat.le_of_ble_eq_true rfl) ?_
  have hF0 := hF
  refine e_aload_n dX6_formationCountByMerging_0 rfl rfl ?_
  refine e_getfield fd_X6_36 dX6_formationCountByMerging_1 rfl rfl rfl rfl ?_
  refine e_aload_n dX6_formationCountByMerging_4 rfl rfl ?_
  refine e_getfield fd_X6_10 dX6_formationCountByMerging_5 rfl rfl rfl rfl ?_
  refine e_cV1 [11, 12, 13, 1, 2, 3, 4, 5, 6, 7, 8, 9, 10] lk_X6_210 rfl dX6_formationCountByMerging_8 rfl (C_X3_countByMerging hF0 hg hr) rfl rfl (Nat.le_of_ble_eq_true rfl) (Nat.le_of_ble_eq_true rfl) (Nat.le_of_ble_eq_true rfl) ⟨rfl, rfl⟩ rfl rfl rfl rfl rfl rfl (fun cs1 hcs => by obtain ⟨g1, rc1, hcs, -⟩ := hcs; rw [hcs]; rfl) ?_
  intro cs1 hcs
  obtain ⟨g1, rc1, hcs, hr1, hg1⟩ := hcs
  subst hcs
  refine EV.ceq (cs' := wFF a q1 q2 q3 q4 q5 z g1 rc1 F P) (eMrg_twoE' (A := [wO (a 1) q1 q2 q3 (a 11) q4 q5 z]) (S := wFl (fun k => a (1 + k)) F P) (B := []) (T := [.inr (3, [.ref (a 12), .ref (a 13)]), eI 0 10 g, eI 0 10 rc]) (S' := wFl (fun k => a (1 + k)) F P) (T' := [.inr (3, [.ref (a 12), .ref (a 13)]), eI 0 10 g1, eI 0 10 rc1]) rfl rfl rfl rfl rfl rfl rfl) ?_
  exact e_iret dX6_formationCountByMerging_11 rfl rfl ⟨rfl, rfl, g1, rc1, rfl, hr1, hg1⟩
theorem C_X6_largestFormation {X : eXT} {a : Nat → Nat} {q1 q2 q3 q4 q5 : Nat} {z : Nat → Int} {N : Int} {F : eFs} {P g rc : Int → Int} (hF : okF N F) (hg : okG g) (hr : ∀ j, 0 ≤ rc j ∧ rc j ≤ 9) :
    EM X mX6_largestFormation (eRm 7) a [.ref (a 0)] (wFF a q1 q2 q3 q4 q5 z g rc F P) (eRets (some (vi (sLrg F))) a (fun cs1 => ∃ g1 rc1 : Int → Int, cs1 = wFF a q1 q2 q3 q4 q5 z g1 rc1 F P ∧ (∀ j, 0 ≤ rc1 j ∧ rc1 j ≤ 9) ∧ okG g1)) := by
  refine EM.of (by decide +kernel) rfl (Nat.le_of_ble_eq_true rfl) ?_
  have hF0 := hF
  refine e_aload_n dX6_largestFormation_0 rfl rfl ?_
  refine e_getfield fd_X6_36 dX6_largestFormation_1 rfl rfl rfl rfl ?_
  refine e_aload_n dX6_largestFormation_4 rfl rfl ?_
  refine e_getfield fd_X6_10 dX6_largestFormation_5 rfl rfl rfl rfl ?_
  refine e_cV1 [11, 12, 13, 1, 2, 3, 4, 5, 6, 7, 8, 9, 10] lk_X6_213 rfl dX6_largestFormation_8 rfl (C_X3_largest hF0 hg hr) rfl rfl (Nat.le_of_ble_eq_true rfl) (Nat.le_of_ble_eq_true rfl) (Nat.le_of_ble_eq_true rfl) ⟨rfl, rfl⟩ rfl rfl rfl rfl rfl rfl (fun cs1 hcs => by obtain ⟨g1, rc1, hcs, -⟩ := hcs; rw [hcs]; rfl) ?_
  intro cs1 hcs
  obtain ⟨g1, rc1, hcs, hr1, hg1⟩ := hcs
  subst hcs
  refine EV.ceq (cs' := wFF a q1 q2 q3 q4 q5 z g1 rc1 F P) (eMrg_twoE' (A := [wO (a 1) q1 q2 q3 (a 11) q4 q5 z]) (S := wFl (fun k => a (1 + k)) F P) (B := []) (T := [.inr (3, [.ref (a 12), .ref (a 13)]), eI 0 10 g, eI 0 10 rc]) (S' := wFl (fun k => a (1 + k)) F P) (T' := [.inr (3, [.ref (a 12), .ref (a 13)]), eI 0 10 g1, eI 0 10 rc1]) rfl rfl rfl rfl rfl rfl rfl) ?_
  exact e_iret dX6_largestFormation_11 rfl rfl ⟨rfl, rfl, g1, rc1, rfl, hr1, hg1⟩
/-- outcomes of formationOf -/
def eOu1 (E : Option String) (v : Option Value) (a : Nat → Nat) (S : List eE → Prop) : ePo := fun o a1 cs1 => a1 = a ∧ S cs1 ∧ match E with
  | none => o = .inl v
  | some e => o = .inr e

theorem C_X6_formationOf {X : eXT} {a : Nat → Nat} {q1 q2 q3 q4 q5 : Nat} {z : Nat → Int} {N : Int} {F : eFs} {P g rc : Int → Int} (hF : okF N F) (hg : okG g) (hr : ∀ j, 0 ≤ rc j ∧ rc j ≤ 9) {b : Int} (gb : -2147483648 ≤ b ∧ b ≤ 2147483647) :
    EM X mX6_formationOf (eRt 8 1) a [.ref (a 0), vi b] (wFF a q1 q2 q3 q4 q5 z g rc F P) (eOu1 (if sHas F b then none else some xIx) (some (vi (sGr F b))) a (fun cs1 => ∃ g1 rc1 : Int → Int, cs1 = wFF a q1 q2 q3 q4 q5 z g1 rc1 F P ∧ (∀ j, 0 ≤ rc1 j ∧ rc1 j ≤ 9) ∧ okG g1)) := by
  refine EM.of (by decide +kernel) rfl (Nat.le_of_ble_eq_true rfl) ?_
  have hF0 := hF
  refine e_aload_n dX6_formationOf_0 rfl rfl ?_
  refine e_iload_n dX6_formationOf_1 rfl rfl ?_
  refine e_cVo (b' := (0, 0)) [0, 1, 2, 3, 4, 5, 6, 7, 8, 9, 10] lk_X6_85 rfl dX6_formationOf_2 rfl (C_X6_demandBasket (F := F) (P := P) hF0 (by omega)) rfl rfl (Nat.le_of_ble_eq_true rfl) (Nat.le_of_ble_eq_true rfl) (Nat.le_of_ble_eq_true rfl) ⟨(Nat.le_of_ble_eq_true rfl), (Nat.le_of_ble_eq_true rfl)⟩ rfl rfl rfl rfl rfl rfl (cs' := wFF a q1 q2 q3 q4 q5 z g rc F P) (csX := wFF a q1 q2 q3 q4 q5 z g rc F P) rfl rfl (eMrg_same _ _ rfl) (eMrg_same _ _ rfl) (fun ge2 => ?_) (fun e ge => e_out rfl ⟨rfl, ⟨g, rc, rfl, hr, hg⟩, by rw [ge]⟩)
  have g2 : sHas F b := (eIf_n ge2).1
  refine e_aload_n dX6_formationOf_5 rfl rfl ?_
  refine e_getfield fd_X6_36 dX6_formationOf_6 rfl rfl rfl rfl ?_
  refine e_aload_n dX6_formationOf_9 rfl rfl ?_
  refine e_getfield fd_X6_10 dX6_formationOf_10 rfl rfl rfl rfl ?_
  refine e_iload_n dX6_formationOf_13 rfl rfl ?_
  refine e_cV1 [11, 12, 13, 1, 2, 3, 4, 5, 6, 7, 8, 9, 10] lk_X6_216 rfl dX6_formationOf_14 rfl (C_X3_lowestWith hF0 hg hr g2) rfl rfl (Nat.le_of_ble_eq_true rfl) (Nat.le_of_ble_eq_true rfl) (Nat.le_of_ble_eq_true rfl) ⟨rfl, rfl⟩ rfl rfl rfl rfl rfl rfl (fun cs1 hcs => by obtain ⟨g1, rc1, hcs, -⟩ := hcs; rw [hcs]; rfl) ?_
  intro cs1 hcs
  obtain ⟨g1, rc1, hcs, hr1, hg1⟩ := hcs
  subst hcs
  refine EV.ceq (cs' := wFF a q1 q2 q3 q4 q5 z g1 rc1 F P) (eMrg_twoE' (A := [wO (a 1) q1 q2 q3 (a 11) q4 q5 z]) (S := wFl (fun k => a (1 + k)) F P) (B := []) (T := [.inr (3, [.ref (a 12), .ref (a 13)]), eI 0 10 g, eI 0 10 rc]) (S' := wFl (fun k => a (1 + k)) F P) (T' := [.inr (3, [.ref (a 12), .ref (a 13)]), eI 0 10 g1, eI 0 10 rc1]) rfl rfl rfl rfl rfl rfl rfl) ?_
  exact e_iret dX6_formationOf_17 rfl rfl ⟨rfl, ⟨g1, rc1, rfl, hr1, hg1⟩, by rw [if_pos g2]⟩
theorem sFor_in {F : eFs} (hc : 0 ≤ F.1 0 ∧ F.1 0 ≤ 10) : 0 ≤ sFor F ∧ sFor F ≤ 10 := by
  have := eCB_in (P := fun b => sGr F b = b) (n := F.1 0) (i := 0) hc.1
  unfold sFor
  omega

theorem C_X6_isConsistent {X : eXT} {a : Nat → Nat} {q1 q2 q3 q4 q5 : Nat} {z : Nat → Int} {N : Int} {F : eFs} {P g rc : Int → Int} (hF : okF N F) (hg : okG g) (hr : ∀ j, 0 ≤ rc j ∧ rc j ≤ 9) (hok : sClr F = -1) :
    EM X mX6_isConsistent (eRm 8) a [.ref (a 0)] (wFF a q1 q2 q3 q4 q5 z g rc F P) (eRets (some (vi 1)) a (fun cs1 => ∃ g1 rc1 : Int → Int, cs1 = wFF a q1 q2 q3 q4 q5 z g1 rc1 F P ∧ (∀ j, 0 ≤ rc1 j ∧ rc1 j ≤ 9) ∧ okG g1)) := by
  refine EM.of (by decide +kernel) rfl (Nat.le_of_ble_eq_true rfl) ?_
  have hF0 := hF
  have hc := hF.1
  have uf := sFor_in hc
  have um := sMix_in hc
  refine e_aload_n dX6_isConsistent_0 rfl rfl ?_
  refine e_getfield fd_X6_10 dX6_isConsistent_1 rfl rfl rfl rfl ?_
  refine e_cV0 [1, 2, 3, 4, 5, 6, 7, 8, 9, 10] lk_X6_319 rfl dX6_isConsistent_4 rfl (C_X2_isApartAndClear (F := F) hF0) rfl rfl (Nat.le_of_ble_eq_true rfl) (Nat.le_of_ble_eq_true rfl) (Nat.le_of_ble_eq_true rfl) ⟨rfl, rfl⟩ rfl rfl rfl rfl rfl rfl  ?_
  refine e_ifb_eq (t := 63) dX6_isConsistent_7 rfl rfl (fun h7 => ?_) (fun h7 => ?_)
  · exact absurd hok h7
  · refine e_aload_n dX6_isConsistent_10 rfl rfl ?_
    refine e_getfield fd_X6_36 dX6_isConsistent_11 rfl rfl rfl rfl ?_
    refine e_aload_n dX6_isConsistent_14 rfl rfl ?_
    refine e_getfield fd_X6_10 dX6_isConsistent_15 rfl rfl rfl rfl ?_
    refine e_cV1 [11, 12, 13, 1, 2, 3, 4, 5, 6, 7, 8, 9, 10] lk_X6_206 rfl dX6_isConsistent_18 rfl (C_X3_countByGoing hF0 hg hr) rfl rfl (Nat.le_of_ble_eq_true rfl) (Nat.le_of_ble_eq_true rfl) (Nat.le_of_ble_eq_true rfl) ⟨rfl, rfl⟩ rfl rfl rfl rfl rfl rfl (fun cs1 hcs => by obtain ⟨g1, rc1, hcs, -⟩ := hcs; rw [hcs]; rfl) ?_
    intro cs1 hcs
    obtain ⟨g1, rc1, hcs, hr1, hg1⟩ := hcs
    subst hcs
    refine EV.ceq (cs' := wFF a q1 q2 q3 q4 q5 z g1 rc1 F P) (eMrg_twoE' (A := [wO (a 1) q1 q2 q3 (a 11) q4 q5 z]) (S := wFl (fun k => a (1 + k)) F P) (B := []) (T := [.inr (3, [.ref (a 12), .ref (a 13)]), eI 0 10 g, eI 0 10 rc]) (S' := wFl (fun k => a (1 + k)) F P) (T' := [.inr (3, [.ref (a 12), .ref (a 13)]), eI 0 10 g1, eI 0 10 rc1]) rfl rfl rfl rfl rfl rfl rfl) ?_
    refine e_aload_n dX6_isConsistent_21 rfl rfl ?_
    refine e_getfield fd_X6_36 dX6_isConsistent_22 rfl rfl rfl rfl ?_
    refine e_aload_n dX6_isConsistent_25 rfl rfl ?_
    refine e_getfield fd_X6_10 dX6_isConsistent_26 rfl rfl rfl rfl ?_
    refine e_cV1 [11, 12, 13, 1, 2, 3, 4, 5, 6, 7, 8, 9, 10] lk_X6_210 rfl dX6_isConsistent_29 rfl (C_X3_countByMerging hF0 hg1 hr1) rfl rfl (Nat.le_of_ble_eq_true rfl) (Nat.le_of_ble_eq_true rfl) (Nat.le_of_ble_eq_true rfl) ⟨rfl, rfl⟩ rfl rfl rfl rfl rfl rfl (fun cs1 hcs => by obtain ⟨g1, rc1, hcs, -⟩ := hcs; rw [hcs]; rfl) ?_
    intro cs1 hcs
    obtain ⟨g1b, rc1b, hcs, hr1b, hg1b⟩ := hcs
    subst hcs
    refine EV.ceq (cs' := wFF a q1 q2 q3 q4 q5 z g1b rc1b F P) (eMrg_twoE' (A := [wO (a 1) q1 q2 q3 (a 11) q4 q5 z]) (S := wFl (fun k => a (1 + k)) F P) (B := []) (T := [.inr (3, [.ref (a 12), .ref (a 13)]), eI 0 10 g1, eI 0 10 rc1]) (S' := wFl (fun k => a (1 + k)) F P) (T' := [.inr (3, [.ref (a 12), .ref (a 13)]), eI 0 10 g1b, eI 0 10 rc1b]) rfl rfl rfl rfl rfl rfl rfl) ?_
    refine e_icmp_ne (t := 63) dX6_isConsistent_32 rfl rfl (by omega) (by omega) (fun h32 => ?_) (fun h32 => ?_)
    · exact absurd rfl h32
    · refine e_aload_n dX6_isConsistent_35 rfl rfl ?_
      refine e_getfield fd_X6_10 dX6_isConsistent_36 rfl rfl rfl rfl ?_
      refine e_cV0 [1, 2, 3, 4, 5, 6, 7, 8, 9, 10] lk_X6_220 rfl dX6_isConsistent_39 rfl (C_X2_mixedByComparing (F := F) hF0) rfl rfl (Nat.le_of_ble_eq_true rfl) (Nat.le_of_ble_eq_true rfl) (Nat.le_of_ble_eq_true rfl) ⟨rfl, rfl⟩ rfl rfl rfl rfl rfl rfl  ?_
      refine e_aload_n dX6_isConsistent_42 rfl rfl ?_
      refine e_getfield fd_X6_10 dX6_isConsistent_43 rfl rfl rfl rfl ?_
      refine e_cV0 [1, 2, 3, 4, 5, 6, 7, 8, 9, 10] lk_X6_224 rfl dX6_isConsistent_46 rfl (C_X2_mixedByHandles (F := F) hF0) rfl rfl (Nat.le_of_ble_eq_true rfl) (Nat.le_of_ble_eq_true rfl) (Nat.le_of_ble_eq_true rfl) ⟨rfl, rfl⟩ rfl rfl rfl rfl rfl rfl  ?_
      refine e_icmp_ne (t := 63) dX6_isConsistent_49 rfl rfl (by omega) (by omega) (fun h49 => ?_) (fun h49 => ?_)
      · exact absurd rfl h49
      · refine e_aload_n dX6_isConsistent_52 rfl rfl ?_
        refine e_cV0 [0, 1, 2, 3, 4, 5, 6, 7, 8, 9, 10] lk_X6_322 rfl dX6_isConsistent_53 rfl (C_X6_leadersAgree (F := F) (P := P) hF0) rfl rfl (Nat.le_of_ble_eq_true rfl) (Nat.le_of_ble_eq_true rfl) (Nat.le_of_ble_eq_true rfl) ⟨rfl, rfl⟩ rfl rfl rfl rfl rfl rfl  ?_
        refine e_if_eq (t := 63) dX6_isConsistent_56 rfl rfl (by decide) (fun h => absurd h (by decide)) (fun _ => ?_)
        refine e_iconst dX6_isConsistent_59 rfl ?_
        refine e_goto (n := 64) dX6_isConsistent_60 rfl ?_
        exact e_iret dX6_isConsistent_64 rfl (by decide) ⟨rfl, rfl, g1b, rc1b, rfl, hr1b, hg1b⟩
