/-! ===== BasketFlock: what is asked, where nothing is thrown ===== -/
theorem N_X6_demandBasket {X : eXT} {a : Nat → Nat} {q1 q2 q3 q4 q5 q6 : Nat} {z : Nat → Int} {N : Int} {F : eFs} {P : Int → Int} (hF : okF N F) {b : Int} (hb : sHas F b) :
    EM X mX6_demandBasket (eRm 5) a [.ref (a 0), vi b] (wO (a 1) q1 q2 q3 q4 q5 q6 z :: wFl (fun k => a (1 + k)) F P) (eOut none (none) a (wO (a 1) q1 q2 q3 q4 q5 q6 z :: wFl (fun k => a (1 + k)) F P) (wO (a 1) q1 q2 q3 q4 q5 q6 z :: wFl (fun k => a (1 + k)) F P)) := by
  refine EM.of (by decide +kernel) rfl (Nat.le_of_ble_eq_true rfl) ?_
  have hF0 := hF
  obtain ⟨hc, hld, hled, htn, hgo, hkp, hst, hwt, hcl, hsh, hnx, hN, rx, ry, rh, rm, rc, rw9⟩ := hF
  refine e_aload_n dX6_demandBasket_0 rfl rfl ?_
  refine e_getfield fd_X6_10 dX6_demandBasket_1 rfl rfl rfl rfl ?_
  refine e_iload_n dX6_demandBasket_4 rfl rfl ?_
  refine e_cV0 [1, 2, 3, 4, 5, 6, 7, 8, 9, 10] lk_X6_364 rfl dX6_demandBasket_5 rfl (C_X2_has (F := F) hF0 (by omega)) rfl rfl (Nat.le_of_ble_eq_true rfl) (Nat.le_of_ble_eq_true rfl) (Nat.le_of_ble_eq_true rfl) ⟨rfl, rfl⟩ rfl rfl rfl rfl rfl rfl  ?_
  refine e_ifb_ne (t := 22) dX6_demandBasket_8 rfl rfl (fun h8 => ?_) (fun h8 => ?_)
  · exact e_vret dX6_demandBasket_22 rfl ⟨rfl, rfl, rfl⟩
  · exact absurd hb h8
theorem N_X6_demandAnyBasket {X : eXT} {a : Nat → Nat} {q1 q2 q3 q4 q5 q6 : Nat} {z : Nat → Int} {N : Int} {F : eFs} {P : Int → Int} (hF : okF N F) (h1 : 1 ≤ F.1 0) :
    EM X mX6_demandAnyBasket (eRm 5) a [.ref (a 0)] (wO (a 1) q1 q2 q3 q4 q5 q6 z :: wFl (fun k => a (1 + k)) F P) (eOut none (none) a (wO (a 1) q1 q2 q3 q4 q5 q6 z :: wFl (fun k => a (1 + k)) F P) (wO (a 1) q1 q2 q3 q4 q5 q6 z :: wFl (fun k => a (1 + k)) F P)) := by
  refine EM.of (by decide +kernel) rfl (Nat.le_of_ble_eq_true rfl) ?_
  have hF0 := hF
  obtain ⟨hc, hld, hled, htn, hgo, hkp, hst, hwt, hcl, hsh, hnx, hN, rx, ry, rh, rm, rc, rw9⟩ := hF
  refine e_aload_n dX6_demandAnyBasket_0 rfl rfl ?_
  refine e_getfield fd_X6_10 dX6_demandAnyBasket_1 rfl rfl rfl rfl ?_
  refine e_getfield fd_X6_82 dX6_demandAnyBasket_4 rfl rfl rfl rfl ?_
  refine e_iconst dX6_demandAnyBasket_7 rfl ?_
  refine e_icmp_ge (t := 22) dX6_demandAnyBasket_8 rfl rfl (by omega) (by omega) (fun h8 => ?_) (fun h8 => ?_)
  · exact e_vret dX6_demandAnyBasket_22 rfl ⟨rfl, rfl, rfl⟩
  · exact absurd h1 h8
theorem N_X6_demandCell {X : eXT} {a : Nat → Nat} {q1 q2 q3 q4 q5 q6 : Nat} {z : Nat → Int} {N : Int} {F : eFs} {P : Int → Int} (hF : okF N F) {x y : Int} (hin : sIn x y) :
    EM X mX6_demandCell (eRm 5) a [.ref (a 0), vi x, vi y] (wO (a 1) q1 q2 q3 q4 q5 q6 z :: wFl (fun k => a (1 + k)) F P) (eOut none (none) a (wO (a 1) q1 q2 q3 q4 q5 q6 z :: wFl (fun k => a (1 + k)) F P) (wO (a 1) q1 q2 q3 q4 q5 q6 z :: wFl (fun k => a (1 + k)) F P)) := by
  refine EM.of (by decide +kernel) rfl (Nat.le_of_ble_eq_true rfl) ?_
  have hF0 := hF
  obtain ⟨hc, hld, hled, htn, hgo, hkp, hst, hwt, hcl, hsh, hnx, hN, rx, ry, rh, rm, rc, rw9⟩ := hF
  refine e_iload_n dX6_demandCell_0 rfl rfl ?_
  refine e_iload_n dX6_demandCell_1 rfl rfl ?_
  refine e_cS0 [] lk_X6_370 rfl dX6_demandCell_2 rfl (C_X0_inSky (by omega) (by omega)) rfl rfl (Nat.le_of_ble_eq_true rfl) (Nat.le_of_ble_eq_true rfl) (Nat.le_of_ble_eq_true rfl) ⟨rfl, rfl⟩ rfl rfl  ?_
  refine e_ifb_ne (t := 19) dX6_demandCell_5 rfl rfl (fun h5 => ?_) (fun h5 => ?_)
  · exact e_vret dX6_demandCell_19 rfl ⟨rfl, rfl, rfl⟩
  · exact absurd hin h5
theorem N_X6_demandStepsAhead {X : eXT} {a : Nat → Nat} {q1 q2 q3 q4 q5 q6 : Nat} {z : Nat → Int} {N : Int} {F : eFs} {P : Int → Int} (hF : okF N F) {s : Int} (hs : 0 ≤ s ∧ s ≤ 99) :
    EM X mX6_demandStepsAhead (eRm 5) a [.ref (a 0), vi s] (wO (a 1) q1 q2 q3 q4 q5 q6 z :: wFl (fun k => a (1 + k)) F P) (eOut none (none) a (wO (a 1) q1 q2 q3 q4 q5 q6 z :: wFl (fun k => a (1 + k)) F P) (wO (a 1) q1 q2 q3 q4 q5 q6 z :: wFl (fun k => a (1 + k)) F P)) := by
  refine EM.of (by decide +kernel) rfl (Nat.le_of_ble_eq_true rfl) ?_
  have hF0 := hF
  obtain ⟨hc, hld, hled, htn, hgo, hkp, hst, hwt, hcl, hsh, hnx, hN, rx, ry, rh, rm, rc, rw9⟩ := hF
  refine e_iload_n dX6_demandStepsAhead_0 rfl rfl ?_
  refine e_if_lt (t := 10) dX6_demandStepsAhead_1 rfl rfl (by omega) (fun h1 => ?_) (fun h1 => ?_)
  · omega
  · refine e_iload_n dX6_demandStepsAhead_4 rfl rfl ?_
    refine e_bipush dX6_demandStepsAhead_5 rfl rfl ?_
    refine e_icmp_le (t := 21) dX6_demandStepsAhead_7 rfl rfl (by omega) (by omega) (fun h7 => ?_) (fun h7 => ?_)
    · exact e_vret dX6_demandStepsAhead_21 rfl ⟨rfl, rfl, rfl⟩
    · omega
theorem N_X6_xOf {X : eXT} {a : Nat → Nat} {q1 q2 q3 q4 q5 q6 : Nat} {z : Nat → Int} {N : Int} {F : eFs} {P : Int → Int} (hF : okF N F) {b : Int} (hb : sHas F b) :
    EM X mX6_xOf (eRm 6) a [.ref (a 0), vi b] (wO (a 1) q1 q2 q3 q4 q5 q6 z :: wFl (fun k => a (1 + k)) F P) (eRet (some (vi (F.2 0 b))) a (wO (a 1) q1 q2 q3 q4 q5 q6 z :: wFl (fun k => a (1 + k)) F P)) := by
  refine EM.of (by decide +kernel) rfl (Nat.le_of_ble_eq_true rfl) ?_
  have hF0 := hF
  obtain ⟨hc, hld, hled, htn, hgo, hkp, hst, hwt, hcl, hsh, hnx, hN, rx, ry, rh, rm, rc, rw9⟩ := hF
  refine e_aload_n dX6_xOf_0 rfl rfl ?_
  refine e_iload_n dX6_xOf_1 rfl rfl ?_
  refine e_cVwo (b' := (0, 0)) (m := 11)  lk_X6_85 rfl dX6_xOf_2 rfl (N_X6_demandBasket (z := z) (F := F) (P := P) hF0 hb) rfl rfl (Nat.le_of_ble_eq_true rfl) (Nat.le_of_ble_eq_true rfl) (Nat.le_of_ble_eq_true rfl) ⟨(Nat.le_of_ble_eq_true rfl), (Nat.le_of_ble_eq_true rfl)⟩ rfl rfl rfl rfl rfl rfl rfl (fun _ => ?_) (fun e ge => by cases ge)
  refine e_aload_n dX6_xOf_5 rfl rfl ?_
  refine e_getfield fd_X6_10 dX6_xOf_6 rfl rfl rfl rfl ?_
  refine e_getfield fd_X6_89 dX6_xOf_9 rfl rfl rfl rfl ?_
  refine e_iload_n dX6_xOf_12 rfl rfl ?_
  refine e_ialoadB dX6_xOf_13 rfl rfl rfl (by omega) (by decide) rx ?_
  intro b13
  exact e_iret dX6_xOf_14 rfl rfl (eRet_i rfl rfl)
theorem N_X6_yOf {X : eXT} {a : Nat → Nat} {q1 q2 q3 q4 q5 q6 : Nat} {z : Nat → Int} {N : Int} {F : eFs} {P : Int → Int} (hF : okF N F) {b : Int} (hb : sHas F b) :
    EM X mX6_yOf (eRm 6) a [.ref (a 0), vi b] (wO (a 1) q1 q2 q3 q4 q5 q6 z :: wFl (fun k => a (1 + k)) F P) (eRet (some (vi (F.2 1 b))) a (wO (a 1) q1 q2 q3 q4 q5 q6 z :: wFl (fun k => a (1 + k)) F P)) := by
  refine EM.of (by decide +kernel) rfl (Nat.le_of_ble_eq_true rfl) ?_
  have hF0 := hF
  obtain ⟨hc, hld, hled, htn, hgo, hkp, hst, hwt, hcl, hsh, hnx, hN, rx, ry, rh, rm, rc, rw9⟩ := hF
  refine e_aload_n dX6_yOf_0 rfl rfl ?_
  refine e_iload_n dX6_yOf_1 rfl rfl ?_
  refine e_cVwo (b' := (0, 0)) (m := 11)  lk_X6_85 rfl dX6_yOf_2 rfl (N_X6_demandBasket (z := z) (F := F) (P := P) hF0 hb) rfl rfl (Nat.le_of_ble_eq_true rfl) (Nat.le_of_ble_eq_true rfl) (Nat.le_of_ble_eq_true rfl) ⟨(Nat.le_of_ble_eq_true rfl), (Nat.le_of_ble_eq_true rfl)⟩ rfl rfl rfl rfl rfl rfl rfl (fun _ => ?_) (fun e ge => by cases ge)
  refine e_aload_n dX6_yOf_5 rfl rfl ?_
  refine e_getfield fd_X6_10 dX6_yOf_6 rfl rfl rfl rfl ?_
  refine e_getfield fd_X6_93 dX6_yOf_9 rfl rfl rfl rfl ?_
  refine e_iload_n dX6_yOf_12 rfl rfl ?_
  refine e_ialoadB dX6_yOf_13 rfl rfl rfl (by omega) (by decide) ry ?_
  intro b13
  exact e_iret dX6_yOf_14 rfl rfl (eRet_i rfl rfl)
theorem N_X6_handleOf {X : eXT} {a : Nat → Nat} {q1 q2 q3 q4 q5 q6 : Nat} {z : Nat → Int} {N : Int} {F : eFs} {P : Int → Int} (hF : okF N F) {b : Int} (hb : sHas F b) :
    EM X mX6_handleOf (eRm 6) a [.ref (a 0), vi b] (wO (a 1) q1 q2 q3 q4 q5 q6 z :: wFl (fun k => a (1 + k)) F P) (eRet (some (vi (F.2 2 b))) a (wO (a 1) q1 q2 q3 q4 q5 q6 z :: wFl (fun k => a (1 + k)) F P)) := by
  refine EM.of (by decide +kernel) rfl (Nat.le_of_ble_eq_true rfl) ?_
  have hF0 := hF
  obtain ⟨hc, hld, hled, htn, hgo, hkp, hst, hwt, hcl, hsh, hnx, hN, rx, ry, rh, rm, rc, rw9⟩ := hF
  refine e_aload_n dX6_handleOf_0 rfl rfl ?_
  refine e_iload_n dX6_handleOf_1 rfl rfl ?_
  refine e_cVwo (b' := (0, 0)) (m := 11)  lk_X6_85 rfl dX6_handleOf_2 rfl (N_X6_demandBasket (z := z) (F := F) (P := P) hF0 hb) rfl rfl (Nat.le_of_ble_eq_true rfl) (Nat.le_of_ble_eq_true rfl) (Nat.le_of_ble_eq_true rfl) ⟨(Nat.le_of_ble_eq_true rfl), (Nat.le_of_ble_eq_true rfl)⟩ rfl rfl rfl rfl rfl rfl rfl (fun _ => ?_) (fun e ge => by cases ge)
  refine e_aload_n dX6_handleOf_5 rfl rfl ?_
  refine e_getfield fd_X6_10 dX6_handleOf_6 rfl rfl rfl rfl ?_
  refine e_getfield fd_X6_96 dX6_handleOf_9 rfl rfl rfl rfl ?_
  refine e_iload_n dX6_handleOf_12 rfl rfl ?_
  refine e_ialoadB dX6_handleOf_13 rfl rfl rfl (by omega) (by decide) rh ?_
  intro b13
  exact e_iret dX6_handleOf_14 rfl rfl (eRet_i rfl rfl)
theorem N_X6_movesOf {X : eXT} {a : Nat → Nat} {q1 q2 q3 q4 q5 q6 : Nat} {z : Nat → Int} {N : Int} {F : eFs} {P : Int → Int} (hF : okF N F) {b : Int} (hb : sHas F b) :
    EM X mX6_movesOf (eRm 6) a [.ref (a 0), vi b] (wO (a 1) q1 q2 q3 q4 q5 q6 z :: wFl (fun k => a (1 + k)) F P) (eRet (some (vi (F.2 3 b))) a (wO (a 1) q1 q2 q3 q4 q5 q6 z :: wFl (fun k => a (1 + k)) F P)) := by
  refine EM.of (by decide +kernel) rfl (Nat.le_of_ble_eq_true rfl) ?_
  have hF0 := hF
  obtain ⟨hc, hld, hled, htn, hgo, hkp, hst, hwt, hcl, hsh, hnx, hN, rx, ry, rh, rm, rc, rw9⟩ := hF
  refine e_aload_n dX6_movesOf_0 rfl rfl ?_
  refine e_iload_n dX6_movesOf_1 rfl rfl ?_
  refine e_cVwo (b' := (0, 0)) (m := 11)  lk_X6_85 rfl dX6_movesOf_2 rfl (N_X6_demandBasket (z := z) (F := F) (P := P) hF0 hb) rfl rfl (Nat.le_of_ble_eq_true rfl) (Nat.le_of_ble_eq_true rfl) (Nat.le_of_ble_eq_true rfl) ⟨(Nat.le_of_ble_eq_true rfl), (Nat.le_of_ble_eq_true rfl)⟩ rfl rfl rfl rfl rfl rfl rfl (fun _ => ?_) (fun e ge => by cases ge)
  refine e_aload_n dX6_movesOf_5 rfl rfl ?_
  refine e_getfield fd_X6_10 dX6_movesOf_6 rfl rfl rfl rfl ?_
  refine e_getfield fd_X6_196 dX6_movesOf_9 rfl rfl rfl rfl ?_
  refine e_iload_n dX6_movesOf_12 rfl rfl ?_
  refine e_ialoadB dX6_movesOf_13 rfl rfl rfl (by omega) (by decide) rm ?_
  intro b13
  exact e_iret dX6_movesOf_14 rfl rfl (eRet_i rfl rfl)
theorem N_X6_distance {X : eXT} {a : Nat → Nat} {q1 q2 q3 q4 q5 q6 : Nat} {z : Nat → Int} {N : Int} {F : eFs} {P : Int → Int} (hF : okF N F) {b o : Int} (hb : sHas F b) (ho : sHas F o) :
    EM X mX6_distance (eRm 6) a [.ref (a 0), vi b, vi o] (wO (a 1) q1 q2 q3 q4 q5 q6 z :: wFl (fun k => a (1 + k)) F P) (eRet (some (vi (sDD F b o))) a (wO (a 1) q1 q2 q3 q4 q5 q6 z :: wFl (fun k => a (1 + k)) F P)) := by
  refine EM.of (by decide +kernel) rfl (Nat.le_of_ble_eq_true rfl) ?_
  have hF0 := hF
  obtain ⟨hc, hld, hled, htn, hgo, hkp, hst, hwt, hcl, hsh, hnx, hN, rx, ry, rh, rm, rc, rw9⟩ := hF
  refine e_aload_n dX6_distance_0 rfl rfl ?_
  refine e_iload_n dX6_distance_1 rfl rfl ?_
  refine e_cVwo (b' := (0, 0)) (m := 11)  lk_X6_85 rfl dX6_distance_2 rfl (N_X6_demandBasket (z := z) (F := F) (P := P) hF0 hb) rfl rfl (Nat.le_of_ble_eq_true rfl) (Nat.le_of_ble_eq_true rfl) (Nat.le_of_ble_eq_true rfl) ⟨(Nat.le_of_ble_eq_true rfl), (Nat.le_of_ble_eq_true rfl)⟩ rfl rfl rfl rfl rfl rfl rfl (fun _ => ?_) (fun e ge => by cases ge)
  refine e_aload_n dX6_distance_5 rfl rfl ?_
  refine e_iload_n dX6_distance_6 rfl rfl ?_
  refine e_cVwo (b' := (0, 0)) (m := 11)  lk_X6_85 rfl dX6_distance_7 rfl (N_X6_demandBasket (z := z) (F := F) (P := P) hF0 ho) rfl rfl (Nat.le_of_ble_eq_true rfl) (Nat.le_of_ble_eq_true rfl) (Nat.le_of_ble_eq_true rfl) ⟨(Nat.le_of_ble_eq_true rfl), (Nat.le_of_ble_eq_true rfl)⟩ rfl rfl rfl rfl rfl rfl rfl (fun _ => ?_) (fun e ge => by cases ge)
  refine e_aload_n dX6_distance_10 rfl rfl ?_
  refine e_getfield fd_X6_10 dX6_distance_11 rfl rfl rfl rfl ?_
  refine e_iload_n dX6_distance_14 rfl rfl ?_
  refine e_iload_n dX6_distance_15 rfl rfl ?_
  refine e_cV0 [1, 2, 3, 4, 5, 6, 7, 8, 9, 10] lk_X6_113 rfl dX6_distance_16 rfl (C_X2_distanceOf (F := F) hF0 hb ho) rfl rfl (Nat.le_of_ble_eq_true rfl) (Nat.le_of_ble_eq_true rfl) (Nat.le_of_ble_eq_true rfl) ⟨rfl, rfl⟩ rfl rfl rfl rfl rfl rfl  ?_
  exact e_iret dX6_distance_19 rfl rfl (eRet_i rfl rfl)
theorem N_X6_basketAt {X : eXT} {a : Nat → Nat} {q1 q2 q3 q4 q5 q6 : Nat} {z : Nat → Int} {N : Int} {F : eFs} {P : Int → Int} (hF : okF N F) {x y : Int} (hin : sIn x y) (hat : ¬ sAt F x y = -1) :
    EM X mX6_basketAt (eRm 6) a [.ref (a 0), vi x, vi y] (wO (a 1) q1 q2 q3 q4 q5 q6 z :: wFl (fun k => a (1 + k)) F P) (eRet (some (vi (sAt F x y))) a (wO (a 1) q1 q2 q3 q4 q5 q6 z :: wFl (fun k => a (1 + k)) F P)) := by
  refine EM.of (by decide +kernel) rfl (Nat.le_of_ble_eq_true rfl) ?_
  have hF0 := hF
  obtain ⟨hc, hld, hled, htn, hgo, hkp, hst, hwt, hcl, hsh, hnx, hN, rx, ry, rh, rm, rc, rw9⟩ := hF
  refine e_aload_n dX6_basketAt_0 rfl rfl ?_
  refine e_iload_n dX6_basketAt_1 rfl rfl ?_
  refine e_iload_n dX6_basketAt_2 rfl rfl ?_
  refine e_cVwo (b' := (0, 0)) (m := 11)  lk_X6_99 rfl dX6_basketAt_3 rfl (N_X6_demandCell (z := z) (F := F) (P := P) hF0 hin) rfl rfl (Nat.le_of_ble_eq_true rfl) (Nat.le_of_ble_eq_true rfl) (Nat.le_of_ble_eq_true rfl) ⟨(Nat.le_of_ble_eq_true rfl), (Nat.le_of_ble_eq_true rfl)⟩ rfl rfl rfl rfl rfl rfl rfl (fun _ => ?_) (fun e ge => by cases ge)
  refine e_aload_n dX6_basketAt_6 rfl rfl ?_
  refine e_getfield fd_X6_10 dX6_basketAt_7 rfl rfl rfl rfl ?_
  refine e_iload_n dX6_basketAt_10 rfl rfl ?_
  refine e_iload_n dX6_basketAt_11 rfl rfl ?_
  refine e_cV0 [1, 2, 3, 4, 5, 6, 7, 8, 9, 10] lk_X6_103 rfl dX6_basketAt_12 rfl (C_X2_basketIn (F := F) hF0 (by omega) (by omega)) rfl rfl (Nat.le_of_ble_eq_true rfl) (Nat.le_of_ble_eq_true rfl) (Nat.le_of_ble_eq_true rfl) ⟨rfl, rfl⟩ rfl rfl rfl rfl rfl rfl  ?_
  have un := sAt_in (F := F) (x := x) (y := y)
  refine f_istore_n dX6_basketAt_15 rfl (Nat.le_of_ble_eq_true rfl) rfl ?_
  refine e_iload_n dX6_basketAt_16 rfl rfl ?_
  refine e_iconst dX6_basketAt_17 rfl ?_
  refine e_icmp_ne (t := 31) dX6_basketAt_18 rfl rfl (by omega) (by omega) (fun h18 => ?_) (fun h18 => ?_)
  · refine e_iload_n dX6_basketAt_31 rfl rfl ?_
    exact e_iret dX6_basketAt_32 rfl rfl (eRet_i rfl rfl)
  · exact absurd h18 (fun q => q hat)
theorem N_X6_isCloud {X : eXT} {a : Nat → Nat} {q1 q2 q3 q4 q5 q6 : Nat} {z : Nat → Int} {N : Int} {F : eFs} {P : Int → Int} (hF : okF N F) {x y : Int} (hin : sIn x y) :
    EM X mX6_isCloud (eRm 6) a [.ref (a 0), vi x, vi y] (wO (a 1) q1 q2 q3 q4 q5 q6 z :: wFl (fun k => a (1 + k)) F P) (eRet (some (vb (sCov (F.2 4) x y))) a (wO (a 1) q1 q2 q3 q4 q5 q6 z :: wFl (fun k => a (1 + k)) F P)) := by
  refine EM.of (by decide +kernel) rfl (Nat.le_of_ble_eq_true rfl) ?_
  have hF0 := hF
  obtain ⟨hc, hld, hled, htn, hgo, hkp, hst, hwt, hcl, hsh, hnx, hN, rx, ry, rh, rm, rc, rw9⟩ := hF
  refine e_aload_n dX6_isCloud_0 rfl rfl ?_
  refine e_iload_n dX6_isCloud_1 rfl rfl ?_
  refine e_iload_n dX6_isCloud_2 rfl rfl ?_
  refine e_cVwo (b' := (0, 0)) (m := 11)  lk_X6_99 rfl dX6_isCloud_3 rfl (N_X6_demandCell (z := z) (F := F) (P := P) hF0 hin) rfl rfl (Nat.le_of_ble_eq_true rfl) (Nat.le_of_ble_eq_true rfl) (Nat.le_of_ble_eq_true rfl) ⟨(Nat.le_of_ble_eq_true rfl), (Nat.le_of_ble_eq_true rfl)⟩ rfl rfl rfl rfl rfl rfl rfl (fun _ => ?_) (fun e ge => by cases ge)
  refine e_aload_n dX6_isCloud_6 rfl rfl ?_
  refine e_getfield fd_X6_10 dX6_isCloud_7 rfl rfl rfl rfl ?_
  refine e_getfield fd_X6_125 dX6_isCloud_10 rfl rfl rfl rfl ?_
  refine e_iload_n dX6_isCloud_13 rfl rfl ?_
  refine e_iload_n dX6_isCloud_14 rfl rfl ?_
  refine e_cV0 [6, 7] lk_X6_136 rfl dX6_isCloud_15 rfl (C_X0_covers (by omega) (by omega)) rfl rfl (Nat.le_of_ble_eq_true rfl) (Nat.le_of_ble_eq_true rfl) (Nat.le_of_ble_eq_true rfl) ⟨rfl, rfl⟩ rfl rfl rfl rfl rfl rfl  ?_
  exact e_iret dX6_isCloud_18 rfl eNarB (eRet_b Iff.rfl rfl)
theorem N_X6_leader {X : eXT} {a : Nat → Nat} {q1 q2 q3 q4 q5 q6 : Nat} {z : Nat → Int} {N : Int} {F : eFs} {P : Int → Int} (hF : okF N F) (h1 : 1 ≤ F.1 0) :
    EM X mX6_leader (eRm 6) a [.ref (a 0)] (wO (a 1) q1 q2 q3 q4 q5 q6 z :: wFl (fun k => a (1 + k)) F P) (eRet (some (vi (F.1 1))) a (wO (a 1) q1 q2 q3 q4 q5 q6 z :: wFl (fun k => a (1 + k)) F P)) := by
  refine EM.of (by decide +kernel) rfl (Nat.le_of_ble_eq_true rfl) ?_
  have hF0 := hF
  obtain ⟨hc, hld, hled, htn, hgo, hkp, hst, hwt, hcl, hsh, hnx, hN, rx, ry, rh, rm, rc, rw9⟩ := hF
  refine e_aload_n dX6_leader_0 rfl rfl ?_
  refine e_cVwo (b' := (0, 0)) (m := 11)  lk_X6_147 rfl dX6_leader_1 rfl (N_X6_demandAnyBasket (z := z) (F := F) (P := P) hF0 h1) rfl rfl (Nat.le_of_ble_eq_true rfl) (Nat.le_of_ble_eq_true rfl) (Nat.le_of_ble_eq_true rfl) ⟨(Nat.le_of_ble_eq_true rfl), (Nat.le_of_ble_eq_true rfl)⟩ rfl rfl rfl rfl rfl rfl rfl (fun _ => ?_) (fun e ge => by cases ge)
  refine e_aload_n dX6_leader_4 rfl rfl ?_
  refine e_getfield fd_X6_10 dX6_leader_5 rfl rfl rfl rfl ?_
  refine e_getfield fd_X6_150 dX6_leader_8 rfl rfl rfl rfl ?_
  exact e_iret dX6_leader_11 rfl rfl (eRet_i rfl rfl)
theorem N_X6_leaderAfter {X : eXT} {a : Nat → Nat} {q1 q2 q3 q4 q5 q6 : Nat} {z : Nat → Int} {N : Int} {F : eFs} {P : Int → Int} (hF : okF N F) {s : Int} (hs : 0 ≤ s ∧ s ≤ 99) (h1 : 1 ≤ F.1 0) :
    EM X mX6_leaderAfter (eRm 6) a [.ref (a 0), vi s] (wO (a 1) q1 q2 q3 q4 q5 q6 z :: wFl (fun k => a (1 + k)) F P) (eRet (some (vi (sLead F s))) a (wO (a 1) q1 q2 q3 q4 q5 q6 z :: wFl (fun k => a (1 + k)) F P)) := by
  refine EM.of (by decide +kernel) rfl (Nat.le_of_ble_eq_true rfl) ?_
  have hF0 := hF
  obtain ⟨hc, hld, hled, htn, hgo, hkp, hst, hwt, hcl, hsh, hnx, hN, rx, ry, rh, rm, rc, rw9⟩ := hF
  refine e_aload_n dX6_leaderAfter_0 rfl rfl ?_
  refine e_iload_n dX6_leaderAfter_1 rfl rfl ?_
  refine e_cVwo (b' := (0, 0)) (m := 11)  lk_X6_153 rfl dX6_leaderAfter_2 rfl (N_X6_demandStepsAhead (z := z) (F := F) (P := P) hF0 hs) rfl rfl (Nat.le_of_ble_eq_true rfl) (Nat.le_of_ble_eq_true rfl) (Nat.le_of_ble_eq_true rfl) ⟨(Nat.le_of_ble_eq_true rfl), (Nat.le_of_ble_eq_true rfl)⟩ rfl rfl rfl rfl rfl rfl rfl (fun _ => ?_) (fun e ge => by cases ge)
  refine e_aload_n dX6_leaderAfter_5 rfl rfl ?_
  refine e_cVwo (b' := (0, 0)) (m := 11)  lk_X6_147 rfl dX6_leaderAfter_6 rfl (N_X6_demandAnyBasket (z := z) (F := F) (P := P) hF0 h1) rfl rfl (Nat.le_of_ble_eq_true rfl) (Nat.le_of_ble_eq_true rfl) (Nat.le_of_ble_eq_true rfl) ⟨(Nat.le_of_ble_eq_true rfl), (Nat.le_of_ble_eq_true rfl)⟩ rfl rfl rfl rfl rfl rfl rfl (fun _ => ?_) (fun e ge => by cases ge)
  refine e_aload_n dX6_leaderAfter_9 rfl rfl ?_
  refine e_getfield fd_X6_10 dX6_leaderAfter_10 rfl rfl rfl rfl ?_
  refine e_iload_n dX6_leaderAfter_13 rfl rfl ?_
  refine e_cV0 [1, 2, 3, 4, 5, 6, 7, 8, 9, 10] lk_X6_156 rfl dX6_leaderAfter_14 rfl (C_X2_leaderByFormula (F := F) hF0 (by omega)) rfl rfl (Nat.le_of_ble_eq_true rfl) (Nat.le_of_ble_eq_true rfl) (Nat.le_of_ble_eq_true rfl) ⟨rfl, rfl⟩ rfl rfl rfl rfl rfl rfl  ?_
  exact e_iret dX6_leaderAfter_17 rfl rfl (eRet_i rfl rfl)
theorem N_X6_leaderAfterByCounting {X : eXT} {a : Nat → Nat} {q1 q2 q3 q4 q5 q6 : Nat} {z : Nat → Int} {N : Int} {F : eFs} {P : Int → Int} (hF : okF N F) {s : Int} (hs : 0 ≤ s ∧ s ≤ 99) (h1 : 1 ≤ F.1 0) :
    EM X mX6_leaderAfterByCounting (eRm 6) a [.ref (a 0), vi s] (wO (a 1) q1 q2 q3 q4 q5 q6 z :: wFl (fun k => a (1 + k)) F P) (eRet (some (vi (sLead F s))) a (wO (a 1) q1 q2 q3 q4 q5 q6 z :: wFl (fun k => a (1 + k)) F P)) := by
  refine EM.of (by decide +kernel) rfl (Nat.le_of_ble_eq_true rfl) ?_
  have hF0 := hF
  obtain ⟨hc, hld, hled, htn, hgo, hkp, hst, hwt, hcl, hsh, hnx, hN, rx, ry, rh, rm, rc, rw9⟩ := hF
  refine e_aload_n dX6_leaderAfterByCounting_0 rfl rfl ?_
  refine e_iload_n dX6_leaderAfterByCounting_1 rfl rfl ?_
  refine e_cVwo (b' := (0, 0)) (m := 11)  lk_X6_153 rfl dX6_leaderAfterByCounting_2 rfl (N_X6_demandStepsAhead (z := z) (F := F) (P := P) hF0 hs) rfl rfl (Nat.le_of_ble_eq_true rfl) (Nat.le_of_ble_eq_true rfl) (Nat.le_of_ble_eq_true rfl) ⟨(Nat.le_of_ble_eq_true rfl), (Nat.le_of_ble_eq_true rfl)⟩ rfl rfl rfl rfl rfl rfl rfl (fun _ => ?_) (fun e ge => by cases ge)
  refine e_aload_n dX6_leaderAfterByCounting_5 rfl rfl ?_
  refine e_cVwo (b' := (0, 0)) (m := 11)  lk_X6_147 rfl dX6_leaderAfterByCounting_6 rfl (N_X6_demandAnyBasket (z := z) (F := F) (P := P) hF0 h1) rfl rfl (Nat.le_of_ble_eq_true rfl) (Nat.le_of_ble_eq_true rfl) (Nat.le_of_ble_eq_true rfl) ⟨(Nat.le_of_ble_eq_true rfl), (Nat.le_of_ble_eq_true rfl)⟩ rfl rfl rfl rfl rfl rfl rfl (fun _ => ?_) (fun e ge => by cases ge)
  refine e_aload_n dX6_leaderAfterByCounting_9 rfl rfl ?_
  refine e_getfield fd_X6_10 dX6_leaderAfterByCounting_10 rfl rfl rfl rfl ?_
  refine e_iload_n dX6_leaderAfterByCounting_13 rfl rfl ?_
  refine e_cV0 [1, 2, 3, 4, 5, 6, 7, 8, 9, 10] lk_X6_159 rfl dX6_leaderAfterByCounting_14 rfl (C_X2_leaderByCounting (F := F) hF0 (by omega)) rfl rfl (Nat.le_of_ble_eq_true rfl) (Nat.le_of_ble_eq_true rfl) (Nat.le_of_ble_eq_true rfl) ⟨rfl, rfl⟩ rfl rfl rfl rfl rfl rfl  ?_
  exact e_iret dX6_leaderAfterByCounting_17 rfl rfl (eRet_i rfl rfl)
theorem N_X6_nearestTo {X : eXT} {a : Nat → Nat} {q1 q2 q3 q4 q5 q6 : Nat} {z : Nat → Int} {N : Int} {F : eFs} {P : Int → Int} (hF : okF N F) {b : Int} (hb : sHas F b) (hne : ¬ sNear F b = -1) :
    EM X mX6_nearestTo (eRm 6) a [.ref (a 0), vi b] (wO (a 1) q1 q2 q3 q4 q5 q6 z :: wFl (fun k => a (1 + k)) F P) (eRet (some (vi (sNear F b))) a (wO (a 1) q1 q2 q3 q4 q5 q6 z :: wFl (fun k => a (1 + k)) F P)) := by
  refine EM.of (by decide +kernel) rfl (Nat.le_of_ble_eq_true rfl) ?_
  have hF0 := hF
  obtain ⟨hc, hld, hled, htn, hgo, hkp, hst, hwt, hcl, hsh, hnx, hN, rx, ry, rh, rm, rc, rw9⟩ := hF
  refine e_aload_n dX6_nearestTo_0 rfl rfl ?_
  refine e_iload_n dX6_nearestTo_1 rfl rfl ?_
  refine e_cVwo (b' := (0, 0)) (m := 11)  lk_X6_85 rfl dX6_nearestTo_2 rfl (N_X6_demandBasket (z := z) (F := F) (P := P) hF0 hb) rfl rfl (Nat.le_of_ble_eq_true rfl) (Nat.le_of_ble_eq_true rfl) (Nat.le_of_ble_eq_true rfl) ⟨(Nat.le_of_ble_eq_true rfl), (Nat.le_of_ble_eq_true rfl)⟩ rfl rfl rfl rfl rfl rfl rfl (fun _ => ?_) (fun e ge => by cases ge)
  refine e_aload_n dX6_nearestTo_5 rfl rfl ?_
  refine e_getfield fd_X6_10 dX6_nearestTo_6 rfl rfl rfl rfl ?_
  refine e_iload_n dX6_nearestTo_9 rfl rfl ?_
  refine e_cV0 [1, 2, 3, 4, 5, 6, 7, 8, 9, 10] lk_X6_116 rfl dX6_nearestTo_10 rfl (C_X2_nearestOther (F := F) hF0 hb) rfl rfl (Nat.le_of_ble_eq_true rfl) (Nat.le_of_ble_eq_true rfl) (Nat.le_of_ble_eq_true rfl) ⟨rfl, rfl⟩ rfl rfl rfl rfl rfl rfl  ?_
  have un : -1 ≤ sNear F b ∧ (sNear F b < F.1 0 ∨ sNear F b = -1) := eFB_in (by decide)
  refine f_istore_n dX6_nearestTo_13 rfl (Nat.le_of_ble_eq_true rfl) rfl ?_
  refine e_iload_n dX6_nearestTo_14 rfl rfl ?_
  refine e_iconst dX6_nearestTo_15 rfl ?_
  refine e_icmp_ne (t := 29) dX6_nearestTo_16 rfl rfl (by omega) (by omega) (fun h16 => ?_) (fun h16 => ?_)
  · refine e_iload_n dX6_nearestTo_29 rfl rfl ?_
    exact e_iret dX6_nearestTo_30 rfl rfl (eRet_i rfl rfl)
  · exact absurd h16 (fun q => q hne)
theorem N_X6_basketAtRank {X : eXT} {a : Nat → Nat} {q1 q2 q3 q4 q5 q6 : Nat} {z : Nat → Int} {N : Int} {F : eFs} {P : Int → Int} (hF : okF N F) {r : Int} (gr : -2147483648 ≤ r ∧ r ≤ 2147483647) (hat : ¬ sWithRk F r = -1) :
    EM X mX6_basketAtRank (eRm 6) a [.ref (a 0), vi r] (wO (a 1) q1 q2 q3 q4 q5 q6 z :: wFl (fun k => a (1 + k)) F P) (eRet (some (vi (sWithRk F r))) a (wO (a 1) q1 q2 q3 q4 q5 q6 z :: wFl (fun k => a (1 + k)) F P)) := by
  refine EM.of (by decide +kernel) rfl (Nat.le_of_ble_eq_true rfl) ?_
  have hF0 := hF
  obtain ⟨hc, hld, hled, htn, hgo, hkp, hst, hwt, hcl, hsh, hnx, hN, rx, ry, rh, rm, rc, rw9⟩ := hF
  refine e_aload_n dX6_basketAtRank_0 rfl rfl ?_
  refine e_getfield fd_X6_10 dX6_basketAtRank_1 rfl rfl rfl rfl ?_
  refine e_iload_n dX6_basketAtRank_4 rfl rfl ?_
  refine e_cV0 [1, 2, 3, 4, 5, 6, 7, 8, 9, 10] lk_X6_242 rfl dX6_basketAtRank_5 rfl (C_X2_basketWithRank (F := F) hF0 (by omega)) rfl rfl (Nat.le_of_ble_eq_true rfl) (Nat.le_of_ble_eq_true rfl) (Nat.le_of_ble_eq_true rfl) ⟨rfl, rfl⟩ rfl rfl rfl rfl rfl rfl  ?_
  have un : -1 ≤ sWithRk F r ∧ (sWithRk F r < F.1 0 ∨ sWithRk F r = -1) := eFB_in (by decide)
  refine f_istore_n dX6_basketAtRank_8 rfl (Nat.le_of_ble_eq_true rfl) rfl ?_
  refine e_iload_n dX6_basketAtRank_9 rfl rfl ?_
  refine e_iconst dX6_basketAtRank_10 rfl ?_
  refine e_icmp_ne (t := 24) dX6_basketAtRank_11 rfl rfl (by omega) (by omega) (fun h11 => ?_) (fun h11 => ?_)
  · refine e_iload_n dX6_basketAtRank_24 rfl rfl ?_
    exact e_iret dX6_basketAtRank_25 rfl rfl (eRet_i rfl rfl)
  · exact absurd h11 (fun q => q hat)
theorem N_X6_meanDistance {X : eXT} {a : Nat → Nat} {q1 q2 q3 q4 q5 q6 : Nat} {z : Nat → Int} {N : Int} {F : eFs} {P : Int → Int} (hF : okF N F) (h2 : 2 ≤ F.1 0) :
    EM X mX6_meanDistance (eRm 6) a [.ref (a 0)] (wO (a 1) q1 q2 q3 q4 q5 q6 z :: wFl (fun k => a (1 + k)) F P) (eRet (some (.double (FP.ddiv (FP.i2d (Int32.ofInt (sSumD F))) (FP.i2d (Int32.ofInt (F.1 0 - 1)))))) a (wO (a 1) q1 q2 q3 q4 q5 q6 z :: wFl (fun k => a (1 + k)) F P)) := by
  refine EM.of (by decide +kernel) rfl (Nat.le_of_ble_eq_true rfl) ?_
  have hF0 := hF
  obtain ⟨hc, hld, hled, htn, hgo, hkp, hst, hwt, hcl, hsh, hnx, hN, rx, ry, rh, rm, rc, rw9⟩ := hF
  refine e_aload_n dX6_meanDistance_0 rfl rfl ?_
  refine e_getfield fd_X6_10 dX6_meanDistance_1 rfl rfl rfl rfl ?_
  refine e_getfield fd_X6_82 dX6_meanDistance_4 rfl rfl rfl rfl ?_
  refine e_iconst dX6_meanDistance_7 rfl ?_
  refine e_isub dX6_meanDistance_8 rfl ?_
  refine f_istore_n dX6_meanDistance_9 rfl (Nat.le_of_ble_eq_true rfl) rfl ?_
  refine e_iload_n dX6_meanDistance_10 rfl rfl ?_
  refine e_iconst dX6_meanDistance_11 rfl ?_
  refine e_icmp_ge (t := 26) dX6_meanDistance_12 rfl rfl (by omega) (by omega) (fun h12 => ?_) (fun h12 => ?_)
  · refine e_aload_n dX6_meanDistance_26 rfl rfl ?_
    refine e_getfield fd_X6_10 dX6_meanDistance_27 rfl rfl rfl rfl ?_
    refine e_cV0 [1, 2, 3, 4, 5, 6, 7, 8, 9, 10] lk_X6_311 rfl dX6_meanDistance_30 rfl (C_X2_sumOfDistancesFromLeader (F := F) hF0) rfl rfl (Nat.le_of_ble_eq_true rfl) (Nat.le_of_ble_eq_true rfl) (Nat.le_of_ble_eq_true rfl) ⟨rfl, rfl⟩ rfl rfl rfl rfl rfl rfl  ?_
    have us := sSumD_in hF0
    refine e_i2d dX6_meanDistance_33 rfl ?_
    refine e_iload_n dX6_meanDistance_34 rfl rfl ?_
    refine e_i2d dX6_meanDistance_35 rfl ?_
    refine e_ddiv dX6_meanDistance_36 rfl (fp_div64 (by omega) (by omega)) ?_
    exact e_dret dX6_meanDistance_37 rfl ⟨rfl, rfl, rfl⟩
  · omega
theorem N_X6_mixedShare {X : eXT} {a : Nat → Nat} {q1 q2 q3 q4 q5 q6 : Nat} {z : Nat → Int} {N : Int} {F : eFs} {P : Int → Int} (hF : okF N F) (h1 : 1 ≤ sPrs F) :
    EM X mX6_mixedShare (eRm 6) a [.ref (a 0)] (wO (a 1) q1 q2 q3 q4 q5 q6 z :: wFl (fun k => a (1 + k)) F P) (eRet (some (.float (FP.fdiv (FP.i2f (Int32.ofInt (sMix F))) (FP.i2f (Int32.ofInt (sPrs F)))))) a (wO (a 1) q1 q2 q3 q4 q5 q6 z :: wFl (fun k => a (1 + k)) F P)) := by
  refine EM.of (by decide +kernel) rfl (Nat.le_of_ble_eq_true rfl) ?_
  have hF0 := hF
  obtain ⟨hc, hld, hled, htn, hgo, hkp, hst, hwt, hcl, hsh, hnx, hN, rx, ry, rh, rm, rc, rw9⟩ := hF
  refine e_aload_n dX6_mixedShare_0 rfl rfl ?_
  refine e_getfield fd_X6_10 dX6_mixedShare_1 rfl rfl rfl rfl ?_
  refine e_cV0 [1, 2, 3, 4, 5, 6, 7, 8, 9, 10] lk_X6_314 rfl dX6_mixedShare_4 rfl (C_X2_linkedPairs (F := F) hF0) rfl rfl (Nat.le_of_ble_eq_true rfl) (Nat.le_of_ble_eq_true rfl) (Nat.le_of_ble_eq_true rfl) ⟨rfl, rfl⟩ rfl rfl rfl rfl rfl rfl  ?_
  have us := sPrs_in hc
  have um := sMix_in hc
  refine f_istore_n dX6_mixedShare_7 rfl (Nat.le_of_ble_eq_true rfl) rfl ?_
  refine e_iload_n dX6_mixedShare_8 rfl rfl ?_
  refine e_iconst dX6_mixedShare_9 rfl ?_
  refine e_icmp_ge (t := 24) dX6_mixedShare_10 rfl rfl (by omega) (by omega) (fun h10 => ?_) (fun h10 => ?_)
  · refine e_aload_n dX6_mixedShare_24 rfl rfl ?_
    refine e_getfield fd_X6_10 dX6_mixedShare_25 rfl rfl rfl rfl ?_
    refine e_cV0 [1, 2, 3, 4, 5, 6, 7, 8, 9, 10] lk_X6_220 rfl dX6_mixedShare_28 rfl (C_X2_mixedByComparing (F := F) hF0) rfl rfl (Nat.le_of_ble_eq_true rfl) (Nat.le_of_ble_eq_true rfl) (Nat.le_of_ble_eq_true rfl) ⟨rfl, rfl⟩ rfl rfl rfl rfl rfl rfl  ?_
    refine e_i2f dX6_mixedShare_31 rfl ?_
    refine e_iload_n dX6_mixedShare_32 rfl rfl ?_
    refine e_i2f dX6_mixedShare_33 rfl ?_
    refine e_fdiv dX6_mixedShare_34 rfl (fp_div32 (by omega) (by omega)) ?_
    exact e_fret dX6_mixedShare_35 rfl ⟨rfl, rfl, rfl⟩
  · omega
theorem N_X6_lineAt {X : eXT} {a : Nat → Nat} {q0 q1 q2 q3 q4 q5 : Nat} {z : Nat → Int} {ln : Int → Int} (hz : okZ z) (hln : ∀ j, 0 ≤ ln j ∧ ln j ≤ 65535) {i : Int} (hi : 0 ≤ i ∧ i < z 4) :
    EM X mX6_lineAt (eRm 3) a [.ref (a 0), vi i] ([wO q0 q1 q2 q3 q4 q5 (a 1) z, eI 2 12 ln]) (eRet (some (vi (ln i))) a ([wO q0 q1 q2 q3 q4 q5 (a 1) z, eI 2 12 ln])) := by
  refine EM.of (by decide +kernel) rfl (Nat.le_of_ble_eq_true rfl) ?_
  refine e_iload_n dX6_lineAt_0 rfl rfl ?_
  refine e_if_lt (t := 12) dX6_lineAt_1 rfl rfl (by omega) (fun h1 => ?_) (fun h1 => ?_)
  · omega
  · refine e_iload_n dX6_lineAt_4 rfl rfl ?_
    refine e_aload_n dX6_lineAt_5 rfl rfl ?_
    refine e_getfield fd_X6_64 dX6_lineAt_6 rfl rfl rfl rfl ?_
    refine e_icmp_lt (t := 23) dX6_lineAt_9 rfl rfl (by omega) (by omega) (fun h9 => ?_) (fun h9 => ?_)
    · refine e_aload_n dX6_lineAt_23 rfl rfl ?_
      refine e_getfield fd_X6_60 dX6_lineAt_24 rfl rfl rfl rfl ?_
      refine e_iload_n dX6_lineAt_27 rfl rfl ?_
      refine e_caload dX6_lineAt_28 rfl rfl rfl (by omega) (by decide) ?_
      exact e_iret dX6_lineAt_29 rfl (narC (hln i)) (eRet_i rfl rfl)
    · omega
theorem N_X6_describeRow {X : eXT} {a : Nat → Nat} {q1 q2 q3 q4 q5 : Nat} {z : Nat → Int} {N : Int} {F : eFs} {P : Int → Int} (hF : okF N F) {ln : Int → Int} {y : Int} (hy : 0 ≤ y ∧ y ≤ 11) :
    EM X mX6_describeRow (eRm 6) a [.ref (a 0), vi y] (wO (a 1) q1 q2 q3 q4 q5 (a 11) (z) :: (wFl (fun k => a (1 + k)) F P ++ [eI 2 12 (ln)])) (eRet (some (vi 12)) a (wO (a 1) q1 q2 q3 q4 q5 (a 11) (zS z 4 12) :: (wFl (fun k => a (1 + k)) F P ++ [eI 2 12 (fun x => sSgn F x y)]))) := by
  refine EM.of (by decide +kernel) rfl (Nat.le_of_ble_eq_true rfl) ?_
  have hF0 := hF
  obtain ⟨hc, hld, hled, htn, hgo, hkp, hst, hwt, hcl, hsh, hnx, hN, rx, ry, rh, rm, rc, rw9⟩ := hF
  refine e_aload_n dX6_describeRow_0 rfl rfl ?_
  refine e_iconst dX6_describeRow_1 rfl ?_
  refine e_iload_n dX6_describeRow_2 rfl rfl ?_
  refine e_cVo (b' := (0, 0)) [0, 1, 2, 3, 4, 5, 6, 7, 8, 9, 10] lk_X6_99 rfl dX6_describeRow_3 rfl (N_X6_demandCell (z := z) (F := F) (P := P) hF0 (by omega)) rfl rfl (Nat.le_of_ble_eq_true rfl) (Nat.le_of_ble_eq_true rfl) (Nat.le_of_ble_eq_true rfl) ⟨(Nat.le_of_ble_eq_true rfl), (Nat.le_of_ble_eq_true rfl)⟩ rfl rfl rfl rfl rfl rfl (cs' := wO (a 1) q1 q2 q3 q4 q5 (a 11) (z) :: (wFl (fun k => a (1 + k)) F P ++ [eI 2 12 (ln)])) (csX := wO (a 1) q1 q2 q3 q4 q5 (a 11) (z) :: (wFl (fun k => a (1 + k)) F P ++ [eI 2 12 (ln)])) rfl rfl (eMrg_same _ _ rfl) (eMrg_same _ _ rfl) (fun _ => ?_) (fun e ge => by cases ge)
  refine e_iconst dX6_describeRow_6 rfl ?_
  refine f_istore_n dX6_describeRow_7 rfl (Nat.le_of_ble_eq_true rfl) rfl ?_
  have hL8 : ∀ (k8 : Nat) (k : Int) (g : Int → Int) (hk8 : (12 - k).toNat = k8) (g8 : 0 ≤ k ∧ k ≤ 12) (e8 : ∀ j, 0 ≤ j → j < k → g j = sSgn F j y), EV (mX6_describeRow, (eRm 6), eRet (some (vi 12)) a (wO (a 1) q1 q2 q3 q4 q5 (a 11) (zS z 4 12) :: (wFl (fun k => a (1 + k)) F P ++ [eI 2 12 (fun x => sSgn F x y)])), X) a (0, 0) (wO (a 1) q1 q2 q3 q4 q5 (a 11) (z) :: (wFl (fun k => a (1 + k)) F P ++ [eI 2 12 (g)])) 8 [some (.ref (a 0)), some (vi y), some (vi k)] [] := by
    intro k8
    induction k8 using Nat.strongRecOn with
    | _ k8 ih8 =>
    intro k g hk8 g8 e8
    refine e_iload_n dX6_describeRow_8 rfl rfl ?_
    refine e_bipush dX6_describeRow_9 rfl rfl ?_
    refine e_icmp_ge (t := 35) dX6_describeRow_11 rfl rfl (by omega) (by omega) (fun h11 => ?_) (fun h11 => ?_)
    · refine EV.sim (i := 11) (c' := eI 2 12 (fun x => sSgn F x y)) rfl (eI_sim (fun z h0 h1 => e8 z h0 (by omega))) ?_
      refine e_aload_n dX6_describeRow_35 rfl rfl ?_
      refine e_bipush dX6_describeRow_36 rfl rfl ?_
      refine e_putfield fd_X6_64 dX6_describeRow_38 rfl rfl rfl (Nat.le_of_ble_eq_true rfl) rfl rfl ?_
      refine e_aload_n dX6_describeRow_41 rfl rfl ?_
      refine e_getfield fd_X6_64 dX6_describeRow_42 rfl rfl rfl rfl ?_
      exact e_iret dX6_describeRow_45 rfl rfl (eRet_i rfl rfl)
    · refine e_aload_n dX6_describeRow_14 rfl rfl ?_
      refine e_getfield fd_X6_60 dX6_describeRow_15 rfl rfl rfl rfl ?_
      refine e_iload_n dX6_describeRow_18 rfl rfl ?_
      refine e_aload_n dX6_describeRow_19 rfl rfl ?_
      refine e_getfield fd_X6_10 dX6_describeRow_20 rfl rfl rfl rfl ?_
      refine e_iload_n dX6_describeRow_23 rfl rfl ?_
      refine e_iload_n dX6_describeRow_24 rfl rfl ?_
      refine e_cV0 [1, 2, 3, 4, 5, 6, 7, 8, 9, 10] lk_X6_297 rfl dX6_describeRow_25 rfl (C_X2_signOf (F := F) hF0 (by omega)) rfl rfl (Nat.le_of_ble_eq_true rfl) (Nat.le_of_ble_eq_true rfl) (Nat.le_of_ble_eq_true rfl) ⟨rfl, rfl⟩ rfl rfl rfl rfl rfl rfl  ?_
      have us : 0 ≤ sSgn F k y ∧ sSgn F k y ≤ 65535 := sSgn_in hc
      refine e_castore dX6_describeRow_28 rfl rfl rfl (by omega) (by decide) (by omega) ?_
      refine f_iinc dX6_describeRow_29 rfl rfl (Nat.le_of_ble_eq_true rfl) rfl ?_
      refine e_goto (n := 8) dX6_describeRow_32 rfl ?_
      exact ih8 _ (by omega) (k + 1) _ rfl (by omega) (fun j j1 j2 => by by_cases q : j = k; rw [q, eU_self]; rw [eU_ne q]; exact e8 j j1 (by omega))
  exact hL8 _ 0 ln rfl (by omega) (fun j _ _ => by omega)
theorem N_X6_formationOf {X : eXT} {a : Nat → Nat} {q1 q2 q3 q4 q5 : Nat} {z : Nat → Int} {N : Int} {F : eFs} {P g rc : Int → Int} (hF : okF N F) (hg : okG g) (hr : ∀ j, 0 ≤ rc j ∧ rc j ≤ 9) {b : Int} (hb : sHas F b) :
    EM X mX6_formationOf (eRm 7) a [.ref (a 0), vi b] (wFF a q1 q2 q3 q4 q5 z g rc F P) (eRets (some (vi (sGr F b))) a (fun cs1 => ∃ g1 rc1 : Int → Int, cs1 = wFF a q1 q2 q3 q4 q5 z g1 rc1 F P ∧ (∀ j, 0 ≤ rc1 j ∧ rc1 j ≤ 9) ∧ okG g1)) := by
  refine EM.of (by decide +kernel) rfl (Nat.le_of_ble_eq_true rfl) ?_
  have hF0 := hF
  refine e_aload_n dX6_formationOf_0 rfl rfl ?_
  refine e_iload_n dX6_formationOf_1 rfl rfl ?_
  refine e_cVo (b' := (0, 0)) [0, 1, 2, 3, 4, 5, 6, 7, 8, 9, 10] lk_X6_85 rfl dX6_formationOf_2 rfl (N_X6_demandBasket (F := F) (P := P) hF0 hb) rfl rfl (Nat.le_of_ble_eq_true rfl) (Nat.le_of_ble_eq_true rfl) (Nat.le_of_ble_eq_true rfl) ⟨(Nat.le_of_ble_eq_true rfl), (Nat.le_of_ble_eq_true rfl)⟩ rfl rfl rfl rfl rfl rfl (cs' := wFF a q1 q2 q3 q4 q5 z g rc F P) (csX := wFF a q1 q2 q3 q4 q5 z g rc F P) rfl rfl (eMrg_same _ _ rfl) (eMrg_same _ _ rfl) (fun _ => ?_) (fun e ge => by cases ge)
  refine e_aload_n dX6_formationOf_5 rfl rfl ?_
  refine e_getfield fd_X6_36 dX6_formationOf_6 rfl rfl rfl rfl ?_
  refine e_aload_n dX6_formationOf_9 rfl rfl ?_
  refine e_getfield fd_X6_10 dX6_formationOf_10 rfl rfl rfl rfl ?_
  refine e_iload_n dX6_formationOf_13 rfl rfl ?_
  refine e_cV1 [11, 12, 13, 1, 2, 3, 4, 5, 6, 7, 8, 9, 10] lk_X6_216 rfl dX6_formationOf_14 rfl (C_X3_lowestWith hF0 hg hr hb) rfl rfl (Nat.le_of_ble_eq_true rfl) (Nat.le_of_ble_eq_true rfl) (Nat.le_of_ble_eq_true rfl) ⟨rfl, rfl⟩ rfl rfl rfl rfl rfl rfl (fun cs1 hcs => by obtain ⟨g1, rc1, hcs, -⟩ := hcs; rw [hcs]; rfl) ?_
  intro cs1 hcs
  obtain ⟨g1, rc1, hcs, hr1, hg1⟩ := hcs
  subst hcs
  refine EV.ceq (cs' := wFF a q1 q2 q3 q4 q5 z g1 rc1 F P) (eMrg_twoE' (A := [wO (a 1) q1 q2 q3 (a 11) q4 q5 z]) (S := wFl (fun k => a (1 + k)) F P) (B := []) (T := [.inr (3, [.ref (a 12), .ref (a 13)]), eI 0 10 g, eI 0 10 rc]) (S' := wFl (fun k => a (1 + k)) F P) (T' := [.inr (3, [.ref (a 12), .ref (a 13)]), eI 0 10 g1, eI 0 10 rc1]) rfl rfl rfl rfl rfl rfl rfl) ?_
  exact e_iret dX6_formationOf_17 rfl rfl ⟨rfl, rfl, g1, rc1, rfl, hr1, hg1⟩
