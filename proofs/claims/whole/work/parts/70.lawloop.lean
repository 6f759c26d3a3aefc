/-! ===== the law: a step, the loop ===== -/
set_option maxHeartbeats 4000000 in
theorem law_step {X : eXT} {a : Nat → Nat} {bb L : Nat} {xs : Nat → Int32} {b b' : Nat × Nat} {i N : Int} {z : Nat → Int} {ln : Int → Int} {F : eFs} {P : Int → Int} {D : eFs} {DQ : Int → Int} {S : eFs} {SP : Int → Int} {c n : Int} {h : eHs} {g rc : Int → Int} {T : eFs} {Mt : Int → Int → Int} {M : eFs} {o : Int → Int} {od : Nat → UInt64} (hX : X.2 = some (bb, L, xs)) (hL : L ≤ 2147483647) (hi : 0 ≤ i ∧ i + 4 ≤ L) (hb : 2 + b'.1 ≤ b.1 ∧ 12 + b'.2 ≤ b.2) (hN : N + 2400 ≤ 90000000) (hs : SIM N z ln F S c n h g rc T Mt M) (kk : lG X a bb (N + 2400) i b') :
    EV (lK X) a b (wA a z ln F P D DQ S SP c n h g rc T Mt [] ++ (wM (fun k => a (131 + k)) M ++ [eJ 1 1 o, eDd 1 od])) 37 (lLs a bb i) [] := by
  refine e_aload_n (K := lK X) (i := 0) (n := 38) dL_law_37 rfl rfl ?_
  refine e_iload (K := lK X) (n := 40) dL_law_38 rfl rfl ?_
  refine e_slv (K := lK X) (n := 41) hX dL_law_40 rfl (by omega) hL ?_
  refine e_bipush (K := lK X) (n := 43) dL_law_41 rfl rfl ?_
  refine e_iand (K := lK X) (n := 44) dL_law_43 rfl ?_
  have r := bAnd_rng (x := sc xs i) (y := 63)
  generalize hv : bAnd (sc xs i) 63 = v at r ⊢
  by_cases q : v < 0 ∨ 53 < v
  · refine e_tabOut (K := lK X) (t := 2629) dL_law_44 r q (by decide) ?_
    exact EV.bud (b' := b') (by omega) (kk _ _ _ _ _ _ _ _ _ _ _ _ _ _ _ _ _ _ (SIM_up hs (by omega) hN))
  · rcases (show v = 0 ∨ v = 1 ∨ v = 2 ∨ v = 3 ∨ v = 4 ∨ v = 5 ∨ v = 6 ∨ v = 7 ∨ v = 8 ∨ v = 9 ∨ v = 10 ∨ v = 11 ∨ v = 12 ∨ v = 13 ∨ v = 14 ∨ v = 15 ∨ v = 16 ∨ v = 17 ∨ v = 18 ∨ v = 19 ∨ v = 20 ∨ v = 21 ∨ v = 22 ∨ v = 23 ∨ v = 24 ∨ v = 25 ∨ v = 26 ∨ v = 27 ∨ v = 28 ∨ v = 29 ∨ v = 30 ∨ v = 31 ∨ v = 32 ∨ v = 33 ∨ v = 34 ∨ v = 35 ∨ v = 36 ∨ v = 37 ∨ v = 38 ∨ v = 39 ∨ v = 40 ∨ v = 41 ∨ v = 42 ∨ v = 43 ∨ v = 44 ∨ v = 45 ∨ v = 46 ∨ v = 47 ∨ v = 48 ∨ v = 49 ∨ v = 50 ∨ v = 51 ∨ v = 52 ∨ v = 53 by omega) with e | e | e | e | e | e | e | e | e | e | e | e | e | e | e | e | e | e | e | e | e | e | e | e | e | e | e | e | e | e | e | e | e | e | e | e | e | e | e | e | e | e | e | e | e | e | e | e | e | e | e | e | e | e <;> subst e
    · exact e_tabIn (K := lK X) (x := 0) (t := 276) dL_law_44 (by decide) (by decide) (by decide) rfl rfl (LC_addBasket hX hL hi hb hN hs kk)
    · exact e_tabIn (K := lK X) (x := 1) (t := 356) dL_law_44 (by decide) (by decide) (by decide) rfl rfl (LC_jump hX hL hi hb hN hs kk)
    · exact e_tabIn (K := lK X) (x := 2) (t := 436) dL_law_44 (by decide) (by decide) (by decide) rfl rfl (LC_setHandle hX hL hi hb hN hs kk)
    · exact e_tabIn (K := lK X) (x := 3) (t := 504) dL_law_44 (by decide) (by decide) (by decide) rfl rfl (LC_basketCount hX hL hi hb hN hs kk)
    · exact e_tabIn (K := lK X) (x := 4) (t := 517) dL_law_44 (by decide) (by decide) (by decide) rfl rfl (LC_xOf hX hL hi hb hN hs kk)
    · exact e_tabIn (K := lK X) (x := 5) (t := 573) dL_law_44 (by decide) (by decide) (by decide) rfl rfl (LC_yOf hX hL hi hb hN hs kk)
    · exact e_tabIn (K := lK X) (x := 6) (t := 629) dL_law_44 (by decide) (by decide) (by decide) rfl rfl (LC_handleOf hX hL hi hb hN hs kk)
    · exact e_tabIn (K := lK X) (x := 7) (t := 685) dL_law_44 (by decide) (by decide) (by decide) rfl rfl (LC_basketAt hX hL hi hb hN hs kk)
    · exact e_tabIn (K := lK X) (x := 8) (t := 753) dL_law_44 (by decide) (by decide) (by decide) rfl rfl (LC_distance hX hL hi hb hN hs kk)
    · exact e_tabIn (K := lK X) (x := 9) (t := 821) dL_law_44 (by decide) (by decide) (by decide) rfl rfl (LC_nearestTo hX hL hi hb hN hs kk)
    · exact e_tabIn (K := lK X) (x := 10) (t := 877) dL_law_44 (by decide) (by decide) (by decide) rfl rfl (LC_refusalReason hX hL hi hb hN hs kk)
    · exact e_tabIn (K := lK X) (x := 11) (t := 921) dL_law_44 (by decide) (by decide) (by decide) rfl rfl (LC_refusalDetail hX hL hi hb hN hs kk)
    · exact e_tabIn (K := lK X) (x := 12) (t := 965) dL_law_44 (by decide) (by decide) (by decide) rfl rfl (LC_addCloud hX hL hi hb hN hs kk)
    · exact e_tabIn (K := lK X) (x := 13) (t := 1033) dL_law_44 (by decide) (by decide) (by decide) rfl rfl (LC_removeCloud hX hL hi hb hN hs kk)
    · exact e_tabIn (K := lK X) (x := 14) (t := 1101) dL_law_44 (by decide) (by decide) (by decide) rfl rfl (LC_isCloud hX hL hi hb hN hs kk)
    · exact e_tabIn (K := lK X) (x := 15) (t := 1176) dL_law_44 (by decide) (by decide) (by decide) rfl rfl (LC_cloudCount hX hL hi hb hN hs kk)
    · exact e_tabIn (K := lK X) (x := 16) (t := 1189) dL_law_44 (by decide) (by decide) (by decide) rfl rfl (LC_setTurnLength hX hL hi hb hN hs kk)
    · exact e_tabIn (K := lK X) (x := 17) (t := 1245) dL_law_44 (by decide) (by decide) (by decide) rfl rfl (LC_turnLength hX hL hi hb hN hs kk)
    · exact e_tabIn (K := lK X) (x := 18) (t := 1258) dL_law_44 (by decide) (by decide) (by decide) rfl rfl (LC_leader hX hL hi hb hN hs kk)
    · exact e_tabIn (K := lK X) (x := 19) (t := 1302) dL_law_44 (by decide) (by decide) (by decide) rfl rfl (LC_leaderAfter hX hL hi hb hN hs kk)
    · exact e_tabIn (K := lK X) (x := 20) (t := 1358) dL_law_44 (by decide) (by decide) (by decide) rfl rfl (LC_leaderAfterByCounting hX hL hi hb hN hs kk)
    · exact e_tabIn (K := lK X) (x := 21) (t := 1414) dL_law_44 (by decide) (by decide) (by decide) rfl rfl (LC_setTarget hX hL hi hb hN hs kk)
    · exact e_tabIn (K := lK X) (x := 22) (t := 1482) dL_law_44 (by decide) (by decide) (by decide) rfl rfl (LC_targetX hX hL hi hb hN hs kk)
    · exact e_tabIn (K := lK X) (x := 23) (t := 1526) dL_law_44 (by decide) (by decide) (by decide) rfl rfl (LC_targetY hX hL hi hb hN hs kk)
    · exact e_tabIn (K := lK X) (x := 24) (t := 1570) dL_law_44 (by decide) (by decide) (by decide) rfl rfl (LC_stepsToTarget hX hL hi hb hN hs kk)
    · exact e_tabIn (K := lK X) (x := 25) (t := 1614) dL_law_44 (by decide) (by decide) (by decide) rfl rfl (LC_setKeep hX hL hi hb hN hs kk)
    · exact e_tabIn (K := lK X) (x := 26) (t := 1670) dL_law_44 (by decide) (by decide) (by decide) rfl rfl (LC_keep hX hL hi hb hN hs kk)
    · exact e_tabIn (K := lK X) (x := 27) (t := 1683) dL_law_44 (by decide) (by decide) (by decide) rfl rfl (LC_advance hX hL hi hb hN hs kk)
    · exact e_tabIn (K := lK X) (x := 28) (t := 1739) dL_law_44 (by decide) (by decide) (by decide) rfl rfl (LC_stepCount hX hL hi hb hN hs kk)
    · exact e_tabIn (K := lK X) (x := 29) (t := 1752) dL_law_44 (by decide) (by decide) (by decide) rfl rfl (LC_movesOf hX hL hi hb hN hs kk)
    · exact e_tabIn (K := lK X) (x := 30) (t := 1808) dL_law_44 (by decide) (by decide) (by decide) rfl rfl (LC_moveTotal hX hL hi hb hN hs kk)
    · exact e_tabIn (K := lK X) (x := 31) (t := 1822) dL_law_44 (by decide) (by decide) (by decide) rfl rfl (LC_waitTotal hX hL hi hb hN hs kk)
    · exact e_tabIn (K := lK X) (x := 32) (t := 1835) dL_law_44 (by decide) (by decide) (by decide) rfl rfl (LC_formationCount hX hL hi hb hN hs kk)
    · exact e_tabIn (K := lK X) (x := 33) (t := 1848) dL_law_44 (by decide) (by decide) (by decide) rfl rfl (LC_formationCountByMerging hX hL hi hb hN hs kk)
    · exact e_tabIn (K := lK X) (x := 34) (t := 1861) dL_law_44 (by decide) (by decide) (by decide) rfl rfl (LC_largestFormation hX hL hi hb hN hs kk)
    · exact e_tabIn (K := lK X) (x := 35) (t := 1874) dL_law_44 (by decide) (by decide) (by decide) rfl rfl (LC_formationOf hX hL hi hb hN hs kk)
    · exact e_tabIn (K := lK X) (x := 36) (t := 1930) dL_law_44 (by decide) (by decide) (by decide) rfl rfl (LC_mixedPairs hX hL hi hb hN hs kk)
    · exact e_tabIn (K := lK X) (x := 37) (t := 1943) dL_law_44 (by decide) (by decide) (by decide) rfl rfl (LC_mixedPairsByHandles hX hL hi hb hN hs kk)
    · exact e_tabIn (K := lK X) (x := 38) (t := 1956) dL_law_44 (by decide) (by decide) (by decide) rfl rfl (LC_shapeCount hX hL hi hb hN hs kk)
    · exact e_tabIn (K := lK X) (x := 39) (t := 1969) dL_law_44 (by decide) (by decide) (by decide) rfl rfl (LC_differentShapes hX hL hi hb hN hs kk)
    · exact e_tabIn (K := lK X) (x := 40) (t := 1982) dL_law_44 (by decide) (by decide) (by decide) rfl rfl (LC_stepsSinceShape hX hL hi hb hN hs kk)
    · exact e_tabIn (K := lK X) (x := 41) (t := 2026) dL_law_44 (by decide) (by decide) (by decide) rfl rfl (LC_basketAtRank hX hL hi hb hN hs kk)
    · exact e_tabIn (K := lK X) (x := 42) (t := 2082) dL_law_44 (by decide) (by decide) (by decide) rfl rfl (LC_append hX hL hi hb hN hs kk)
    · exact e_tabIn (K := lK X) (x := 43) (t := 2140) dL_law_44 (by decide) (by decide) (by decide) rfl rfl (LC_run hX hL hi hb hN hs kk)
    · exact e_tabIn (K := lK X) (x := 44) (t := 2184) dL_law_44 (by decide) (by decide) (by decide) rfl rfl (LC_errorPosition hX hL hi hb hN hs kk)
    · exact e_tabIn (K := lK X) (x := 45) (t := 2228) dL_law_44 (by decide) (by decide) (by decide) rfl rfl (LC_failedCommand hX hL hi hb hN hs kk)
    · exact e_tabIn (K := lK X) (x := 46) (t := 2272) dL_law_44 (by decide) (by decide) (by decide) rfl rfl (LC_describeRow hX hL hi hb hN hs kk)
    · exact e_tabIn (K := lK X) (x := 47) (t := 2328) dL_law_44 (by decide) (by decide) (by decide) rfl rfl (LC_lineAt hX hL hi hb hN hs kk)
    · exact e_tabIn (K := lK X) (x := 48) (t := 2384) dL_law_44 (by decide) (by decide) (by decide) rfl rfl (LC_meanDistance hX hL hi hb hN hs kk)
    · exact e_tabIn (K := lK X) (x := 49) (t := 2449) dL_law_44 (by decide) (by decide) (by decide) rfl rfl (LC_mixedShare hX hL hi hb hN hs kk)
    · exact e_tabIn (K := lK X) (x := 50) (t := 2515) dL_law_44 (by decide) (by decide) (by decide) rfl rfl (LC_isConsistent hX hL hi hb hN hs kk)
    · exact e_tabIn (K := lK X) (x := 51) (t := 2528) dL_law_44 (by decide) (by decide) (by decide) rfl rfl (LC_undo hX hL hi hb hN hs kk)
    · exact e_tabIn (K := lK X) (x := 52) (t := 2572) dL_law_44 (by decide) (by decide) (by decide) rfl rfl (LC_save hX hL hi hb hN hs kk)
    · exact e_tabIn (K := lK X) (x := 53) (t := 2585) dL_law_44 (by decide) (by decide) (by decide) rfl rfl (LC_restore hX hL hi hb hN hs kk)
theorem law_loop {X : eXT} {a : Nat → Nat} {bb L : Nat} {xs : Nat → Int32} (hX : X.2 = some (bb, L, xs)) (hL : L ≤ 2147483647) : ∀ (r : Nat) {b : Nat × Nat} {i N : Int} {z : Nat → Int} {ln : Int → Int} {F : eFs} {P : Int → Int} {D : eFs} {DQ : Int → Int} {S : eFs} {SP : Int → Int} {c n : Int} {h : eHs} {g rc : Int → Int} {T : eFs} {Mt : Int → Int → Int} {M : eFs} {o : Int → Int} {od : Nat → UInt64} (_ : ((L : Int) - i).toNat = r) (_ : 0 ≤ i ∧ i ≤ 2147483647) (_ : N + 2400 * r ≤ 90000000) (_ : 2 * r ≤ b.1 ∧ 12 * r ≤ b.2) (_ : SIM N z ln F S c n h g rc T Mt M),
    EV (lK X) a b (wA a z ln F P D DQ S SP c n h g rc T Mt [] ++ (wM (fun k => a (131 + k)) M ++ [eJ 1 1 o, eDd 1 od])) 28 (lLs a bb i) [] := by
  intro r
  induction r using Nat.strongRecOn with
  | _ r ih =>
  intro b i N z ln F P D DQ S SP c n h g rc T Mt M o od hr hi hN hb hs
  refine e_iload (K := lK X) (n := 30) dL_law_28 rfl rfl ?_
  refine e_aload_n (K := lK X) (i := 0) (n := 31) dL_law_30 rfl rfl ?_
  refine e_slen (K := lK X) (n := 32) hX hL dL_law_31 rfl ?_
  refine e_iconst (K := lK X) (n := 33) dL_law_32 rfl ?_
  refine e_isub (K := lK X) (n := 34) dL_law_33 rfl ?_
  refine e_icmp_gt (K := lK X) (t := 2635) (n := 37) dL_law_34 (by decide) rfl (by omega) (by omega) (fun q => ?_) (fun q => ?_)
  · refine e_iconst (K := lK X) (n := 2636) dL_law_2635 rfl ?_
    exact e_iret (K := lK X) dL_law_2636 rfl rfl rfl
  · refine law_step (b' := (b.1 - 2, b.2 - 12)) hX hL (by omega) ⟨(show 2 + (b.1 - 2) ≤ b.1 by omega), (show 12 + (b.2 - 12) ≤ b.2 by omega)⟩ (by omega) hs ?_
    intro z ln F P D DQ S SP c n h g rc T Mt M o od hs2
    refine f_iinc (K := lK X) (i := 5) (x := i) (v := 4) (n := 2632) dL_law_2629 rfl rfl (Nat.le_of_ble_eq_true rfl) rfl ?_
    refine e_goto (K := lK X) (n := 28) dL_law_2632 (by decide) ?_
    exact ih ((L : Int) - (i + 4)).toNat (by omega) (i := i + 4) rfl (by omega) (by omega) ⟨(show 2 * ((L : Int) - (i + 4)).toNat ≤ b.1 - 2 by omega), (show 12 * ((L : Int) - (i + 4)).toNat ≤ b.2 - 12 by omega)⟩ hs2
