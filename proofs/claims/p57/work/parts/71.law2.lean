/-! ===== the law: each basket beside the others ===== -/
theorem nrV_r {F : eFs} {b k z : Int} (e : sNrC F b k z) (hk : k ≤ 10) : -30000 ≤ nrV z ∧ nrV z ≤ 10 := by
  unfold nrV
  rcases e with ⟨-, e⟩ | ⟨e1, e2, -⟩
  · rw [if_pos e]; omega
  · rw [if_neg (by omega)]; omega
set_option maxHeartbeats 4000000 in
theorem S_3 {X : eXT} {a : Nat → Nat} {b : Nat × Nat} {N : Int} {F : eFs} {u : eUs} {q0 bb : Nat} {turn : Int} (hF : okF N F) (hn : 1 ≤ F.1 0 ∧ F.1 0 ≤ 9) (h0 : q0 = a 0) {gq : Nat} (hg : gq = a 131)
    (hA : okA F) (hu : okU u) {b1 : Nat × Nat} (hb : b1.1 + 18 ≤ b.1 ∧ b1.2 + 108 ≤ b.2)
    (kk : ∀ (u2 : eUs), okU u2 → EV (lK X) a b1 (wB a F u2 []) 584 [some (.ref bb), some (.ref q0), some (vi turn), some (vi (F.1 0)), some (vi (F.1 1)), some (vi (sSumD F)), some (vi (sPrs F)), some (vi (sMix F)), some (vi (sFor F)), some (vi (sLrg F)), some (vi 0), some (vi (F.1 6)), some (vl (sSumM F)), none, none, none, none, none, none, none, none] []) :
    EV (lK X) a b (wB a F u [eI 0 (F.1 0).toNat (sGr F)]) 161 [some (.ref bb), some (.ref q0), some (vi turn), some (vi (F.1 0)), some (vi (F.1 1)), some (vi 0), some (vi 0), some (vi 0), some (vi 0), some (vi 0), some (vi 0), some (vi (F.1 6)), some (vl 0), none, some (.ref gq), none, none, none, none, none, none] [] := by
  have hF9 := hF
  obtain ⟨hc, hld, hled, htn, hgo, hkp, hst, hwt, hcl, hsh, hnx, hN, rx, ry, rh, rm, rcl, rw9⟩ := hF9
  have hl9 : sHas F (F.1 1) := ⟨by omega, by omega⟩
  refine e_iconst dL_law_161 rfl ?_
  refine f_istore dL_law_162 rfl (Nat.le_of_ble_eq_true rfl) rfl ?_
  have hL164 : ∀ (k164 : Nat) (k sm lk mx fo la mv : Int) (u : eUs) (b : Nat × Nat) (hk164 : (F.1 0 - k).toNat = k164) (g164 : 0 ≤ k ∧ k ≤ F.1 0) (u164 : okU u) (b164 : b1.1 + 2 * (9 - k).toNat ≤ b.1 ∧ b1.2 + 12 * (9 - k).toNat ≤ b.2) (s164 : sm + eSB (fun i => sDD F i (F.1 1)) (F.1 0) k = sSumD F) (l164 : lk + eSB (lLk F) (F.1 0) k = sPrs F) (m164 : mx + eSB (lMx F) (F.1 0) k = sMix F) (f164 : fo + eCB (fun i => sGr F i = i) (F.1 0) k = sFor F) (x164 : sMax (lMn F) (F.1 0 - k).toNat k la = sLrg F) (v164 : mv + eSB (fun i => F.2 3 i) (F.1 0) k = sSumM F) (r164 : (0 ≤ sm ∧ sm ≤ 62 * k) ∧ (0 ≤ lk ∧ lk ≤ 10 * k) ∧ (0 ≤ mx ∧ mx ≤ 10 * k) ∧ (0 ≤ fo ∧ fo ≤ k) ∧ (0 ≤ la ∧ la ≤ 10)), EV (lK X) a b (wB a F u [eI 0 (F.1 0).toNat (sGr F)]) 164 [some (.ref bb), some (.ref q0), some (vi turn), some (vi (F.1 0)), some (vi (F.1 1)), some (vi sm), some (vi lk), some (vi mx), some (vi fo), some (vi la), some (vi 0), some (vi (F.1 6)), some (vl mv), none, some (.ref gq), some (vi k), none, none, none, none, none] [] := by
    intro k164
    induction k164 using Nat.strongRecOn with
    | _ k164 ih164 =>
    intro k sm lk mx fo la mv u b hk164 g164 u164 b164 s164 l164 m164 f164 x164 v164 r164
    refine e_iload dL_law_164 rfl rfl ?_
    refine e_iload_n dL_law_166 rfl rfl ?_
    refine e_icmp_ge (t := 584) dL_law_167 rfl rfl (by omega) (by omega) (fun h167 => ?_) (fun h167 => ?_)
    · have e0 : k = F.1 0 := by omega
      subst e0
      rw [eSB_end (Int.le_refl _)] at s164 l164 m164 v164
      rw [eCB_end (Int.le_refl _)] at f164
      rw [sMax_end (Int.le_refl _)] at x164
      have e1 : sm = sSumD F := by omega
      have e2 : lk = sPrs F := by omega
      have e3 : mx = sMix F := by omega
      have e4 : fo = sFor F := by omega
      have e5 : mv = sSumM F := by omega
      subst e1; subst e2; subst e3; subst e4; subst x164; subst e5
      refine EV.fewer (b1 := b1) ⟨by omega, by omega⟩ ?_
      refine EV.fgt 14 ?_
      refine EV.fgt 15 ?_
      refine EV.fgt 16 ?_
      refine EV.fgt 17 ?_
      refine EV.fgt 18 ?_
      refine EV.fgt 19 ?_
      refine EV.fgt 20 ?_
      refine EV.ceq wB_nil (EV.less ?_)
      exact kk u u164
    · have hk9 : sHas F k := ⟨by omega, by omega⟩
      have gk := (sGr_in hk9).1
      have ddk := sDD_in hF k (F.1 1)
      have hin9 : sIn (F.2 0 k) (F.2 1 k) := by have := rx k; have := ry k; omega
      have xk := rx k
      have yk := ry k
      have mk := rm k
      have hk8 := rh k
      have rk9 := sRk_in hk9
      have qm := lMn_in (F := F) (by omega) k
      have ql := lLk_in (F := F) (by omega) k
      have qx0 := lMx_in (F := F) (by omega) k
      refine e_sipush dL_law_170 rfl rfl ?_
      refine f_istore dL_law_173 rfl (Nat.le_of_ble_eq_true rfl) rfl ?_
      refine e_iconst dL_law_175 rfl ?_
      refine f_istore dL_law_176 rfl (Nat.le_of_ble_eq_true rfl) rfl ?_
      refine e_iconst dL_law_178 rfl ?_
      refine f_istore dL_law_179 rfl (Nat.le_of_ble_eq_true rfl) rfl ?_
      refine e_iconst dL_law_181 rfl ?_
      refine f_istore dL_law_182 rfl (Nat.le_of_ble_eq_true rfl) rfl ?_
      have hL184 : ∀ (k184 : Nat) (j z lk2 mx2 mn ah : Int) (hk184 : (F.1 0 - j).toNat = k184) (g184 : 0 ≤ j ∧ j ≤ F.1 0) (n184 : sNrC F k j z) (l184 : lk2 + eCB (fun i => i < k ∧ sLk F k i) (F.1 0) j = lk + lLk F k) (m184 : mx2 + eCB (fun i => i < k ∧ (sLk F k i ∧ ¬ F.2 2 i = F.2 2 k)) (F.1 0) j = mx + lMx F k) (w184 : mn + eCB (fun i => sGr F i = sGr F k) (F.1 0) j = lMn F k) (a184 : ah + eCB (fun i => sBfr F i k) (F.1 0) j = sRk F k) (r184 : (0 ≤ lk2 ∧ lk2 ≤ 10 * k + j) ∧ (0 ≤ mx2 ∧ mx2 ≤ 10 * k + j) ∧ (0 ≤ mn ∧ mn ≤ j) ∧ (0 ≤ ah ∧ ah ≤ j)), EV (lK X) a b (wB a F u [eI 0 (F.1 0).toNat (sGr F)]) 184 [some (.ref bb), some (.ref q0), some (vi turn), some (vi (F.1 0)), some (vi (F.1 1)), some (vi sm), some (vi lk2), some (vi mx2), some (vi fo), some (vi la), some (vi 0), some (vi (F.1 6)), some (vl mv), none, some (.ref gq), some (vi k), some (vi (nrV z)), some (vi mn), some (vi ah), some (vi j), none] [] := by
        intro k184
        induction k184 using Nat.strongRecOn with
        | _ k184 ih184 =>
        intro j z lk2 mx2 mn ah hk184 g184 n184 l184 m184 w184 a184 r184
        refine e_iload dL_law_184 rfl rfl ?_
        refine e_iload_n dL_law_186 rfl rfl ?_
        refine e_icmp_ge (t := 437) dL_law_187 rfl rfl (by omega) (by omega) (fun h187 => ?_) (fun h187 => ?_)
        · have nz := nrV_r n184 (by omega)
          have z9 := near_e ⟨by omega, by omega⟩ (by omega) n184
          have e1 : j = F.1 0 := by omega
          subst e1
          rw [eCB_end (Int.le_refl _)] at l184 m184 w184 a184
          have l9 : lk2 = lk + lLk F k := by omega
          have m9 : mx2 = mx + lMx F k := by omega
          have w9 : mn = lMn F k := by omega
          have a9 : ah = sRk F k := by omega
          subst z9; subst l9; subst m9; subst w9; subst a9
          refine e_aload_n dL_law_437 rfl rfl ?_
          refine e_iload dL_law_438 rfl rfl ?_
          refine e_obsH (av := [.ref (a 0), vi k]) (rest := []) lk_L_149 (by decide) dL_law_440 rfl (W_nearestTo hF hk9) (by rw [h0]; rfl) rfl (Nat.le_of_ble_eq_true rfl) (Nat.le_of_ble_eq_true rfl) (Nat.le_of_ble_eq_true rfl) (b.1 - 2, b.2 - 12) ⟨(by show 2 + (b.1 - 2) ≤ _; omega), (by show 12 + (b.2 - 12) ≤ _; omega)⟩ ?_
          refine EV.eq (st' := [vi (nrV (sNear F k))]) rfl ?_
          refine e_iload dL_law_443 rfl rfl ?_
          refine e_icmp_ne (t := 522) dL_law_445 rfl rfl (by omega) (by omega) (fun h445 => ?_) (fun h445 => ?_)
          · exact absurd rfl h445
          · refine e_aload_n dL_law_448 rfl rfl ?_
            refine e_iload dL_law_449 rfl rfl ?_
            refine e_frm lk_L_151 rfl dL_law_451 rfl (N_X6_formationOf hF u164.2.2.2.1 u164.2.2.2.2 hk9) h0 rfl rfl (Nat.le_of_ble_eq_true rfl) (Nat.le_of_ble_eq_true rfl) (Nat.le_of_ble_eq_true rfl) ⟨rfl, rfl⟩ rfl u164 (fun u5 hu5 => ?_)
            refine e_aload dL_law_454 rfl rfl ?_
            refine e_iload dL_law_456 rfl rfl ?_
            refine e_gld dL_law_458 rfl hg (by omega) (by omega) ?_
            refine e_icmp_ne (t := 522) dL_law_459 rfl rfl (by omega) (by omega) (fun h459 => ?_) (fun h459 => ?_)
            · exact absurd rfl h459
            · refine e_aload_n dL_law_462 rfl rfl ?_
              refine e_iload dL_law_463 rfl rfl ?_
              refine e_obs lk_L_71 rfl dL_law_465 rfl (N_X6_basketAtRank hF (by omega) (by rw [sWithRk_at hk9]; omega)) h0 rfl rfl (Nat.le_of_ble_eq_true rfl) (Nat.le_of_ble_eq_true rfl) (Nat.le_of_ble_eq_true rfl) ⟨rfl, rfl⟩ rfl ?_
              refine EV.eq (st' := [vi k]) (by rw [sWithRk_at hk9]) ?_
              refine e_iload dL_law_468 rfl rfl ?_
              refine e_icmp_ne (t := 522) dL_law_470 rfl rfl (by omega) (by omega) (fun h470 => ?_) (fun h470 => ?_)
              · exact absurd rfl h470
              · refine e_aload_n dL_law_473 rfl rfl ?_
                refine e_aload_n dL_law_474 rfl rfl ?_
                refine e_iload dL_law_475 rfl rfl ?_
                refine e_obs lk_L_137 rfl dL_law_477 rfl (N_X6_xOf hF hk9) h0 rfl rfl (Nat.le_of_ble_eq_true rfl) (Nat.le_of_ble_eq_true rfl) (Nat.le_of_ble_eq_true rfl) ⟨rfl, rfl⟩ rfl ?_
                refine e_aload_n dL_law_480 rfl rfl ?_
                refine e_iload dL_law_481 rfl rfl ?_
                refine e_obs lk_L_143 rfl dL_law_483 rfl (N_X6_yOf hF hk9) h0 rfl rfl (Nat.le_of_ble_eq_true rfl) (Nat.le_of_ble_eq_true rfl) (Nat.le_of_ble_eq_true rfl) ⟨rfl, rfl⟩ rfl ?_
                refine e_obs lk_L_154 rfl dL_law_486 rfl (N_X6_isCloud hF hin9) h0 rfl rfl (Nat.le_of_ble_eq_true rfl) (Nat.le_of_ble_eq_true rfl) (Nat.le_of_ble_eq_true rfl) ⟨rfl, rfl⟩ rfl ?_
                refine e_ifb_ne (t := 522) dL_law_489 rfl rfl (fun h489 => ?_) (fun h489 => ?_)
                · exact absurd h489 (hA.2 k hk9)
                · refine e_aload_n dL_law_492 rfl rfl ?_
                  refine e_aload_n dL_law_493 rfl rfl ?_
                  refine e_iload dL_law_494 rfl rfl ?_
                  refine e_obs lk_L_137 rfl dL_law_496 rfl (N_X6_xOf hF hk9) h0 rfl rfl (Nat.le_of_ble_eq_true rfl) (Nat.le_of_ble_eq_true rfl) (Nat.le_of_ble_eq_true rfl) ⟨rfl, rfl⟩ rfl ?_
                  refine e_aload_n dL_law_499 rfl rfl ?_
                  refine e_iload dL_law_500 rfl rfl ?_
                  refine e_obs lk_L_143 rfl dL_law_502 rfl (N_X6_yOf hF hk9) h0 rfl rfl (Nat.le_of_ble_eq_true rfl) (Nat.le_of_ble_eq_true rfl) (Nat.le_of_ble_eq_true rfl) ⟨rfl, rfl⟩ rfl ?_
                  refine e_obs lk_L_34 rfl dL_law_505 rfl (N_X6_basketAt hF hin9 (by rw [sAt_own hA hk9]; omega)) h0 rfl rfl (Nat.le_of_ble_eq_true rfl) (Nat.le_of_ble_eq_true rfl) (Nat.le_of_ble_eq_true rfl) ⟨rfl, rfl⟩ rfl ?_
                  refine EV.eq (st' := [vi k]) (by rw [sAt_own hA hk9]) ?_
                  refine e_iload dL_law_508 rfl rfl ?_
                  refine e_icmp_ne (t := 522) dL_law_510 rfl rfl (by omega) (by omega) (fun h510 => ?_) (fun h510 => ?_)
                  · exact absurd rfl h510
                  · refine e_aload_n dL_law_513 rfl rfl ?_
                    refine e_iload dL_law_514 rfl rfl ?_
                    refine e_obs lk_L_158 rfl dL_law_516 rfl (N_X6_movesOf hF hk9) h0 rfl rfl (Nat.le_of_ble_eq_true rfl) (Nat.le_of_ble_eq_true rfl) (Nat.le_of_ble_eq_true rfl) ⟨rfl, rfl⟩ rfl ?_
                    refine e_if_ge (t := 524) dL_law_519 rfl rfl (by omega) (fun h519 => ?_) (fun h519 => ?_)
                    · have hJ541 : ∀ (x5 : Int) (x541 : x5 = eI1 (sGr F k = k)), EV (lK X) a (b.1 - 2, b.2 - 12) (wB a F u5 [eI 0 (F.1 0).toNat (sGr F)]) 541 [some (.ref bb), some (.ref q0), some (vi turn), some (vi (F.1 0)), some (vi (F.1 1)), some (vi sm), some (vi (lk + lLk F k)), some (vi (mx + lMx F k)), some (vi fo), some (vi la), some (vi 0), some (vi (F.1 6)), some (vl mv), none, some (.ref gq), some (vi k), some (vi (nrV (sNear F k))), some (vi (lMn F k)), some (vi (sRk F k)), none, none] [vi x5, vi fo] := by
                        intro x5 x541
                        have qz := eI1_b (c := sGr F k = k)
                        refine e_iadd dL_law_541 rfl ?_
                        refine f_istore dL_law_542 rfl (Nat.le_of_ble_eq_true rfl) rfl ?_
                        refine e_iload dL_law_544 rfl rfl ?_
                        refine e_iload dL_law_546 rfl rfl ?_
                        refine e_max ma_L_161 dL_law_548 rfl (Nat.le_of_ble_eq_true rfl) (Nat.le_of_ble_eq_true rfl) (by omega) (by omega) ?_
                        refine f_istore dL_law_551 rfl (Nat.le_of_ble_eq_true rfl) rfl ?_
                        refine e_iload dL_law_553 rfl rfl ?_
                        refine e_aload_n dL_law_555 rfl rfl ?_
                        refine e_iload dL_law_556 rfl rfl ?_
                        refine e_iload dL_law_558 rfl rfl ?_
                        refine e_obs lk_L_129 rfl dL_law_560 rfl (N_X6_distance hF hk9 hl9) h0 rfl rfl (Nat.le_of_ble_eq_true rfl) (Nat.le_of_ble_eq_true rfl) (Nat.le_of_ble_eq_true rfl) ⟨rfl, rfl⟩ rfl ?_
                        refine e_iadd dL_law_563 rfl ?_
                        refine f_istore dL_law_564 rfl (Nat.le_of_ble_eq_true rfl) rfl ?_
                        refine e_lload dL_law_566 rfl rfl ?_
                        refine e_aload_n dL_law_568 rfl rfl ?_
                        refine e_iload dL_law_569 rfl rfl ?_
                        refine e_obs lk_L_158 rfl dL_law_571 rfl (N_X6_movesOf hF hk9) h0 rfl rfl (Nat.le_of_ble_eq_true rfl) (Nat.le_of_ble_eq_true rfl) (Nat.le_of_ble_eq_true rfl) ⟨rfl, rfl⟩ rfl ?_
                        refine e_i2l dL_law_574 rfl (by omega) ?_
                        refine e_ladd dL_law_575 rfl ?_
                        refine f_lstore dL_law_576 rfl (Nat.le_of_ble_eq_true rfl) rfl ?_
                        refine f_iinc dL_law_578 rfl rfl (Nat.le_of_ble_eq_true rfl) rfl ?_
                        refine e_goto (n := 164) dL_law_581 rfl ?_
                        refine EV.fgt 13 ?_
                        refine EV.fgt 16 ?_
                        refine EV.fgt 17 ?_
                        refine EV.fgt 18 ?_
                        refine EV.fgt 19 ?_
                        refine EV.fgt 20 ?_
                        exact ih164 _ (by omega) (k + 1) (sm + sDD F k (F.1 1)) (lk + lLk F k) (mx + lMx F k) (fo + x5) (if la < lMn F k then lMn F k else la) (mv + F.2 3 k) u5 (b.1 - 2, b.2 - 12) rfl (by omega) hu5 (by show b1.1 + 2 * (9 - (k + 1)).toNat ≤ b.1 - 2 ∧ b1.2 + 12 * (9 - (k + 1)).toNat ≤ b.2 - 12; omega) (by have q := eSB_go (f := fun i => sDD F i (F.1 1)) (n := F.1 0) (i := k) (by omega); (try dsimp only at q); omega) (by have q := eSB_go (f := lLk F) (n := F.1 0) (i := k) (by omega); omega) (by have q := eSB_go (f := lMx F) (n := F.1 0) (i := k) (by omega); omega) (by have q := eCB_go (P := fun i => sGr F i = i) (n := F.1 0) (i := k) (by omega); omega) (by rw [← x164]; exact (sMax_go (f := lMn F) (n := F.1 0) (i := k) (m := la) (by omega)).symm) (by have q := eSB_go (f := fun i => F.2 3 i) (n := F.1 0) (i := k) (by omega); (try dsimp only at q); omega) (by have q1 := lLk_in (F := F) (by omega) k; have q2 := lMx_in (F := F) (by omega) k; have q3 := lMn_in (F := F) (by omega) k; have q4 := eI1_b (c := sGr F k = k); refine ⟨by omega, by omega, by omega, by omega, ?_⟩; split <;> omega)
                      refine e_iload dL_law_524 rfl rfl ?_
                      refine e_aload dL_law_526 rfl rfl ?_
                      refine e_iload dL_law_528 rfl rfl ?_
                      refine e_gld dL_law_530 rfl hg (by omega) (by omega) ?_
                      refine e_iload dL_law_531 rfl rfl ?_
                      refine e_icmp_ne (t := 540) dL_law_533 rfl rfl (by omega) (by omega) (fun h533 => ?_) (fun h533 => ?_)
                      · refine e_iconst dL_law_540 rfl ?_
                        refine EV.fgt 13 ?_
                        refine EV.fgt 19 ?_
                        refine EV.fgt 20 ?_
                        exact hJ541 0 (by unfold eI1; split <;> omega)
                      · refine e_iconst dL_law_536 rfl ?_
                        refine e_goto (n := 541) dL_law_537 rfl ?_
                        refine EV.fgt 13 ?_
                        refine EV.fgt 19 ?_
                        refine EV.fgt 20 ?_
                        exact hJ541 1 (by unfold eI1; split <;> omega)
                    · omega
        · have hj9 : sHas F j := ⟨by omega, by omega⟩
          have gj := (sGr_in hj9).1
          have dd := sDD_in hF k j
          have ddj := sDD_in hF j (F.1 1)
          have xj := rx j
          have yj := ry j
          have hj8 := rh j
          have nz := nrV_r n184 (by omega)
          refine e_aload_n dL_law_190 rfl rfl ?_
          refine e_iload dL_law_191 rfl rfl ?_
          refine e_obs lk_L_137 rfl dL_law_193 rfl (N_X6_xOf hF hk9) h0 rfl rfl (Nat.le_of_ble_eq_true rfl) (Nat.le_of_ble_eq_true rfl) (Nat.le_of_ble_eq_true rfl) ⟨rfl, rfl⟩ rfl ?_
          refine e_aload_n dL_law_196 rfl rfl ?_
          refine e_iload dL_law_197 rfl rfl ?_
          refine e_obs lk_L_137 rfl dL_law_199 rfl (N_X6_xOf hF hj9) h0 rfl rfl (Nat.le_of_ble_eq_true rfl) (Nat.le_of_ble_eq_true rfl) (Nat.le_of_ble_eq_true rfl) ⟨rfl, rfl⟩ rfl ?_
          refine e_isub dL_law_202 rfl ?_
          refine e_absA ma_L_140 dL_law_203 rfl (Nat.le_of_ble_eq_true rfl) (Nat.le_of_ble_eq_true rfl) (by omega) ?_
          intro q203
          refine e_aload_n dL_law_206 rfl rfl ?_
          refine e_iload dL_law_207 rfl rfl ?_
          refine e_obs lk_L_143 rfl dL_law_209 rfl (N_X6_yOf hF hk9) h0 rfl rfl (Nat.le_of_ble_eq_true rfl) (Nat.le_of_ble_eq_true rfl) (Nat.le_of_ble_eq_true rfl) ⟨rfl, rfl⟩ rfl ?_
          refine e_aload_n dL_law_212 rfl rfl ?_
          refine e_iload dL_law_213 rfl rfl ?_
          refine e_obs lk_L_143 rfl dL_law_215 rfl (N_X6_yOf hF hj9) h0 rfl rfl (Nat.le_of_ble_eq_true rfl) (Nat.le_of_ble_eq_true rfl) (Nat.le_of_ble_eq_true rfl) ⟨rfl, rfl⟩ rfl ?_
          refine e_isub dL_law_218 rfl ?_
          refine e_absA ma_L_140 dL_law_219 rfl (Nat.le_of_ble_eq_true rfl) (Nat.le_of_ble_eq_true rfl) (by omega) ?_
          intro q219
          refine e_iadd dL_law_222 rfl ?_
          refine EV.eq (st' := [vi (sDD F k j)]) rfl ?_
          refine f_istore dL_law_223 rfl (Nat.le_of_ble_eq_true rfl) rfl ?_
          refine e_aload_n dL_law_225 rfl rfl ?_
          refine e_iload dL_law_226 rfl rfl ?_
          refine e_iload dL_law_228 rfl rfl ?_
          refine e_obs lk_L_129 rfl dL_law_230 rfl (N_X6_distance hF hk9 hj9) h0 rfl rfl (Nat.le_of_ble_eq_true rfl) (Nat.le_of_ble_eq_true rfl) (Nat.le_of_ble_eq_true rfl) ⟨rfl, rfl⟩ rfl ?_
          refine e_iload dL_law_233 rfl rfl ?_
          refine e_icmp_ne (t := 251) dL_law_235 rfl rfl (by omega) (by omega) (fun h235 => ?_) (fun h235 => ?_)
          · exact absurd rfl h235
          · have hJ253 : ∀ (_ : Unit) , EV (lK X) a b (wB a F u [eI 0 (F.1 0).toNat (sGr F)]) 253 [some (.ref bb), some (.ref q0), some (vi turn), some (vi (F.1 0)), some (vi (F.1 1)), some (vi sm), some (vi lk2), some (vi mx2), some (vi fo), some (vi la), some (vi 0), some (vi (F.1 6)), some (vl mv), none, some (.ref gq), some (vi k), some (vi (nrV z)), some (vi mn), some (vi ah), some (vi j), some (vi (sDD F k j))] [] := by
              intro _ 
              have hJ288 : ∀ (z2 : Int) (n288 : sNrC F k (j + 1) z2), EV (lK X) a b (wB a F u [eI 0 (F.1 0).toNat (sGr F)]) 288 [some (.ref bb), some (.ref q0), some (vi turn), some (vi (F.1 0)), some (vi (F.1 1)), some (vi sm), some (vi lk2), some (vi mx2), some (vi fo), some (vi la), some (vi 0), some (vi (F.1 6)), some (vl mv), none, some (.ref gq), some (vi k), some (vi (nrV z)), some (vi mn), some (vi ah), some (vi j), some (vi (sDD F k j))] [vi (nrV z2)] := by
                intro z2 n288
                refine f_istore dL_law_288 rfl (Nat.le_of_ble_eq_true rfl) rfl ?_
                have hJ311 : ∀ (x : Int) (x311 : x = eI1 (j < k ∧ sDD F k j ≤ F.1 6)), EV (lK X) a b (wB a F u [eI 0 (F.1 0).toNat (sGr F)]) 311 [some (.ref bb), some (.ref q0), some (vi turn), some (vi (F.1 0)), some (vi (F.1 1)), some (vi sm), some (vi lk2), some (vi mx2), some (vi fo), some (vi la), some (vi 0), some (vi (F.1 6)), some (vl mv), none, some (.ref gq), some (vi k), some (vi (nrV z2)), some (vi mn), some (vi ah), some (vi j), some (vi (sDD F k j))] [vi x, vi lk2] := by
                  intro x x311
                  have qx := eI1_b (c := j < k ∧ sDD F k j ≤ F.1 6)
                  refine e_iadd dL_law_311 rfl ?_
                  refine f_istore dL_law_312 rfl (Nat.le_of_ble_eq_true rfl) rfl ?_
                  have hJ350 : ∀ (y : Int) (y350 : y = eI1 (j < k ∧ (sDD F k j ≤ F.1 6 ∧ ¬ F.2 2 j = F.2 2 k))), EV (lK X) a b (wB a F u [eI 0 (F.1 0).toNat (sGr F)]) 350 [some (.ref bb), some (.ref q0), some (vi turn), some (vi (F.1 0)), some (vi (F.1 1)), some (vi sm), some (vi (lk2 + x)), some (vi mx2), some (vi fo), some (vi la), some (vi 0), some (vi (F.1 6)), some (vl mv), none, some (.ref gq), some (vi k), some (vi (nrV z2)), some (vi mn), some (vi ah), some (vi j), some (vi (sDD F k j))] [vi y, vi mx2] := by
                    intro y y350
                    have qy := eI1_b (c := j < k ∧ (sDD F k j ≤ F.1 6 ∧ ¬ F.2 2 j = F.2 2 k))
                    refine e_iadd dL_law_350 rfl ?_
                    refine f_istore dL_law_351 rfl (Nat.le_of_ble_eq_true rfl) rfl ?_
                    have hJ373 : ∀ (w : Int) (w373 : w = eI1 (sGr F j = sGr F k)), EV (lK X) a b (wB a F u [eI 0 (F.1 0).toNat (sGr F)]) 373 [some (.ref bb), some (.ref q0), some (vi turn), some (vi (F.1 0)), some (vi (F.1 1)), some (vi sm), some (vi (lk2 + x)), some (vi (mx2 + y)), some (vi fo), some (vi la), some (vi 0), some (vi (F.1 6)), some (vl mv), none, some (.ref gq), some (vi k), some (vi (nrV z2)), some (vi mn), some (vi ah), some (vi j), some (vi (sDD F k j))] [vi w, vi mn] := by
                      intro w w373
                      have qw := eI1_b (c := sGr F j = sGr F k)
                      refine e_iadd dL_law_373 rfl ?_
                      refine f_istore dL_law_374 rfl (Nat.le_of_ble_eq_true rfl) rfl ?_
                      have hJ428 : ∀ (v9 : Int) (v428 : v9 = eI1 (sDD F j (F.1 1) < sDD F k (F.1 1) ∨ (sDD F j (F.1 1) = sDD F k (F.1 1) ∧ j < k))), EV (lK X) a b (wB a F u [eI 0 (F.1 0).toNat (sGr F)]) 428 [some (.ref bb), some (.ref q0), some (vi turn), some (vi (F.1 0)), some (vi (F.1 1)), some (vi sm), some (vi (lk2 + x)), some (vi (mx2 + y)), some (vi fo), some (vi la), some (vi 0), some (vi (F.1 6)), some (vl mv), none, some (.ref gq), some (vi k), some (vi (nrV z2)), some (vi (mn + w)), some (vi ah), some (vi j), some (vi (sDD F k j))] [vi v9, vi ah] := by
                        intro v9 v428
                        have qv := eI1_b (c := sDD F j (F.1 1) < sDD F k (F.1 1) ∨ (sDD F j (F.1 1) = sDD F k (F.1 1) ∧ j < k))
                        refine e_iadd dL_law_428 rfl ?_
                        refine f_istore dL_law_429 rfl (Nat.le_of_ble_eq_true rfl) rfl ?_
                        refine f_iinc dL_law_431 rfl rfl (Nat.le_of_ble_eq_true rfl) rfl ?_
                        refine e_goto (n := 184) dL_law_434 rfl ?_
                        refine EV.fgt 13 ?_
                        refine EV.fgt 20 ?_
                        exact ih184 _ (by omega) (j + 1) z2 (lk2 + x) (mx2 + y) (mn + w) (ah + v9) rfl (by omega) n288 (by have q := eCB_go (P := fun i => i < k ∧ sLk F k i) (n := F.1 0) (i := j) (by omega); have q2 : x = eI1 (j < k ∧ sLk F k j) := x311; (try dsimp only at q); omega) (by have q := eCB_go (P := fun i => i < k ∧ (sLk F k i ∧ ¬ F.2 2 i = F.2 2 k)) (n := F.1 0) (i := j) (by omega); have q2 : y = eI1 (j < k ∧ (sLk F k j ∧ ¬ F.2 2 j = F.2 2 k)) := y350; (try dsimp only at q); omega) (by have q := eCB_go (P := fun i => sGr F i = sGr F k) (n := F.1 0) (i := j) (by omega); (try dsimp only at q); omega) (by have q := eCB_go (P := fun i => sBfr F i k) (n := F.1 0) (i := j) (by omega); have q2 : v9 = eI1 (sBfr F j k) := v428; (try dsimp only at q); omega) (by have q1 := eI1_b (c := j < k ∧ sDD F k j ≤ F.1 6); have q2 := eI1_b (c := j < k ∧ (sDD F k j ≤ F.1 6 ∧ ¬ F.2 2 j = F.2 2 k)); have q3 := eI1_b (c := sGr F j = sGr F k); have q4 := eI1_b (c := sDD F j (F.1 1) < sDD F k (F.1 1) ∨ (sDD F j (F.1 1) = sDD F k (F.1 1) ∧ j < k)); omega)
                      refine e_iload dL_law_376 rfl rfl ?_
                      refine e_aload_n dL_law_378 rfl rfl ?_
                      refine e_iload dL_law_379 rfl rfl ?_
                      refine e_iload dL_law_381 rfl rfl ?_
                      refine e_obs lk_L_129 rfl dL_law_383 rfl (N_X6_distance hF hj9 hl9) h0 rfl rfl (Nat.le_of_ble_eq_true rfl) (Nat.le_of_ble_eq_true rfl) (Nat.le_of_ble_eq_true rfl) ⟨rfl, rfl⟩ rfl ?_
                      refine e_aload_n dL_law_386 rfl rfl ?_
                      refine e_iload dL_law_387 rfl rfl ?_
                      refine e_iload dL_law_389 rfl rfl ?_
                      refine e_obs lk_L_129 rfl dL_law_391 rfl (N_X6_distance hF hk9 hl9) h0 rfl rfl (Nat.le_of_ble_eq_true rfl) (Nat.le_of_ble_eq_true rfl) (Nat.le_of_ble_eq_true rfl) ⟨rfl, rfl⟩ rfl ?_
                      refine e_icmp_lt (t := 423) dL_law_394 rfl rfl (by omega) (by omega) (fun h394 => ?_) (fun h394 => ?_)
                      · refine e_iconst dL_law_423 rfl ?_
                        refine e_goto (n := 428) dL_law_424 rfl ?_
                        refine EV.fgt 13 ?_
                        exact hJ428 1 (by unfold eI1; split <;> omega)
                      · refine e_aload_n dL_law_397 rfl rfl ?_
                        refine e_iload dL_law_398 rfl rfl ?_
                        refine e_iload dL_law_400 rfl rfl ?_
                        refine e_obs lk_L_129 rfl dL_law_402 rfl (N_X6_distance hF hj9 hl9) h0 rfl rfl (Nat.le_of_ble_eq_true rfl) (Nat.le_of_ble_eq_true rfl) (Nat.le_of_ble_eq_true rfl) ⟨rfl, rfl⟩ rfl ?_
                        refine e_aload_n dL_law_405 rfl rfl ?_
                        refine e_iload dL_law_406 rfl rfl ?_
                        refine e_iload dL_law_408 rfl rfl ?_
                        refine e_obs lk_L_129 rfl dL_law_410 rfl (N_X6_distance hF hk9 hl9) h0 rfl rfl (Nat.le_of_ble_eq_true rfl) (Nat.le_of_ble_eq_true rfl) (Nat.le_of_ble_eq_true rfl) ⟨rfl, rfl⟩ rfl ?_
                        refine e_icmp_ne (t := 427) dL_law_413 rfl rfl (by omega) (by omega) (fun h413 => ?_) (fun h413 => ?_)
                        · refine e_iconst dL_law_427 rfl ?_
                          refine EV.fgt 13 ?_
                          exact hJ428 0 (by unfold eI1; split <;> omega)
                        · refine e_iload dL_law_416 rfl rfl ?_
                          refine e_iload dL_law_418 rfl rfl ?_
                          refine e_icmp_ge (t := 427) dL_law_420 rfl rfl (by omega) (by omega) (fun h420 => ?_) (fun h420 => ?_)
                          · refine e_iconst dL_law_427 rfl ?_
                            refine EV.fgt 13 ?_
                            exact hJ428 0 (by unfold eI1; split <;> omega)
                          · refine e_iconst dL_law_423 rfl ?_
                            refine e_goto (n := 428) dL_law_424 rfl ?_
                            refine EV.fgt 13 ?_
                            exact hJ428 1 (by unfold eI1; split <;> omega)
                    refine e_iload dL_law_353 rfl rfl ?_
                    refine e_aload dL_law_355 rfl rfl ?_
                    refine e_iload dL_law_357 rfl rfl ?_
                    refine e_gld dL_law_359 rfl hg (by omega) (by omega) ?_
                    refine e_aload dL_law_360 rfl rfl ?_
                    refine e_iload dL_law_362 rfl rfl ?_
                    refine e_gld dL_law_364 rfl hg (by omega) (by omega) ?_
                    refine e_icmp_ne (t := 372) dL_law_365 rfl rfl (by omega) (by omega) (fun h365 => ?_) (fun h365 => ?_)
                    · refine e_iconst dL_law_372 rfl ?_
                      refine EV.fgt 13 ?_
                      exact hJ373 0 (by unfold eI1; split <;> omega)
                    · refine e_iconst dL_law_368 rfl ?_
                      refine e_goto (n := 373) dL_law_369 rfl ?_
                      refine EV.fgt 13 ?_
                      exact hJ373 1 (by unfold eI1; split <;> omega)
                  refine e_iload dL_law_314 rfl rfl ?_
                  refine e_iload dL_law_316 rfl rfl ?_
                  refine e_iload dL_law_318 rfl rfl ?_
                  refine e_icmp_ge (t := 349) dL_law_320 rfl rfl (by omega) (by omega) (fun h320 => ?_) (fun h320 => ?_)
                  · refine e_iconst dL_law_349 rfl ?_
                    refine EV.fgt 13 ?_
                    exact hJ350 0 (by unfold eI1; split <;> omega)
                  · refine e_iload dL_law_323 rfl rfl ?_
                    refine e_iload dL_law_325 rfl rfl ?_
                    refine e_icmp_gt (t := 349) dL_law_327 rfl rfl (by omega) (by omega) (fun h327 => ?_) (fun h327 => ?_)
                    · refine e_iconst dL_law_349 rfl ?_
                      refine EV.fgt 13 ?_
                      exact hJ350 0 (by unfold eI1; split <;> omega)
                    · refine e_aload_n dL_law_330 rfl rfl ?_
                      refine e_iload dL_law_331 rfl rfl ?_
                      refine e_obs lk_L_146 rfl dL_law_333 rfl (N_X6_handleOf hF hj9) h0 rfl rfl (Nat.le_of_ble_eq_true rfl) (Nat.le_of_ble_eq_true rfl) (Nat.le_of_ble_eq_true rfl) ⟨rfl, rfl⟩ rfl ?_
                      refine e_aload_n dL_law_336 rfl rfl ?_
                      refine e_iload dL_law_337 rfl rfl ?_
                      refine e_obs lk_L_146 rfl dL_law_339 rfl (N_X6_handleOf hF hk9) h0 rfl rfl (Nat.le_of_ble_eq_true rfl) (Nat.le_of_ble_eq_true rfl) (Nat.le_of_ble_eq_true rfl) ⟨rfl, rfl⟩ rfl ?_
                      refine e_icmp_eq (t := 349) dL_law_342 rfl rfl (by omega) (by omega) (fun h342 => ?_) (fun h342 => ?_)
                      · refine e_iconst dL_law_349 rfl ?_
                        refine EV.fgt 13 ?_
                        exact hJ350 0 (by unfold eI1; split <;> omega)
                      · refine e_iconst dL_law_345 rfl ?_
                        refine e_goto (n := 350) dL_law_346 rfl ?_
                        refine EV.fgt 13 ?_
                        exact hJ350 1 (by unfold eI1; split <;> omega)
                refine e_iload dL_law_290 rfl rfl ?_
                refine e_iload dL_law_292 rfl rfl ?_
                refine e_iload dL_law_294 rfl rfl ?_
                refine e_icmp_ge (t := 310) dL_law_296 rfl rfl (by omega) (by omega) (fun h296 => ?_) (fun h296 => ?_)
                · refine e_iconst dL_law_310 rfl ?_
                  refine EV.fgt 13 ?_
                  exact hJ311 0 (by unfold eI1; split <;> omega)
                · refine e_iload dL_law_299 rfl rfl ?_
                  refine e_iload dL_law_301 rfl rfl ?_
                  refine e_icmp_gt (t := 310) dL_law_303 rfl rfl (by omega) (by omega) (fun h303 => ?_) (fun h303 => ?_)
                  · refine e_iconst dL_law_310 rfl ?_
                    refine EV.fgt 13 ?_
                    exact hJ311 0 (by unfold eI1; split <;> omega)
                  · refine e_iconst dL_law_306 rfl ?_
                    refine e_goto (n := 311) dL_law_307 rfl ?_
                    refine EV.fgt 13 ?_
                    exact hJ311 1 (by unfold eI1; split <;> omega)
              refine e_iload dL_law_253 rfl rfl ?_
              refine e_iload dL_law_255 rfl rfl ?_
              refine e_icmp_eq (t := 286) dL_law_257 rfl rfl (by omega) (by omega) (fun h257 => ?_) (fun h257 => ?_)
              · refine e_iload dL_law_286 rfl rfl ?_
                refine EV.fgt 13 ?_
                exact hJ288 z (near_o (by omega) n184 (by first | exact Or.inl h257 | exact Or.inr ⟨hz9, by rw [← e9]; omega⟩))
              · refine e_iload dL_law_260 rfl rfl ?_
                refine e_sipush dL_law_262 rfl rfl ?_
                refine e_icmp_eq (t := 281) dL_law_265 rfl rfl (by omega) (by omega) (fun h265 => ?_) (fun h265 => ?_)
                · refine e_iload dL_law_281 rfl rfl ?_
                  refine e_goto (n := 288) dL_law_283 rfl ?_
                  refine EV.fgt 13 ?_
                  refine EV.eq (st' := [vi (nrV j)]) (by unfold nrV; rw [if_neg (by omega)]) ?_
                  exact hJ288 j (near_n (by omega) n184 ⟨h257, by first | exact Or.inl ((nrV_n n184).1.mp h265) | exact Or.inr (by rw [← e9]; omega)⟩)
                · have hz9 : ¬ z = -1 := fun q => h265 ((nrV_n n184).1.mpr q)
                  have e9 : nrV z = z := by unfold nrV; rw [if_neg hz9]
                  have hz8 : sHas F (nrV z) := by rw [e9]; exact near_h n184 (by omega) hz9
                  have dz := sDD_in hF k (nrV z)
                  have ez : sDD F k (nrV z) = sDD F k z := by rw [e9]
                  refine e_iload dL_law_268 rfl rfl ?_
                  refine e_aload_n dL_law_270 rfl rfl ?_
                  refine e_iload dL_law_271 rfl rfl ?_
                  refine e_iload dL_law_273 rfl rfl ?_
                  refine e_obs lk_L_129 rfl dL_law_275 rfl (N_X6_distance hF hk9 hz8) h0 rfl rfl (Nat.le_of_ble_eq_true rfl) (Nat.le_of_ble_eq_true rfl) (Nat.le_of_ble_eq_true rfl) ⟨rfl, rfl⟩ rfl ?_
                  refine e_icmp_ge (t := 286) dL_law_278 rfl rfl (by omega) (by omega) (fun h278 => ?_) (fun h278 => ?_)
                  · refine e_iload dL_law_286 rfl rfl ?_
                    refine EV.fgt 13 ?_
                    exact hJ288 z (near_o (by omega) n184 (by first | exact Or.inl h257 | exact Or.inr ⟨hz9, by rw [← e9]; omega⟩))
                  · refine e_iload dL_law_281 rfl rfl ?_
                    refine e_goto (n := 288) dL_law_283 rfl ?_
                    refine EV.fgt 13 ?_
                    refine EV.eq (st' := [vi (nrV j)]) (by unfold nrV; rw [if_neg (by omega)]) ?_
                    exact hJ288 j (near_n (by omega) n184 ⟨h257, by first | exact Or.inl ((nrV_n n184).1.mp h265) | exact Or.inr (by rw [← e9]; omega)⟩)
            refine e_iload dL_law_238 rfl rfl ?_
            refine e_iload dL_law_240 rfl rfl ?_
            refine e_icmp_eq (t := 253) dL_law_242 rfl rfl (by omega) (by omega) (fun h242 => ?_) (fun h242 => ?_)
            · refine EV.fgt 13 ?_
              exact hJ253 ()
            · refine e_iload dL_law_245 rfl rfl ?_
              refine e_iconst dL_law_247 rfl ?_
              refine e_icmp_ge (t := 253) dL_law_248 rfl rfl (by omega) (by omega) (fun h248 => ?_) (fun h248 => ?_)
              · refine EV.fgt 13 ?_
                exact hJ253 ()
              · exact absurd (hA.1 k j hk9 hj9 (fun q => h242 q.symm)) h248
      refine EV.fgt 13 ?_
      refine EV.fgt 20 ?_
      exact hL184 _ 0 (-1) lk mx 0 0 rfl (by omega) (Or.inl ⟨fun i i0 i1 => by omega, rfl⟩) rfl rfl (Int.zero_add _) (Int.zero_add _) (by omega)
  refine EV.fgt 13 ?_
  refine EV.fgt 16 ?_
  refine EV.fgt 17 ?_
  refine EV.fgt 18 ?_
  refine EV.fgt 19 ?_
  refine EV.fgt 20 ?_
  exact hL164 _ 0 0 0 0 0 0 0 u b rfl (by omega) hu (by omega) (Int.zero_add _) ((Int.zero_add _).trans lLk_all) ((Int.zero_add _).trans lMx_all) (Int.zero_add _) (lMn_all (by omega)) (Int.zero_add _) (by omega)
