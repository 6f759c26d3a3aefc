set_option maxHeartbeats 4000000 in
theorem S_5 {X : eXT} {a : Nat → Nat} {b : Nat × Nat} {N : Int} {F : eFs} {u : eUs} {q0 bb : Nat} {turn : Int} (hF : okF N F) (hn : 1 ≤ F.1 0 ∧ F.1 0 ≤ 9) (h0 : q0 = a 0)
    (hu : okU u) (hC : okC F) (hA : okA F) (hS : F.1 10 = (if F.1 7 < 16 then F.1 7 else 16)) {b1 : Nat × Nat} (hb : b1.1 + 4 ≤ b.1 ∧ b1.2 + 24 ≤ b.2)
    (kk : ∀ (u2 : eUs), okU u2 → EV (lK X) a b1 (wB a F u2 []) 994 [some (.ref bb), some (.ref q0), some (vi turn), none, none, none, none, none, none, none, none, none, none, none, none, none, none, none, none, none, none] []) :
    EV (lK X) a b (wB a F u []) 737 [some (.ref bb), some (.ref q0), some (vi turn), some (vi (F.1 0)), some (vi (F.1 1)), some (vi (sSumD F)), some (vi (sPrs F)), some (vi (sMix F)), some (vi (sFor F)), some (vi (sLrg F)), some (vi (sCnt F)), some (vi (F.1 6)), some (vl (sSumM F)), none, none, none, none, none, none, none, none] [] := by
  have hF9 := hF
  obtain ⟨hc, hld, hled, htn, hgo, hkp, hst, hwt, hcl, hsh, hnx, hN, -⟩ := hF9
  have sd9 := sSumD_in hF
  have sm9 := sSumM_in hF
  have pr9 := sPrs_in hc
  have mx9 := sMix_in hc
  have fo9 := sFor_in hc
  have lg9 := sLrg_in (F := F) hc.1
  have df9 := sDif_in (F := F) hsh.1
  have ct9 : sCnt F = F.1 9 := hC
  refine e_iconst dL_law_737 rfl ?_
  refine f_istore dL_law_738 rfl (Nat.le_of_ble_eq_true rfl) rfl ?_
  have hL740 : ∀ (k740 : Nat) (k : Int) (hk740 : (100 - k).toNat = k740) (g740 : 0 ≤ k ∧ k ≤ 106), EV (lK X) a b (wB a F u []) 740 [some (.ref bb), some (.ref q0), some (vi turn), some (vi (F.1 0)), some (vi (F.1 1)), some (vi (sSumD F)), some (vi (sPrs F)), some (vi (sMix F)), some (vi (sFor F)), some (vi (sLrg F)), some (vi (sCnt F)), some (vi (F.1 6)), some (vl (sSumM F)), none, none, some (vi k), none, none, none, none, none] [] := by
    intro k740
    induction k740 using Nat.strongRecOn with
    | _ k740 ih740 =>
    intro k hk740 g740
    refine e_iload dL_law_740 rfl rfl ?_
    refine e_bipush dL_law_742 rfl rfl ?_
    refine e_icmp_ge (t := 789) dL_law_744 rfl rfl (by omega) (by omega) (fun h744 => ?_) (fun h744 => ?_)
    · refine e_aload_n dL_law_789 rfl rfl ?_
      refine e_obsP (av := [.ref (a 0)]) (rest := []) lk_L_197 (by decide) dL_law_790 rfl (W_stepsSinceShape hF) (by rw [h0]; rfl) rfl (Nat.le_of_ble_eq_true rfl) (Nat.le_of_ble_eq_true rfl) (Nat.le_of_ble_eq_true rfl) (b.1 - 2, b.2 - 12) ⟨(by show 2 + (b.1 - 2) ≤ _; omega), (by show 12 + (b.2 - 12) ≤ _; omega)⟩ hu (fun u1 hu1 => ?_)
      have s9 : -1 ≤ sSince F ∧ (sSince F < F.1 10 ∨ sSince F = -1) := eFB_in (by decide)
      obtain ⟨ss, hss⟩ : ∃ ss, ss = (if sSince F = -1 then -30000 else sSince F) := ⟨_, rfl⟩
      refine EV.eq (st' := [vi ss]) (by rw [hss]) ?_
      have rs : ss = -30000 ∨ (0 ≤ ss ∧ ss < F.1 10) := by
        by_cases q : sSince F = -1
        · rw [if_pos q] at hss; exact Or.inl hss
        · rw [if_neg q] at hss; exact Or.inr ⟨by omega, by omega⟩
      refine f_istore dL_law_793 rfl (Nat.le_of_ble_eq_true rfl) rfl ?_
      refine e_aload_n dL_law_795 rfl rfl ?_
      refine e_obs lk_L_200 rfl dL_law_796 rfl (C_X6_shapeCount hF) h0 rfl rfl (Nat.le_of_ble_eq_true rfl) (Nat.le_of_ble_eq_true rfl) (Nat.le_of_ble_eq_true rfl) ⟨rfl, rfl⟩ rfl ?_
      refine f_istore dL_law_799 rfl (Nat.le_of_ble_eq_true rfl) rfl ?_
      refine e_aload_n dL_law_801 rfl rfl ?_
      refine e_iconst dL_law_802 rfl ?_
      refine e_obsH (av := [.ref (a 0), vi 0]) (rest := []) lk_L_193 (by decide) dL_law_803 rfl (W_leaderAfter (s := 0) hF (by omega) (by omega)) (by rw [h0]; rfl) rfl (Nat.le_of_ble_eq_true rfl) (Nat.le_of_ble_eq_true rfl) (Nat.le_of_ble_eq_true rfl) (b.1 - 2, b.2 - 12) ⟨Nat.le_of_eq (Nat.zero_add _), Nat.le_of_eq (Nat.zero_add _)⟩ ?_
      refine EV.eq (st' := [vi (F.1 1)]) (by rw [sLead_z hF hn.1]) ?_
      refine e_iload dL_law_806 rfl rfl ?_
      refine e_icmp_ne (t := 949) dL_law_808 rfl rfl (by omega) (by omega) (fun h808 => ?_) (fun h808 => ?_)
      · exact absurd rfl h808
      · refine e_aload_n dL_law_811 rfl rfl ?_
        refine e_obs lk_L_203 rfl dL_law_812 rfl (C_X6_cloudCount hF) h0 rfl rfl (Nat.le_of_ble_eq_true rfl) (Nat.le_of_ble_eq_true rfl) (Nat.le_of_ble_eq_true rfl) ⟨rfl, rfl⟩ rfl ?_
        refine EV.eq (st' := [vi (sCnt F)]) (by rw [hC]) ?_
        refine e_iload dL_law_815 rfl rfl ?_
        refine e_icmp_ne (t := 949) dL_law_817 rfl rfl (by omega) (by omega) (fun h817 => ?_) (fun h817 => ?_)
        · exact absurd rfl h817
        · refine e_aload_n dL_law_820 rfl rfl ?_
          refine e_frm lk_L_206 rfl dL_law_821 rfl (C_X6_formationCount hF hu1.2.2.2.1 hu1.2.2.2.2) h0 rfl rfl (Nat.le_of_ble_eq_true rfl) (Nat.le_of_ble_eq_true rfl) (Nat.le_of_ble_eq_true rfl) ⟨rfl, rfl⟩ rfl hu1 (fun u2 hu2 => ?_)
          refine e_iload dL_law_824 rfl rfl ?_
          refine e_icmp_ne (t := 949) dL_law_826 rfl rfl (by omega) (by omega) (fun h826 => ?_) (fun h826 => ?_)
          · exact absurd rfl h826
          · refine e_aload_n dL_law_829 rfl rfl ?_
            refine e_frm lk_L_209 rfl dL_law_830 rfl (C_X6_formationCountByMerging hF hu2.2.2.2.1 hu2.2.2.2.2) h0 rfl rfl (Nat.le_of_ble_eq_true rfl) (Nat.le_of_ble_eq_true rfl) (Nat.le_of_ble_eq_true rfl) ⟨rfl, rfl⟩ rfl hu2 (fun u3 hu3 => ?_)
            refine e_iload dL_law_833 rfl rfl ?_
            refine e_icmp_ne (t := 949) dL_law_835 rfl rfl (by omega) (by omega) (fun h835 => ?_) (fun h835 => ?_)
            · exact absurd rfl h835
            · refine e_aload_n dL_law_838 rfl rfl ?_
              refine e_frm lk_L_212 rfl dL_law_839 rfl (C_X6_largestFormation hF hu3.2.2.2.1 hu3.2.2.2.2) h0 rfl rfl (Nat.le_of_ble_eq_true rfl) (Nat.le_of_ble_eq_true rfl) (Nat.le_of_ble_eq_true rfl) ⟨rfl, rfl⟩ rfl hu3 (fun u4 hu4 => ?_)
              refine e_iload dL_law_842 rfl rfl ?_
              refine e_icmp_ne (t := 949) dL_law_844 rfl rfl (by omega) (by omega) (fun h844 => ?_) (fun h844 => ?_)
              · exact absurd rfl h844
              · refine e_aload_n dL_law_847 rfl rfl ?_
                refine e_obs lk_L_215 rfl dL_law_848 rfl (C_X6_mixedPairs hF) h0 rfl rfl (Nat.le_of_ble_eq_true rfl) (Nat.le_of_ble_eq_true rfl) (Nat.le_of_ble_eq_true rfl) ⟨rfl, rfl⟩ rfl ?_
                refine e_iload dL_law_851 rfl rfl ?_
                refine e_icmp_ne (t := 949) dL_law_853 rfl rfl (by omega) (by omega) (fun h853 => ?_) (fun h853 => ?_)
                · exact absurd rfl h853
                · refine e_aload_n dL_law_856 rfl rfl ?_
                  refine e_obs lk_L_218 rfl dL_law_857 rfl (C_X6_mixedPairsByHandles hF) h0 rfl rfl (Nat.le_of_ble_eq_true rfl) (Nat.le_of_ble_eq_true rfl) (Nat.le_of_ble_eq_true rfl) ⟨rfl, rfl⟩ rfl ?_
                  refine e_iload dL_law_860 rfl rfl ?_
                  refine e_icmp_ne (t := 949) dL_law_862 rfl rfl (by omega) (by omega) (fun h862 => ?_) (fun h862 => ?_)
                  · exact absurd rfl h862
                  · refine e_aload_n dL_law_865 rfl rfl ?_
                    refine e_obs lk_L_221 rfl dL_law_866 rfl (C_X6_moveTotal hF) h0 rfl rfl (Nat.le_of_ble_eq_true rfl) (Nat.le_of_ble_eq_true rfl) (Nat.le_of_ble_eq_true rfl) ⟨rfl, rfl⟩ rfl ?_
                    refine e_lload dL_law_869 rfl rfl ?_
                    refine e_lcmp dL_law_871 rfl ?_
                    refine e_ifl_ne (t := 949) dL_law_872 rfl rfl (by omega) (by omega) (fun h872 => absurd rfl h872) (fun _ => ?_)
                    refine e_iload dL_law_875 rfl rfl ?_
                    refine e_bipush dL_law_877 rfl rfl ?_
                    refine e_aload_n dL_law_879 rfl rfl ?_
                    refine e_obs lk_L_225 rfl dL_law_880 rfl (C_X6_stepCount hF) h0 rfl rfl (Nat.le_of_ble_eq_true rfl) (Nat.le_of_ble_eq_true rfl) (Nat.le_of_ble_eq_true rfl) ⟨rfl, rfl⟩ rfl ?_
                    refine e_min ma_L_132 dL_law_883 rfl (Nat.le_of_ble_eq_true rfl) (Nat.le_of_ble_eq_true rfl) (by omega) (by omega) ?_
                    refine EV.eq (st' := [vi (F.1 10), vi (F.1 10)]) (by rw [← hS]) ?_
                    refine e_icmp_ne (t := 949) dL_law_886 rfl rfl (by omega) (by omega) (fun h886 => ?_) (fun h886 => ?_)
                    · exact absurd rfl h886
                    · refine e_aload_n dL_law_889 rfl rfl ?_
                      refine e_obs lk_L_228 rfl dL_law_890 rfl (C_X6_differentShapes hF) h0 rfl rfl (Nat.le_of_ble_eq_true rfl) (Nat.le_of_ble_eq_true rfl) (Nat.le_of_ble_eq_true rfl) ⟨rfl, rfl⟩ rfl ?_
                      refine e_iload dL_law_893 rfl rfl ?_
                      refine e_icmp_gt (t := 949) dL_law_895 rfl rfl (by omega) (by omega) (fun h895 => ?_) (fun h895 => ?_)
                      · omega
                      · have hJ911 : ∀ (_ : Unit) , EV (lK X) a (b.1 - 2, b.2 - 12) (wB a F u4 []) 911 [some (.ref bb), some (.ref q0), some (vi turn), some (vi (F.1 0)), some (vi (F.1 1)), some (vi (sSumD F)), some (vi (sPrs F)), some (vi (sMix F)), some (vi (sFor F)), some (vi (sLrg F)), some (vi (sCnt F)), some (vi (F.1 6)), some (vl (sSumM F)), none, none, some (vi ss), some (vi (F.1 10)), none, none, none, none] [] := by
                          intro _ 
                          have hJ931 : ∀ (_ : Unit) , EV (lK X) a (b.1 - 2, b.2 - 12) (wB a F u4 []) 931 [some (.ref bb), some (.ref q0), some (vi turn), some (vi (F.1 0)), some (vi (F.1 1)), some (vi (sSumD F)), some (vi (sPrs F)), some (vi (sMix F)), some (vi (sFor F)), some (vi (sLrg F)), some (vi (sCnt F)), some (vi (F.1 6)), some (vl (sSumM F)), none, none, some (vi ss), some (vi (F.1 10)), none, none, none, none] [] := by
                            intro _ 
                            refine e_aload_n dL_law_931 rfl rfl ?_
                            refine e_iload_n dL_law_932 rfl rfl ?_
                            refine e_obsH (av := [.ref (a 0), vi (F.1 0)]) (rest := []) lk_L_231 (by decide) dL_law_933 rfl (W_basketAtRank hF (by omega)) (by rw [h0]; rfl) rfl (Nat.le_of_ble_eq_true rfl) (Nat.le_of_ble_eq_true rfl) (Nat.le_of_ble_eq_true rfl) (b.1 - 4, b.2 - 24) ⟨(by show 2 + (b.1 - 4) ≤ b.1 - 2; omega), (by show 12 + (b.2 - 24) ≤ b.2 - 12; omega)⟩ ?_
                            refine EV.eq (st' := [vi (-30000)]) (by rw [if_pos sWithRk_n]) ?_
                            refine e_sipush dL_law_936 rfl rfl ?_
                            refine e_icmp_ne (t := 949) dL_law_939 rfl rfl (by omega) (by omega) (fun h939 => ?_) (fun h939 => ?_)
                            · exact absurd rfl h939
                            · refine e_aload_n dL_law_942 rfl rfl ?_
                              refine e_frm lk_L_233 rfl dL_law_943 rfl (C_X6_isConsistent hF hu4.2.2.2.1 hu4.2.2.2.2 (okA_clr hF hA)) h0 rfl rfl (Nat.le_of_ble_eq_true rfl) (Nat.le_of_ble_eq_true rfl) (Nat.le_of_ble_eq_true rfl) ⟨rfl, rfl⟩ rfl hu4 (fun u5 hu5 => ?_)
                              refine e_if_ne (t := 951) dL_law_946 rfl rfl (by decide) (fun _ => ?_) (fun h => absurd (by decide : ¬ (1 : Int) = 0) h)
                              refine e_iload_n dL_law_951 rfl rfl ?_
                              refine e_iconst dL_law_952 rfl ?_
                              refine e_icmp_le (t := 972) dL_law_953 rfl rfl (by omega) (by omega) (fun h953 => ?_) (fun h953 => ?_)
                              · refine e_iload dL_law_972 rfl rfl ?_
                                refine e_if_le (t := 994) dL_law_974 rfl rfl (by omega) (fun h974 => ?_) (fun h974 => ?_)
                                · refine EV.fewer (b1 := b1) ⟨by show b1.1 ≤ b.1 - 4; omega, by show b1.2 ≤ b.2 - 24; omega⟩ ?_
                                  refine EV.fgt 3 ?_
                                  refine EV.fgt 4 ?_
                                  refine EV.leq (ls' := [some (.ref bb), some (.ref q0), some (vi turn), none, none, some (vi (sSumD F)), some (vi (sPrs F)), some (vi (sMix F)), some (vi (sFor F)), some (vi (sLrg F)), some (vi (sCnt F)), some (vi (F.1 6)), some (vl (sSumM F)), none, none, some (vi ss), some (vi (F.1 10)), none, none, none, none]) rfl ?_
                                  refine EV.fgt 5 ?_
                                  refine EV.fgt 6 ?_
                                  refine EV.leq (ls' := [some (.ref bb), some (.ref q0), some (vi turn), none, none, none, none, some (vi (sMix F)), some (vi (sFor F)), some (vi (sLrg F)), some (vi (sCnt F)), some (vi (F.1 6)), some (vl (sSumM F)), none, none, some (vi ss), some (vi (F.1 10)), none, none, none, none]) rfl ?_
                                  refine EV.fgt 7 ?_
                                  refine EV.fgt 8 ?_
                                  refine EV.leq (ls' := [some (.ref bb), some (.ref q0), some (vi turn), none, none, none, none, none, none, some (vi (sLrg F)), some (vi (sCnt F)), some (vi (F.1 6)), some (vl (sSumM F)), none, none, some (vi ss), some (vi (F.1 10)), none, none, none, none]) rfl ?_
                                  refine EV.fgt 9 ?_
                                  refine EV.fgt 10 ?_
                                  refine EV.leq (ls' := [some (.ref bb), some (.ref q0), some (vi turn), none, none, none, none, none, none, none, none, some (vi (F.1 6)), some (vl (sSumM F)), none, none, some (vi ss), some (vi (F.1 10)), none, none, none, none]) rfl ?_
                                  refine EV.fgt 11 ?_
                                  refine EV.fgt 12 ?_
                                  refine EV.leq (ls' := [some (.ref bb), some (.ref q0), some (vi turn), none, none, none, none, none, none, none, none, none, none, none, none, some (vi ss), some (vi (F.1 10)), none, none, none, none]) rfl ?_
                                  refine EV.fgt 13 ?_
                                  refine EV.fgt 14 ?_
                                  refine EV.leq (ls' := [some (.ref bb), some (.ref q0), some (vi turn), none, none, none, none, none, none, none, none, none, none, none, none, some (vi ss), some (vi (F.1 10)), none, none, none, none]) rfl ?_
                                  refine EV.fgt 15 ?_
                                  refine EV.fgt 16 ?_
                                  refine EV.leq (ls' := [some (.ref bb), some (.ref q0), some (vi turn), none, none, none, none, none, none, none, none, none, none, none, none, none, none, none, none, none, none]) rfl ?_
                                  exact kk u5 hu5
                                · refine e_aload_n dL_law_977 rfl rfl ?_
                                  refine e_obs lk_L_241 rfl dL_law_978 rfl (N_X6_mixedShare hF (by omega)) h0 rfl rfl (Nat.le_of_ble_eq_true rfl) (Nat.le_of_ble_eq_true rfl) (Nat.le_of_ble_eq_true rfl) ⟨rfl, rfl⟩ rfl ?_
                                  refine e_iload dL_law_981 rfl rfl ?_
                                  refine e_i2f dL_law_983 rfl ?_
                                  refine e_iload dL_law_984 rfl rfl ?_
                                  refine e_i2f dL_law_986 rfl ?_
                                  refine e_fdiv dL_law_987 rfl (fp_div32 mx9 (by omega)) ?_
                                  refine e_fcmp dL_law_988 rfl ?_
                                  refine EV.eq (st' := [vi 0]) (by rw [fp_shareF mx9 (by omega)]; rfl) ?_
                                  refine e_if_eq (t := 994) dL_law_989 rfl rfl (by decide) (fun _ => ?_) (fun h => absurd (by decide : (0 : Int) = 0) h)
                                  refine EV.fewer (b1 := b1) ⟨by show b1.1 ≤ b.1 - 4; omega, by show b1.2 ≤ b.2 - 24; omega⟩ ?_
                                  refine EV.fgt 3 ?_
                                  refine EV.fgt 4 ?_
                                  refine EV.leq (ls' := [some (.ref bb), some (.ref q0), some (vi turn), none, none, some (vi (sSumD F)), some (vi (sPrs F)), some (vi (sMix F)), some (vi (sFor F)), some (vi (sLrg F)), some (vi (sCnt F)), some (vi (F.1 6)), some (vl (sSumM F)), none, none, some (vi ss), some (vi (F.1 10)), none, none, none, none]) rfl ?_
                                  refine EV.fgt 5 ?_
                                  refine EV.fgt 6 ?_
                                  refine EV.leq (ls' := [some (.ref bb), some (.ref q0), some (vi turn), none, none, none, none, some (vi (sMix F)), some (vi (sFor F)), some (vi (sLrg F)), some (vi (sCnt F)), some (vi (F.1 6)), some (vl (sSumM F)), none, none, some (vi ss), some (vi (F.1 10)), none, none, none, none]) rfl ?_
                                  refine EV.fgt 7 ?_
                                  refine EV.fgt 8 ?_
                                  refine EV.leq (ls' := [some (.ref bb), some (.ref q0), some (vi turn), none, none, none, none, none, none, some (vi (sLrg F)), some (vi (sCnt F)), some (vi (F.1 6)), some (vl (sSumM F)), none, none, some (vi ss), some (vi (F.1 10)), none, none, none, none]) rfl ?_
                                  refine EV.fgt 9 ?_
                                  refine EV.fgt 10 ?_
                                  refine EV.leq (ls' := [some (.ref bb), some (.ref q0), some (vi turn), none, none, none, none, none, none, none, none, some (vi (F.1 6)), some (vl (sSumM F)), none, none, some (vi ss), some (vi (F.1 10)), none, none, none, none]) rfl ?_
                                  refine EV.fgt 11 ?_
                                  refine EV.fgt 12 ?_
                                  refine EV.leq (ls' := [some (.ref bb), some (.ref q0), some (vi turn), none, none, none, none, none, none, none, none, none, none, none, none, some (vi ss), some (vi (F.1 10)), none, none, none, none]) rfl ?_
                                  refine EV.fgt 13 ?_
                                  refine EV.fgt 14 ?_
                                  refine EV.leq (ls' := [some (.ref bb), some (.ref q0), some (vi turn), none, none, none, none, none, none, none, none, none, none, none, none, some (vi ss), some (vi (F.1 10)), none, none, none, none]) rfl ?_
                                  refine EV.fgt 15 ?_
                                  refine EV.fgt 16 ?_
                                  refine EV.leq (ls' := [some (.ref bb), some (.ref q0), some (vi turn), none, none, none, none, none, none, none, none, none, none, none, none, none, none, none, none, none, none]) rfl ?_
                                  exact kk u5 hu5
                              · refine e_aload_n dL_law_956 rfl rfl ?_
                                refine e_obs lk_L_237 rfl dL_law_957 rfl (N_X6_meanDistance hF (by omega)) h0 rfl rfl (Nat.le_of_ble_eq_true rfl) (Nat.le_of_ble_eq_true rfl) (Nat.le_of_ble_eq_true rfl) ⟨rfl, rfl⟩ rfl ?_
                                refine e_iload dL_law_960 rfl rfl ?_
                                refine e_i2d dL_law_962 rfl ?_
                                refine e_iload_n dL_law_963 rfl rfl ?_
                                refine e_iconst dL_law_964 rfl ?_
                                refine e_isub dL_law_965 rfl ?_
                                refine e_i2d dL_law_966 rfl ?_
                                refine e_ddiv dL_law_967 rfl (fp_div64 sd9 (by omega)) ?_
                                refine e_dcmp dL_law_968 rfl ?_
                                refine EV.eq (st' := [vi 0]) (by rw [fp_mean sd9 (by omega)]; rfl) ?_
                                refine e_if_ne (t := 992) dL_law_969 rfl rfl (by decide) (fun h => absurd (by decide : (0 : Int) = 0) h) (fun _ => ?_)
                                refine e_iload dL_law_972 rfl rfl ?_
                                refine e_if_le (t := 994) dL_law_974 rfl rfl (by omega) (fun h974 => ?_) (fun h974 => ?_)
                                · refine EV.fewer (b1 := b1) ⟨by show b1.1 ≤ b.1 - 4; omega, by show b1.2 ≤ b.2 - 24; omega⟩ ?_
                                  refine EV.fgt 3 ?_
                                  refine EV.fgt 4 ?_
                                  refine EV.leq (ls' := [some (.ref bb), some (.ref q0), some (vi turn), none, none, some (vi (sSumD F)), some (vi (sPrs F)), some (vi (sMix F)), some (vi (sFor F)), some (vi (sLrg F)), some (vi (sCnt F)), some (vi (F.1 6)), some (vl (sSumM F)), none, none, some (vi ss), some (vi (F.1 10)), none, none, none, none]) rfl ?_
                                  refine EV.fgt 5 ?_
                                  refine EV.fgt 6 ?_
                                  refine EV.leq (ls' := [some (.ref bb), some (.ref q0), some (vi turn), none, none, none, none, some (vi (sMix F)), some (vi (sFor F)), some (vi (sLrg F)), some (vi (sCnt F)), some (vi (F.1 6)), some (vl (sSumM F)), none, none, some (vi ss), some (vi (F.1 10)), none, none, none, none]) rfl ?_
                                  refine EV.fgt 7 ?_
                                  refine EV.fgt 8 ?_
                                  refine EV.leq (ls' := [some (.ref bb), some (.ref q0), some (vi turn), none, none, none, none, none, none, some (vi (sLrg F)), some (vi (sCnt F)), some (vi (F.1 6)), some (vl (sSumM F)), none, none, some (vi ss), some (vi (F.1 10)), none, none, none, none]) rfl ?_
                                  refine EV.fgt 9 ?_
                                  refine EV.fgt 10 ?_
                                  refine EV.leq (ls' := [some (.ref bb), some (.ref q0), some (vi turn), none, none, none, none, none, none, none, none, some (vi (F.1 6)), some (vl (sSumM F)), none, none, some (vi ss), some (vi (F.1 10)), none, none, none, none]) rfl ?_
                                  refine EV.fgt 11 ?_
                                  refine EV.fgt 12 ?_
                                  refine EV.leq (ls' := [some (.ref bb), some (.ref q0), some (vi turn), none, none, none, none, none, none, none, none, none, none, none, none, some (vi ss), some (vi (F.1 10)), none, none, none, none]) rfl ?_
                                  refine EV.fgt 13 ?_
                                  refine EV.fgt 14 ?_
                                  refine EV.leq (ls' := [some (.ref bb), some (.ref q0), some (vi turn), none, none, none, none, none, none, none, none, none, none, none, none, some (vi ss), some (vi (F.1 10)), none, none, none, none]) rfl ?_
                                  refine EV.fgt 15 ?_
                                  refine EV.fgt 16 ?_
                                  refine EV.leq (ls' := [some (.ref bb), some (.ref q0), some (vi turn), none, none, none, none, none, none, none, none, none, none, none, none, none, none, none, none, none, none]) rfl ?_
                                  exact kk u5 hu5
                                · refine e_aload_n dL_law_977 rfl rfl ?_
                                  refine e_obs lk_L_241 rfl dL_law_978 rfl (N_X6_mixedShare hF (by omega)) h0 rfl rfl (Nat.le_of_ble_eq_true rfl) (Nat.le_of_ble_eq_true rfl) (Nat.le_of_ble_eq_true rfl) ⟨rfl, rfl⟩ rfl ?_
                                  refine e_iload dL_law_981 rfl rfl ?_
                                  refine e_i2f dL_law_983 rfl ?_
                                  refine e_iload dL_law_984 rfl rfl ?_
                                  refine e_i2f dL_law_986 rfl ?_
                                  refine e_fdiv dL_law_987 rfl (fp_div32 mx9 (by omega)) ?_
                                  refine e_fcmp dL_law_988 rfl ?_
                                  refine EV.eq (st' := [vi 0]) (by rw [fp_shareF mx9 (by omega)]; rfl) ?_
                                  refine e_if_eq (t := 994) dL_law_989 rfl rfl (by decide) (fun _ => ?_) (fun h => absurd (by decide : (0 : Int) = 0) h)
                                  refine EV.fewer (b1 := b1) ⟨by show b1.1 ≤ b.1 - 4; omega, by show b1.2 ≤ b.2 - 24; omega⟩ ?_
                                  refine EV.fgt 3 ?_
                                  refine EV.fgt 4 ?_
                                  refine EV.leq (ls' := [some (.ref bb), some (.ref q0), some (vi turn), none, none, some (vi (sSumD F)), some (vi (sPrs F)), some (vi (sMix F)), some (vi (sFor F)), some (vi (sLrg F)), some (vi (sCnt F)), some (vi (F.1 6)), some (vl (sSumM F)), none, none, some (vi ss), some (vi (F.1 10)), none, none, none, none]) rfl ?_
                                  refine EV.fgt 5 ?_
                                  refine EV.fgt 6 ?_
                                  refine EV.leq (ls' := [some (.ref bb), some (.ref q0), some (vi turn), none, none, none, none, some (vi (sMix F)), some (vi (sFor F)), some (vi (sLrg F)), some (vi (sCnt F)), some (vi (F.1 6)), some (vl (sSumM F)), none, none, some (vi ss), some (vi (F.1 10)), none, none, none, none]) rfl ?_
                                  refine EV.fgt 7 ?_
                                  refine EV.fgt 8 ?_
                                  refine EV.leq (ls' := [some (.ref bb), some (.ref q0), some (vi turn), none, none, none, none, none, none, some (vi (sLrg F)), some (vi (sCnt F)), some (vi (F.1 6)), some (vl (sSumM F)), none, none, some (vi ss), some (vi (F.1 10)), none, none, none, none]) rfl ?_
                                  refine EV.fgt 9 ?_
                                  refine EV.fgt 10 ?_
                                  refine EV.leq (ls' := [some (.ref bb), some (.ref q0), some (vi turn), none, none, none, none, none, none, none, none, some (vi (F.1 6)), some (vl (sSumM F)), none, none, some (vi ss), some (vi (F.1 10)), none, none, none, none]) rfl ?_
                                  refine EV.fgt 11 ?_
                                  refine EV.fgt 12 ?_
                                  refine EV.leq (ls' := [some (.ref bb), some (.ref q0), some (vi turn), none, none, none, none, none, none, none, none, none, none, none, none, some (vi ss), some (vi (F.1 10)), none, none, none, none]) rfl ?_
                                  refine EV.fgt 13 ?_
                                  refine EV.fgt 14 ?_
                                  refine EV.leq (ls' := [some (.ref bb), some (.ref q0), some (vi turn), none, none, none, none, none, none, none, none, none, none, none, none, some (vi ss), some (vi (F.1 10)), none, none, none, none]) rfl ?_
                                  refine EV.fgt 15 ?_
                                  refine EV.fgt 16 ?_
                                  refine EV.leq (ls' := [some (.ref bb), some (.ref q0), some (vi turn), none, none, none, none, none, none, none, none, none, none, none, none, none, none, none, none, none, none]) rfl ?_
                                  exact kk u5 hu5
                          refine e_iload dL_law_911 rfl rfl ?_
                          refine e_sipush dL_law_913 rfl rfl ?_
                          refine e_icmp_eq (t := 931) dL_law_916 rfl rfl (by omega) (by omega) (fun h916 => ?_) (fun h916 => ?_)
                          · refine EV.fgt 13 ?_
                            refine EV.fgt 14 ?_
                            refine EV.fgt 17 ?_
                            refine EV.fgt 18 ?_
                            refine EV.fgt 19 ?_
                            refine EV.fgt 20 ?_
                            exact hJ931 ()
                          · refine e_iload dL_law_919 rfl rfl ?_
                            refine e_if_lt (t := 949) dL_law_921 rfl rfl (by omega) (fun h921 => ?_) (fun h921 => ?_)
                            · omega
                            · refine e_iload dL_law_924 rfl rfl ?_
                              refine e_iload dL_law_926 rfl rfl ?_
                              refine e_icmp_ge (t := 949) dL_law_928 rfl rfl (by omega) (by omega) (fun h928 => ?_) (fun h928 => ?_)
                              · omega
                              · refine EV.fgt 13 ?_
                                refine EV.fgt 14 ?_
                                refine EV.fgt 17 ?_
                                refine EV.fgt 18 ?_
                                refine EV.fgt 19 ?_
                                refine EV.fgt 20 ?_
                                exact hJ931 ()
                        refine e_iload dL_law_898 rfl rfl ?_
                        refine e_if_le (t := 911) dL_law_900 rfl rfl (by omega) (fun h900 => ?_) (fun h900 => ?_)
                        · refine EV.fgt 13 ?_
                          refine EV.fgt 14 ?_
                          refine EV.fgt 17 ?_
                          refine EV.fgt 18 ?_
                          refine EV.fgt 19 ?_
                          refine EV.fgt 20 ?_
                          exact hJ911 ()
                        · refine e_aload_n dL_law_903 rfl rfl ?_
                          refine e_obs lk_L_228 rfl dL_law_904 rfl (C_X6_differentShapes hF) h0 rfl rfl (Nat.le_of_ble_eq_true rfl) (Nat.le_of_ble_eq_true rfl) (Nat.le_of_ble_eq_true rfl) ⟨rfl, rfl⟩ rfl ?_
                          refine e_iconst dL_law_907 rfl ?_
                          refine e_icmp_lt (t := 949) dL_law_908 rfl rfl (by omega) (by omega) (fun h908 => ?_) (fun h908 => ?_)
                          · omega
                          · refine EV.fgt 13 ?_
                            refine EV.fgt 14 ?_
                            refine EV.fgt 17 ?_
                            refine EV.fgt 18 ?_
                            refine EV.fgt 19 ?_
                            refine EV.fgt 20 ?_
                            exact hJ911 ()
    · have ld := sLead_r (F := F) (s := k) hn.1
      refine e_aload_n dL_law_747 rfl rfl ?_
      refine e_iload dL_law_748 rfl rfl ?_
      refine e_obsH (av := [.ref (a 0), vi k]) (rest := []) lk_L_193 (by decide) dL_law_750 rfl (W_leaderAfter hF (by omega) (by omega)) (by rw [h0]; rfl) rfl (Nat.le_of_ble_eq_true rfl) (Nat.le_of_ble_eq_true rfl) (Nat.le_of_ble_eq_true rfl) b ⟨Nat.le_of_eq (Nat.zero_add _), Nat.le_of_eq (Nat.zero_add _)⟩ ?_
      refine e_aload_n dL_law_753 rfl rfl ?_
      refine e_iload dL_law_754 rfl rfl ?_
      refine e_obsH (av := [.ref (a 0), vi k]) (rest := [vi (sLead F k)]) lk_L_195 (by decide) dL_law_756 rfl (W_leaderAfterByCounting hF (by omega) (by omega)) (by rw [h0]; rfl) rfl (Nat.le_of_ble_eq_true rfl) (Nat.le_of_ble_eq_true rfl) (Nat.le_of_ble_eq_true rfl) b ⟨Nat.le_of_eq (Nat.zero_add _), Nat.le_of_eq (Nat.zero_add _)⟩ ?_
      refine e_icmp_ne (t := 781) dL_law_759 rfl rfl (by omega) (by omega) (fun h759 => ?_) (fun h759 => ?_)
      · exact absurd rfl h759
      · refine e_aload_n dL_law_762 rfl rfl ?_
        refine e_iload dL_law_763 rfl rfl ?_
        refine e_obsH (av := [.ref (a 0), vi k]) (rest := []) lk_L_193 (by decide) dL_law_765 rfl (W_leaderAfter hF (by omega) (by omega)) (by rw [h0]; rfl) rfl (Nat.le_of_ble_eq_true rfl) (Nat.le_of_ble_eq_true rfl) (Nat.le_of_ble_eq_true rfl) b ⟨Nat.le_of_eq (Nat.zero_add _), Nat.le_of_eq (Nat.zero_add _)⟩ ?_
        refine e_if_lt (t := 781) dL_law_768 rfl rfl (by omega) (fun h768 => ?_) (fun h768 => ?_)
        · omega
        · refine e_aload_n dL_law_771 rfl rfl ?_
          refine e_iload dL_law_772 rfl rfl ?_
          refine e_obsH (av := [.ref (a 0), vi k]) (rest := []) lk_L_193 (by decide) dL_law_774 rfl (W_leaderAfter hF (by omega) (by omega)) (by rw [h0]; rfl) rfl (Nat.le_of_ble_eq_true rfl) (Nat.le_of_ble_eq_true rfl) (Nat.le_of_ble_eq_true rfl) b ⟨Nat.le_of_eq (Nat.zero_add _), Nat.le_of_eq (Nat.zero_add _)⟩ ?_
          refine e_iload_n dL_law_777 rfl rfl ?_
          refine e_icmp_lt (t := 783) dL_law_778 rfl rfl (by omega) (by omega) (fun h778 => ?_) (fun h778 => ?_)
          · refine f_iinc dL_law_783 rfl rfl (Nat.le_of_ble_eq_true rfl) rfl ?_
            refine e_goto (n := 740) dL_law_786 rfl ?_
            refine EV.fgt 13 ?_
            refine EV.fgt 14 ?_
            refine EV.fgt 16 ?_
            refine EV.fgt 17 ?_
            refine EV.fgt 18 ?_
            refine EV.fgt 19 ?_
            refine EV.fgt 20 ?_
            exact ih740 _ (by omega) (k + 7) rfl (by omega)
          · omega
  refine EV.fgt 13 ?_
  refine EV.fgt 14 ?_
  refine EV.fgt 16 ?_
  refine EV.fgt 17 ?_
  refine EV.fgt 18 ?_
  refine EV.fgt 19 ?_
  refine EV.fgt 20 ?_
  exact hL740 _ 0 rfl (by omega)
