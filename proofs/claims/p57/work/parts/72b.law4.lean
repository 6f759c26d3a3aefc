set_option maxHeartbeats 4000000 in
theorem S_4 {X : eXT} {a : Nat → Nat} {b : Nat × Nat} {N : Int} {F : eFs} {u : eUs} {q0 bb : Nat} {turn : Int} (hF : okF N F) (hn : 1 ≤ F.1 0 ∧ F.1 0 ≤ 9) (h0 : q0 = a 0)
    (hu : okU u) {b1 : Nat × Nat} (hb : b1.1 + 1440 ≤ b.1 ∧ b1.2 + 13248 ≤ b.2)
    (kk : ∀ (a2 : Nat → Nat) (u2 : eUs), q0 = a2 0 → okU u2 → EV (lK X) a2 b1 (wB a2 F u2 []) 737 [some (.ref bb), some (.ref q0), some (vi turn), some (vi (F.1 0)), some (vi (F.1 1)), some (vi (sSumD F)), some (vi (sPrs F)), some (vi (sMix F)), some (vi (sFor F)), some (vi (sLrg F)), some (vi (sCnt F)), some (vi (F.1 6)), some (vl (sSumM F)), none, none, none, none, none, none, none, none] []) :
    EV (lK X) a b (wB a F u []) 584 [some (.ref bb), some (.ref q0), some (vi turn), some (vi (F.1 0)), some (vi (F.1 1)), some (vi (sSumD F)), some (vi (sPrs F)), some (vi (sMix F)), some (vi (sFor F)), some (vi (sLrg F)), some (vi 0), some (vi (F.1 6)), some (vl (sSumM F)), none, none, none, none, none, none, none, none] [] := by
  have hc := hF.1
  refine e_iconst dL_law_584 rfl ?_
  refine f_istore dL_law_585 rfl (Nat.le_of_ble_eq_true rfl) rfl ?_
  have hL587 : ∀ (k587 : Nat) (y sm : Int) (a : Nat → Nat) (u : eUs) (b : Nat × Nat) (hk587 : (12 - y).toNat = k587) (g587 : 0 ≤ y ∧ y ≤ 12) (h0 : q0 = a 0) (u587 : okU u) (b587 : b1.1 + 120 * (12 - y).toNat ≤ b.1 ∧ b1.2 + 1104 * (12 - y).toNat ≤ b.2) (s587 : sm + eSB (lCl F) 12 y = sCnt F) (r587 : 0 ≤ sm ∧ sm ≤ 12 * y), EV (lK X) a b (wB a F u []) 587 [some (.ref bb), some (.ref q0), some (vi turn), some (vi (F.1 0)), some (vi (F.1 1)), some (vi (sSumD F)), some (vi (sPrs F)), some (vi (sMix F)), some (vi (sFor F)), some (vi (sLrg F)), some (vi sm), some (vi (F.1 6)), some (vl (sSumM F)), none, none, some (vi y), none, none, none, none, none] [] := by
    intro k587
    induction k587 using Nat.strongRecOn with
    | _ k587 ih587 =>
    intro y sm a u b hk587 g587 h0 u587 b587 s587 r587
    refine e_iload dL_law_587 rfl rfl ?_
    refine e_bipush dL_law_589 rfl rfl ?_
    refine e_icmp_ge (t := 737) dL_law_591 rfl rfl (by omega) (by omega) (fun h591 => ?_) (fun h591 => ?_)
    · have e0 : y = 12 := by omega
      subst e0
      rw [eSB_end (Int.le_refl _)] at s587
      have e9 : sm = sCnt F := by omega
      subst e9
      refine EV.fewer (b1 := b1) ⟨by omega, by omega⟩ ?_
      refine EV.fgt 15 ?_
      refine EV.fgt 16 ?_
      refine EV.fgt 17 ?_
      refine EV.fgt 18 ?_
      exact kk a u h0 u587
    · have hy11 := (show y ≤ 11 by omega)
      refine e_ldcS (si := 16) rfl dL_law_594 rfl ?_
      refine f_astore dL_law_596 rfl (Nat.le_of_ble_eq_true rfl) rfl ?_
      refine e_iconst dL_law_598 rfl ?_
      refine f_istore dL_law_599 rfl (Nat.le_of_ble_eq_true rfl) rfl ?_
      have hL601 : ∀ (k601 : Nat) (x sx : Int) (a : Nat → Nat) (tr : List eE) (q : Nat) (g : Int → Int) (b2 : Nat × Nat) (hk601 : (12 - x).toNat = k601) (g601 : 0 ≤ x ∧ x ≤ 12) (h0 : q0 = a 0) (b601 : (b.1 - 120) + 10 * (12 - x).toNat ≤ b2.1 ∧ (b.2 - 1104) + 92 * (12 - x).toNat ≤ b2.2) (w601 : lRow X a 0 tr q x.toNat g) (v601 : ∀ j, 0 ≤ g j ∧ g j ≤ 127) (e601 : ∀ j : Int, 0 ≤ j → j < x → g j = sSgn F j y) (s601 : sx + eCB (fun i => sCov (F.2 4) i y) 12 x = sm + lCl F y) (r601 : 0 ≤ sx ∧ sx ≤ sm + x), EV (lK X) a b2 (wB a F u tr) 601 [some (.ref bb), some (.ref q0), some (vi turn), some (vi (F.1 0)), some (vi (F.1 1)), some (vi (sSumD F)), some (vi (sPrs F)), some (vi (sMix F)), some (vi (sFor F)), some (vi (sLrg F)), some (vi sx), some (vi (F.1 6)), some (vl (sSumM F)), none, none, some (vi y), some (.ref q), some (vi x), none, none, none] [] := by
        intro k601
        induction k601 using Nat.strongRecOn with
        | _ k601 ih601 =>
        intro x sx a tr q g b2 hk601 g601 h0 b601 w601 v601 e601 s601 r601
        refine e_iload dL_law_601 rfl rfl ?_
        refine e_bipush dL_law_603 rfl rfl ?_
        refine e_icmp_ge (t := 714) dL_law_605 rfl rfl (by omega) (by omega) (fun h605 => ?_) (fun h605 => ?_)
        · have x12 : x = 12 := by omega
          subst x12
          rw [eCB_end (Int.le_refl _)] at s601
          have e9 : sx = sm + lCl F y := by omega
          subst e9
          rcases w601 with ⟨-, -, w⟩ | ⟨w1, w2⟩
          · exact absurd w (by decide)
          subst w1; subst w2
          refine e_aload_n dL_law_714 rfl rfl ?_
          refine e_aload_n dL_law_715 rfl rfl ?_
          refine e_iload dL_law_716 rfl rfl ?_
          refine e_dsc lk_L_186 rfl dL_law_718 rfl (N_X6_describeRow hF (by omega)) h0 rfl rfl (Nat.le_of_ble_eq_true rfl) (Nat.le_of_ble_eq_true rfl) (Nat.le_of_ble_eq_true rfl) ⟨rfl, rfl⟩ rfl ?_
          have hu6 : okU (zS u.1 4 12, (fun x => sSgn F x y), u.2.2) := ⟨⟨u587.1.1, u587.1.2.1, u587.1.2.2.1, u587.1.2.2.2.1, Or.inr rfl⟩, fun j => sSgn_in hc, u587.2.2⟩
          refine e_aload dL_law_721 rfl rfl ?_
          have s0 : (wB a F (zS u.1 4 12, (fun x => sSgn F x y), u.2.2) (cSt a 0 (12 : Int).toNat g))[131]? = some (.inr (8, [.ref (a (131 + 0 + 1)), vi 0, vi 0, vi 0])) := by
            rw [wB_nil]
            exact (at_R (k := 0) (by rw [wB_len]; rfl)).trans rfl
          have s1 : (wB a F (zS u.1 4 12, (fun x => sSgn F x y), u.2.2) (cSt a 0 (12 : Int).toNat g))[131 + 0 + 1]? = some (eI 3 12 g) := by
            rw [wB_nil]
            exact (at_R (k := 1) (by rw [wB_len]; rfl)).trans rfl
          have rd : eRd (lK X) a (wB a F (zS u.1 4 12, (fun x => sSgn F x y), u.2.2) (cSt a 0 (12 : Int).toNat g)) [0, 130] [wO (a 1) (a 11) (a 21) (a 31) (a 113) (a 116) (a 130) (zS u.1 4 12), eI 2 12 (fun x => sSgn F x y)] (some (.inr (a 131, a (131 + 0 + 1), 12, fun k => Int32.ofInt (g (k : Int))))) := eRd.world rfl s0 s1 (by decide) (by decide) (by decide)
          refine e_xS2 [0, 130] (av := [.ref (a 0), vi 12, .ref (a 131)]) (rest := []) lk_L_189 rfl dL_law_723 rfl (N_L_isLine (a := fun k => a (eR [0, 130] k)) (z := zS u.1 4 12) (ln := fun x => sSgn F x y) hu6.1 hu6.2.1 rfl v601 (fun j j0 j1 => (e601 j j0 j1).symm)) rd (by rw [h0]; rfl) rfl (Nat.le_of_ble_eq_true rfl) (Nat.le_of_ble_eq_true rfl) (Nat.le_of_ble_eq_true rfl) ⟨rfl, rfl⟩ rfl rfl rfl (eMrg_same _ _ rfl) ?_
          refine e_if_ne (t := 731) dL_law_726 rfl rfl (by decide) (fun _ => ?_) (fun h => absurd (by decide : ¬ (1 : Int) = 0) h)
          refine f_iinc dL_law_731 rfl rfl (Nat.le_of_ble_eq_true rfl) rfl ?_
          refine e_goto (n := 587) dL_law_734 rfl ?_
          refine EV.fgt 13 ?_
          refine EV.fgt 14 ?_
          refine EV.fgt 16 ?_
          refine EV.fgt 17 ?_
          refine EV.fgt 18 ?_
          refine EV.fgt 19 ?_
          refine EV.fgt 20 ?_
          refine EV.ceq wB_nil (EV.less ?_)
          refine EV.fewer (b1 := (b.1 - 120, b.2 - 1104)) ⟨by show b.1 - 120 ≤ _; omega, by show b.2 - 1104 ≤ _; omega⟩ ?_
          exact ih587 _ (by omega) (y + 1) (sm + lCl F y) a (zS u.1 4 12, (fun x => sSgn F x y), u.2.2) (b.1 - 120, b.2 - 1104) rfl (by omega) h0 hu6 (by show b1.1 + 120 * (12 - (y + 1)).toNat ≤ b.1 - 120 ∧ b1.2 + 1104 * (12 - (y + 1)).toNat ≤ b.2 - 1104; omega) (by have q := eSB_go (f := lCl F) (n := 12) (i := y) (by omega); omega) (by have q := lCl_in (F := F) y; omega)
        · have hin : sIn x y := by omega
          refine e_aload_n dL_law_608 rfl rfl ?_
          refine e_iload dL_law_609 rfl rfl ?_
          refine e_iload dL_law_611 rfl rfl ?_
          refine e_obsH (av := [.ref (a 0), vi x, vi y]) (rest := []) lk_L_166 (by decide) dL_law_613 rfl (W_basketAt hF hin) (by rw [h0]; rfl) rfl (Nat.le_of_ble_eq_true rfl) (Nat.le_of_ble_eq_true rfl) (Nat.le_of_ble_eq_true rfl) (b2.1 - 2, b2.2 - 12) ⟨(by show 2 + (b2.1 - 2) ≤ _; omega), (by show 12 + (b2.2 - 12) ≤ _; omega)⟩ ?_
          obtain ⟨zz, hz⟩ : ∃ zz, zz = if sAt F x y = -1 then -30000 else sAt F x y := ⟨_, rfl⟩
          refine EV.eq (st' := [vi zz]) (by rw [hz]) ?_
          refine f_istore dL_law_616 rfl (Nat.le_of_ble_eq_true rfl) rfl ?_
          refine EV.leq (ls' := [some (.ref bb), some (.ref q0), some (vi turn), some (vi (F.1 0)), some (vi (F.1 1)), some (vi (sSumD F)), some (vi (sPrs F)), some (vi (sMix F)), some (vi (sFor F)), some (vi (sLrg F)), some (vi sx), some (vi (F.1 6)), some (vl (sSumM F)), none, none, some (vi y), some (.ref q), some (vi ((x.toNat : Nat) : Int)), some (vi zz), none, none]) (by rw [Int.toNat_of_nonneg g601.1] <;> rfl) ?_
          refine S_cell (b1 := (b2.1 - 10, b2.2 - 92)) hF h0 (by omega) (by omega) w601 v601 (fun j j0 j1 => e601 j j0 (by omega)) (by rw [Int.toNat_of_nonneg g601.1]; exact hz) ⟨by show b2.1 - 10 + 8 ≤ b2.1 - 2; omega, by show b2.2 - 92 + 80 ≤ b2.2 - 12; omega⟩ (fun a1 g1 h01 g19 g18 => ?_)
          refine EV.leq (ls' := [some (.ref bb), some (.ref q0), some (vi turn), some (vi (F.1 0)), some (vi (F.1 1)), some (vi (sSumD F)), some (vi (sPrs F)), some (vi (sMix F)), some (vi (sFor F)), some (vi (sLrg F)), some (vi sx), some (vi (F.1 6)), some (vl (sSumM F)), none, none, some (vi y), some (.ref (a1 131)), some (vi x), some (vi zz), none, none]) (by rw [Int.toNat_of_nonneg g601.1] <;> rfl) ?_
          refine e_iload dL_law_687 rfl rfl ?_
          refine e_aload_n dL_law_689 rfl rfl ?_
          refine e_iload dL_law_690 rfl rfl ?_
          refine e_iload dL_law_692 rfl rfl ?_
          have hJ705 : ∀ (v5 : Int) (x705 : v5 = eI1 (sCov (F.2 4) x y)), EV (lK X) a1 (b2.1 - 10, b2.2 - 92) (wB a1 F u (cSt a1 0 (x.toNat + 1) g1)) 705 [some (.ref bb), some (.ref q0), some (vi turn), some (vi (F.1 0)), some (vi (F.1 1)), some (vi (sSumD F)), some (vi (sPrs F)), some (vi (sMix F)), some (vi (sFor F)), some (vi (sLrg F)), some (vi sx), some (vi (F.1 6)), some (vl (sSumM F)), none, none, some (vi y), some (.ref (a1 131)), some (vi x), none, none, none] [vi v5, vi sx] := by
            intro v5 x705
            have qv := eI1_b (c := sCov (F.2 4) x y)
            refine e_iadd dL_law_705 rfl ?_
            refine f_istore dL_law_706 rfl (Nat.le_of_ble_eq_true rfl) rfl ?_
            refine f_iinc dL_law_708 rfl rfl (Nat.le_of_ble_eq_true rfl) rfl ?_
            refine e_goto (n := 601) dL_law_711 rfl ?_
            refine EV.fgt 13 ?_
            refine EV.fgt 14 ?_
            refine EV.fgt 18 ?_
            refine EV.fgt 19 ?_
            refine EV.fgt 20 ?_
            exact ih601 _ (by omega) (x + 1) (sx + v5) a1 (cSt a1 0 (x.toNat + 1) g1) (a1 131) g1 (b2.1 - 10, b2.2 - 92) rfl (by omega) h01 (by show b.1 - 120 + 10 * (12 - (x + 1)).toNat ≤ b2.1 - 10 ∧ b.2 - 1104 + 92 * (12 - (x + 1)).toNat ≤ b2.2 - 92; omega) (by rw [show (x + 1).toNat = x.toNat + 1 by omega]; exact Or.inr ⟨rfl, rfl⟩) g19 (fun j j0 j1 => g18 j j0 (by omega)) (by have q := eCB_go (P := fun i => sCov (F.2 4) i y) (n := 12) (i := x) (by omega); (try dsimp only at q); omega) (by have q := eI1_b (c := sCov (F.2 4) x y); omega)
          refine e_obs lk_L_154 rfl dL_law_694 rfl (N_X6_isCloud hF hin) h01 rfl rfl (Nat.le_of_ble_eq_true rfl) (Nat.le_of_ble_eq_true rfl) (Nat.le_of_ble_eq_true rfl) ⟨rfl, rfl⟩ rfl ?_
          refine e_ifb_eq (t := 704) dL_law_697 rfl rfl (fun h697 => ?_) (fun h697 => ?_)
          · refine e_iconst dL_law_704 rfl ?_
            refine EV.fgt 13 ?_
            refine EV.fgt 14 ?_
            refine EV.fgt 18 ?_
            refine EV.fgt 19 ?_
            refine EV.fgt 20 ?_
            exact hJ705 0 (by unfold eI1; split <;> omega)
          · refine e_iconst dL_law_700 rfl ?_
            refine e_goto (n := 705) dL_law_701 rfl ?_
            refine EV.fgt 13 ?_
            refine EV.fgt 14 ?_
            refine EV.fgt 18 ?_
            refine EV.fgt 19 ?_
            refine EV.fgt 20 ?_
            exact hJ705 1 (by unfold eI1; split <;> omega)
      refine EV.fgt 13 ?_
      refine EV.fgt 14 ?_
      refine EV.fgt 18 ?_
      refine EV.fgt 19 ?_
      refine EV.fgt 20 ?_
      exact hL601 _ 0 sm a [] _ (fun _ => 0) b rfl (by omega) h0 (by omega) (Or.inl ⟨rfl, rfl, rfl⟩) (fun _ => ⟨Int.le_refl 0, by decide⟩) (fun j j0 j1 => by omega) rfl (by omega)
  refine EV.fgt 13 ?_
  refine EV.fgt 14 ?_
  refine EV.fgt 16 ?_
  refine EV.fgt 17 ?_
  refine EV.fgt 18 ?_
  refine EV.fgt 19 ?_
  refine EV.fgt 20 ?_
  exact hL587 _ 0 0 a u b rfl (by omega) h0 hu (by omega) ((Int.zero_add _).trans lCl_all) (by omega)
