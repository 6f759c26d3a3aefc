/-! ===== the reference: a step ===== -/
theorem tik_mv {F : eFs} {b u v : Int} : sMv (sTik F) b u v = sTik (sMv F b u v) := rfl
theorem tik_wt {F : eFs} : sWt (sTik F) = sTik (sWt F) := by
  refine Prod.ext ?_ rfl
  funext j
  show (if j = 8 then (if (8 : Nat) = 7 then F.1 7 + 1 else F.1 8) + 1 else if j = 7 then F.1 7 + 1 else F.1 j) = (if j = 7 then (if (7 : Nat) = 8 then F.1 8 + 1 else F.1 7) + 1 else if j = 8 then F.1 8 + 1 else F.1 j)
  by_cases h : j = 7
  · subst h; rfl
  · by_cases h2 : j = 8
    · subst h2; rfl
    · rw [if_neg h2, if_neg h, if_neg h, if_neg h2]
theorem tik_wayL {F : eFs} : sWayL (sTik F) = sWayL F := rfl
theorem tik_ml {F : eFs} : sML (sTik F) = sTik (sML F) ∧ sMLr (sTik F) = sMLr F := by
  refine ⟨?_, rfl⟩
  unfold sML
  rw [tik_wayL]
  (repeat' split) <;> first | rfl | exact tik_wt
theorem tik_way {F : eFs} {b : Int} : sWay (sTik F) b = sWay F b := rfl
theorem tik_mf {F : eFs} {b : Int} : sMF (sTik F) b = sTik (sMF F b) ∧ sMFr (sTik F) b = sMFr F b := by
  refine ⟨?_, rfl⟩
  unfold sMF
  rw [tik_way]
  (repeat' split) <;> first | rfl | exact tik_wt
theorem tik_fols : ∀ (k : Nat) (b : Int) (F : eFs), sFols k b (sTik F) = sTik (sFols k b F) ∧ sFolr k b (sTik F) = sFolr k b F := by
  intro k
  induction k with
  | zero => intro b F; exact ⟨rfl, rfl⟩
  | succ k ih =>
    intro b F
    show sFols k (b + 1) (sMF (sTik F) b) = _ ∧ sMFr (sTik F) b + sFolr k (b + 1) (sMF (sTik F) b) = _
    rw [tik_mf.1, tik_mf.2]
    exact ⟨(ih _ _).1, by rw [(ih _ _).2]; rfl⟩
theorem tik_fa {F : eFs} : sFA (sTik F) = sTik (sFA F) ∧ sFAr (sTik F) = sFAr F := tik_fols _ _ _
theorem tik_shF {F : eFs} : ∀ (k : Nat) (i : Int) (w : Int → Int), sShF (sTik F) k i w = sShF F k i w := by
  intro k
  induction k with
  | zero => intro i w; rfl
  | succ k ih => intro i w; exact ih _ _
theorem tik_rem {F : eFs} : sRem (sTik F) = sTik (sRem F) := by
  have e : sShp (sTik F) = sShp F := tik_shF _ _ _
  by_cases h : 0 < F.1 0
  · rw [(sRem_y (P := fun _ => 0) h).1, (sRem_y (F := sTik F) (P := fun _ => 0) h).1, e]
    refine Prod.ext ?_ rfl
    funext j
    by_cases h7 : j = 7
    · subst h7; rfl
    · by_cases h10 : j = 10
      · subst h10; rfl
      · by_cases h11 : j = 11
        · subst h11; rfl
        · show (if j = 11 then _ else if j = 10 then _ else if j = 7 then _ else F.1 j) = (if j = 7 then _ else if j = 11 then _ else if j = 10 then _ else F.1 j)
          rw [if_neg h11, if_neg h10, if_neg h7, if_neg h7, if_neg h11, if_neg h10]
  · rw [(sRem_n (P := fun _ => 0) h).1, (sRem_n (F := sTik F) (P := fun _ => 0) h).1]
theorem sStp_tik {F : eFs} : sStp F = sPL (sRem (sFA (sML (sTik F)))) ∧ sStpR F = sMLr (sTik F) + sFAr (sML (sTik F)) := by
  rw [tik_ml.1, tik_ml.2, tik_fa.1, tik_fa.2, tik_rem]
  exact ⟨rfl, rfl⟩
theorem sStp_none {N : Int} {F : eFs} (hF : okF N F) (h : F.1 0 = 0) : sStp F = sTik F ∧ sStpR F = 0 := by
  have hg : F.1 4 = -1 := hF.2.2.2.2.1.2.2.2.2.2 h
  have e1 := sML_0 (sWayL_0 (F := F) (Or.inl hg))
  have e2 : sFA F = F ∧ sFAr F = 0 := by
    have := sFols_end (n := F.1 0) (b := 0) (F := F) (by omega)
    exact this
  have e3 : sRem F = F := (sRem_n (P := fun _ => 0) (by omega)).1
  unfold sStp sStpR
  rw [e1.1, e1.2, e2.1, e2.2, e3]
  refine ⟨?_, rfl⟩
  unfold sPL
  exact if_pos (show F.1 0 < 1 by omega)
/-- the lead passes on in the reference's row -/
def mPL (F : eFs) (x : Int → Int) : Int → Int := if F.1 2 + 1 = F.1 3 then eU (eU (eU x 3 (F.1 2 + 1)) 3 0) 2 (if F.1 1 + 1 < F.1 0 then F.1 1 + 1 else 0) else eU x 3 (F.1 2 + 1)
theorem mR_num {F G : eFs} {x y : Int → Int} (hc : 0 ≤ F.1 0 ∧ F.1 0 ≤ 10) (h9 : F.1 9 ≤ 8) (hR : mR F x) (h2 : G.2 = F.2) (e0 : G.1 0 = F.1 0) (e9 : G.1 9 = F.1 9) (e10 : G.1 10 = F.1 10) (e11 : G.1 11 = F.1 11) (hn : mRn G y) (h : ∀ j, 10 ≤ j → y j = x j) : mR G y := by
  obtain ⟨q1, q2, ⟨q3, q4, q5⟩, q6⟩ := hR
  refine ⟨hn, fun k k0 k1 => ?_, ⟨fun u v i => ?_, fun k k0 k1 => ?_, fun k j k0 k1 j1 => ?_⟩, fun k k0 k1 => ?_⟩
  · rw [e0] at k1
    rw [h _ (by omega), h _ (by omega), h _ (by omega), h _ (by omega), h2]; exact q2 k k0 k1
  · rw [h2, q3 u v i, e9]
    constructor
    · rintro ⟨k, k0, k1, e⟩; exact ⟨k, k0, k1, by rw [h _ (by omega)]; exact e⟩
    · rintro ⟨k, k0, k1, e⟩; exact ⟨k, k0, k1, by rw [h _ (by omega)] at e; exact e⟩
  · rw [e9] at k1
    rw [h _ (by omega)]; exact q4 k k0 k1
  · rw [e9] at j1
    rw [h _ (by omega), h _ (by omega)]; exact q5 k j k0 k1 j1
  · rw [e10] at k1
    rw [h2, e11]
    exact mSh_cong (fun r r0 r1 => h _ (by omega)) (q6 k k0 k1)
theorem mR_pl {N : Int} {F : eFs} {x : Int → Int} (hF : okF N F) (hR : mR F x) (h0 : 1 ≤ F.1 0) : mR (sPL F) (mPL F x) ∧ mFr x (mPL F x) := by
  obtain ⟨hc, hld, hled, htn, hgo, hkp, hst, hwt, hcl, hsh, hnx, hN, rx, ry, rh, rm, rc, rw9⟩ := hF
  obtain ⟨a0, a1, a2, a3, a4, a5, a6, a7, a8, a9⟩ := hR.1
  unfold sPL mPL
  rw [if_neg (by omega)]
  by_cases e : F.1 2 + 1 = F.1 3
  · rw [if_neg (by omega), if_pos e]
    refine ⟨mR_num hc hcl.2 hR rfl rfl rfl rfl rfl ⟨?_, ?_, ?_, ?_, ?_, ?_, ?_, ?_, ?_, ?_⟩ (fun j hj => ?_), fun j hj => ?_⟩
    all_goals first
      | (rw [eU_ne (by omega), eU_ne (by omega), eU_ne (by omega)]; assumption)
      | (rw [eU_ne (by omega), eU_ne (by omega), eU_ne (by omega)])
      | (rw [eU_self]; rfl)
      | (rw [eU_ne (by omega), eU_self]; rfl)
  · rw [if_pos (by omega), if_neg e]
    refine ⟨mR_num hc hcl.2 hR rfl rfl rfl rfl rfl ⟨?_, ?_, ?_, ?_, ?_, ?_, ?_, ?_, ?_, ?_⟩ (fun j hj => ?_), fun j hj => ?_⟩
    all_goals first
      | (rw [eU_ne (by omega)]; assumption)
      | (rw [eU_ne (by omega)])
      | (rw [eU_self]; rfl)
theorem mR_fr {x y w : Int → Int} (h : mFr x y) (h2 : mFr y w) : mFr x w := fun j hj => (h2 j hj).trans (h j hj)

theorem C_X7_steps {X : eXT} {a : Nat → Nat} {N : Int} {F M : eFs} (hF : okF N F) (hR : mR F (M.2 0)) (hN2 : N + 20 ≤ 100000000) :
    EM X mX7_steps (eRm 6) a [.ref (a 0)] (wM a M) (eRets (some (vi (sStpR F))) a (fun cs1 => ∃ sh x9 : Int → Int, cs1 = wM a (sR (sR M 1 sh) 0 x9) ∧ mR (sStp F) x9 ∧ mFr (M.2 0) x9)) := by
  refine EM.of (by decide +kernel) rfl (Nat.le_of_ble_eq_true rfl) ?_
  have hF0 := hF
  obtain ⟨hc, hld, hled, htn, hgo, hkp, hst, hwt, hcl, hsh, hnx, hN, rx, ry, rh, rm, rc, rw9⟩ := hF
  obtain ⟨⟨n0, n1, n2, n3, n4, n5, n6, n7, n8, n9⟩, hb, hcd, hss⟩ := id hR
  obtain ⟨xT, hxT⟩ : ∃ y, y = eU (M.2 0) 7 (M.2 0 7 + 1) := ⟨_, rfl⟩
  have oT : okF (N + 1) (sTik F) := okF_tik hF0 (by omega)
  have rT : mR (sTik F) xT := by rw [hxT]; exact mR_tik hF0 hR
  have fT : mFr (M.2 0) xT := fun j hj => by rw [hxT]; exact eU_ne (by omega)
  have e0T : xT 0 = F.1 0 := by rw [hxT, eU_ne (by omega), n0]
  refine e_iconst dX7_steps_0 rfl ?_
  refine f_istore_n dX7_steps_1 rfl (Nat.le_of_ble_eq_true rfl) rfl ?_
  refine e_aload_n dX7_steps_2 rfl rfl ?_
  refine e_getfield fd_X7_9 dX7_steps_3 rfl rfl rfl rfl ?_
  refine e_bipush dX7_steps_6 rfl rfl ?_
  refine e_dup2 dX7_steps_8 rfl rfl rfl ?_
  refine e_iaload dX7_steps_9 rfl rfl rfl (by omega) (by decide) ?_
  refine e_iconst dX7_steps_10 rfl ?_
  refine e_iadd dX7_steps_11 rfl ?_
  refine e_iastore dX7_steps_12 rfl rfl rfl (by omega) (by decide) ?_
  refine EV.ceq (cs' := wMx a M.1 (xT) (M.2 1) (M.2 2) (M.2 3) (M.2 4)) (by rw [hxT] <;> rfl) ?_
  refine e_aload_n dX7_steps_13 rfl rfl ?_
  refine e_getfield fd_X7_9 dX7_steps_14 rfl rfl rfl rfl ?_
  refine e_iconst dX7_steps_17 rfl ?_
  refine e_iaload dX7_steps_18 rfl rfl rfl (by omega) (by decide) ?_
  refine e_if_ne (t := 24) dX7_steps_19 rfl rfl (by omega) (fun h19 => ?_) (fun h19 => ?_)
  · have h0 : 1 ≤ F.1 0 := by omega
    refine e_iload_n dX7_steps_24 rfl rfl ?_
    refine e_aload_n dX7_steps_25 rfl rfl ?_
    refine e_cV1 [0, 1, 2, 3, 4, 5] lk_X7_105 rfl dX7_steps_26 rfl (C_X7_leads (M := sR M 0 xT) oT rT (by omega) h0) rfl rfl (Nat.le_of_ble_eq_true rfl) (Nat.le_of_ble_eq_true rfl) (Nat.le_of_ble_eq_true rfl) ⟨rfl, rfl⟩ rfl rfl rfl rfl rfl rfl (fun cs1 hcs => by obtain ⟨x1, hcs, -⟩ := hcs; rw [hcs]; rfl) ?_
    intro cs1 hcs
    obtain ⟨x1, hcs, hr1, hf1⟩ := hcs
    subst hcs
    refine EV.ceq (cs' := wMx a M.1 (x1) (M.2 1) (M.2 2) (M.2 3) (M.2 4)) rfl ?_
    refine e_iadd dX7_steps_29 rfl ?_
    refine f_istore_n dX7_steps_30 rfl (Nat.le_of_ble_eq_true rfl) rfl ?_
    refine e_iconst dX7_steps_31 rfl ?_
    refine f_istore_n dX7_steps_32 rfl (Nat.le_of_ble_eq_true rfl) rfl ?_
    have hL33 : ∀ (k33 : Nat) (k n : Int) (G : eFs) (x : Int → Int) (hk33 : (F.1 0 - k).toNat = k33) (g33 : 0 ≤ k ∧ k ≤ F.1 0) (o33 : okF (N + 2 + k) G) (c33 : G.1 0 = F.1 0) (r33 : mR G x) (f33 : mFr (M.2 0) x) (e33 : sFA (sML (sTik F)) = sFols (F.1 0 - k).toNat k G) (v33 : sMLr (sTik F) + sFAr (sML (sTik F)) = n + sFolr (F.1 0 - k).toNat k G), EV (mX7_steps, (eRm 6), eRets (some (vi (sStpR F))) a (fun cs1 => ∃ sh x9 : Int → Int, cs1 = wM a (sR (sR M 1 sh) 0 x9) ∧ mR (sStp F) x9 ∧ mFr (M.2 0) x9), X) a (0, 0) (wMx a M.1 (x) (M.2 1) (M.2 2) (M.2 3) (M.2 4)) 33 [some (.ref (a 0)), some (vi n), some (vi k)] [] := by
      intro k33
      induction k33 using Nat.strongRecOn with
      | _ k33 ih33 =>
      intro k n G x hk33 g33 o33 c33 r33 f33 e33 v33
      have rn33 : x 0 = G.1 0 := r33.1.1
      refine e_iload_n dX7_steps_33 rfl rfl ?_
      refine e_aload_n dX7_steps_34 rfl rfl ?_
      refine e_getfield fd_X7_9 dX7_steps_35 rfl rfl rfl rfl ?_
      refine e_iconst dX7_steps_38 rfl ?_
      refine e_iaload dX7_steps_39 rfl rfl rfl (by omega) (by decide) ?_
      refine e_icmp_ge (t := 57) dX7_steps_40 rfl rfl (by omega) (by omega) (fun h40 => ?_) (fun h40 => ?_)
      · have z1 : sFA (sML (sTik F)) = G := e33.trans (sFols_end (by omega)).1
        have z2 : sMLr (sTik F) + sFAr (sML (sTik F)) = n := v33.trans (by rw [(sFols_end (F := G) (n := F.1 0) (b := k) (by omega)).2]; omega)
        refine e_aload_n dX7_steps_57 rfl rfl ?_
        refine e_cV1 [0, 1, 2, 3, 4, 5] lk_X7_112 rfl dX7_steps_58 rfl (C_X7_remembers (M := sR M 0 x) o33 r33 (by omega)) rfl rfl (Nat.le_of_ble_eq_true rfl) (Nat.le_of_ble_eq_true rfl) (Nat.le_of_ble_eq_true rfl) ⟨rfl, rfl⟩ rfl rfl rfl rfl rfl rfl (fun cs1 hcs => by obtain ⟨sh, x1, hcs, -⟩ := hcs; rw [hcs]; rfl) ?_
        intro cs1 hcs
        obtain ⟨sh, x3, hcs, hr3, hs3, hf3⟩ := hcs
        subst hcs
        refine EV.ceq (cs' := wMx a M.1 (x3) (sh) (M.2 2) (M.2 3) (M.2 4)) rfl ?_
        have oR := okF_rem o33
        have fx := (sRem_fix (F := G)).1
        have o2 := oR.2.1
        have o3 := oR.2.2.1.1
        have o3b := oR.2.2.1.2.1
        have o4 := oR.2.2.2.1
        obtain ⟨b0, b1, b2, b3, b4, b5, b6, b7, b8, b9⟩ := hr3.1
        refine e_aload_n dX7_steps_61 rfl rfl ?_
        refine e_getfield fd_X7_9 dX7_steps_62 rfl rfl rfl rfl ?_
        refine e_iconst dX7_steps_65 rfl ?_
        refine e_dup2 dX7_steps_66 rfl rfl rfl ?_
        refine e_iaload dX7_steps_67 rfl rfl rfl (by omega) (by decide) ?_
        refine e_iconst dX7_steps_68 rfl ?_
        refine e_iadd dX7_steps_69 rfl ?_
        refine e_iastore dX7_steps_70 rfl rfl rfl (by omega) (by decide) ?_
        refine EV.ceq (cs' := wMx a M.1 (eU x3 3 (x3 3 + 1)) (sh) (M.2 2) (M.2 3) (M.2 4)) rfl ?_
        refine e_aload_n dX7_steps_71 rfl rfl ?_
        refine e_getfield fd_X7_9 dX7_steps_72 rfl rfl rfl rfl ?_
        refine e_iconst dX7_steps_75 rfl ?_
        refine e_iaload dX7_steps_76 rfl rfl rfl (by omega) (by decide) ?_
        refine EV.eq (st' := [vi ((sRem G).1 2 + 1)]) (by rw [← b3, eU_self] <;> rfl) ?_
        refine e_aload_n dX7_steps_77 rfl rfl ?_
        refine e_getfield fd_X7_9 dX7_steps_78 rfl rfl rfl rfl ?_
        refine e_iconst dX7_steps_81 rfl ?_
        refine e_iaload dX7_steps_82 rfl rfl rfl (by omega) (by decide) ?_
        refine EV.eq (st' := [vi ((sRem G).1 3), vi ((sRem G).1 2 + 1)]) (by rw [← b4, eU_ne (show (4 : Int) ≠ 3 by omega)] <;> rfl) ?_
        refine e_icmp_ne (t := 114) dX7_steps_83 rfl rfl (by omega) (by omega) (fun h83 => ?_) (fun h83 => ?_)
        · refine e_iload_n dX7_steps_114 rfl rfl ?_
          exact e_iret dX7_steps_115 rfl rfl ⟨by rw [sStp_tik.2, z2], rfl, sh, mPL (sRem G) x3, by unfold mPL; rw [if_neg (by omega), ← b3] <;> rfl, by rw [sStp_tik.1, z1]; exact (mR_pl oR hr3 (by omega)).1, mR_fr (mR_fr f33 hf3) (mR_pl oR hr3 (by omega)).2⟩
        · refine e_aload_n dX7_steps_86 rfl rfl ?_
          refine e_getfield fd_X7_9 dX7_steps_87 rfl rfl rfl rfl ?_
          refine e_iconst dX7_steps_90 rfl ?_
          refine e_iconst dX7_steps_91 rfl ?_
          refine e_iastore dX7_steps_92 rfl rfl rfl (by omega) (by decide) ?_
          refine EV.ceq (cs' := wMx a M.1 (eU (eU x3 3 (x3 3 + 1)) 3 0) (sh) (M.2 2) (M.2 3) (M.2 4)) rfl ?_
          refine e_aload_n dX7_steps_93 rfl rfl ?_
          refine e_getfield fd_X7_9 dX7_steps_94 rfl rfl rfl rfl ?_
          refine e_iconst dX7_steps_97 rfl ?_
          refine e_aload_n dX7_steps_98 rfl rfl ?_
          refine e_getfield fd_X7_9 dX7_steps_99 rfl rfl rfl rfl ?_
          refine e_iconst dX7_steps_102 rfl ?_
          refine e_iaload dX7_steps_103 rfl rfl rfl (by omega) (by decide) ?_
          refine EV.eq (st' := [vi ((sRem G).1 1), vi 2, .ref (a 1)]) (by rw [← b2, eU_ne (show (2 : Int) ≠ 3 by omega), eU_ne (show (2 : Int) ≠ 3 by omega)] <;> rfl) ?_
          refine e_iconst dX7_steps_104 rfl ?_
          refine e_iadd dX7_steps_105 rfl ?_
          refine e_aload_n dX7_steps_106 rfl rfl ?_
          refine e_getfield fd_X7_9 dX7_steps_107 rfl rfl rfl rfl ?_
          refine e_iconst dX7_steps_110 rfl ?_
          refine e_iaload dX7_steps_111 rfl rfl rfl (by omega) (by decide) ?_
          refine EV.eq (st' := [vi ((sRem G).1 0), vi ((sRem G).1 1 + 1), vi 2, .ref (a 1)]) (by rw [← b0, eU_ne (show (0 : Int) ≠ 3 by omega), eU_ne (show (0 : Int) ≠ 3 by omega)] <;> rfl) ?_
          have q7b : (if (sRem G).1 1 + 1 < (sRem G).1 0 then (sRem G).1 1 + 1 else 0) = ((sRem G).1 1 + 1).tmod ((sRem G).1 0) := by rw [Int.tmod_eq_emod_of_nonneg (by omega)]; split; rw [Int.emod_eq_of_lt (by omega) (by omega)]; rw [show (sRem G).1 1 + 1 = (sRem G).1 0 by omega, Int.emod_self]
          refine e_irem dX7_steps_112 rfl (by omega) (by omega) (by omega) ?_
          refine e_iastore dX7_steps_113 rfl rfl rfl (by omega) (by decide) ?_
          refine e_iload_n dX7_steps_114 rfl rfl ?_
          exact e_iret dX7_steps_115 rfl rfl ⟨by rw [sStp_tik.2, z2], rfl, sh, mPL (sRem G) x3, by unfold mPL; rw [if_pos (by omega), q7b, ← b3] <;> rfl, by rw [sStp_tik.1, z1]; exact (mR_pl oR hr3 (by omega)).1, mR_fr (mR_fr f33 hf3) (mR_pl oR hr3 (by omega)).2⟩
      · refine e_iload_n dX7_steps_43 rfl rfl ?_
        refine e_aload_n dX7_steps_44 rfl rfl ?_
        refine e_iload_n dX7_steps_45 rfl rfl ?_
        refine e_cV1 [0, 1, 2, 3, 4, 5] lk_X7_109 rfl dX7_steps_46 rfl (C_X7_follows (M := sR M 0 x) o33 r33 (show 0 ≤ k ∧ k < G.1 0 by omega) (by omega)) rfl rfl (Nat.le_of_ble_eq_true rfl) (Nat.le_of_ble_eq_true rfl) (Nat.le_of_ble_eq_true rfl) ⟨rfl, rfl⟩ rfl rfl rfl rfl rfl rfl (fun cs1 hcs => by obtain ⟨x1, hcs, -⟩ := hcs; rw [hcs]; rfl) ?_
        intro cs1 hcs
        obtain ⟨x2, hcs, hr2, hf2⟩ := hcs
        subst hcs
        refine EV.ceq (cs' := wMx a M.1 (x2) (M.2 1) (M.2 2) (M.2 3) (M.2 4)) rfl ?_
        refine e_iadd dX7_steps_49 rfl ?_
        refine f_istore_n dX7_steps_50 rfl (Nat.le_of_ble_eq_true rfl) rfl ?_
        refine f_iinc dX7_steps_51 rfl rfl (Nat.le_of_ble_eq_true rfl) rfl ?_
        refine e_goto (n := 33) dX7_steps_54 rfl ?_
        exact ih33 _ (by omega) (k + 1) (n + sMFr G k) (sMF G k) x2 rfl (by omega) (by rw [show N + 2 + (k + 1) = N + 2 + k + 1 by omega]; exact okF_mf o33 (by omega)) (sMF_fix.1.trans c33) hr2 (mR_fr f33 hf2) (e33.trans (sFols_go (by omega)).1) (by rw [v33, (sFols_go (F := G) (b := k) (n := F.1 0) (by omega)).2]; omega)
    exact hL33 _ 0 (0 + sMLr (sTik F)) (sML (sTik F)) x1 rfl (by omega) (by rw [show N + 2 + 0 = N + 1 + 1 by omega]; exact okF_ml oT (by omega)) sML_fix.1 hr1 (mR_fr fT hf1) (by unfold sFA; rw [show (sML (sTik F)).1 0 = F.1 0 from sML_fix.1]) (by unfold sFAr; rw [show (sML (sTik F)).1 0 = F.1 0 from sML_fix.1]; omega)
  · refine e_iconst dX7_steps_22 rfl ?_
    exact e_iret dX7_steps_23 rfl rfl ⟨by rw [(sStp_none hF0 (by omega)).2], rfl, M.2 1, xT, rfl, by rw [(sStp_none hF0 (by omega)).1]; exact rT, fT⟩
