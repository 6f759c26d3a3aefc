/-! ===== the reference: changes ===== -/
theorem mR_bk {F G : eFs} {x y : Int → Int} (hR : mR F x) (hn : mRn G y) (hb : mRb G y) (e4 : G.2 4 = F.2 4) (e5 : G.2 5 = F.2 5) (e9 : G.1 9 = F.1 9) (e10 : G.1 10 = F.1 10) (e11 : G.1 11 = F.1 11) (h : ∀ j, 50 ≤ j → y j = x j) : mR G y := by
  obtain ⟨q1, q2, ⟨q3, q4, q5⟩, q6⟩ := hR
  refine ⟨hn, hb, ⟨fun u v i => ?_, fun k k0 k1 => ?_, fun k j k0 k1 j1 => ?_⟩, fun k k0 k1 => ?_⟩
  · rw [e4, q3 u v i, e9]
    constructor
    · rintro ⟨k, k0, k1, e⟩; exact ⟨k, k0, k1, by rw [h _ (by omega)]; exact e⟩
    · rintro ⟨k, k0, k1, e⟩; exact ⟨k, k0, k1, by rw [h _ (by omega)] at e; exact e⟩
  · rw [e9] at k1
    rw [h _ (by omega)]; exact q4 k k0 k1
  · rw [e9] at j1
    rw [h _ (by omega), h _ (by omega)]; exact q5 k j k0 k1 j1
  · rw [e10] at k1
    rw [e5, e11]
    exact mSh_cong (fun r r0 r1 => h _ (by omega)) (q6 k k0 k1)
def mAd (n : Int) (x : Int → Int) (u v g : Int) : Int → Int := eU (eU (eU (eU (eU x 0 (x 0 + 1)) (10 + 4 * n + 0) u) (10 + 4 * n + 1) v) (10 + 4 * n + 2) g) (10 + 4 * n + 3) 0
theorem mAd_at {n u v g j : Int} {x : Int → Int} (h : ¬ (10 + 4 * n ≤ j ∧ j ≤ 13 + 4 * n)) (h0 : j ≠ 0) : mAd n x u v g j = x j := by
  unfold mAd
  rw [eU_ne (by omega), eU_ne (by omega), eU_ne (by omega), eU_ne (by omega), eU_ne h0]
theorem mR_ad {N : Int} {F : eFs} {x : Int → Int} {u v g : Int} (hF : okF N F) (hR : mR F x) (h0 : F.1 0 < 10) : mR (sAdd F u v g) (mAd (F.1 0) x u v g) ∧ mFr x (mAd (F.1 0) x u v g) := by
  obtain ⟨hc, hld, hled, htn, hgo, hkp, hst, hwt, hcl, hsh, hnx, hN, rx, ry, rh, rm, rc, rw9⟩ := hF
  have m := fun j (h : ¬ (10 + 4 * F.1 0 ≤ j ∧ j ≤ 13 + 4 * F.1 0)) (h0 : j ≠ 0) => mAd_at (x := x) (u := u) (v := v) (g := g) h h0
  refine ⟨mR_bk hR ?_ (fun k k0 k1 => ?_) rfl rfl rfl rfl rfl (fun j hj => m j (by omega) (by omega)), fun j hj => m j (by omega) (by omega)⟩
  · obtain ⟨a0, a1, a2, a3, a4, a5, a6, a7, a8, a9⟩ := hR.1
    unfold mRn
    rw [m 1 (by omega) (by omega), m 2 (by omega) (by omega), m 3 (by omega) (by omega), m 4 (by omega) (by omega), m 5 (by omega) (by omega), m 6 (by omega) (by omega), m 7 (by omega) (by omega), m 8 (by omega) (by omega), m 9 (by omega) (by omega)]
    refine ⟨?_, a1, a2, a3, a4, a5, a6, a7, a8, a9⟩
    show mAd (F.1 0) x u v g 0 = F.1 0 + 1
    unfold mAd
    rw [eU_ne (by omega), eU_ne (by omega), eU_ne (by omega), eU_ne (by omega), eU_self, a0]
  · have k1 : k < F.1 0 + 1 := k1
    show mAd (F.1 0) x u v g (10 + 4 * k + 0) = eU (F.2 0) (F.1 0) u k ∧ mAd (F.1 0) x u v g (10 + 4 * k + 1) = eU (F.2 1) (F.1 0) v k ∧ mAd (F.1 0) x u v g (10 + 4 * k + 2) = eU (F.2 2) (F.1 0) g k ∧ mAd (F.1 0) x u v g (10 + 4 * k + 3) = eU (F.2 3) (F.1 0) 0 k
    by_cases e : k = F.1 0
    · rw [e, eU_self, eU_self, eU_self, eU_self]
      unfold mAd
      rw [eU_ne (show 10 + 4 * F.1 0 + 0 ≠ 10 + 4 * F.1 0 + 3 by omega), eU_ne (show 10 + 4 * F.1 0 + 0 ≠ 10 + 4 * F.1 0 + 2 by omega), eU_ne (show 10 + 4 * F.1 0 + 0 ≠ 10 + 4 * F.1 0 + 1 by omega), eU_self, eU_ne (show 10 + 4 * F.1 0 + 1 ≠ 10 + 4 * F.1 0 + 3 by omega), eU_ne (show 10 + 4 * F.1 0 + 1 ≠ 10 + 4 * F.1 0 + 2 by omega), eU_self, eU_ne (show 10 + 4 * F.1 0 + 2 ≠ 10 + 4 * F.1 0 + 3 by omega), eU_self, eU_self]
      exact ⟨rfl, rfl, rfl, rfl⟩
    · rw [eU_ne e, eU_ne e, eU_ne e, eU_ne e, m _ (by omega) (by omega), m _ (by omega) (by omega), m _ (by omega) (by omega), m _ (by omega) (by omega)]
      exact hR.2.1 k k0 (by omega)
def mPt (x : Int → Int) (b u v : Int) : Int → Int := eU (eU x (10 + 4 * b + 0) u) (10 + 4 * b + 1) v
theorem mR_pt {N : Int} {F : eFs} {x : Int → Int} {b u v : Int} (hF : okF N F) (hR : mR F x) (hb : sHas F b) : mR (sPut F b u v) (mPt x b u v) ∧ mFr x (mPt x b u v) := by
  have hc := hF.1
  have hb1 := hb.2
  have hb0 := hb.1
  have m := fun j (h : j ≠ 10 + 4 * b + 0) (h1 : j ≠ 10 + 4 * b + 1) => (show mPt x b u v j = x j from (eU_ne h1).trans (eU_ne h))
  refine ⟨mR_bk hR ?_ (fun k k0 k1 => ?_) rfl rfl rfl rfl rfl (fun j hj => m j (by omega) (by omega)), fun j hj => m j (by omega) (by omega)⟩
  · unfold mRn
    rw [m 0 (by omega) (by omega), m 1 (by omega) (by omega), m 2 (by omega) (by omega), m 3 (by omega) (by omega), m 4 (by omega) (by omega), m 5 (by omega) (by omega), m 6 (by omega) (by omega), m 7 (by omega) (by omega), m 8 (by omega) (by omega), m 9 (by omega) (by omega)]
    exact hR.1
  · have k1 : k < F.1 0 := k1
    have hk := hR.2.1 k k0 k1
    show mPt x b u v (10 + 4 * k + 0) = eU (F.2 0) b u k ∧ mPt x b u v (10 + 4 * k + 1) = eU (F.2 1) b v k ∧ mPt x b u v (10 + 4 * k + 2) = F.2 2 k ∧ mPt x b u v (10 + 4 * k + 3) = F.2 3 k
    by_cases e : k = b
    · subst e
      rw [eU_self, eU_self, m (10 + 4 * k + 2) (by omega) (by omega), m (10 + 4 * k + 3) (by omega) (by omega)]
      exact ⟨(eU_ne (by omega)).trans eU_self, eU_self, hk.2.2.1, hk.2.2.2⟩
    · rw [eU_ne e, eU_ne e, m _ (by omega) (by omega), m _ (by omega) (by omega), m _ (by omega) (by omega), m _ (by omega) (by omega)]
      exact hk
theorem mR_hd {N : Int} {F : eFs} {x : Int → Int} {b g : Int} (hF : okF N F) (hR : mR F x) (hb : sHas F b) : mR (sHnd F b g) (eU x (10 + 4 * b + 2) g) ∧ mFr x (eU x (10 + 4 * b + 2) g) := by
  have hc := hF.1
  have hb1 := hb.2
  have hb0 := hb.1
  have m := fun j (h : j ≠ 10 + 4 * b + 2) => eU_ne (x := x) (v := g) h
  refine ⟨mR_bk hR ?_ (fun k k0 k1 => ?_) rfl rfl rfl rfl rfl (fun j hj => m j (by omega)), fun j hj => m j (by omega)⟩
  · unfold mRn
    rw [m 0 (by omega), m 1 (by omega), m 2 (by omega), m 3 (by omega), m 4 (by omega), m 5 (by omega), m 6 (by omega), m 7 (by omega), m 8 (by omega), m 9 (by omega)]
    exact hR.1
  · have k1 : k < F.1 0 := k1
    have hk := hR.2.1 k k0 k1
    show eU x (10 + 4 * b + 2) g (10 + 4 * k + 0) = F.2 0 k ∧ eU x (10 + 4 * b + 2) g (10 + 4 * k + 1) = F.2 1 k ∧ eU x (10 + 4 * b + 2) g (10 + 4 * k + 2) = eU (F.2 2) b g k ∧ eU x (10 + 4 * b + 2) g (10 + 4 * k + 3) = F.2 3 k
    by_cases e : k = b
    · subst e
      rw [eU_self, eU_self, m (10 + 4 * k + 0) (by omega), m (10 + 4 * k + 1) (by omega), m (10 + 4 * k + 3) (by omega)]
      exact ⟨hk.1, hk.2.1, rfl, hk.2.2.2⟩
    · rw [eU_ne e, m _ (by omega), m _ (by omega), m _ (by omega), m _ (by omega)]
      exact hk
theorem mR_cl {F G : eFs} {x y : Int → Int} (hc : 0 ≤ F.1 0 ∧ F.1 0 ≤ 10) (hR : mR F x) (hn : mRn G y) (hcl : mRc G y) (e0 : G.1 0 = F.1 0) (e : G.2 0 = F.2 0 ∧ G.2 1 = F.2 1 ∧ G.2 2 = F.2 2 ∧ G.2 3 = F.2 3) (e5 : G.2 5 = F.2 5) (e10 : G.1 10 = F.1 10) (e11 : G.1 11 = F.1 11) (h : ∀ j, (10 ≤ j ∧ j < 50) ∨ 58 ≤ j → y j = x j) : mR G y := by
  obtain ⟨q1, q2, q3, q6⟩ := hR
  refine ⟨hn, fun k k0 k1 => ?_, hcl, fun k k0 k1 => ?_⟩
  · rw [e0] at k1
    rw [e.1, e.2.1, e.2.2.1, e.2.2.2, h _ (by omega), h _ (by omega), h _ (by omega), h _ (by omega)]
    exact q2 k k0 k1
  · rw [e10] at k1
    rw [e5, e11]
    exact mSh_cong (fun r r0 r1 => h _ (by omega)) (q6 k k0 k1)
def mCp (n : Int) (x : Int → Int) (u v : Int) : Int → Int := eU (eU x (50 + n) (12 * v + u)) 1 (n + 1)
theorem mR_cp {N : Int} {F : eFs} {x : Int → Int} {u v : Int} (hF : okF N F) (hR : mR F x) (h9 : F.1 9 < 8) (hi : sIn u v) (hv : ¬ sCov (F.2 4) u v) : mR (sCPut F u v) (mCp (F.1 9) x u v) ∧ mFr x (mCp (F.1 9) x u v) := by
  obtain ⟨hc, hld, hled, htn, hgo, hkp, hst, hwt, hcl, hsh, hnx, hN, rx, ry, rh, rm, rc, rw9⟩ := hF
  obtain ⟨q3, q4, q5⟩ := hR.2.2.1
  have m := fun j (h : j ≠ 50 + F.1 9) (h1 : j ≠ 1) => (show mCp (F.1 9) x u v j = x j from (eU_ne h1).trans (eU_ne h))
  have m9 : mCp (F.1 9) x u v (50 + F.1 9) = 12 * v + u := (eU_ne (by omega)).trans eU_self
  have new : ∀ k, 0 ≤ k → k < F.1 9 → x (50 + k) ≠ 12 * v + u := fun k k0 k1 e => hv ⟨hi, (q3 u v hi).mpr ⟨k, k0, k1, e⟩⟩
  refine ⟨mR_cl hc hR ?_ ⟨fun u' v' i => ?_, fun k k0 k1 => ?_, fun k j k0 k1 j1 => ?_⟩ rfl ⟨rfl, rfl, rfl, rfl⟩ rfl rfl rfl (fun j hj => m j (by omega) (by omega)), fun j hj => m j (by omega) (by omega)⟩
  · obtain ⟨a0, a1, a2, a3, a4, a5, a6, a7, a8, a9⟩ := hR.1
    unfold mRn
    rw [m 0 (by omega) (by omega), m 2 (by omega) (by omega), m 3 (by omega) (by omega), m 4 (by omega) (by omega), m 5 (by omega) (by omega), m 6 (by omega) (by omega), m 7 (by omega) (by omega), m 8 (by omega) (by omega), m 9 (by omega) (by omega)]
    exact ⟨a0, eU_self, a2, a3, a4, a5, a6, a7, a8, a9⟩
  · have i0 := i.1
    have i1 := i.2.1
    have hi0 := hi.1
    have hi1 := hi.2.1
    have hin : 0 ≤ v ∧ v < 12 ∧ 0 ≤ v' ∧ v' < 12 := by omega
    show sBit (eU (F.2 4) v (bOr (F.2 4 v) (bShl 1 u)) v') u' ↔ ∃ k, 0 ≤ k ∧ k < F.1 9 + 1 ∧ mCp (F.1 9) x u v (50 + k) = 12 * v' + u'
    have key : sBit (eU (F.2 4) v (bOr (F.2 4 v) (bShl 1 u)) v') u' ↔ sBit (F.2 4 v') u' ∨ (v' = v ∧ u' = u) := by
      by_cases e : v' = v
      · rw [e, eU_self, (sBit_or (rc v) (by omega) (by omega) (by omega) (by omega)).2]
        constructor
        · rintro (q | q)
          · exact Or.inl q
          · exact Or.inr ⟨rfl, q⟩
        · rintro (q | q)
          · exact Or.inl q
          · exact Or.inr q.2
      · rw [eU_ne e]
        exact ⟨Or.inl, fun q => q.elim id (fun q => absurd q.1 e)⟩
    rw [key, q3 u' v' i]
    constructor
    · rintro (⟨k, k0, k1, e⟩ | ⟨e1, e2⟩)
      · exact ⟨k, k0, by omega, by rw [m _ (by omega) (by omega)]; exact e⟩
      · exact ⟨F.1 9, hcl.1, by omega, by rw [m9, e1, e2]⟩
    · rintro ⟨k, k0, k1, e⟩
      by_cases ek : k = F.1 9
      · rw [ek, m9] at e
        exact Or.inr (by omega)
      · rw [m _ (by omega) (by omega)] at e
        exact Or.inl ⟨k, k0, by omega, e⟩
  · have k1 : k < F.1 9 + 1 := k1
    by_cases ek : k = F.1 9
    · rw [ek, m9]
      have := hi.1
      have := hi.2.1
      omega
    · rw [m _ (by omega) (by omega)]; exact q4 k k0 (by omega)
  · have j1 : j < F.1 9 + 1 := j1
    rw [m (50 + k) (by omega) (by omega)]
    by_cases ej : j = F.1 9
    · rw [ej, m9]; exact new k k0 (by omega)
    · rw [m _ (by omega) (by omega)]; exact q5 k j k0 k1 (by omega)
def mCr (n : Int) (x : Int → Int) (k : Int) : Int → Int := eU (eU (eU x 1 (n - 1)) (50 + k) (x (50 + (n - 1)))) (50 + (n - 1)) 0
theorem mR_cr {N : Int} {F : eFs} {x : Int → Int} {u v k : Int} (hF : okF N F) (hR : mR F x) (hi : sIn u v) (hk : 0 ≤ k ∧ k < F.1 9) (he : x (50 + k) = 12 * v + u) : mR (sCRem F u v) (mCr (F.1 9) x k) ∧ mFr x (mCr (F.1 9) x k) := by
  obtain ⟨hc, hld, hled, htn, hgo, hkp, hst, hwt, hcl, hsh, hnx, hN, rx, ry, rh, rm, rc, rw9⟩ := hF
  obtain ⟨q3, q4, q5⟩ := hR.2.2.1
  have m := fun j (h : j ≠ 50 + (F.1 9 - 1)) (h1 : j ≠ 1) (h2 : j ≠ 50 + k) => (show mCr (F.1 9) x k j = x j from ((eU_ne h).trans (eU_ne h2)).trans (eU_ne h1))
  have mk : k < F.1 9 - 1 → mCr (F.1 9) x k (50 + k) = x (50 + (F.1 9 - 1)) := fun q => (eU_ne (by omega)).trans eU_self
  have uniq : ∀ j, 0 ≤ j → j < F.1 9 → x (50 + j) = 12 * v + u → j = k := fun j j0 j1 e => by
    rcases Int.lt_trichotomy j k with h | h | h
    · exact absurd (e.trans he.symm) (q5 j k j0 h hk.2)
    · exact h
    · exact absurd (he.trans e.symm) (q5 k j hk.1 h j1)
  refine ⟨mR_cl hc hR ?_ ⟨fun u' v' i => ?_, fun j k0 k1 => ?_, fun j l k0 k1 j1 => ?_⟩ rfl ⟨rfl, rfl, rfl, rfl⟩ rfl rfl rfl (fun j hj => m j (by omega) (by omega) (by omega)), fun j hj => m j (by omega) (by omega) (by omega)⟩
  · obtain ⟨a0, a1, a2, a3, a4, a5, a6, a7, a8, a9⟩ := hR.1
    unfold mRn
    rw [m 0 (by omega) (by omega) (by omega), m 2 (by omega) (by omega) (by omega), m 3 (by omega) (by omega) (by omega), m 4 (by omega) (by omega) (by omega), m 5 (by omega) (by omega) (by omega), m 6 (by omega) (by omega) (by omega), m 7 (by omega) (by omega) (by omega), m 8 (by omega) (by omega) (by omega), m 9 (by omega) (by omega) (by omega)]
    exact ⟨a0, ((eU_ne (by omega)).trans (eU_ne (by omega))).trans eU_self, a2, a3, a4, a5, a6, a7, a8, a9⟩
  · have i0 := i.1
    have i1 := i.2.1
    have hi0 := hi.1
    have hi1 := hi.2.1
    show sBit (eU (F.2 4) v (bAnd (F.2 4 v) (bXor (bShl 1 u) (-1))) v') u' ↔ ∃ j, 0 ≤ j ∧ j < F.1 9 - 1 ∧ mCr (F.1 9) x k (50 + j) = 12 * v' + u'
    have key : sBit (eU (F.2 4) v (bAnd (F.2 4 v) (bXor (bShl 1 u) (-1))) v') u' ↔ sBit (F.2 4 v') u' ∧ ¬ (v' = v ∧ u' = u) := by
      by_cases e : v' = v
      · rw [e, eU_self, (sBit_cl (rc v) (by omega) (by omega) (by omega) (by omega)).2]
        exact ⟨fun q => ⟨q.1, fun p => q.2 p.2⟩, fun q => ⟨q.1, fun p => q.2 ⟨rfl, p⟩⟩⟩
      · rw [eU_ne e]
        exact ⟨fun q => ⟨q, fun p => e p.1⟩, fun q => q.1⟩
    rw [key, q3 u' v' i]
    constructor
    · rintro ⟨⟨j, k0, k1, e⟩, hne⟩
      have jk : j ≠ k := fun q => by rw [q, he] at e; exact hne (by omega)
      by_cases ej : j = F.1 9 - 1
      · rw [ej] at e
        exact ⟨k, hk.1, by omega, by rw [mk (by omega)]; exact e⟩
      · exact ⟨j, k0, by omega, by rw [m _ (by omega) (by omega) (by omega)]; exact e⟩
    · rintro ⟨j, k0, k1, e⟩
      by_cases ej : j = k
      · rw [ej, mk (by omega)] at e
        refine ⟨⟨F.1 9 - 1, by omega, by omega, e⟩, fun p => ?_⟩
        rw [p.1, p.2] at e
        have := uniq _ (by omega) (by omega) e
        omega
      · rw [m _ (by omega) (by omega) (by omega)] at e
        refine ⟨⟨j, k0, by omega, e⟩, fun p => ?_⟩
        rw [p.1, p.2] at e
        exact ej (uniq _ k0 (by omega) e)
  · have k1 : j < F.1 9 - 1 := k1
    by_cases ej : j = k
    · rw [ej, mk (by omega)]; exact q4 _ (by omega) (by omega)
    · rw [m _ (by omega) (by omega) (by omega)]; exact q4 j k0 (by omega)
  · have j1 : l < F.1 9 - 1 := j1
    by_cases ej : j = k
    · rw [ej, mk (by omega), m (50 + l) (by omega) (by omega) (by omega)]
      exact fun q => q5 l (F.1 9 - 1) (by omega) (by omega) (by omega) q.symm
    · by_cases el : l = k
      · rw [el, mk (by omega), m (50 + j) (by omega) (by omega) (by omega)]
        exact q5 j (F.1 9 - 1) (by omega) (by omega) (by omega)
      · rw [m (50 + j) (by omega) (by omega) (by omega), m (50 + l) (by omega) (by omega) (by omega)]
        exact q5 j l k0 k1 (by omega)
theorem mR_tn {N : Int} {F : eFs} {x : Int → Int} {n : Int} (hF : okF N F) (hR : mR F x) : mR (sTrn F n) (eU (eU x 4 n) 3 0) ∧ mFr x (eU (eU x 4 n) 3 0) := by
  obtain ⟨a0, a1, a2, a3, a4, a5, a6, a7, a8, a9⟩ := hR.1
  have m := fun j (h : j ≠ 4) (h1 : j ≠ 3) => (show eU (eU x 4 n) 3 0 j = x j from (eU_ne h1).trans (eU_ne h))
  refine ⟨mR_num hF.1 hF.2.2.2.2.2.2.2.2.1.2 hR rfl rfl rfl rfl rfl ?_ (fun j hj => m j (by omega) (by omega)), fun j hj => m j (by omega) (by omega)⟩
  unfold mRn
  rw [m 0 (by omega) (by omega), m 1 (by omega) (by omega), m 2 (by omega) (by omega), m 5 (by omega) (by omega), m 6 (by omega) (by omega), m 7 (by omega) (by omega), m 8 (by omega) (by omega), m 9 (by omega) (by omega)]
  exact ⟨a0, a1, a2, eU_self, (eU_ne (by omega)).trans eU_self, a5, a6, a7, a8, a9⟩
theorem mR_gl {N : Int} {F : eFs} {x : Int → Int} {u v : Int} (hF : okF N F) (hR : mR F x) (hi : sIn u v) : mR (sGol F u v) (eU x 5 (12 * v + u + 1)) ∧ mFr x (eU x 5 (12 * v + u + 1)) := by
  obtain ⟨a0, a1, a2, a3, a4, a5, a6, a7, a8, a9⟩ := hR.1
  have m := fun j (h : j ≠ 5) => eU_ne (x := x) (v := 12 * v + u + 1) h
  refine ⟨mR_num hF.1 hF.2.2.2.2.2.2.2.2.1.2 hR rfl rfl rfl rfl rfl ?_ (fun j hj => m j (by omega)), fun j hj => m j (by omega)⟩
  unfold mRn
  rw [m 0 (by omega), m 1 (by omega), m 2 (by omega), m 3 (by omega), m 4 (by omega), m 6 (by omega), m 7 (by omega), m 8 (by omega), m 9 (by omega)]
  refine ⟨a0, a1, a2, a3, a4, eU_self.trans ?_, a6, a7, a8, a9⟩
  have := hi.1
  exact (if_neg (show ¬ u = -1 by omega)).symm
theorem mR_kp {N : Int} {F : eFs} {x : Int → Int} {n : Int} (hF : okF N F) (hR : mR F x) : mR (sKep F n) (eU x 6 n) ∧ mFr x (eU x 6 n) := by
  obtain ⟨a0, a1, a2, a3, a4, a5, a6, a7, a8, a9⟩ := hR.1
  have m := fun j (h : j ≠ 6) => eU_ne (x := x) (v := n) h
  refine ⟨mR_num hF.1 hF.2.2.2.2.2.2.2.2.1.2 hR rfl rfl rfl rfl rfl ?_ (fun j hj => m j (by omega)), fun j hj => m j (by omega)⟩
  unfold mRn
  rw [m 0 (by omega), m 1 (by omega), m 2 (by omega), m 3 (by omega), m 4 (by omega), m 5 (by omega), m 7 (by omega), m 8 (by omega), m 9 (by omega)]
  exact ⟨a0, a1, a2, a3, a4, a5, eU_self, a7, a8, a9⟩
/-- what a change answers in the reference, for what hinders it -/
def mHC (c : Int) : Int := if c = 4 then 5 else if c = 5 then 4 else if c = 6 then 4 else c
/-- the refusal that stands: none, or alike on both sides -/
def mWh (z : Nat → Int) (M : eFs) : Prop := (z 2 = -1 ∧ M.1 4 = 0) ∨ (1 ≤ z 2 ∧ z 2 = M.1 4 ∧ z 3 = M.1 5)
def mHw (M M' F : eFs) (k p q r : Int) : Prop := ∀ z : Nat → Int, mWh z M → mWh (zHi z F k p q r) M'
def mKeep (M M' : eFs) : Prop := mFr (M.2 0) (M'.2 0) ∧ (M'.2 2 = M.2 2 ∧ M'.2 3 = M.2 3 ∧ M'.2 4 = M.2 4) ∧ ∀ j, j ≠ 3 → j ≠ 4 → j ≠ 5 → M'.1 j = M.1 j
def mCh (a : Nat → Nat) (M F : eFs) (k p q r : Int) (cs1 : List eE) : Prop := ∃ M' : eFs, cs1 = wM a M' ∧ mKeep M M' ∧ mHw M M' F k p q r ∧ (sHin F k p q r = 0 → mR (sDo F k p q r) (M'.2 0) ∧ M'.1 3 = sDoR F k p q r)
theorem mCh_no {a : Nat → Nat} {M F : eFs} {k p q r c v : Int} (h : sHin F k p q r = c) (h0 : c ≠ 0) (h6 : c ≠ 6) (hv : mHC c = v) : eRets (some (vi (mHC (sHin F k p q r)))) a (mCh a M F k p q r) (.inl (some (vi v))) a (wM a M) :=
  ⟨by rw [h, hv], rfl, M, rfl, ⟨fun j hj => rfl, ⟨rfl, rfl, rfl⟩, fun j _ _ _ => rfl⟩, fun z hz => by unfold zHi; rw [if_neg (by rw [h]; exact h6)]; exact hz, fun e => absurd (h.symm.trans e) h0⟩
theorem mRf_2 {M F : eFs} {m x y : Int} : (mRf M F m x y).2 = M.2 ∧ ∀ j, j ≠ 4 → j ≠ 5 → (mRf M F m x y).1 j = M.1 j := by
  unfold mRf
  split
  · exact ⟨rfl, fun _ _ _ => rfl⟩
  · exact ⟨rfl, fun j h4 h5 => (if_neg h5).trans (if_neg h4)⟩
theorem mCh_rf {a : Nat → Nat} {M F : eFs} {k p q r m x y : Int} (h : sHin F k p q r = 6) (hz : ∀ z, zRk z F k p q r = zRf z F m x y) (hp : ¬ sPos F m x y) : eRets (some (vi (mHC (sHin F k p q r)))) a (mCh a M F k p q r) (.inl (some (vi 4))) a (wM a (mRf M F m x y)) := by
  refine ⟨by rw [h]; rfl, rfl, mRf M F m x y, rfl, ⟨fun j hj => by rw [mRf_2.1], by rw [mRf_2.1]; exact ⟨rfl, rfl, rfl⟩, fun j _ h4 h5 => mRf_2.2 j h4 h5⟩, fun z hw => ?_, fun e => absurd (h.symm.trans e) (by decide)⟩
  unfold zHi
  rw [if_pos h, hz]
  unfold mRf
  rw [if_neg hp]
  refine Or.inr ⟨?_, rfl, rfl⟩
  show 1 ≤ (if sCov (F.2 4) x y then (1 : Int) else 2)
  split <;> omega
theorem mCh_ok {a : Nat → Nat} {M F : eFs} {k p q r v : Int} {x sh : Int → Int} (h : sHin F k p q r = 0) (hr : mR (sDo F k p q r) x ∧ mFr (M.2 0) x) (hv : v = sDoR F k p q r) : eRets (some (vi (mHC (sHin F k p q r)))) a (mCh a M F k p q r) (.inl (some (vi 0))) a (wM a (sS (sR (sR M 1 sh) 0 x) 3 v)) := by
  refine ⟨by rw [h]; rfl, rfl, _, rfl, ⟨hr.2, ⟨rfl, rfl, rfl⟩, fun j h3 _ _ => if_neg h3⟩, fun z hw => ?_, fun _ => ⟨hr.1, hv⟩⟩
  unfold zHi
  rw [if_neg (by rw [h]; decide)]
  exact hw
theorem sTo_hi {F : eFs} {x y : Int} : sTo F (F.1 0) x y = sTo F (-1) x y := by
  unfold sTo
  refine eFB_cong (fun j j0 j1 => ?_)
  constructor
  · rintro ⟨_, h⟩; exact ⟨by omega, h⟩
  · rintro ⟨_, h⟩; exact ⟨by omega, h⟩
theorem sPos_hi {F : eFs} {x y : Int} : sPos F (F.1 0) x y ↔ sPos F (-1) x y := by
  unfold sPos
  rw [sTo_hi]
theorem zRf_hi {z : Nat → Int} {F : eFs} {x y : Int} : zRf z F (-1) x y = zRf z F (F.1 0) x y := by
  unfold zRf
  rw [sTo_hi]

theorem C_X7_adds {X : eXT} {a : Nat → Nat} {N : Int} {F M : eFs} (hF : okF N F) (hR : mR F (M.2 0)) {x y g : Int} (gx : -2147483648 ≤ x ∧ x ≤ 2147483647) (gy : -2147483648 ≤ y ∧ y ≤ 2147483647) (gg : -2147483648 ≤ g ∧ g ≤ 2147483647) :
    EM X mX7_adds (eRm 4) a [.ref (a 0), vi x, vi y, vi g] (wM a M) (eRets (some (vi (mHC (sHin F 0 x y g)))) a (mCh a M F 0 x y g)) := by
  refine EM.of (by decide +kernel) rfl (Nat.le_of_ble_eq_true rfl) ?_
  have hF0 := hF
  obtain ⟨hc, hld, hled, htn, hgo, hkp, hst, hwt, hcl, hsh, hnx, hN, rx, ry, rh, rm, rc, rw9⟩ := hF
  obtain ⟨⟨n0, n1, n2, n3, n4, n5, n6, n7, n8, n9⟩, hb, hcd, hss⟩ := id hR
  refine e_iload_n dX7_adds_0 rfl rfl ?_
  refine e_iload_n dX7_adds_1 rfl rfl ?_
  refine e_cS0 [] lk_X7_62 rfl dX7_adds_2 rfl (C_X7_isCell (by omega) (by omega)) rfl rfl (Nat.le_of_ble_eq_true rfl) (Nat.le_of_ble_eq_true rfl) (Nat.le_of_ble_eq_true rfl) ⟨rfl, rfl⟩ rfl rfl  ?_
  refine e_ifb_eq (t := 17) dX7_adds_5 rfl rfl (fun h5 => ?_) (fun h5 => ?_)
  · refine e_iconst dX7_adds_17 rfl ?_
    exact e_iret dX7_adds_18 rfl rfl (mCh_no (c := 2) (v := 2) (by show hAdd F x y g = 2; unfold hAdd; exact if_pos (Or.inl h5)) (by decide) (by decide) rfl)
  · refine e_iload_n dX7_adds_8 rfl rfl ?_
    refine e_iconst dX7_adds_9 rfl ?_
    refine e_iconst dX7_adds_10 rfl ?_
    refine e_cS0 [] lk_X7_46 rfl dX7_adds_11 rfl (C_X7_in (by omega) (by omega) (by omega)) rfl rfl (Nat.le_of_ble_eq_true rfl) (Nat.le_of_ble_eq_true rfl) (Nat.le_of_ble_eq_true rfl) ⟨rfl, rfl⟩ rfl rfl  ?_
    refine e_ifb_ne (t := 19) dX7_adds_14 rfl rfl (fun h14 => ?_) (fun h14 => ?_)
    · refine e_aload_n dX7_adds_19 rfl rfl ?_
      refine e_getfield fd_X7_9 dX7_adds_20 rfl rfl rfl rfl ?_
      refine e_iconst dX7_adds_23 rfl ?_
      refine e_iaload dX7_adds_24 rfl rfl rfl (by omega) (by decide) ?_
      refine EV.eq (st' := [vi (F.1 0)]) (by rw [n0]) ?_
      refine f_istore dX7_adds_25 rfl (Nat.le_of_ble_eq_true rfl) rfl ?_
      refine e_iload dX7_adds_27 rfl rfl ?_
      refine e_bipush dX7_adds_29 rfl rfl ?_
      refine e_icmp_ne (t := 36) dX7_adds_31 rfl rfl (by omega) (by omega) (fun h31 => ?_) (fun h31 => ?_)
      · refine e_aload_n dX7_adds_36 rfl rfl ?_
        refine e_iload dX7_adds_37 rfl rfl ?_
        refine e_iload_n dX7_adds_39 rfl rfl ?_
        refine e_iload_n dX7_adds_40 rfl rfl ?_
        refine e_cV2 [0, 1, 2, 3, 4, 5] lk_X7_115 rfl dX7_adds_41 rfl (C_X7_refuses (m := F.1 0) hF0 hR (by omega) h5) rfl rfl (Nat.le_of_ble_eq_true rfl) (Nat.le_of_ble_eq_true rfl) (Nat.le_of_ble_eq_true rfl) ⟨rfl, rfl⟩ rfl rfl rfl rfl rfl rfl rfl rfl ?_
        refine e_ifb_eq (t := 49) dX7_adds_44 rfl rfl (fun h44 => ?_) (fun h44 => ?_)
        · refine EV.ceq (cs' := wM a M) (by rw [mRf_y (Decidable.not_not.mp h44)] <;> rfl) ?_
          refine e_aload_n dX7_adds_49 rfl rfl ?_
          refine e_getfield fd_X7_9 dX7_adds_50 rfl rfl rfl rfl ?_
          refine e_iconst dX7_adds_53 rfl ?_
          refine e_dup2 dX7_adds_54 rfl rfl rfl ?_
          refine e_iaload dX7_adds_55 rfl rfl rfl (by omega) (by decide) ?_
          refine e_iconst dX7_adds_56 rfl ?_
          refine e_iadd dX7_adds_57 rfl ?_
          refine e_iastore dX7_adds_58 rfl rfl rfl (by omega) (by decide) ?_
          refine EV.ceq (cs' := wMx a M.1 (eU (M.2 0) 0 (M.2 0 0 + 1)) (M.2 1) (M.2 2) (M.2 3) (M.2 4)) rfl ?_
          refine e_aload_n dX7_adds_59 rfl rfl ?_
          refine e_iload dX7_adds_60 rfl rfl ?_
          refine e_iconst dX7_adds_62 rfl ?_
          refine e_iload_n dX7_adds_63 rfl rfl ?_
          refine e_cV2 [0, 1, 2, 3, 4, 5] lk_X7_85 rfl dX7_adds_64 rfl (C_X7_set (M := sR M 0 (eU (M.2 0) 0 (M.2 0 0 + 1))) (by omega) (by omega)) rfl rfl (Nat.le_of_ble_eq_true rfl) (Nat.le_of_ble_eq_true rfl) (Nat.le_of_ble_eq_true rfl) ⟨rfl, rfl⟩ rfl rfl rfl rfl rfl rfl rfl rfl ?_
          refine EV.ceq (cs' := wMx a M.1 (eU (eU (M.2 0) 0 (M.2 0 0 + 1)) (10 + 4 * F.1 0 + 0) x) (M.2 1) (M.2 2) (M.2 3) (M.2 4)) rfl ?_
          refine e_aload_n dX7_adds_67 rfl rfl ?_
          refine e_iload dX7_adds_68 rfl rfl ?_
          refine e_iconst dX7_adds_70 rfl ?_
          refine e_iload_n dX7_adds_71 rfl rfl ?_
          refine e_cV2 [0, 1, 2, 3, 4, 5] lk_X7_85 rfl dX7_adds_72 rfl (C_X7_set (M := sR M 0 (eU (eU (M.2 0) 0 (M.2 0 0 + 1)) (10 + 4 * F.1 0 + 0) x)) (by omega) (by omega)) rfl rfl (Nat.le_of_ble_eq_true rfl) (Nat.le_of_ble_eq_true rfl) (Nat.le_of_ble_eq_true rfl) ⟨rfl, rfl⟩ rfl rfl rfl rfl rfl rfl rfl rfl ?_
          refine EV.ceq (cs' := wMx a M.1 (eU (eU (eU (M.2 0) 0 (M.2 0 0 + 1)) (10 + 4 * F.1 0 + 0) x) (10 + 4 * F.1 0 + 1) y) (M.2 1) (M.2 2) (M.2 3) (M.2 4)) rfl ?_
          refine e_aload_n dX7_adds_75 rfl rfl ?_
          refine e_iload dX7_adds_76 rfl rfl ?_
          refine e_iconst dX7_adds_78 rfl ?_
          refine e_iload_n dX7_adds_79 rfl rfl ?_
          refine e_cV2 [0, 1, 2, 3, 4, 5] lk_X7_85 rfl dX7_adds_80 rfl (C_X7_set (M := sR M 0 (eU (eU (eU (M.2 0) 0 (M.2 0 0 + 1)) (10 + 4 * F.1 0 + 0) x) (10 + 4 * F.1 0 + 1) y)) (by omega) (by omega)) rfl rfl (Nat.le_of_ble_eq_true rfl) (Nat.le_of_ble_eq_true rfl) (Nat.le_of_ble_eq_true rfl) ⟨rfl, rfl⟩ rfl rfl rfl rfl rfl rfl rfl rfl ?_
          refine EV.ceq (cs' := wMx a M.1 (eU (eU (eU (eU (M.2 0) 0 (M.2 0 0 + 1)) (10 + 4 * F.1 0 + 0) x) (10 + 4 * F.1 0 + 1) y) (10 + 4 * F.1 0 + 2) g) (M.2 1) (M.2 2) (M.2 3) (M.2 4)) rfl ?_
          refine e_aload_n dX7_adds_83 rfl rfl ?_
          refine e_iload dX7_adds_84 rfl rfl ?_
          refine e_iconst dX7_adds_86 rfl ?_
          refine e_iconst dX7_adds_87 rfl ?_
          refine e_cV2 [0, 1, 2, 3, 4, 5] lk_X7_85 rfl dX7_adds_88 rfl (C_X7_set (M := sR M 0 (eU (eU (eU (eU (M.2 0) 0 (M.2 0 0 + 1)) (10 + 4 * F.1 0 + 0) x) (10 + 4 * F.1 0 + 1) y) (10 + 4 * F.1 0 + 2) g)) (by omega) (by omega)) rfl rfl (Nat.le_of_ble_eq_true rfl) (Nat.le_of_ble_eq_true rfl) (Nat.le_of_ble_eq_true rfl) ⟨rfl, rfl⟩ rfl rfl rfl rfl rfl rfl rfl rfl ?_
          refine EV.ceq (cs' := wMx a M.1 (eU (eU (eU (eU (eU (M.2 0) 0 (M.2 0 0 + 1)) (10 + 4 * F.1 0 + 0) x) (10 + 4 * F.1 0 + 1) y) (10 + 4 * F.1 0 + 2) g) (10 + 4 * F.1 0 + 3) 0) (M.2 1) (M.2 2) (M.2 3) (M.2 4)) rfl ?_
          refine e_aload_n dX7_adds_91 rfl rfl ?_
          refine e_iload dX7_adds_92 rfl rfl ?_
          refine e_putfield fd_X7_43 dX7_adds_94 rfl rfl rfl (Nat.le_of_ble_eq_true rfl) rfl rfl ?_
          refine e_iconst dX7_adds_97 rfl ?_
          exact e_iret dX7_adds_98 rfl rfl (mCh_ok (M := M) (F := F) (k := 0) (p := x) (q := y) (r := g) (x := mAd (F.1 0) (M.2 0) x y g) (sh := M.2 1) (v := F.1 0) (by show hAdd F x y g = 0; unfold hAdd; rw [if_neg (fun q => q.elim (fun q => q h5) (fun q => by omega)), if_neg (by omega), if_pos (sPos_hi.mp (Decidable.not_not.mp h44))]) (mR_ad hF0 hR (by omega)) (rfl))
        · refine e_iconst dX7_adds_47 rfl ?_
          exact e_iret dX7_adds_48 rfl rfl (mCh_rf (by show hAdd F x y g = 6; unfold hAdd; rw [if_neg (fun q => q.elim (fun q => q h5) (fun q => by omega)), if_neg (by omega), if_neg (fun q => h44 (sPos_hi.mpr q))]) (fun z => zRf_hi) h44)
      · refine e_iconst dX7_adds_34 rfl ?_
        exact e_iret dX7_adds_35 rfl rfl (mCh_no (c := 3) (v := 3) (by show hAdd F x y g = 3; unfold hAdd; rw [if_neg (fun q => q.elim (fun q => q h5) (fun q => by omega)), if_pos (by omega)]) (by decide) (by decide) rfl)
    · refine e_iconst dX7_adds_17 rfl ?_
      exact e_iret dX7_adds_18 rfl rfl (mCh_no (c := 2) (v := 2) (by show hAdd F x y g = 2; unfold hAdd; exact if_pos (Or.inr (by omega))) (by decide) (by decide) rfl)
theorem C_X7_jumps {X : eXT} {a : Nat → Nat} {N : Int} {F M : eFs} (hF : okF N F) (hR : mR F (M.2 0)) {b x y : Int} (gb : -2147483648 ≤ b ∧ b ≤ 2147483647) (gx : -2147483648 ≤ x ∧ x ≤ 2147483647) (gy : -2147483648 ≤ y ∧ y ≤ 2147483647) :
    EM X mX7_jumps (eRm 4) a [.ref (a 0), vi b, vi x, vi y] (wM a M) (eRets (some (vi (mHC (sHin F 1 b x y)))) a (mCh a M F 1 b x y)) := by
  refine EM.of (by decide +kernel) rfl (Nat.le_of_ble_eq_true rfl) ?_
  have hF0 := hF
  obtain ⟨hc, hld, hled, htn, hgo, hkp, hst, hwt, hcl, hsh, hnx, hN, rx, ry, rh, rm, rc, rw9⟩ := hF
  obtain ⟨⟨n0, n1, n2, n3, n4, n5, n6, n7, n8, n9⟩, hb, hcd, hss⟩ := id hR
  refine e_aload_n dX7_jumps_0 rfl rfl ?_
  refine e_iload_n dX7_jumps_1 rfl rfl ?_
  refine e_cV0 [0, 1, 2, 3, 4, 5] lk_X7_128 rfl dX7_jumps_2 rfl (C_X7_isBasket hF0 hR (by omega)) rfl rfl (Nat.le_of_ble_eq_true rfl) (Nat.le_of_ble_eq_true rfl) (Nat.le_of_ble_eq_true rfl) ⟨rfl, rfl⟩ rfl rfl rfl rfl rfl rfl  ?_
  refine e_ifb_ne (t := 10) dX7_jumps_5 rfl rfl (fun h5 => ?_) (fun h5 => ?_)
  · refine e_iload_n dX7_jumps_10 rfl rfl ?_
    refine e_iload_n dX7_jumps_11 rfl rfl ?_
    refine e_cS0 [] lk_X7_62 rfl dX7_jumps_12 rfl (C_X7_isCell (by omega) (by omega)) rfl rfl (Nat.le_of_ble_eq_true rfl) (Nat.le_of_ble_eq_true rfl) (Nat.le_of_ble_eq_true rfl) ⟨rfl, rfl⟩ rfl rfl  ?_
    refine e_ifb_ne (t := 20) dX7_jumps_15 rfl rfl (fun h15 => ?_) (fun h15 => ?_)
    · refine e_aload_n dX7_jumps_20 rfl rfl ?_
      refine e_iload_n dX7_jumps_21 rfl rfl ?_
      refine e_iload_n dX7_jumps_22 rfl rfl ?_
      refine e_iload_n dX7_jumps_23 rfl rfl ?_
      refine e_cV2 [0, 1, 2, 3, 4, 5] lk_X7_115 rfl dX7_jumps_24 rfl (C_X7_refuses (m := b) hF0 hR (by omega) h15) rfl rfl (Nat.le_of_ble_eq_true rfl) (Nat.le_of_ble_eq_true rfl) (Nat.le_of_ble_eq_true rfl) ⟨rfl, rfl⟩ rfl rfl rfl rfl rfl rfl rfl rfl ?_
      refine e_ifb_eq (t := 32) dX7_jumps_27 rfl rfl (fun h27 => ?_) (fun h27 => ?_)
      · refine EV.ceq (cs' := wM a M) (by rw [mRf_y (Decidable.not_not.mp h27)] <;> rfl) ?_
        refine e_aload_n dX7_jumps_32 rfl rfl ?_
        refine e_aload_n dX7_jumps_33 rfl rfl ?_
        refine e_iload_n dX7_jumps_34 rfl rfl ?_
        refine e_iload_n dX7_jumps_35 rfl rfl ?_
        refine e_iload_n dX7_jumps_36 rfl rfl ?_
        refine e_cV0 [0, 1, 2, 3, 4, 5] lk_X7_58 rfl dX7_jumps_37 rfl (C_X7_far hF0 hR (by omega) (by omega) (by omega)) rfl rfl (Nat.le_of_ble_eq_true rfl) (Nat.le_of_ble_eq_true rfl) (Nat.le_of_ble_eq_true rfl) ⟨rfl, rfl⟩ rfl rfl rfl rfl rfl rfl  ?_
        refine e_putfield fd_X7_43 dX7_jumps_40 rfl rfl rfl (Nat.le_of_ble_eq_true rfl) rfl rfl ?_
        refine EV.ceq (cs' := wM a (sS M 3 (sD F b x y))) rfl ?_
        refine e_aload_n dX7_jumps_43 rfl rfl ?_
        refine e_iload_n dX7_jumps_44 rfl rfl ?_
        refine e_iconst dX7_jumps_45 rfl ?_
        refine e_iload_n dX7_jumps_46 rfl rfl ?_
        refine e_cV2 [0, 1, 2, 3, 4, 5] lk_X7_85 rfl dX7_jumps_47 rfl (C_X7_set (by omega) (by omega)) rfl rfl (Nat.le_of_ble_eq_true rfl) (Nat.le_of_ble_eq_true rfl) (Nat.le_of_ble_eq_true rfl) ⟨rfl, rfl⟩ rfl rfl rfl rfl rfl rfl rfl rfl ?_
        refine e_aload_n dX7_jumps_50 rfl rfl ?_
        refine e_iload_n dX7_jumps_51 rfl rfl ?_
        refine e_iconst dX7_jumps_52 rfl ?_
        refine e_iload_n dX7_jumps_53 rfl rfl ?_
        refine e_cV2 [0, 1, 2, 3, 4, 5] lk_X7_85 rfl dX7_jumps_54 rfl (C_X7_set (by omega) (by omega)) rfl rfl (Nat.le_of_ble_eq_true rfl) (Nat.le_of_ble_eq_true rfl) (Nat.le_of_ble_eq_true rfl) ⟨rfl, rfl⟩ rfl rfl rfl rfl rfl rfl rfl rfl ?_
        refine e_iconst dX7_jumps_57 rfl ?_
        exact e_iret dX7_jumps_58 rfl rfl (mCh_ok (M := M) (F := F) (k := 1) (p := b) (q := x) (r := y) (x := mPt (M.2 0) b x y) (sh := M.2 1) (v := (sD F b x y)) (by show hJump F b x y = 0; unfold hJump; rw [if_neg (Decidable.not_not.mpr h5), if_neg (Decidable.not_not.mpr h15), if_pos (Decidable.not_not.mp h27)]) (mR_pt hF0 hR h5) (rfl))
      · refine e_iconst dX7_jumps_30 rfl ?_
        exact e_iret dX7_jumps_31 rfl rfl (mCh_rf (by show hJump F b x y = 6; unfold hJump; rw [if_neg (Decidable.not_not.mpr h5), if_neg (Decidable.not_not.mpr h15), if_neg h27]) (fun z => rfl) h27)
    · refine e_iconst dX7_jumps_18 rfl ?_
      exact e_iret dX7_jumps_19 rfl rfl (mCh_no (c := 2) (v := 2) (by show hJump F b x y = 2; unfold hJump; rw [if_neg (Decidable.not_not.mpr h5), if_pos h15]) (by decide) (by decide) rfl)
  · refine e_iconst dX7_jumps_8 rfl ?_
    exact e_iret dX7_jumps_9 rfl rfl (mCh_no (c := 1) (v := 1) (by show hJump F b x y = 1; unfold hJump; rw [if_pos h5]) (by decide) (by decide) rfl)
theorem C_X7_handles {X : eXT} {a : Nat → Nat} {N : Int} {F M : eFs} (hF : okF N F) (hR : mR F (M.2 0)) {b g : Int} (gb : -2147483648 ≤ b ∧ b ≤ 2147483647) (gg : -2147483648 ≤ g ∧ g ≤ 2147483647) :
    EM X mX7_handles (eRm 2) a [.ref (a 0), vi b, vi g] (wM a M) (eRets (some (vi (mHC (sHin F 2 b g 0)))) a (mCh a M F 2 b g 0)) := by
  refine EM.of (by decide +kernel) rfl (Nat.le_of_ble_eq_true rfl) ?_
  have hF0 := hF
  obtain ⟨hc, hld, hled, htn, hgo, hkp, hst, hwt, hcl, hsh, hnx, hN, rx, ry, rh, rm, rc, rw9⟩ := hF
  obtain ⟨⟨n0, n1, n2, n3, n4, n5, n6, n7, n8, n9⟩, hb, hcd, hss⟩ := id hR
  refine e_aload_n dX7_handles_0 rfl rfl ?_
  refine e_iload_n dX7_handles_1 rfl rfl ?_
  refine e_cV0 [0, 1, 2, 3, 4, 5] lk_X7_128 rfl dX7_handles_2 rfl (C_X7_isBasket hF0 hR (by omega)) rfl rfl (Nat.le_of_ble_eq_true rfl) (Nat.le_of_ble_eq_true rfl) (Nat.le_of_ble_eq_true rfl) ⟨rfl, rfl⟩ rfl rfl rfl rfl rfl rfl  ?_
  refine e_ifb_ne (t := 10) dX7_handles_5 rfl rfl (fun h5 => ?_) (fun h5 => ?_)
  · refine e_iload_n dX7_handles_10 rfl rfl ?_
    refine e_iconst dX7_handles_11 rfl ?_
    refine e_iconst dX7_handles_12 rfl ?_
    refine e_cS0 [] lk_X7_46 rfl dX7_handles_13 rfl (C_X7_in (by omega) (by omega) (by omega)) rfl rfl (Nat.le_of_ble_eq_true rfl) (Nat.le_of_ble_eq_true rfl) (Nat.le_of_ble_eq_true rfl) ⟨rfl, rfl⟩ rfl rfl  ?_
    refine e_ifb_ne (t := 21) dX7_handles_16 rfl rfl (fun h16 => ?_) (fun h16 => ?_)
    · refine e_aload_n dX7_handles_21 rfl rfl ?_
      refine e_aload_n dX7_handles_22 rfl rfl ?_
      refine e_iload_n dX7_handles_23 rfl rfl ?_
      refine e_iconst dX7_handles_24 rfl ?_
      refine e_cV0 [0, 1, 2, 3, 4, 5] lk_X7_50 rfl dX7_handles_25 rfl (C_X7_b (by omega) (by omega)) rfl rfl (Nat.le_of_ble_eq_true rfl) (Nat.le_of_ble_eq_true rfl) (Nat.le_of_ble_eq_true rfl) ⟨rfl, rfl⟩ rfl rfl rfl rfl rfl rfl  ?_
      have hbb := hb b (by omega) (by omega)
      refine EV.eq (st' := [vi (F.2 2 b), .ref (a 0)]) (by show [vi (M.2 0 (10 + 4 * b + 2)), .ref (a 0)] = _; rw [hbb.2.2.1]) ?_
      refine e_putfield fd_X7_43 dX7_handles_28 rfl rfl rfl (Nat.le_of_ble_eq_true rfl) rfl rfl ?_
      refine EV.ceq (cs' := wM a (sS M 3 (F.2 2 b))) rfl ?_
      refine e_aload_n dX7_handles_31 rfl rfl ?_
      refine e_iload_n dX7_handles_32 rfl rfl ?_
      refine e_iconst dX7_handles_33 rfl ?_
      refine e_iload_n dX7_handles_34 rfl rfl ?_
      refine e_cV2 [0, 1, 2, 3, 4, 5] lk_X7_85 rfl dX7_handles_35 rfl (C_X7_set (M := sS M 3 (F.2 2 b)) (by omega) (by omega)) rfl rfl (Nat.le_of_ble_eq_true rfl) (Nat.le_of_ble_eq_true rfl) (Nat.le_of_ble_eq_true rfl) ⟨rfl, rfl⟩ rfl rfl rfl rfl rfl rfl rfl rfl ?_
      refine e_iconst dX7_handles_38 rfl ?_
      exact e_iret dX7_handles_39 rfl rfl (mCh_ok (M := M) (F := F) (k := 2) (p := b) (q := g) (r := 0) (x := eU (M.2 0) (10 + 4 * b + 2) g) (sh := M.2 1) (v := (F.2 2 b)) (by show hHand F b g = 0; unfold hHand; rw [if_pos h5]; exact if_pos h16) (mR_hd hF0 hR h5) (rfl))
    · refine e_iconst dX7_handles_19 rfl ?_
      exact e_iret dX7_handles_20 rfl rfl (mCh_no (c := 2) (v := 2) (by show hHand F b g = 2; unfold hHand; rw [if_pos h5]; exact if_neg h16) (by decide) (by decide) rfl)
  · refine e_iconst dX7_handles_8 rfl ?_
    exact e_iret dX7_handles_9 rfl rfl (mCh_no (c := 1) (v := 1) (by show hHand F b g = 1; unfold hHand; rw [if_neg h5]) (by decide) (by decide) rfl)
theorem C_X7_clouds {X : eXT} {a : Nat → Nat} {N : Int} {F M : eFs} (hF : okF N F) (hR : mR F (M.2 0)) {x y : Int} (gx : -2147483648 ≤ x ∧ x ≤ 2147483647) (gy : -2147483648 ≤ y ∧ y ≤ 2147483647) :
    EM X mX7_clouds (eRm 3) a [.ref (a 0), vi x, vi y] (wM a M) (eRets (some (vi (mHC (sHin F 3 x y 0)))) a (mCh a M F 3 x y 0)) := by
  refine EM.of (by decide +kernel) rfl (Nat.le_of_ble_eq_true rfl) ?_
  have hF0 := hF
  obtain ⟨hc, hld, hled, htn, hgo, hkp, hst, hwt, hcl, hsh, hnx, hN, rx, ry, rh, rm, rc, rw9⟩ := hF
  obtain ⟨⟨n0, n1, n2, n3, n4, n5, n6, n7, n8, n9⟩, hb, hcd, hss⟩ := id hR
  refine e_iload_n dX7_clouds_0 rfl rfl ?_
  refine e_iload_n dX7_clouds_1 rfl rfl ?_
  refine e_cS0 [] lk_X7_62 rfl dX7_clouds_2 rfl (C_X7_isCell (by omega) (by omega)) rfl rfl (Nat.le_of_ble_eq_true rfl) (Nat.le_of_ble_eq_true rfl) (Nat.le_of_ble_eq_true rfl) ⟨rfl, rfl⟩ rfl rfl  ?_
  refine e_ifb_ne (t := 10) dX7_clouds_5 rfl rfl (fun h5 => ?_) (fun h5 => ?_)
  · have mc := mCl_cov (u := x) (v := y) hF0 hR h5
    have ain := sAt_in (F := F) (x := x) (y := y)
    refine e_aload_n dX7_clouds_10 rfl rfl ?_
    refine e_getfield fd_X7_9 dX7_clouds_11 rfl rfl rfl rfl ?_
    refine e_iconst dX7_clouds_14 rfl ?_
    refine e_iaload dX7_clouds_15 rfl rfl rfl (by omega) (by decide) ?_
    refine e_bipush dX7_clouds_16 rfl rfl ?_
    refine e_icmp_eq (t := 30) dX7_clouds_18 rfl rfl (by omega) (by omega) (fun h18 => ?_) (fun h18 => ?_)
    · refine e_iconst dX7_clouds_30 rfl ?_
      exact e_iret dX7_clouds_31 rfl rfl (mCh_no (c := 3) (v := 3) (by show hCloud F x y = 3; unfold hCloud; rw [if_neg (Decidable.not_not.mpr h5), if_pos (Or.inl (by omega))]) (by decide) (by decide) rfl)
    · refine e_aload_n dX7_clouds_21 rfl rfl ?_
      refine e_iload_n dX7_clouds_22 rfl rfl ?_
      refine e_iload_n dX7_clouds_23 rfl rfl ?_
      refine e_cV0 [0, 1, 2, 3, 4, 5] lk_X7_66 rfl dX7_clouds_24 rfl (C_X7_cloud hF0 hR (by omega) (by omega)) rfl rfl (Nat.le_of_ble_eq_true rfl) (Nat.le_of_ble_eq_true rfl) (Nat.le_of_ble_eq_true rfl) ⟨rfl, rfl⟩ rfl rfl rfl rfl rfl rfl  ?_
      refine e_if_lt (t := 32) dX7_clouds_27 rfl rfl (by omega) (fun h27 => ?_) (fun h27 => ?_)
      · refine e_aload_n dX7_clouds_32 rfl rfl ?_
        refine e_iload_n dX7_clouds_33 rfl rfl ?_
        refine e_iload_n dX7_clouds_34 rfl rfl ?_
        refine e_cV0 [0, 1, 2, 3, 4, 5] lk_X7_138 rfl dX7_clouds_35 rfl (C_X7_at hF0 hR (by omega) (by omega)) rfl rfl (Nat.le_of_ble_eq_true rfl) (Nat.le_of_ble_eq_true rfl) (Nat.le_of_ble_eq_true rfl) ⟨rfl, rfl⟩ rfl rfl rfl rfl rfl rfl  ?_
        refine e_if_lt (t := 43) dX7_clouds_38 rfl rfl (by omega) (fun h38 => ?_) (fun h38 => ?_)
        · refine e_aload_n dX7_clouds_43 rfl rfl ?_
          refine e_getfield fd_X7_9 dX7_clouds_44 rfl rfl rfl rfl ?_
          refine e_bipush dX7_clouds_47 rfl rfl ?_
          refine e_aload_n dX7_clouds_49 rfl rfl ?_
          refine e_getfield fd_X7_9 dX7_clouds_50 rfl rfl rfl rfl ?_
          refine e_iconst dX7_clouds_53 rfl ?_
          refine e_iaload dX7_clouds_54 rfl rfl rfl (by omega) (by decide) ?_
          refine EV.eq (st' := [vi (F.1 9), vi 50, .ref (a 1)]) (by rw [← n1] <;> rfl) ?_
          refine e_iadd dX7_clouds_55 rfl ?_
          refine e_bipush dX7_clouds_56 rfl rfl ?_
          refine e_iload_n dX7_clouds_58 rfl rfl ?_
          refine e_imul dX7_clouds_59 rfl ?_
          refine e_iload_n dX7_clouds_60 rfl rfl ?_
          refine e_iadd dX7_clouds_61 rfl ?_
          refine e_iastore dX7_clouds_62 rfl rfl rfl (by omega) (by decide) ?_
          refine EV.ceq (cs' := wMx a M.1 (eU (M.2 0) (50 + F.1 9) (12 * y + x)) (M.2 1) (M.2 2) (M.2 3) (M.2 4)) rfl ?_
          refine e_aload_n dX7_clouds_63 rfl rfl ?_
          refine e_getfield fd_X7_9 dX7_clouds_64 rfl rfl rfl rfl ?_
          refine e_iconst dX7_clouds_67 rfl ?_
          refine e_dup2 dX7_clouds_68 rfl rfl rfl ?_
          refine e_iaload dX7_clouds_69 rfl rfl rfl (by omega) (by decide) ?_
          refine EV.eq (st' := [vi (F.1 9), vi 1, .ref (a 1)]) (by show [vi ((eU (M.2 0) (50 + F.1 9) (12 * y + x)) 1), vi 1, .ref (a 1)] = _; rw [eU_ne (by omega), n1]) ?_
          refine e_iconst dX7_clouds_70 rfl ?_
          refine e_iadd dX7_clouds_71 rfl ?_
          refine e_iastore dX7_clouds_72 rfl rfl rfl (by omega) (by decide) ?_
          refine EV.ceq (cs' := wMx a M.1 (mCp (F.1 9) (M.2 0) x y) (M.2 1) (M.2 2) (M.2 3) (M.2 4)) rfl ?_
          refine e_aload_n dX7_clouds_73 rfl rfl ?_
          refine e_aload_n dX7_clouds_74 rfl rfl ?_
          refine e_getfield fd_X7_9 dX7_clouds_75 rfl rfl rfl rfl ?_
          refine e_iconst dX7_clouds_78 rfl ?_
          refine e_iaload dX7_clouds_79 rfl rfl rfl (by omega) (by decide) ?_
          refine EV.eq (st' := [vi (F.1 9 + 1), .ref (a 0)]) (by show [vi ((mCp (F.1 9) (M.2 0) x y) 1), .ref (a 0)] = _; unfold mCp; rw [eU_self]) ?_
          refine e_putfield fd_X7_43 dX7_clouds_80 rfl rfl rfl (Nat.le_of_ble_eq_true rfl) rfl rfl ?_
          refine e_iconst dX7_clouds_83 rfl ?_
          exact e_iret dX7_clouds_84 rfl rfl (mCh_ok (M := M) (F := F) (k := 3) (p := x) (q := y) (r := 0) (x := mCp (F.1 9) (M.2 0) x y) (sh := M.2 1) (v := (F.1 9 + 1)) (by show hCloud F x y = 0; unfold hCloud; rw [if_neg (Decidable.not_not.mpr h5), if_neg (fun q => q.elim (fun q => by omega) (fun q => absurd (mc.2.1.mpr q) (by omega))), if_pos (by have := sAt_in (F := F) (x := x) (y := y); omega)]) (mR_cp hF0 hR (by omega) h5 (fun q => absurd (mc.2.1.mpr q) (by omega))) (rfl))
        · refine e_iconst dX7_clouds_41 rfl ?_
          exact e_iret dX7_clouds_42 rfl rfl (mCh_no (c := 5) (v := 4) (by show hCloud F x y = 5; unfold hCloud; rw [if_neg (Decidable.not_not.mpr h5), if_neg (fun q => q.elim (fun q => by omega) (fun q => absurd (mc.2.1.mpr q) (by omega))), if_neg (by omega)]) (by decide) (by decide) rfl)
      · refine e_iconst dX7_clouds_30 rfl ?_
        exact e_iret dX7_clouds_31 rfl rfl (mCh_no (c := 3) (v := 3) (by show hCloud F x y = 3; unfold hCloud; rw [if_neg (Decidable.not_not.mpr h5), if_pos (Or.inr (mc.2.1.mp (by omega)))]) (by decide) (by decide) rfl)
  · refine e_iconst dX7_clouds_8 rfl ?_
    exact e_iret dX7_clouds_9 rfl rfl (mCh_no (c := 2) (v := 2) (by show hCloud F x y = 2; unfold hCloud; rw [if_pos h5]) (by decide) (by decide) rfl)
theorem C_X7_clears {X : eXT} {a : Nat → Nat} {N : Int} {F M : eFs} (hF : okF N F) (hR : mR F (M.2 0)) {x y : Int} (gx : -2147483648 ≤ x ∧ x ≤ 2147483647) (gy : -2147483648 ≤ y ∧ y ≤ 2147483647) :
    EM X mX7_clears (eRm 2) a [.ref (a 0), vi x, vi y] (wM a M) (eRets (some (vi (mHC (sHin F 4 x y 0)))) a (mCh a M F 4 x y 0)) := by
  refine EM.of (by decide +kernel) rfl (Nat.le_of_ble_eq_true rfl) ?_
  have hF0 := hF
  obtain ⟨hc, hld, hled, htn, hgo, hkp, hst, hwt, hcl, hsh, hnx, hN, rx, ry, rh, rm, rc, rw9⟩ := hF
  obtain ⟨⟨n0, n1, n2, n3, n4, n5, n6, n7, n8, n9⟩, hb, hcd, hss⟩ := id hR
  refine e_iload_n dX7_clears_0 rfl rfl ?_
  refine e_iload_n dX7_clears_1 rfl rfl ?_
  refine e_cS0 [] lk_X7_62 rfl dX7_clears_2 rfl (C_X7_isCell (by omega) (by omega)) rfl rfl (Nat.le_of_ble_eq_true rfl) (Nat.le_of_ble_eq_true rfl) (Nat.le_of_ble_eq_true rfl) ⟨rfl, rfl⟩ rfl rfl  ?_
  refine e_ifb_ne (t := 10) dX7_clears_5 rfl rfl (fun h5 => ?_) (fun h5 => ?_)
  · have mc := mCl_cov (u := x) (v := y) hF0 hR h5
    refine e_aload_n dX7_clears_10 rfl rfl ?_
    refine e_iload_n dX7_clears_11 rfl rfl ?_
    refine e_iload_n dX7_clears_12 rfl rfl ?_
    refine e_cV0 [0, 1, 2, 3, 4, 5] lk_X7_66 rfl dX7_clears_13 rfl (C_X7_cloud hF0 hR (by omega) (by omega)) rfl rfl (Nat.le_of_ble_eq_true rfl) (Nat.le_of_ble_eq_true rfl) (Nat.le_of_ble_eq_true rfl) ⟨rfl, rfl⟩ rfl rfl rfl rfl rfl rfl  ?_
    refine f_istore_n dX7_clears_16 rfl (Nat.le_of_ble_eq_true rfl) rfl ?_
    refine e_iload_n dX7_clears_17 rfl rfl ?_
    refine e_if_ge (t := 23) dX7_clears_18 rfl rfl (by omega) (fun h18 => ?_) (fun h18 => ?_)
    · refine e_aload_n dX7_clears_23 rfl rfl ?_
      refine e_getfield fd_X7_9 dX7_clears_24 rfl rfl rfl rfl ?_
      refine e_iconst dX7_clears_27 rfl ?_
      refine e_dup2 dX7_clears_28 rfl rfl rfl ?_
      refine e_iaload dX7_clears_29 rfl rfl rfl (by omega) (by decide) ?_
      refine EV.eq (st' := [vi (F.1 9), vi 1, .ref (a 1)]) (by rw [← n1] <;> rfl) ?_
      refine e_iconst dX7_clears_30 rfl ?_
      refine e_isub dX7_clears_31 rfl ?_
      refine e_iastore dX7_clears_32 rfl rfl rfl (by omega) (by decide) ?_
      refine EV.ceq (cs' := wMx a M.1 (eU (M.2 0) 1 (F.1 9 - 1)) (M.2 1) (M.2 2) (M.2 3) (M.2 4)) rfl ?_
      refine e_aload_n dX7_clears_33 rfl rfl ?_
      refine e_getfield fd_X7_9 dX7_clears_34 rfl rfl rfl rfl ?_
      refine e_bipush dX7_clears_37 rfl rfl ?_
      refine e_iload_n dX7_clears_39 rfl rfl ?_
      refine e_iadd dX7_clears_40 rfl ?_
      refine e_aload_n dX7_clears_41 rfl rfl ?_
      refine e_getfield fd_X7_9 dX7_clears_42 rfl rfl rfl rfl ?_
      refine e_bipush dX7_clears_45 rfl rfl ?_
      refine e_aload_n dX7_clears_47 rfl rfl ?_
      refine e_getfield fd_X7_9 dX7_clears_48 rfl rfl rfl rfl ?_
      refine e_iconst dX7_clears_51 rfl ?_
      refine e_iaload dX7_clears_52 rfl rfl rfl (by omega) (by decide) ?_
      refine EV.eq (st' := [vi (F.1 9 - 1), vi 50, .ref (a 1), vi (50 + mCl M x y), .ref (a 1)]) (by show [vi ((eU (M.2 0) 1 (F.1 9 - 1)) 1), vi 50, .ref (a 1), vi (50 + mCl M x y), .ref (a 1)] = _; rw [eU_self]) ?_
      refine e_iadd dX7_clears_53 rfl ?_
      refine e_iaload dX7_clears_54 rfl rfl rfl (by omega) (by decide) ?_
      refine EV.eq (st' := [vi (M.2 0 (50 + (F.1 9 - 1))), vi (50 + mCl M x y), .ref (a 1)]) (by show [vi ((eU (M.2 0) 1 (F.1 9 - 1)) (50 + (F.1 9 - 1))), vi (50 + mCl M x y), .ref (a 1)] = _; rw [eU_ne (by omega)]) ?_
      refine e_iastore dX7_clears_55 rfl rfl rfl (by omega) (by decide) ?_
      refine EV.ceq (cs' := wMx a M.1 (eU (eU (M.2 0) 1 (F.1 9 - 1)) (50 + mCl M x y) (M.2 0 (50 + (F.1 9 - 1)))) (M.2 1) (M.2 2) (M.2 3) (M.2 4)) rfl ?_
      refine e_aload_n dX7_clears_56 rfl rfl ?_
      refine e_getfield fd_X7_9 dX7_clears_57 rfl rfl rfl rfl ?_
      refine e_bipush dX7_clears_60 rfl rfl ?_
      refine e_aload_n dX7_clears_62 rfl rfl ?_
      refine e_getfield fd_X7_9 dX7_clears_63 rfl rfl rfl rfl ?_
      refine e_iconst dX7_clears_66 rfl ?_
      refine e_iaload dX7_clears_67 rfl rfl rfl (by omega) (by decide) ?_
      refine EV.eq (st' := [vi (F.1 9 - 1), vi 50, .ref (a 1)]) (by show [vi ((eU (eU (M.2 0) 1 (F.1 9 - 1)) (50 + mCl M x y) (M.2 0 (50 + (F.1 9 - 1)))) 1), vi 50, .ref (a 1)] = _; rw [eU_ne (by omega), eU_self]) ?_
      refine e_iadd dX7_clears_68 rfl ?_
      refine e_iconst dX7_clears_69 rfl ?_
      refine e_iastore dX7_clears_70 rfl rfl rfl (by omega) (by decide) ?_
      refine EV.ceq (cs' := wMx a M.1 (mCr (F.1 9) (M.2 0) (mCl M x y)) (M.2 1) (M.2 2) (M.2 3) (M.2 4)) rfl ?_
      refine e_aload_n dX7_clears_71 rfl rfl ?_
      refine e_aload_n dX7_clears_72 rfl rfl ?_
      refine e_getfield fd_X7_9 dX7_clears_73 rfl rfl rfl rfl ?_
      refine e_iconst dX7_clears_76 rfl ?_
      refine e_iaload dX7_clears_77 rfl rfl rfl (by omega) (by decide) ?_
      refine EV.eq (st' := [vi (F.1 9 - 1), .ref (a 0)]) (by show [vi ((mCr (F.1 9) (M.2 0) (mCl M x y)) 1), .ref (a 0)] = _; unfold mCr; rw [eU_ne (by omega), eU_ne (by omega), eU_self]) ?_
      refine e_putfield fd_X7_43 dX7_clears_78 rfl rfl rfl (Nat.le_of_ble_eq_true rfl) rfl rfl ?_
      refine e_iconst dX7_clears_81 rfl ?_
      exact e_iret dX7_clears_82 rfl rfl (mCh_ok (M := M) (F := F) (k := 4) (p := x) (q := y) (r := 0) (x := mCr (F.1 9) (M.2 0) (mCl M x y)) (sh := M.2 1) (v := (F.1 9 - 1)) (by show hClear F x y = 0; unfold hClear; rw [if_neg (Decidable.not_not.mpr h5), if_pos (mc.2.1.mp (by omega))]) (mR_cr hF0 hR h5 (by omega) (mc.2.2 (by omega))) (rfl))
    · refine e_iconst dX7_clears_21 rfl ?_
      exact e_iret dX7_clears_22 rfl rfl (mCh_no (c := 4) (v := 5) (by show hClear F x y = 4; unfold hClear; rw [if_neg (Decidable.not_not.mpr h5), if_neg (fun q => absurd (mc.2.1.mpr q) (by omega))]) (by decide) (by decide) rfl)
  · refine e_iconst dX7_clears_8 rfl ?_
    exact e_iret dX7_clears_9 rfl rfl (mCh_no (c := 2) (v := 2) (by show hClear F x y = 2; unfold hClear; rw [if_pos h5]) (by decide) (by decide) rfl)
theorem C_X7_turns {X : eXT} {a : Nat → Nat} {N : Int} {F M : eFs} (hF : okF N F) (hR : mR F (M.2 0)) {s : Int} (gs : -2147483648 ≤ s ∧ s ≤ 2147483647) :
    EM X mX7_turns (eRm 1) a [.ref (a 0), vi s] (wM a M) (eRets (some (vi (mHC (sHin F 5 s 0 0)))) a (mCh a M F 5 s 0 0)) := by
  refine EM.of (by decide +kernel) rfl (Nat.le_of_ble_eq_true rfl) ?_
  have hF0 := hF
  obtain ⟨hc, hld, hled, htn, hgo, hkp, hst, hwt, hcl, hsh, hnx, hN, rx, ry, rh, rm, rc, rw9⟩ := hF
  obtain ⟨⟨n0, n1, n2, n3, n4, n5, n6, n7, n8, n9⟩, hb, hcd, hss⟩ := id hR
  refine e_iload_n dX7_turns_0 rfl rfl ?_
  refine e_iconst dX7_turns_1 rfl ?_
  refine e_bipush dX7_turns_2 rfl rfl ?_
  refine e_cS0 [] lk_X7_46 rfl dX7_turns_4 rfl (C_X7_in (by omega) (by omega) (by omega)) rfl rfl (Nat.le_of_ble_eq_true rfl) (Nat.le_of_ble_eq_true rfl) (Nat.le_of_ble_eq_true rfl) ⟨rfl, rfl⟩ rfl rfl  ?_
  refine e_ifb_ne (t := 12) dX7_turns_7 rfl rfl (fun h7 => ?_) (fun h7 => ?_)
  · refine e_aload_n dX7_turns_12 rfl rfl ?_
    refine e_aload_n dX7_turns_13 rfl rfl ?_
    refine e_getfield fd_X7_9 dX7_turns_14 rfl rfl rfl rfl ?_
    refine e_iconst dX7_turns_17 rfl ?_
    refine e_iaload dX7_turns_18 rfl rfl rfl (by omega) (by decide) ?_
    refine EV.eq (st' := [vi (F.1 3), .ref (a 0)]) (by rw [← n4] <;> rfl) ?_
    refine e_putfield fd_X7_43 dX7_turns_19 rfl rfl rfl (Nat.le_of_ble_eq_true rfl) rfl rfl ?_
    refine EV.ceq (cs' := wM a (sS M 3 (F.1 3))) rfl ?_
    refine e_aload_n dX7_turns_22 rfl rfl ?_
    refine e_getfield fd_X7_9 dX7_turns_23 rfl rfl rfl rfl ?_
    refine e_iconst dX7_turns_26 rfl ?_
    refine e_iload_n dX7_turns_27 rfl rfl ?_
    refine e_iastore dX7_turns_28 rfl rfl rfl (by omega) (by decide) ?_
    refine EV.ceq (cs' := wM a (sR (sS M 3 (F.1 3)) 0 (eU (M.2 0) 4 s))) rfl ?_
    refine e_aload_n dX7_turns_29 rfl rfl ?_
    refine e_getfield fd_X7_9 dX7_turns_30 rfl rfl rfl rfl ?_
    refine e_iconst dX7_turns_33 rfl ?_
    refine e_iconst dX7_turns_34 rfl ?_
    refine e_iastore dX7_turns_35 rfl rfl rfl (by omega) (by decide) ?_
    refine e_iconst dX7_turns_36 rfl ?_
    exact e_iret dX7_turns_37 rfl rfl (mCh_ok (M := M) (F := F) (k := 5) (p := s) (q := 0) (r := 0) (x := eU (eU (M.2 0) 4 s) 3 0) (sh := M.2 1) (v := (F.1 3)) (if_pos h7) (mR_tn hF0 hR) (rfl))
  · refine e_iconst dX7_turns_10 rfl ?_
    exact e_iret dX7_turns_11 rfl rfl (mCh_no (c := 2) (v := 2) (if_neg h7) (by decide) (by decide) rfl)
theorem C_X7_aims {X : eXT} {a : Nat → Nat} {N : Int} {F M : eFs} (hF : okF N F) (hR : mR F (M.2 0)) {x y : Int} (gx : -2147483648 ≤ x ∧ x ≤ 2147483647) (gy : -2147483648 ≤ y ∧ y ≤ 2147483647) :
    EM X mX7_aims (eRm 2) a [.ref (a 0), vi x, vi y] (wM a M) (eRets (some (vi (mHC (sHin F 6 x y 0)))) a (mCh a M F 6 x y 0)) := by
  refine EM.of (by decide +kernel) rfl (Nat.le_of_ble_eq_true rfl) ?_
  have hF0 := hF
  obtain ⟨hc, hld, hled, htn, hgo, hkp, hst, hwt, hcl, hsh, hnx, hN, rx, ry, rh, rm, rc, rw9⟩ := hF
  obtain ⟨⟨n0, n1, n2, n3, n4, n5, n6, n7, n8, n9⟩, hb, hcd, hss⟩ := id hR
  refine e_iload_n dX7_aims_0 rfl rfl ?_
  refine e_iload_n dX7_aims_1 rfl rfl ?_
  refine e_cS0 [] lk_X7_62 rfl dX7_aims_2 rfl (C_X7_isCell (by omega) (by omega)) rfl rfl (Nat.le_of_ble_eq_true rfl) (Nat.le_of_ble_eq_true rfl) (Nat.le_of_ble_eq_true rfl) ⟨rfl, rfl⟩ rfl rfl  ?_
  refine e_ifb_ne (t := 10) dX7_aims_5 rfl rfl (fun h5 => ?_) (fun h5 => ?_)
  · refine e_aload_n dX7_aims_10 rfl rfl ?_
    refine e_getfield fd_X7_9 dX7_aims_11 rfl rfl rfl rfl ?_
    refine e_iconst dX7_aims_14 rfl ?_
    refine e_iaload dX7_aims_15 rfl rfl rfl (by omega) (by decide) ?_
    refine e_if_ne (t := 21) dX7_aims_16 rfl rfl (by omega) (fun h16 => ?_) (fun h16 => ?_)
    · have oG : okF N (sGol F x y) := okF_gol hF0 (by omega) (by omega) (by omega)
      have rG := (mR_gl (u := x) (v := y) hF0 hR h5).1
      refine e_aload_n dX7_aims_21 rfl rfl ?_
      refine e_getfield fd_X7_9 dX7_aims_22 rfl rfl rfl rfl ?_
      refine e_iconst dX7_aims_25 rfl ?_
      refine e_bipush dX7_aims_26 rfl rfl ?_
      refine e_iload_n dX7_aims_28 rfl rfl ?_
      refine e_imul dX7_aims_29 rfl ?_
      refine e_iload_n dX7_aims_30 rfl rfl ?_
      refine e_iadd dX7_aims_31 rfl ?_
      refine e_iconst dX7_aims_32 rfl ?_
      refine e_iadd dX7_aims_33 rfl ?_
      refine e_iastore dX7_aims_34 rfl rfl rfl (by omega) (by decide) ?_
      refine EV.ceq (cs' := wMx a M.1 (eU (M.2 0) 5 (12 * y + x + 1)) (M.2 1) (M.2 2) (M.2 3) (M.2 4)) rfl ?_
      refine e_aload_n dX7_aims_35 rfl rfl ?_
      refine e_aload_n dX7_aims_36 rfl rfl ?_
      refine e_aload_n dX7_aims_37 rfl rfl ?_
      refine e_getfield fd_X7_9 dX7_aims_38 rfl rfl rfl rfl ?_
      refine e_iconst dX7_aims_41 rfl ?_
      refine e_iaload dX7_aims_42 rfl rfl rfl (by omega) (by decide) ?_
      refine EV.eq (st' := [vi (F.1 1), .ref (a 0), .ref (a 0)]) (by show [vi ((eU (M.2 0) 5 (12 * y + x + 1)) 2), .ref (a 0), .ref (a 0)] = _; rw [eU_ne (by omega), n2]) ?_
      refine e_iload_n dX7_aims_43 rfl rfl ?_
      refine e_iload_n dX7_aims_44 rfl rfl ?_
      refine e_cV0 [0, 1, 2, 3, 4, 5] lk_X7_58 rfl dX7_aims_45 rfl (C_X7_far (M := sR M 0 (eU (M.2 0) 5 (12 * y + x + 1))) (F := sGol F x y) oG rG (b := F.1 1) (show 0 ≤ F.1 1 ∧ F.1 1 < F.1 0 by omega) (by omega) (by omega)) rfl rfl (Nat.le_of_ble_eq_true rfl) (Nat.le_of_ble_eq_true rfl) (Nat.le_of_ble_eq_true rfl) ⟨rfl, rfl⟩ rfl rfl rfl rfl rfl rfl  ?_
      refine EV.eq (st' := [vi (sD F (F.1 1) x y), .ref (a 0)]) rfl ?_
      refine e_putfield fd_X7_43 dX7_aims_48 rfl rfl rfl (Nat.le_of_ble_eq_true rfl) rfl rfl ?_
      refine e_iconst dX7_aims_51 rfl ?_
      exact e_iret dX7_aims_52 rfl rfl (mCh_ok (M := M) (F := F) (k := 6) (p := x) (q := y) (r := 0) (x := eU (M.2 0) 5 (12 * y + x + 1)) (sh := M.2 1) (v := (sD F (F.1 1) x y)) (by show hGoal F x y = 0; unfold hGoal; rw [if_neg (Decidable.not_not.mpr h5), if_pos (by omega)]) (mR_gl hF0 hR h5) (rfl))
    · refine e_iconst dX7_aims_19 rfl ?_
      exact e_iret dX7_aims_20 rfl rfl (mCh_no (c := 4) (v := 5) (by show hGoal F x y = 4; unfold hGoal; rw [if_neg (Decidable.not_not.mpr h5), if_neg (by omega)]) (by decide) (by decide) rfl)
  · refine e_iconst dX7_aims_8 rfl ?_
    exact e_iret dX7_aims_9 rfl rfl (mCh_no (c := 2) (v := 2) (by show hGoal F x y = 2; unfold hGoal; rw [if_pos h5]) (by decide) (by decide) rfl)
theorem C_X7_keeps {X : eXT} {a : Nat → Nat} {N : Int} {F M : eFs} (hF : okF N F) (hR : mR F (M.2 0)) {s : Int} (gs : -2147483648 ≤ s ∧ s ≤ 2147483647) :
    EM X mX7_keeps (eRm 1) a [.ref (a 0), vi s] (wM a M) (eRets (some (vi (mHC (sHin F 7 s 0 0)))) a (mCh a M F 7 s 0 0)) := by
  refine EM.of (by decide +kernel) rfl (Nat.le_of_ble_eq_true rfl) ?_
  have hF0 := hF
  obtain ⟨hc, hld, hled, htn, hgo, hkp, hst, hwt, hcl, hsh, hnx, hN, rx, ry, rh, rm, rc, rw9⟩ := hF
  obtain ⟨⟨n0, n1, n2, n3, n4, n5, n6, n7, n8, n9⟩, hb, hcd, hss⟩ := id hR
  refine e_iload_n dX7_keeps_0 rfl rfl ?_
  refine e_iconst dX7_keeps_1 rfl ?_
  refine e_bipush dX7_keeps_2 rfl rfl ?_
  refine e_cS0 [] lk_X7_46 rfl dX7_keeps_4 rfl (C_X7_in (by omega) (by omega) (by omega)) rfl rfl (Nat.le_of_ble_eq_true rfl) (Nat.le_of_ble_eq_true rfl) (Nat.le_of_ble_eq_true rfl) ⟨rfl, rfl⟩ rfl rfl  ?_
  refine e_ifb_ne (t := 12) dX7_keeps_7 rfl rfl (fun h7 => ?_) (fun h7 => ?_)
  · refine e_aload_n dX7_keeps_12 rfl rfl ?_
    refine e_aload_n dX7_keeps_13 rfl rfl ?_
    refine e_getfield fd_X7_9 dX7_keeps_14 rfl rfl rfl rfl ?_
    refine e_bipush dX7_keeps_17 rfl rfl ?_
    refine e_iaload dX7_keeps_19 rfl rfl rfl (by omega) (by decide) ?_
    refine EV.eq (st' := [vi (F.1 6), .ref (a 0)]) (by rw [← n6] <;> rfl) ?_
    refine e_putfield fd_X7_43 dX7_keeps_20 rfl rfl rfl (Nat.le_of_ble_eq_true rfl) rfl rfl ?_
    refine EV.ceq (cs' := wM a (sS M 3 (F.1 6))) rfl ?_
    refine e_aload_n dX7_keeps_23 rfl rfl ?_
    refine e_getfield fd_X7_9 dX7_keeps_24 rfl rfl rfl rfl ?_
    refine e_bipush dX7_keeps_27 rfl rfl ?_
    refine e_iload_n dX7_keeps_29 rfl rfl ?_
    refine e_iastore dX7_keeps_30 rfl rfl rfl (by omega) (by decide) ?_
    refine e_iconst dX7_keeps_31 rfl ?_
    exact e_iret dX7_keeps_32 rfl rfl (mCh_ok (M := M) (F := F) (k := 7) (p := s) (q := 0) (r := 0) (x := eU (M.2 0) 6 s) (sh := M.2 1) (v := (F.1 6)) (if_pos h7) (mR_kp hF0 hR) (rfl))
  · refine e_iconst dX7_keeps_10 rfl ?_
    exact e_iret dX7_keeps_11 rfl rfl (mCh_no (c := 2) (v := 2) (if_neg h7) (by decide) (by decide) rfl)
theorem C_X7_passes {X : eXT} {a : Nat → Nat} {N : Int} {F M : eFs} (hF : okF N F) (hR : mR F (M.2 0)) {s : Int} (gs : -2147483648 ≤ s ∧ s ≤ 2147483647) (hNs : N + 20000 ≤ 100000000) :
    EM X mX7_passes (eRm 7) a [.ref (a 0), vi s] (wM a M) (eRets (some (vi (mHC (sHin F 8 s 0 0)))) a (mCh a M F 8 s 0 0)) := by
  refine EM.of (by decide +kernel) rfl (Nat.le_of_ble_eq_true rfl) ?_
  have hF0 := hF
  obtain ⟨hc, hld, hled, htn, hgo, hkp, hst, hwt, hcl, hsh, hnx, hN, rx, ry, rh, rm, rc, rw9⟩ := hF
  obtain ⟨⟨n0, n1, n2, n3, n4, n5, n6, n7, n8, n9⟩, hb, hcd, hss⟩ := id hR
  refine e_iload_n dX7_passes_0 rfl rfl ?_
  refine e_iconst dX7_passes_1 rfl ?_
  refine e_bipush dX7_passes_2 rfl rfl ?_
  refine e_cS0 [] lk_X7_46 rfl dX7_passes_4 rfl (C_X7_in (by omega) (by omega) (by omega)) rfl rfl (Nat.le_of_ble_eq_true rfl) (Nat.le_of_ble_eq_true rfl) (Nat.le_of_ble_eq_true rfl) ⟨rfl, rfl⟩ rfl rfl  ?_
  refine e_ifb_ne (t := 12) dX7_passes_7 rfl rfl (fun h7 => ?_) (fun h7 => ?_)
  · refine e_aload_n dX7_passes_12 rfl rfl ?_
    refine e_iconst dX7_passes_13 rfl ?_
    refine e_putfield fd_X7_43 dX7_passes_14 rfl rfl rfl (Nat.le_of_ble_eq_true rfl) rfl rfl ?_
    refine EV.ceq (cs' := wM a (sR (sR (sS M 3 (0)) 1 (M.2 1)) 0 (M.2 0))) rfl ?_
    refine e_iconst dX7_passes_17 rfl ?_
    refine f_istore_n dX7_passes_18 rfl (Nat.le_of_ble_eq_true rfl) rfl ?_
    have hL19 : ∀ (k19 : Nat) (k n : Int) (G : eFs) (x sh : Int → Int) (hk19 : (s - k).toNat = k19) (g19 : 0 ≤ k ∧ k ≤ s) (o19 : okF (N + 12 * k) G) (r19 : mR G x) (f19 : mFr (M.2 0) x) (e19 : sSts (s - 0).toNat F = sSts (s - k).toNat G) (v19 : sStsR (s - 0).toNat F = n + sStsR (s - k).toNat G), EV (mX7_passes, (eRm 7), eRets (some (vi (mHC (sHin F 8 s 0 0)))) a (mCh a M F 8 s 0 0), X) a (0, 0) (wM a (sR (sR (sS M 3 (n)) 1 (sh)) 0 (x))) 19 [some (.ref (a 0)), some (vi s), some (vi k)] [] := by
      intro k19
      induction k19 using Nat.strongRecOn with
      | _ k19 ih19 =>
      intro k n G x sh hk19 g19 o19 r19 f19 e19 v19
      refine e_iload_n dX7_passes_19 rfl rfl ?_
      refine e_iload_n dX7_passes_20 rfl rfl ?_
      refine e_icmp_ge (t := 43) dX7_passes_21 rfl rfl (by omega) (by omega) (fun h21 => ?_) (fun h21 => ?_)
      · have z1 := sSts_end (n := s) (i := k) (F := G) (P := fun _ => 0) (by omega)
        refine e_iconst dX7_passes_43 rfl ?_
        exact e_iret dX7_passes_44 rfl rfl (mCh_ok (M := M) (F := F) (k := 8) (p := s) (q := 0) (r := 0) (x := x) (sh := sh) (v := n) (if_pos h7) (⟨by show mR (sSts (s - 0).toNat F) x; rw [e19, z1.1]; exact r19, f19⟩) (by show n = sStsR (s - 0).toNat F; rw [v19, z1.2.1]; omega))
      · refine e_aload_n dX7_passes_24 rfl rfl ?_
        refine e_dup dX7_passes_25 rfl rfl ?_
        refine e_getfield fd_X7_43 dX7_passes_26 rfl rfl rfl rfl ?_
        refine EV.eq (st' := [vi n, .ref (a 0)]) rfl ?_
        refine e_aload_n dX7_passes_29 rfl rfl ?_
        refine e_cV1 [0, 1, 2, 3, 4, 5] lk_X7_156 rfl dX7_passes_30 rfl (C_X7_steps (M := sR (sR (sS M 3 n) 1 sh) 0 x) o19 r19 (by omega)) rfl rfl (Nat.le_of_ble_eq_true rfl) (Nat.le_of_ble_eq_true rfl) (Nat.le_of_ble_eq_true rfl) ⟨rfl, rfl⟩ rfl rfl rfl rfl rfl rfl (fun cs1 hcs => by obtain ⟨sh2, x2, hcs, -⟩ := hcs; rw [hcs]; rfl) ?_
        intro cs1 hcs
        obtain ⟨sh2, x2, hcs, hr2, hf2⟩ := hcs
        subst hcs
        refine e_iadd dX7_passes_33 rfl ?_
        refine e_putfield fd_X7_43 dX7_passes_34 rfl rfl rfl (Nat.le_of_ble_eq_true rfl) rfl rfl ?_
        refine f_iinc dX7_passes_37 rfl rfl (Nat.le_of_ble_eq_true rfl) rfl ?_
        refine e_goto (n := 19) dX7_passes_40 rfl ?_
        refine EV.ceq (cs' := wM a (sR (sR (sS M 3 (n + sStpR G)) 1 (sh2)) 0 (x2))) rfl ?_
        exact ih19 _ (by omega) (k + 1) (n + sStpR G) (sStp G) x2 sh2 rfl (by omega) (by rw [show N + 12 * (k + 1) = N + 12 * k + 12 by omega]; exact okF_stp o19 (by omega)) hr2 (mR_fr f19 hf2) (e19.trans (sSts_go (P := fun _ => 0) (by omega)).1) (by rw [v19, (sSts_go (n := s) (i := k) (F := G) (P := fun _ => 0) (by omega)).2.1]; omega)
    exact hL19 _ 0 0 F (M.2 0) (M.2 1) rfl (by omega) (by rw [show N + 12 * 0 = N by omega]; exact hF0) hR (fun j hj => rfl) rfl (by omega)
  · refine e_iconst dX7_passes_10 rfl ?_
    exact e_iret dX7_passes_11 rfl rfl (mCh_no (c := 2) (v := 2) (if_neg h7) (by decide) (by decide) rfl)
