/-! ===== the reference: changes ===== -/
theorem mR_bk {F G : eFs} {x y : Int → Int} (hR : mR F x) (hn : mRn G y) (hb : mRb G y) (e4 : G.2 4 = F.2 4) (e5 : G.2 5 = F.2 5) (e9 : G.1 9 = F.1 9) (e10 : G.1 10 = F.1 10) (e11 : G.1 11 = F.1 11) (h : ∀ j, 50 ≤ j → y j = x j) : mR G y := by
  obtain ⟨q1, q2, ⟨q3, q4, q5⟩, q6⟩ := hR
  refine ⟨hn, hb, ⟨fun u v i => ?_, fun k k0 k1 => ?_, fun k j k0 k1 j1 => ?_⟩, fun k k0 k1 => ?_⟩
  · rw [e4, q3 u v i, e9]
    constructor
    · rintro ⟨k, k0, k1, e⟩; exact ⟨k, k0, k1, by rw [h _ (by omega)]; exact e⟩
    · rintro ⟨k, k0, k1, e⟩; exact ⟨k, k0, k1, by rw [h _ (by omega)] at e; exact e⟩
  · rw [e9] at k1
    rw [h _ (by omega)]; exact q4 k k0 k1
  · rw [e9] at j1
    rw [h _ (by omega), h _ (by omega)]; exact q5 k j k0 k1 j1
  · rw [e10] at k1
    rw [e5, e11]
    exact mSh_cong (fun r r0 r1 => h _ (by omega)) (q6 k k0 k1)
def mAd (n : Int) (x : Int → Int) (u v g : Int) : Int → Int := eU (eU (eU (eU (eU x 0 (x 0 + 1)) (10 + 4 * n + 0) u) (10 + 4 * n + 1) v) (10 + 4 * n + 2) g) (10 + 4 * n + 3) 0
theorem mAd_at {n u v g j : Int} {x : Int → Int} (h : ¬ (10 + 4 * n ≤ j ∧ j ≤ 13 + 4 * n)) (h0 : j ≠ 0) : mAd n x u v g j = x j := by
  unfold mAd
  rw [eU_ne (by omega), eU_ne (by omega), eU_ne (by omega), eU_ne (by omega), eU_ne h0]
theorem mR_ad {N : Int} {F : eFs} {x : Int → Int} {u v g : Int} (hF : okF N F) (hR : mR F x) (h0 : F.1 0 < 10) : mR (sAdd F u v g) (mAd (F.1 0) x u v g) ∧ mFr x (mAd (F.1 0) x u v g) := by
  obtain ⟨hc, hld, hled, htn, hgo, hkp, hst, hwt, hcl, hsh, hnx, hN, rx, ry, rh, rm, rc, rw9⟩ := hF
  have m := fun j (h : ¬ (10 + 4 * F.1 0 ≤ j ∧ j ≤ 13 + 4 * F.1 0)) (h0 : j ≠ 0) => mAd_at (x := x) (u := u) (v := v) (g := g) h h0
  refine ⟨mR_bk hR ?_ (fun k k0 k1 => ?_) rfl rfl rfl rfl rfl (fun j hj => m j (by omega) (by omega)), fun j hj => m j (by omega) (by omega)⟩
  · obtain ⟨a0, a1, a2, a3, a4, a5, a6, a7, a8, a9⟩ := hR.1
    unfold mRn
    rw [m 1 (by omega) (by omega), m 2 (by omega) (by omega), m 3 (by omega) (by omega), m 4 (by omega) (by omega), m 5 (by omega) (by omega), m 6 (by omega) (by omega), m 7 (by omega) (by omega), m 8 (by omega) (by omega), m 9 (by omega) (by omega)]
    refine ⟨?_, a1, a2, a3, a4, a5, a6, a7, a8, a9⟩
    show mAd (F.1 0) x u v g 0 = F.1 0 + 1
    unfold mAd
    rw [eU_ne (by omega), eU_ne (by omega), eU_ne (by omega), eU_ne (by omega), eU_self, a0]
  · have k1 : k < F.1 0 + 1 := k1
    show mAd (F.1 0) x u v g (10 + 4 * k + 0) = eU (F.2 0) (F.1 0) u k ∧ mAd (F.1 0) x u v g (10 + 4 * k + 1) = eU (F.2 1) (F.1 0) v k ∧ mAd (F.1 0) x u v g (10 + 4 * k + 2) = eU (F.2 2) (F.1 0) g k ∧ mAd (F.1 0) x u v g (10 + 4 * k + 3) = eU (F.2 3) (F.1 0) 0 k
    by_cases e : k = F.1 0
    · rw [e, eU_self, eU_self, eU_self, eU_self]
      unfold mAd
      rw [eU_ne (show 10 + 4 * F.1 0 + 0 ≠ 10 + 4 * F.1 0 + 3 by omega), eU_ne (show 10 + 4 * F.1 0 + 0 ≠ 10 + 4 * F.1 0 + 2 by omega), eU_ne (show 10 + 4 * F.1 0 + 0 ≠ 10 + 4 * F.1 0 + 1 by omega), eU_self, eU_ne (show 10 + 4 * F.1 0 + 1 ≠ 10 + 4 * F.1 0 + 3 by omega), eU_ne (show 10 + 4 * F.1 0 + 1 ≠ 10 + 4 * F.1 0 + 2 by omega), eU_self, eU_ne (show 10 + 4 * F.1 0 + 2 ≠ 10 + 4 * F.1 0 + 3 by omega), eU_self, eU_self]
      exact ⟨rfl, rfl, rfl, rfl⟩
    · rw [eU_ne e, eU_ne e, eU_ne e, eU_ne e, m _ (by omega) (by omega), m _ (by omega) (by omega), m _ (by omega) (by omega), m _ (by omega) (by omega)]
      exact hR.2.1 k k0 (by omega)
def mPt (x : Int → Int) (b u v : Int) : Int → Int := eU (eU x (10 + 4 * b + 0) u) (10 + 4 * b + 1) v
theorem mR_pt {N : Int} {F : eFs} {x : Int → Int} {b u v : Int} (hF : okF N F) (hR : mR F x) (hb : sHas F b) : mR (sPut F b u v) (mPt x b u v) ∧ mFr x (mPt x b u v) := by
  have hc := hF.1
  have hb1 := hb.2
  have hb0 := hb.1
  have m := fun j (h : j ≠ 10 + 4 * b + 0) (h1 : j ≠ 10 + 4 * b + 1) => (show mPt x b u v j = x j from (eU_ne h1).trans (eU_ne h))
  refine ⟨mR_bk hR ?_ (fun k k0 k1 => ?_) rfl rfl rfl rfl rfl (fun j hj => m j (by omega) (by omega)), fun j hj => m j (by omega) (by omega)⟩
  · unfold mRn
    rw [m 0 (by omega) (by omega), m 1 (by omega) (by omega), m 2 (by omega) (by omega), m 3 (by omega) (by omega), m 4 (by omega) (by omega), m 5 (by omega) (by omega), m 6 (by omega) (by omega), m 7 (by omega) (by omega), m 8 (by omega) (by omega), m 9 (by omega) (by omega)]
    exact hR.1
  · have k1 : k < F.1 0 := k1
    have hk := hR.2.1 k k0 k1
    show mPt x b u v (10 + 4 * k + 0) = eU (F.2 0) b u k ∧ mPt x b u v (10 + 4 * k + 1) = eU (F.2 1) b v k ∧ mPt x b u v (10 + 4 * k + 2) = F.2 2 k ∧ mPt x b u v (10 + 4 * k + 3) = F.2 3 k
    by_cases e : k = b
    · subst e
      rw [eU_self, eU_self, m (10 + 4 * k + 2) (by omega) (by omega), m (10 + 4 * k + 3) (by omega) (by omega)]
      exact ⟨(eU_ne (by omega)).trans eU_self, eU_self, hk.2.2.1, hk.2.2.2⟩
    · rw [eU_ne e, eU_ne e, m _ (by omega) (by omega), m _ (by omega) (by omega), m _ (by omega) (by omega), m _ (by omega) (by omega)]
      exact hk
theorem mR_hd {N : Int} {F : eFs} {x : Int → Int} {b g : Int} (hF : okF N F) (hR : mR F x) (hb : sHas F b) : mR (sHnd F b g) (eU x (10 + 4 * b + 2) g) ∧ mFr x (eU x (10 + 4 * b + 2) g) := by
  have hc := hF.1
  have hb1 := hb.2
  have hb0 := hb.1
  have m := fun j (h : j ≠ 10 + 4 * b + 2) => eU_ne (x := x) (v := g) h
  refine ⟨mR_bk hR ?_ (fun k k0 k1 => ?_) rfl rfl rfl rfl rfl (fun j hj => m j (by omega)), fun j hj => m j (by omega)⟩
  · unfold mRn
    rw [m 0 (by omega), m 1 (by omega), m 2 (by omega), m 3 (by omega), m 4 (by omega), m 5 (by omega), m 6 (by omega), m 7 (by omega), m 8 (by omega), m 9 (by omega)]
    exact hR.1
  · have k1 : k < F.1 0 := k1
    have hk := hR.2.1 k k0 k1
    show eU x (10 + 4 * b + 2) g (10 + 4 * k + 0) = F.2 0 k ∧ eU x (10 + 4 * b + 2) g (10 + 4 * k + 1) = F.2 1 k ∧ eU x (10 + 4 * b + 2) g (10 + 4 * k + 2) = eU (F.2 2) b g k ∧ eU x (10 + 4 * b + 2) g (10 + 4 * k + 3) = F.2 3 k
    by_cases e : k = b
    · subst e
      rw [eU_self, eU_self, m (10 + 4 * k + 0) (by omega), m (10 + 4 * k + 1) (by omega), m (10 + 4 * k + 3) (by omega)]
      exact ⟨hk.1, hk.2.1, rfl, hk.2.2.2⟩
    · rw [eU_ne e, m _ (by omega), m _ (by omega), m _ (by omega), m _ (by omega)]
      exact hk
theorem mR_cl {F G : eFs} {x y : Int → Int} (hc : 0 ≤ F.1 0 ∧ F.1 0 ≤ 10) (hR : mR F x) (hn : mRn G y) (hcl : mRc G y) (e0 : G.1 0 = F.1 0) (e : G.2 0 = F.2 0 ∧ G.2 1 = F.2 1 ∧ G.2 2 = F.2 2 ∧ G.2 3 = F.2 3) (e5 : G.2 5 = F.2 5) (e10 : G.1 10 = F.1 10) (e11 : G.1 11 = F.1 11) (h : ∀ j, (10 ≤ j ∧ j < 50) ∨ 58 ≤ j → y j = x j) : mR G y := by
  obtain ⟨q1, q2, q3, q6⟩ := hR
  refine ⟨hn, fun k k0 k1 => ?_, hcl, fun k k0 k1 => ?_⟩
  · rw [e0] at k1
    rw [e.1, e.2.1, e.2.2.1, e.2.2.2, h _ (by omega), h _ (by omega), h _ (by omega), h _ (by omega)]
    exact q2 k k0 k1
  · rw [e10] at k1
    rw [e5, e11]
    exact mSh_cong (fun r r0 r1 => h _ (by omega)) (q6 k k0 k1)
def mCp (n : Int) (x : Int → Int) (u v : Int) : Int → Int := eU (eU x (50 + n) (12 * v + u)) 1 (n + 1)
theorem mR_cp {N : Int} {F : eFs} {x : Int → Int} {u v : Int} (hF : okF N F) (hR : mR F x) (h9 : F.1 9 < 8) (hi : sIn u v) (hv : ¬ sCov (F.2 4) u v) : mR (sCPut F u v) (mCp (F.1 9) x u v) ∧ mFr x (mCp (F.1 9) x u v) := by
  obtain ⟨hc, hld, hled, htn, hgo, hkp, hst, hwt, hcl, hsh, hnx, hN, rx, ry, rh, rm, rc, rw9⟩ := hF
  obtain ⟨q3, q4, q5⟩ := hR.2.2.1
  have m := fun j (h : j ≠ 50 + F.1 9) (h1 : j ≠ 1) => (show mCp (F.1 9) x u v j = x j from (eU_ne h1).trans (eU_ne h))
  have m9 : mCp (F.1 9) x u v (50 + F.1 9) = 12 * v + u := (eU_ne (by omega)).trans eU_self
  have new : ∀ k, 0 ≤ k → k < F.1 9 → x (50 + k) ≠ 12 * v + u := fun k k0 k1 e => hv ⟨hi, (q3 u v hi).mpr ⟨k, k0, k1, e⟩⟩
  refine ⟨mR_cl hc hR ?_ ⟨fun u' v' i => ?_, fun k k0 k1 => ?_, fun k j k0 k1 j1 => ?_⟩ rfl ⟨rfl, rfl, rfl, rfl⟩ rfl rfl rfl (fun j hj => m j (by omega) (by omega)), fun j hj => m j (by omega) (by omega)⟩
  · obtain ⟨a0, a1, a2, a3, a4, a5, a6, a7, a8, a9⟩ := hR.1
    unfold mRn
    rw [m 0 (by omega) (by omega), m 2 (by omega) (by omega), m 3 (by omega) (by omega), m 4 (by omega) (by omega), m 5 (by omega) (by omega), m 6 (by omega) (by omega), m 7 (by omega) (by omega), m 8 (by omega) (by omega), m 9 (by omega) (by omega)]
    exact ⟨a0, eU_self, a2, a3, a4, a5, a6, a7, a8, a9⟩
  · have i0 := i.1
    have i1 := i.2.1
    have hi0 := hi.1
    have hi1 := hi.2.1
    have hin : 0 ≤ v ∧ v < 12 ∧ 0 ≤ v' ∧ v' < 12 := by omega
    show sBit (eU (F.2 4) v (bOr (F.2 4 v) (bShl 1 u)) v') u' ↔ ∃ k, 0 ≤ k ∧ k < F.1 9 + 1 ∧ mCp (F.1 9) x u v (50 + k) = 12 * v' + u'
    have key : sBit (eU (F.2 4) v (bOr (F.2 4 v) (bShl 1 u)) v') u' ↔ sBit (F.2 4 v') u' ∨ (v' = v ∧ u' = u) := by
      by_cases e : v' = v
      · rw [e, eU_self, (sBit_or (rc v) (by omega) (by omega) (by omega) (by omega)).2]
        constructor
        · rintro (q | q)
          · exact Or.inl q
          · exact Or.inr ⟨rfl, q⟩
        · rintro (q | q)
          · exact Or.inl q
          · exact Or.inr q.2
      · rw [eU_ne e]
        exact ⟨Or.inl, fun q => q.elim id (fun q => absurd q.1 e)⟩
    rw [key, q3 u' v' i]
    constructor
    · rintro (⟨k, k0, k1, e⟩ | ⟨e1, e2⟩)
      · exact ⟨k, k0, by omega, by rw [m _ (by omega) (by omega)]; exact e⟩
      · exact ⟨F.1 9, hcl.1, by omega, by rw [m9, e1, e2]⟩
    · rintro ⟨k, k0, k1, e⟩
      by_cases ek : k = F.1 9
      · rw [ek, m9] at e
        exact Or.inr (by omega)
      · rw [m _ (by omega) (by omega)] at e
        exact Or.inl ⟨k, k0, by omega, e⟩
  · have k1 : k < F.1 9 + 1 := k1
    by_cases ek : k = F.1 9
    · rw [ek, m9]
      have := hi.1
      have := hi.2.1
      omega
    · rw [m _ (by omega) (by omega)]; exact q4 k k0 (by omega)
  · have j1 : j < F.1 9 + 1 := j1
    rw [m (50 + k) (by omega) (by omega)]
    by_cases ej : j = F.1 9
    · rw [ej, m9]; exact new k k0 (by omega)
    · rw [m _ (by omega) (by omega)]; exact q5 k j k0 k1 (by omega)
def mCr (n : Int) (x : Int → Int) (k : Int) : Int → Int := eU (eU (eU x 1 (n - 1)) (50 + k) (x (50 + (n - 1)))) (50 + (n - 1)) 0
theorem mR_cr {N : Int} {F : eFs} {x : Int → Int} {u v k : Int} (hF : okF N F) (hR : mR F x) (hi : sIn u v) (hk : 0 ≤ k ∧ k < F.1 9) (he : x (50 + k) = 12 * v + u) : mR (sCRem F u v) (mCr (F.1 9) x k) ∧ mFr x (mCr (F.1 9) x k) := by
  obtain ⟨hc, hld, hled, htn, hgo, hkp, hst, hwt, hcl, hsh, hnx, hN, rx, ry, rh, rm, rc, rw9⟩ := hF
  obtain ⟨q3, q4, q5⟩ := hR.2.2.1
  have m := fun j (h : j ≠ 50 + (F.1 9 - 1)) (h1 : j ≠ 1) (h2 : j ≠ 50 + k) => (show mCr (F.1 9) x k j = x j from ((eU_ne h).trans (eU_ne h2)).trans (eU_ne h1))
  have mk : k < F.1 9 - 1 → mCr (F.1 9) x k (50 + k) = x (50 + (F.1 9 - 1)) := fun q => (eU_ne (by omega)).trans eU_self
  have uniq : ∀ j, 0 ≤ j → j < F.1 9 → x (50 + j) = 12 * v + u → j = k := fun j j0 j1 e => by
    rcases Int.lt_trichotomy j k with h | h | h
    · exact absurd (e.trans he.symm) (q5 j k j0 h hk.2)
    · exact h
    · exact absurd (he.trans e.symm) (q5 k j hk.1 h j1)
  refine ⟨mR_cl hc hR ?_ ⟨fun u' v' i => ?_, fun j k0 k1 => ?_, fun j l k0 k1 j1 => ?_⟩ rfl ⟨rfl, rfl, rfl, rfl⟩ rfl rfl rfl (fun j hj => m j (by omega) (by omega) (by omega)), fun j hj => m j (by omega) (by omega) (by omega)⟩
  · obtain ⟨a0, a1, a2, a3, a4, a5, a6, a7, a8, a9⟩ := hR.1
    unfold mRn
    rw [m 0 (by omega) (by omega) (by omega), m 2 (by omega) (by omega) (by omega), m 3 (by omega) (by omega) (by omega), m 4 (by omega) (by omega) (by omega), m 5 (by omega) (by omega) (by omega), m 6 (by omega) (by omega) (by omega), m 7 (by omega) (by omega) (by omega), m 8 (by omega) (by omega) (by omega), m 9 (by omega) (by omega) (by omega)]
    exact ⟨a0, ((eU_ne (by omega)).trans (eU_ne (by omega))).trans eU_self, a2, a3, a4, a5, a6, a7, a8, a9⟩
  · have i0 := i.1
    have i1 := i.2.1
    have hi0 := hi.1
    have hi1 := hi.2.1
    show sBit (eU (F.2 4) v (bAnd (F.2 4 v) (bXor (bShl 1 u) (-1))) v') u' ↔ ∃ j, 0 ≤ j ∧ j < F.1 9 - 1 ∧ mCr (F.1 9) x k (50 + j) = 12 * v' + u'
    have key : sBit (eU (F.2 4) v (bAnd (F.2 4 v) (bXor (bShl 1 u) (-1))) v') u' ↔ sBit (F.2 4 v') u' ∧ ¬ (v' = v ∧ u' = u) := by
      by_cases e : v' = v
      · rw [e, eU_self, (sBit_cl (rc v) (by omega) (by omega) (by omega) (by omega)).2]
        exact ⟨fun q => ⟨q.1, fun p => q.2 p.2⟩, fun q => ⟨q.1, fun p => q.2 ⟨rfl, p⟩⟩⟩
      · rw [eU_ne e]
        exact ⟨fun q => ⟨q, fun p => e p.1⟩, fun q => q.1⟩
    rw [key, q3 u' v' i]
    constructor
    · rintro ⟨⟨j, k0, k1, e⟩, hne⟩
      have jk : j ≠ k := fun q => by rw [q, he] at e; exact hne (by omega)
      by_cases ej : j = F.1 9 - 1
      · rw [ej] at e
        exact ⟨k, hk.1, by omega, by rw [mk (by omega)]; exact e⟩
      · exact ⟨j, k0, by omega, by rw [m _ (by omega) (by omega) (by omega)]; exact e⟩
    · rintro ⟨j, k0, k1, e⟩
      by_cases ej : j = k
      · rw [ej, mk (by omega)] at e
        refine ⟨⟨F.1 9 - 1, by omega, by omega, e⟩, fun p => ?_⟩
        rw [p.1, p.2] at e
        have := uniq _ (by omega) (by omega) e
        omega
      · rw [m _ (by omega) (by omega) (by omega)] at e
        refine ⟨⟨j, k0, by omega, e⟩, fun p => ?_⟩
        rw [p.1, p.2] at e
        exact ej (uniq _ k0 (by omega) e)
  · have k1 : j < F.1 9 - 1 := k1
    by_cases ej : j = k
    · rw [ej, mk (by omega)]; exact q4 _ (by omega) (by omega)
    · rw [m _ (by omega) (by omega) (by omega)]; exact q4 j k0 (by omega)
  · have j1 : l < F.1 9 - 1 := j1
    by_cases ej : j = k
    · rw [ej, mk (by omega), m (50 + l) (by omega) (by omega) (by omega)]
      exact fun q => q5 l (F.1 9 - 1) (by omega) (by omega) (by omega) q.symm
    · by_cases el : l = k
      · rw [el, mk (by omega), m (50 + j) (by omega) (by omega) (by omega)]
        exact q5 j (F.1 9 - 1) (by omega) (by omega) (by omega)
      · rw [m (50 + j) (by omega) (by omega) (by omega), m (50 + l) (by omega) (by omega) (by omega)]
        exact q5 j l k0 k1 (by omega)
theorem mR_tn {N : Int} {F : eFs} {x : Int → Int} {n : Int} (hF : okF N F) (hR : mR F x) : mR (sTrn F n) (eU (eU x 4 n) 3 0) ∧ mFr x (eU (eU x 4 n) 3 0) := by
  obtain ⟨a0, a1, a2, a3, a4, a5, a6, a7, a8, a9⟩ := hR.1
  have m := fun j (h : j ≠ 4) (h1 : j ≠ 3) => (show eU (eU x 4 n) 3 0 j = x j from (eU_ne h1).trans (eU_ne h))
  refine ⟨mR_num hF.1 hF.2.2.2.2.2.2.2.2.1.2 hR rfl rfl rfl rfl rfl ?_ (fun j hj => m j (by omega) (by omega)), fun j hj => m j (by omega) (by omega)⟩
  unfold mRn
  rw [m 0 (by omega) (by omega), m 1 (by omega) (by omega), m 2 (by omega) (by omega), m 5 (by omega) (by omega), m 6 (by omega) (by omega), m 7 (by omega) (by omega), m 8 (by omega) (by omega), m 9 (by omega) (by omega)]
  exact ⟨a0, a1, a2, eU_self, (eU_ne (by omega)).trans eU_self, a5, a6, a7, a8, a9⟩
theorem mR_gl {N : Int} {F : eFs} {x : Int → Int} {u v : Int} (hF : okF N F) (hR : mR F x) (hi : sIn u v) : mR (sGol F u v) (eU x 5 (12 * v + u + 1)) ∧ mFr x (eU x 5 (12 * v + u + 1)) := by
  obtain ⟨a0, a1, a2, a3, a4, a5, a6, a7, a8, a9⟩ := hR.1
  have m := fun j (h : j ≠ 5) => eU_ne (x := x) (v := 12 * v + u + 1) h
  refine ⟨mR_num hF.1 hF.2.2.2.2.2.2.2.2.1.2 hR rfl rfl rfl rfl rfl ?_ (fun j hj => m j (by omega)), fun j hj => m j (by omega)⟩
  unfold mRn
  rw [m 0 (by omega), m 1 (by omega), m 2 (by omega), m 3 (by omega), m 4 (by omega), m 6 (by omega), m 7 (by omega), m 8 (by omega), m 9 (by omega)]
  refine ⟨a0, a1, a2, a3, a4, eU_self.trans ?_, a6, a7, a8, a9⟩
  have := hi.1
  exact (if_neg (show ¬ u = -1 by omega)).symm
theorem mR_kp {N : Int} {F : eFs} {x : Int → Int} {n : Int} (hF : okF N F) (hR : mR F x) : mR (sKep F n) (eU x 6 n) ∧ mFr x (eU x 6 n) := by
  obtain ⟨a0, a1, a2, a3, a4, a5, a6, a7, a8, a9⟩ := hR.1
  have m := fun j (h : j ≠ 6) => eU_ne (x := x) (v := n) h
  refine ⟨mR_num hF.1 hF.2.2.2.2.2.2.2.2.1.2 hR rfl rfl rfl rfl rfl ?_ (fun j hj => m j (by omega)), fun j hj => m j (by omega)⟩
  unfold mRn
  rw [m 0 (by omega), m 1 (by omega), m 2 (by omega), m 3 (by omega), m 4 (by omega), m 5 (by omega), m 7 (by omega), m 8 (by omega), m 9 (by omega)]
  exact ⟨a0, a1, a2, a3, a4, a5, eU_self, a7, a8, a9⟩
