/-! ===== the reference: a run ===== -/
theorem okF_doR {N : Int} {F : eFs} {x : Int → Int} {k p q r : Int} (hk : 0 ≤ k ∧ k ≤ 8) (hF : okF N F) (hR : mR F x) (hN : N + 240 ≤ 100000000) (e : sHin F k p q r = 0) : okF (N + 240) (sDo F k p q r) := okF_do hk hF hN e (fun h4 => by
    subst h4
    have h := hClear_0 (show hClear F p q = 0 from e)
    obtain ⟨j, j0, j1, _⟩ := (hR.2.2.1.1 p q h.1).mp h.2.2
    omega)
/-- the run of the commands read -/
abbrev mRN (M F : eFs) (Kc : Int → Int) (Mc : Int → Int → Int) : Int × eFs × (Int → Int) := sRn (mPR M Kc Mc).2.2.2.1 (mPR M Kc Mc).2.2.2.2 ((mPR M Kc Mc).2.1 - 0).toNat 0 F P0
abbrev mRT (M F : eFs) (Kc : Int → Int) (Mc : Int → Int → Int) : Int := if (mPR M Kc Mc).1 = -1 then (if (mRN M F Kc Mc).1 = -1 then 0 else 2) else 1
def mRu (M M' F : eFs) (Kc : Int → Int) (Mc : Int → Int → Int) : Prop := M'.1 0 = mRT M F Kc Mc ∧ M'.1 6 = 0 ∧ M'.1 9 = (if (mPR M Kc Mc).1 = -1 then M.1 9 else (mPR M Kc Mc).1) ∧ M'.1 10 = (if (mPR M Kc Mc).1 = -1 then (if (mRN M F Kc Mc).1 = -1 then M.1 10 else (mRN M F Kc Mc).1) else M.1 10) ∧ M'.1 12 = M.1 12 ∧ M'.1 2 = M.1 2 ∧ M'.2 2 = M.2 2 ∧ M'.2 4 = M.2 4
  ∧ (∀ z : Nat → Int, mWh z M → mWh (if (mPR M Kc Mc).1 = -1 then (if (mRN M F Kc Mc).1 = -1 then z else zHi z (mRN M F Kc Mc).2.1 ((mPR M Kc Mc).2.2.2.1 (mRN M F Kc Mc).1) ((mPR M Kc Mc).2.2.2.2 (mRN M F Kc Mc).1 0) ((mPR M Kc Mc).2.2.2.2 (mRN M F Kc Mc).1 1) ((mPR M Kc Mc).2.2.2.2 (mRN M F Kc Mc).1 2)) else z) M')
  ∧ (∀ j, 2250 ≤ j → j < 2500 → M'.2 0 j = M.2 0 j)
  ∧ (mRT M F Kc Mc = 0 → M'.1 1 = mEnc (M.1 1) ∧ mR (mRN M F Kc Mc).2.1 (M'.2 0) ∧ ∀ i j, 1 ≤ i → i ≤ mEnc (M.1 1) → 0 ≤ j → j < 250 → M'.2 0 (250 * i + j) = (if i = mEnc (M.1 1) then M.2 0 j else if M.1 1 = 8 then M.2 0 (250 * (i + 1) + j) else M.2 0 (250 * i + j)))
  ∧ (¬ mRT M F Kc Mc = 0 → M'.1 1 = M.1 1 ∧ ∀ j, 0 ≤ j → j < 2500 → M'.2 0 j = M.2 0 j)
/-- what the loop of the run keeps -/
def mLp (M M2 : eFs) (K1 : Int → Int) (n1 : Int) : Prop := mFr (mAs (M.2 0)) (M2.2 0) ∧ (M2.2 2 = M.2 2 ∧ M2.2 3 = K1 ∧ M2.2 4 = M.2 4) ∧ (M2.1 1 = M.1 1 ∧ M2.1 2 = M.1 2 ∧ M2.1 6 = 0 ∧ M2.1 9 = M.1 9 ∧ M2.1 10 = M.1 10 ∧ M2.1 11 = n1 ∧ M2.1 12 = M.1 12)
theorem mLp_0 {M : eFs} {s : sP} {K1 : Int → Int} {n1 : Int} : mLp M (sR (sS (mPS M s K1 n1) 6 0) 0 (mAs (M.2 0))) K1 n1 := ⟨fun j hj => rfl, ⟨rfl, rfl, rfl⟩, rfl, rfl, rfl, rfl, rfl, rfl, rfl⟩
theorem mLp_k {M M2 M3 : eFs} {K1 : Int → Int} {n1 : Int} (h : mLp M M2 K1 n1) (k : mKeep M2 M3) : mLp M M3 K1 n1 := by
  obtain ⟨h1, ⟨h2, h3, h4⟩, h5, h6, h7, h8, h9, h10, h11⟩ := h
  obtain ⟨k1, ⟨k2, k3, k4⟩, k5⟩ := k
  have w := fun j (a : j ≠ 3) (b : j ≠ 4) (c : j ≠ 5) => k5 j a b c
  exact ⟨mR_fr h1 k1, ⟨k2.trans h2, k3.trans h3, k4.trans h4⟩, (w 1 (by decide) (by decide) (by decide)).trans h5, (w 2 (by decide) (by decide) (by decide)).trans h6, (w 6 (by decide) (by decide) (by decide)).trans h7, (w 9 (by decide) (by decide) (by decide)).trans h8, (w 10 (by decide) (by decide) (by decide)).trans h9, (w 11 (by decide) (by decide) (by decide)).trans h10, (w 12 (by decide) (by decide) (by decide)).trans h11⟩
theorem mHC_0 {c : Int} (h : 0 ≤ c ∧ c ≤ 6) : mHC c = 0 ↔ c = 0 := by
  unfold mHC
  (repeat' split) <;> omega
theorem mHC_in {c : Int} (h : 0 ≤ c ∧ c ≤ 6) : 0 ≤ mHC c ∧ mHC c ≤ 5 := by
  unfold mHC
  (repeat' split) <;> omega
def mM4 (M2 : eFs) (f n1 : Int) : eFs := sS (sS M2 10 f) 3 n1
theorem mRu_y {M M2 F : eFs} {Kc K1 : Int → Int} {Mc : Int → Int → Int} {n1 f : Int} {G : eFs} {Q : Int → Int} (hc : 0 ≤ M.1 1 ∧ M.1 1 ≤ 8) (h : mLp M M2 K1 n1) (hG : (0 ≤ G.1 0 ∧ G.1 0 ≤ 10) ∧ G.1 9 ≤ 8 ∧ G.1 10 ≤ 16) (hr : mR G (M2.2 0)) (hw : ∀ z, mWh z M → mWh z M2) (hp : (mPR M Kc Mc).1 = -1) (hs : mRN M F Kc Mc = (-1, G, Q)) (hf : f = M.1 10) : mRu M (mEn (mM4 M2 f n1) (mTh 0 0 0 2 0 0)) F Kc Mc := by
  obtain ⟨h1, ⟨h2, h3, h4⟩, h5, h6, h7, h8, h9, h10, h11⟩ := h
  have low : ∀ j, 250 ≤ j → j < 2500 → M2.2 0 j = M.2 0 j := fun j a b => (h1 j a).trans (mAs_at b)
  have top : ∀ j, 0 ≤ j → j < 250 → M2.2 0 (2500 + j) = M.2 0 j := fun j a b => (h1 _ (by omega)).trans (mAs_10 ⟨a, b⟩)
  have e1 : (mRN M F Kc Mc).1 = -1 := by rw [hs]
  have e2 : (mRN M F Kc Mc).2.1 = G := by rw [hs]
  have eT : mRT M F Kc Mc = 0 := by unfold mRT; rw [if_pos hp, if_pos e1]
  have c4 : (mM4 M2 f n1).1 1 = M.1 1 := h5
  rw [mEn_y (M := mM4 M2 f n1) (T := mTh 0 0 0 2 0 0) (by decide) rfl rfl, c4]
  unfold mRu
  rw [eT, e1, e2, if_pos hp, if_pos hp, if_pos rfl]
  refine ⟨rfl, h7, h8, hf, h11, h6, h2, h4, fun z hz => (by rw [if_pos hp, if_pos rfl]; exact hw z hz), fun j j0 j1 => ?_, fun _ => ⟨rfl, ?_, fun i j i0 i1 j0 j1 => ?_⟩, fun q => absurd rfl q⟩
  · exact (mEnx_0 hc (Or.inr ⟨j0, j1⟩)).trans (low j (by omega) j1)
  · exact mR_low hG.1 hG.2.1 hG.2.2 (fun j _ j1 => mEnx_0 hc (Or.inl j1)) hr
  · show mEnx (M2.2 0) (M.1 1) (250 * i + j) = _
    rw [mEnx_i hc ⟨i0, i1⟩ ⟨j0, j1⟩, top j j0 j1]
    have m1 : mEnc (M.1 1) ≤ 8 := by unfold mEnc; split <;> omega
    by_cases q1 : i = mEnc (M.1 1)
    · rw [if_pos q1, if_pos q1]
    · rw [if_neg q1, if_neg q1]
      split
      · exact low _ (by omega) (by omega)
      · exact low _ (by omega) (by omega)
theorem mRu_n {M M2 F : eFs} {Kc K1 : Int → Int} {Mc : Int → Int → Int} {n1 i : Int} {G : eFs} {Q : Int → Int} (h : mLp M M2 K1 n1) (hw : ∀ z, mWh z M → mWh (zHi z G ((mPR M Kc Mc).2.2.2.1 i) ((mPR M Kc Mc).2.2.2.2 i 0) ((mPR M Kc Mc).2.2.2.2 i 1) ((mPR M Kc Mc).2.2.2.2 i 2)) M2) (hp : (mPR M Kc Mc).1 = -1) (hs : mRN M F Kc Mc = (i, G, Q)) (hi : 0 ≤ i) : mRu M (mEn (mM4 M2 i n1) (mTh 3 0 0 2 0 0)) F Kc Mc := by
  obtain ⟨h1, ⟨h2, h3, h4⟩, h5, h6, h7, h8, h9, h10, h11⟩ := h
  have low : ∀ j, 250 ≤ j → j < 2500 → M2.2 0 j = M.2 0 j := fun j a b => (h1 j a).trans (mAs_at b)
  have top : ∀ j, 0 ≤ j → j < 250 → M2.2 0 (2500 + j) = M.2 0 j := fun j a b => (h1 _ (by omega)).trans (mAs_10 ⟨a, b⟩)
  have e1 : (mRN M F Kc Mc).1 = i := by rw [hs]
  have e2 : (mRN M F Kc Mc).2.1 = G := by rw [hs]
  have n1' : ¬ i = -1 := by omega
  have eT : mRT M F Kc Mc = 2 := by unfold mRT; rw [if_pos hp, e1, if_neg n1']
  rw [mEn_n (M := mM4 M2 i n1) (T := mTh 3 0 0 2 0 0) (by decide)]
  have all : ∀ j, 0 ≤ j → j < 2500 → eCy (M2.2 0) (M2.2 0) (250 * 10) (250 * 0) 250 j = M.2 0 j := fun j j0 j1 => by
    unfold eCy
    by_cases q : 250 * 0 ≤ j ∧ j < 250 * 0 + 250
    · rw [if_pos q, show 250 * 10 + (j - 250 * 0) = 2500 + j by omega]; exact top j j0 (by omega)
    · rw [if_neg q]; exact low j (by omega) j1
  unfold mRu
  rw [eT, e1, e2, if_pos hp, if_pos hp, if_neg n1']
  exact ⟨rfl, h7, h8, rfl, h11, h6, h2, h4, fun z hz => (by rw [if_pos hp, if_neg n1']; exact hw z hz), fun j j0 j1 => all j (by omega) j1, fun q => absurd q (by decide), fun _ => ⟨h5, all⟩⟩
theorem mRu_x {M F : eFs} {Kc K1 : Int → Int} {Mc : Int → Int → Int} {n1 : Int} {s : sP} (hs : s.1 = (mPR M Kc Mc).1) (h0 : 0 ≤ s.1) : mRu M (sS (sS (sS (mPS M s K1 n1) 6 0) 9 s.1) 0 1) F Kc Mc := by
  have hp : ¬ (mPR M Kc Mc).1 = -1 := by omega
  have eT : mRT M F Kc Mc = 1 := by unfold mRT; rw [if_neg hp]
  unfold mRu
  rw [eT, if_neg hp, if_neg hp]
  exact ⟨rfl, rfl, hs, rfl, rfl, rfl, rfl, rfl, fun z hz => (by rw [if_neg hp]; exact hz), fun j _ _ => rfl, fun q => absurd q (by decide), fun _ => ⟨rfl, fun j _ _ => rfl⟩⟩

theorem C_X7_run {X : eXT} {a : Nat → Nat} {N : Int} {F M : eFs} (hF : okF N F) (hR : mR F (M.2 0)) (hx : okX M) (hcc : 0 ≤ M.1 1 ∧ M.1 1 ≤ 8) (hNs : N + 30000 ≤ 100000000) {Kc : Int → Int} {Mc : Int → Int → Int} (yK : ∀ j, 0 ≤ (mPR M Kc Mc).2.2.2.1 j ∧ (mPR M Kc Mc).2.2.2.1 j ≤ 8) (yM : ∀ c j, 0 ≤ (mPR M Kc Mc).2.2.2.2 c j ∧ (mPR M Kc Mc).2.2.2.2 c j ≤ 99) :
    EM X mX7_run (eRm 9) a [.ref (a 0)] (wM a M) (eRets (some (vi (if mRT M F Kc Mc = 0 then (mPR M Kc Mc).2.1 else 0))) a (fun cs1 => ∃ M' : eFs, cs1 = wM a M' ∧ mRu M M' F Kc Mc)) := by
  refine EM.of (by decide +kernel) rfl (Nat.le_of_ble_eq_true rfl) ?_
  have hF0 := hF
  obtain ⟨hc, hld, hled, htn, hgo, hkp, hst, hwt, hcl, hsh, hnx, hN, rx, ry, rh, rm, rc, rw9⟩ := hF
  obtain ⟨⟨n0, n1, n2, n3, n4, n5, n6, n7, n8, n9⟩, hb, hcd, hss⟩ := id hR
  refine e_aload_n dX7_run_0 rfl rfl ?_
  refine e_cV1 [0, 1, 2, 3, 4, 5] lk_X7_236 rfl dX7_run_1 rfl (C_X7_parse hx Kc Mc) rfl rfl (Nat.le_of_ble_eq_true rfl) (Nat.le_of_ble_eq_true rfl) (Nat.le_of_ble_eq_true rfl) ⟨rfl, rfl⟩ rfl rfl rfl rfl rfl rfl (fun cs1 hcs => by obtain ⟨s, K1, n1, hcs, -⟩ := hcs; rw [hcs]; rfl) ?_
  intro cs1 hcs
  obtain ⟨s, K1, n1, hcs, hpa⟩ := hcs
  subst hcs
  obtain ⟨ss, s1, s2⟩ := hpa
  refine e_aload_n dX7_run_4 rfl rfl ?_
  refine e_iconst dX7_run_5 rfl ?_
  refine e_putfield fd_X7_199 dX7_run_6 rfl rfl rfl (Nat.le_of_ble_eq_true rfl) rfl rfl ?_
  refine EV.ceq (cs' := wM a (sS (mPS M s K1 n1) 6 0)) rfl ?_
  refine e_aload_n dX7_run_9 rfl rfl ?_
  refine e_getfield fd_X7_205 dX7_run_10 rfl rfl rfl rfl ?_
  refine EV.eq (st' := [vi s.1]) rfl ?_
  refine e_if_lt (t := 31) dX7_run_13 rfl rfl (by omega) (fun h13 => ?_) (fun h13 => ?_)
  · have hp : (mPR M Kc Mc).1 = -1 := by omega
    have hn1 := s2 hp
    refine e_aload_n dX7_run_31 rfl rfl ?_
    refine e_cV2 [0, 1, 2, 3, 4, 5] lk_X7_118 rfl dX7_run_32 rfl (C_X7_begins (M := sS (mPS M s K1 n1) 6 0)) rfl rfl (Nat.le_of_ble_eq_true rfl) (Nat.le_of_ble_eq_true rfl) (Nat.le_of_ble_eq_true rfl) ⟨rfl, rfl⟩ rfl rfl rfl rfl rfl rfl rfl rfl ?_
    refine EV.ceq (cs' := wM a (sR (sS (mPS M s K1 n1) 6 0) 0 (mAs (M.2 0)))) rfl ?_
    refine e_iconst dX7_run_35 rfl ?_
    refine f_istore_n dX7_run_36 rfl (Nat.le_of_ble_eq_true rfl) rfl ?_
    have hL37 : ∀ (k37 : Nat) (i : Int) (G M2 : eFs) (hk37 : (n1 - i).toNat = k37) (g37 : 0 ≤ i ∧ i ≤ n1) (o37 : okF (N + 240 * i) G) (r37 : mR G (M2.2 0)) (l37 : mLp M M2 K1 n1) (w37 : ∀ z : Nat → Int, mWh z M → mWh z M2) (e37 : ∃ Q, mRN M F Kc Mc = sRn (mPR M Kc Mc).2.2.2.1 (mPR M Kc Mc).2.2.2.2 (n1 - i).toNat i G Q), EV (mX7_run, (eRm 9), eRets (some (vi (if mRT M F Kc Mc = 0 then (mPR M Kc Mc).2.1 else 0))) a (fun cs1 => ∃ M' : eFs, cs1 = wM a M' ∧ mRu M M' F Kc Mc), X) a (0, 0) (wM a M2) 37 [some (.ref (a 0)), some (vi i), none] [] := by
      intro k37
      induction k37 using Nat.strongRecOn with
      | _ k37 ih37 =>
      intro i G M2 hk37 g37 o37 r37 l37 w37 e37
      have ln := l37.2.2.2.2.2.2.2.1
      refine e_iload_n dX7_run_37 rfl rfl ?_
      refine e_aload_n dX7_run_38 rfl rfl ?_
      refine e_getfield fd_X7_224 dX7_run_39 rfl rfl rfl rfl ?_
      refine EV.eq (st' := [vi n1, vi i]) (by show [vi (M2.1 11), vi i] = _; rw [ln]) ?_
      refine e_icmp_ge (t := 61) dX7_run_42 rfl rfl (by omega) (by omega) (fun h42 => ?_) (fun h42 => ?_)
      · have gg : (0 ≤ G.1 0 ∧ G.1 0 ≤ 10) ∧ G.1 9 ≤ 8 ∧ G.1 10 ≤ 16 := by obtain ⟨q1, q2, q3, q4, q5, q6, q7, q8, q9, q10, -⟩ := o37; exact ⟨q1, q9.2, q10.2⟩
        obtain ⟨Q, hQ⟩ := e37
        have hres := hQ.trans (sRn_0 (by omega))
        refine e_iload_n dX7_run_61 rfl rfl ?_
        refine e_aload_n dX7_run_62 rfl rfl ?_
        refine e_getfield fd_X7_224 dX7_run_63 rfl rfl rfl rfl ?_
        refine EV.eq (st' := [vi n1, vi i]) (by show [vi (M2.1 11), vi i] = _; rw [ln]) ?_
        refine e_icmp_ne (t := 73) dX7_run_66 rfl rfl (by omega) (by omega) (fun h66 => ?_) (fun h66 => ?_)
        · exfalso; omega
        · refine e_iconst dX7_run_69 rfl ?_
          refine e_goto (n := 74) dX7_run_70 rfl ?_
          refine f_istore_n dX7_run_74 rfl (Nat.le_of_ble_eq_true rfl) rfl ?_
          refine e_aload_n dX7_run_75 rfl rfl ?_
          refine e_iload_n dX7_run_76 rfl rfl ?_
          refine e_if_eq (t := 87) dX7_run_77 rfl rfl (by decide) (fun h => absurd h (by decide)) (fun _ => ?_)
          refine e_aload_n dX7_run_80 rfl rfl ?_
          refine e_getfield fd_X7_24 dX7_run_81 rfl rfl rfl rfl ?_
          refine e_goto (n := 88) dX7_run_84 rfl ?_
          refine EV.eq (st' := [vi (M2.1 10), .ref (a 0)]) rfl ?_
          refine e_putfield fd_X7_24 dX7_run_88 rfl rfl rfl (Nat.le_of_ble_eq_true rfl) rfl rfl ?_
          refine e_aload_n dX7_run_91 rfl rfl ?_
          refine e_aload_n dX7_run_92 rfl rfl ?_
          refine e_getfield fd_X7_224 dX7_run_93 rfl rfl rfl rfl ?_
          refine EV.eq (st' := [vi n1, .ref (a 0)]) (by show [vi (M2.1 11), .ref (a 0)] = _; rw [ln]) ?_
          refine e_putfield fd_X7_43 dX7_run_96 rfl rfl rfl (Nat.le_of_ble_eq_true rfl) rfl rfl ?_
          refine e_aload_n dX7_run_99 rfl rfl ?_
          refine e_iload_n dX7_run_100 rfl rfl ?_
          refine e_if_eq (t := 108) dX7_run_101 rfl rfl (by decide) (fun h => absurd h (by decide)) (fun _ => ?_)
          refine e_iconst dX7_run_104 rfl ?_
          refine e_goto (n := 109) dX7_run_105 rfl ?_
          refine e_iconst dX7_run_109 rfl ?_
          refine e_iconst dX7_run_110 rfl ?_
          refine e_iconst dX7_run_111 rfl ?_
          refine e_iconst dX7_run_112 rfl ?_
          refine e_iconst dX7_run_113 rfl ?_
          have ce : 0 ≤ (mM4 M2 (M2.1 10) n1).1 1 ∧ (mM4 M2 (M2.1 10) n1).1 1 ≤ 8 := by show 0 ≤ M2.1 1 ∧ M2.1 1 ≤ 8; rw [l37.2.2.1]; exact hcc
          refine EV.ceq (cs' := wM a (mM4 M2 (M2.1 10) n1)) rfl ?_
          refine e_cV2 [0, 1, 2, 3, 4, 5] lk_X7_124 rfl dX7_run_114 rfl (C_X7_ends (M := mM4 M2 (M2.1 10) n1) (by omega) (by omega) (by omega) (by omega) (by omega) (by omega) ce) rfl rfl (Nat.le_of_ble_eq_true rfl) (Nat.le_of_ble_eq_true rfl) (Nat.le_of_ble_eq_true rfl) ⟨rfl, rfl⟩ rfl rfl rfl rfl rfl rfl rfl rfl ?_
          exact e_iret dX7_run_117 rfl rfl ⟨by rw [if_pos (by decide), if_pos (by unfold mRT; rw [if_pos hp, hres]; rfl)]; show Sum.inl (some (vi n1)) = _; rw [hn1.1], rfl, _, rfl, mRu_y hcc l37 gg r37 w37 hp hres l37.2.2.2.2.2.2.1⟩
      · refine e_aload_n dX7_run_45 rfl rfl ?_
        refine e_iconst dX7_run_46 rfl ?_
        refine e_iload_n dX7_run_47 rfl rfl ?_
        refine e_imul dX7_run_48 rfl ?_
        refine e_cV1 [0, 1, 2, 3, 4, 5] lk_X7_239 rfl dX7_run_49 rfl (C_X7_does (Kc := (mPR M Kc Mc).2.2.2.1) (Mc := (mPR M Kc Mc).2.2.2.2) (i := i) o37 r37 (by omega) (by omega) yM (by rw [l37.2.1.2.1]; exact hn1.2.2 i (by omega) (by omega))) rfl rfl (Nat.le_of_ble_eq_true rfl) (Nat.le_of_ble_eq_true rfl) (Nat.le_of_ble_eq_true rfl) ⟨rfl, rfl⟩ rfl rfl rfl rfl rfl rfl (fun cs1 hcs => by obtain ⟨M1, hcs, -⟩ := hcs; rw [hcs]; rfl) ?_
        intro cs1 hcs
        obtain ⟨M3, hcs, kp, hw, hr⟩ := hcs
        subst hcs
        have uh := sHin_in (F := G) (k := (mPR M Kc Mc).2.2.2.1 i) (p := (mPR M Kc Mc).2.2.2.2 i 0) (q := (mPR M Kc Mc).2.2.2.2 i 1) (r := (mPR M Kc Mc).2.2.2.2 i 2)
        have u0 := mHC_0 (c := sHin G ((mPR M Kc Mc).2.2.2.1 i) ((mPR M Kc Mc).2.2.2.2 i 0) ((mPR M Kc Mc).2.2.2.2 i 1) ((mPR M Kc Mc).2.2.2.2 i 2)) (by omega)
        have u1 := mHC_in (c := sHin G ((mPR M Kc Mc).2.2.2.1 i) ((mPR M Kc Mc).2.2.2.2 i 0) ((mPR M Kc Mc).2.2.2.2 i 1) ((mPR M Kc Mc).2.2.2.2 i 2)) (by omega)
        refine e_if_ne (t := 61) dX7_run_52 rfl rfl (by omega) (fun h52 => ?_) (fun h52 => ?_)
        · have h0 : ¬ sHin G ((mPR M Kc Mc).2.2.2.1 i) ((mPR M Kc Mc).2.2.2.2 i 0) ((mPR M Kc Mc).2.2.2.2 i 1) ((mPR M Kc Mc).2.2.2.2 i 2) = 0 := by omega
          have l3 := mLp_k l37 kp
          have ln3 := l3.2.2.2.2.2.2.2.1
          obtain ⟨Q, hQ⟩ := e37
          have hres := hQ.trans (sRn_x (by omega) h0)
          refine e_iload_n dX7_run_61 rfl rfl ?_
          refine e_aload_n dX7_run_62 rfl rfl ?_
          refine e_getfield fd_X7_224 dX7_run_63 rfl rfl rfl rfl ?_
          refine EV.eq (st' := [vi n1, vi i]) (by show [vi (M3.1 11), vi i] = _; rw [ln3]) ?_
          refine e_icmp_ne (t := 73) dX7_run_66 rfl rfl (by omega) (by omega) (fun h66 => ?_) (fun h66 => ?_)
          · refine e_iconst dX7_run_73 rfl ?_
            refine f_istore_n dX7_run_74 rfl (Nat.le_of_ble_eq_true rfl) rfl ?_
            refine e_aload_n dX7_run_75 rfl rfl ?_
            refine e_iload_n dX7_run_76 rfl rfl ?_
            refine e_if_eq (t := 87) dX7_run_77 rfl rfl (by decide) (fun _ => ?_) (fun h => absurd h (by decide))
            refine e_iload_n dX7_run_87 rfl rfl ?_
            refine EV.eq (st' := [vi i, .ref (a 0)]) rfl ?_
            refine e_putfield fd_X7_24 dX7_run_88 rfl rfl rfl (Nat.le_of_ble_eq_true rfl) rfl rfl ?_
            refine e_aload_n dX7_run_91 rfl rfl ?_
            refine e_aload_n dX7_run_92 rfl rfl ?_
            refine e_getfield fd_X7_224 dX7_run_93 rfl rfl rfl rfl ?_
            refine EV.eq (st' := [vi n1, .ref (a 0)]) (by show [vi (M3.1 11), .ref (a 0)] = _; rw [ln3]) ?_
            refine e_putfield fd_X7_43 dX7_run_96 rfl rfl rfl (Nat.le_of_ble_eq_true rfl) rfl rfl ?_
            refine e_aload_n dX7_run_99 rfl rfl ?_
            refine e_iload_n dX7_run_100 rfl rfl ?_
            refine e_if_eq (t := 108) dX7_run_101 rfl rfl (by decide) (fun _ => ?_) (fun h => absurd h (by decide))
            refine e_iconst dX7_run_108 rfl ?_
            refine e_iconst dX7_run_109 rfl ?_
            refine e_iconst dX7_run_110 rfl ?_
            refine e_iconst dX7_run_111 rfl ?_
            refine e_iconst dX7_run_112 rfl ?_
            refine e_iconst dX7_run_113 rfl ?_
            have ce : 0 ≤ (mM4 M3 i n1).1 1 ∧ (mM4 M3 i n1).1 1 ≤ 8 := by show 0 ≤ M3.1 1 ∧ M3.1 1 ≤ 8; rw [l3.2.2.1]; exact hcc
            refine EV.ceq (cs' := wM a (mM4 M3 i n1)) rfl ?_
            refine e_cV2 [0, 1, 2, 3, 4, 5] lk_X7_124 rfl dX7_run_114 rfl (C_X7_ends (M := mM4 M3 i n1) (by omega) (by omega) (by omega) (by omega) (by omega) (by omega) ce) rfl rfl (Nat.le_of_ble_eq_true rfl) (Nat.le_of_ble_eq_true rfl) (Nat.le_of_ble_eq_true rfl) ⟨rfl, rfl⟩ rfl rfl rfl rfl rfl rfl rfl rfl ?_
            exact e_iret dX7_run_117 rfl rfl ⟨by rw [if_neg (by decide), if_neg (by unfold mRT; rw [if_pos hp, hres]; show ¬ (if i = -1 then (0 : Int) else 2) = 0; rw [if_neg (by omega)]; decide)], rfl, _, rfl, mRu_n l3 (fun z hz => hw z (w37 z hz)) hp hres (by omega)⟩
          · exfalso; omega
        · have h0 : sHin G ((mPR M Kc Mc).2.2.2.1 i) ((mPR M Kc Mc).2.2.2.2 i 0) ((mPR M Kc Mc).2.2.2.2 i 1) ((mPR M Kc Mc).2.2.2.2 i 2) = 0 := by omega
          refine f_iinc dX7_run_55 rfl rfl (Nat.le_of_ble_eq_true rfl) rfl ?_
          refine e_goto (n := 37) dX7_run_58 rfl ?_
          refine EV.fgt 2 ?_
          exact ih37 _ (by omega) (i + 1) (sDo G ((mPR M Kc Mc).2.2.2.1 i) ((mPR M Kc Mc).2.2.2.2 i 0) ((mPR M Kc Mc).2.2.2.2 i 1) ((mPR M Kc Mc).2.2.2.2 i 2)) M3 rfl (by omega) (by rw [show N + 240 * (i + 1) = N + 240 * i + 240 by omega]; exact okF_doR (yK i) o37 r37 (by omega) h0) (hr h0).1 (mLp_k l37 kp) (fun z hz => by have w := hw z (w37 z hz); unfold zHi at w; rw [if_neg (by omega)] at w; exact w) (by obtain ⟨Q, hQ⟩ := e37; exact ⟨_, hQ.trans (sRn_go (by omega) h0)⟩)
    refine EV.fgt 2 ?_
    exact hL37 _ 0 F (sR (sS (mPS M s K1 n1) 6 0) 0 (mAs (M.2 0))) rfl (by omega) (by rw [show N + 240 * 0 = N by omega]; exact hF0) (mR_as hF0 hR) mLp_0 (fun z hz => hz) ⟨P0, by unfold mRN; rw [← hn1.1]⟩
  · refine e_aload_n dX7_run_16 rfl rfl ?_
    refine e_aload_n dX7_run_17 rfl rfl ?_
    refine e_getfield fd_X7_205 dX7_run_18 rfl rfl rfl rfl ?_
    refine EV.eq (st' := [vi s.1, .ref (a 0)]) rfl ?_
    refine e_putfield fd_X7_20 dX7_run_21 rfl rfl rfl (Nat.le_of_ble_eq_true rfl) rfl rfl ?_
    refine e_aload_n dX7_run_24 rfl rfl ?_
    refine e_iconst dX7_run_25 rfl ?_
    refine e_putfield fd_X7_33 dX7_run_26 rfl rfl rfl (Nat.le_of_ble_eq_true rfl) rfl rfl ?_
    refine e_iconst dX7_run_29 rfl ?_
    exact e_iret dX7_run_30 rfl rfl ⟨by rw [if_neg (by unfold mRT; rw [if_neg (by omega)]; decide)], rfl, _, rfl, mRu_x s1 (by omega)⟩
def mApT (M : eFs) (c : Int) : Int := if 32 ≤ c ∧ c ≤ 126 then (if M.1 6 = 60 then 2 else 0) else 1
def mApp (M : eFs) (c : Int) : eFs := if 32 ≤ c ∧ c ≤ 126 then (if M.1 6 = 60 then sS M 0 2 else sS (sR (sS M 0 0) 2 (eU (M.2 2) (M.1 6) c)) 6 (M.1 6 + 1)) else sS M 0 1

theorem C_X7_append {X : eXT} {a : Nat → Nat} {M : eFs} {c : Int} (gc : 0 ≤ c ∧ c ≤ 65535) (hz : 0 ≤ M.1 6 ∧ M.1 6 ≤ 60) :
    EM X mX7_append (eRm 1) a [.ref (a 0), vi c] (wM a M) (eRet (some (vi (if (if 32 ≤ c ∧ c ≤ 126 then (if M.1 6 = 60 then (2 : Int) else 0) else 1) = 0 then M.1 6 + 1 else 0))) a (wM a (mApp M c))) := by
  refine EM.of (by decide +kernel) rfl (Nat.le_of_ble_eq_true rfl) ?_
  refine e_aload_n dX7_append_0 rfl rfl ?_
  refine e_iload_n dX7_append_1 rfl rfl ?_
  refine e_bipush dX7_append_2 rfl rfl ?_
  refine e_bipush dX7_append_4 rfl rfl ?_
  refine e_cS0 [] lk_X7_46 rfl dX7_append_6 rfl (C_X7_in (by omega) (by omega) (by omega)) rfl rfl (Nat.le_of_ble_eq_true rfl) (Nat.le_of_ble_eq_true rfl) (Nat.le_of_ble_eq_true rfl) ⟨rfl, rfl⟩ rfl rfl  ?_
  refine e_ifb_ne (t := 16) dX7_append_9 rfl rfl (fun h9 => ?_) (fun h9 => ?_)
  · refine e_aload_n dX7_append_16 rfl rfl ?_
    refine e_getfield fd_X7_199 dX7_append_17 rfl rfl rfl rfl ?_
    refine EV.eq (st' := [vi (M.1 6), .ref (a 0)]) rfl ?_
    refine e_bipush dX7_append_20 rfl rfl ?_
    refine e_icmp_ne (t := 29) dX7_append_22 rfl rfl (by omega) (by omega) (fun h22 => ?_) (fun h22 => ?_)
    · refine e_iconst dX7_append_29 rfl ?_
      refine e_putfield fd_X7_33 dX7_append_30 rfl rfl rfl (Nat.le_of_ble_eq_true rfl) rfl rfl ?_
      refine EV.ceq (cs' := wM a (sS M 0 0)) rfl ?_
      refine e_aload_n dX7_append_33 rfl rfl ?_
      refine e_getfield fd_X7_33 dX7_append_34 rfl rfl rfl rfl ?_
      refine EV.eq (st' := [vi 0]) rfl ?_
      refine e_if_eq (t := 42) dX7_append_37 rfl rfl (by omega) (fun h37 => ?_) (fun h37 => ?_)
      · refine e_aload_n dX7_append_42 rfl rfl ?_
        refine e_getfield fd_X7_16 dX7_append_43 rfl rfl rfl rfl ?_
        refine e_aload_n dX7_append_46 rfl rfl ?_
        refine e_getfield fd_X7_199 dX7_append_47 rfl rfl rfl rfl ?_
        refine EV.eq (st' := [vi (M.1 6), .ref (a 3)]) rfl ?_
        refine e_iload_n dX7_append_50 rfl rfl ?_
        refine e_castore dX7_append_51 rfl rfl rfl (by omega) (by decide) (by omega) ?_
        refine EV.ceq (cs' := wM a (sR (sS M 0 0) 2 (eU (M.2 2) (M.1 6) c))) rfl ?_
        refine e_aload_n dX7_append_52 rfl rfl ?_
        refine e_dup dX7_append_53 rfl rfl ?_
        refine e_getfield fd_X7_199 dX7_append_54 rfl rfl rfl rfl ?_
        refine EV.eq (st' := [vi (M.1 6), .ref (a 0)]) rfl ?_
        refine e_iconst dX7_append_57 rfl ?_
        refine e_iadd dX7_append_58 rfl ?_
        refine e_putfield fd_X7_199 dX7_append_59 rfl rfl rfl (Nat.le_of_ble_eq_true rfl) rfl rfl ?_
        refine EV.ceq (cs' := wM a (sS (sR (sS M 0 0) 2 (eU (M.2 2) (M.1 6) c)) 6 (M.1 6 + 1))) rfl ?_
        refine e_aload_n dX7_append_62 rfl rfl ?_
        refine e_getfield fd_X7_199 dX7_append_63 rfl rfl rfl rfl ?_
        refine EV.eq (st' := [vi (M.1 6 + 1)]) rfl ?_
        exact e_iret dX7_append_66 rfl rfl (eRet_i (by rw [if_pos (by rw [if_pos h9, if_neg (by omega)])]) (by unfold mApp; rw [if_pos h9, if_neg (by omega)] <;> rfl))
      · exfalso; omega
    · refine e_iconst dX7_append_25 rfl ?_
      refine e_goto (n := 30) dX7_append_26 rfl ?_
      refine e_putfield fd_X7_33 dX7_append_30 rfl rfl rfl (Nat.le_of_ble_eq_true rfl) rfl rfl ?_
      refine EV.ceq (cs' := wM a (sS M 0 2)) rfl ?_
      refine e_aload_n dX7_append_33 rfl rfl ?_
      refine e_getfield fd_X7_33 dX7_append_34 rfl rfl rfl rfl ?_
      refine EV.eq (st' := [vi 2]) rfl ?_
      refine e_if_eq (t := 42) dX7_append_37 rfl rfl (by omega) (fun h37 => ?_) (fun h37 => ?_)
      · exfalso; omega
      · refine e_iconst dX7_append_40 rfl ?_
        exact e_iret dX7_append_41 rfl rfl (eRet_i (by rw [if_neg (by rw [if_pos h9, if_pos (by omega)]; decide)]) (by unfold mApp; rw [if_pos h9, if_pos (by omega)]))
  · refine e_iconst dX7_append_12 rfl ?_
    refine e_goto (n := 30) dX7_append_13 rfl ?_
    refine e_putfield fd_X7_33 dX7_append_30 rfl rfl rfl (Nat.le_of_ble_eq_true rfl) rfl rfl ?_
    refine EV.ceq (cs' := wM a (sS M 0 1)) rfl ?_
    refine e_aload_n dX7_append_33 rfl rfl ?_
    refine e_getfield fd_X7_33 dX7_append_34 rfl rfl rfl rfl ?_
    refine EV.eq (st' := [vi 1]) rfl ?_
    refine e_if_eq (t := 42) dX7_append_37 rfl rfl (by omega) (fun h37 => ?_) (fun h37 => ?_)
    · exfalso; omega
    · refine e_iconst dX7_append_40 rfl ?_
      exact e_iret dX7_append_41 rfl rfl (eRet_i (by rw [if_neg (by rw [if_neg h9]; decide)]) (by unfold mApp; rw [if_neg h9]))
