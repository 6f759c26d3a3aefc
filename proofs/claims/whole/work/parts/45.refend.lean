/-! ===== the reference: a change ends ===== -/
def mShf (x : Int → Int) : Int → Int := fun j => if 250 ≤ j ∧ j < 2000 then x (j + 250) else x j
def mEnc (c : Int) : Int := if c = 8 then 8 else c + 1
def mEnx (x : Int → Int) (c : Int) : Int → Int := if c = 8 then eCy (mShf x) (mShf x) (250 * 10) (250 * 8) 250 else eCy x x (250 * 10) (250 * (c + 1)) 250
def mTh (v t1 t2 t3 t4 t5 : Int) : Int := if v = 1 then t1 else if v = 2 then t2 else if v = 3 then t3 else if v = 4 then t4 else if v = 5 then t5 else 0
def mEn (M : eFs) (T : Int) : eFs := if T = 0 then sR (sS (sS M 0 0) 1 (mEnc (M.1 1))) 0 (mEnx (M.2 0) (M.1 1)) else sR (sS M 0 T) 0 (eCy (M.2 0) (M.2 0) (250 * 10) (250 * 0) 250)
theorem mEn_n {M : eFs} {T : Int} (h : ¬ T = 0) : mEn M T = sR (sS M 0 T) 0 (eCy (M.2 0) (M.2 0) (250 * 10) (250 * 0) 250) := if_neg h
theorem mEn_y {M : eFs} {T c : Int} {x : Int → Int} (h : T = 0) (hc : mEnc (M.1 1) = c) (hx : mEnx (M.2 0) (M.1 1) = x) : mEn M T = sR (sS (sS M 0 0) 1 c) 0 x := by
  rw [← hc, ← hx]
  exact if_pos h
theorem mShf_up {x g : Int → Int} {k : Int} (hk : 1 ≤ k ∧ k < 8) (e : ∀ j, g j = if 250 ≤ j ∧ j < 250 * k then x (j + 250) else x j) : ∀ j, eCy g g (250 * (k + 1)) (250 * k) 250 j = if 250 ≤ j ∧ j < 250 * (k + 1) then x (j + 250) else x j := by
  intro j
  unfold eCy
  by_cases h : 250 * k ≤ j ∧ j < 250 * k + 250
  · rw [if_pos h, if_pos (by omega), e, if_neg (by omega)]
    congr 1
    omega
  · rw [if_neg h, e]
    by_cases h2 : 250 ≤ j ∧ j < 250 * k
    · rw [if_pos h2, if_pos (by omega)]
    · rw [if_neg h2, if_neg (by omega)]
theorem mShf_end {x g : Int → Int} {k : Int} (hk : k = 8) (e : ∀ j, g j = if 250 ≤ j ∧ j < 250 * k then x (j + 250) else x j) : g = mShf x := by
  funext j
  rw [e]
  unfold mShf
  subst hk
  rfl
/-- a change of the reference, told -/
def mPo (M M' F : eFs) (k p q r T : Int) : Prop := M'.1 0 = T ∧ (M'.2 2 = M.2 2 ∧ M'.2 3 = M.2 3 ∧ M'.2 4 = M.2 4) ∧ (∀ j, j ≠ 0 → j ≠ 1 → j ≠ 3 → j ≠ 4 → j ≠ 5 → M'.1 j = M.1 j) ∧ mHw M M' F k p q r ∧ (∀ j, 2250 ≤ j → j < 2500 → M'.2 0 j = M.2 0 j)
  ∧ (sHin F k p q r = 0 → M'.1 1 = mEnc (M.1 1) ∧ mR (sDo F k p q r) (M'.2 0) ∧ ∀ i j, 1 ≤ i → i ≤ mEnc (M.1 1) → 0 ≤ j → j < 250 → M'.2 0 (250 * i + j) = (if i = mEnc (M.1 1) then M.2 0 j else if M.1 1 = 8 then M.2 0 (250 * (i + 1) + j) else M.2 0 (250 * i + j)))
  ∧ (¬ sHin F k p q r = 0 → M'.1 1 = M.1 1 ∧ ∀ j, 0 ≤ j → j < 2500 → M'.2 0 j = M.2 0 j)
/-- the row with the present one put aside -/
def mAs (x : Int → Int) : Int → Int := eCy x x (250 * 0) (250 * 10) 250
theorem mAs_at {x : Int → Int} {j : Int} (h : j < 2500) : mAs x j = x j := by
  unfold mAs eCy
  rw [if_neg (by omega)]
theorem mAs_10 {x : Int → Int} {j : Int} (h : 0 ≤ j ∧ j < 250) : mAs x (2500 + j) = x j := by
  unfold mAs eCy
  rw [if_pos (by omega)]
  congr 1
  omega
theorem mR_as {N : Int} {F : eFs} {x : Int → Int} (hF : okF N F) (hR : mR F x) : mR F (mAs x) := mR_cong hF (fun j _ _ => mAs_at (by omega)) hR
theorem cyI {s d : Int → Int} {f t n j : Int} (h : t ≤ j ∧ j < t + n) : eCy s d f t n j = s (f + (j - t)) := if_pos h
theorem cyO {s d : Int → Int} {f t n j : Int} (h : ¬ (t ≤ j ∧ j < t + n)) : eCy s d f t n j = d j := if_neg h
theorem mEnx_8 {x : Int → Int} {c : Int} (h : c = 8) : mEnx x c = eCy (mShf x) (mShf x) (250 * 10) (250 * 8) 250 := if_pos h
theorem mEnx_9 {x : Int → Int} {c : Int} (h : ¬ c = 8) : mEnx x c = eCy x x (250 * 10) (250 * (c + 1)) 250 := if_neg h
theorem mShf_i {x : Int → Int} {j : Int} (h : 250 ≤ j ∧ j < 2000) : mShf x j = x (j + 250) := if_pos h
theorem mShf_o {x : Int → Int} {j : Int} (h : ¬ (250 ≤ j ∧ j < 2000)) : mShf x j = x j := if_neg h
theorem mEnc_8 {c : Int} (h : c = 8) : mEnc c = 8 := if_pos h
theorem mEnc_9 {c : Int} (h : ¬ c = 8) : mEnc c = c + 1 := if_neg h
theorem mEnx_0 {x : Int → Int} {c j : Int} (hc : 0 ≤ c ∧ c ≤ 8) (h : j < 250 ∨ (2250 ≤ j ∧ j < 2500)) : mEnx x c j = x j := by
  by_cases h8 : c = 8
  · rw [mEnx_8 h8, cyO (by omega), mShf_o (by omega)]
  · rw [mEnx_9 h8, cyO (by omega)]
theorem mEnx_i {x : Int → Int} {c i j : Int} (hc : 0 ≤ c ∧ c ≤ 8) (hi : 1 ≤ i ∧ i ≤ mEnc c) (hj : 0 ≤ j ∧ j < 250) : mEnx x c (250 * i + j) = (if i = mEnc c then x (2500 + j) else if c = 8 then x (250 * (i + 1) + j) else x (250 * i + j)) := by
  by_cases h8 : c = 8
  · rw [mEnc_8 h8] at hi
    rw [mEnx_8 h8, mEnc_8 h8, if_pos h8]
    by_cases e : i = 8
    · rw [cyI (by omega), if_pos e, mShf_o (by omega)]
      congr 1
      omega
    · rw [cyO (by omega), if_neg e, mShf_i (by omega)]
      congr 1
      omega
  · rw [mEnc_9 h8] at hi
    rw [mEnx_9 h8, mEnc_9 h8, if_neg h8]
    by_cases e : i = c + 1
    · rw [cyI (by omega), if_pos e]
      congr 1
      omega
    · rw [cyO (by omega), if_neg e]
theorem mR_low {G : eFs} {x y : Int → Int} (hc : 0 ≤ G.1 0 ∧ G.1 0 ≤ 10) (h9 : G.1 9 ≤ 8) (h10 : G.1 10 ≤ 16) (h : ∀ j, 0 ≤ j → j < 250 → y j = x j) (q : mR G x) : mR G y := by
  obtain ⟨q1, q2, ⟨q3, q4, q5⟩, q6⟩ := q
  refine ⟨?_, fun b b0 b1 => ?_, ⟨fun u v i => ?_, fun k k0 k1 => ?_, fun k j k0 k1 j1 => ?_⟩, fun k k0 k1 => ?_⟩
  · unfold mRn at q1 ⊢
    rw [h 0 (by omega) (by omega), h 1 (by omega) (by omega), h 2 (by omega) (by omega), h 3 (by omega) (by omega), h 4 (by omega) (by omega), h 5 (by omega) (by omega), h 6 (by omega) (by omega), h 7 (by omega) (by omega), h 8 (by omega) (by omega), h 9 (by omega) (by omega)]
    exact q1
  · rw [h _ (by omega) (by omega), h _ (by omega) (by omega), h _ (by omega) (by omega), h _ (by omega) (by omega)]; exact q2 b b0 b1
  · rw [q3 u v i]
    constructor
    · rintro ⟨k, k0, k1, e⟩; exact ⟨k, k0, k1, by rw [h _ (by omega) (by omega)]; exact e⟩
    · rintro ⟨k, k0, k1, e⟩; exact ⟨k, k0, k1, by rw [h _ (by omega) (by omega)] at e; exact e⟩
  · rw [h _ (by omega) (by omega)]; exact q4 k k0 k1
  · rw [h _ (by omega) (by omega), h _ (by omega) (by omega)]; exact q5 k j k0 k1 j1
  · exact mSh_cong (fun r r0 r1 => h _ (by omega) (by omega)) (q6 k k0 k1)
theorem mPo_of {M M1 F : eFs} {k p q r T : Int} (hc : 0 ≤ M.1 1 ∧ M.1 1 ≤ 8) (hG : sHin F k p q r = 0 → (0 ≤ (sDo F k p q r).1 0 ∧ (sDo F k p q r).1 0 ≤ 10) ∧ (sDo F k p q r).1 9 ≤ 8 ∧ (sDo F k p q r).1 10 ≤ 16) (hT : T = 0 ↔ sHin F k p q r = 0) (kp : mKeep (sR M 0 (mAs (M.2 0))) M1) (hw : mHw (sR M 0 (mAs (M.2 0))) M1 F k p q r) (hr : sHin F k p q r = 0 → mR (sDo F k p q r) (M1.2 0) ∧ M1.1 3 = sDoR F k p q r) : mPo M (mEn M1 T) F k p q r T := by
  obtain ⟨k1, k2, k3⟩ := kp
  have c1 : M1.1 1 = M.1 1 := k3 1 (by decide) (by decide) (by decide)
  have low : ∀ j, 250 ≤ j → j < 2500 → M1.2 0 j = M.2 0 j := fun j h h2 => (k1 j h).trans (mAs_at h2)
  have top : ∀ j, 0 ≤ j → j < 250 → M1.2 0 (2500 + j) = M.2 0 j := fun j h h2 => (k1 _ (by omega)).trans (mAs_10 ⟨h, h2⟩)
  by_cases e : T = 0
  · have e0 := hT.mp e
    rw [mEn_y e rfl rfl, c1]
    refine ⟨e.symm, k2, fun j h0 h1 h3 h4 h5 => ?_, hw, fun j j0 j1 => ?_, fun _ => ⟨rfl, ?_, fun i j i0 i1 j0 j1 => ?_⟩, fun q => absurd e0 q⟩
    · exact ((if_neg h1).trans (if_neg h0)).trans (k3 j h3 h4 h5)
    · exact (mEnx_0 hc (Or.inr ⟨j0, j1⟩)).trans (low j (by omega) j1)
    · have g := hG e0
      exact mR_low g.1 g.2.1 g.2.2 (fun j _ j1 => mEnx_0 hc (Or.inl j1)) (hr e0).1
    · show mEnx (M1.2 0) (M.1 1) (250 * i + j) = _
      rw [mEnx_i hc ⟨i0, i1⟩ ⟨j0, j1⟩, top j j0 j1]
      have m1 : mEnc (M.1 1) ≤ 8 := by unfold mEnc; split <;> omega
      by_cases q1 : i = mEnc (M.1 1)
      · rw [if_pos q1, if_pos q1]
      · rw [if_neg q1, if_neg q1]
        split
        · exact low _ (by omega) (by omega)
        · exact low _ (by omega) (by omega)
  · rw [mEn_n e]
    have e0 : ¬ sHin F k p q r = 0 := fun q => e (hT.mpr q)
    have all : ∀ j, 0 ≤ j → j < 2500 → eCy (M1.2 0) (M1.2 0) (250 * 10) (250 * 0) 250 j = M.2 0 j := fun j j0 j1 => by
      unfold eCy
      by_cases h : 250 * 0 ≤ j ∧ j < 250 * 0 + 250
      · rw [if_pos h, show 250 * 10 + (j - 250 * 0) = 2500 + j by omega]; exact top j j0 (by omega)
      · rw [if_neg h]; exact low j (by omega) j1
    refine ⟨rfl, k2, fun j h0 h1 h3 h4 h5 => (if_neg h0).trans (k3 j h3 h4 h5), hw, fun j j0 j1 => all j (by omega) j1, fun q => absurd q e0, fun _ => ⟨c1, all⟩⟩
theorem hG_of {N : Int} {F : eFs} {x : Int → Int} {k p q r : Int} (hk : 0 ≤ k ∧ k ≤ 8) (hF : okF N F) (hR : mR F x) (hN : N + 240 ≤ 100000000) : sHin F k p q r = 0 → (0 ≤ (sDo F k p q r).1 0 ∧ (sDo F k p q r).1 0 ≤ 10) ∧ (sDo F k p q r).1 9 ≤ 8 ∧ (sDo F k p q r).1 10 ≤ 16 := by
  intro e
  have o := okF_do hk hF hN e (fun h4 => by
    subst h4
    have h := hClear_0 (show hClear F p q = 0 from e)
    obtain ⟨j, j0, j1, _⟩ := (hR.2.2.1.1 p q h.1).mp h.2.2
    omega)
  obtain ⟨hc, hld, hled, htn, hgo, hkp, hst, hwt, hcl, hsh, -⟩ := o
  exact ⟨hc, hcl.2, hsh.2⟩
theorem hk_0 {F : eFs} {p q r : Int} : sHin F 0 p q r = 0 ∨ sHin F 0 p q r = 2 ∨ sHin F 0 p q r = 3 ∨ sHin F 0 p q r = 6 := by
  rw [show sHin F 0 p q r = hAdd F p q r from rfl]
  unfold hAdd
  (repeat' split) <;> omega
theorem hk_1 {F : eFs} {p q r : Int} : sHin F 1 p q r = 0 ∨ sHin F 1 p q r = 1 ∨ sHin F 1 p q r = 2 ∨ sHin F 1 p q r = 6 := by
  rw [show sHin F 1 p q r = hJump F p q r from rfl]
  unfold hJump
  (repeat' split) <;> omega
theorem hk_2 {F : eFs} {p q r : Int} : sHin F 2 p q r = 0 ∨ sHin F 2 p q r = 1 ∨ sHin F 2 p q r = 2 := by
  rw [show sHin F 2 p q r = hHand F p q from rfl]
  unfold hHand hOut
  (repeat' split) <;> omega
theorem hk_3 {F : eFs} {p q r : Int} : sHin F 3 p q r = 0 ∨ sHin F 3 p q r = 2 ∨ sHin F 3 p q r = 3 ∨ sHin F 3 p q r = 5 := by
  rw [show sHin F 3 p q r = hCloud F p q from rfl]
  unfold hCloud
  (repeat' split) <;> omega
theorem hk_4 {F : eFs} {p q r : Int} : sHin F 4 p q r = 0 ∨ sHin F 4 p q r = 2 ∨ sHin F 4 p q r = 4 := by
  rw [show sHin F 4 p q r = hClear F p q from rfl]
  unfold hClear
  (repeat' split) <;> omega
theorem hk_5 {F : eFs} {p q r : Int} : sHin F 5 p q r = 0 ∨ sHin F 5 p q r = 2 := by
  rw [show sHin F 5 p q r = hOut p 2 9 from rfl]
  unfold hOut
  split <;> omega
theorem hk_6 {F : eFs} {p q r : Int} : sHin F 6 p q r = 0 ∨ sHin F 6 p q r = 2 ∨ sHin F 6 p q r = 4 := by
  rw [show sHin F 6 p q r = hGoal F p q from rfl]
  unfold hGoal
  (repeat' split) <;> omega
theorem hk_7 {F : eFs} {p q r : Int} : sHin F 7 p q r = 0 ∨ sHin F 7 p q r = 2 := by
  rw [show sHin F 7 p q r = hOut p 2 6 from rfl]
  unfold hOut
  split <;> omega
theorem hk_8 {F : eFs} {p q r : Int} : sHin F 8 p q r = 0 ∨ sHin F 8 p q r = 2 := by
  rw [show sHin F 8 p q r = hOut p 1 20 from rfl]
  unfold hOut
  split <;> omega
/-- the face's post -/
def mFc (a : Nat → Nat) (M F : eFs) (k p q r T : Int) (cs1 : List eE) : Prop := ∃ M' : eFs, cs1 = wM a M' ∧ mPo M M' F k p q r T

theorem C_X7_ends {X : eXT} {a : Nat → Nat} {M : eFs} {v t1 t2 t3 t4 t5 : Int} (gv : -2147483648 ≤ v ∧ v ≤ 2147483647) (gt1 : -2147483648 ≤ t1 ∧ t1 ≤ 2147483647) (gt2 : -2147483648 ≤ t2 ∧ t2 ≤ 2147483647) (gt3 : -2147483648 ≤ t3 ∧ t3 ≤ 2147483647) (gt4 : -2147483648 ≤ t4 ∧ t4 ≤ 2147483647) (gt5 : -2147483648 ≤ t5 ∧ t5 ≤ 2147483647) (hcc : 0 ≤ M.1 1 ∧ M.1 1 ≤ 8) :
    EM X mX7_ends (eRm 1) a [.ref (a 0), vi v, vi t1, vi t2, vi t3, vi t4, vi t5] (wM a M) (eRet (some (vi (if mTh v t1 t2 t3 t4 t5 = 0 then M.1 3 else 0))) a (wM a (mEn M (mTh v t1 t2 t3 t4 t5)))) := by
  refine EM.of (by decide +kernel) rfl (Nat.le_of_ble_eq_true rfl) ?_
  have hJ50 : ∀ (T : Int) (et : T = mTh v t1 t2 t3 t4 t5), EV (mX7_ends, (eRm 1), eRet (some (vi (if mTh v t1 t2 t3 t4 t5 = 0 then M.1 3 else 0))) a (wM a (mEn M (mTh v t1 t2 t3 t4 t5))), X) a (0, 0) (wM a M) 50 [some (.ref (a 0)), some (vi v), some (vi t1), some (vi t2), some (vi t3), some (vi t4), some (vi t5), none] [vi T, .ref (a 0)] := by
    intro T et
    have gT : -2147483648 ≤ T ∧ T ≤ 2147483647 := by rw [et]; unfold mTh; (repeat' split) <;> omega
    refine e_putfield fd_X7_33 dX7_ends_50 rfl rfl rfl (Nat.le_of_ble_eq_true rfl) rfl rfl ?_
    refine EV.ceq (cs' := wM a (sS M 0 T)) rfl ?_
    refine e_aload_n dX7_ends_53 rfl rfl ?_
    refine e_getfield fd_X7_33 dX7_ends_54 rfl rfl rfl rfl ?_
    refine EV.eq (st' := [vi T]) rfl ?_
    refine e_if_eq (t := 69) dX7_ends_57 rfl rfl (by omega) (fun h57 => ?_) (fun h57 => ?_)
    · refine e_aload_n dX7_ends_69 rfl rfl ?_
      refine e_getfield fd_X7_40 dX7_ends_70 rfl rfl rfl rfl ?_
      refine EV.eq (st' := [vi (M.1 1)]) rfl ?_
      refine e_bipush dX7_ends_73 rfl rfl ?_
      refine e_icmp_ne (t := 114) dX7_ends_75 rfl rfl (by omega) (by omega) (fun h75 => ?_) (fun h75 => ?_)
      · refine e_aload_n dX7_ends_114 rfl rfl ?_
        refine e_dup dX7_ends_115 rfl rfl ?_
        refine e_getfield fd_X7_40 dX7_ends_116 rfl rfl rfl rfl ?_
        refine e_iconst dX7_ends_119 rfl ?_
        refine e_iadd dX7_ends_120 rfl ?_
        refine e_putfield fd_X7_40 dX7_ends_121 rfl rfl rfl (Nat.le_of_ble_eq_true rfl) rfl rfl ?_
        refine EV.ceq (cs' := wM a (sR (sS (sS M 0 T) 1 (M.1 1 + 1)) 0 (M.2 0))) rfl ?_
        refine e_aload_n dX7_ends_124 rfl rfl ?_
        refine e_bipush dX7_ends_125 rfl rfl ?_
        refine e_aload_n dX7_ends_127 rfl rfl ?_
        refine e_getfield fd_X7_40 dX7_ends_128 rfl rfl rfl rfl ?_
        refine EV.eq (st' := [vi (M.1 1 + 1), vi 10, .ref (a 0)]) rfl ?_
        refine e_cV2 [0, 1, 2, 3, 4, 5] lk_X7_36 rfl dX7_ends_131 rfl (C_X7_copies (M := sR (sS (sS M 0 T) 1 (M.1 1 + 1)) 0 (M.2 0)) (f := 10) (t := M.1 1 + 1) (by omega)) rfl rfl (Nat.le_of_ble_eq_true rfl) (Nat.le_of_ble_eq_true rfl) (Nat.le_of_ble_eq_true rfl) ⟨rfl, rfl⟩ rfl rfl rfl rfl rfl rfl rfl rfl ?_
        refine e_aload_n dX7_ends_134 rfl rfl ?_
        refine e_getfield fd_X7_43 dX7_ends_135 rfl rfl rfl rfl ?_
        refine EV.eq (st' := [vi (M.1 3)]) rfl ?_
        exact e_iret dX7_ends_138 rfl rfl ⟨by rw [← et, if_pos h57] <;> rfl, rfl, by rw [← et, mEn_y h57 (mEnc_9 h75) (mEnx_9 h75), h57] <;> rfl⟩
      · have e8 : M.1 1 = 8 := Decidable.not_not.mp h75
        refine e_iconst dX7_ends_78 rfl ?_
        refine f_istore dX7_ends_79 rfl (Nat.le_of_ble_eq_true rfl) rfl ?_
        have hL81 : ∀ (k81 : Nat) (k : Int) (g : Int → Int) (hk81 : (8 - k).toNat = k81) (g81 : 1 ≤ k ∧ k ≤ 8) (e81 : ∀ j, g j = if 250 ≤ j ∧ j < 250 * k then M.2 0 (j + 250) else M.2 0 j), EV (mX7_ends, (eRm 1), eRet (some (vi (if mTh v t1 t2 t3 t4 t5 = 0 then M.1 3 else 0))) a (wM a (mEn M (mTh v t1 t2 t3 t4 t5))), X) a (0, 0) (wM a (sR (sS M 0 T) 0 g)) 81 [some (.ref (a 0)), some (vi v), some (vi t1), some (vi t2), some (vi t3), some (vi t4), some (vi t5), some (vi k)] [] := by
          intro k81
          induction k81 using Nat.strongRecOn with
          | _ k81 ih81 =>
          intro k g hk81 g81 e81
          refine e_iload dX7_ends_81 rfl rfl ?_
          refine e_bipush dX7_ends_83 rfl rfl ?_
          refine e_icmp_ge (t := 104) dX7_ends_85 rfl rfl (by omega) (by omega) (fun h85 => ?_) (fun h85 => ?_)
          · refine e_aload_n dX7_ends_104 rfl rfl ?_
            refine e_dup dX7_ends_105 rfl rfl ?_
            refine e_getfield fd_X7_40 dX7_ends_106 rfl rfl rfl rfl ?_
            have eS := mShf_end (by omega) e81
            subst eS
            refine EV.eq (st' := [vi 8, .ref (a 0)]) (by show [vi (M.1 1), .ref (a 0)] = _; rw [e8]) ?_
            refine e_iconst dX7_ends_109 rfl ?_
            refine e_isub dX7_ends_110 rfl ?_
            refine e_putfield fd_X7_40 dX7_ends_111 rfl rfl rfl (Nat.le_of_ble_eq_true rfl) rfl rfl ?_
            refine EV.ceq (cs' := wM a (sR (sS (sS M 0 T) 1 7) 0 (mShf (M.2 0)))) rfl ?_
            refine e_aload_n dX7_ends_114 rfl rfl ?_
            refine e_dup dX7_ends_115 rfl rfl ?_
            refine e_getfield fd_X7_40 dX7_ends_116 rfl rfl rfl rfl ?_
            refine EV.eq (st' := [vi 7, .ref (a 0)]) rfl ?_
            refine e_iconst dX7_ends_119 rfl ?_
            refine e_iadd dX7_ends_120 rfl ?_
            refine e_putfield fd_X7_40 dX7_ends_121 rfl rfl rfl (Nat.le_of_ble_eq_true rfl) rfl rfl ?_
            refine EV.ceq (cs' := wM a (sR (sS (sS M 0 T) 1 8) 0 (mShf (M.2 0)))) rfl ?_
            refine e_aload_n dX7_ends_124 rfl rfl ?_
            refine e_bipush dX7_ends_125 rfl rfl ?_
            refine e_aload_n dX7_ends_127 rfl rfl ?_
            refine e_getfield fd_X7_40 dX7_ends_128 rfl rfl rfl rfl ?_
            refine EV.eq (st' := [vi 8, vi 10, .ref (a 0)]) rfl ?_
            refine e_cV2 [0, 1, 2, 3, 4, 5] lk_X7_36 rfl dX7_ends_131 rfl (C_X7_copies (M := sR (sS (sS M 0 T) 1 8) 0 (mShf (M.2 0))) (f := 10) (t := 8) (by omega)) rfl rfl (Nat.le_of_ble_eq_true rfl) (Nat.le_of_ble_eq_true rfl) (Nat.le_of_ble_eq_true rfl) ⟨rfl, rfl⟩ rfl rfl rfl rfl rfl rfl rfl rfl ?_
            refine e_aload_n dX7_ends_134 rfl rfl ?_
            refine e_getfield fd_X7_43 dX7_ends_135 rfl rfl rfl rfl ?_
            refine EV.eq (st' := [vi (M.1 3)]) rfl ?_
            exact e_iret dX7_ends_138 rfl rfl ⟨by rw [← et, if_pos h57] <;> rfl, rfl, by rw [← et, mEn_y h57 (by rw [e8] <;> rfl) (mEnx_8 e8), h57] <;> rfl⟩
          · refine e_aload_n dX7_ends_88 rfl rfl ?_
            refine e_iload dX7_ends_89 rfl rfl ?_
            refine e_iconst dX7_ends_91 rfl ?_
            refine e_iadd dX7_ends_92 rfl ?_
            refine e_iload dX7_ends_93 rfl rfl ?_
            refine e_cV2 [0, 1, 2, 3, 4, 5] lk_X7_36 rfl dX7_ends_95 rfl (C_X7_copies (M := sR (sS M 0 T) 0 g) (f := k + 1) (t := k) (by omega)) rfl rfl (Nat.le_of_ble_eq_true rfl) (Nat.le_of_ble_eq_true rfl) (Nat.le_of_ble_eq_true rfl) ⟨rfl, rfl⟩ rfl rfl rfl rfl rfl rfl rfl rfl ?_
            refine f_iinc dX7_ends_98 rfl rfl (Nat.le_of_ble_eq_true rfl) rfl ?_
            refine e_goto (n := 81) dX7_ends_101 rfl ?_
            exact ih81 _ (by omega) (k + 1) _ rfl (by omega) (mShf_up (by omega) e81)
        refine EV.ceq (cs' := wM a (sR (sS M 0 T) 0 (M.2 0))) rfl ?_
        exact hL81 _ 1 (M.2 0) rfl (by omega) (fun j => by rw [if_neg (by omega)])
    · refine e_aload_n dX7_ends_60 rfl rfl ?_
      refine e_bipush dX7_ends_61 rfl rfl ?_
      refine e_iconst dX7_ends_63 rfl ?_
      refine e_cV2 [0, 1, 2, 3, 4, 5] lk_X7_36 rfl dX7_ends_64 rfl (C_X7_copies (M := sS M 0 T) (f := 10) (t := 0) (by omega)) rfl rfl (Nat.le_of_ble_eq_true rfl) (Nat.le_of_ble_eq_true rfl) (Nat.le_of_ble_eq_true rfl) ⟨rfl, rfl⟩ rfl rfl rfl rfl rfl rfl rfl rfl ?_
      refine e_iconst dX7_ends_67 rfl ?_
      exact e_iret dX7_ends_68 rfl rfl ⟨by rw [← et, if_neg h57], rfl, by rw [← et, mEn_n h57] <;> rfl⟩
  refine e_aload_n dX7_ends_0 rfl rfl ?_
  refine e_iload_n dX7_ends_1 rfl rfl ?_
  refine e_iconst dX7_ends_2 rfl ?_
  refine e_icmp_ne (t := 10) dX7_ends_3 rfl rfl (by omega) (by omega) (fun h3 => ?_) (fun h3 => ?_)
  · refine e_iload_n dX7_ends_10 rfl rfl ?_
    refine e_iconst dX7_ends_11 rfl ?_
    refine e_icmp_ne (t := 19) dX7_ends_12 rfl rfl (by omega) (by omega) (fun h12 => ?_) (fun h12 => ?_)
    · refine e_iload_n dX7_ends_19 rfl rfl ?_
      refine e_iconst dX7_ends_20 rfl ?_
      refine e_icmp_ne (t := 29) dX7_ends_21 rfl rfl (by omega) (by omega) (fun h21 => ?_) (fun h21 => ?_)
      · refine e_iload_n dX7_ends_29 rfl rfl ?_
        refine e_iconst dX7_ends_30 rfl ?_
        refine e_icmp_ne (t := 39) dX7_ends_31 rfl rfl (by omega) (by omega) (fun h31 => ?_) (fun h31 => ?_)
        · refine e_iload_n dX7_ends_39 rfl rfl ?_
          refine e_iconst dX7_ends_40 rfl ?_
          refine e_icmp_ne (t := 49) dX7_ends_41 rfl rfl (by omega) (by omega) (fun h41 => ?_) (fun h41 => ?_)
          · refine e_iconst dX7_ends_49 rfl ?_
            refine EV.fgt 7 ?_
            exact hJ50 (0) (by unfold mTh; (repeat' split) <;> omega)
          · refine e_iload dX7_ends_44 rfl rfl ?_
            refine e_goto (n := 50) dX7_ends_46 rfl ?_
            refine EV.fgt 7 ?_
            exact hJ50 (t5) (by unfold mTh; (repeat' split) <;> omega)
        · refine e_iload dX7_ends_34 rfl rfl ?_
          refine e_goto (n := 50) dX7_ends_36 rfl ?_
          refine EV.fgt 7 ?_
          exact hJ50 (t4) (by unfold mTh; (repeat' split) <;> omega)
      · refine e_iload dX7_ends_24 rfl rfl ?_
        refine e_goto (n := 50) dX7_ends_26 rfl ?_
        refine EV.fgt 7 ?_
        exact hJ50 (t3) (by unfold mTh; (repeat' split) <;> omega)
    · refine e_iload_n dX7_ends_15 rfl rfl ?_
      refine e_goto (n := 50) dX7_ends_16 rfl ?_
      refine EV.fgt 7 ?_
      exact hJ50 (t2) (by unfold mTh; (repeat' split) <;> omega)
  · refine e_iload_n dX7_ends_6 rfl rfl ?_
    refine e_goto (n := 50) dX7_ends_7 rfl ?_
    refine EV.fgt 7 ?_
    exact hJ50 (t1) (by unfold mTh; (repeat' split) <;> omega)
theorem C_X7_addBasket {X : eXT} {a : Nat → Nat} {N : Int} {F M : eFs} (hF : okF N F) (hR : mR F (M.2 0)) (hcc : 0 ≤ M.1 1 ∧ M.1 1 ≤ 8) (hNs : N + 20000 ≤ 100000000) {x y g : Int} (gx : -2147483648 ≤ x ∧ x ≤ 2147483647) (gy : -2147483648 ≤ y ∧ y ≤ 2147483647) (gg : -2147483648 ≤ g ∧ g ≤ 2147483647) :
    EM X mX7_addBasket (eRm 5) a [.ref (a 0), vi x, vi y, vi g] (wM a M) (eRets (some (vi (if mTh (mHC (sHin F 0 x y g)) 0 1 2 3 0 = 0 then sDoR F 0 x y g else 0))) a (mFc a M F 0 x y g (mTh (mHC (sHin F 0 x y g)) 0 1 2 3 0))) := by
  refine EM.of (by decide +kernel) rfl (Nat.le_of_ble_eq_true rfl) ?_
  have hF0 := hF
  obtain ⟨hc, hld, hled, htn, hgo, hkp, hst, hwt, hcl, hsh, hnx, hN, rx, ry, rh, rm, rc, rw9⟩ := hF
  obtain ⟨⟨n0, n1, n2, n3, n4, n5, n6, n7, n8, n9⟩, hb, hcd, hss⟩ := id hR
  have hT : mTh (mHC (sHin F 0 x y g)) 0 1 2 3 0 = 0 ↔ sHin F 0 x y g = 0 := by
    rcases hk_0 (F := F) (p := x) (q := y) (r := g) with e | e | e | e <;> rw [e] <;> decide
  refine e_aload_n dX7_addBasket_0 rfl rfl ?_
  refine e_cV2 [0, 1, 2, 3, 4, 5] lk_X7_118 rfl dX7_addBasket_1 rfl (C_X7_begins (M := M)) rfl rfl (Nat.le_of_ble_eq_true rfl) (Nat.le_of_ble_eq_true rfl) (Nat.le_of_ble_eq_true rfl) ⟨rfl, rfl⟩ rfl rfl rfl rfl rfl rfl rfl rfl ?_
  refine EV.ceq (cs' := wM a (sR M 0 (mAs (M.2 0)))) rfl ?_
  refine e_aload_n dX7_addBasket_4 rfl rfl ?_
  refine e_aload_n dX7_addBasket_5 rfl rfl ?_
  refine e_iload_n dX7_addBasket_6 rfl rfl ?_
  refine e_iload_n dX7_addBasket_7 rfl rfl ?_
  refine e_iload_n dX7_addBasket_8 rfl rfl ?_
  refine e_cV1 [0, 1, 2, 3, 4, 5] lk_X7_121 rfl dX7_addBasket_9 rfl (C_X7_adds (M := sR M 0 (mAs (M.2 0))) hF0 (mR_as hF0 hR) (by omega) (by omega) (by omega)) rfl rfl (Nat.le_of_ble_eq_true rfl) (Nat.le_of_ble_eq_true rfl) (Nat.le_of_ble_eq_true rfl) ⟨rfl, rfl⟩ rfl rfl rfl rfl rfl rfl (fun cs1 hcs => by obtain ⟨M1, hcs, -⟩ := hcs; rw [hcs]; rfl) ?_
  intro cs1 hcs
  obtain ⟨M1, hcs, kp, hw, hr⟩ := hcs
  subst hcs
  have c1 : M1.1 1 = M.1 1 := kp.2.2 1 (by decide) (by decide) (by decide)
  have hcr : 0 ≤ mHC (sHin F 0 x y g) ∧ mHC (sHin F 0 x y g) ≤ 5 := by rcases hk_0 (F := F) (p := x) (q := y) (r := g) with e | e | e | e <;> rw [e] <;> decide
  refine e_iconst dX7_addBasket_12 rfl ?_
  refine e_iconst dX7_addBasket_13 rfl ?_
  refine e_iconst dX7_addBasket_14 rfl ?_
  refine e_iconst dX7_addBasket_15 rfl ?_
  refine e_iconst dX7_addBasket_16 rfl ?_
  refine e_cV2 [0, 1, 2, 3, 4, 5] lk_X7_124 rfl dX7_addBasket_17 rfl (C_X7_ends (M := M1) (by omega) (by omega) (by omega) (by omega) (by omega) (by omega) (by omega)) rfl rfl (Nat.le_of_ble_eq_true rfl) (Nat.le_of_ble_eq_true rfl) (Nat.le_of_ble_eq_true rfl) ⟨rfl, rfl⟩ rfl rfl rfl rfl rfl rfl rfl rfl ?_
  exact e_iret dX7_addBasket_20 rfl rfl ⟨by by_cases e0 : mTh (mHC (sHin F 0 x y g)) 0 1 2 3 0 = 0; rw [if_pos e0, if_pos e0, (hr (hT.mp e0)).2]; rw [if_neg e0, if_neg e0], rfl, mEn M1 (mTh (mHC (sHin F 0 x y g)) 0 1 2 3 0), rfl, mPo_of hcc (hG_of (by omega) hF0 hR (by omega)) hT kp hw hr⟩
theorem C_X7_jump {X : eXT} {a : Nat → Nat} {N : Int} {F M : eFs} (hF : okF N F) (hR : mR F (M.2 0)) (hcc : 0 ≤ M.1 1 ∧ M.1 1 ≤ 8) (hNs : N + 20000 ≤ 100000000) {b x y : Int} (gb : -2147483648 ≤ b ∧ b ≤ 2147483647) (gx : -2147483648 ≤ x ∧ x ≤ 2147483647) (gy : -2147483648 ≤ y ∧ y ≤ 2147483647) :
    EM X mX7_jump (eRm 5) a [.ref (a 0), vi b, vi x, vi y] (wM a M) (eRets (some (vi (if mTh (mHC (sHin F 1 b x y)) 1 2 0 3 0 = 0 then sDoR F 1 b x y else 0))) a (mFc a M F 1 b x y (mTh (mHC (sHin F 1 b x y)) 1 2 0 3 0))) := by
  refine EM.of (by decide +kernel) rfl (Nat.le_of_ble_eq_true rfl) ?_
  have hF0 := hF
  obtain ⟨hc, hld, hled, htn, hgo, hkp, hst, hwt, hcl, hsh, hnx, hN, rx, ry, rh, rm, rc, rw9⟩ := hF
  obtain ⟨⟨n0, n1, n2, n3, n4, n5, n6, n7, n8, n9⟩, hb, hcd, hss⟩ := id hR
  have hT : mTh (mHC (sHin F 1 b x y)) 1 2 0 3 0 = 0 ↔ sHin F 1 b x y = 0 := by
    rcases hk_1 (F := F) (p := b) (q := x) (r := y) with e | e | e | e <;> rw [e] <;> decide
  refine e_aload_n dX7_jump_0 rfl rfl ?_
  refine e_cV2 [0, 1, 2, 3, 4, 5] lk_X7_118 rfl dX7_jump_1 rfl (C_X7_begins (M := M)) rfl rfl (Nat.le_of_ble_eq_true rfl) (Nat.le_of_ble_eq_true rfl) (Nat.le_of_ble_eq_true rfl) ⟨rfl, rfl⟩ rfl rfl rfl rfl rfl rfl rfl rfl ?_
  refine EV.ceq (cs' := wM a (sR M 0 (mAs (M.2 0)))) rfl ?_
  refine e_aload_n dX7_jump_4 rfl rfl ?_
  refine e_aload_n dX7_jump_5 rfl rfl ?_
  refine e_iload_n dX7_jump_6 rfl rfl ?_
  refine e_iload_n dX7_jump_7 rfl rfl ?_
  refine e_iload_n dX7_jump_8 rfl rfl ?_
  refine e_cV1 [0, 1, 2, 3, 4, 5] lk_X7_132 rfl dX7_jump_9 rfl (C_X7_jumps (M := sR M 0 (mAs (M.2 0))) hF0 (mR_as hF0 hR) (by omega) (by omega) (by omega)) rfl rfl (Nat.le_of_ble_eq_true rfl) (Nat.le_of_ble_eq_true rfl) (Nat.le_of_ble_eq_true rfl) ⟨rfl, rfl⟩ rfl rfl rfl rfl rfl rfl (fun cs1 hcs => by obtain ⟨M1, hcs, -⟩ := hcs; rw [hcs]; rfl) ?_
  intro cs1 hcs
  obtain ⟨M1, hcs, kp, hw, hr⟩ := hcs
  subst hcs
  have c1 : M1.1 1 = M.1 1 := kp.2.2 1 (by decide) (by decide) (by decide)
  have hcr : 0 ≤ mHC (sHin F 1 b x y) ∧ mHC (sHin F 1 b x y) ≤ 5 := by rcases hk_1 (F := F) (p := b) (q := x) (r := y) with e | e | e | e <;> rw [e] <;> decide
  refine e_iconst dX7_jump_12 rfl ?_
  refine e_iconst dX7_jump_13 rfl ?_
  refine e_iconst dX7_jump_14 rfl ?_
  refine e_iconst dX7_jump_15 rfl ?_
  refine e_iconst dX7_jump_16 rfl ?_
  refine e_cV2 [0, 1, 2, 3, 4, 5] lk_X7_124 rfl dX7_jump_17 rfl (C_X7_ends (M := M1) (by omega) (by omega) (by omega) (by omega) (by omega) (by omega) (by omega)) rfl rfl (Nat.le_of_ble_eq_true rfl) (Nat.le_of_ble_eq_true rfl) (Nat.le_of_ble_eq_true rfl) ⟨rfl, rfl⟩ rfl rfl rfl rfl rfl rfl rfl rfl ?_
  exact e_iret dX7_jump_20 rfl rfl ⟨by by_cases e0 : mTh (mHC (sHin F 1 b x y)) 1 2 0 3 0 = 0; rw [if_pos e0, if_pos e0, (hr (hT.mp e0)).2]; rw [if_neg e0, if_neg e0], rfl, mEn M1 (mTh (mHC (sHin F 1 b x y)) 1 2 0 3 0), rfl, mPo_of hcc (hG_of (by omega) hF0 hR (by omega)) hT kp hw hr⟩
theorem C_X7_setHandle {X : eXT} {a : Nat → Nat} {N : Int} {F M : eFs} (hF : okF N F) (hR : mR F (M.2 0)) (hcc : 0 ≤ M.1 1 ∧ M.1 1 ≤ 8) (hNs : N + 20000 ≤ 100000000) {b g : Int} (gb : -2147483648 ≤ b ∧ b ≤ 2147483647) (gg : -2147483648 ≤ g ∧ g ≤ 2147483647) :
    EM X mX7_setHandle (eRm 3) a [.ref (a 0), vi b, vi g] (wM a M) (eRets (some (vi (if mTh (mHC (sHin F 2 b g 0)) 1 2 0 0 0 = 0 then sDoR F 2 b g 0 else 0))) a (mFc a M F 2 b g 0 (mTh (mHC (sHin F 2 b g 0)) 1 2 0 0 0))) := by
  refine EM.of (by decide +kernel) rfl (Nat.le_of_ble_eq_true rfl) ?_
  have hF0 := hF
  obtain ⟨hc, hld, hled, htn, hgo, hkp, hst, hwt, hcl, hsh, hnx, hN, rx, ry, rh, rm, rc, rw9⟩ := hF
  obtain ⟨⟨n0, n1, n2, n3, n4, n5, n6, n7, n8, n9⟩, hb, hcd, hss⟩ := id hR
  have hT : mTh (mHC (sHin F 2 b g 0)) 1 2 0 0 0 = 0 ↔ sHin F 2 b g 0 = 0 := by
    rcases hk_2 (F := F) (p := b) (q := g) (r := 0) with e | e | e <;> rw [e] <;> decide
  refine e_aload_n dX7_setHandle_0 rfl rfl ?_
  refine e_cV2 [0, 1, 2, 3, 4, 5] lk_X7_118 rfl dX7_setHandle_1 rfl (C_X7_begins (M := M)) rfl rfl (Nat.le_of_ble_eq_true rfl) (Nat.le_of_ble_eq_true rfl) (Nat.le_of_ble_eq_true rfl) ⟨rfl, rfl⟩ rfl rfl rfl rfl rfl rfl rfl rfl ?_
  refine EV.ceq (cs' := wM a (sR M 0 (mAs (M.2 0)))) rfl ?_
  refine e_aload_n dX7_setHandle_4 rfl rfl ?_
  refine e_aload_n dX7_setHandle_5 rfl rfl ?_
  refine e_iload_n dX7_setHandle_6 rfl rfl ?_
  refine e_iload_n dX7_setHandle_7 rfl rfl ?_
  refine e_cV1 [0, 1, 2, 3, 4, 5] lk_X7_135 rfl dX7_setHandle_8 rfl (C_X7_handles (M := sR M 0 (mAs (M.2 0))) hF0 (mR_as hF0 hR) (by omega) (by omega)) rfl rfl (Nat.le_of_ble_eq_true rfl) (Nat.le_of_ble_eq_true rfl) (Nat.le_of_ble_eq_true rfl) ⟨rfl, rfl⟩ rfl rfl rfl rfl rfl rfl (fun cs1 hcs => by obtain ⟨M1, hcs, -⟩ := hcs; rw [hcs]; rfl) ?_
  intro cs1 hcs
  obtain ⟨M1, hcs, kp, hw, hr⟩ := hcs
  subst hcs
  have c1 : M1.1 1 = M.1 1 := kp.2.2 1 (by decide) (by decide) (by decide)
  have hcr : 0 ≤ mHC (sHin F 2 b g 0) ∧ mHC (sHin F 2 b g 0) ≤ 5 := by rcases hk_2 (F := F) (p := b) (q := g) (r := 0) with e | e | e <;> rw [e] <;> decide
  refine e_iconst dX7_setHandle_11 rfl ?_
  refine e_iconst dX7_setHandle_12 rfl ?_
  refine e_iconst dX7_setHandle_13 rfl ?_
  refine e_iconst dX7_setHandle_14 rfl ?_
  refine e_iconst dX7_setHandle_15 rfl ?_
  refine e_cV2 [0, 1, 2, 3, 4, 5] lk_X7_124 rfl dX7_setHandle_16 rfl (C_X7_ends (M := M1) (by omega) (by omega) (by omega) (by omega) (by omega) (by omega) (by omega)) rfl rfl (Nat.le_of_ble_eq_true rfl) (Nat.le_of_ble_eq_true rfl) (Nat.le_of_ble_eq_true rfl) ⟨rfl, rfl⟩ rfl rfl rfl rfl rfl rfl rfl rfl ?_
  exact e_iret dX7_setHandle_19 rfl rfl ⟨by by_cases e0 : mTh (mHC (sHin F 2 b g 0)) 1 2 0 0 0 = 0; rw [if_pos e0, if_pos e0, (hr (hT.mp e0)).2]; rw [if_neg e0, if_neg e0], rfl, mEn M1 (mTh (mHC (sHin F 2 b g 0)) 1 2 0 0 0), rfl, mPo_of hcc (hG_of (by omega) hF0 hR (by omega)) hT kp hw hr⟩
theorem C_X7_addCloud {X : eXT} {a : Nat → Nat} {N : Int} {F M : eFs} (hF : okF N F) (hR : mR F (M.2 0)) (hcc : 0 ≤ M.1 1 ∧ M.1 1 ≤ 8) (hNs : N + 20000 ≤ 100000000) {x y : Int} (gx : -2147483648 ≤ x ∧ x ≤ 2147483647) (gy : -2147483648 ≤ y ∧ y ≤ 2147483647) :
    EM X mX7_addCloud (eRm 4) a [.ref (a 0), vi x, vi y] (wM a M) (eRets (some (vi (if mTh (mHC (sHin F 3 x y 0)) 0 1 2 3 0 = 0 then sDoR F 3 x y 0 else 0))) a (mFc a M F 3 x y 0 (mTh (mHC (sHin F 3 x y 0)) 0 1 2 3 0))) := by
  refine EM.of (by decide +kernel) rfl (Nat.le_of_ble_eq_true rfl) ?_
  have hF0 := hF
  obtain ⟨hc, hld, hled, htn, hgo, hkp, hst, hwt, hcl, hsh, hnx, hN, rx, ry, rh, rm, rc, rw9⟩ := hF
  obtain ⟨⟨n0, n1, n2, n3, n4, n5, n6, n7, n8, n9⟩, hb, hcd, hss⟩ := id hR
  have hT : mTh (mHC (sHin F 3 x y 0)) 0 1 2 3 0 = 0 ↔ sHin F 3 x y 0 = 0 := by
    rcases hk_3 (F := F) (p := x) (q := y) (r := 0) with e | e | e | e <;> rw [e] <;> decide
  refine e_aload_n dX7_addCloud_0 rfl rfl ?_
  refine e_cV2 [0, 1, 2, 3, 4, 5] lk_X7_118 rfl dX7_addCloud_1 rfl (C_X7_begins (M := M)) rfl rfl (Nat.le_of_ble_eq_true rfl) (Nat.le_of_ble_eq_true rfl) (Nat.le_of_ble_eq_true rfl) ⟨rfl, rfl⟩ rfl rfl rfl rfl rfl rfl rfl rfl ?_
  refine EV.ceq (cs' := wM a (sR M 0 (mAs (M.2 0)))) rfl ?_
  refine e_aload_n dX7_addCloud_4 rfl rfl ?_
  refine e_aload_n dX7_addCloud_5 rfl rfl ?_
  refine e_iload_n dX7_addCloud_6 rfl rfl ?_
  refine e_iload_n dX7_addCloud_7 rfl rfl ?_
  refine e_cV1 [0, 1, 2, 3, 4, 5] lk_X7_141 rfl dX7_addCloud_8 rfl (C_X7_clouds (M := sR M 0 (mAs (M.2 0))) hF0 (mR_as hF0 hR) (by omega) (by omega)) rfl rfl (Nat.le_of_ble_eq_true rfl) (Nat.le_of_ble_eq_true rfl) (Nat.le_of_ble_eq_true rfl) ⟨rfl, rfl⟩ rfl rfl rfl rfl rfl rfl (fun cs1 hcs => by obtain ⟨M1, hcs, -⟩ := hcs; rw [hcs]; rfl) ?_
  intro cs1 hcs
  obtain ⟨M1, hcs, kp, hw, hr⟩ := hcs
  subst hcs
  have c1 : M1.1 1 = M.1 1 := kp.2.2 1 (by decide) (by decide) (by decide)
  have hcr : 0 ≤ mHC (sHin F 3 x y 0) ∧ mHC (sHin F 3 x y 0) ≤ 5 := by rcases hk_3 (F := F) (p := x) (q := y) (r := 0) with e | e | e | e <;> rw [e] <;> decide
  refine e_iconst dX7_addCloud_11 rfl ?_
  refine e_iconst dX7_addCloud_12 rfl ?_
  refine e_iconst dX7_addCloud_13 rfl ?_
  refine e_iconst dX7_addCloud_14 rfl ?_
  refine e_iconst dX7_addCloud_15 rfl ?_
  refine e_cV2 [0, 1, 2, 3, 4, 5] lk_X7_124 rfl dX7_addCloud_16 rfl (C_X7_ends (M := M1) (by omega) (by omega) (by omega) (by omega) (by omega) (by omega) (by omega)) rfl rfl (Nat.le_of_ble_eq_true rfl) (Nat.le_of_ble_eq_true rfl) (Nat.le_of_ble_eq_true rfl) ⟨rfl, rfl⟩ rfl rfl rfl rfl rfl rfl rfl rfl ?_
  exact e_iret dX7_addCloud_19 rfl rfl ⟨by by_cases e0 : mTh (mHC (sHin F 3 x y 0)) 0 1 2 3 0 = 0; rw [if_pos e0, if_pos e0, (hr (hT.mp e0)).2]; rw [if_neg e0, if_neg e0], rfl, mEn M1 (mTh (mHC (sHin F 3 x y 0)) 0 1 2 3 0), rfl, mPo_of hcc (hG_of (by omega) hF0 hR (by omega)) hT kp hw hr⟩
theorem C_X7_removeCloud {X : eXT} {a : Nat → Nat} {N : Int} {F M : eFs} (hF : okF N F) (hR : mR F (M.2 0)) (hcc : 0 ≤ M.1 1 ∧ M.1 1 ≤ 8) (hNs : N + 20000 ≤ 100000000) {x y : Int} (gx : -2147483648 ≤ x ∧ x ≤ 2147483647) (gy : -2147483648 ≤ y ∧ y ≤ 2147483647) :
    EM X mX7_removeCloud (eRm 3) a [.ref (a 0), vi x, vi y] (wM a M) (eRets (some (vi (if mTh (mHC (sHin F 4 x y 0)) 0 1 0 0 2 = 0 then sDoR F 4 x y 0 else 0))) a (mFc a M F 4 x y 0 (mTh (mHC (sHin F 4 x y 0)) 0 1 0 0 2))) := by
  refine EM.of (by decide +kernel) rfl (Nat.le_of_ble_eq_true rfl) ?_
  have hF0 := hF
  obtain ⟨hc, hld, hled, htn, hgo, hkp, hst, hwt, hcl, hsh, hnx, hN, rx, ry, rh, rm, rc, rw9⟩ := hF
  obtain ⟨⟨n0, n1, n2, n3, n4, n5, n6, n7, n8, n9⟩, hb, hcd, hss⟩ := id hR
  have hT : mTh (mHC (sHin F 4 x y 0)) 0 1 0 0 2 = 0 ↔ sHin F 4 x y 0 = 0 := by
    rcases hk_4 (F := F) (p := x) (q := y) (r := 0) with e | e | e <;> rw [e] <;> decide
  refine e_aload_n dX7_removeCloud_0 rfl rfl ?_
  refine e_cV2 [0, 1, 2, 3, 4, 5] lk_X7_118 rfl dX7_removeCloud_1 rfl (C_X7_begins (M := M)) rfl rfl (Nat.le_of_ble_eq_true rfl) (Nat.le_of_ble_eq_true rfl) (Nat.le_of_ble_eq_true rfl) ⟨rfl, rfl⟩ rfl rfl rfl rfl rfl rfl rfl rfl ?_
  refine EV.ceq (cs' := wM a (sR M 0 (mAs (M.2 0)))) rfl ?_
  refine e_aload_n dX7_removeCloud_4 rfl rfl ?_
  refine e_aload_n dX7_removeCloud_5 rfl rfl ?_
  refine e_iload_n dX7_removeCloud_6 rfl rfl ?_
  refine e_iload_n dX7_removeCloud_7 rfl rfl ?_
  refine e_cV1 [0, 1, 2, 3, 4, 5] lk_X7_144 rfl dX7_removeCloud_8 rfl (C_X7_clears (M := sR M 0 (mAs (M.2 0))) hF0 (mR_as hF0 hR) (by omega) (by omega)) rfl rfl (Nat.le_of_ble_eq_true rfl) (Nat.le_of_ble_eq_true rfl) (Nat.le_of_ble_eq_true rfl) ⟨rfl, rfl⟩ rfl rfl rfl rfl rfl rfl (fun cs1 hcs => by obtain ⟨M1, hcs, -⟩ := hcs; rw [hcs]; rfl) ?_
  intro cs1 hcs
  obtain ⟨M1, hcs, kp, hw, hr⟩ := hcs
  subst hcs
  have c1 : M1.1 1 = M.1 1 := kp.2.2 1 (by decide) (by decide) (by decide)
  have hcr : 0 ≤ mHC (sHin F 4 x y 0) ∧ mHC (sHin F 4 x y 0) ≤ 5 := by rcases hk_4 (F := F) (p := x) (q := y) (r := 0) with e | e | e <;> rw [e] <;> decide
  refine e_iconst dX7_removeCloud_11 rfl ?_
  refine e_iconst dX7_removeCloud_12 rfl ?_
  refine e_iconst dX7_removeCloud_13 rfl ?_
  refine e_iconst dX7_removeCloud_14 rfl ?_
  refine e_iconst dX7_removeCloud_15 rfl ?_
  refine e_cV2 [0, 1, 2, 3, 4, 5] lk_X7_124 rfl dX7_removeCloud_16 rfl (C_X7_ends (M := M1) (by omega) (by omega) (by omega) (by omega) (by omega) (by omega) (by omega)) rfl rfl (Nat.le_of_ble_eq_true rfl) (Nat.le_of_ble_eq_true rfl) (Nat.le_of_ble_eq_true rfl) ⟨rfl, rfl⟩ rfl rfl rfl rfl rfl rfl rfl rfl ?_
  exact e_iret dX7_removeCloud_19 rfl rfl ⟨by by_cases e0 : mTh (mHC (sHin F 4 x y 0)) 0 1 0 0 2 = 0; rw [if_pos e0, if_pos e0, (hr (hT.mp e0)).2]; rw [if_neg e0, if_neg e0], rfl, mEn M1 (mTh (mHC (sHin F 4 x y 0)) 0 1 0 0 2), rfl, mPo_of hcc (hG_of (by omega) hF0 hR (by omega)) hT kp hw hr⟩
theorem C_X7_setTurnLength {X : eXT} {a : Nat → Nat} {N : Int} {F M : eFs} (hF : okF N F) (hR : mR F (M.2 0)) (hcc : 0 ≤ M.1 1 ∧ M.1 1 ≤ 8) (hNs : N + 20000 ≤ 100000000) {s : Int} (gs : -2147483648 ≤ s ∧ s ≤ 2147483647) :
    EM X mX7_setTurnLength (eRm 2) a [.ref (a 0), vi s] (wM a M) (eRets (some (vi (if mTh (mHC (sHin F 5 s 0 0)) 0 1 0 0 0 = 0 then sDoR F 5 s 0 0 else 0))) a (mFc a M F 5 s 0 0 (mTh (mHC (sHin F 5 s 0 0)) 0 1 0 0 0))) := by
  refine EM.of (by decide +kernel) rfl (Nat.le_of_ble_eq_true rfl) ?_
  have hF0 := hF
  obtain ⟨hc, hld, hled, htn, hgo, hkp, hst, hwt, hcl, hsh, hnx, hN, rx, ry, rh, rm, rc, rw9⟩ := hF
  obtain ⟨⟨n0, n1, n2, n3, n4, n5, n6, n7, n8, n9⟩, hb, hcd, hss⟩ := id hR
  have hT : mTh (mHC (sHin F 5 s 0 0)) 0 1 0 0 0 = 0 ↔ sHin F 5 s 0 0 = 0 := by
    rcases hk_5 (F := F) (p := s) (q := 0) (r := 0) with e | e <;> rw [e] <;> decide
  refine e_aload_n dX7_setTurnLength_0 rfl rfl ?_
  refine e_cV2 [0, 1, 2, 3, 4, 5] lk_X7_118 rfl dX7_setTurnLength_1 rfl (C_X7_begins (M := M)) rfl rfl (Nat.le_of_ble_eq_true rfl) (Nat.le_of_ble_eq_true rfl) (Nat.le_of_ble_eq_true rfl) ⟨rfl, rfl⟩ rfl rfl rfl rfl rfl rfl rfl rfl ?_
  refine EV.ceq (cs' := wM a (sR M 0 (mAs (M.2 0)))) rfl ?_
  refine e_aload_n dX7_setTurnLength_4 rfl rfl ?_
  refine e_aload_n dX7_setTurnLength_5 rfl rfl ?_
  refine e_iload_n dX7_setTurnLength_6 rfl rfl ?_
  refine e_cV1 [0, 1, 2, 3, 4, 5] lk_X7_147 rfl dX7_setTurnLength_7 rfl (C_X7_turns (M := sR M 0 (mAs (M.2 0))) hF0 (mR_as hF0 hR) (by omega)) rfl rfl (Nat.le_of_ble_eq_true rfl) (Nat.le_of_ble_eq_true rfl) (Nat.le_of_ble_eq_true rfl) ⟨rfl, rfl⟩ rfl rfl rfl rfl rfl rfl (fun cs1 hcs => by obtain ⟨M1, hcs, -⟩ := hcs; rw [hcs]; rfl) ?_
  intro cs1 hcs
  obtain ⟨M1, hcs, kp, hw, hr⟩ := hcs
  subst hcs
  have c1 : M1.1 1 = M.1 1 := kp.2.2 1 (by decide) (by decide) (by decide)
  have hcr : 0 ≤ mHC (sHin F 5 s 0 0) ∧ mHC (sHin F 5 s 0 0) ≤ 5 := by rcases hk_5 (F := F) (p := s) (q := 0) (r := 0) with e | e <;> rw [e] <;> decide
  refine e_iconst dX7_setTurnLength_10 rfl ?_
  refine e_iconst dX7_setTurnLength_11 rfl ?_
  refine e_iconst dX7_setTurnLength_12 rfl ?_
  refine e_iconst dX7_setTurnLength_13 rfl ?_
  refine e_iconst dX7_setTurnLength_14 rfl ?_
  refine e_cV2 [0, 1, 2, 3, 4, 5] lk_X7_124 rfl dX7_setTurnLength_15 rfl (C_X7_ends (M := M1) (by omega) (by omega) (by omega) (by omega) (by omega) (by omega) (by omega)) rfl rfl (Nat.le_of_ble_eq_true rfl) (Nat.le_of_ble_eq_true rfl) (Nat.le_of_ble_eq_true rfl) ⟨rfl, rfl⟩ rfl rfl rfl rfl rfl rfl rfl rfl ?_
  exact e_iret dX7_setTurnLength_18 rfl rfl ⟨by by_cases e0 : mTh (mHC (sHin F 5 s 0 0)) 0 1 0 0 0 = 0; rw [if_pos e0, if_pos e0, (hr (hT.mp e0)).2]; rw [if_neg e0, if_neg e0], rfl, mEn M1 (mTh (mHC (sHin F 5 s 0 0)) 0 1 0 0 0), rfl, mPo_of hcc (hG_of (by omega) hF0 hR (by omega)) hT kp hw hr⟩
theorem C_X7_setTarget {X : eXT} {a : Nat → Nat} {N : Int} {F M : eFs} (hF : okF N F) (hR : mR F (M.2 0)) (hcc : 0 ≤ M.1 1 ∧ M.1 1 ≤ 8) (hNs : N + 20000 ≤ 100000000) {x y : Int} (gx : -2147483648 ≤ x ∧ x ≤ 2147483647) (gy : -2147483648 ≤ y ∧ y ≤ 2147483647) :
    EM X mX7_setTarget (eRm 3) a [.ref (a 0), vi x, vi y] (wM a M) (eRets (some (vi (if mTh (mHC (sHin F 6 x y 0)) 0 1 0 0 2 = 0 then sDoR F 6 x y 0 else 0))) a (mFc a M F 6 x y 0 (mTh (mHC (sHin F 6 x y 0)) 0 1 0 0 2))) := by
  refine EM.of (by decide +kernel) rfl (Nat.le_of_ble_eq_true rfl) ?_
  have hF0 := hF
  obtain ⟨hc, hld, hled, htn, hgo, hkp, hst, hwt, hcl, hsh, hnx, hN, rx, ry, rh, rm, rc, rw9⟩ := hF
  obtain ⟨⟨n0, n1, n2, n3, n4, n5, n6, n7, n8, n9⟩, hb, hcd, hss⟩ := id hR
  have hT : mTh (mHC (sHin F 6 x y 0)) 0 1 0 0 2 = 0 ↔ sHin F 6 x y 0 = 0 := by
    rcases hk_6 (F := F) (p := x) (q := y) (r := 0) with e | e | e <;> rw [e] <;> decide
  refine e_aload_n dX7_setTarget_0 rfl rfl ?_
  refine e_cV2 [0, 1, 2, 3, 4, 5] lk_X7_118 rfl dX7_setTarget_1 rfl (C_X7_begins (M := M)) rfl rfl (Nat.le_of_ble_eq_true rfl) (Nat.le_of_ble_eq_true rfl) (Nat.le_of_ble_eq_true rfl) ⟨rfl, rfl⟩ rfl rfl rfl rfl rfl rfl rfl rfl ?_
  refine EV.ceq (cs' := wM a (sR M 0 (mAs (M.2 0)))) rfl ?_
  refine e_aload_n dX7_setTarget_4 rfl rfl ?_
  refine e_aload_n dX7_setTarget_5 rfl rfl ?_
  refine e_iload_n dX7_setTarget_6 rfl rfl ?_
  refine e_iload_n dX7_setTarget_7 rfl rfl ?_
  refine e_cV1 [0, 1, 2, 3, 4, 5] lk_X7_150 rfl dX7_setTarget_8 rfl (C_X7_aims (M := sR M 0 (mAs (M.2 0))) hF0 (mR_as hF0 hR) (by omega) (by omega)) rfl rfl (Nat.le_of_ble_eq_true rfl) (Nat.le_of_ble_eq_true rfl) (Nat.le_of_ble_eq_true rfl) ⟨rfl, rfl⟩ rfl rfl rfl rfl rfl rfl (fun cs1 hcs => by obtain ⟨M1, hcs, -⟩ := hcs; rw [hcs]; rfl) ?_
  intro cs1 hcs
  obtain ⟨M1, hcs, kp, hw, hr⟩ := hcs
  subst hcs
  have c1 : M1.1 1 = M.1 1 := kp.2.2 1 (by decide) (by decide) (by decide)
  have hcr : 0 ≤ mHC (sHin F 6 x y 0) ∧ mHC (sHin F 6 x y 0) ≤ 5 := by rcases hk_6 (F := F) (p := x) (q := y) (r := 0) with e | e | e <;> rw [e] <;> decide
  refine e_iconst dX7_setTarget_11 rfl ?_
  refine e_iconst dX7_setTarget_12 rfl ?_
  refine e_iconst dX7_setTarget_13 rfl ?_
  refine e_iconst dX7_setTarget_14 rfl ?_
  refine e_iconst dX7_setTarget_15 rfl ?_
  refine e_cV2 [0, 1, 2, 3, 4, 5] lk_X7_124 rfl dX7_setTarget_16 rfl (C_X7_ends (M := M1) (by omega) (by omega) (by omega) (by omega) (by omega) (by omega) (by omega)) rfl rfl (Nat.le_of_ble_eq_true rfl) (Nat.le_of_ble_eq_true rfl) (Nat.le_of_ble_eq_true rfl) ⟨rfl, rfl⟩ rfl rfl rfl rfl rfl rfl rfl rfl ?_
  exact e_iret dX7_setTarget_19 rfl rfl ⟨by by_cases e0 : mTh (mHC (sHin F 6 x y 0)) 0 1 0 0 2 = 0; rw [if_pos e0, if_pos e0, (hr (hT.mp e0)).2]; rw [if_neg e0, if_neg e0], rfl, mEn M1 (mTh (mHC (sHin F 6 x y 0)) 0 1 0 0 2), rfl, mPo_of hcc (hG_of (by omega) hF0 hR (by omega)) hT kp hw hr⟩
theorem C_X7_setKeep {X : eXT} {a : Nat → Nat} {N : Int} {F M : eFs} (hF : okF N F) (hR : mR F (M.2 0)) (hcc : 0 ≤ M.1 1 ∧ M.1 1 ≤ 8) (hNs : N + 20000 ≤ 100000000) {s : Int} (gs : -2147483648 ≤ s ∧ s ≤ 2147483647) :
    EM X mX7_setKeep (eRm 2) a [.ref (a 0), vi s] (wM a M) (eRets (some (vi (if mTh (mHC (sHin F 7 s 0 0)) 0 1 0 0 0 = 0 then sDoR F 7 s 0 0 else 0))) a (mFc a M F 7 s 0 0 (mTh (mHC (sHin F 7 s 0 0)) 0 1 0 0 0))) := by
  refine EM.of (by decide +kernel) rfl (Nat.le_of_ble_eq_true rfl) ?_
  have hF0 := hF
  obtain ⟨hc, hld, hled, htn, hgo, hkp, hst, hwt, hcl, hsh, hnx, hN, rx, ry, rh, rm, rc, rw9⟩ := hF
  obtain ⟨⟨n0, n1, n2, n3, n4, n5, n6, n7, n8, n9⟩, hb, hcd, hss⟩ := id hR
  have hT : mTh (mHC (sHin F 7 s 0 0)) 0 1 0 0 0 = 0 ↔ sHin F 7 s 0 0 = 0 := by
    rcases hk_7 (F := F) (p := s) (q := 0) (r := 0) with e | e <;> rw [e] <;> decide
  refine e_aload_n dX7_setKeep_0 rfl rfl ?_
  refine e_cV2 [0, 1, 2, 3, 4, 5] lk_X7_118 rfl dX7_setKeep_1 rfl (C_X7_begins (M := M)) rfl rfl (Nat.le_of_ble_eq_true rfl) (Nat.le_of_ble_eq_true rfl) (Nat.le_of_ble_eq_true rfl) ⟨rfl, rfl⟩ rfl rfl rfl rfl rfl rfl rfl rfl ?_
  refine EV.ceq (cs' := wM a (sR M 0 (mAs (M.2 0)))) rfl ?_
  refine e_aload_n dX7_setKeep_4 rfl rfl ?_
  refine e_aload_n dX7_setKeep_5 rfl rfl ?_
  refine e_iload_n dX7_setKeep_6 rfl rfl ?_
  refine e_cV1 [0, 1, 2, 3, 4, 5] lk_X7_153 rfl dX7_setKeep_7 rfl (C_X7_keeps (M := sR M 0 (mAs (M.2 0))) hF0 (mR_as hF0 hR) (by omega)) rfl rfl (Nat.le_of_ble_eq_true rfl) (Nat.le_of_ble_eq_true rfl) (Nat.le_of_ble_eq_true rfl) ⟨rfl, rfl⟩ rfl rfl rfl rfl rfl rfl (fun cs1 hcs => by obtain ⟨M1, hcs, -⟩ := hcs; rw [hcs]; rfl) ?_
  intro cs1 hcs
  obtain ⟨M1, hcs, kp, hw, hr⟩ := hcs
  subst hcs
  have c1 : M1.1 1 = M.1 1 := kp.2.2 1 (by decide) (by decide) (by decide)
  have hcr : 0 ≤ mHC (sHin F 7 s 0 0) ∧ mHC (sHin F 7 s 0 0) ≤ 5 := by rcases hk_7 (F := F) (p := s) (q := 0) (r := 0) with e | e <;> rw [e] <;> decide
  refine e_iconst dX7_setKeep_10 rfl ?_
  refine e_iconst dX7_setKeep_11 rfl ?_
  refine e_iconst dX7_setKeep_12 rfl ?_
  refine e_iconst dX7_setKeep_13 rfl ?_
  refine e_iconst dX7_setKeep_14 rfl ?_
  refine e_cV2 [0, 1, 2, 3, 4, 5] lk_X7_124 rfl dX7_setKeep_15 rfl (C_X7_ends (M := M1) (by omega) (by omega) (by omega) (by omega) (by omega) (by omega) (by omega)) rfl rfl (Nat.le_of_ble_eq_true rfl) (Nat.le_of_ble_eq_true rfl) (Nat.le_of_ble_eq_true rfl) ⟨rfl, rfl⟩ rfl rfl rfl rfl rfl rfl rfl rfl ?_
  exact e_iret dX7_setKeep_18 rfl rfl ⟨by by_cases e0 : mTh (mHC (sHin F 7 s 0 0)) 0 1 0 0 0 = 0; rw [if_pos e0, if_pos e0, (hr (hT.mp e0)).2]; rw [if_neg e0, if_neg e0], rfl, mEn M1 (mTh (mHC (sHin F 7 s 0 0)) 0 1 0 0 0), rfl, mPo_of hcc (hG_of (by omega) hF0 hR (by omega)) hT kp hw hr⟩
theorem C_X7_advance {X : eXT} {a : Nat → Nat} {N : Int} {F M : eFs} (hF : okF N F) (hR : mR F (M.2 0)) (hcc : 0 ≤ M.1 1 ∧ M.1 1 ≤ 8) (hNs : N + 20000 ≤ 100000000) {s : Int} (gs : -2147483648 ≤ s ∧ s ≤ 2147483647) :
    EM X mX7_advance (eRm 8) a [.ref (a 0), vi s] (wM a M) (eRets (some (vi (if mTh (mHC (sHin F 8 s 0 0)) 0 1 0 0 0 = 0 then sDoR F 8 s 0 0 else 0))) a (mFc a M F 8 s 0 0 (mTh (mHC (sHin F 8 s 0 0)) 0 1 0 0 0))) := by
  refine EM.of (by decide +kernel) rfl (Nat.le_of_ble_eq_true rfl) ?_
  have hF0 := hF
  obtain ⟨hc, hld, hled, htn, hgo, hkp, hst, hwt, hcl, hsh, hnx, hN, rx, ry, rh, rm, rc, rw9⟩ := hF
  obtain ⟨⟨n0, n1, n2, n3, n4, n5, n6, n7, n8, n9⟩, hb, hcd, hss⟩ := id hR
  have hT : mTh (mHC (sHin F 8 s 0 0)) 0 1 0 0 0 = 0 ↔ sHin F 8 s 0 0 = 0 := by
    rcases hk_8 (F := F) (p := s) (q := 0) (r := 0) with e | e <;> rw [e] <;> decide
  refine e_aload_n dX7_advance_0 rfl rfl ?_
  refine e_cV2 [0, 1, 2, 3, 4, 5] lk_X7_118 rfl dX7_advance_1 rfl (C_X7_begins (M := M)) rfl rfl (Nat.le_of_ble_eq_true rfl) (Nat.le_of_ble_eq_true rfl) (Nat.le_of_ble_eq_true rfl) ⟨rfl, rfl⟩ rfl rfl rfl rfl rfl rfl rfl rfl ?_
  refine EV.ceq (cs' := wM a (sR M 0 (mAs (M.2 0)))) rfl ?_
  refine e_aload_n dX7_advance_4 rfl rfl ?_
  refine e_aload_n dX7_advance_5 rfl rfl ?_
  refine e_iload_n dX7_advance_6 rfl rfl ?_
  refine e_cV1 [0, 1, 2, 3, 4, 5] lk_X7_159 rfl dX7_advance_7 rfl (C_X7_passes (M := sR M 0 (mAs (M.2 0))) hF0 (mR_as hF0 hR) (by omega) (by omega)) rfl rfl (Nat.le_of_ble_eq_true rfl) (Nat.le_of_ble_eq_true rfl) (Nat.le_of_ble_eq_true rfl) ⟨rfl, rfl⟩ rfl rfl rfl rfl rfl rfl (fun cs1 hcs => by obtain ⟨M1, hcs, -⟩ := hcs; rw [hcs]; rfl) ?_
  intro cs1 hcs
  obtain ⟨M1, hcs, kp, hw, hr⟩ := hcs
  subst hcs
  have c1 : M1.1 1 = M.1 1 := kp.2.2 1 (by decide) (by decide) (by decide)
  have hcr : 0 ≤ mHC (sHin F 8 s 0 0) ∧ mHC (sHin F 8 s 0 0) ≤ 5 := by rcases hk_8 (F := F) (p := s) (q := 0) (r := 0) with e | e <;> rw [e] <;> decide
  refine e_iconst dX7_advance_10 rfl ?_
  refine e_iconst dX7_advance_11 rfl ?_
  refine e_iconst dX7_advance_12 rfl ?_
  refine e_iconst dX7_advance_13 rfl ?_
  refine e_iconst dX7_advance_14 rfl ?_
  refine e_cV2 [0, 1, 2, 3, 4, 5] lk_X7_124 rfl dX7_advance_15 rfl (C_X7_ends (M := M1) (by omega) (by omega) (by omega) (by omega) (by omega) (by omega) (by omega)) rfl rfl (Nat.le_of_ble_eq_true rfl) (Nat.le_of_ble_eq_true rfl) (Nat.le_of_ble_eq_true rfl) ⟨rfl, rfl⟩ rfl rfl rfl rfl rfl rfl rfl rfl ?_
  exact e_iret dX7_advance_18 rfl rfl ⟨by by_cases e0 : mTh (mHC (sHin F 8 s 0 0)) 0 1 0 0 0 = 0; rw [if_pos e0, if_pos e0, (hr (hT.mp e0)).2]; rw [if_neg e0, if_neg e0], rfl, mEn M1 (mTh (mHC (sHin F 8 s 0 0)) 0 1 0 0 0), rfl, mPo_of hcc (hG_of (by omega) hF0 hR (by omega)) hT kp hw hr⟩
