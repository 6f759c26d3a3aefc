/-! ===== class and reference, side by side ===== -/
/-- a flock kept somewhere, and the row that tells it -/
def fOk (N : Int) (F : eFs) (x : Int → Int) : Prop := okF N F ∧ okC F ∧ okA F ∧ mR F x
theorem fOk_up {N N2 : Int} {F : eFs} {x : Int → Int} (h : fOk N F x) (h1 : N ≤ N2) (h2 : N2 ≤ 100000000) : fOk N2 F x := ⟨okF_mono ⟨h1, h2⟩ h.1, h.2.1, h.2.2.1, h.2.2.2⟩
theorem fOk_c {N : Int} {F : eFs} {x y : Int → Int} (h : fOk N F x) (e : ∀ j, 0 ≤ j → j < 250 → y j = x j) : fOk N F y := ⟨h.1, h.2.1, h.2.2.1, mR_cong h.1 e h.2.2.2⟩
/-- the slot of the history that row i of the reference tells -/
def hIx (c n i : Int) : Nat := ((n - 1 - (c - i)) % 8).toNat
def sHis (N c n : Int) (h : eHs) (x : Int → Int) : Prop := ∀ i, 1 ≤ i → i ≤ c → fOk N (h (hIx c n i)).1 (mSl x i)
def sNum (z : Nat → Int) (T M : eFs) (c n : Int) : Prop := (0 ≤ c ∧ c ≤ 8) ∧ (0 ≤ n ∧ n ≤ 7) ∧ c = M.1 1 ∧ z 5 = M.1 2 ∧ (z 5 = 0 ∨ z 5 = 1) ∧ T.1 0 = M.1 6 ∧ T.2 0 = M.2 2 ∧ z 0 = M.1 9 ∧ z 1 = M.1 10 ∧ z 4 = M.1 12
def sLin (z : Nat → Int) (ln : Int → Int) (M : eFs) : Prop := (∀ j, 0 ≤ ln j ∧ ln j ≤ 65535) ∧ (∀ j, 0 ≤ M.2 4 j ∧ M.2 4 j ≤ 126) ∧ (z 4 = 12 → ∀ j, 0 ≤ j → j < 12 → ln j = M.2 4 j)
def SIM (N : Int) (z : Nat → Int) (ln : Int → Int) (F S : eFs) (c n : Int) (h : eHs) (g rc : Int → Int) (T : eFs) (Mt : Int → Int → Int) (M : eFs) : Prop :=
  fOk N F (M.2 0) ∧ (z 5 = 1 → fOk N S (mSl (M.2 0) 9)) ∧ sHis N c n h (M.2 0) ∧ sNum z T M c n ∧ sLin z ln M ∧ (okG g ∧ ∀ j, 0 ≤ rc j ∧ rc j ≤ 9) ∧ okT T Mt ∧ okZ z ∧ (mWh z M ∧ 0 ≤ M.1 4 ∧ M.1 4 ≤ 2) ∧ (0 ≤ N ∧ N ≤ 90000000)
/-- a reference that has changed only where nobody looks -/
def mEq (M M' : eFs) : Prop := (∀ j, j ≠ 0 → j ≠ 3 → j ≠ 7 → j ≠ 8 → j ≠ 11 → M'.1 j = M.1 j) ∧ M'.2 2 = M.2 2 ∧ M'.2 4 = M.2 4 ∧ ∀ j, 0 ≤ j → j < 2500 → M'.2 0 j = M.2 0 j
theorem mEq_0 {M : eFs} {t : Int} : mEq M (sS M 0 t) := ⟨fun j h _ _ _ _ => if_neg h, rfl, rfl, fun j _ _ => rfl⟩
theorem mEq_sh {M : eFs} {t : Int} {sh : Int → Int} : mEq M (sR (sS M 0 t) 1 sh) := ⟨fun j h _ _ _ _ => if_neg h, rfl, rfl, fun j _ _ => rfl⟩
theorem mWh_c {z : Nat → Int} {M M' : eFs} (h : mWh z M) (e4 : M'.1 4 = M.1 4) (e5 : M'.1 5 = M.1 5) : mWh z M' := by
  unfold mWh at h ⊢
  rw [e4, e5]
  exact h
theorem SIM_eq {N : Int} {z : Nat → Int} {ln : Int → Int} {F S : eFs} {c n : Int} {h : eHs} {g rc : Int → Int} {T : eFs} {Mt : Int → Int → Int} {M M' : eFs} (s : SIM N z ln F S c n h g rc T Mt M) (e : mEq M M') : SIM N z ln F S c n h g rc T Mt M' := by
  obtain ⟨s1, s2, s3, ⟨n1, n2, n3, n4, n5, n6, n7, n8, n9, n10⟩, ⟨l1, l2, l3⟩, s6, s7, s8, ⟨s9, s10⟩, s11⟩ := s
  obtain ⟨e1, e2, e3, e4⟩ := e
  have w := fun j h0 h3 h7 h8 h11 => e1 j h0 h3 h7 h8 h11
  refine ⟨fOk_c s1 (fun j j0 j1 => e4 j j0 (by omega)), fun q => fOk_c (s2 q) (fun j j0 j1 => e4 _ (by omega) (by omega)), fun i i0 i1 => fOk_c (s3 i i0 i1) (fun j j0 j1 => e4 _ (by omega) (by omega)), ⟨n1, n2, ?_, ?_, n5, ?_, ?_, ?_, ?_, ?_⟩, ⟨l1, ?_, ?_⟩, s6, s7, s8, ⟨mWh_c s9 (w 4 (by decide) (by decide) (by decide) (by decide) (by decide)) (w 5 (by decide) (by decide) (by decide) (by decide) (by decide)), ?_⟩, s11⟩
  · rw [w 1 (by decide) (by decide) (by decide) (by decide) (by decide)]; exact n3
  · rw [w 2 (by decide) (by decide) (by decide) (by decide) (by decide)]; exact n4
  · rw [w 6 (by decide) (by decide) (by decide) (by decide) (by decide)]; exact n6
  · rw [e2]; exact n7
  · rw [w 9 (by decide) (by decide) (by decide) (by decide) (by decide)]; exact n8
  · rw [w 10 (by decide) (by decide) (by decide) (by decide) (by decide)]; exact n9
  · rw [w 12 (by decide) (by decide) (by decide) (by decide) (by decide)]; exact n10
  · rw [e3]; exact l2
  · rw [e3]; exact l3
  · rw [w 4 (by decide) (by decide) (by decide) (by decide) (by decide)]; exact s10
theorem SIM_up {N N2 : Int} {z : Nat → Int} {ln : Int → Int} {F S : eFs} {c n : Int} {h : eHs} {g rc : Int → Int} {T : eFs} {Mt : Int → Int → Int} {M : eFs} (s : SIM N z ln F S c n h g rc T Mt M) (h1 : N ≤ N2) (h2 : N2 ≤ 90000000) : SIM N2 z ln F S c n h g rc T Mt M := by
  obtain ⟨s1, s2, s3, s4, s5, s6, s7, s8, s9, s11⟩ := s
  exact ⟨fOk_up s1 h1 (by omega), fun q => fOk_up (s2 q) h1 (by omega), fun i i0 i1 => fOk_up (s3 i i0 i1) h1 (by omega), s4, s5, s6, s7, s8, s9, by omega⟩
theorem SIM_g {N : Int} {z : Nat → Int} {ln : Int → Int} {F S : eFs} {c n : Int} {h : eHs} {g rc g1 rc1 : Int → Int} {T : eFs} {Mt : Int → Int → Int} {M : eFs} (s : SIM N z ln F S c n h g rc T Mt M) (hg : okG g1) (hr : ∀ j, 0 ≤ rc1 j ∧ rc1 j ≤ 9) : SIM N z ln F S c n h g1 rc1 T Mt M := by
  obtain ⟨s1, s2, s3, s4, s5, s6, s7, s8, s9, s11⟩ := s
  exact ⟨s1, s2, s3, s4, s5, ⟨hg, hr⟩, s7, s8, s9, s11⟩
/-- the history grows alike on both sides -/
theorem sHis_go {N c n : Int} {h : eHs} {F : eFs} {x y : Int → Int} (hc : 0 ≤ c ∧ c ≤ 8) (hn : 0 ≤ n ∧ n ≤ 7) (h0 : fOk N F x) (hh : sHis N c n h x) (hy : ∀ i j, 1 ≤ i → i ≤ mEnc c → 0 ≤ j → j < 250 → y (250 * i + j) = (if i = mEnc c then x j else if c = 8 then x (250 * (i + 1) + j) else x (250 * i + j))) : sHis N (mEnc c) (if n + 1 < 8 then n + 1 else 0) (hU h n.toNat F) y := by
  intro i i0 i1
  have c1 : mEnc c = if 8 < c + 1 then 8 else c + 1 := by unfold mEnc; split <;> split <;> omega
  have cr : 1 ≤ mEnc c ∧ mEnc c ≤ 8 := by rw [c1]; split <;> omega
  by_cases e : i = mEnc c
  · have ix : hIx (mEnc c) (if n + 1 < 8 then n + 1 else 0) i = n.toNat := by unfold hIx; rw [e]; split <;> omega
    rw [ix]
    have eh : (hU h n.toNat F n.toNat).1 = F := by unfold hU; rw [if_pos rfl]
    rw [eh]
    refine fOk_c h0 (fun j j0 j1 => ?_)
    show y (250 * i + j) = x j
    rw [hy i j i0 i1 j0 j1, if_pos e]
  · by_cases e8 : c = 8
    · have m8 : mEnc c = 8 := by rw [c1]; split <;> omega
      have ix : hIx (mEnc c) (if n + 1 < 8 then n + 1 else 0) i = hIx c n (i + 1) := by unfold hIx; rw [m8, e8]; split <;> omega
      have ne : ¬ hIx c n (i + 1) = n.toNat := by unfold hIx; omega
      rw [ix]
      have eh : (hU h n.toNat F (hIx c n (i + 1))).1 = (h (hIx c n (i + 1))).1 := by unfold hU; rw [if_neg ne]
      rw [eh]
      refine fOk_c (hh (i + 1) (by omega) (by omega)) (fun j j0 j1 => ?_)
      show y (250 * i + j) = x (250 * (i + 1) + j)
      rw [hy i j i0 i1 j0 j1, if_neg e, if_pos e8]
    · have m9 : mEnc c = c + 1 := by rw [c1]; split <;> omega
      have ix : hIx (mEnc c) (if n + 1 < 8 then n + 1 else 0) i = hIx c n i := by unfold hIx; rw [m9]; split <;> omega
      have ne : ¬ hIx c n i = n.toNat := by unfold hIx; omega
      rw [ix]
      have eh : (hU h n.toNat F (hIx c n i)).1 = (h (hIx c n i)).1 := by unfold hU; rw [if_neg ne]
      rw [eh]
      refine fOk_c (hh i i0 (by omega)) (fun j j0 j1 => ?_)
      show y (250 * i + j) = x (250 * i + j)
      rw [hy i j i0 i1 j0 j1, if_neg e, if_neg e8]
theorem mEnc_if {c : Int} (h : 0 ≤ c ∧ c ≤ 8) : mEnc c = if 8 < c + 1 then 8 else c + 1 := by unfold mEnc; split <;> split <;> omega
theorem fOk_do {N : Int} {F : eFs} {x y : Int → Int} {k p q r : Int} (hk : 0 ≤ k ∧ k ≤ 8) (h : fOk N F x) (hN : N + 240 ≤ 100000000) (e : sHin F k p q r = 0) (hy : mR (sDo F k p q r) y) : fOk (N + 240) (sDo F k p q r) y := ⟨okF_doR hk h.1 h.2.2.2 hN e, (okC_do hk h.1 h.2.1 e).1, okA_do hk h.1 h.2.2.1 e, hy⟩
theorem zHi_0 {z : Nat → Int} {F : eFs} {k p q r : Int} (e : sHin F k p q r = 0) : zHi z F k p q r = z := by
  unfold zHi
  rw [if_neg (by omega)]
theorem zRf_at {z : Nat → Int} {F : eFs} {m x y : Int} : (zRf z F m x y 0 = z 0 ∧ zRf z F m x y 1 = z 1 ∧ zRf z F m x y 4 = z 4 ∧ zRf z F m x y 5 = z 5) ∧ (zRf z F m x y 2 = if sCov (F.2 4) x y then 1 else 2) ∧ (zRf z F m x y 3 = if sCov (F.2 4) x y then F.1 9 else sTo F m x y) := ⟨⟨rfl, rfl, rfl, rfl⟩, rfl, rfl⟩
theorem zHi_at {z : Nat → Int} {F : eFs} {k p q r : Int} : (zHi z F k p q r 0 = z 0 ∧ zHi z F k p q r 1 = z 1 ∧ zHi z F k p q r 4 = z 4 ∧ zHi z F k p q r 5 = z 5) := by
  unfold zHi zRk
  (repeat' split) <;> exact ⟨rfl, rfl, rfl, rfl⟩
theorem zHi_ok {N : Int} {z : Nat → Int} {F : eFs} {k p q r : Int} (hF : okF N F) (h : okZ z) : okZ (zHi z F k p q r) := by
  obtain ⟨hc, hld, hled, htn, hgo, hkp, hst, hwt, hcl, -⟩ := hF
  have w := zHi_at (z := z) (F := F) (k := k) (p := p) (q := q) (r := r)
  have v : (-1 ≤ zHi z F k p q r 2 ∧ zHi z F k p q r 2 ≤ 2) ∧ (-1 ≤ zHi z F k p q r 3 ∧ zHi z F k p q r 3 ≤ 10) := by
    unfold zHi zRk
    (repeat' split)
    · have t := sTo_in (F := F) (m := p) (x := q) (y := r)
      have u := zRf_at (z := z) (F := F) (m := p) (x := q) (y := r)
      rw [u.2.1, u.2.2]
      split <;> omega
    · have t := sTo_in (F := F) (m := -1) (x := p) (y := q)
      have u := zRf_at (z := z) (F := F) (m := -1) (x := p) (y := q)
      rw [u.2.1, u.2.2]
      split <;> omega
    · exact ⟨h.2.2.1, h.2.2.2.1⟩
  show (-1 ≤ zHi z F k p q r 0 ∧ zHi z F k p q r 0 ≤ 60) ∧ (-1 ≤ zHi z F k p q r 1 ∧ zHi z F k p q r 1 ≤ 10) ∧ (-1 ≤ zHi z F k p q r 2 ∧ zHi z F k p q r 2 ≤ 2) ∧ (-1 ≤ zHi z F k p q r 3 ∧ zHi z F k p q r 3 ≤ 10) ∧ (zHi z F k p q r 4 = 0 ∨ zHi z F k p q r 4 = 12)
  rw [w.1, w.2.1, w.2.2.1]
  exact ⟨h.1, h.2.1, v.1, v.2, h.2.2.2.2⟩
theorem mWh_4 {z : Nat → Int} {M : eFs} (h : mWh z M) (hz : okZ z) : 0 ≤ M.1 4 ∧ M.1 4 ≤ 2 := by
  have := hz.2.2.1
  rcases h with ⟨h1, h2⟩ | ⟨h1, h2, h3⟩ <;> omega
/-- a change on both sides -/
theorem SIM_chg {N : Int} {z : Nat → Int} {ln : Int → Int} {F S : eFs} {c n : Int} {h : eHs} {g rc : Int → Int} {T : eFs} {Mt : Int → Int → Int} {M M' : eFs} {k p q r t : Int} (hk : 0 ≤ k ∧ k ≤ 8) (s : SIM N z ln F S c n h g rc T Mt M) (hN : N + 240 ≤ 90000000) (m : mPo M M' F k p q r t) :
    (sHin F k p q r = 0 → SIM (N + 240) z ln (sDo F k p q r) S (if 8 < c + 1 then 8 else c + 1) (if n + 1 < 8 then n + 1 else 0) (hU h n.toNat F) g rc T Mt M') ∧ (¬ sHin F k p q r = 0 → SIM (N + 240) (zHi z F k p q r) ln F S c n h g rc T Mt M') := by
  have s0 := s
  obtain ⟨s1, s2, s3, ⟨n1, n2, n3, n4, n5, n6, n7, n8, n9, n10⟩, ⟨l1, l2, l3⟩, s6, s7, s8, ⟨s9, s10⟩, s11⟩ := s
  obtain ⟨m0, ⟨m2, m3, m4⟩, mj, mw, ms, my, mn⟩ := m
  have w := fun j h0 h1 h3 h4 h5 => mj j h0 h1 h3 h4 h5
  have wh := mw z s9
  have zo := zHi_ok (k := k) (p := p) (q := q) (r := r) s1.1 s8
  have za := zHi_at (z := z) (F := F) (k := k) (p := p) (q := q) (r := r)
  refine ⟨fun e => ?_, fun e => ?_⟩
  · obtain ⟨y1, y2, y3⟩ := my e
    rw [zHi_0 e] at wh
    refine ⟨fOk_do hk s1 (by omega) e y2, fun v => fOk_c (fOk_up (s2 v) (by omega) (by omega)) (fun j j0 j1 => ms _ (by omega) (by omega)), ?_, ⟨?_, ?_, ?_, ?_, n5, ?_, ?_, ?_, ?_, ?_⟩, ⟨l1, ?_, ?_⟩, s6, s7, s8, ⟨wh, mWh_4 wh s8⟩, by omega⟩
    · rw [← mEnc_if n1]
      refine sHis_go n1 n2 (fOk_up s1 (by omega) (by omega)) (fun i i0 i1 => fOk_up (s3 i i0 i1) (by omega) (by omega)) (fun i j i0 i1 j0 j1 => ?_)
      rw [n3] at i1 ⊢
      exact y3 i j i0 i1 j0 j1
    · split <;> omega
    · split <;> omega
    · rw [y1, ← n3, mEnc_if n1]
    · rw [w 2 (by decide) (by decide) (by decide) (by decide) (by decide)]; exact n4
    · rw [w 6 (by decide) (by decide) (by decide) (by decide) (by decide)]; exact n6
    · rw [m2]; exact n7
    · rw [w 9 (by decide) (by decide) (by decide) (by decide) (by decide)]; exact n8
    · rw [w 10 (by decide) (by decide) (by decide) (by decide) (by decide)]; exact n9
    · rw [w 12 (by decide) (by decide) (by decide) (by decide) (by decide)]; exact n10
    · rw [m4]; exact l2
    · rw [m4]; exact l3
  · obtain ⟨y1, y2⟩ := mn e
    refine ⟨fOk_c (fOk_up s1 (by omega) (by omega)) (fun j j0 j1 => y2 j j0 (by omega)), fun v => fOk_c (fOk_up (s2 (by rw [← za.2.2.2]; exact v)) (by omega) (by omega)) (fun j j0 j1 => y2 _ (by omega) (by omega)), fun i i0 i1 => fOk_c (fOk_up (s3 i i0 i1) (by omega) (by omega)) (fun j j0 j1 => y2 _ (by omega) (by omega)), ⟨n1, n2, ?_, ?_, ?_, ?_, ?_, ?_, ?_, ?_⟩, ⟨l1, ?_, ?_⟩, s6, s7, zo, ⟨wh, mWh_4 wh zo⟩, by omega⟩
    · rw [y1]; exact n3
    · rw [za.2.2.2, w 2 (by decide) (by decide) (by decide) (by decide) (by decide)]; exact n4
    · rw [za.2.2.2]; exact n5
    · rw [w 6 (by decide) (by decide) (by decide) (by decide) (by decide)]; exact n6
    · rw [m2]; exact n7
    · rw [za.1, w 9 (by decide) (by decide) (by decide) (by decide) (by decide)]; exact n8
    · rw [za.2.1, w 10 (by decide) (by decide) (by decide) (by decide) (by decide)]; exact n9
    · rw [za.2.2.1, w 12 (by decide) (by decide) (by decide) (by decide) (by decide)]; exact n10
    · rw [m4]; exact l2
    · rw [za.2.2.1, m4]; exact l3
/-- undo -/
theorem SIM_undo {N : Int} {z : Nat → Int} {ln : Int → Int} {F S : eFs} {c n : Int} {h : eHs} {g rc : Int → Int} {T : eFs} {Mt : Int → Int → Int} {M : eFs} (s : SIM N z ln F S c n h g rc T Mt M) : (1 ≤ c → SIM N z ln (h (if 0 < n then n - 1 else 7).toNat).1 S (c - 1) (if 0 < n then n - 1 else 7) h g rc T Mt (mUn M)) ∧ (¬ 1 ≤ c → SIM N z ln F S c n h g rc T Mt (mUn M)) := by
  have s0 := s
  obtain ⟨s1, s2, s3, ⟨n1, n2, n3, n4, n5, n6, n7, n8, n9, n10⟩, s5, s6, s7, s8, ⟨s9, s10⟩, s11⟩ := s
  refine ⟨fun e => ?_, fun e => ?_⟩
  · have eU : mUn M = sR (sS (sS M 0 0) 1 (M.1 1 - 1)) 0 (eCy (M.2 0) (M.2 0) (250 * M.1 1) (250 * 0) 250) := if_pos (by omega)
    rw [eU]
    have ix : hIx c n c = (if 0 < n then n - 1 else 7).toNat := by unfold hIx; split <;> omega
    have lo : ∀ j, 0 ≤ j → j < 250 → eCy (M.2 0) (M.2 0) (250 * M.1 1) (250 * 0) 250 j = M.2 0 (250 * c + j) := fun j j0 j1 => by
      rw [cyI (by omega), n3]
      exact congrArg (M.2 0) (by omega)
    have hi : ∀ j, 250 ≤ j → eCy (M.2 0) (M.2 0) (250 * M.1 1) (250 * 0) 250 j = M.2 0 j := fun j j0 => cyO (by omega)
    refine ⟨?_, fun v => fOk_c (s2 v) (fun j j0 j1 => hi _ (by omega)), fun i i0 i1 => ?_, ⟨by omega, by split <;> omega, by show c - 1 = M.1 1 - 1; omega, n4, n5, n6, n7, n8, n9, n10⟩, s5, s6, s7, s8, ⟨s9, s10⟩, s11⟩
    · have := s3 c e (Int.le_refl _)
      rw [ix] at this
      exact fOk_c this (fun j j0 j1 => lo j j0 j1)
    · have i2 : hIx (c - 1) (if 0 < n then n - 1 else 7) i = hIx c n i := by unfold hIx; split <;> omega
      rw [i2]
      exact fOk_c (s3 i i0 (by omega)) (fun j j0 j1 => hi _ (by omega))
  · have eU : mUn M = sS M 0 1 := if_neg (by omega)
    rw [eU]
    exact SIM_eq s0 mEq_0
/-- save -/
theorem SIM_save {N : Int} {z : Nat → Int} {ln : Int → Int} {F S : eFs} {c n : Int} {h : eHs} {g rc : Int → Int} {T : eFs} {Mt : Int → Int → Int} {M : eFs} (s : SIM N z ln F S c n h g rc T Mt M) : SIM N (zS z 5 1) ln F F c n h g rc T Mt (sR (sS (sS M 0 0) 2 1) 0 (eCy (M.2 0) (M.2 0) (250 * 0) (250 * 9) 250)) := by
  obtain ⟨s1, s2, s3, ⟨n1, n2, n3, n4, n5, n6, n7, n8, n9, n10⟩, s5, s6, s7, s8, ⟨s9, s10⟩, s11⟩ := s
  have lo : ∀ j, j < 2250 → eCy (M.2 0) (M.2 0) (250 * 0) (250 * 9) 250 j = M.2 0 j := fun j j0 => cyO (by omega)
  refine ⟨fOk_c s1 (fun j j0 j1 => lo j (by omega)), fun _ => fOk_c s1 (fun j j0 j1 => ?_), fun i i0 i1 => fOk_c (s3 i i0 i1) (fun j j0 j1 => lo _ (by omega)), ⟨n1, n2, n3, rfl, Or.inr rfl, n6, n7, n8, n9, n10⟩, s5, s6, s7, s8, ⟨s9, s10⟩, s11⟩
  show eCy (M.2 0) (M.2 0) (250 * 0) (250 * 9) 250 (250 * 9 + j) = M.2 0 j
  rw [cyI (by omega)]
  exact congrArg (M.2 0) (by omega)
/-- restore -/
theorem SIM_rest {N : Int} {z : Nat → Int} {ln : Int → Int} {F S : eFs} {c n : Int} {h : eHs} {g rc : Int → Int} {T : eFs} {Mt : Int → Int → Int} {M : eFs} (s : SIM N z ln F S c n h g rc T Mt M) : (z 5 = 1 → SIM N z ln S S 0 0 h g rc T Mt (mRe M) ∧ M.2 0 2250 = S.1 0) ∧ (¬ z 5 = 1 → SIM N z ln F S c n h g rc T Mt (mRe M)) := by
  have s0 := s
  obtain ⟨s1, s2, s3, ⟨n1, n2, n3, n4, n5, n6, n7, n8, n9, n10⟩, s5, s6, s7, s8, ⟨s9, s10⟩, s11⟩ := s
  refine ⟨fun e => ?_, fun e => ?_⟩
  · have eU : mRe M = sR (sS (sS M 0 0) 1 0) 0 (eCy (M.2 0) (M.2 0) (250 * 9) (250 * 0) 250) := if_pos (by omega)
    have hi : ∀ j, 250 ≤ j → eCy (M.2 0) (M.2 0) (250 * 9) (250 * 0) 250 j = M.2 0 j := fun j j0 => cyO (by omega)
    have q := s2 e
    refine ⟨?_, q.2.2.2.1.1⟩
    rw [eU]
    refine ⟨fOk_c q (fun j j0 j1 => ?_), fun _ => fOk_c q (fun j j0 j1 => hi _ (by omega)), fun i i0 i1 => by omega, ⟨by omega, by omega, rfl, n4, n5, n6, n7, n8, n9, n10⟩, s5, s6, s7, s8, ⟨s9, s10⟩, s11⟩
    show eCy (M.2 0) (M.2 0) (250 * 9) (250 * 0) 250 j = M.2 0 (250 * 9 + j)
    rw [cyI (by omega)]
    exact congrArg (M.2 0) (by omega)
  · have eU : mRe M = sS M 0 1 := if_neg (by omega)
    rw [eU]
    exact SIM_eq s0 mEq_0
/-- a line told -/
theorem sSgn_i2 {N : Int} {F : eFs} (hF : okF N F) (x y : Int) : 35 ≤ sSgn F x y ∧ sSgn F x y ≤ 57 := by
  have hc := hF.1
  have a := sAt_in (F := F) (x := x) (y := y)
  unfold sSgn
  (repeat' split) <;> omega
theorem SIM_desc {N : Int} {z : Nat → Int} {ln : Int → Int} {F S : eFs} {c n : Int} {h : eHs} {g rc : Int → Int} {T : eFs} {Mt : Int → Int → Int} {M : eFs} {y : Int} (s : SIM N z ln F S c n h g rc T Mt M) : (0 ≤ y ∧ y ≤ 11 → SIM N (zS z 4 12) (fun x => sSgn F x y) F S c n h g rc T Mt (mDsc M F y)) ∧ (¬ (0 ≤ y ∧ y ≤ 11) → SIM N z ln F S c n h g rc T Mt (mDsc M F y)) := by
  have s0 := s
  obtain ⟨s1, s2, s3, ⟨n1, n2, n3, n4, n5, n6, n7, n8, n9, n10⟩, ⟨l1, l2, l3⟩, s6, s7, ⟨z1, z2, z3, z4, z5⟩, ⟨s9, s10⟩, s11⟩ := s
  refine ⟨fun e => ?_, fun e => ?_⟩
  · have eU : mDsc M F y = sR (sS (sS M 0 0) 12 12) 4 (mLn M F y 12) := if_pos e
    rw [eU]
    refine ⟨s1, s2, s3, ⟨n1, n2, n3, n4, n5, n6, n7, n8, n9, rfl⟩, ⟨fun j => ?_, fun j => ?_, fun _ j j0 j1 => ?_⟩, s6, s7, ⟨z1, z2, z3, z4, Or.inr rfl⟩, ⟨s9, s10⟩, s11⟩
    · have := sSgn_i2 s1.1 j y
      show 0 ≤ sSgn F j y ∧ sSgn F j y ≤ 65535
      exact ⟨by omega, by omega⟩
    · have := sSgn_i2 s1.1 j y
      have b := l2 j
      show 0 ≤ mLn M F y 12 j ∧ mLn M F y 12 j ≤ 126
      unfold mLn
      split <;> omega
    · exact (if_pos ⟨j0, j1⟩).symm
  · have eU : mDsc M F y = sS M 0 1 := if_neg e
    rw [eU]
    exact SIM_eq s0 mEq_0
/-- a sign typed -/
theorem SIM_app {N : Int} {z : Nat → Int} {ln : Int → Int} {F S : eFs} {c n : Int} {h : eHs} {g rc : Int → Int} {T : eFs} {Mt : Int → Int → Int} {M : eFs} {cc : Int} (s : SIM N z ln F S c n h g rc T Mt M) : ((32 ≤ cc ∧ cc ≤ 126) ∧ T.1 0 < 60 → SIM N z ln F S c n h g rc (sS (sA T 0 (T.1 0) cc) 0 (T.1 0 + 1)) Mt (mApp M cc)) ∧ (¬ ((32 ≤ cc ∧ cc ≤ 126) ∧ T.1 0 < 60) → SIM N z ln F S c n h g rc T Mt (mApp M cc)) := by
  have s0 := s
  obtain ⟨s1, s2, s3, ⟨n1, n2, n3, n4, n5, n6, n7, n8, n9, n10⟩, ⟨l1, l2, l3⟩, s6, ⟨t1, t2, t3, t4, t5, t6⟩, s8, ⟨s9, s10⟩, s11⟩ := s
  refine ⟨fun e => ?_, fun e => ?_⟩
  · have eM : mApp M cc = sS (sR (sS M 0 0) 2 (eU (M.2 2) (M.1 6) cc)) 6 (M.1 6 + 1) := by
      unfold mApp
      rw [if_pos e.1, if_neg (by omega)]
    rw [eM]
    refine ⟨s1, s2, s3, ⟨n1, n2, n3, n4, n5, ?_, ?_, n8, n9, n10⟩, ⟨l1, l2, l3⟩, s6, ⟨?_, t2, t3, fun j => ?_, t5, t6⟩, s8, ⟨s9, s10⟩, s11⟩
    · show T.1 0 + 1 = M.1 6 + 1
      omega
    · show eU (T.2 0) (T.1 0) cc = eU (M.2 2) (M.1 6) cc
      rw [n6, n7]
    · show 0 ≤ T.1 0 + 1 ∧ T.1 0 + 1 ≤ 60
      omega
    · exact eU_b t4 (by omega) j
  · have eM : mEq M (mApp M cc) := by
      unfold mApp
      by_cases q : 32 ≤ cc ∧ cc ≤ 126
      · rw [if_pos q, if_pos (by omega)]; exact mEq_0
      · rw [if_neg q]; exact mEq_0
    exact SIM_eq s0 eM
/-- a run -/
theorem sRn_P : ∀ (K : Int → Int) (Mc : Int → Int → Int) (m : Nat) (i : Int) (G : eFs) (P Q : Int → Int), (sRn K Mc m i G P).1 = (sRn K Mc m i G Q).1 ∧ (sRn K Mc m i G P).2.1 = (sRn K Mc m i G Q).2.1 := by
  intro K Mc m
  induction m with
  | zero => intro i G P Q; exact ⟨rfl, rfl⟩
  | succ m ih =>
    intro i G P Q
    unfold sRn
    by_cases e : sHin G (K i) (Mc i 0) (Mc i 1) (Mc i 2) = 0
    · rw [if_pos e, if_pos e]; exact ih _ _ _ _
    · rw [if_neg e, if_neg e]; exact ⟨rfl, rfl⟩
theorem sRn_ok {K : Int → Int} {Mc : Int → Int → Int} (yK : ∀ j, 0 ≤ K j ∧ K j ≤ 8) : ∀ (m : Nat) (i : Int) (G : eFs) (P : Int → Int) (N : Int), 0 ≤ i → okF N G → okC G → okA G → N + 240 * m ≤ 100000000 → (sRn K Mc m i G P).1 < i + m ∧ (-1 ≤ (sRn K Mc m i G P).1) ∧ okF (N + 240 * m) (sRn K Mc m i G P).2.1 ∧ okC (sRn K Mc m i G P).2.1 ∧ okA (sRn K Mc m i G P).2.1 := by
  intro m
  induction m with
  | zero =>
    intro i G P N i0 h1 h2 h3 h5
    exact ⟨by show (-1 : Int) < i + ((0 : Nat) : Int); omega, by show (-1 : Int) ≤ -1; omega, by show okF (N + 240 * ((0 : Nat) : Int)) G; rw [show N + 240 * ((0 : Nat) : Int) = N by omega]; exact h1, h2, h3⟩
  | succ m ih =>
    intro i G P N i0 h1 h2 h3 h5
    have hN : 0 ≤ N := h1.2.2.2.2.2.2.2.2.2.2.2.1.1
    unfold sRn
    by_cases e : sHin G (K i) (Mc i 0) (Mc i 1) (Mc i 2) = 0
    · rw [if_pos e]
      have o := okF_do (yK i) h1 (by omega) e (okC_do (yK i) h1 h2 e).2
      have c2 := (okC_do (yK i) h1 h2 e).1
      have a2 := okA_do (yK i) h1 h3 e
      have r := ih (i + 1) _ (sDoP G (K i) (Mc i 0) P) (N + 240) (by omega) o c2 a2 (by omega)
      refine ⟨by omega, r.2.1, ?_, r.2.2.2⟩
      rw [show N + 240 * ((m + 1 : Nat) : Int) = N + 240 + 240 * (m : Int) by omega]
      exact r.2.2.1
    · rw [if_neg e]
      exact ⟨by show i < i + ((m + 1 : Nat) : Int); omega, by show -1 ≤ i; omega, okF_mono (by omega) h1, h2, h3⟩
theorem SIM_run {N : Int} {z : Nat → Int} {ln : Int → Int} {F S : eFs} {DQ : Int → Int} {c n : Int} {h : eHs} {g rc : Int → Int} {T : eFs} {Mt : Int → Int → Int} {M M' : eFs} (s : SIM N z ln F S c n h g rc T Mt M) (hN : N + 2400 ≤ 90000000) (m : mRu M M' F (T.2 1) Mt) :
    (M'.1 0 = if (tPR T Mt).1 = -1 then (if (sRn (tPR T Mt).2.2.2.1 (tPR T Mt).2.2.2.2 ((tPR T Mt).2.1 - 0).toNat 0 F DQ).1 = -1 then 0 else 2) else 1) ∧
    ((tPR T Mt).1 = -1 → (sRn (tPR T Mt).2.2.2.1 (tPR T Mt).2.2.2.2 ((tPR T Mt).2.1 - 0).toNat 0 F DQ).1 = -1 → SIM (N + 2400) z ln (sRn (tPR T Mt).2.2.2.1 (tPR T Mt).2.2.2.2 ((tPR T Mt).2.1 - 0).toNat 0 F DQ).2.1 S (if 8 < c + 1 then 8 else c + 1) (if n + 1 < 8 then n + 1 else 0) (hU h n.toNat F) g rc (tRun T Mt) (tPR T Mt).2.2.2.2 M') ∧
    ((tPR T Mt).1 = -1 → ¬ (sRn (tPR T Mt).2.2.2.1 (tPR T Mt).2.2.2.2 ((tPR T Mt).2.1 - 0).toNat 0 F DQ).1 = -1 → SIM (N + 2400) (zS (zHi z (sRn (tPR T Mt).2.2.2.1 (tPR T Mt).2.2.2.2 ((tPR T Mt).2.1 - 0).toNat 0 F DQ).2.1 ((tPR T Mt).2.2.2.1 (sRn (tPR T Mt).2.2.2.1 (tPR T Mt).2.2.2.2 ((tPR T Mt).2.1 - 0).toNat 0 F DQ).1) ((tPR T Mt).2.2.2.2 (sRn (tPR T Mt).2.2.2.1 (tPR T Mt).2.2.2.2 ((tPR T Mt).2.1 - 0).toNat 0 F DQ).1 0) ((tPR T Mt).2.2.2.2 (sRn (tPR T Mt).2.2.2.1 (tPR T Mt).2.2.2.2 ((tPR T Mt).2.1 - 0).toNat 0 F DQ).1 1) ((tPR T Mt).2.2.2.2 (sRn (tPR T Mt).2.2.2.1 (tPR T Mt).2.2.2.2 ((tPR T Mt).2.1 - 0).toNat 0 F DQ).1 2)) 1 (sRn (tPR T Mt).2.2.2.1 (tPR T Mt).2.2.2.2 ((tPR T Mt).2.1 - 0).toNat 0 F DQ).1) ln F S c n h g rc (tRun T Mt) (tPR T Mt).2.2.2.2 M') ∧
    (¬ (tPR T Mt).1 = -1 → SIM (N + 2400) (zS z 0 (tPR T Mt).1) ln F S c n h g rc (tRun T Mt) (tPR T Mt).2.2.2.2 M') := by
  obtain ⟨s1, s2, s3, ⟨n1, n2, n3, n4, n5, n6, n7, n8, n9, n10⟩, ⟨l1, l2, l3⟩, s6, s7, s8, ⟨s9, s10⟩, s11⟩ := s
  have eP : mPR M (T.2 1) Mt = tPR T Mt := (mPR_t n6 n7).symm
  have yR := tPR_in s7
  have eS := sRn_P (tPR T Mt).2.2.2.1 (tPR T Mt).2.2.2.2 ((tPR T Mt).2.1 - 0).toNat 0 F DQ P0
  have oS := sRn_ok (Mc := (tPR T Mt).2.2.2.2) yR.2.2.2.1 ((tPR T Mt).2.1 - 0).toNat 0 F DQ N (by omega) s1.1 s1.2.1 s1.2.2.1 (by omega)
  have e1 : (mRN M F (T.2 1) Mt).1 = (sRn (tPR T Mt).2.2.2.1 (tPR T Mt).2.2.2.2 ((tPR T Mt).2.1 - 0).toNat 0 F DQ).1 := by unfold mRN; rw [eP]; exact eS.1.symm
  have e2 : (mRN M F (T.2 1) Mt).2.1 = (sRn (tPR T Mt).2.2.2.1 (tPR T Mt).2.2.2.2 ((tPR T Mt).2.1 - 0).toNat 0 F DQ).2.1 := by unfold mRN; rw [eP]; exact eS.2.symm
  have oT := okT_run s7
  have okS : okF (N + 2400) (sRn (tPR T Mt).2.2.2.1 (tPR T Mt).2.2.2.2 ((tPR T Mt).2.1 - 0).toNat 0 F DQ).2.1 := okF_mono (by omega) oS.2.2.1
  unfold mRu mRT at m
  rw [e1, e2, eP] at m
  generalize hX : sRn (tPR T Mt).2.2.2.1 (tPR T Mt).2.2.2.2 ((tPR T Mt).2.1 - 0).toNat 0 F DQ = X at *
  obtain ⟨m0, m6, m9, m10, m12, m2, r2, r4, mw, ms, my, mn⟩ := m
  have wh := mw z s9
  refine ⟨m0, fun a1 a2 => ?_, fun a1 a2 => ?_, fun a1 => ?_⟩
  · rw [if_pos a1, if_pos a2] at my wh m10
    rw [if_pos a1] at m9
    obtain ⟨y1, y2, y3⟩ := my rfl
    refine ⟨⟨okS, oS.2.2.2.1, oS.2.2.2.2, y2⟩, fun v => fOk_c (fOk_up (s2 v) (by omega) (by omega)) (fun j j0 j1 => ms _ (by omega) (by omega)), ?_, ⟨?_, ?_, ?_, ?_, n5, ?_, ?_, ?_, ?_, ?_⟩, ⟨l1, ?_, ?_⟩, s6, oT, s8, ⟨wh, mWh_4 wh s8⟩, by omega⟩
    · rw [← mEnc_if n1]
      refine sHis_go n1 n2 (fOk_up s1 (by omega) (by omega)) (fun i i0 i1 => fOk_up (s3 i i0 i1) (by omega) (by omega)) (fun i j i0 i1 j0 j1 => ?_)
      rw [n3] at i1 ⊢
      exact y3 i j i0 i1 j0 j1
    · split <;> omega
    · split <;> omega
    · rw [y1, ← n3, mEnc_if n1]
    · rw [m2]; exact n4
    · rw [m6]; rfl
    · rw [r2]; exact n7
    · rw [m9]; exact n8
    · rw [m10]; exact n9
    · rw [m12]; exact n10
    · rw [r4]; exact l2
    · rw [r4]; exact l3
  · rw [if_pos a1, if_neg a2] at mn wh m10
    rw [if_pos a1] at m9
    obtain ⟨y1, y2⟩ := mn (by decide)
    have za := zHi_at (z := z) (F := X.2.1) (k := (tPR T Mt).2.2.2.1 X.1) (p := (tPR T Mt).2.2.2.2 X.1 0) (q := (tPR T Mt).2.2.2.2 X.1 1) (r := (tPR T Mt).2.2.2.2 X.1 2)
    have zo := zHi_ok (k := (tPR T Mt).2.2.2.1 X.1) (p := (tPR T Mt).2.2.2.2 X.1 0) (q := (tPR T Mt).2.2.2.2 X.1 1) (r := (tPR T Mt).2.2.2.2 X.1 2) okS s8
    generalize hZ : zHi z X.2.1 ((tPR T Mt).2.2.2.1 X.1) ((tPR T Mt).2.2.2.2 X.1 0) ((tPR T Mt).2.2.2.2 X.1 1) ((tPR T Mt).2.2.2.2 X.1 2) = z' at *
    have w4 := mWh_4 wh zo
    refine ⟨fOk_c (fOk_up s1 (by omega) (by omega)) (fun j j0 j1 => y2 j j0 (by omega)), fun v => fOk_c (fOk_up (s2 (by rw [← za.2.2.2]; exact v)) (by omega) (by omega)) (fun j j0 j1 => y2 _ (by omega) (by omega)), fun i i0 i1 => fOk_c (fOk_up (s3 i i0 i1) (by omega) (by omega)) (fun j j0 j1 => y2 _ (by omega) (by omega)), ⟨n1, n2, ?_, ?_, ?_, ?_, ?_, ?_, ?_, ?_⟩, ⟨l1, ?_, ?_⟩, s6, oT, ⟨zo.1, (show -1 ≤ X.1 ∧ X.1 ≤ 10 by omega), zo.2.2⟩, ⟨wh, w4⟩, by omega⟩
    · rw [y1]; exact n3
    · show z' 5 = _
      rw [za.2.2.2, m2]; exact n4
    · show z' 5 = 0 ∨ z' 5 = 1
      rw [za.2.2.2]; exact n5
    · rw [m6]; rfl
    · rw [r2]; exact n7
    · show z' 0 = _
      rw [za.1, m9]; exact n8
    · rw [m10]; rfl
    · show z' 4 = _
      rw [za.2.2.1, m12]; exact n10
    · rw [r4]; exact l2
    · show z' 4 = 12 → _
      rw [za.2.2.1, r4]; exact l3
  · rw [if_neg a1] at mn wh m10 m9
    obtain ⟨y1, y2⟩ := mn (by decide)
    refine ⟨fOk_c (fOk_up s1 (by omega) (by omega)) (fun j j0 j1 => y2 j j0 (by omega)), fun v => fOk_c (fOk_up (s2 v) (by omega) (by omega)) (fun j j0 j1 => y2 _ (by omega) (by omega)), fun i i0 i1 => fOk_c (fOk_up (s3 i i0 i1) (by omega) (by omega)) (fun j j0 j1 => y2 _ (by omega) (by omega)), ⟨n1, n2, ?_, ?_, ?_, ?_, ?_, ?_, ?_, ?_⟩, ⟨l1, ?_, ?_⟩, s6, oT, ⟨yR.1, s8.2⟩, ⟨wh, mWh_4 wh s8⟩, by omega⟩
    · rw [y1]; exact n3
    · rw [m2]; exact n4
    · exact n5
    · rw [m6]; rfl
    · rw [r2]; exact n7
    · rw [m9]; rfl
    · rw [m10]; exact n9
    · rw [m12]; exact n10
    · rw [r4]; exact l2
    · rw [r4]; exact l3
/-- at the start -/
theorem SIM_0 : SIM 0 zz0 (fun _ => 0) sF0 sF0 0 0 hs0 (fun _ => 0) (fun _ => 0) tT0 (fun _ _ => 0) mm0 := by
  have o : okF 0 sF0 := by
    unfold okF
    refine ⟨by decide, by decide, ⟨by decide, by decide, fun _ => rfl⟩, by decide, ⟨by decide, by decide, by decide, by decide, by decide, fun _ => rfl⟩, by decide, by decide, by decide, by decide, by decide, ⟨by decide, by decide, fun _ => rfl⟩, by decide, ?_, ?_, ?_, ?_, ?_, ?_⟩ <;> first | (intro j; show (0 : Int) ≤ 0 ∧ (0 : Int) ≤ _; decide) | (intro j; show (0 : Int) ≤ 0 ∧ (0 : Int) < _; decide)
  have cn : okC sF0 := by
    show sCnt sF0 = 0
    unfold sCnt
    refine eSB_zero (fun y _ _ => eSB_zero (fun x _ _ => eI1_f (fun q => sBit_0 q)))
  have r : mR sF0 (mm0.2 0) := by
    refine ⟨⟨by decide, by decide, by decide, by decide, by decide, by decide, by decide, by decide, by decide, by decide⟩, fun b b0 b1 => absurd b1 (by show ¬ b < 0; omega), ⟨fun u v _ => ⟨fun q => absurd q sBit_0, fun ⟨k, k0, k1, _⟩ => absurd k1 (by show ¬ k < 0; omega)⟩, fun k k0 k1 => absurd k1 (by show ¬ k < 0; omega), fun k j k0 k1 j1 => absurd j1 (by show ¬ j < 0; omega)⟩, fun k k0 k1 => absurd k1 (by show ¬ k < 0; omega)⟩
  refine ⟨⟨o, cn, okA_0, r⟩, fun v => absurd v (by decide), fun i i0 i1 => by omega, ⟨by omega, by omega, rfl, rfl, Or.inl rfl, rfl, rfl, rfl, rfl, rfl⟩, ⟨fun j => by show (0 : Int) ≤ 0 ∧ (0 : Int) ≤ 65535; decide, fun j => by show (0 : Int) ≤ 0 ∧ (0 : Int) ≤ 126; decide, fun v => absurd v (by decide)⟩, ⟨fun j => by show (-1 : Int) ≤ 0 ∧ (0 : Int) ≤ 9; decide, fun j => by show (0 : Int) ≤ 0 ∧ (0 : Int) ≤ 9; decide⟩, ⟨by decide, by decide, by decide, fun j => by show (0 : Int) ≤ 0 ∧ (0 : Int) ≤ 126; decide, fun j => by show (0 : Int) ≤ 0 ∧ (0 : Int) ≤ 8; decide, fun c j => by show (0 : Int) ≤ 0 ∧ (0 : Int) ≤ 99; decide⟩, ⟨by decide, by decide, by decide, by decide, Or.inl rfl⟩, ⟨Or.inl ⟨rfl, rfl⟩, by decide, by decide⟩, by omega⟩
