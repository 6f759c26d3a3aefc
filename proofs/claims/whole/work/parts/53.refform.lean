/-! ===== the reference: formations, as sets of bits ===== -/
theorem shr_bit0 : ∀ w : Fin 1024, ∀ k : Fin 10, bAnd (bShr ((w.val : Nat) : Int) ((k.val : Nat) : Int)) 1 = if bAnd ((w.val : Nat) : Int) (bShl 1 ((k.val : Nat) : Int)) = 0 then 0 else 1 := by decide +kernel
theorem shr_bit {w k : Int} (hw : 0 ≤ w ∧ w ≤ 1023) (hk : 0 ≤ k ∧ k < 10) : bAnd (bShr w k) 1 = eI1 (sBit w k) := by
  have h := shr_bit0 ⟨w.toNat, by omega⟩ ⟨k.toNat, by omega⟩
  simp only at h
  rw [show ((w.toNat : Nat) : Int) = w by omega, show ((k.toNat : Nat) : Int) = k by omega] at h
  rw [h]
  unfold eI1 sBit
  by_cases q : bAnd w (bShl 1 k) = 0
  · rw [if_pos q, if_neg (fun r => r q)]
  · rw [if_neg q, if_pos q]
theorem p10 {x : Int} (h0 : 0 ≤ x) (h1 : x < 10) : 2 ^ x.toNat < 1024 := by
  rcases x10 ⟨h0, h1⟩ with h | h | h | h | h | h | h | h | h | h <;> subst h <;> decide
theorem bOr_10 {w x : Int} (hw : 0 ≤ w ∧ w ≤ 1023) (hx : 0 ≤ x ∧ x < 10) : (w ≤ bOr w (bShl 1 x) ∧ bOr w (bShl 1 x) ≤ 1023) ∧ ∀ z, 0 ≤ z → z < 10 → (sBit (bOr w (bShl 1 x)) z ↔ sBit w z ∨ z = x) := by
  have e : w = ((w.toNat : Nat) : Int) := by omega
  have h : bOr w (bShl 1 x) = ((w.toNat ||| 2 ^ x.toNat : Nat) : Int) := by
    conv => lhs; rw [bShl_1 hx.1 (by omega), e]
    exact bOr_n (by omega) (by have := p10 hx.1 hx.2; omega)
  have hlt : w.toNat ||| 2 ^ x.toNat < 1024 := Nat.or_lt_two_pow (n := 10) (by omega) (p10 hx.1 hx.2)
  have hge : w.toNat ≤ w.toNat ||| 2 ^ x.toNat := Nat.left_le_or
  exact ⟨by rw [h]; omega, fun z z0 z1 => (sBit_or (w := w) (x := x) (z := z) (by omega) hx.1 (by omega) z0 (by omega)).2⟩
theorem bOr_z {w : Int} (hw : 0 ≤ w ∧ w ≤ 1023) : bOr w 0 = w := by
  have e : w = ((w.toNat : Nat) : Int) := by omega
  have h : bOr w 0 = ((w.toNat ||| 0 : Nat) : Int) := by
    conv => lhs; rw [e]
    exact bOr_n (m := w.toNat) (k := 0) (by omega) (by omega)
  rw [h, Nat.or_zero]
  omega
theorem sBit_1 {x z : Int} (hx : 0 ≤ x ∧ x < 10) (hz : 0 ≤ z ∧ z < 10) : sBit (bShl 1 x) z ↔ z = x := by
  rcases x10 hx with h | h | h | h | h | h | h | h | h | h <;> subst h <;> rcases x10 hz with h | h | h | h | h | h | h | h | h | h <;> subst h <;> decide
theorem bShl_r {x : Int} (hx : 0 ≤ x ∧ x < 10) : 1 ≤ bShl 1 x ∧ bShl 1 x ≤ 1023 := by
  rcases x10 hx with h | h | h | h | h | h | h | h | h | h <;> subst h <;> decide
/-- a set of baskets as bits -/
def foD (F : eFs) (b s : Int) : Prop := (0 ≤ s ∧ s ≤ 1023) ∧ ∀ z, 0 ≤ z → z < 10 → (sBit s z ↔ sHas F z ∧ sCon F b z)
theorem bits_ex (Q : Int → Prop) : ∀ n : Nat, n ≤ 10 → ∃ s, (0 ≤ s ∧ s ≤ 1023) ∧ ∀ z, 0 ≤ z → z < 10 → (sBit s z ↔ z < (n : Int) ∧ Q z) := by
  intro n
  induction n with
  | zero => intro _; exact ⟨0, by omega, fun z z0 _ => ⟨fun q => absurd q sBit_0, fun q => by omega⟩⟩
  | succ n ih =>
    intro hn
    obtain ⟨s, h1, h2⟩ := ih (by omega)
    rcases Classical.em (Q (n : Int)) with q | q
    · have o := bOr_10 h1 (x := (n : Int)) (by omega)
      refine ⟨bOr s (bShl 1 n), by omega, fun z z0 z1 => ?_⟩
      rw [o.2 z z0 z1, h2 z z0 z1]
      constructor
      · rintro (⟨a1, a2⟩ | a1)
        · exact ⟨by omega, a2⟩
        · subst a1; exact ⟨by omega, q⟩
      · rintro ⟨a1, a2⟩
        rcases (show z < (n : Int) ∨ z = (n : Int) by omega) with r | r
        · exact Or.inl ⟨r, a2⟩
        · exact Or.inr r
    · refine ⟨s, h1, fun z z0 z1 => ?_⟩
      rw [h2 z z0 z1]
      constructor
      · rintro ⟨a1, a2⟩; exact ⟨by omega, a2⟩
      · rintro ⟨a1, a2⟩
        rcases (show z < (n : Int) ∨ z = (n : Int) by omega) with r | r
        · exact ⟨r, a2⟩
        · subst r; exact absurd a2 q
noncomputable def sFo (F : eFs) (b : Int) : Int := Classical.epsilon (fun s => foD F b s)
theorem sFo_d (F : eFs) (b : Int) : foD F b (sFo F b) := by
  obtain ⟨s, h1, h2⟩ := bits_ex (fun z => sHas F z ∧ sCon F b z) 10 (by omega)
  exact Classical.epsilon_spec (p := fun s => foD F b s) ⟨s, h1, fun z z0 z1 => (h2 z z0 z1).trans ⟨fun q => q.2, fun q => ⟨by omega, q⟩⟩⟩
theorem foD_eq {F : eFs} {b s : Int} (h : foD F b s) : s = sFo F b := by
  obtain ⟨g1, g2⟩ := sFo_d F b
  obtain ⟨h1, h2⟩ := h
  have e : s.toNat = (sFo F b).toNat := by
    apply Nat.eq_of_testBit_eq
    intro i
    by_cases hi : i < 10
    · have a1 := sBit_n (w := s) (x := (i : Int)) (by omega) (by omega) (by omega)
      have a2 := sBit_n (w := sFo F b) (x := (i : Int)) (by omega) (by omega) (by omega)
      rw [show ((i : Int)).toNat = i by omega] at a1 a2
      have a3 := (h2 (i : Int) (by omega) (by omega)).trans (g2 (i : Int) (by omega) (by omega)).symm
      rw [a1, a2] at a3
      exact Bool.eq_iff_iff.mpr a3
    · have l1 : s.toNat < 2 ^ i := Nat.lt_of_lt_of_le (m := 2 ^ 10) (by omega) (Nat.pow_le_pow_right (by omega) (by omega))
      have l2 : (sFo F b).toNat < 2 ^ i := Nat.lt_of_lt_of_le (m := 2 ^ 10) (by omega) (Nat.pow_le_pow_right (by omega) (by omega))
      rw [Nat.testBit_lt_two_pow l1, Nat.testBit_lt_two_pow l2]
  omega
/-- while the set grows: w is closed up to (k, j) -/
def foI (F : eFs) (b w k j s : Int) : Prop := ((0 ≤ s ∧ s ≤ 1023) ∧ (0 ≤ w ∧ w ≤ s)) ∧ (∀ z, 0 ≤ z → z < 10 → sBit s z → sHas F z ∧ sCon F b z) ∧ sBit s b ∧ (∀ z, 0 ≤ z → z < 10 → sBit w z → sBit s z) ∧ (∀ u v, sHas F u → sHas F v → (u < k ∨ (u = k ∧ v < j)) → sBit w u → sLk F u v → sBit s v)
theorem foI_0 {F : eFs} {b : Int} (hb : sHas F b) (hn : F.1 0 ≤ 10) : foI F b 0 (F.1 0) 0 (bShl 1 b) := by
  have r := bShl_r (x := b) (by omega)
  refine ⟨by omega, fun z z0 z1 q => ?_, (sBit_1 (by omega) (by omega)).mpr rfl, fun z z0 z1 q => absurd q sBit_0, fun u v hu hv _ q => absurd q sBit_0⟩
  have := (sBit_1 (x := b) (z := z) (by omega) (by omega)).mp q
  rw [this]
  exact ⟨hb, sCon_rf b⟩
theorem foI_in {F : eFs} {b w k j s : Int} (h : foI F b w k j s) : foI F b s 0 0 s := ⟨⟨h.1.1, by have := h.1; omega⟩, h.2.1, h.2.2.1, fun z _ _ q => q, fun u v hu hv q => by have := hu.1; have := hv.1; omega⟩
theorem foI_dn {F : eFs} {b s : Int} (hb : sHas F b) (hn : F.1 0 ≤ 10) (h : foI F b s (F.1 0) 0 s) : foD F b s := by
  obtain ⟨h1, h2, h3, h4, h5⟩ := h
  refine ⟨h1.1, fun z z0 z1 => ⟨h2 z z0 z1, fun q => ?_⟩⟩
  exact (q.2 (fun u => sHas F u → sBit s u) (fun _ => h3) (fun u v hu hv su l _ => h5 u v hu hv (Or.inl hu.2) (su hu) l)) q.1
theorem foI_n {F : eFs} {b w k j s z : Int} (h : foI F b w k j s) (hn : F.1 0 ≤ 10) (hk : sHas F k) (hz : z = 0) (hq : ¬ sBit w k ∨ ¬ (¬ k = j ∧ sLk F k j)) : foI F b w k (j + 1) (bOr s z) := by
  obtain ⟨h1, h2, h3, h4, h5⟩ := h
  rw [hz, bOr_z h1.1]
  refine ⟨h1, h2, h3, h4, fun u v hu hv q su l => ?_⟩
  by_cases e : u = k ∧ v = j
  · obtain ⟨rfl, rfl⟩ := e
    by_cases e2 : u = v
    · subst e2; exact h4 u hu.1 (by have := hu.2; omega) su
    · rcases hq with q1 | q1
      · exact absurd su q1
      · exact absurd ⟨e2, l⟩ q1
  · exact h5 u v hu hv (by omega) su l
theorem foI_y {F : eFs} {b w k j s z : Int} (hb : sHas F b) (h : foI F b w k j s) (hn : F.1 0 ≤ 10) (hk : sHas F k) (hj : sHas F j) (hz : z = bShl 1 j) (hw : sBit w k) (hl : ¬ k = j ∧ sLk F k j) : foI F b w k (j + 1) (bOr s z) := by
  obtain ⟨h1, h2, h3, h4, h5⟩ := h
  have o := bOr_10 h1.1 (x := j) (by omega)
  rw [hz]
  refine ⟨by omega, fun y y0 y1 q => ?_, (o.2 b hb.1 (by have := hb.2; omega)).mpr (Or.inl h3), fun y y0 y1 q => (o.2 y y0 y1).mpr (Or.inl (h4 y y0 y1 q)), fun u v hu hv q su l => (o.2 v hv.1 (by have := hv.2; omega)).mpr ?_⟩
  · rcases (o.2 y y0 y1).mp q with q | q
    · exact h2 y y0 y1 q
    · subst q
      have ck := h2 k hk.1 (by have := hk.2; omega) (h4 k hk.1 (by have := hk.2; omega) hw)
      exact ⟨hj, sCon_go ck.2 hk hj hl.2⟩
  · by_cases e : u = k ∧ v = j
    · exact Or.inr e.2
    · exact Or.inl (h5 u v hu hv (by omega) su l)
theorem foI_k {F : eFs} {b w k j s : Int} (h : foI F b w k j s) (hj : F.1 0 ≤ j) : foI F b w (k + 1) 0 s := ⟨h.1, h.2.1, h.2.2.1, h.2.2.2.1, fun u v hu hv q su l => h.2.2.2.2 u v hu hv (by have := hv.2; have := hv.1; omega) su l⟩
/-- the lowest basket of a formation -/
theorem sFo_lo {F : eFs} {b : Int} (hb : sHas F b) (hn : F.1 0 ≤ 10) : (0 ≤ sGr F b ∧ sGr F b < 10) ∧ sBit (sFo F b) (sGr F b) ∧ ∀ z, 0 ≤ z → z < sGr F b → ¬ sBit (sFo F b) z := by
  obtain ⟨g1, g2⟩ := sFo_d F b
  obtain ⟨a1, a2, a3⟩ := sGr_in hb
  have l := a1.2
  have l0 := a1.1
  refine ⟨by omega, (g2 _ a1.1 (by omega)).mpr ⟨a1, sCon_sy a2⟩, fun z z0 z1 q => ?_⟩
  have w := (g2 z z0 (by omega)).mp q
  have := a3 z w.1 (sCon_sy w.2)
  omega
/-! the greatest one -/
theorem sMax_b {f : Int → Int} : ∀ (n : Nat) (i m : Int), m ≤ sMax f n i m ∧ (∀ j, i ≤ j → j < i + n → f j ≤ sMax f n i m) ∧ (sMax f n i m = m ∨ ∃ j, i ≤ j ∧ j < i + n ∧ sMax f n i m = f j) := by
  intro n
  induction n with
  | zero => intro i m; exact ⟨Int.le_refl _, fun j j0 j1 => by omega, Or.inl rfl⟩
  | succ n ih =>
    intro i m
    obtain ⟨a1, a2, a3⟩ := ih (i + 1) (if m < f i then f i else m)
    show m ≤ sMax f n (i + 1) (if m < f i then f i else m) ∧ (∀ j, i ≤ j → j < i + ((n + 1 : Nat) : Int) → f j ≤ sMax f n (i + 1) (if m < f i then f i else m)) ∧ (sMax f n (i + 1) (if m < f i then f i else m) = m ∨ ∃ j, i ≤ j ∧ j < i + ((n + 1 : Nat) : Int) ∧ sMax f n (i + 1) (if m < f i then f i else m) = f j)
    have c : m ≤ (if m < f i then f i else m) ∧ f i ≤ (if m < f i then f i else m) ∧ ((if m < f i then f i else m) = m ∨ (if m < f i then f i else m) = f i) := by split <;> omega
    refine ⟨by omega, fun j j0 j1 => ?_, ?_⟩
    · by_cases e : j = i
      · subst e; omega
      · exact a2 j (by omega) (by omega)
    · rcases a3 with a3 | ⟨j, j0, j1, j2⟩
      · rcases c.2.2 with c2 | c2
        · exact Or.inl (a3.trans c2)
        · exact Or.inr ⟨i, by omega, by omega, a3.trans c2⟩
      · exact Or.inr ⟨j, by omega, by omega, j2⟩
def mSz (s n : Int) : Int := eCB (fun j => sBit s j) n 0
theorem mSz_gr {F : eFs} {k : Int} (hk : sHas F k) (hn : F.1 0 ≤ 10) : mSz (sFo F k) (F.1 0) = sSiz F (sGr F k) := by
  obtain ⟨g1, g2⟩ := sFo_d F k
  unfold mSz sSiz
  refine eCB_cong (fun j j0 j1 => ?_)
  have hj : sHas F j := ⟨j0, j1⟩
  rw [g2 j j0 (by omega), sGr_eq hj hk]
  exact ⟨fun q => sCon_sy q.2, fun q => ⟨hj, sCon_sy q⟩⟩
theorem sLrg_m {F : eFs} (h0 : 0 ≤ F.1 0) (hn : F.1 0 ≤ 10) : sMax (fun k => mSz (sFo F k) (F.1 0)) (F.1 0 - 0).toNat 0 0 = sLrg F := by
  obtain ⟨a1, a2, a3⟩ := sMax_b (f := fun k => mSz (sFo F k) (F.1 0)) (F.1 0 - 0).toNat 0 0
  obtain ⟨b1, b2, b3⟩ := sMax_b (f := fun g => sSiz F g) (F.1 0 - 0).toNat 0 0
  unfold sLrg
  have u1 : sMax (fun k => mSz (sFo F k) (F.1 0)) (F.1 0 - 0).toNat 0 0 ≤ sMax (fun g => sSiz F g) (F.1 0 - 0).toNat 0 0 := by
    rcases a3 with a3 | ⟨j, j0, j1, j2⟩
    · omega
    · have hj : sHas F j := by omega
      have gj := (sGr_in hj).1
      have e := mSz_gr hj hn
      have := b2 (sGr F j) gj.1 (by have := gj.2; omega)
      omega
  have u2 : sMax (fun g => sSiz F g) (F.1 0 - 0).toNat 0 0 ≤ sMax (fun k => mSz (sFo F k) (F.1 0)) (F.1 0 - 0).toNat 0 0 := by
    rcases b3 with b3 | ⟨j, j0, j1, j2⟩
    · omega
    · have j2 := j2
      by_cases q : ∃ c, sHas F c ∧ sGr F c = j
      · obtain ⟨c, c1, c2⟩ := q
        have e := mSz_gr c1 hn
        have := a2 c c1.1 (by have := c1.2; omega)
        rw [c2] at e
        omega
      · have z : sSiz F j = 0 := by
          unfold sSiz eCB
          exact eSB_zero (fun c c0 c1 => eI1_f (fun r => q ⟨c, ⟨c0, c1⟩, r⟩))
        omega
  omega
theorem eI1_iff {c : Prop} [Decidable c] : eI1 c = 1 ↔ c := by
  unfold eI1
  by_cases h : c
  · rw [if_pos h]; exact ⟨fun _ => h, fun _ => rfl⟩
  · rw [if_neg h]; exact ⟨fun q => absurd q (by decide), fun q => absurd q h⟩

theorem C_X7_lowest {X : eXT} {a : Nat → Nat} {s m : Int} (hs : 0 ≤ s ∧ s ≤ 1023) (hm : 0 ≤ m ∧ m < 10) (hbm : sBit s m) (hlo : ∀ z, 0 ≤ z → z < m → ¬ sBit s z) :
    EM X mX7_lowest (eRm 0) a [vi s] ([]) (eRet (some (vi m)) a []) := by
  refine EM.of (by decide +kernel) rfl (Nat.le_of_ble_eq_true rfl) ?_
  refine e_iconst dX7_lowest_0 rfl ?_
  refine f_istore_n dX7_lowest_1 rfl (Nat.le_of_ble_eq_true rfl) rfl ?_
  have hL2 : ∀ (k2 : Nat) (k : Int) (hk2 : (10 - k).toNat = k2) (g2 : 0 ≤ k ∧ k ≤ m), EV (mX7_lowest, (eRm 0), eRet (some (vi m)) a [], X) a (0, 0) ([]) 2 [some (vi s), some (vi k)] [] := by
    intro k2
    induction k2 using Nat.strongRecOn with
    | _ k2 ih2 =>
    intro k hk2 g2
    refine e_iload_n dX7_lowest_2 rfl rfl ?_
    refine e_iload_n dX7_lowest_3 rfl rfl ?_
    refine e_ishr dX7_lowest_4 rfl ?_
    refine e_iconst dX7_lowest_5 rfl ?_
    refine e_iand dX7_lowest_6 rfl ?_
    have sb := eI1_b (c := sBit s k)
    refine EV.eq (st' := [vi (eI1 (sBit s k))]) (by rw [shr_bit (by omega) (by omega)]) ?_
    refine e_if_ne (t := 16) dX7_lowest_7 rfl rfl (by omega) (fun h7 => ?_) (fun h7 => ?_)
    · refine e_iload_n dX7_lowest_16 rfl rfl ?_
      exact e_iret dX7_lowest_17 rfl rfl (eRet_i (by rcases (show k < m ∨ k = m by omega) with q | q; exact absurd (eI1_f (hlo k (by omega) q)) h7; exact q) rfl)
    · refine f_iinc dX7_lowest_10 rfl rfl (Nat.le_of_ble_eq_true rfl) rfl ?_
      refine e_goto (n := 2) dX7_lowest_13 rfl ?_
      exact ih2 _ (by omega) (k + 1) rfl (by rcases (show k < m ∨ k = m by omega) with q | q; omega; exfalso; have h := Decidable.not_not.mp h7; rw [q, eI1_t hbm] at h; exact absurd h (by decide))
  exact hL2 _ 0 rfl (by omega)
theorem C_X7_formation {X : eXT} {a : Nat → Nat} {N : Int} {F M : eFs} (hF : okF N F) (hR : mR F (M.2 0)) {b : Int} (hb0 : sHas F b) :
    EM X mX7_formation (eRm 4) a [.ref (a 0), vi b] (wM a M) (eRet (some (vi (sFo F b))) a (wM a M)) := by
  refine EM.of (by decide +kernel) rfl (Nat.le_of_ble_eq_true rfl) ?_
  have hF0 := hF
  obtain ⟨hc, hld, hled, htn, hgo, hkp, hst, hwt, hcl, hsh, hnx, hN, rx, ry, rh, rm, rc, rw9⟩ := hF
  obtain ⟨⟨n0, n1, n2, n3, n4, n5, n6, n7, n8, n9⟩, hb, hcd, hss⟩ := id hR
  refine e_iconst dX7_formation_0 rfl ?_
  refine e_iload_n dX7_formation_1 rfl rfl ?_
  refine e_ishl dX7_formation_2 rfl ?_
  refine f_istore_n dX7_formation_3 rfl (Nat.le_of_ble_eq_true rfl) rfl ?_
  refine e_iconst dX7_formation_4 rfl ?_
  refine f_istore_n dX7_formation_5 rfl (Nat.le_of_ble_eq_true rfl) rfl ?_
  have hL6 : ∀ (k6 : Nat) (w s : Int) (hk6 : (1024 - w).toNat = k6) (s6 : foI F b w (F.1 0) 0 s), EV (mX7_formation, (eRm 4), eRet (some (vi (sFo F b))) a (wM a M), X) a (0, 0) (wM a M) 6 [some (.ref (a 0)), some (vi b), some (vi s), some (vi w), none, none] [] := by
    intro k6
    induction k6 using Nat.strongRecOn with
    | _ k6 ih6 =>
    intro w s hk6 s6
    have k1 := s6.1
    refine e_iload_n dX7_formation_6 rfl rfl ?_
    refine e_iload_n dX7_formation_7 rfl rfl ?_
    refine e_icmp_eq (t := 88) dX7_formation_8 rfl rfl (by omega) (by omega) (fun h8 => ?_) (fun h8 => ?_)
    · refine e_iload_n dX7_formation_88 rfl rfl ?_
      exact e_iret dX7_formation_89 rfl rfl (eRet_i (foD_eq (foI_dn hb0 (by omega) (by have e : s = w := (by omega); rw [← e] at s6; exact s6))) rfl)
    · refine e_iload_n dX7_formation_11 rfl rfl ?_
      refine f_istore_n dX7_formation_12 rfl (Nat.le_of_ble_eq_true rfl) rfl ?_
      refine e_iconst dX7_formation_13 rfl ?_
      refine f_istore dX7_formation_14 rfl (Nat.le_of_ble_eq_true rfl) rfl ?_
      have hL16 : ∀ (k16 : Nat) (k t : Int) (hk16 : (F.1 0 - k).toNat = k16) (g16 : 0 ≤ k ∧ k ≤ F.1 0) (s16 : foI F b s k 0 t), EV (mX7_formation, (eRm 4), eRet (some (vi (sFo F b))) a (wM a M), X) a (0, 0) (wM a M) 16 [some (.ref (a 0)), some (vi b), some (vi t), some (vi s), some (vi k), none] [] := by
        intro k16
        induction k16 using Nat.strongRecOn with
        | _ k16 ih16 =>
        intro k t hk16 g16 s16
        refine e_iload dX7_formation_16 rfl rfl ?_
        refine e_aload_n dX7_formation_18 rfl rfl ?_
        refine e_getfield fd_X7_9 dX7_formation_19 rfl rfl rfl rfl ?_
        refine e_iconst dX7_formation_22 rfl ?_
        refine e_iaload dX7_formation_23 rfl rfl rfl (by omega) (by decide) ?_
        refine EV.eq (st' := [vi (F.1 0), vi k]) (by show [vi (M.2 0 0), vi k] = _; rw [n0]) ?_
        refine e_icmp_ge (t := 85) dX7_formation_24 rfl rfl (by omega) (by omega) (fun h24 => ?_) (fun h24 => ?_)
        · refine e_goto (n := 6) dX7_formation_85 rfl ?_
          refine EV.fgt 4 ?_
          refine EV.fgt 5 ?_
          exact ih6 _ (by omega) s t rfl (by have e : k = F.1 0 := (by omega); rw [← e]; exact s16)
        · refine e_iconst dX7_formation_27 rfl ?_
          refine f_istore dX7_formation_28 rfl (Nat.le_of_ble_eq_true rfl) rfl ?_
          have hL30 : ∀ (k30 : Nat) (j r : Int) (hk30 : (F.1 0 - j).toNat = k30) (g30 : 0 ≤ j ∧ j ≤ F.1 0 ∧ k < F.1 0) (s30 : foI F b s k j r), EV (mX7_formation, (eRm 4), eRet (some (vi (sFo F b))) a (wM a M), X) a (0, 0) (wM a M) 30 [some (.ref (a 0)), some (vi b), some (vi r), some (vi s), some (vi k), some (vi j)] [] := by
            intro k30
            induction k30 using Nat.strongRecOn with
            | _ k30 ih30 =>
            intro j r hk30 g30 s30
            refine e_iload dX7_formation_30 rfl rfl ?_
            refine e_aload_n dX7_formation_32 rfl rfl ?_
            refine e_getfield fd_X7_9 dX7_formation_33 rfl rfl rfl rfl ?_
            refine e_iconst dX7_formation_36 rfl ?_
            refine e_iaload dX7_formation_37 rfl rfl rfl (by omega) (by decide) ?_
            refine EV.eq (st' := [vi (F.1 0), vi j]) (by show [vi (M.2 0 0), vi j] = _; rw [n0]) ?_
            refine e_icmp_ge (t := 79) dX7_formation_38 rfl rfl (by omega) (by omega) (fun h38 => ?_) (fun h38 => ?_)
            · refine f_iinc dX7_formation_79 rfl rfl (Nat.le_of_ble_eq_true rfl) rfl ?_
              refine e_goto (n := 16) dX7_formation_82 rfl ?_
              refine EV.fgt 5 ?_
              exact ih16 _ (by omega) (k + 1) r rfl (by omega) (foI_k s30 (by omega))
            · have hJ71 : ∀ (z : Int) (hz : foI F b s k (j + 1) (bOr r z)), EV (mX7_formation, (eRm 4), eRet (some (vi (sFo F b))) a (wM a M), X) a (0, 0) (wM a M) 71 [some (.ref (a 0)), some (vi b), some (vi r), some (vi s), some (vi k), some (vi j)] [vi z, vi r] := by
                intro z hz
                refine e_ior dX7_formation_71 rfl ?_
                refine f_istore_n dX7_formation_72 rfl (Nat.le_of_ble_eq_true rfl) rfl ?_
                refine f_iinc dX7_formation_73 rfl rfl (Nat.le_of_ble_eq_true rfl) rfl ?_
                refine e_goto (n := 30) dX7_formation_76 rfl ?_
                exact ih30 _ (by omega) (j + 1) (bOr r z) rfl (by omega) hz
              refine e_iload_n dX7_formation_41 rfl rfl ?_
              refine e_iload_n dX7_formation_42 rfl rfl ?_
              refine e_iload dX7_formation_43 rfl rfl ?_
              refine e_ishr dX7_formation_45 rfl ?_
              refine e_iconst dX7_formation_46 rfl ?_
              refine e_iand dX7_formation_47 rfl ?_
              have sb := eI1_b (c := sBit s k)
              refine EV.eq (st' := [vi (eI1 (sBit s k)), vi r]) (by rw [shr_bit (by omega) (by omega)]) ?_
              refine e_iconst dX7_formation_48 rfl ?_
              refine e_icmp_ne (t := 70) dX7_formation_49 rfl rfl (by omega) (by omega) (fun h49 => ?_) (fun h49 => ?_)
              · refine e_iconst dX7_formation_70 rfl ?_
                exact hJ71 _ (foI_n s30 (by omega) (by omega) rfl (Or.inl (fun q => h49 (eI1_iff.mpr q))))
              · refine e_aload_n dX7_formation_52 rfl rfl ?_
                refine e_iload dX7_formation_53 rfl rfl ?_
                refine e_iload dX7_formation_55 rfl rfl ?_
                refine e_cV0 [0, 1, 2, 3, 4, 5] lk_X7_175 rfl dX7_formation_57 rfl (C_X7_areLinked hF0 hR (b := k) (o := j) (by omega) (by omega)) rfl rfl (Nat.le_of_ble_eq_true rfl) (Nat.le_of_ble_eq_true rfl) (Nat.le_of_ble_eq_true rfl) ⟨rfl, rfl⟩ rfl rfl rfl rfl rfl rfl  ?_
                refine e_ifb_eq (t := 70) dX7_formation_60 rfl rfl (fun h60 => ?_) (fun h60 => ?_)
                · refine e_iconst dX7_formation_70 rfl ?_
                  exact hJ71 _ (foI_n s30 (by omega) (by omega) rfl (Or.inr h60))
                · refine e_iconst dX7_formation_63 rfl ?_
                  refine e_iload dX7_formation_64 rfl rfl ?_
                  refine e_ishl dX7_formation_66 rfl ?_
                  refine e_goto (n := 71) dX7_formation_67 rfl ?_
                  exact hJ71 _ (foI_y hb0 s30 (by omega) (by omega) (by omega) rfl (eI1_iff.mp (Decidable.not_not.mp h49)) h60)
          exact hL30 _ 0 t rfl (by omega) s16
      refine EV.fgt 5 ?_
      exact hL16 _ 0 s rfl (by omega) (foI_in s6)
  refine EV.fgt 4 ?_
  refine EV.fgt 5 ?_
  exact hL6 _ 0 (bShl 1 b) rfl (foI_0 hb0 (by omega))
theorem C_X7_formationCount {X : eXT} {a : Nat → Nat} {N : Int} {F M : eFs} (hF : okF N F) (hR : mR F (M.2 0))  :
    EM X mX7_formationCount (eRm 5) a [.ref (a 0)] (wM a M) (eRet (some (vi (sFor F))) a (wM a (sS M 0 0))) := by
  refine EM.of (by decide +kernel) rfl (Nat.le_of_ble_eq_true rfl) ?_
  have hF0 := hF
  obtain ⟨hc, hld, hled, htn, hgo, hkp, hst, hwt, hcl, hsh, hnx, hN, rx, ry, rh, rm, rc, rw9⟩ := hF
  obtain ⟨⟨n0, n1, n2, n3, n4, n5, n6, n7, n8, n9⟩, hb, hcd, hss⟩ := id hR
  refine e_aload_n dX7_formationCount_0 rfl rfl ?_
  refine e_iconst dX7_formationCount_1 rfl ?_
  refine e_putfield fd_X7_33 dX7_formationCount_2 rfl rfl rfl (Nat.le_of_ble_eq_true rfl) rfl rfl ?_
  refine EV.ceq (cs' := wM a (sS M 0 0)) rfl ?_
  refine e_iconst dX7_formationCount_5 rfl ?_
  refine f_istore_n dX7_formationCount_6 rfl (Nat.le_of_ble_eq_true rfl) rfl ?_
  refine e_iconst dX7_formationCount_7 rfl ?_
  refine f_istore_n dX7_formationCount_8 rfl (Nat.le_of_ble_eq_true rfl) rfl ?_
  have hL9 : ∀ (k9 : Nat) (k n : Int) (hk9 : ((F.1 0) - k).toNat = k9) (g9 : 0 ≤ k ∧ k ≤ F.1 0) (e9 : 0 + eCB (fun k => sGr F k = k) (F.1 0) 0 = n + eCB (fun k => sGr F k = k) (F.1 0) k) , EV (mX7_formationCount, (eRm 5), eRet (some (vi (sFor F))) a (wM a (sS M 0 0)), X) a (0, 0) (wM a (sS M 0 0)) 9 [some (.ref (a 0)), some (vi n), some (vi k)] [] := by
    intro k9
    induction k9 using Nat.strongRecOn with
    | _ k9 ih9 =>
    intro k n hk9 g9 e9
    refine e_iload_n dX7_formationCount_9 rfl rfl ?_
    refine e_aload_n dX7_formationCount_10 rfl rfl ?_
    refine e_getfield fd_X7_9 dX7_formationCount_11 rfl rfl rfl rfl ?_
    refine e_iconst dX7_formationCount_14 rfl ?_
    refine e_iaload dX7_formationCount_15 rfl rfl rfl (by omega) (by decide) ?_
    refine EV.eq (st' := [vi (F.1 0), vi k]) (by show [vi (M.2 0 0), vi k] = _; rw [n0]) ?_
    refine e_icmp_ge (t := 45) dX7_formationCount_16 rfl rfl (by omega) (by omega) (fun h16 => ?_) (fun h16 => ?_)
    · refine e_iload_n dX7_formationCount_45 rfl rfl ?_
      exact e_iret dX7_formationCount_46 rfl rfl (eRet_i (by have w := eCB_end (P := fun k => sGr F k = k) (n := F.1 0) (i := k) (by omega); unfold sFor; omega) rfl)
    · have hJ37 : ∀ (z : Int) (hz : z = eI1 (sGr F k = k)), EV (mX7_formationCount, (eRm 5), eRet (some (vi (sFor F))) a (wM a (sS M 0 0)), X) a (0, 0) (wM a (sS M 0 0)) 37 [some (.ref (a 0)), some (vi n), some (vi k)] [vi z, vi n] := by
        intro z hz
        refine e_iadd dX7_formationCount_37 rfl ?_
        refine f_istore_n dX7_formationCount_38 rfl (Nat.le_of_ble_eq_true rfl) rfl ?_
        refine f_iinc dX7_formationCount_39 rfl rfl (Nat.le_of_ble_eq_true rfl) rfl ?_
        refine e_goto (n := 9) dX7_formationCount_42 rfl ?_
        exact ih9 _ (by omega) (k + 1) (n + z) rfl (by omega) (by have w := eCB_go (P := fun k => sGr F k = k) (n := F.1 0) (i := k) (by omega); omega)
      refine e_iload_n dX7_formationCount_19 rfl rfl ?_
      refine e_aload_n dX7_formationCount_20 rfl rfl ?_
      refine e_iload_n dX7_formationCount_21 rfl rfl ?_
      refine e_cV0 [0, 1, 2, 3, 4, 5] lk_X7_178 rfl dX7_formationCount_22 rfl (C_X7_formation (M := sS M 0 0) hF0 hR (b := k) (by omega)) rfl rfl (Nat.le_of_ble_eq_true rfl) (Nat.le_of_ble_eq_true rfl) (Nat.le_of_ble_eq_true rfl) ⟨rfl, rfl⟩ rfl rfl rfl rfl rfl rfl  ?_
      have hd := sFo_d F k
      have hlo := sFo_lo (F := F) (b := k) (by omega) (by omega)
      refine e_cS0 [] lk_X7_181 rfl dX7_formationCount_25 rfl (C_X7_lowest (m := sGr F k) hd.1 hlo.1 hlo.2.1 hlo.2.2) rfl rfl (Nat.le_of_ble_eq_true rfl) (Nat.le_of_ble_eq_true rfl) (Nat.le_of_ble_eq_true rfl) ⟨rfl, rfl⟩ rfl rfl  ?_
      refine e_iload_n dX7_formationCount_28 rfl rfl ?_
      refine e_icmp_ne (t := 36) dX7_formationCount_29 rfl rfl (by omega) (by omega) (fun h29 => ?_) (fun h29 => ?_)
      · refine e_iconst dX7_formationCount_36 rfl ?_
        exact hJ37 _ (eI1_f (by omega)).symm
      · refine e_iconst dX7_formationCount_32 rfl ?_
        refine e_goto (n := 37) dX7_formationCount_33 rfl ?_
        exact hJ37 _ (eI1_t (by omega)).symm
  exact hL9 _ 0 0 rfl (by omega) rfl 
theorem C_X7_formationCountByMerging {X : eXT} {a : Nat → Nat} {N : Int} {F M : eFs} (hF : okF N F) (hR : mR F (M.2 0))  :
    EM X mX7_formationCountByMerging (eRm 6) a [.ref (a 0)] (wM a M) (eRet (some (vi (sFor F))) a (wM a (sS M 0 0))) := by
  refine EM.of (by decide +kernel) rfl (Nat.le_of_ble_eq_true rfl) ?_
  have hF0 := hF
  obtain ⟨hc, hld, hled, htn, hgo, hkp, hst, hwt, hcl, hsh, hnx, hN, rx, ry, rh, rm, rc, rw9⟩ := hF
  obtain ⟨⟨n0, n1, n2, n3, n4, n5, n6, n7, n8, n9⟩, hb, hcd, hss⟩ := id hR
  refine e_aload_n dX7_formationCountByMerging_0 rfl rfl ?_
  refine e_cV2 [0, 1, 2, 3, 4, 5] lk_X7_184 rfl dX7_formationCountByMerging_1 rfl (C_X7_formationCount hF0 hR) rfl rfl (Nat.le_of_ble_eq_true rfl) (Nat.le_of_ble_eq_true rfl) (Nat.le_of_ble_eq_true rfl) ⟨rfl, rfl⟩ rfl rfl rfl rfl rfl rfl rfl rfl ?_
  exact e_iret dX7_formationCountByMerging_4 rfl rfl (eRet_i rfl rfl)
theorem C_X7_largestFormation {X : eXT} {a : Nat → Nat} {N : Int} {F M : eFs} (hF : okF N F) (hR : mR F (M.2 0))  :
    EM X mX7_largestFormation (eRm 5) a [.ref (a 0)] (wM a M) (eRet (some (vi (sLrg F))) a (wM a (sS M 0 0))) := by
  refine EM.of (by decide +kernel) rfl (Nat.le_of_ble_eq_true rfl) ?_
  have hF0 := hF
  obtain ⟨hc, hld, hled, htn, hgo, hkp, hst, hwt, hcl, hsh, hnx, hN, rx, ry, rh, rm, rc, rw9⟩ := hF
  obtain ⟨⟨n0, n1, n2, n3, n4, n5, n6, n7, n8, n9⟩, hb, hcd, hss⟩ := id hR
  refine e_aload_n dX7_largestFormation_0 rfl rfl ?_
  refine e_iconst dX7_largestFormation_1 rfl ?_
  refine e_putfield fd_X7_33 dX7_largestFormation_2 rfl rfl rfl (Nat.le_of_ble_eq_true rfl) rfl rfl ?_
  refine EV.ceq (cs' := wM a (sS M 0 0)) rfl ?_
  refine e_iconst dX7_largestFormation_5 rfl ?_
  refine f_istore_n dX7_largestFormation_6 rfl (Nat.le_of_ble_eq_true rfl) rfl ?_
  refine e_iconst dX7_largestFormation_7 rfl ?_
  refine f_istore_n dX7_largestFormation_8 rfl (Nat.le_of_ble_eq_true rfl) rfl ?_
  have hL9 : ∀ (k9 : Nat) (k m : Int) (hk9 : (F.1 0 - k).toNat = k9) (g9 : 0 ≤ k ∧ k ≤ F.1 0) (m9 : 0 ≤ m ∧ m ≤ 10) (e9 : sMax (fun k => mSz (sFo F k) (F.1 0)) (F.1 0 - 0).toNat 0 0 = sMax (fun k => mSz (sFo F k) (F.1 0)) (F.1 0 - k).toNat k m), EV (mX7_largestFormation, (eRm 5), eRet (some (vi (sLrg F))) a (wM a (sS M 0 0)), X) a (0, 0) (wM a (sS M 0 0)) 9 [some (.ref (a 0)), some (vi m), some (vi k), none, none, none] [] := by
    intro k9
    induction k9 using Nat.strongRecOn with
    | _ k9 ih9 =>
    intro k m hk9 g9 m9 e9
    refine e_iload_n dX7_largestFormation_9 rfl rfl ?_
    refine e_aload_n dX7_largestFormation_10 rfl rfl ?_
    refine e_getfield fd_X7_9 dX7_largestFormation_11 rfl rfl rfl rfl ?_
    refine e_iconst dX7_largestFormation_14 rfl ?_
    refine e_iaload dX7_largestFormation_15 rfl rfl rfl (by omega) (by decide) ?_
    refine EV.eq (st' := [vi (F.1 0), vi k]) (by show [vi (M.2 0 0), vi k] = _; rw [n0]) ?_
    refine e_icmp_ge (t := 78) dX7_largestFormation_16 rfl rfl (by omega) (by omega) (fun h16 => ?_) (fun h16 => ?_)
    · refine e_iload_n dX7_largestFormation_78 rfl rfl ?_
      exact e_iret dX7_largestFormation_79 rfl rfl (eRet_i (by rw [← sLrg_m (by omega) (by omega), e9, sMax_end (by omega)]) rfl)
    · refine e_aload_n dX7_largestFormation_19 rfl rfl ?_
      refine e_iload_n dX7_largestFormation_20 rfl rfl ?_
      refine e_cV0 [0, 1, 2, 3, 4, 5] lk_X7_178 rfl dX7_largestFormation_21 rfl (C_X7_formation (M := sS M 0 0) hF0 hR (b := k) (by omega)) rfl rfl (Nat.le_of_ble_eq_true rfl) (Nat.le_of_ble_eq_true rfl) (Nat.le_of_ble_eq_true rfl) ⟨rfl, rfl⟩ rfl rfl rfl rfl rfl rfl  ?_
      have hd := sFo_d F k
      refine f_istore_n dX7_largestFormation_24 rfl (Nat.le_of_ble_eq_true rfl) rfl ?_
      refine e_iconst dX7_largestFormation_25 rfl ?_
      refine f_istore dX7_largestFormation_26 rfl (Nat.le_of_ble_eq_true rfl) rfl ?_
      refine e_iconst dX7_largestFormation_28 rfl ?_
      refine f_istore dX7_largestFormation_29 rfl (Nat.le_of_ble_eq_true rfl) rfl ?_
      have hL31 : ∀ (k31 : Nat) (j n : Int) (hk31 : ((F.1 0) - j).toNat = k31) (g31 : 0 ≤ j ∧ j ≤ F.1 0) (e31 : 0 + eCB (fun j => sBit (sFo F k) j) (F.1 0) 0 = n + eCB (fun j => sBit (sFo F k) j) (F.1 0) j) , EV (mX7_largestFormation, (eRm 5), eRet (some (vi (sLrg F))) a (wM a (sS M 0 0)), X) a (0, 0) (wM a (sS M 0 0)) 31 [some (.ref (a 0)), some (vi m), some (vi k), some (vi (sFo F k)), some (vi n), some (vi j)] [] := by
        intro k31
        induction k31 using Nat.strongRecOn with
        | _ k31 ih31 =>
        intro j n hk31 g31 e31
        refine e_iload dX7_largestFormation_31 rfl rfl ?_
        refine e_aload_n dX7_largestFormation_33 rfl rfl ?_
        refine e_getfield fd_X7_9 dX7_largestFormation_34 rfl rfl rfl rfl ?_
        refine e_iconst dX7_largestFormation_37 rfl ?_
        refine e_iaload dX7_largestFormation_38 rfl rfl rfl (by omega) (by decide) ?_
        refine EV.eq (st' := [vi (F.1 0), vi j]) (by show [vi (M.2 0 0), vi j] = _; rw [n0]) ?_
        refine e_icmp_ge (t := 59) dX7_largestFormation_39 rfl rfl (by omega) (by omega) (fun h39 => ?_) (fun h39 => ?_)
        · have w := eCB_end (P := fun j => sBit (sFo F k) j) (n := F.1 0) (i := j) (by omega)
          have nz : n = mSz (sFo F k) (F.1 0) := by unfold mSz; omega
          have nb : 0 ≤ mSz (sFo F k) (F.1 0) ∧ mSz (sFo F k) (F.1 0) ≤ F.1 0 - 0 := eCB_in (by omega)
          have hJ71 : ∀ (z : Int) (hz : z = if m < n then n else m), EV (mX7_largestFormation, (eRm 5), eRet (some (vi (sLrg F))) a (wM a (sS M 0 0)), X) a (0, 0) (wM a (sS M 0 0)) 71 [some (.ref (a 0)), some (vi m), some (vi k), some (vi (sFo F k)), some (vi n), some (vi j)] [vi z] := by
            intro z hz
            refine f_istore_n dX7_largestFormation_71 rfl (Nat.le_of_ble_eq_true rfl) rfl ?_
            refine f_iinc dX7_largestFormation_72 rfl rfl (Nat.le_of_ble_eq_true rfl) rfl ?_
            refine e_goto (n := 9) dX7_largestFormation_75 rfl ?_
            refine EV.fgt 3 ?_
            refine EV.fgt 4 ?_
            refine EV.fgt 5 ?_
            exact ih9 _ (by omega) (k + 1) z rfl (by omega) (by rw [hz]; split <;> omega) (by rw [e9, sMax_go (by omega), hz, nz])
          refine e_iload dX7_largestFormation_59 rfl rfl ?_
          refine e_iload_n dX7_largestFormation_61 rfl rfl ?_
          refine e_icmp_le (t := 70) dX7_largestFormation_62 rfl rfl (by omega) (by omega) (fun h62 => ?_) (fun h62 => ?_)
          · refine e_iload_n dX7_largestFormation_70 rfl rfl ?_
            exact hJ71 _ (by first | rw [if_pos (by omega)] | rw [if_neg (by omega)])
          · refine e_iload dX7_largestFormation_65 rfl rfl ?_
            refine e_goto (n := 71) dX7_largestFormation_67 rfl ?_
            exact hJ71 _ (by first | rw [if_pos (by omega)] | rw [if_neg (by omega)])
        · refine e_iload dX7_largestFormation_42 rfl rfl ?_
          refine e_iload_n dX7_largestFormation_44 rfl rfl ?_
          refine e_iload dX7_largestFormation_45 rfl rfl ?_
          refine e_ishr dX7_largestFormation_47 rfl ?_
          refine e_iconst dX7_largestFormation_48 rfl ?_
          refine e_iand dX7_largestFormation_49 rfl ?_
          have sb := eI1_b (c := sBit (sFo F k) j)
          refine EV.eq (st' := [vi (eI1 (sBit (sFo F k) j)), vi n]) (by rw [shr_bit hd.1 (by omega)]) ?_
          refine e_iadd dX7_largestFormation_50 rfl ?_
          refine f_istore dX7_largestFormation_51 rfl (Nat.le_of_ble_eq_true rfl) rfl ?_
          refine f_iinc dX7_largestFormation_53 rfl rfl (Nat.le_of_ble_eq_true rfl) rfl ?_
          refine e_goto (n := 31) dX7_largestFormation_56 rfl ?_
          exact ih31 _ (by omega) (j + 1) (n + eI1 (sBit (sFo F k) j)) rfl (by omega) (by have w := eCB_go (P := fun j => sBit (sFo F k) j) (n := F.1 0) (i := j) (by omega); omega)
      exact hL31 _ 0 0 rfl (by omega) rfl 
  refine EV.fgt 3 ?_
  refine EV.fgt 4 ?_
  refine EV.fgt 5 ?_
  exact hL9 _ 0 0 rfl (by omega) (by omega) rfl
theorem C_X7_formationOf {X : eXT} {a : Nat → Nat} {N : Int} {F M : eFs} (hF : okF N F) (hR : mR F (M.2 0)) {b : Int} (gb : -2147483648 ≤ b ∧ b ≤ 2147483647) :
    EM X mX7_formationOf (eRm 5) a [.ref (a 0), vi b] (wM a M) (eRet (some (vi (if ((if sHas F b then 0 else 1) : Int) = 0 then (sGr F b) else 0))) a (wM a (sS M 0 ((if sHas F b then 0 else 1))))) := by
  refine EM.of (by decide +kernel) rfl (Nat.le_of_ble_eq_true rfl) ?_
  have hF0 := hF
  obtain ⟨hc, hld, hled, htn, hgo, hkp, hst, hwt, hcl, hsh, hnx, hN, rx, ry, rh, rm, rc, rw9⟩ := hF
  obtain ⟨⟨n0, n1, n2, n3, n4, n5, n6, n7, n8, n9⟩, hb, hcd, hss⟩ := id hR
  refine e_aload_n dX7_formationOf_0 rfl rfl ?_
  refine e_aload_n dX7_formationOf_1 rfl rfl ?_
  refine e_iload_n dX7_formationOf_2 rfl rfl ?_
  refine e_cV0 [0, 1, 2, 3, 4, 5] lk_X7_128 rfl dX7_formationOf_3 rfl (C_X7_isBasket hF0 hR (by omega)) rfl rfl (Nat.le_of_ble_eq_true rfl) (Nat.le_of_ble_eq_true rfl) (Nat.le_of_ble_eq_true rfl) ⟨rfl, rfl⟩ rfl rfl rfl rfl rfl rfl  ?_
  refine e_cV2 [0, 1, 2, 3, 4, 5] lk_X7_78 rfl dX7_formationOf_6 rfl (C_X7_isFine (M := M) (c := sHas F b)) rfl rfl (Nat.le_of_ble_eq_true rfl) (Nat.le_of_ble_eq_true rfl) (Nat.le_of_ble_eq_true rfl) ⟨rfl, rfl⟩ rfl rfl rfl rfl rfl rfl rfl rfl ?_
  refine e_ifb_eq (t := 23) dX7_formationOf_9 rfl rfl (fun h9 => ?_) (fun h9 => ?_)
  · refine EV.ceq (cs' := wM a (sS M 0 1)) (by rw [if_neg h9] <;> rfl) ?_
    refine e_iconst dX7_formationOf_23 rfl ?_
    exact e_iret dX7_formationOf_24 rfl rfl (mq_n (a := a) (M := M) (T := (if sHas F b then 0 else 1)) (v := (sGr F b)) (t := 1) (if_neg h9) (by decide) (rfl))
  · refine EV.ceq (cs' := wM a (sS M 0 0)) (by rw [if_pos h9] <;> rfl) ?_
    refine e_aload_n dX7_formationOf_12 rfl rfl ?_
    refine e_iload_n dX7_formationOf_13 rfl rfl ?_
    refine e_cV0 [0, 1, 2, 3, 4, 5] lk_X7_178 rfl dX7_formationOf_14 rfl (C_X7_formation (M := sS M 0 0) hF0 hR (b := b) h9) rfl rfl (Nat.le_of_ble_eq_true rfl) (Nat.le_of_ble_eq_true rfl) (Nat.le_of_ble_eq_true rfl) ⟨rfl, rfl⟩ rfl rfl rfl rfl rfl rfl  ?_
    have hd := sFo_d F b
    have hlo := sFo_lo (F := F) (b := b) h9 (by omega)
    refine e_cS0 [] lk_X7_181 rfl dX7_formationOf_17 rfl (C_X7_lowest (m := sGr F b) hd.1 hlo.1 hlo.2.1 hlo.2.2) rfl rfl (Nat.le_of_ble_eq_true rfl) (Nat.le_of_ble_eq_true rfl) (Nat.le_of_ble_eq_true rfl) ⟨rfl, rfl⟩ rfl rfl  ?_
    refine e_goto (n := 24) dX7_formationOf_20 rfl ?_
    exact e_iret dX7_formationOf_24 rfl rfl (mq_y (a := a) (M := M) (T := (if sHas F b then 0 else 1)) (v := (sGr F b)) (if_pos h9) (rfl) (rfl))
