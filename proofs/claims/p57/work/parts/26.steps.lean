/-! ===== Flock: its shape, a step ===== -/
theorem okF_mono {N N2 : Int} {F : eFs} (h : N ≤ N2 ∧ N2 ≤ 100000000) (hF : okF N F) : okF N2 F := by
  obtain ⟨hc, hld, hled, htn, hgo, hkp, hst, hwt, hcl, hsh, hnx, hN, rx, ry, rh, rm, rc, rw9⟩ := hF
  exact ⟨hc, hld, hled, htn, hgo, hkp, by omega, by omega, hcl, hsh, hnx, by omega, rx, ry, rh, fun j => by have := rm j; omega, rc, rw9⟩
theorem okF_mv {N : Int} {F : eFs} {b x y : Int} (hF : okF N F) (hN : N + 1 ≤ 100000000) (h : sIn x y) : okF (N + 1) (sMv F b x y) := by
  obtain ⟨hc, hld, hled, htn, hgo, hkp, hst, hwt, hcl, hsh, hnx, hN0, rx, ry, rh, rm, rc, rw9⟩ := hF
  have m0 := rm b
  exact ⟨hc, hld, hled, htn, hgo, hkp, (show 0 ≤ F.1 7 ∧ F.1 7 ≤ N + 1 by omega), (show 0 ≤ F.1 8 ∧ F.1 8 ≤ N + 1 by omega), hcl, hsh, hnx, by omega, fun j => eU_b rx (by omega) j, fun j => eU_b ry (by omega) j, rh,
    fun j => eU_b (x := F.2 3) (z := b) (v := F.2 3 b + 1) (lo := 0) (hi := N + 1) (fun j => by have := rm j; omega) (by omega) j, rc, rw9⟩
theorem okF_wt {N : Int} {F : eFs} (hF : okF N F) (hN : N + 1 ≤ 100000000) : okF (N + 1) (sWt F) := by
  obtain ⟨hc, hld, hled, htn, hgo, hkp, hst, hwt, hcl, hsh, hnx, hN0, rx, ry, rh, rm, rc, rw9⟩ := hF
  exact ⟨hc, hld, hled, htn, hgo, hkp, (show 0 ≤ F.1 7 ∧ F.1 7 ≤ N + 1 by omega), (show 0 ≤ F.1 8 + 1 ∧ F.1 8 + 1 ≤ N + 1 by omega), hcl, hsh, hnx, by omega, rx, ry, rh, fun j => (by have := rm j; omega : 0 ≤ F.2 3 j ∧ F.2 3 j ≤ N + 1), rc, rw9⟩
theorem okF_mf {N : Int} {F : eFs} {b : Int} (hF : okF N F) (hN : N + 1 ≤ 100000000) : okF (N + 1) (sMF F b) := by
  by_cases h0 : sStay F b
  · rw [(sMF_0 (sWay_0 h0)).1]; exact okF_mono (by omega) hF
  · by_cases h1 : F.2 1 b < F.2 1 (F.1 1) ∧ sPos F b (F.2 0 b) (F.2 1 b + 1)
    · rw [(sMF_1 (sWay_1 h0 h1)).1]; exact okF_mv hF hN h1.2.1
    · by_cases h2 : F.2 0 b < F.2 0 (F.1 1) ∧ sPos F b (F.2 0 b + 1) (F.2 1 b)
      · rw [(sMF_2 (sWay_2 h0 h1 h2)).1]; exact okF_mv hF hN h2.2.1
      · by_cases h3 : F.2 1 (F.1 1) < F.2 1 b ∧ sPos F b (F.2 0 b) (F.2 1 b - 1)
        · rw [(sMF_3 (sWay_3 h0 h1 h2 h3)).1]; exact okF_mv hF hN h3.2.1
        · by_cases h4 : F.2 0 (F.1 1) < F.2 0 b ∧ sPos F b (F.2 0 b - 1) (F.2 1 b)
          · rw [(sMF_4 (sWay_4 h0 h1 h2 h3 h4)).1]; exact okF_mv hF hN h4.2.1
          · rw [(sMF_5 (sWay_5 h0 h1 h2 h3 h4)).1]; exact okF_wt hF hN
theorem sMF_fix {F : eFs} {b : Int} : (sMF F b).1 0 = F.1 0 ∧ (sMF F b).1 1 = F.1 1 ∧ (sMF F b).1 4 = F.1 4 ∧ (sMF F b).1 7 = F.1 7 := by
  unfold sMF
  repeat' split
  all_goals exact ⟨rfl, rfl, rfl, rfl⟩
theorem okF_ml {N : Int} {F : eFs} (hF : okF N F) (hN : N + 1 ≤ 100000000) : okF (N + 1) (sML F) := by
  by_cases h0 : sOn F
  · rw [(sML_0 (sWayL_0 h0)).1]; exact okF_mono (by omega) hF
  · by_cases hx : sAlX F
    · by_cases h1 : sPos F (F.1 1) (sNX F) (sLY F)
      · rw [(sML_1 (sWayL_x1 h0 hx h1)).1]; exact okF_mv hF hN h1.1
      · by_cases h2 : ¬ sNY F = sLY F ∧ sPos F (F.1 1) (sLX F) (sNY F)
        · rw [(sML_2 (sWayL_x2 h0 hx h1 h2)).1]; exact okF_mv hF hN h2.2.1
        · rw [(sML_5 (sWayL_x5 h0 hx h1 h2)).1]; exact okF_wt hF hN
    · by_cases h1 : sPos F (F.1 1) (sLX F) (sNY F)
      · rw [(sML_2 (sWayL_y2 h0 hx h1)).1]; exact okF_mv hF hN h1.1
      · by_cases h2 : ¬ sNX F = sLX F ∧ sPos F (F.1 1) (sNX F) (sLY F)
        · rw [(sML_1 (sWayL_y1 h0 hx h1 h2)).1]; exact okF_mv hF hN h2.2.1
        · rw [(sML_5 (sWayL_y5 h0 hx h1 h2)).1]; exact okF_wt hF hN
theorem sML_fix {F : eFs} : (sML F).1 0 = F.1 0 ∧ (sML F).1 1 = F.1 1 ∧ (sML F).1 4 = F.1 4 ∧ (sML F).1 7 = F.1 7 := by
  unfold sML
  repeat' split
  all_goals exact ⟨rfl, rfl, rfl, rfl⟩
/-- the followers from b on -/
def sFols : Nat → Int → eFs → eFs
  | 0, _, F => F
  | k + 1, b, F => sFols k (b + 1) (sMF F b)
def sFolr : Nat → Int → eFs → Int
  | 0, _, _ => 0
  | k + 1, b, F => sMFr F b + sFolr k (b + 1) (sMF F b)
theorem sFols_go {n b : Int} {F : eFs} (h : b < n) : sFols (n - b).toNat b F = sFols (n - (b + 1)).toNat (b + 1) (sMF F b) ∧ sFolr (n - b).toNat b F = sMFr F b + sFolr (n - (b + 1)).toNat (b + 1) (sMF F b) := by
  rw [show (n - b).toNat = (n - (b + 1)).toNat + 1 by omega]
  exact ⟨rfl, rfl⟩
theorem sFols_end {n b : Int} {F : eFs} (h : n ≤ b) : sFols (n - b).toNat b F = F ∧ sFolr (n - b).toNat b F = 0 := by
  rw [show (n - b).toNat = 0 by omega]
  exact ⟨rfl, rfl⟩
def sFA (F : eFs) : eFs := sFols (F.1 0 - 0).toNat 0 F
def sFAr (F : eFs) : Int := sFolr (F.1 0 - 0).toNat 0 F
/-- the least one -/
def sMin (f : Int → Int) : Nat → Int → Int → Int
  | 0, _, m => m
  | k + 1, i, m => sMin f k (i + 1) (if f i < m then f i else m)
theorem sMin_go {f : Int → Int} {n i m : Int} (h : i < n) : sMin f (n - i).toNat i m = sMin f (n - (i + 1)).toNat (i + 1) (if f i < m then f i else m) := by
  rw [show (n - i).toNat = (n - (i + 1)).toNat + 1 by omega]
  rfl
theorem sMin_end {f : Int → Int} {n i m : Int} (h : n ≤ i) : sMin f (n - i).toNat i m = m := by
  rw [show (n - i).toNat = 0 by omega]
  rfl
theorem sMin_le {f : Int → Int} : ∀ (k : Nat) (i m : Int), sMin f k i m ≤ m ∧ (∀ j, i ≤ j → j < i + k → sMin f k i m ≤ f j) ∧ (sMin f k i m = m ∨ ∃ j, i ≤ j ∧ j < i + k ∧ sMin f k i m = f j) := by
  intro k
  induction k with
  | zero => intro i m; exact ⟨Int.le_refl _, fun j h1 h2 => by omega, Or.inl rfl⟩
  | succ k ih =>
    intro i m
    obtain ⟨h1, h2, h3⟩ := ih (i + 1) (if f i < m then f i else m)
    have e : sMin f (k + 1) i m = sMin f k (i + 1) (if f i < m then f i else m) := rfl
    rw [e]
    have hm : (if f i < m then f i else m) ≤ m ∧ (if f i < m then f i else m) ≤ f i := by split <;> omega
    refine ⟨by omega, fun j q1 q2 => ?_, ?_⟩
    · by_cases hj : j = i
      · subst hj; omega
      · exact h2 j (by omega) (by omega)
    · rcases h3 with h3 | ⟨j, q1, q2, q3⟩
      · by_cases hl : f i < m
        · rw [if_pos hl] at h3 ⊢
          exact Or.inr ⟨i, by omega, by omega, h3⟩
        · rw [if_neg hl] at h3 ⊢
          exact Or.inl h3
      · exact Or.inr ⟨j, by omega, by omega, q3⟩
def sLft (F : eFs) : Int := sMin (F.2 0) (F.1 0 - 0).toNat 0 12
def sLow (F : eFs) : Int := sMin (F.2 1) (F.1 0 - 0).toNat 0 12
theorem sLft_in {N : Int} {F : eFs} (hF : okF N F) : (0 ≤ sLft F ∧ sLft F ≤ 12 ∧ (∀ j, 0 ≤ j → j < F.1 0 → sLft F ≤ F.2 0 j)) ∧ (0 ≤ sLow F ∧ sLow F ≤ 12 ∧ (∀ j, 0 ≤ j → j < F.1 0 → sLow F ≤ F.2 1 j)) := by
  obtain ⟨hc, hld, hled, htn, hgo, hkp, hst, hwt, hcl, hsh, hnx, hN, rx, ry, rh, rm, rc, rw9⟩ := hF
  have h1 := sMin_le (f := F.2 0) (F.1 0 - 0).toNat 0 12
  have h2 := sMin_le (f := F.2 1) (F.1 0 - 0).toNat 0 12
  unfold sLft sLow
  refine ⟨⟨?_, h1.1, fun j a b => h1.2.1 j a (by omega)⟩, ⟨?_, h2.1, fun j a b => h2.2.1 j a (by omega)⟩⟩
  · rcases h1.2.2 with h | ⟨j, -, -, h⟩
    · omega
    · have := rx j; omega
  · rcases h2.2.2 with h | ⟨j, -, -, h⟩
    · omega
    · have := ry j; omega
theorem oL_bv (m : Nat) : Int64.ofInt (m : Int) = Int64.ofBitVec (BitVec.ofNat 64 m) := by
  unfold Int64.ofInt
  congr 1
theorem nI64 {m : Nat} (h : m < 9223372036854775808) : (Int64.ofBitVec (BitVec.ofNat 64 m)).toInt = m := by
  show (BitVec.ofNat 64 m).toInt = m
  rw [BitVec.toInt_eq_toNat_of_lt]
  · simp; omega
  · simp; omega
theorem lOr_n {m k : Nat} (hm : m < 9223372036854775808) (hk : k < 9223372036854775808) : lOr m k = ((m ||| k : Nat) : Int) := by
  unfold lOr
  rw [oL_bv, oL_bv]
  show (Int64.ofBitVec (BitVec.ofNat 64 m ||| BitVec.ofNat 64 k)).toInt = _
  rw [← BitVec.ofNat_or]
  exact nI64 (Nat.or_lt_two_pow (n := 63) hm hk)
theorem x48 {x : Int} (h0 : 0 ≤ x) (h1 : x < 48) : ∃ k : Fin 48, x = ((k : Nat) : Int) := ⟨⟨x.toNat, by omega⟩, by simp; omega⟩
theorem lShl_1 {x : Int} (h0 : 0 ≤ x) (h1 : x < 48) : lShl ((1 : Fin 2) : Nat) x = ((2 ^ x.toNat : Nat) : Int) := by
  obtain ⟨k, rfl⟩ := x48 h0 h1
  revert k
  decide
theorem p48 {x : Int} (h0 : 0 ≤ x) (h1 : x < 48) : 2 ^ x.toNat < 281474976710656 := by
  have : (2 : Nat) ^ x.toNat < 2 ^ 48 := Nat.pow_lt_pow_of_lt (by decide) (by omega)
  exact this
/-- a bit more in a word -/
def lBit (w x : Int) : Int := lOr w (lShl ((1 : Fin 2) : Nat) x)
theorem lBit_in {w x : Int} (hw : 0 ≤ w ∧ w < 281474976710656) (h0 : 0 ≤ x) (h1 : x < 48) : (0 ≤ lBit w x ∧ lBit w x < 281474976710656) ∧ ∀ k : Nat, (lBit w x).toNat.testBit k = (w.toNat.testBit k || decide (x.toNat = k)) := by
  have e : w = ((w.toNat : Nat) : Int) := by omega
  have hp := p48 h0 h1
  have h : lBit w x = ((w.toNat ||| 2 ^ x.toNat : Nat) : Int) := by
    unfold lBit
    conv => lhs; rw [lShl_1 h0 h1, e]
    exact lOr_n (by omega) (by omega)
  have hlt : w.toNat ||| 2 ^ x.toNat < 281474976710656 := Nat.or_lt_two_pow (n := 48) (by omega) hp
  rw [h]
  refine ⟨by omega, fun k => ?_⟩
  rw [Int.toNat_natCast, Nat.testBit_or, Nat.testBit_two_pow]
/-- the shape from basket k on, over the words Q -/
def sShWd (F : eFs) (k : Int) : Int := (F.2 1 k - sLow F).tdiv 4
def sShBt (F : eFs) (k : Int) : Int := (F.2 1 k - sLow F).tmod 4 * 12 + F.2 0 k - sLft F
def sShF (F : eFs) : Nat → Int → (Int → Int) → (Int → Int)
  | 0, _, Q => Q
  | n + 1, k, Q => sShF F n (k + 1) (eU Q (sShWd F k) (lBit (Q (sShWd F k)) (sShBt F k)))
theorem sShF_go {F : eFs} {n k : Int} {Q : Int → Int} (h : k < n) : sShF F (n - k).toNat k Q = sShF F (n - (k + 1)).toNat (k + 1) (eU Q (sShWd F k) (lBit (Q (sShWd F k)) (sShBt F k))) := by
  rw [show (n - k).toNat = (n - (k + 1)).toNat + 1 by omega]
  rfl
theorem sShF_end {F : eFs} {n k : Int} {Q : Int → Int} (h : n ≤ k) : sShF F (n - k).toNat k Q = Q := by
  rw [show (n - k).toNat = 0 by omega]
  rfl
def sShp (F : eFs) : Int → Int := sShF F (F.1 0 - 0).toNat 0 (fun _ => 0)
theorem sShWB {N : Int} {F : eFs} (hF : okF N F) {k : Int} (h0 : 0 ≤ k) (h1 : k < F.1 0) : (0 ≤ F.2 1 k - sLow F ∧ F.2 1 k - sLow F ≤ 11 ∧ 0 ≤ F.2 0 k - sLft F ∧ F.2 0 k - sLft F ≤ 11) ∧ sShWd F k = (F.2 1 k - sLow F) / 4 ∧ sShBt F k = (F.2 1 k - sLow F) % 4 * 12 + F.2 0 k - sLft F ∧ (0 ≤ sShWd F k ∧ sShWd F k ≤ 2) ∧ (0 ≤ sShBt F k ∧ sShBt F k < 48) := by
  have h2 := sLft_in hF
  obtain ⟨hc, hld, hled, htn, hgo, hkp, hst, hwt, hcl, hsh, hnx, hN, rx, ry, rh, rm, rc, rw9⟩ := hF
  have a1 := h2.1.2.2 k h0 h1
  have a2 := h2.2.2.2 k h0 h1
  have a3 := rx k
  have a4 := ry k
  have e1 : sShWd F k = (F.2 1 k - sLow F) / 4 := Int.tdiv_eq_ediv_of_nonneg (by omega)
  have e2 : sShBt F k = (F.2 1 k - sLow F) % 4 * 12 + F.2 0 k - sLft F := by unfold sShBt; rw [Int.tmod_eq_emod_of_nonneg (by omega)]
  refine ⟨by omega, e1, e2, ?_, ?_⟩
  · rw [e1]; omega
  · rw [e2]; omega
theorem sShF_in {N : Int} {F : eFs} (hF : okF N F) : ∀ (n : Nat) (k : Int) (Q : Int → Int), 0 ≤ k → k + n ≤ F.1 0 → sL48 Q → sL48 (sShF F n k Q) ∧ ∀ (w : Int) (t : Nat), (sShF F n k Q w).toNat.testBit t = true ↔ ((Q w).toNat.testBit t = true ∨ ∃ b, k ≤ b ∧ b < k + n ∧ sShWd F b = w ∧ sShBt F b = t) := by
  intro n
  induction n with
  | zero => intro k Q h0 h1 hQ; exact ⟨hQ, fun w t => ⟨Or.inl, fun h => h.elim id (fun ⟨b, q1, q2, _⟩ => by omega)⟩⟩
  | succ n ih =>
    intro k Q h0 h1 hQ
    have hb := sShWB hF h0 (show k < F.1 0 by omega)
    have l := lBit_in (hQ (sShWd F k)) hb.2.2.2.2.1 hb.2.2.2.2.2
    have hQ2 : sL48 (eU Q (sShWd F k) (lBit (Q (sShWd F k)) (sShBt F k))) := by
      intro j
      unfold eU
      split
      · exact l.1
      · exact hQ j
    obtain ⟨i1, i2⟩ := ih (k + 1) _ (by omega) (by omega) hQ2
    refine ⟨i1, fun w t => ?_⟩
    rw [show sShF F (n + 1) k Q = sShF F n (k + 1) (eU Q (sShWd F k) (lBit (Q (sShWd F k)) (sShBt F k))) from rfl, i2]
    have e : (eU Q (sShWd F k) (lBit (Q (sShWd F k)) (sShBt F k)) w).toNat.testBit t = true ↔ ((Q w).toNat.testBit t = true ∨ (sShWd F k = w ∧ sShBt F k = t)) := by
      unfold eU
      by_cases hw : w = sShWd F k
      · rw [if_pos hw, l.2 t, hw]
        simp only [Bool.or_eq_true, decide_eq_true_eq]
        constructor
        · rintro (q | q)
          · exact Or.inl q
          · exact Or.inr (by refine ⟨?_, ?_⟩ <;> first | trivial | rfl | omega)
        · rintro (q | q)
          · exact Or.inl q
          · exact Or.inr (by have := q.2; omega)
      · rw [if_neg hw]
        exact ⟨Or.inl, fun q => q.elim id (fun q => absurd q.1.symm hw)⟩
    rw [e]
    constructor
    · rintro ((q | q) | ⟨b, q1, q2, q3⟩)
      · exact Or.inl q
      · exact Or.inr ⟨k, by omega, by omega, q⟩
      · exact Or.inr ⟨b, by omega, by omega, q3⟩
    · rintro (q | ⟨b, q1, q2, q3⟩)
      · exact Or.inl (Or.inl q)
      · by_cases hbk : b = k
        · exact Or.inl (Or.inr (hbk ▸ q3))
        · exact Or.inr ⟨b, by omega, by omega, q3⟩
theorem sShp_in {N : Int} {F : eFs} (hF : okF N F) : sL48 (sShp F) ∧ ∀ (w : Int) (t : Nat), (sShp F w).toNat.testBit t = true ↔ ∃ b, 0 ≤ b ∧ b < F.1 0 ∧ sShWd F b = w ∧ sShBt F b = t := by
  have hc := hF.1
  have h := sShF_in hF (F.1 0 - 0).toNat 0 (fun _ => 0) (by omega) (by omega) (fun _ => ⟨Int.le_refl 0, (by decide : (0 : Int) < 281474976710656)⟩)
  refine ⟨h.1, fun w t => ?_⟩
  unfold sShp
  rw [h.2 w t]
  have e : ((0 : Int) + ((F.1 0 - 0).toNat : Int)) = F.1 0 := by omega
  rw [e]
  simp
/-- the shape is remembered -/
def sRem (F : eFs) : eFs := if 0 < F.1 0 then sS (sS (sR F 5 (eCy (sShp F) (F.2 5) 0 (F.1 11 * 3) 3)) 10 (if F.1 10 + 1 < 16 then F.1 10 + 1 else 16)) 11 (if F.1 11 + 1 < 16 then F.1 11 + 1 else 0) else F
def sRemP (F : eFs) (P : Int → Int) : Int → Int := if 0 < F.1 0 then sShp F else P
theorem sRem_y {F : eFs} {P : Int → Int} (h : 0 < F.1 0) : sRem F = sS (sS (sR F 5 (eCy (sShp F) (F.2 5) 0 (F.1 11 * 3) 3)) 10 (if F.1 10 + 1 < 16 then F.1 10 + 1 else 16)) 11 (if F.1 11 + 1 < 16 then F.1 11 + 1 else 0) ∧ sRemP F P = sShp F := ⟨if_pos h, if_pos h⟩
theorem sRem_n {F : eFs} {P : Int → Int} (h : ¬ 0 < F.1 0) : sRem F = F ∧ sRemP F P = P := ⟨if_neg h, if_neg h⟩
def sSince (F : eFs) : Int := eFB (fun k => sEq3 (F.2 5) ((F.1 11 - 1 - k) % 16) (sShp F) 0) (F.1 10) 0
theorem okF_rem {N : Int} {F : eFs} (hF : okF N F) : okF N (sRem F) := by
  have hs := sShp_in hF
  have hF0 := hF
  obtain ⟨hc, hld, hled, htn, hgo, hkp, hst, hwt, hcl, hsh, hnx, hN0, rx, ry, rh, rm, rc, rw9⟩ := hF
  unfold sRem
  split
  · refine ⟨hc, hld, hled, htn, hgo, hkp, hst, hwt, hcl, ?_, ?_, hN0, rx, ry, rh, rm, rc, fun j => ?_⟩
    · show 0 ≤ (if F.1 10 + 1 < 16 then F.1 10 + 1 else 16) ∧ (if F.1 10 + 1 < 16 then F.1 10 + 1 else 16) ≤ 16
      split <;> omega
    · show 0 ≤ (if F.1 11 + 1 < 16 then F.1 11 + 1 else 0) ∧ (if F.1 11 + 1 < 16 then F.1 11 + 1 else 0) ≤ 15 ∧ ((if F.1 10 + 1 < 16 then F.1 10 + 1 else 16) < 16 → (if F.1 11 + 1 < 16 then F.1 11 + 1 else 0) = (if F.1 10 + 1 < 16 then F.1 10 + 1 else 16))
      split <;> split <;> omega
    · show 0 ≤ eCy (sShp F) (F.2 5) 0 (F.1 11 * 3) 3 j ∧ eCy (sShp F) (F.2 5) 0 (F.1 11 * 3) 3 j < 281474976710656
      unfold eCy
      split
      · exact hs.1 _
      · exact rw9 j
  · exact hF0
theorem sRem_fix {F : eFs} : (sRem F).1 0 = F.1 0 ∧ (sRem F).1 1 = F.1 1 ∧ (sRem F).1 4 = F.1 4 ∧ (sRem F).1 7 = F.1 7 := by
  unfold sRem
  split
  all_goals exact ⟨rfl, rfl, rfl, rfl⟩
def sTik (F : eFs) : eFs := sS F 7 (F.1 7 + 1)
theorem okF_tik {N : Int} {F : eFs} (hF : okF N F) (hN : N + 1 ≤ 100000000) : okF (N + 1) (sTik F) := by
  obtain ⟨hc, hld, hled, htn, hgo, hkp, hst, hwt, hcl, hsh, hnx, hN0, rx, ry, rh, rm, rc, rw9⟩ := hF
  exact ⟨hc, hld, hled, htn, hgo, hkp, (show 0 ≤ F.1 7 + 1 ∧ F.1 7 + 1 ≤ N + 1 by omega), (show 0 ≤ F.1 8 ∧ F.1 8 ≤ N + 1 by omega), hcl, hsh, hnx, by omega, rx, ry, rh, fun j => (by have := rm j; omega : 0 ≤ F.2 3 j ∧ F.2 3 j ≤ N + 1), rc, rw9⟩
theorem okF_pl {N : Int} {F : eFs} (hF : okF N F) : okF N (sPL F) := by
  have hF0 := hF
  obtain ⟨hc, hld, hled, htn, hgo, hkp, hst, hwt, hcl, hsh, hnx, hN0, rx, ry, rh, rm, rc, rw9⟩ := hF
  unfold sPL
  split
  · exact hF0
  · split
    · exact ⟨hc, hld, (show 0 ≤ F.1 2 + 1 ∧ F.1 2 + 1 < F.1 3 ∧ (F.1 0 = 0 → F.1 2 + 1 = 0) by omega), htn, hgo, hkp, hst, hwt, hcl, hsh, hnx, hN0, rx, ry, rh, rm, rc, rw9⟩
    · refine ⟨hc, ?_, (show (0 : Int) ≤ 0 ∧ 0 < F.1 3 ∧ (F.1 0 = 0 → (0 : Int) = 0) by omega), htn, hgo, hkp, hst, hwt, hcl, hsh, hnx, hN0, rx, ry, rh, rm, rc, rw9⟩
      show 0 ≤ (if F.1 1 + 1 < F.1 0 then F.1 1 + 1 else 0) ∧ (if F.1 1 + 1 < F.1 0 then F.1 1 + 1 else 0) ≤ 9 ∧ ((if F.1 1 + 1 < F.1 0 then F.1 1 + 1 else 0) < F.1 0 ∨ (if F.1 1 + 1 < F.1 0 then F.1 1 + 1 else 0) = 0)
      split <;> omega
theorem sPL_fix {F : eFs} : (sPL F).1 0 = F.1 0 ∧ (sPL F).1 4 = F.1 4 ∧ (sPL F).1 7 = F.1 7 := by
  unfold sPL
  repeat' split
  all_goals exact ⟨rfl, rfl, rfl⟩
/-- a step, and n of them -/
def sStp (F : eFs) : eFs := sPL (sTik (sRem (sFA (sML F))))
def sStpR (F : eFs) : Int := sMLr F + sFAr (sML F)
def sStpP (F : eFs) (P : Int → Int) : Int → Int := sRemP (sFA (sML F)) P
def sSts : Nat → eFs → eFs
  | 0, F => F
  | k + 1, F => sSts k (sStp F)
def sStsR : Nat → eFs → Int
  | 0, _ => 0
  | k + 1, F => sStpR F + sStsR k (sStp F)
def sStsP : Nat → eFs → (Int → Int) → (Int → Int)
  | 0, _, P => P
  | k + 1, F, P => sStsP k (sStp F) (sStpP F P)
theorem sSts_go {n i : Int} {F : eFs} {P : Int → Int} (h : i < n) : sSts (n - i).toNat F = sSts (n - (i + 1)).toNat (sStp F) ∧ sStsR (n - i).toNat F = sStpR F + sStsR (n - (i + 1)).toNat (sStp F) ∧ sStsP (n - i).toNat F P = sStsP (n - (i + 1)).toNat (sStp F) (sStpP F P) := by
  rw [show (n - i).toNat = (n - (i + 1)).toNat + 1 by omega]
  exact ⟨rfl, rfl, rfl⟩
theorem sSts_end {n i : Int} {F : eFs} {P : Int → Int} (h : n ≤ i) : sSts (n - i).toNat F = F ∧ sStsR (n - i).toNat F = 0 ∧ sStsP (n - i).toNat F P = P := by
  rw [show (n - i).toNat = 0 by omega]
  exact ⟨rfl, rfl, rfl⟩
theorem okF_fols {N : Int} : ∀ (k : Nat) (b : Int) (F : eFs), okF N F → N + k ≤ 100000000 → okF (N + k) (sFols k b F) ∧ (sFols k b F).1 0 = F.1 0 ∧ (sFols k b F).1 1 = F.1 1 ∧ (sFols k b F).1 4 = F.1 4 ∧ (sFols k b F).1 7 = F.1 7 := by
  intro k
  induction k generalizing N with
  | zero => intro b F hF hN; exact ⟨by rw [show N + ((0 : Nat) : Int) = N by omega]; exact hF, rfl, rfl, rfl, rfl⟩
  | succ k ih =>
    intro b F hF hN
    have h1 := okF_mf (b := b) hF (by omega)
    have f1 := sMF_fix (F := F) (b := b)
    obtain ⟨i1, i2, i3, i4, i5⟩ := ih (b + 1) (sMF F b) h1 (by omega)
    refine ⟨?_, i2.trans f1.1, i3.trans f1.2.1, i4.trans f1.2.2.1, i5.trans f1.2.2.2⟩
    rw [show N + ((k + 1 : Nat) : Int) = N + 1 + (k : Int) by omega]
    exact i1
theorem okF_stp {N : Int} {F : eFs} (hF : okF N F) (hN : N + 12 ≤ 100000000) : okF (N + 12) (sStp F) := by
  have h1 := okF_ml hF (by omega)
  have hc := h1.1
  have h2 := (okF_fols ((sML F).1 0 - 0).toNat 0 (sML F) h1 (by omega)).1
  have h3 := okF_mono (N2 := N + 11) (by omega) h2
  have h4 := okF_pl (okF_tik (okF_rem h3) (by omega))
  exact okF_mono (by omega) h4
theorem sStp_fix {N : Int} {F : eFs} (hF : okF N F) (hN : N + 12 ≤ 100000000) : (sStp F).1 0 = F.1 0 ∧ (sStp F).1 4 = F.1 4 ∧ (sStp F).1 7 = F.1 7 + 1 := by
  have h1 := okF_ml hF (by omega)
  have hc := h1.1
  have h2 := (okF_fols ((sML F).1 0 - 0).toNat 0 (sML F) h1 (by omega)).2
  have h3 := sRem_fix (F := sFA (sML F))
  have h4 := sPL_fix (F := sTik (sRem (sFA (sML F))))
  have h5 := sML_fix (F := F)
  refine ⟨h4.1.trans (h3.1.trans (h2.1.trans h5.1)), h4.2.1.trans (h3.2.2.1.trans (h2.2.2.1.trans h5.2.2.1)), h4.2.2.trans ?_⟩
  show (sRem (sFA (sML F))).1 7 + 1 = F.1 7 + 1
  rw [h3.2.2.2.trans (h2.2.2.2.trans h5.2.2.2)]
theorem okF_sts {N : Int} : ∀ (k : Nat) (F : eFs), okF N F → N + 12 * k ≤ 100000000 → okF (N + 12 * k) (sSts k F) ∧ (sSts k F).1 0 = F.1 0 ∧ (sSts k F).1 4 = F.1 4 ∧ (sSts k F).1 7 = F.1 7 + k := by
  intro k
  induction k generalizing N with
  | zero => intro F hF hN; exact ⟨by rw [show N + 12 * ((0 : Nat) : Int) = N by omega]; exact hF, rfl, rfl, by show F.1 7 = F.1 7 + ((0 : Nat) : Int); omega⟩
  | succ k ih =>
    intro F hF hN
    have h1 := okF_stp hF (by omega)
    have f1 := sStp_fix hF (by omega)
    obtain ⟨i1, i2, i3, i4⟩ := ih (sStp F) h1 (by omega)
    refine ⟨?_, i2.trans f1.1, i3.trans f1.2.1, ?_⟩
    · rw [show N + 12 * ((k + 1 : Nat) : Int) = N + 12 + 12 * (k : Int) by omega]
      exact i1
    · show (sSts k (sStp F)).1 7 = _
      rw [i4, f1.2.2]; omega

theorem C_X2_moveLeader {X : eXT} {a : Nat → Nat} {N : Int} {F : eFs} {P : Int → Int} (hF : okF N F)  :
    EM X mX2_moveLeader (eRm 4) a [.ref (a 0)] (wFl a F P) (eRet (some (vi (sMLr F))) a (wFl a (sML F) P)) := by
  refine EM.of (by decide +kernel) rfl (Nat.le_of_ble_eq_true rfl) ?_
  have hF0 := hF
  obtain ⟨hc, hld, hled, htn, hgo, hkp, hst, hwt, hcl, hsh, hnx, hN, rx, ry, rh, rm, rc, rw9⟩ := hF
  have b1 := rx (F.1 1)
  have b2 := ry (F.1 1)
  have n1 : -1 ≤ sTw (F.2 0 (F.1 1)) (F.1 4) ∧ sTw (F.2 0 (F.1 1)) (F.1 4) ≤ 12 := by unfold sTw; (repeat' split) <;> omega
  have n2 : -1 ≤ sTw (F.2 1 (F.1 1)) (F.1 5) ∧ sTw (F.2 1 (F.1 1)) (F.1 5) ≤ 12 := by unfold sTw; (repeat' split) <;> omega
  have u := fun q : ¬ F.1 4 = -1 => sD_in hF0 (F.1 1) (F.1 4) (F.1 5) (by omega) (by omega)
  refine e_aload_n dX2_moveLeader_0 rfl rfl ?_
  refine e_aload_n dX2_moveLeader_1 rfl rfl ?_
  refine e_getfield fd_X2_46 dX2_moveLeader_2 rfl rfl rfl rfl ?_
  refine e_cV0 [0, 1, 2, 3, 4, 5, 6, 7, 8, 9] lk_X2_90 rfl dX2_moveLeader_5 rfl (C_X2_has hF0 (by omega)) rfl rfl (Nat.le_of_ble_eq_true rfl) (Nat.le_of_ble_eq_true rfl) (Nat.le_of_ble_eq_true rfl) ⟨rfl, rfl⟩ rfl rfl rfl rfl rfl rfl  ?_
  refine e_ifb_eq (t := 25) dX2_moveLeader_8 rfl rfl (fun h8 => ?_) (fun h8 => ?_)
  · refine e_iconst dX2_moveLeader_25 rfl ?_
    exact e_iret dX2_moveLeader_26 rfl rfl (eRet_i (by first | exact (sML_0 (sWayL_0 (F := F) (by omega))).2.symm | exact (sML_1 (sWayL_x1 (F := F) (by omega) (show eAbs (F.1 5 - F.2 1 (F.1 1)) ≤ eAbs (F.1 4 - F.2 0 (F.1 1)) by omega) h154)).2.symm | exact (sML_2 (sWayL_x2 (F := F) (by omega) (show eAbs (F.1 5 - F.2 1 (F.1 1)) ≤ eAbs (F.1 4 - F.2 0 (F.1 1)) by omega) h154 ⟨(show ¬ sTw (F.2 1 (F.1 1)) (F.1 5) = F.2 1 (F.1 1) by omega), h193⟩)).2.symm | exact (sML_5 (sWayL_x5 (F := F) (by omega) (show eAbs (F.1 5 - F.2 1 (F.1 1)) ≤ eAbs (F.1 4 - F.2 0 (F.1 1)) by omega) h154 (fun q => by have q1 : ¬ sTw (F.2 1 (F.1 1)) (F.1 5) = F.2 1 (F.1 1) := q.1; first | omega | exact absurd q.2 h193))).2.symm | exact (sML_2 (sWayL_y2 (F := F) (by omega) (show ¬ eAbs (F.1 5 - F.2 1 (F.1 1)) ≤ eAbs (F.1 4 - F.2 0 (F.1 1)) by omega) h154)).2.symm | exact (sML_1 (sWayL_y1 (F := F) (by omega) (show ¬ eAbs (F.1 5 - F.2 1 (F.1 1)) ≤ eAbs (F.1 4 - F.2 0 (F.1 1)) by omega) h154 ⟨(show ¬ sTw (F.2 0 (F.1 1)) (F.1 4) = F.2 0 (F.1 1) by omega), h193⟩)).2.symm | exact (sML_5 (sWayL_y5 (F := F) (by omega) (show ¬ eAbs (F.1 5 - F.2 1 (F.1 1)) ≤ eAbs (F.1 4 - F.2 0 (F.1 1)) by omega) h154 (fun q => by have q1 : ¬ sTw (F.2 0 (F.1 1)) (F.1 4) = F.2 0 (F.1 1) := q.1; first | omega | exact absurd q.2 h193))).2.symm) (by first | (rw [(sML_0 (sWayL_0 (F := F) (by omega))).1] <;> rfl) | (rw [(sML_1 (sWayL_x1 (F := F) (by omega) (show eAbs (F.1 5 - F.2 1 (F.1 1)) ≤ eAbs (F.1 4 - F.2 0 (F.1 1)) by omega) h154)).1] <;> rfl) | (rw [(sML_2 (sWayL_x2 (F := F) (by omega) (show eAbs (F.1 5 - F.2 1 (F.1 1)) ≤ eAbs (F.1 4 - F.2 0 (F.1 1)) by omega) h154 ⟨(show ¬ sTw (F.2 1 (F.1 1)) (F.1 5) = F.2 1 (F.1 1) by omega), h193⟩)).1] <;> rfl) | (rw [(sML_5 (sWayL_x5 (F := F) (by omega) (show eAbs (F.1 5 - F.2 1 (F.1 1)) ≤ eAbs (F.1 4 - F.2 0 (F.1 1)) by omega) h154 (fun q => by have q1 : ¬ sTw (F.2 1 (F.1 1)) (F.1 5) = F.2 1 (F.1 1) := q.1; first | omega | exact absurd q.2 h193))).1] <;> rfl) | (rw [(sML_2 (sWayL_y2 (F := F) (by omega) (show ¬ eAbs (F.1 5 - F.2 1 (F.1 1)) ≤ eAbs (F.1 4 - F.2 0 (F.1 1)) by omega) h154)).1] <;> rfl) | (rw [(sML_1 (sWayL_y1 (F := F) (by omega) (show ¬ eAbs (F.1 5 - F.2 1 (F.1 1)) ≤ eAbs (F.1 4 - F.2 0 (F.1 1)) by omega) h154 ⟨(show ¬ sTw (F.2 0 (F.1 1)) (F.1 4) = F.2 0 (F.1 1) by omega), h193⟩)).1] <;> rfl) | (rw [(sML_5 (sWayL_y5 (F := F) (by omega) (show ¬ eAbs (F.1 5 - F.2 1 (F.1 1)) ≤ eAbs (F.1 4 - F.2 0 (F.1 1)) by omega) h154 (fun q => by have q1 : ¬ sTw (F.2 0 (F.1 1)) (F.1 4) = F.2 0 (F.1 1) := q.1; first | omega | exact absurd q.2 h193))).1] <;> rfl)))
  · refine e_aload_n dX2_moveLeader_11 rfl rfl ?_
    refine e_cV0 [0, 1, 2, 3, 4, 5, 6, 7, 8, 9] lk_X2_165 rfl dX2_moveLeader_12 rfl (C_X2_hasTarget hF0) rfl rfl (Nat.le_of_ble_eq_true rfl) (Nat.le_of_ble_eq_true rfl) (Nat.le_of_ble_eq_true rfl) ⟨rfl, rfl⟩ rfl rfl rfl rfl rfl rfl  ?_
    refine e_ifb_eq (t := 25) dX2_moveLeader_15 rfl rfl (fun h15 => ?_) (fun h15 => ?_)
    · refine e_iconst dX2_moveLeader_25 rfl ?_
      exact e_iret dX2_moveLeader_26 rfl rfl (eRet_i (by first | exact (sML_0 (sWayL_0 (F := F) (by omega))).2.symm | exact (sML_1 (sWayL_x1 (F := F) (by omega) (show eAbs (F.1 5 - F.2 1 (F.1 1)) ≤ eAbs (F.1 4 - F.2 0 (F.1 1)) by omega) h154)).2.symm | exact (sML_2 (sWayL_x2 (F := F) (by omega) (show eAbs (F.1 5 - F.2 1 (F.1 1)) ≤ eAbs (F.1 4 - F.2 0 (F.1 1)) by omega) h154 ⟨(show ¬ sTw (F.2 1 (F.1 1)) (F.1 5) = F.2 1 (F.1 1) by omega), h193⟩)).2.symm | exact (sML_5 (sWayL_x5 (F := F) (by omega) (show eAbs (F.1 5 - F.2 1 (F.1 1)) ≤ eAbs (F.1 4 - F.2 0 (F.1 1)) by omega) h154 (fun q => by have q1 : ¬ sTw (F.2 1 (F.1 1)) (F.1 5) = F.2 1 (F.1 1) := q.1; first | omega | exact absurd q.2 h193))).2.symm | exact (sML_2 (sWayL_y2 (F := F) (by omega) (show ¬ eAbs (F.1 5 - F.2 1 (F.1 1)) ≤ eAbs (F.1 4 - F.2 0 (F.1 1)) by omega) h154)).2.symm | exact (sML_1 (sWayL_y1 (F := F) (by omega) (show ¬ eAbs (F.1 5 - F.2 1 (F.1 1)) ≤ eAbs (F.1 4 - F.2 0 (F.1 1)) by omega) h154 ⟨(show ¬ sTw (F.2 0 (F.1 1)) (F.1 4) = F.2 0 (F.1 1) by omega), h193⟩)).2.symm | exact (sML_5 (sWayL_y5 (F := F) (by omega) (show ¬ eAbs (F.1 5 - F.2 1 (F.1 1)) ≤ eAbs (F.1 4 - F.2 0 (F.1 1)) by omega) h154 (fun q => by have q1 : ¬ sTw (F.2 0 (F.1 1)) (F.1 4) = F.2 0 (F.1 1) := q.1; first | omega | exact absurd q.2 h193))).2.symm) (by first | (rw [(sML_0 (sWayL_0 (F := F) (by omega))).1] <;> rfl) | (rw [(sML_1 (sWayL_x1 (F := F) (by omega) (show eAbs (F.1 5 - F.2 1 (F.1 1)) ≤ eAbs (F.1 4 - F.2 0 (F.1 1)) by omega) h154)).1] <;> rfl) | (rw [(sML_2 (sWayL_x2 (F := F) (by omega) (show eAbs (F.1 5 - F.2 1 (F.1 1)) ≤ eAbs (F.1 4 - F.2 0 (F.1 1)) by omega) h154 ⟨(show ¬ sTw (F.2 1 (F.1 1)) (F.1 5) = F.2 1 (F.1 1) by omega), h193⟩)).1] <;> rfl) | (rw [(sML_5 (sWayL_x5 (F := F) (by omega) (show eAbs (F.1 5 - F.2 1 (F.1 1)) ≤ eAbs (F.1 4 - F.2 0 (F.1 1)) by omega) h154 (fun q => by have q1 : ¬ sTw (F.2 1 (F.1 1)) (F.1 5) = F.2 1 (F.1 1) := q.1; first | omega | exact absurd q.2 h193))).1] <;> rfl) | (rw [(sML_2 (sWayL_y2 (F := F) (by omega) (show ¬ eAbs (F.1 5 - F.2 1 (F.1 1)) ≤ eAbs (F.1 4 - F.2 0 (F.1 1)) by omega) h154)).1] <;> rfl) | (rw [(sML_1 (sWayL_y1 (F := F) (by omega) (show ¬ eAbs (F.1 5 - F.2 1 (F.1 1)) ≤ eAbs (F.1 4 - F.2 0 (F.1 1)) by omega) h154 ⟨(show ¬ sTw (F.2 0 (F.1 1)) (F.1 4) = F.2 0 (F.1 1) by omega), h193⟩)).1] <;> rfl) | (rw [(sML_5 (sWayL_y5 (F := F) (by omega) (show ¬ eAbs (F.1 5 - F.2 1 (F.1 1)) ≤ eAbs (F.1 4 - F.2 0 (F.1 1)) by omega) h154 (fun q => by have q1 : ¬ sTw (F.2 0 (F.1 1)) (F.1 4) = F.2 0 (F.1 1) := q.1; first | omega | exact absurd q.2 h193))).1] <;> rfl)))
    · refine e_aload_n dX2_moveLeader_18 rfl rfl ?_
      refine e_cV0 [0, 1, 2, 3, 4, 5, 6, 7, 8, 9] lk_X2_169 rfl dX2_moveLeader_19 rfl (C_X2_leaderIsOnTarget hF0 (by omega)) rfl rfl (Nat.le_of_ble_eq_true rfl) (Nat.le_of_ble_eq_true rfl) (Nat.le_of_ble_eq_true rfl) ⟨rfl, rfl⟩ rfl rfl rfl rfl rfl rfl  ?_
      refine e_ifb_eq (t := 27) dX2_moveLeader_22 rfl rfl (fun h22 => ?_) (fun h22 => ?_)
      · refine e_aload_n dX2_moveLeader_27 rfl rfl ?_
        refine e_getfield fd_X2_9 dX2_moveLeader_28 rfl rfl rfl rfl ?_
        refine e_aload_n dX2_moveLeader_31 rfl rfl ?_
        refine e_getfield fd_X2_46 dX2_moveLeader_32 rfl rfl rfl rfl ?_
        refine e_ialoadB dX2_moveLeader_35 rfl rfl rfl (by omega) (by decide) rx ?_
        intro b35
        refine f_istore_n dX2_moveLeader_36 rfl (Nat.le_of_ble_eq_true rfl) rfl ?_
        refine e_aload_n dX2_moveLeader_37 rfl rfl ?_
        refine e_getfield fd_X2_15 dX2_moveLeader_38 rfl rfl rfl rfl ?_
        refine e_aload_n dX2_moveLeader_41 rfl rfl ?_
        refine e_getfield fd_X2_46 dX2_moveLeader_42 rfl rfl rfl rfl ?_
        refine e_ialoadB dX2_moveLeader_45 rfl rfl rfl (by omega) (by decide) ry ?_
        intro b45
        refine f_istore_n dX2_moveLeader_46 rfl (Nat.le_of_ble_eq_true rfl) rfl ?_
        refine e_iload_n dX2_moveLeader_47 rfl rfl ?_
        refine e_aload_n dX2_moveLeader_48 rfl rfl ?_
        refine e_getfield fd_X2_55 dX2_moveLeader_49 rfl rfl rfl rfl ?_
        refine e_cS0 [] lk_X2_172 rfl dX2_moveLeader_52 rfl (C_X2_oneTowards (by omega) (by omega)) rfl rfl (Nat.le_of_ble_eq_true rfl) (Nat.le_of_ble_eq_true rfl) (Nat.le_of_ble_eq_true rfl) ⟨rfl, rfl⟩ rfl rfl  ?_
        refine f_istore_n dX2_moveLeader_55 rfl (Nat.le_of_ble_eq_true rfl) rfl ?_
        refine e_iload_n dX2_moveLeader_56 rfl rfl ?_
        refine e_aload_n dX2_moveLeader_57 rfl rfl ?_
        refine e_getfield fd_X2_58 dX2_moveLeader_58 rfl rfl rfl rfl ?_
        refine e_cS0 [] lk_X2_172 rfl dX2_moveLeader_61 rfl (C_X2_oneTowards (by omega) (by omega)) rfl rfl (Nat.le_of_ble_eq_true rfl) (Nat.le_of_ble_eq_true rfl) (Nat.le_of_ble_eq_true rfl) ⟨rfl, rfl⟩ rfl rfl  ?_
        refine f_istore dX2_moveLeader_64 rfl (Nat.le_of_ble_eq_true rfl) rfl ?_
        refine e_aload_n dX2_moveLeader_66 rfl rfl ?_
        refine e_getfield fd_X2_55 dX2_moveLeader_67 rfl rfl rfl rfl ?_
        refine e_iload_n dX2_moveLeader_70 rfl rfl ?_
        refine e_isub dX2_moveLeader_71 rfl ?_
        refine e_absA ma_X2_175 dX2_moveLeader_72 rfl (Nat.le_of_ble_eq_true rfl) (Nat.le_of_ble_eq_true rfl) (by omega) ?_
        intro q72
        refine e_aload_n dX2_moveLeader_75 rfl rfl ?_
        refine e_getfield fd_X2_58 dX2_moveLeader_76 rfl rfl rfl rfl ?_
        refine e_iload_n dX2_moveLeader_79 rfl rfl ?_
        refine e_isub dX2_moveLeader_80 rfl ?_
        refine e_absA ma_X2_175 dX2_moveLeader_81 rfl (Nat.le_of_ble_eq_true rfl) (Nat.le_of_ble_eq_true rfl) (by omega) ?_
        intro q81
        refine e_icmp_lt (t := 91) dX2_moveLeader_84 rfl rfl (by omega) (by omega) (fun h84 => ?_) (fun h84 => ?_)
        · refine e_iconst dX2_moveLeader_91 rfl ?_
          refine f_istore dX2_moveLeader_92 rfl (Nat.le_of_ble_eq_true rfl) rfl ?_
          refine e_iload dX2_moveLeader_94 rfl rfl ?_
          refine e_if_eq (t := 113) dX2_moveLeader_96 rfl rfl (by decide) (fun _ => ?_) (fun h => absurd h (by decide))
          refine e_iload_n dX2_moveLeader_113 rfl rfl ?_
          refine e_iload_n dX2_moveLeader_114 rfl rfl ?_
          refine e_icmp_eq (t := 122) dX2_moveLeader_115 rfl rfl (by omega) (by omega) (fun h115 => ?_) (fun h115 => ?_)
          · refine e_iconst dX2_moveLeader_122 rfl ?_
            refine f_istore dX2_moveLeader_123 rfl (Nat.le_of_ble_eq_true rfl) rfl ?_
            refine e_aload_n dX2_moveLeader_125 rfl rfl ?_
            refine e_aload_n dX2_moveLeader_126 rfl rfl ?_
            refine e_getfield fd_X2_46 dX2_moveLeader_127 rfl rfl rfl rfl ?_
            refine e_iload dX2_moveLeader_130 rfl rfl ?_
            refine e_if_eq (t := 139) dX2_moveLeader_132 rfl rfl (by decide) (fun _ => ?_) (fun h => absurd h (by decide))
            refine e_iload_n dX2_moveLeader_139 rfl rfl ?_
            refine e_iload dX2_moveLeader_140 rfl rfl ?_
            refine e_if_eq (t := 149) dX2_moveLeader_142 rfl rfl (by decide) (fun _ => ?_) (fun h => absurd h (by decide))
            refine e_iload dX2_moveLeader_149 rfl rfl ?_
            refine e_cV2 [0, 1, 2, 3, 4, 5, 6, 7, 8, 9] lk_X2_180 rfl dX2_moveLeader_151 rfl (C_X2_goTo hF0 (by omega) (by omega) (by omega)) rfl rfl (Nat.le_of_ble_eq_true rfl) (Nat.le_of_ble_eq_true rfl) (Nat.le_of_ble_eq_true rfl) ⟨rfl, rfl⟩ rfl rfl rfl rfl rfl rfl rfl rfl ?_
            refine e_ifb_eq (t := 159) dX2_moveLeader_154 rfl rfl (fun h154 => ?_) (fun h154 => ?_)
            · refine EV.ceq (cs' := wFl a F P) (by rw [sGo_n h154] <;> rfl) ?_
              refine e_iload dX2_moveLeader_159 rfl rfl ?_
              refine e_if_eq (t := 198) dX2_moveLeader_161 rfl rfl (by decide) (fun _ => ?_) (fun h => absurd h (by decide))
              refine e_aload_n dX2_moveLeader_198 rfl rfl ?_
              refine e_dup dX2_moveLeader_199 rfl rfl ?_
              refine e_getfield fd_X2_67 dX2_moveLeader_200 rfl rfl rfl rfl ?_
              refine e_iconst dX2_moveLeader_203 rfl ?_
              refine e_iadd dX2_moveLeader_204 rfl ?_
              refine e_putfield fd_X2_67 dX2_moveLeader_205 rfl rfl rfl (Nat.le_of_ble_eq_true rfl) rfl rfl ?_
              refine e_iconst dX2_moveLeader_208 rfl ?_
              exact e_iret dX2_moveLeader_209 rfl rfl (eRet_i (by first | exact (sML_0 (sWayL_0 (F := F) (by omega))).2.symm | exact (sML_1 (sWayL_x1 (F := F) (by omega) (show eAbs (F.1 5 - F.2 1 (F.1 1)) ≤ eAbs (F.1 4 - F.2 0 (F.1 1)) by omega) h154)).2.symm | exact (sML_2 (sWayL_x2 (F := F) (by omega) (show eAbs (F.1 5 - F.2 1 (F.1 1)) ≤ eAbs (F.1 4 - F.2 0 (F.1 1)) by omega) h154 ⟨(show ¬ sTw (F.2 1 (F.1 1)) (F.1 5) = F.2 1 (F.1 1) by omega), h193⟩)).2.symm | exact (sML_5 (sWayL_x5 (F := F) (by omega) (show eAbs (F.1 5 - F.2 1 (F.1 1)) ≤ eAbs (F.1 4 - F.2 0 (F.1 1)) by omega) h154 (fun q => by have q1 : ¬ sTw (F.2 1 (F.1 1)) (F.1 5) = F.2 1 (F.1 1) := q.1; first | omega | exact absurd q.2 h193))).2.symm | exact (sML_2 (sWayL_y2 (F := F) (by omega) (show ¬ eAbs (F.1 5 - F.2 1 (F.1 1)) ≤ eAbs (F.1 4 - F.2 0 (F.1 1)) by omega) h154)).2.symm | exact (sML_1 (sWayL_y1 (F := F) (by omega) (show ¬ eAbs (F.1 5 - F.2 1 (F.1 1)) ≤ eAbs (F.1 4 - F.2 0 (F.1 1)) by omega) h154 ⟨(show ¬ sTw (F.2 0 (F.1 1)) (F.1 4) = F.2 0 (F.1 1) by omega), h193⟩)).2.symm | exact (sML_5 (sWayL_y5 (F := F) (by omega) (show ¬ eAbs (F.1 5 - F.2 1 (F.1 1)) ≤ eAbs (F.1 4 - F.2 0 (F.1 1)) by omega) h154 (fun q => by have q1 : ¬ sTw (F.2 0 (F.1 1)) (F.1 4) = F.2 0 (F.1 1) := q.1; first | omega | exact absurd q.2 h193))).2.symm) (by first | (rw [(sML_0 (sWayL_0 (F := F) (by omega))).1] <;> rfl) | (rw [(sML_1 (sWayL_x1 (F := F) (by omega) (show eAbs (F.1 5 - F.2 1 (F.1 1)) ≤ eAbs (F.1 4 - F.2 0 (F.1 1)) by omega) h154)).1] <;> rfl) | (rw [(sML_2 (sWayL_x2 (F := F) (by omega) (show eAbs (F.1 5 - F.2 1 (F.1 1)) ≤ eAbs (F.1 4 - F.2 0 (F.1 1)) by omega) h154 ⟨(show ¬ sTw (F.2 1 (F.1 1)) (F.1 5) = F.2 1 (F.1 1) by omega), h193⟩)).1] <;> rfl) | (rw [(sML_5 (sWayL_x5 (F := F) (by omega) (show eAbs (F.1 5 - F.2 1 (F.1 1)) ≤ eAbs (F.1 4 - F.2 0 (F.1 1)) by omega) h154 (fun q => by have q1 : ¬ sTw (F.2 1 (F.1 1)) (F.1 5) = F.2 1 (F.1 1) := q.1; first | omega | exact absurd q.2 h193))).1] <;> rfl) | (rw [(sML_2 (sWayL_y2 (F := F) (by omega) (show ¬ eAbs (F.1 5 - F.2 1 (F.1 1)) ≤ eAbs (F.1 4 - F.2 0 (F.1 1)) by omega) h154)).1] <;> rfl) | (rw [(sML_1 (sWayL_y1 (F := F) (by omega) (show ¬ eAbs (F.1 5 - F.2 1 (F.1 1)) ≤ eAbs (F.1 4 - F.2 0 (F.1 1)) by omega) h154 ⟨(show ¬ sTw (F.2 0 (F.1 1)) (F.1 4) = F.2 0 (F.1 1) by omega), h193⟩)).1] <;> rfl) | (rw [(sML_5 (sWayL_y5 (F := F) (by omega) (show ¬ eAbs (F.1 5 - F.2 1 (F.1 1)) ≤ eAbs (F.1 4 - F.2 0 (F.1 1)) by omega) h154 (fun q => by have q1 : ¬ sTw (F.2 0 (F.1 1)) (F.1 4) = F.2 0 (F.1 1) := q.1; first | omega | exact absurd q.2 h193))).1] <;> rfl)))
            · refine EV.ceq (cs' := wFl a (sMv F (F.1 1) (F.2 0 (F.1 1)) (sTw (F.2 1 (F.1 1)) (F.1 5))) P) (by rw [sGo_y h154] <;> rfl) ?_
              refine e_iconst dX2_moveLeader_157 rfl ?_
              exact e_iret dX2_moveLeader_158 rfl rfl (eRet_i (by first | exact (sML_0 (sWayL_0 (F := F) (by omega))).2.symm | exact (sML_1 (sWayL_x1 (F := F) (by omega) (show eAbs (F.1 5 - F.2 1 (F.1 1)) ≤ eAbs (F.1 4 - F.2 0 (F.1 1)) by omega) h154)).2.symm | exact (sML_2 (sWayL_x2 (F := F) (by omega) (show eAbs (F.1 5 - F.2 1 (F.1 1)) ≤ eAbs (F.1 4 - F.2 0 (F.1 1)) by omega) h154 ⟨(show ¬ sTw (F.2 1 (F.1 1)) (F.1 5) = F.2 1 (F.1 1) by omega), h193⟩)).2.symm | exact (sML_5 (sWayL_x5 (F := F) (by omega) (show eAbs (F.1 5 - F.2 1 (F.1 1)) ≤ eAbs (F.1 4 - F.2 0 (F.1 1)) by omega) h154 (fun q => by have q1 : ¬ sTw (F.2 1 (F.1 1)) (F.1 5) = F.2 1 (F.1 1) := q.1; first | omega | exact absurd q.2 h193))).2.symm | exact (sML_2 (sWayL_y2 (F := F) (by omega) (show ¬ eAbs (F.1 5 - F.2 1 (F.1 1)) ≤ eAbs (F.1 4 - F.2 0 (F.1 1)) by omega) h154)).2.symm | exact (sML_1 (sWayL_y1 (F := F) (by omega) (show ¬ eAbs (F.1 5 - F.2 1 (F.1 1)) ≤ eAbs (F.1 4 - F.2 0 (F.1 1)) by omega) h154 ⟨(show ¬ sTw (F.2 0 (F.1 1)) (F.1 4) = F.2 0 (F.1 1) by omega), h193⟩)).2.symm | exact (sML_5 (sWayL_y5 (F := F) (by omega) (show ¬ eAbs (F.1 5 - F.2 1 (F.1 1)) ≤ eAbs (F.1 4 - F.2 0 (F.1 1)) by omega) h154 (fun q => by have q1 : ¬ sTw (F.2 0 (F.1 1)) (F.1 4) = F.2 0 (F.1 1) := q.1; first | omega | exact absurd q.2 h193))).2.symm) (by first | (rw [(sML_0 (sWayL_0 (F := F) (by omega))).1] <;> rfl) | (rw [(sML_1 (sWayL_x1 (F := F) (by omega) (show eAbs (F.1 5 - F.2 1 (F.1 1)) ≤ eAbs (F.1 4 - F.2 0 (F.1 1)) by omega) h154)).1] <;> rfl) | (rw [(sML_2 (sWayL_x2 (F := F) (by omega) (show eAbs (F.1 5 - F.2 1 (F.1 1)) ≤ eAbs (F.1 4 - F.2 0 (F.1 1)) by omega) h154 ⟨(show ¬ sTw (F.2 1 (F.1 1)) (F.1 5) = F.2 1 (F.1 1) by omega), h193⟩)).1] <;> rfl) | (rw [(sML_5 (sWayL_x5 (F := F) (by omega) (show eAbs (F.1 5 - F.2 1 (F.1 1)) ≤ eAbs (F.1 4 - F.2 0 (F.1 1)) by omega) h154 (fun q => by have q1 : ¬ sTw (F.2 1 (F.1 1)) (F.1 5) = F.2 1 (F.1 1) := q.1; first | omega | exact absurd q.2 h193))).1] <;> rfl) | (rw [(sML_2 (sWayL_y2 (F := F) (by omega) (show ¬ eAbs (F.1 5 - F.2 1 (F.1 1)) ≤ eAbs (F.1 4 - F.2 0 (F.1 1)) by omega) h154)).1] <;> rfl) | (rw [(sML_1 (sWayL_y1 (F := F) (by omega) (show ¬ eAbs (F.1 5 - F.2 1 (F.1 1)) ≤ eAbs (F.1 4 - F.2 0 (F.1 1)) by omega) h154 ⟨(show ¬ sTw (F.2 0 (F.1 1)) (F.1 4) = F.2 0 (F.1 1) by omega), h193⟩)).1] <;> rfl) | (rw [(sML_5 (sWayL_y5 (F := F) (by omega) (show ¬ eAbs (F.1 5 - F.2 1 (F.1 1)) ≤ eAbs (F.1 4 - F.2 0 (F.1 1)) by omega) h154 (fun q => by have q1 : ¬ sTw (F.2 0 (F.1 1)) (F.1 4) = F.2 0 (F.1 1) := q.1; first | omega | exact absurd q.2 h193))).1] <;> rfl)))
          · refine e_iconst dX2_moveLeader_118 rfl ?_
            refine e_goto (n := 123) dX2_moveLeader_119 rfl ?_
            refine f_istore dX2_moveLeader_123 rfl (Nat.le_of_ble_eq_true rfl) rfl ?_
            refine e_aload_n dX2_moveLeader_125 rfl rfl ?_
            refine e_aload_n dX2_moveLeader_126 rfl rfl ?_
            refine e_getfield fd_X2_46 dX2_moveLeader_127 rfl rfl rfl rfl ?_
            refine e_iload dX2_moveLeader_130 rfl rfl ?_
            refine e_if_eq (t := 139) dX2_moveLeader_132 rfl rfl (by decide) (fun _ => ?_) (fun h => absurd h (by decide))
            refine e_iload_n dX2_moveLeader_139 rfl rfl ?_
            refine e_iload dX2_moveLeader_140 rfl rfl ?_
            refine e_if_eq (t := 149) dX2_moveLeader_142 rfl rfl (by decide) (fun _ => ?_) (fun h => absurd h (by decide))
            refine e_iload dX2_moveLeader_149 rfl rfl ?_
            refine e_cV2 [0, 1, 2, 3, 4, 5, 6, 7, 8, 9] lk_X2_180 rfl dX2_moveLeader_151 rfl (C_X2_goTo hF0 (by omega) (by omega) (by omega)) rfl rfl (Nat.le_of_ble_eq_true rfl) (Nat.le_of_ble_eq_true rfl) (Nat.le_of_ble_eq_true rfl) ⟨rfl, rfl⟩ rfl rfl rfl rfl rfl rfl rfl rfl ?_
            refine e_ifb_eq (t := 159) dX2_moveLeader_154 rfl rfl (fun h154 => ?_) (fun h154 => ?_)
            · refine EV.ceq (cs' := wFl a F P) (by rw [sGo_n h154] <;> rfl) ?_
              refine e_iload dX2_moveLeader_159 rfl rfl ?_
              refine e_if_eq (t := 198) dX2_moveLeader_161 rfl rfl (by decide) (fun h => absurd h (by decide)) (fun _ => ?_)
              refine e_aload_n dX2_moveLeader_164 rfl rfl ?_
              refine e_aload_n dX2_moveLeader_165 rfl rfl ?_
              refine e_getfield fd_X2_46 dX2_moveLeader_166 rfl rfl rfl rfl ?_
              refine e_iload dX2_moveLeader_169 rfl rfl ?_
              refine e_if_eq (t := 178) dX2_moveLeader_171 rfl rfl (by decide) (fun _ => ?_) (fun h => absurd h (by decide))
              refine e_iload_n dX2_moveLeader_178 rfl rfl ?_
              refine e_iload dX2_moveLeader_179 rfl rfl ?_
              refine e_if_eq (t := 189) dX2_moveLeader_181 rfl rfl (by decide) (fun _ => ?_) (fun h => absurd h (by decide))
              refine e_iload_n dX2_moveLeader_189 rfl rfl ?_
              refine e_cV2 [0, 1, 2, 3, 4, 5, 6, 7, 8, 9] lk_X2_180 rfl dX2_moveLeader_190 rfl (C_X2_goTo hF0 (by omega) (by omega) (by omega)) rfl rfl (Nat.le_of_ble_eq_true rfl) (Nat.le_of_ble_eq_true rfl) (Nat.le_of_ble_eq_true rfl) ⟨rfl, rfl⟩ rfl rfl rfl rfl rfl rfl rfl rfl ?_
              refine e_ifb_eq (t := 198) dX2_moveLeader_193 rfl rfl (fun h193 => ?_) (fun h193 => ?_)
              · refine EV.ceq (cs' := wFl a F P) (by rw [sGo_n h193] <;> rfl) ?_
                refine e_aload_n dX2_moveLeader_198 rfl rfl ?_
                refine e_dup dX2_moveLeader_199 rfl rfl ?_
                refine e_getfield fd_X2_67 dX2_moveLeader_200 rfl rfl rfl rfl ?_
                refine e_iconst dX2_moveLeader_203 rfl ?_
                refine e_iadd dX2_moveLeader_204 rfl ?_
                refine e_putfield fd_X2_67 dX2_moveLeader_205 rfl rfl rfl (Nat.le_of_ble_eq_true rfl) rfl rfl ?_
                refine e_iconst dX2_moveLeader_208 rfl ?_
                exact e_iret dX2_moveLeader_209 rfl rfl (eRet_i (by first | exact (sML_0 (sWayL_0 (F := F) (by omega))).2.symm | exact (sML_1 (sWayL_x1 (F := F) (by omega) (show eAbs (F.1 5 - F.2 1 (F.1 1)) ≤ eAbs (F.1 4 - F.2 0 (F.1 1)) by omega) h154)).2.symm | exact (sML_2 (sWayL_x2 (F := F) (by omega) (show eAbs (F.1 5 - F.2 1 (F.1 1)) ≤ eAbs (F.1 4 - F.2 0 (F.1 1)) by omega) h154 ⟨(show ¬ sTw (F.2 1 (F.1 1)) (F.1 5) = F.2 1 (F.1 1) by omega), h193⟩)).2.symm | exact (sML_5 (sWayL_x5 (F := F) (by omega) (show eAbs (F.1 5 - F.2 1 (F.1 1)) ≤ eAbs (F.1 4 - F.2 0 (F.1 1)) by omega) h154 (fun q => by have q1 : ¬ sTw (F.2 1 (F.1 1)) (F.1 5) = F.2 1 (F.1 1) := q.1; first | omega | exact absurd q.2 h193))).2.symm | exact (sML_2 (sWayL_y2 (F := F) (by omega) (show ¬ eAbs (F.1 5 - F.2 1 (F.1 1)) ≤ eAbs (F.1 4 - F.2 0 (F.1 1)) by omega) h154)).2.symm | exact (sML_1 (sWayL_y1 (F := F) (by omega) (show ¬ eAbs (F.1 5 - F.2 1 (F.1 1)) ≤ eAbs (F.1 4 - F.2 0 (F.1 1)) by omega) h154 ⟨(show ¬ sTw (F.2 0 (F.1 1)) (F.1 4) = F.2 0 (F.1 1) by omega), h193⟩)).2.symm | exact (sML_5 (sWayL_y5 (F := F) (by omega) (show ¬ eAbs (F.1 5 - F.2 1 (F.1 1)) ≤ eAbs (F.1 4 - F.2 0 (F.1 1)) by omega) h154 (fun q => by have q1 : ¬ sTw (F.2 0 (F.1 1)) (F.1 4) = F.2 0 (F.1 1) := q.1; first | omega | exact absurd q.2 h193))).2.symm) (by first | (rw [(sML_0 (sWayL_0 (F := F) (by omega))).1] <;> rfl) | (rw [(sML_1 (sWayL_x1 (F := F) (by omega) (show eAbs (F.1 5 - F.2 1 (F.1 1)) ≤ eAbs (F.1 4 - F.2 0 (F.1 1)) by omega) h154)).1] <;> rfl) | (rw [(sML_2 (sWayL_x2 (F := F) (by omega) (show eAbs (F.1 5 - F.2 1 (F.1 1)) ≤ eAbs (F.1 4 - F.2 0 (F.1 1)) by omega) h154 ⟨(show ¬ sTw (F.2 1 (F.1 1)) (F.1 5) = F.2 1 (F.1 1) by omega), h193⟩)).1] <;> rfl) | (rw [(sML_5 (sWayL_x5 (F := F) (by omega) (show eAbs (F.1 5 - F.2 1 (F.1 1)) ≤ eAbs (F.1 4 - F.2 0 (F.1 1)) by omega) h154 (fun q => by have q1 : ¬ sTw (F.2 1 (F.1 1)) (F.1 5) = F.2 1 (F.1 1) := q.1; first | omega | exact absurd q.2 h193))).1] <;> rfl) | (rw [(sML_2 (sWayL_y2 (F := F) (by omega) (show ¬ eAbs (F.1 5 - F.2 1 (F.1 1)) ≤ eAbs (F.1 4 - F.2 0 (F.1 1)) by omega) h154)).1] <;> rfl) | (rw [(sML_1 (sWayL_y1 (F := F) (by omega) (show ¬ eAbs (F.1 5 - F.2 1 (F.1 1)) ≤ eAbs (F.1 4 - F.2 0 (F.1 1)) by omega) h154 ⟨(show ¬ sTw (F.2 0 (F.1 1)) (F.1 4) = F.2 0 (F.1 1) by omega), h193⟩)).1] <;> rfl) | (rw [(sML_5 (sWayL_y5 (F := F) (by omega) (show ¬ eAbs (F.1 5 - F.2 1 (F.1 1)) ≤ eAbs (F.1 4 - F.2 0 (F.1 1)) by omega) h154 (fun q => by have q1 : ¬ sTw (F.2 0 (F.1 1)) (F.1 4) = F.2 0 (F.1 1) := q.1; first | omega | exact absurd q.2 h193))).1] <;> rfl)))
              · refine EV.ceq (cs' := wFl a (sMv F (F.1 1) (sTw (F.2 0 (F.1 1)) (F.1 4)) (F.2 1 (F.1 1))) P) (by rw [sGo_y h193] <;> rfl) ?_
                refine e_iconst dX2_moveLeader_196 rfl ?_
                exact e_iret dX2_moveLeader_197 rfl rfl (eRet_i (by first | exact (sML_0 (sWayL_0 (F := F) (by omega))).2.symm | exact (sML_1 (sWayL_x1 (F := F) (by omega) (show eAbs (F.1 5 - F.2 1 (F.1 1)) ≤ eAbs (F.1 4 - F.2 0 (F.1 1)) by omega) h154)).2.symm | exact (sML_2 (sWayL_x2 (F := F) (by omega) (show eAbs (F.1 5 - F.2 1 (F.1 1)) ≤ eAbs (F.1 4 - F.2 0 (F.1 1)) by omega) h154 ⟨(show ¬ sTw (F.2 1 (F.1 1)) (F.1 5) = F.2 1 (F.1 1) by omega), h193⟩)).2.symm | exact (sML_5 (sWayL_x5 (F := F) (by omega) (show eAbs (F.1 5 - F.2 1 (F.1 1)) ≤ eAbs (F.1 4 - F.2 0 (F.1 1)) by omega) h154 (fun q => by have q1 : ¬ sTw (F.2 1 (F.1 1)) (F.1 5) = F.2 1 (F.1 1) := q.1; first | omega | exact absurd q.2 h193))).2.symm | exact (sML_2 (sWayL_y2 (F := F) (by omega) (show ¬ eAbs (F.1 5 - F.2 1 (F.1 1)) ≤ eAbs (F.1 4 - F.2 0 (F.1 1)) by omega) h154)).2.symm | exact (sML_1 (sWayL_y1 (F := F) (by omega) (show ¬ eAbs (F.1 5 - F.2 1 (F.1 1)) ≤ eAbs (F.1 4 - F.2 0 (F.1 1)) by omega) h154 ⟨(show ¬ sTw (F.2 0 (F.1 1)) (F.1 4) = F.2 0 (F.1 1) by omega), h193⟩)).2.symm | exact (sML_5 (sWayL_y5 (F := F) (by omega) (show ¬ eAbs (F.1 5 - F.2 1 (F.1 1)) ≤ eAbs (F.1 4 - F.2 0 (F.1 1)) by omega) h154 (fun q => by have q1 : ¬ sTw (F.2 0 (F.1 1)) (F.1 4) = F.2 0 (F.1 1) := q.1; first | omega | exact absurd q.2 h193))).2.symm) (by first | (rw [(sML_0 (sWayL_0 (F := F) (by omega))).1] <;> rfl) | (rw [(sML_1 (sWayL_x1 (F := F) (by omega) (show eAbs (F.1 5 - F.2 1 (F.1 1)) ≤ eAbs (F.1 4 - F.2 0 (F.1 1)) by omega) h154)).1] <;> rfl) | (rw [(sML_2 (sWayL_x2 (F := F) (by omega) (show eAbs (F.1 5 - F.2 1 (F.1 1)) ≤ eAbs (F.1 4 - F.2 0 (F.1 1)) by omega) h154 ⟨(show ¬ sTw (F.2 1 (F.1 1)) (F.1 5) = F.2 1 (F.1 1) by omega), h193⟩)).1] <;> rfl) | (rw [(sML_5 (sWayL_x5 (F := F) (by omega) (show eAbs (F.1 5 - F.2 1 (F.1 1)) ≤ eAbs (F.1 4 - F.2 0 (F.1 1)) by omega) h154 (fun q => by have q1 : ¬ sTw (F.2 1 (F.1 1)) (F.1 5) = F.2 1 (F.1 1) := q.1; first | omega | exact absurd q.2 h193))).1] <;> rfl) | (rw [(sML_2 (sWayL_y2 (F := F) (by omega) (show ¬ eAbs (F.1 5 - F.2 1 (F.1 1)) ≤ eAbs (F.1 4 - F.2 0 (F.1 1)) by omega) h154)).1] <;> rfl) | (rw [(sML_1 (sWayL_y1 (F := F) (by omega) (show ¬ eAbs (F.1 5 - F.2 1 (F.1 1)) ≤ eAbs (F.1 4 - F.2 0 (F.1 1)) by omega) h154 ⟨(show ¬ sTw (F.2 0 (F.1 1)) (F.1 4) = F.2 0 (F.1 1) by omega), h193⟩)).1] <;> rfl) | (rw [(sML_5 (sWayL_y5 (F := F) (by omega) (show ¬ eAbs (F.1 5 - F.2 1 (F.1 1)) ≤ eAbs (F.1 4 - F.2 0 (F.1 1)) by omega) h154 (fun q => by have q1 : ¬ sTw (F.2 0 (F.1 1)) (F.1 4) = F.2 0 (F.1 1) := q.1; first | omega | exact absurd q.2 h193))).1] <;> rfl)))
            · refine EV.ceq (cs' := wFl a (sMv F (F.1 1) (F.2 0 (F.1 1)) (sTw (F.2 1 (F.1 1)) (F.1 5))) P) (by rw [sGo_y h154] <;> rfl) ?_
              refine e_iconst dX2_moveLeader_157 rfl ?_
              exact e_iret dX2_moveLeader_158 rfl rfl (eRet_i (by first | exact (sML_0 (sWayL_0 (F := F) (by omega))).2.symm | exact (sML_1 (sWayL_x1 (F := F) (by omega) (show eAbs (F.1 5 - F.2 1 (F.1 1)) ≤ eAbs (F.1 4 - F.2 0 (F.1 1)) by omega) h154)).2.symm | exact (sML_2 (sWayL_x2 (F := F) (by omega) (show eAbs (F.1 5 - F.2 1 (F.1 1)) ≤ eAbs (F.1 4 - F.2 0 (F.1 1)) by omega) h154 ⟨(show ¬ sTw (F.2 1 (F.1 1)) (F.1 5) = F.2 1 (F.1 1) by omega), h193⟩)).2.symm | exact (sML_5 (sWayL_x5 (F := F) (by omega) (show eAbs (F.1 5 - F.2 1 (F.1 1)) ≤ eAbs (F.1 4 - F.2 0 (F.1 1)) by omega) h154 (fun q => by have q1 : ¬ sTw (F.2 1 (F.1 1)) (F.1 5) = F.2 1 (F.1 1) := q.1; first | omega | exact absurd q.2 h193))).2.symm | exact (sML_2 (sWayL_y2 (F := F) (by omega) (show ¬ eAbs (F.1 5 - F.2 1 (F.1 1)) ≤ eAbs (F.1 4 - F.2 0 (F.1 1)) by omega) h154)).2.symm | exact (sML_1 (sWayL_y1 (F := F) (by omega) (show ¬ eAbs (F.1 5 - F.2 1 (F.1 1)) ≤ eAbs (F.1 4 - F.2 0 (F.1 1)) by omega) h154 ⟨(show ¬ sTw (F.2 0 (F.1 1)) (F.1 4) = F.2 0 (F.1 1) by omega), h193⟩)).2.symm | exact (sML_5 (sWayL_y5 (F := F) (by omega) (show ¬ eAbs (F.1 5 - F.2 1 (F.1 1)) ≤ eAbs (F.1 4 - F.2 0 (F.1 1)) by omega) h154 (fun q => by have q1 : ¬ sTw (F.2 0 (F.1 1)) (F.1 4) = F.2 0 (F.1 1) := q.1; first | omega | exact absurd q.2 h193))).2.symm) (by first | (rw [(sML_0 (sWayL_0 (F := F) (by omega))).1] <;> rfl) | (rw [(sML_1 (sWayL_x1 (F := F) (by omega) (show eAbs (F.1 5 - F.2 1 (F.1 1)) ≤ eAbs (F.1 4 - F.2 0 (F.1 1)) by omega) h154)).1] <;> rfl) | (rw [(sML_2 (sWayL_x2 (F := F) (by omega) (show eAbs (F.1 5 - F.2 1 (F.1 1)) ≤ eAbs (F.1 4 - F.2 0 (F.1 1)) by omega) h154 ⟨(show ¬ sTw (F.2 1 (F.1 1)) (F.1 5) = F.2 1 (F.1 1) by omega), h193⟩)).1] <;> rfl) | (rw [(sML_5 (sWayL_x5 (F := F) (by omega) (show eAbs (F.1 5 - F.2 1 (F.1 1)) ≤ eAbs (F.1 4 - F.2 0 (F.1 1)) by omega) h154 (fun q => by have q1 : ¬ sTw (F.2 1 (F.1 1)) (F.1 5) = F.2 1 (F.1 1) := q.1; first | omega | exact absurd q.2 h193))).1] <;> rfl) | (rw [(sML_2 (sWayL_y2 (F := F) (by omega) (show ¬ eAbs (F.1 5 - F.2 1 (F.1 1)) ≤ eAbs (F.1 4 - F.2 0 (F.1 1)) by omega) h154)).1] <;> rfl) | (rw [(sML_1 (sWayL_y1 (F := F) (by omega) (show ¬ eAbs (F.1 5 - F.2 1 (F.1 1)) ≤ eAbs (F.1 4 - F.2 0 (F.1 1)) by omega) h154 ⟨(show ¬ sTw (F.2 0 (F.1 1)) (F.1 4) = F.2 0 (F.1 1) by omega), h193⟩)).1] <;> rfl) | (rw [(sML_5 (sWayL_y5 (F := F) (by omega) (show ¬ eAbs (F.1 5 - F.2 1 (F.1 1)) ≤ eAbs (F.1 4 - F.2 0 (F.1 1)) by omega) h154 (fun q => by have q1 : ¬ sTw (F.2 0 (F.1 1)) (F.1 4) = F.2 0 (F.1 1) := q.1; first | omega | exact absurd q.2 h193))).1] <;> rfl)))
        · refine e_iconst dX2_moveLeader_87 rfl ?_
          refine e_goto (n := 92) dX2_moveLeader_88 rfl ?_
          refine f_istore dX2_moveLeader_92 rfl (Nat.le_of_ble_eq_true rfl) rfl ?_
          refine e_iload dX2_moveLeader_94 rfl rfl ?_
          refine e_if_eq (t := 113) dX2_moveLeader_96 rfl rfl (by decide) (fun h => absurd h (by decide)) (fun _ => ?_)
          refine e_iload dX2_moveLeader_99 rfl rfl ?_
          refine e_iload_n dX2_moveLeader_101 rfl rfl ?_
          refine e_icmp_eq (t := 109) dX2_moveLeader_102 rfl rfl (by omega) (by omega) (fun h102 => ?_) (fun h102 => ?_)
          · refine e_iconst dX2_moveLeader_109 rfl ?_
            refine e_goto (n := 123) dX2_moveLeader_110 rfl ?_
            refine f_istore dX2_moveLeader_123 rfl (Nat.le_of_ble_eq_true rfl) rfl ?_
            refine e_aload_n dX2_moveLeader_125 rfl rfl ?_
            refine e_aload_n dX2_moveLeader_126 rfl rfl ?_
            refine e_getfield fd_X2_46 dX2_moveLeader_127 rfl rfl rfl rfl ?_
            refine e_iload dX2_moveLeader_130 rfl rfl ?_
            refine e_if_eq (t := 139) dX2_moveLeader_132 rfl rfl (by decide) (fun h => absurd h (by decide)) (fun _ => ?_)
            refine e_iload_n dX2_moveLeader_135 rfl rfl ?_
            refine e_goto (n := 140) dX2_moveLeader_136 rfl ?_
            refine e_iload dX2_moveLeader_140 rfl rfl ?_
            refine e_if_eq (t := 149) dX2_moveLeader_142 rfl rfl (by decide) (fun h => absurd h (by decide)) (fun _ => ?_)
            refine e_iload_n dX2_moveLeader_145 rfl rfl ?_
            refine e_goto (n := 151) dX2_moveLeader_146 rfl ?_
            refine e_cV2 [0, 1, 2, 3, 4, 5, 6, 7, 8, 9] lk_X2_180 rfl dX2_moveLeader_151 rfl (C_X2_goTo hF0 (by omega) (by omega) (by omega)) rfl rfl (Nat.le_of_ble_eq_true rfl) (Nat.le_of_ble_eq_true rfl) (Nat.le_of_ble_eq_true rfl) ⟨rfl, rfl⟩ rfl rfl rfl rfl rfl rfl rfl rfl ?_
            refine e_ifb_eq (t := 159) dX2_moveLeader_154 rfl rfl (fun h154 => ?_) (fun h154 => ?_)
            · refine EV.ceq (cs' := wFl a F P) (by rw [sGo_n h154] <;> rfl) ?_
              refine e_iload dX2_moveLeader_159 rfl rfl ?_
              refine e_if_eq (t := 198) dX2_moveLeader_161 rfl rfl (by decide) (fun _ => ?_) (fun h => absurd h (by decide))
              refine e_aload_n dX2_moveLeader_198 rfl rfl ?_
              refine e_dup dX2_moveLeader_199 rfl rfl ?_
              refine e_getfield fd_X2_67 dX2_moveLeader_200 rfl rfl rfl rfl ?_
              refine e_iconst dX2_moveLeader_203 rfl ?_
              refine e_iadd dX2_moveLeader_204 rfl ?_
              refine e_putfield fd_X2_67 dX2_moveLeader_205 rfl rfl rfl (Nat.le_of_ble_eq_true rfl) rfl rfl ?_
              refine e_iconst dX2_moveLeader_208 rfl ?_
              exact e_iret dX2_moveLeader_209 rfl rfl (eRet_i (by first | exact (sML_0 (sWayL_0 (F := F) (by omega))).2.symm | exact (sML_1 (sWayL_x1 (F := F) (by omega) (show eAbs (F.1 5 - F.2 1 (F.1 1)) ≤ eAbs (F.1 4 - F.2 0 (F.1 1)) by omega) h154)).2.symm | exact (sML_2 (sWayL_x2 (F := F) (by omega) (show eAbs (F.1 5 - F.2 1 (F.1 1)) ≤ eAbs (F.1 4 - F.2 0 (F.1 1)) by omega) h154 ⟨(show ¬ sTw (F.2 1 (F.1 1)) (F.1 5) = F.2 1 (F.1 1) by omega), h193⟩)).2.symm | exact (sML_5 (sWayL_x5 (F := F) (by omega) (show eAbs (F.1 5 - F.2 1 (F.1 1)) ≤ eAbs (F.1 4 - F.2 0 (F.1 1)) by omega) h154 (fun q => by have q1 : ¬ sTw (F.2 1 (F.1 1)) (F.1 5) = F.2 1 (F.1 1) := q.1; first | omega | exact absurd q.2 h193))).2.symm | exact (sML_2 (sWayL_y2 (F := F) (by omega) (show ¬ eAbs (F.1 5 - F.2 1 (F.1 1)) ≤ eAbs (F.1 4 - F.2 0 (F.1 1)) by omega) h154)).2.symm | exact (sML_1 (sWayL_y1 (F := F) (by omega) (show ¬ eAbs (F.1 5 - F.2 1 (F.1 1)) ≤ eAbs (F.1 4 - F.2 0 (F.1 1)) by omega) h154 ⟨(show ¬ sTw (F.2 0 (F.1 1)) (F.1 4) = F.2 0 (F.1 1) by omega), h193⟩)).2.symm | exact (sML_5 (sWayL_y5 (F := F) (by omega) (show ¬ eAbs (F.1 5 - F.2 1 (F.1 1)) ≤ eAbs (F.1 4 - F.2 0 (F.1 1)) by omega) h154 (fun q => by have q1 : ¬ sTw (F.2 0 (F.1 1)) (F.1 4) = F.2 0 (F.1 1) := q.1; first | omega | exact absurd q.2 h193))).2.symm) (by first | (rw [(sML_0 (sWayL_0 (F := F) (by omega))).1] <;> rfl) | (rw [(sML_1 (sWayL_x1 (F := F) (by omega) (show eAbs (F.1 5 - F.2 1 (F.1 1)) ≤ eAbs (F.1 4 - F.2 0 (F.1 1)) by omega) h154)).1] <;> rfl) | (rw [(sML_2 (sWayL_x2 (F := F) (by omega) (show eAbs (F.1 5 - F.2 1 (F.1 1)) ≤ eAbs (F.1 4 - F.2 0 (F.1 1)) by omega) h154 ⟨(show ¬ sTw (F.2 1 (F.1 1)) (F.1 5) = F.2 1 (F.1 1) by omega), h193⟩)).1] <;> rfl) | (rw [(sML_5 (sWayL_x5 (F := F) (by omega) (show eAbs (F.1 5 - F.2 1 (F.1 1)) ≤ eAbs (F.1 4 - F.2 0 (F.1 1)) by omega) h154 (fun q => by have q1 : ¬ sTw (F.2 1 (F.1 1)) (F.1 5) = F.2 1 (F.1 1) := q.1; first | omega | exact absurd q.2 h193))).1] <;> rfl) | (rw [(sML_2 (sWayL_y2 (F := F) (by omega) (show ¬ eAbs (F.1 5 - F.2 1 (F.1 1)) ≤ eAbs (F.1 4 - F.2 0 (F.1 1)) by omega) h154)).1] <;> rfl) | (rw [(sML_1 (sWayL_y1 (F := F) (by omega) (show ¬ eAbs (F.1 5 - F.2 1 (F.1 1)) ≤ eAbs (F.1 4 - F.2 0 (F.1 1)) by omega) h154 ⟨(show ¬ sTw (F.2 0 (F.1 1)) (F.1 4) = F.2 0 (F.1 1) by omega), h193⟩)).1] <;> rfl) | (rw [(sML_5 (sWayL_y5 (F := F) (by omega) (show ¬ eAbs (F.1 5 - F.2 1 (F.1 1)) ≤ eAbs (F.1 4 - F.2 0 (F.1 1)) by omega) h154 (fun q => by have q1 : ¬ sTw (F.2 0 (F.1 1)) (F.1 4) = F.2 0 (F.1 1) := q.1; first | omega | exact absurd q.2 h193))).1] <;> rfl)))
            · refine EV.ceq (cs' := wFl a (sMv F (F.1 1) (sTw (F.2 0 (F.1 1)) (F.1 4)) (F.2 1 (F.1 1))) P) (by rw [sGo_y h154] <;> rfl) ?_
              refine e_iconst dX2_moveLeader_157 rfl ?_
              exact e_iret dX2_moveLeader_158 rfl rfl (eRet_i (by first | exact (sML_0 (sWayL_0 (F := F) (by omega))).2.symm | exact (sML_1 (sWayL_x1 (F := F) (by omega) (show eAbs (F.1 5 - F.2 1 (F.1 1)) ≤ eAbs (F.1 4 - F.2 0 (F.1 1)) by omega) h154)).2.symm | exact (sML_2 (sWayL_x2 (F := F) (by omega) (show eAbs (F.1 5 - F.2 1 (F.1 1)) ≤ eAbs (F.1 4 - F.2 0 (F.1 1)) by omega) h154 ⟨(show ¬ sTw (F.2 1 (F.1 1)) (F.1 5) = F.2 1 (F.1 1) by omega), h193⟩)).2.symm | exact (sML_5 (sWayL_x5 (F := F) (by omega) (show eAbs (F.1 5 - F.2 1 (F.1 1)) ≤ eAbs (F.1 4 - F.2 0 (F.1 1)) by omega) h154 (fun q => by have q1 : ¬ sTw (F.2 1 (F.1 1)) (F.1 5) = F.2 1 (F.1 1) := q.1; first | omega | exact absurd q.2 h193))).2.symm | exact (sML_2 (sWayL_y2 (F := F) (by omega) (show ¬ eAbs (F.1 5 - F.2 1 (F.1 1)) ≤ eAbs (F.1 4 - F.2 0 (F.1 1)) by omega) h154)).2.symm | exact (sML_1 (sWayL_y1 (F := F) (by omega) (show ¬ eAbs (F.1 5 - F.2 1 (F.1 1)) ≤ eAbs (F.1 4 - F.2 0 (F.1 1)) by omega) h154 ⟨(show ¬ sTw (F.2 0 (F.1 1)) (F.1 4) = F.2 0 (F.1 1) by omega), h193⟩)).2.symm | exact (sML_5 (sWayL_y5 (F := F) (by omega) (show ¬ eAbs (F.1 5 - F.2 1 (F.1 1)) ≤ eAbs (F.1 4 - F.2 0 (F.1 1)) by omega) h154 (fun q => by have q1 : ¬ sTw (F.2 0 (F.1 1)) (F.1 4) = F.2 0 (F.1 1) := q.1; first | omega | exact absurd q.2 h193))).2.symm) (by first | (rw [(sML_0 (sWayL_0 (F := F) (by omega))).1] <;> rfl) | (rw [(sML_1 (sWayL_x1 (F := F) (by omega) (show eAbs (F.1 5 - F.2 1 (F.1 1)) ≤ eAbs (F.1 4 - F.2 0 (F.1 1)) by omega) h154)).1] <;> rfl) | (rw [(sML_2 (sWayL_x2 (F := F) (by omega) (show eAbs (F.1 5 - F.2 1 (F.1 1)) ≤ eAbs (F.1 4 - F.2 0 (F.1 1)) by omega) h154 ⟨(show ¬ sTw (F.2 1 (F.1 1)) (F.1 5) = F.2 1 (F.1 1) by omega), h193⟩)).1] <;> rfl) | (rw [(sML_5 (sWayL_x5 (F := F) (by omega) (show eAbs (F.1 5 - F.2 1 (F.1 1)) ≤ eAbs (F.1 4 - F.2 0 (F.1 1)) by omega) h154 (fun q => by have q1 : ¬ sTw (F.2 1 (F.1 1)) (F.1 5) = F.2 1 (F.1 1) := q.1; first | omega | exact absurd q.2 h193))).1] <;> rfl) | (rw [(sML_2 (sWayL_y2 (F := F) (by omega) (show ¬ eAbs (F.1 5 - F.2 1 (F.1 1)) ≤ eAbs (F.1 4 - F.2 0 (F.1 1)) by omega) h154)).1] <;> rfl) | (rw [(sML_1 (sWayL_y1 (F := F) (by omega) (show ¬ eAbs (F.1 5 - F.2 1 (F.1 1)) ≤ eAbs (F.1 4 - F.2 0 (F.1 1)) by omega) h154 ⟨(show ¬ sTw (F.2 0 (F.1 1)) (F.1 4) = F.2 0 (F.1 1) by omega), h193⟩)).1] <;> rfl) | (rw [(sML_5 (sWayL_y5 (F := F) (by omega) (show ¬ eAbs (F.1 5 - F.2 1 (F.1 1)) ≤ eAbs (F.1 4 - F.2 0 (F.1 1)) by omega) h154 (fun q => by have q1 : ¬ sTw (F.2 0 (F.1 1)) (F.1 4) = F.2 0 (F.1 1) := q.1; first | omega | exact absurd q.2 h193))).1] <;> rfl)))
          · refine e_iconst dX2_moveLeader_105 rfl ?_
            refine e_goto (n := 123) dX2_moveLeader_106 rfl ?_
            refine f_istore dX2_moveLeader_123 rfl (Nat.le_of_ble_eq_true rfl) rfl ?_
            refine e_aload_n dX2_moveLeader_125 rfl rfl ?_
            refine e_aload_n dX2_moveLeader_126 rfl rfl ?_
            refine e_getfield fd_X2_46 dX2_moveLeader_127 rfl rfl rfl rfl ?_
            refine e_iload dX2_moveLeader_130 rfl rfl ?_
            refine e_if_eq (t := 139) dX2_moveLeader_132 rfl rfl (by decide) (fun h => absurd h (by decide)) (fun _ => ?_)
            refine e_iload_n dX2_moveLeader_135 rfl rfl ?_
            refine e_goto (n := 140) dX2_moveLeader_136 rfl ?_
            refine e_iload dX2_moveLeader_140 rfl rfl ?_
            refine e_if_eq (t := 149) dX2_moveLeader_142 rfl rfl (by decide) (fun h => absurd h (by decide)) (fun _ => ?_)
            refine e_iload_n dX2_moveLeader_145 rfl rfl ?_
            refine e_goto (n := 151) dX2_moveLeader_146 rfl ?_
            refine e_cV2 [0, 1, 2, 3, 4, 5, 6, 7, 8, 9] lk_X2_180 rfl dX2_moveLeader_151 rfl (C_X2_goTo hF0 (by omega) (by omega) (by omega)) rfl rfl (Nat.le_of_ble_eq_true rfl) (Nat.le_of_ble_eq_true rfl) (Nat.le_of_ble_eq_true rfl) ⟨rfl, rfl⟩ rfl rfl rfl rfl rfl rfl rfl rfl ?_
            refine e_ifb_eq (t := 159) dX2_moveLeader_154 rfl rfl (fun h154 => ?_) (fun h154 => ?_)
            · refine EV.ceq (cs' := wFl a F P) (by rw [sGo_n h154] <;> rfl) ?_
              refine e_iload dX2_moveLeader_159 rfl rfl ?_
              refine e_if_eq (t := 198) dX2_moveLeader_161 rfl rfl (by decide) (fun h => absurd h (by decide)) (fun _ => ?_)
              refine e_aload_n dX2_moveLeader_164 rfl rfl ?_
              refine e_aload_n dX2_moveLeader_165 rfl rfl ?_
              refine e_getfield fd_X2_46 dX2_moveLeader_166 rfl rfl rfl rfl ?_
              refine e_iload dX2_moveLeader_169 rfl rfl ?_
              refine e_if_eq (t := 178) dX2_moveLeader_171 rfl rfl (by decide) (fun h => absurd h (by decide)) (fun _ => ?_)
              refine e_iload_n dX2_moveLeader_174 rfl rfl ?_
              refine e_goto (n := 179) dX2_moveLeader_175 rfl ?_
              refine e_iload dX2_moveLeader_179 rfl rfl ?_
              refine e_if_eq (t := 189) dX2_moveLeader_181 rfl rfl (by decide) (fun h => absurd h (by decide)) (fun _ => ?_)
              refine e_iload dX2_moveLeader_184 rfl rfl ?_
              refine e_goto (n := 190) dX2_moveLeader_186 rfl ?_
              refine e_cV2 [0, 1, 2, 3, 4, 5, 6, 7, 8, 9] lk_X2_180 rfl dX2_moveLeader_190 rfl (C_X2_goTo hF0 (by omega) (by omega) (by omega)) rfl rfl (Nat.le_of_ble_eq_true rfl) (Nat.le_of_ble_eq_true rfl) (Nat.le_of_ble_eq_true rfl) ⟨rfl, rfl⟩ rfl rfl rfl rfl rfl rfl rfl rfl ?_
              refine e_ifb_eq (t := 198) dX2_moveLeader_193 rfl rfl (fun h193 => ?_) (fun h193 => ?_)
              · refine EV.ceq (cs' := wFl a F P) (by rw [sGo_n h193] <;> rfl) ?_
                refine e_aload_n dX2_moveLeader_198 rfl rfl ?_
                refine e_dup dX2_moveLeader_199 rfl rfl ?_
                refine e_getfield fd_X2_67 dX2_moveLeader_200 rfl rfl rfl rfl ?_
                refine e_iconst dX2_moveLeader_203 rfl ?_
                refine e_iadd dX2_moveLeader_204 rfl ?_
                refine e_putfield fd_X2_67 dX2_moveLeader_205 rfl rfl rfl (Nat.le_of_ble_eq_true rfl) rfl rfl ?_
                refine e_iconst dX2_moveLeader_208 rfl ?_
                exact e_iret dX2_moveLeader_209 rfl rfl (eRet_i (by first | exact (sML_0 (sWayL_0 (F := F) (by omega))).2.symm | exact (sML_1 (sWayL_x1 (F := F) (by omega) (show eAbs (F.1 5 - F.2 1 (F.1 1)) ≤ eAbs (F.1 4 - F.2 0 (F.1 1)) by omega) h154)).2.symm | exact (sML_2 (sWayL_x2 (F := F) (by omega) (show eAbs (F.1 5 - F.2 1 (F.1 1)) ≤ eAbs (F.1 4 - F.2 0 (F.1 1)) by omega) h154 ⟨(show ¬ sTw (F.2 1 (F.1 1)) (F.1 5) = F.2 1 (F.1 1) by omega), h193⟩)).2.symm | exact (sML_5 (sWayL_x5 (F := F) (by omega) (show eAbs (F.1 5 - F.2 1 (F.1 1)) ≤ eAbs (F.1 4 - F.2 0 (F.1 1)) by omega) h154 (fun q => by have q1 : ¬ sTw (F.2 1 (F.1 1)) (F.1 5) = F.2 1 (F.1 1) := q.1; first | omega | exact absurd q.2 h193))).2.symm | exact (sML_2 (sWayL_y2 (F := F) (by omega) (show ¬ eAbs (F.1 5 - F.2 1 (F.1 1)) ≤ eAbs (F.1 4 - F.2 0 (F.1 1)) by omega) h154)).2.symm | exact (sML_1 (sWayL_y1 (F := F) (by omega) (show ¬ eAbs (F.1 5 - F.2 1 (F.1 1)) ≤ eAbs (F.1 4 - F.2 0 (F.1 1)) by omega) h154 ⟨(show ¬ sTw (F.2 0 (F.1 1)) (F.1 4) = F.2 0 (F.1 1) by omega), h193⟩)).2.symm | exact (sML_5 (sWayL_y5 (F := F) (by omega) (show ¬ eAbs (F.1 5 - F.2 1 (F.1 1)) ≤ eAbs (F.1 4 - F.2 0 (F.1 1)) by omega) h154 (fun q => by have q1 : ¬ sTw (F.2 0 (F.1 1)) (F.1 4) = F.2 0 (F.1 1) := q.1; first | omega | exact absurd q.2 h193))).2.symm) (by first | (rw [(sML_0 (sWayL_0 (F := F) (by omega))).1] <;> rfl) | (rw [(sML_1 (sWayL_x1 (F := F) (by omega) (show eAbs (F.1 5 - F.2 1 (F.1 1)) ≤ eAbs (F.1 4 - F.2 0 (F.1 1)) by omega) h154)).1] <;> rfl) | (rw [(sML_2 (sWayL_x2 (F := F) (by omega) (show eAbs (F.1 5 - F.2 1 (F.1 1)) ≤ eAbs (F.1 4 - F.2 0 (F.1 1)) by omega) h154 ⟨(show ¬ sTw (F.2 1 (F.1 1)) (F.1 5) = F.2 1 (F.1 1) by omega), h193⟩)).1] <;> rfl) | (rw [(sML_5 (sWayL_x5 (F := F) (by omega) (show eAbs (F.1 5 - F.2 1 (F.1 1)) ≤ eAbs (F.1 4 - F.2 0 (F.1 1)) by omega) h154 (fun q => by have q1 : ¬ sTw (F.2 1 (F.1 1)) (F.1 5) = F.2 1 (F.1 1) := q.1; first | omega | exact absurd q.2 h193))).1] <;> rfl) | (rw [(sML_2 (sWayL_y2 (F := F) (by omega) (show ¬ eAbs (F.1 5 - F.2 1 (F.1 1)) ≤ eAbs (F.1 4 - F.2 0 (F.1 1)) by omega) h154)).1] <;> rfl) | (rw [(sML_1 (sWayL_y1 (F := F) (by omega) (show ¬ eAbs (F.1 5 - F.2 1 (F.1 1)) ≤ eAbs (F.1 4 - F.2 0 (F.1 1)) by omega) h154 ⟨(show ¬ sTw (F.2 0 (F.1 1)) (F.1 4) = F.2 0 (F.1 1) by omega), h193⟩)).1] <;> rfl) | (rw [(sML_5 (sWayL_y5 (F := F) (by omega) (show ¬ eAbs (F.1 5 - F.2 1 (F.1 1)) ≤ eAbs (F.1 4 - F.2 0 (F.1 1)) by omega) h154 (fun q => by have q1 : ¬ sTw (F.2 0 (F.1 1)) (F.1 4) = F.2 0 (F.1 1) := q.1; first | omega | exact absurd q.2 h193))).1] <;> rfl)))
              · refine EV.ceq (cs' := wFl a (sMv F (F.1 1) (F.2 0 (F.1 1)) (sTw (F.2 1 (F.1 1)) (F.1 5))) P) (by rw [sGo_y h193] <;> rfl) ?_
                refine e_iconst dX2_moveLeader_196 rfl ?_
                exact e_iret dX2_moveLeader_197 rfl rfl (eRet_i (by first | exact (sML_0 (sWayL_0 (F := F) (by omega))).2.symm | exact (sML_1 (sWayL_x1 (F := F) (by omega) (show eAbs (F.1 5 - F.2 1 (F.1 1)) ≤ eAbs (F.1 4 - F.2 0 (F.1 1)) by omega) h154)).2.symm | exact (sML_2 (sWayL_x2 (F := F) (by omega) (show eAbs (F.1 5 - F.2 1 (F.1 1)) ≤ eAbs (F.1 4 - F.2 0 (F.1 1)) by omega) h154 ⟨(show ¬ sTw (F.2 1 (F.1 1)) (F.1 5) = F.2 1 (F.1 1) by omega), h193⟩)).2.symm | exact (sML_5 (sWayL_x5 (F := F) (by omega) (show eAbs (F.1 5 - F.2 1 (F.1 1)) ≤ eAbs (F.1 4 - F.2 0 (F.1 1)) by omega) h154 (fun q => by have q1 : ¬ sTw (F.2 1 (F.1 1)) (F.1 5) = F.2 1 (F.1 1) := q.1; first | omega | exact absurd q.2 h193))).2.symm | exact (sML_2 (sWayL_y2 (F := F) (by omega) (show ¬ eAbs (F.1 5 - F.2 1 (F.1 1)) ≤ eAbs (F.1 4 - F.2 0 (F.1 1)) by omega) h154)).2.symm | exact (sML_1 (sWayL_y1 (F := F) (by omega) (show ¬ eAbs (F.1 5 - F.2 1 (F.1 1)) ≤ eAbs (F.1 4 - F.2 0 (F.1 1)) by omega) h154 ⟨(show ¬ sTw (F.2 0 (F.1 1)) (F.1 4) = F.2 0 (F.1 1) by omega), h193⟩)).2.symm | exact (sML_5 (sWayL_y5 (F := F) (by omega) (show ¬ eAbs (F.1 5 - F.2 1 (F.1 1)) ≤ eAbs (F.1 4 - F.2 0 (F.1 1)) by omega) h154 (fun q => by have q1 : ¬ sTw (F.2 0 (F.1 1)) (F.1 4) = F.2 0 (F.1 1) := q.1; first | omega | exact absurd q.2 h193))).2.symm) (by first | (rw [(sML_0 (sWayL_0 (F := F) (by omega))).1] <;> rfl) | (rw [(sML_1 (sWayL_x1 (F := F) (by omega) (show eAbs (F.1 5 - F.2 1 (F.1 1)) ≤ eAbs (F.1 4 - F.2 0 (F.1 1)) by omega) h154)).1] <;> rfl) | (rw [(sML_2 (sWayL_x2 (F := F) (by omega) (show eAbs (F.1 5 - F.2 1 (F.1 1)) ≤ eAbs (F.1 4 - F.2 0 (F.1 1)) by omega) h154 ⟨(show ¬ sTw (F.2 1 (F.1 1)) (F.1 5) = F.2 1 (F.1 1) by omega), h193⟩)).1] <;> rfl) | (rw [(sML_5 (sWayL_x5 (F := F) (by omega) (show eAbs (F.1 5 - F.2 1 (F.1 1)) ≤ eAbs (F.1 4 - F.2 0 (F.1 1)) by omega) h154 (fun q => by have q1 : ¬ sTw (F.2 1 (F.1 1)) (F.1 5) = F.2 1 (F.1 1) := q.1; first | omega | exact absurd q.2 h193))).1] <;> rfl) | (rw [(sML_2 (sWayL_y2 (F := F) (by omega) (show ¬ eAbs (F.1 5 - F.2 1 (F.1 1)) ≤ eAbs (F.1 4 - F.2 0 (F.1 1)) by omega) h154)).1] <;> rfl) | (rw [(sML_1 (sWayL_y1 (F := F) (by omega) (show ¬ eAbs (F.1 5 - F.2 1 (F.1 1)) ≤ eAbs (F.1 4 - F.2 0 (F.1 1)) by omega) h154 ⟨(show ¬ sTw (F.2 0 (F.1 1)) (F.1 4) = F.2 0 (F.1 1) by omega), h193⟩)).1] <;> rfl) | (rw [(sML_5 (sWayL_y5 (F := F) (by omega) (show ¬ eAbs (F.1 5 - F.2 1 (F.1 1)) ≤ eAbs (F.1 4 - F.2 0 (F.1 1)) by omega) h154 (fun q => by have q1 : ¬ sTw (F.2 0 (F.1 1)) (F.1 4) = F.2 0 (F.1 1) := q.1; first | omega | exact absurd q.2 h193))).1] <;> rfl)))
            · refine EV.ceq (cs' := wFl a (sMv F (F.1 1) (sTw (F.2 0 (F.1 1)) (F.1 4)) (F.2 1 (F.1 1))) P) (by rw [sGo_y h154] <;> rfl) ?_
              refine e_iconst dX2_moveLeader_157 rfl ?_
              exact e_iret dX2_moveLeader_158 rfl rfl (eRet_i (by first | exact (sML_0 (sWayL_0 (F := F) (by omega))).2.symm | exact (sML_1 (sWayL_x1 (F := F) (by omega) (show eAbs (F.1 5 - F.2 1 (F.1 1)) ≤ eAbs (F.1 4 - F.2 0 (F.1 1)) by omega) h154)).2.symm | exact (sML_2 (sWayL_x2 (F := F) (by omega) (show eAbs (F.1 5 - F.2 1 (F.1 1)) ≤ eAbs (F.1 4 - F.2 0 (F.1 1)) by omega) h154 ⟨(show ¬ sTw (F.2 1 (F.1 1)) (F.1 5) = F.2 1 (F.1 1) by omega), h193⟩)).2.symm | exact (sML_5 (sWayL_x5 (F := F) (by omega) (show eAbs (F.1 5 - F.2 1 (F.1 1)) ≤ eAbs (F.1 4 - F.2 0 (F.1 1)) by omega) h154 (fun q => by have q1 : ¬ sTw (F.2 1 (F.1 1)) (F.1 5) = F.2 1 (F.1 1) := q.1; first | omega | exact absurd q.2 h193))).2.symm | exact (sML_2 (sWayL_y2 (F := F) (by omega) (show ¬ eAbs (F.1 5 - F.2 1 (F.1 1)) ≤ eAbs (F.1 4 - F.2 0 (F.1 1)) by omega) h154)).2.symm | exact (sML_1 (sWayL_y1 (F := F) (by omega) (show ¬ eAbs (F.1 5 - F.2 1 (F.1 1)) ≤ eAbs (F.1 4 - F.2 0 (F.1 1)) by omega) h154 ⟨(show ¬ sTw (F.2 0 (F.1 1)) (F.1 4) = F.2 0 (F.1 1) by omega), h193⟩)).2.symm | exact (sML_5 (sWayL_y5 (F := F) (by omega) (show ¬ eAbs (F.1 5 - F.2 1 (F.1 1)) ≤ eAbs (F.1 4 - F.2 0 (F.1 1)) by omega) h154 (fun q => by have q1 : ¬ sTw (F.2 0 (F.1 1)) (F.1 4) = F.2 0 (F.1 1) := q.1; first | omega | exact absurd q.2 h193))).2.symm) (by first | (rw [(sML_0 (sWayL_0 (F := F) (by omega))).1] <;> rfl) | (rw [(sML_1 (sWayL_x1 (F := F) (by omega) (show eAbs (F.1 5 - F.2 1 (F.1 1)) ≤ eAbs (F.1 4 - F.2 0 (F.1 1)) by omega) h154)).1] <;> rfl) | (rw [(sML_2 (sWayL_x2 (F := F) (by omega) (show eAbs (F.1 5 - F.2 1 (F.1 1)) ≤ eAbs (F.1 4 - F.2 0 (F.1 1)) by omega) h154 ⟨(show ¬ sTw (F.2 1 (F.1 1)) (F.1 5) = F.2 1 (F.1 1) by omega), h193⟩)).1] <;> rfl) | (rw [(sML_5 (sWayL_x5 (F := F) (by omega) (show eAbs (F.1 5 - F.2 1 (F.1 1)) ≤ eAbs (F.1 4 - F.2 0 (F.1 1)) by omega) h154 (fun q => by have q1 : ¬ sTw (F.2 1 (F.1 1)) (F.1 5) = F.2 1 (F.1 1) := q.1; first | omega | exact absurd q.2 h193))).1] <;> rfl) | (rw [(sML_2 (sWayL_y2 (F := F) (by omega) (show ¬ eAbs (F.1 5 - F.2 1 (F.1 1)) ≤ eAbs (F.1 4 - F.2 0 (F.1 1)) by omega) h154)).1] <;> rfl) | (rw [(sML_1 (sWayL_y1 (F := F) (by omega) (show ¬ eAbs (F.1 5 - F.2 1 (F.1 1)) ≤ eAbs (F.1 4 - F.2 0 (F.1 1)) by omega) h154 ⟨(show ¬ sTw (F.2 0 (F.1 1)) (F.1 4) = F.2 0 (F.1 1) by omega), h193⟩)).1] <;> rfl) | (rw [(sML_5 (sWayL_y5 (F := F) (by omega) (show ¬ eAbs (F.1 5 - F.2 1 (F.1 1)) ≤ eAbs (F.1 4 - F.2 0 (F.1 1)) by omega) h154 (fun q => by have q1 : ¬ sTw (F.2 0 (F.1 1)) (F.1 4) = F.2 0 (F.1 1) := q.1; first | omega | exact absurd q.2 h193))).1] <;> rfl)))
      · refine e_iconst dX2_moveLeader_25 rfl ?_
        exact e_iret dX2_moveLeader_26 rfl rfl (eRet_i (by first | exact (sML_0 (sWayL_0 (F := F) (by omega))).2.symm | exact (sML_1 (sWayL_x1 (F := F) (by omega) (show eAbs (F.1 5 - F.2 1 (F.1 1)) ≤ eAbs (F.1 4 - F.2 0 (F.1 1)) by omega) h154)).2.symm | exact (sML_2 (sWayL_x2 (F := F) (by omega) (show eAbs (F.1 5 - F.2 1 (F.1 1)) ≤ eAbs (F.1 4 - F.2 0 (F.1 1)) by omega) h154 ⟨(show ¬ sTw (F.2 1 (F.1 1)) (F.1 5) = F.2 1 (F.1 1) by omega), h193⟩)).2.symm | exact (sML_5 (sWayL_x5 (F := F) (by omega) (show eAbs (F.1 5 - F.2 1 (F.1 1)) ≤ eAbs (F.1 4 - F.2 0 (F.1 1)) by omega) h154 (fun q => by have q1 : ¬ sTw (F.2 1 (F.1 1)) (F.1 5) = F.2 1 (F.1 1) := q.1; first | omega | exact absurd q.2 h193))).2.symm | exact (sML_2 (sWayL_y2 (F := F) (by omega) (show ¬ eAbs (F.1 5 - F.2 1 (F.1 1)) ≤ eAbs (F.1 4 - F.2 0 (F.1 1)) by omega) h154)).2.symm | exact (sML_1 (sWayL_y1 (F := F) (by omega) (show ¬ eAbs (F.1 5 - F.2 1 (F.1 1)) ≤ eAbs (F.1 4 - F.2 0 (F.1 1)) by omega) h154 ⟨(show ¬ sTw (F.2 0 (F.1 1)) (F.1 4) = F.2 0 (F.1 1) by omega), h193⟩)).2.symm | exact (sML_5 (sWayL_y5 (F := F) (by omega) (show ¬ eAbs (F.1 5 - F.2 1 (F.1 1)) ≤ eAbs (F.1 4 - F.2 0 (F.1 1)) by omega) h154 (fun q => by have q1 : ¬ sTw (F.2 0 (F.1 1)) (F.1 4) = F.2 0 (F.1 1) := q.1; first | omega | exact absurd q.2 h193))).2.symm) (by first | (rw [(sML_0 (sWayL_0 (F := F) (by omega))).1] <;> rfl) | (rw [(sML_1 (sWayL_x1 (F := F) (by omega) (show eAbs (F.1 5 - F.2 1 (F.1 1)) ≤ eAbs (F.1 4 - F.2 0 (F.1 1)) by omega) h154)).1] <;> rfl) | (rw [(sML_2 (sWayL_x2 (F := F) (by omega) (show eAbs (F.1 5 - F.2 1 (F.1 1)) ≤ eAbs (F.1 4 - F.2 0 (F.1 1)) by omega) h154 ⟨(show ¬ sTw (F.2 1 (F.1 1)) (F.1 5) = F.2 1 (F.1 1) by omega), h193⟩)).1] <;> rfl) | (rw [(sML_5 (sWayL_x5 (F := F) (by omega) (show eAbs (F.1 5 - F.2 1 (F.1 1)) ≤ eAbs (F.1 4 - F.2 0 (F.1 1)) by omega) h154 (fun q => by have q1 : ¬ sTw (F.2 1 (F.1 1)) (F.1 5) = F.2 1 (F.1 1) := q.1; first | omega | exact absurd q.2 h193))).1] <;> rfl) | (rw [(sML_2 (sWayL_y2 (F := F) (by omega) (show ¬ eAbs (F.1 5 - F.2 1 (F.1 1)) ≤ eAbs (F.1 4 - F.2 0 (F.1 1)) by omega) h154)).1] <;> rfl) | (rw [(sML_1 (sWayL_y1 (F := F) (by omega) (show ¬ eAbs (F.1 5 - F.2 1 (F.1 1)) ≤ eAbs (F.1 4 - F.2 0 (F.1 1)) by omega) h154 ⟨(show ¬ sTw (F.2 0 (F.1 1)) (F.1 4) = F.2 0 (F.1 1) by omega), h193⟩)).1] <;> rfl) | (rw [(sML_5 (sWayL_y5 (F := F) (by omega) (show ¬ eAbs (F.1 5 - F.2 1 (F.1 1)) ≤ eAbs (F.1 4 - F.2 0 (F.1 1)) by omega) h154 (fun q => by have q1 : ¬ sTw (F.2 0 (F.1 1)) (F.1 4) = F.2 0 (F.1 1) := q.1; first | omega | exact absurd q.2 h193))).1] <;> rfl)))
theorem C_X2_passLead {X : eXT} {a : Nat → Nat} {N : Int} {F : eFs} {P : Int → Int} (hF : okF N F)  :
    EM X mX2_passLead (eRm 0) a [.ref (a 0)] (wFl a F P) (eRet (none) a (wFl a (sPL F) P)) := by
  refine EM.of (by decide +kernel) rfl (Nat.le_of_ble_eq_true rfl) ?_
  have hF0 := hF
  obtain ⟨hc, hld, hled, htn, hgo, hkp, hst, hwt, hcl, hsh, hnx, hN, rx, ry, rh, rm, rc, rw9⟩ := hF
  refine e_aload_n dX2_passLead_0 rfl rfl ?_
  refine e_getfield fd_X2_24 dX2_passLead_1 rfl rfl rfl rfl ?_
  refine e_iconst dX2_passLead_4 rfl ?_
  refine e_icmp_ge (t := 9) dX2_passLead_5 rfl rfl (by omega) (by omega) (fun h5 => ?_) (fun h5 => ?_)
  · refine e_aload_n dX2_passLead_9 rfl rfl ?_
    refine e_dup dX2_passLead_10 rfl rfl ?_
    refine e_getfield fd_X2_49 dX2_passLead_11 rfl rfl rfl rfl ?_
    refine e_iconst dX2_passLead_14 rfl ?_
    refine e_iadd dX2_passLead_15 rfl ?_
    refine e_putfield fd_X2_49 dX2_passLead_16 rfl rfl rfl (Nat.le_of_ble_eq_true rfl) rfl rfl ?_
    refine e_aload_n dX2_passLead_19 rfl rfl ?_
    refine e_getfield fd_X2_49 dX2_passLead_20 rfl rfl rfl rfl ?_
    refine e_aload_n dX2_passLead_23 rfl rfl ?_
    refine e_getfield fd_X2_52 dX2_passLead_24 rfl rfl rfl rfl ?_
    refine e_icmp_lt (t := 62) dX2_passLead_27 rfl rfl (by omega) (by omega) (fun h27 => ?_) (fun h27 => ?_)
    · exact e_vret dX2_passLead_62 rfl (eRet_v (by unfold sPL; first | (rw [if_pos (by omega)] <;> rfl) | (rw [if_neg (by omega), if_pos (by omega)] <;> rfl) | (rw [if_neg (by omega), if_neg (by omega), if_pos (by omega)] <;> rfl) | (rw [if_neg (by omega), if_neg (by omega), if_neg (by omega)] <;> rfl)))
    · refine e_aload_n dX2_passLead_30 rfl rfl ?_
      refine e_iconst dX2_passLead_31 rfl ?_
      refine e_putfield fd_X2_49 dX2_passLead_32 rfl rfl rfl (Nat.le_of_ble_eq_true rfl) rfl rfl ?_
      refine e_aload_n dX2_passLead_35 rfl rfl ?_
      refine e_aload_n dX2_passLead_36 rfl rfl ?_
      refine e_getfield fd_X2_46 dX2_passLead_37 rfl rfl rfl rfl ?_
      refine e_iconst dX2_passLead_40 rfl ?_
      refine e_iadd dX2_passLead_41 rfl ?_
      refine e_aload_n dX2_passLead_42 rfl rfl ?_
      refine e_getfield fd_X2_24 dX2_passLead_43 rfl rfl rfl rfl ?_
      refine e_icmp_ge (t := 58) dX2_passLead_46 rfl rfl (by omega) (by omega) (fun h46 => ?_) (fun h46 => ?_)
      · refine e_iconst dX2_passLead_58 rfl ?_
        refine e_putfield fd_X2_46 dX2_passLead_59 rfl rfl rfl (Nat.le_of_ble_eq_true rfl) rfl rfl ?_
        exact e_vret dX2_passLead_62 rfl (eRet_v (by unfold sPL; first | (rw [if_pos (by omega)] <;> rfl) | (rw [if_neg (by omega), if_pos (by omega)] <;> rfl) | (rw [if_neg (by omega), if_neg (by omega), if_pos (by omega)] <;> rfl) | (rw [if_neg (by omega), if_neg (by omega), if_neg (by omega)] <;> rfl)))
      · refine e_aload_n dX2_passLead_49 rfl rfl ?_
        refine e_getfield fd_X2_46 dX2_passLead_50 rfl rfl rfl rfl ?_
        refine e_iconst dX2_passLead_53 rfl ?_
        refine e_iadd dX2_passLead_54 rfl ?_
        refine e_goto (n := 59) dX2_passLead_55 rfl ?_
        refine e_putfield fd_X2_46 dX2_passLead_59 rfl rfl rfl (Nat.le_of_ble_eq_true rfl) rfl rfl ?_
        exact e_vret dX2_passLead_62 rfl (eRet_v (by unfold sPL; first | (rw [if_pos (by omega)] <;> rfl) | (rw [if_neg (by omega), if_pos (by omega)] <;> rfl) | (rw [if_neg (by omega), if_neg (by omega), if_pos (by omega)] <;> rfl) | (rw [if_neg (by omega), if_neg (by omega), if_neg (by omega)] <;> rfl)))
  · exact e_vret dX2_passLead_8 rfl (eRet_v (by unfold sPL; first | (rw [if_pos (by omega)] <;> rfl) | (rw [if_neg (by omega), if_pos (by omega)] <;> rfl) | (rw [if_neg (by omega), if_neg (by omega), if_pos (by omega)] <;> rfl) | (rw [if_neg (by omega), if_neg (by omega), if_neg (by omega)] <;> rfl)))
theorem C_X2_drawPresentShape {X : eXT} {a : Nat → Nat} {N : Int} {F : eFs} {P : Int → Int} (hF : okF N F)  :
    EM X mX2_drawPresentShape (eRm 1) a [.ref (a 0)] (wFl a F P) (eRet (none) a (wFl a F (sShp F))) := by
  refine EM.of (by decide +kernel) rfl (Nat.le_of_ble_eq_true rfl) ?_
  have hF0 := hF
  obtain ⟨hc, hld, hled, htn, hgo, hkp, hst, hwt, hcl, hsh, hnx, hN, rx, ry, rh, rm, rc, rw9⟩ := hF
  refine e_bipush dX2_drawPresentShape_0 rfl rfl ?_
  refine f_istore_n dX2_drawPresentShape_2 rfl (Nat.le_of_ble_eq_true rfl) rfl ?_
  refine e_bipush dX2_drawPresentShape_3 rfl rfl ?_
  refine f_istore_n dX2_drawPresentShape_5 rfl (Nat.le_of_ble_eq_true rfl) rfl ?_
  refine e_iconst dX2_drawPresentShape_6 rfl ?_
  refine f_istore_n dX2_drawPresentShape_7 rfl (Nat.le_of_ble_eq_true rfl) rfl ?_
  have hL8 : ∀ (k8 : Nat) (k lx ly : Int) (hk8 : (F.1 0 - k).toNat = k8) (g8 : 0 ≤ k ∧ k ≤ F.1 0) (e8 : sLft F = sMin (F.2 0) (F.1 0 - k).toNat k lx) (f8 : sLow F = sMin (F.2 1) (F.1 0 - k).toNat k ly) (lb : (0 ≤ lx ∧ lx ≤ 12) ∧ 0 ≤ ly ∧ ly ≤ 12), EV (mX2_drawPresentShape, (eRm 1), eRet (none) a (wFl a F (sShp F)), X) a (0, 0) (wFl a F P) 8 [some (.ref (a 0)), some (vi lx), some (vi ly), some (vi k), none, none, none] [] := by
    intro k8
    induction k8 using Nat.strongRecOn with
    | _ k8 ih8 =>
    intro k lx ly hk8 g8 e8 f8 lb
    refine e_iload_n dX2_drawPresentShape_8 rfl rfl ?_
    refine e_aload_n dX2_drawPresentShape_9 rfl rfl ?_
    refine e_getfield fd_X2_24 dX2_drawPresentShape_10 rfl rfl rfl rfl ?_
    refine e_icmp_ge (t := 44) dX2_drawPresentShape_13 rfl rfl (by omega) (by omega) (fun h13 => ?_) (fun h13 => ?_)
    · have e9 : lx = sLft F := (e8.trans (sMin_end (by omega))).symm
      have f9 : ly = sLow F := (f8.trans (sMin_end (by omega))).symm
      subst e9
      subst f9
      refine e_iconst dX2_drawPresentShape_44 rfl ?_
      refine f_istore_n dX2_drawPresentShape_45 rfl (Nat.le_of_ble_eq_true rfl) rfl ?_
      refine e_iload_n dX2_drawPresentShape_46 rfl rfl ?_
      refine e_iconst dX2_drawPresentShape_47 rfl ?_
      refine e_icmp_ge (t := 64) dX2_drawPresentShape_48 rfl rfl (by decide) (by decide) (fun h => absurd h (by decide)) (fun _ => ?_)
      refine e_aload_n dX2_drawPresentShape_51 rfl rfl ?_
      refine e_getfield fd_X2_42 dX2_drawPresentShape_52 rfl rfl rfl rfl ?_
      refine e_iload_n dX2_drawPresentShape_55 rfl rfl ?_
      refine e_lconst dX2_drawPresentShape_56 rfl ?_
      refine e_lastore dX2_drawPresentShape_57 rfl rfl rfl (by omega) (by decide) ?_
      refine f_iinc dX2_drawPresentShape_58 rfl rfl (Nat.le_of_ble_eq_true rfl) rfl ?_
      refine e_goto (n := 46) dX2_drawPresentShape_61 rfl ?_
      refine e_iload_n dX2_drawPresentShape_46 rfl rfl ?_
      refine e_iconst dX2_drawPresentShape_47 rfl ?_
      refine e_icmp_ge (t := 64) dX2_drawPresentShape_48 rfl rfl (by decide) (by decide) (fun h => absurd h (by decide)) (fun _ => ?_)
      refine e_aload_n dX2_drawPresentShape_51 rfl rfl ?_
      refine e_getfield fd_X2_42 dX2_drawPresentShape_52 rfl rfl rfl rfl ?_
      refine e_iload_n dX2_drawPresentShape_55 rfl rfl ?_
      refine e_lconst dX2_drawPresentShape_56 rfl ?_
      refine e_lastore dX2_drawPresentShape_57 rfl rfl rfl (by omega) (by decide) ?_
      refine f_iinc dX2_drawPresentShape_58 rfl rfl (Nat.le_of_ble_eq_true rfl) rfl ?_
      refine e_goto (n := 46) dX2_drawPresentShape_61 rfl ?_
      refine e_iload_n dX2_drawPresentShape_46 rfl rfl ?_
      refine e_iconst dX2_drawPresentShape_47 rfl ?_
      refine e_icmp_ge (t := 64) dX2_drawPresentShape_48 rfl rfl (by decide) (by decide) (fun h => absurd h (by decide)) (fun _ => ?_)
      refine e_aload_n dX2_drawPresentShape_51 rfl rfl ?_
      refine e_getfield fd_X2_42 dX2_drawPresentShape_52 rfl rfl rfl rfl ?_
      refine e_iload_n dX2_drawPresentShape_55 rfl rfl ?_
      refine e_lconst dX2_drawPresentShape_56 rfl ?_
      refine e_lastore dX2_drawPresentShape_57 rfl rfl rfl (by omega) (by decide) ?_
      refine f_iinc dX2_drawPresentShape_58 rfl rfl (Nat.le_of_ble_eq_true rfl) rfl ?_
      refine e_goto (n := 46) dX2_drawPresentShape_61 rfl ?_
      refine e_iload_n dX2_drawPresentShape_46 rfl rfl ?_
      refine e_iconst dX2_drawPresentShape_47 rfl ?_
      refine e_icmp_ge (t := 64) dX2_drawPresentShape_48 rfl rfl (by decide) (by decide) (fun _ => ?_) (fun h => absurd h (by decide))
      refine e_iconst dX2_drawPresentShape_64 rfl ?_
      refine f_istore_n dX2_drawPresentShape_65 rfl (Nat.le_of_ble_eq_true rfl) rfl ?_
      have hL66 : ∀ (k66 : Nat) (k : Int) (Q : Int → Int) (hk66 : (F.1 0 - k).toNat = k66) (g66 : 0 ≤ k ∧ k ≤ F.1 0) (e66 : sShp F = sShF F (F.1 0 - k).toNat k Q), EV (mX2_drawPresentShape, (eRm 1), eRet (none) a (wFl a F (sShp F)), X) a (0, 0) (wFl a F Q) 66 [some (.ref (a 0)), some (vi (sLft F)), some (vi (sLow F)), some (vi k), none, none, none] [] := by
        intro k66
        induction k66 using Nat.strongRecOn with
        | _ k66 ih66 =>
        intro k Q hk66 g66 e66
        refine e_iload_n dX2_drawPresentShape_66 rfl rfl ?_
        refine e_aload_n dX2_drawPresentShape_67 rfl rfl ?_
        refine e_getfield fd_X2_24 dX2_drawPresentShape_68 rfl rfl rfl rfl ?_
        refine e_icmp_ge (t := 139) dX2_drawPresentShape_71 rfl rfl (by omega) (by omega) (fun h71 => ?_) (fun h71 => ?_)
        · exact e_vret dX2_drawPresentShape_139 rfl (eRet_v (by rw [e66.trans (sShF_end (by omega))] <;> rfl))
        · have wb := sShWB hF0 g66.1 (by omega)
          have wt1 : (F.2 1 k - sLow F).tdiv 4 = (F.2 1 k - sLow F) / 4 := wb.2.1
          have wt2 : (F.2 1 k - sLow F).tmod 4 = (F.2 1 k - sLow F) % 4 := Int.tmod_eq_emod_of_nonneg (by omega)
          refine e_aload_n dX2_drawPresentShape_74 rfl rfl ?_
          refine e_getfield fd_X2_15 dX2_drawPresentShape_75 rfl rfl rfl rfl ?_
          refine e_iload_n dX2_drawPresentShape_78 rfl rfl ?_
          refine e_ialoadB dX2_drawPresentShape_79 rfl rfl rfl (by omega) (by decide) ry ?_
          intro b79
          refine e_iload_n dX2_drawPresentShape_80 rfl rfl ?_
          refine e_isub dX2_drawPresentShape_81 rfl ?_
          refine f_istore dX2_drawPresentShape_82 rfl (Nat.le_of_ble_eq_true rfl) rfl ?_
          refine e_iload dX2_drawPresentShape_84 rfl rfl ?_
          refine e_iconst dX2_drawPresentShape_86 rfl ?_
          refine e_idiv dX2_drawPresentShape_87 rfl (by omega) (by omega) (by omega) ?_
          refine f_istore dX2_drawPresentShape_88 rfl (Nat.le_of_ble_eq_true rfl) rfl ?_
          refine e_iload dX2_drawPresentShape_90 rfl rfl ?_
          refine e_iconst dX2_drawPresentShape_92 rfl ?_
          refine e_irem dX2_drawPresentShape_93 rfl (by omega) (by omega) (by omega) ?_
          refine e_bipush dX2_drawPresentShape_94 rfl rfl ?_
          refine e_imul dX2_drawPresentShape_96 rfl ?_
          refine e_aload_n dX2_drawPresentShape_97 rfl rfl ?_
          refine e_getfield fd_X2_9 dX2_drawPresentShape_98 rfl rfl rfl rfl ?_
          refine e_iload_n dX2_drawPresentShape_101 rfl rfl ?_
          refine e_ialoadB dX2_drawPresentShape_102 rfl rfl rfl (by omega) (by decide) rx ?_
          intro b102
          refine e_iadd dX2_drawPresentShape_103 rfl ?_
          refine e_iload_n dX2_drawPresentShape_104 rfl rfl ?_
          refine e_isub dX2_drawPresentShape_105 rfl ?_
          refine f_istore dX2_drawPresentShape_106 rfl (Nat.le_of_ble_eq_true rfl) rfl ?_
          refine e_iload dX2_drawPresentShape_108 rfl rfl ?_
          refine e_if_lt (t := 133) dX2_drawPresentShape_110 rfl rfl (by omega) (fun h110 => ?_) (fun h110 => ?_)
          · exfalso; omega
          · refine e_iload dX2_drawPresentShape_113 rfl rfl ?_
            refine e_iconst dX2_drawPresentShape_115 rfl ?_
            refine e_icmp_ge (t := 133) dX2_drawPresentShape_116 rfl rfl (by omega) (by omega) (fun h116 => ?_) (fun h116 => ?_)
            · exfalso; omega
            · refine e_aload_n dX2_drawPresentShape_119 rfl rfl ?_
              refine e_getfield fd_X2_42 dX2_drawPresentShape_120 rfl rfl rfl rfl ?_
              refine e_iload dX2_drawPresentShape_123 rfl rfl ?_
              refine e_dup2 dX2_drawPresentShape_125 rfl rfl rfl ?_
              refine e_laload dX2_drawPresentShape_126 rfl rfl rfl (by omega) (by decide) ?_
              refine e_lconst dX2_drawPresentShape_127 rfl ?_
              refine e_iload dX2_drawPresentShape_128 rfl rfl ?_
              refine e_lshl dX2_drawPresentShape_130 rfl ?_
              refine e_lor dX2_drawPresentShape_131 rfl ?_
              refine e_lastore dX2_drawPresentShape_132 rfl rfl rfl (by omega) (by decide) ?_
              refine f_iinc dX2_drawPresentShape_133 rfl rfl (Nat.le_of_ble_eq_true rfl) rfl ?_
              refine e_goto (n := 66) dX2_drawPresentShape_136 rfl ?_
              refine EV.fgt 4 ?_
              refine EV.fgt 5 ?_
              refine EV.fgt 6 ?_
              exact ih66 _ (by omega) (k + 1) _ rfl (by omega) (by rw [e66]; exact sShF_go (by omega))
      refine EV.fgt 4 ?_
      refine EV.fgt 5 ?_
      refine EV.fgt 6 ?_
      refine EV.sim (i := 9) (c' := eJ 1 3 (fun _ => 0)) rfl (eJ_sim (fun z h0 h1 => by rcases (show z = 0 ∨ z = 1 ∨ z = 2 by omega) with h | h | h <;> subst h <;> rfl)) ?_
      exact hL66 _ 0 (fun _ => 0) rfl (by omega) rfl
    · refine e_iload_n dX2_drawPresentShape_16 rfl rfl ?_
      refine e_aload_n dX2_drawPresentShape_17 rfl rfl ?_
      refine e_getfield fd_X2_9 dX2_drawPresentShape_18 rfl rfl rfl rfl ?_
      refine e_iload_n dX2_drawPresentShape_21 rfl rfl ?_
      refine e_ialoadB dX2_drawPresentShape_22 rfl rfl rfl (by omega) (by decide) rx ?_
      intro b22
      refine e_min ma_X2_212 dX2_drawPresentShape_23 rfl (Nat.le_of_ble_eq_true rfl) (Nat.le_of_ble_eq_true rfl) (by omega) (by omega) ?_
      refine f_istore_n dX2_drawPresentShape_26 rfl (Nat.le_of_ble_eq_true rfl) rfl ?_
      refine e_iload_n dX2_drawPresentShape_27 rfl rfl ?_
      refine e_aload_n dX2_drawPresentShape_28 rfl rfl ?_
      refine e_getfield fd_X2_15 dX2_drawPresentShape_29 rfl rfl rfl rfl ?_
      refine e_iload_n dX2_drawPresentShape_32 rfl rfl ?_
      refine e_ialoadB dX2_drawPresentShape_33 rfl rfl rfl (by omega) (by decide) ry ?_
      intro b33
      refine e_min ma_X2_212 dX2_drawPresentShape_34 rfl (Nat.le_of_ble_eq_true rfl) (Nat.le_of_ble_eq_true rfl) (by omega) (by omega) ?_
      refine f_istore_n dX2_drawPresentShape_37 rfl (Nat.le_of_ble_eq_true rfl) rfl ?_
      refine f_iinc dX2_drawPresentShape_38 rfl rfl (Nat.le_of_ble_eq_true rfl) rfl ?_
      refine e_goto (n := 8) dX2_drawPresentShape_41 rfl ?_
      refine EV.fgt 4 ?_
      refine EV.fgt 5 ?_
      refine EV.fgt 6 ?_
      exact ih8 _ (by omega) (k + 1) _ _ rfl (by omega) (by rw [e8]; exact sMin_go (by omega)) (by rw [f8]; exact sMin_go (by omega)) (by refine ⟨?_, ?_⟩ <;> split <;> omega)
  refine EV.fgt 4 ?_
  refine EV.fgt 5 ?_
  refine EV.fgt 6 ?_
  exact hL8 _ 0 12 12 rfl (by omega) rfl rfl (by omega)
theorem C_X2_stepsSincePresentShape {X : eXT} {a : Nat → Nat} {N : Int} {F : eFs} {P : Int → Int} (hF : okF N F)  :
    EM X mX2_stepsSincePresentShape (eRm 2) a [.ref (a 0)] (wFl a F P) (eRet (some (vi (sSince F))) a (wFl a F (sShp F))) := by
  refine EM.of (by decide +kernel) rfl (Nat.le_of_ble_eq_true rfl) ?_
  have hF0 := hF
  obtain ⟨hc, hld, hled, htn, hgo, hkp, hst, hwt, hcl, hsh, hnx, hN, rx, ry, rh, rm, rc, rw9⟩ := hF
  refine e_aload_n dX2_stepsSincePresentShape_0 rfl rfl ?_
  refine e_cV2 [0, 1, 2, 3, 4, 5, 6, 7, 8, 9] lk_X2_186 rfl dX2_stepsSincePresentShape_1 rfl (C_X2_drawPresentShape hF0) rfl rfl (Nat.le_of_ble_eq_true rfl) (Nat.le_of_ble_eq_true rfl) (Nat.le_of_ble_eq_true rfl) ⟨rfl, rfl⟩ rfl rfl rfl rfl rfl rfl rfl rfl ?_
  refine e_aload_n dX2_stepsSincePresentShape_4 rfl rfl ?_
  refine e_getfield fd_X2_38 dX2_stepsSincePresentShape_5 rfl rfl rfl rfl ?_
  refine e_aload_n dX2_stepsSincePresentShape_8 rfl rfl ?_
  refine e_getfield fd_X2_42 dX2_stepsSincePresentShape_9 rfl rfl rfl rfl ?_
  refine e_cV0 [7, 8, 9] lk_X2_208 rfl dX2_stepsSincePresentShape_12 rfl (C_X5_stepsSince rw9 (sShp_in hF0).1 (by omega) (by omega)) rfl rfl (Nat.le_of_ble_eq_true rfl) (Nat.le_of_ble_eq_true rfl) (Nat.le_of_ble_eq_true rfl) ⟨rfl, rfl⟩ rfl rfl rfl rfl rfl rfl  ?_
  exact e_iret dX2_stepsSincePresentShape_15 rfl rfl (eRet_i rfl rfl)
theorem C_X2_rememberShape {X : eXT} {a : Nat → Nat} {N : Int} {F : eFs} {P : Int → Int} (hF : okF N F)  :
    EM X mX2_rememberShape (eRm 2) a [.ref (a 0)] (wFl a F P) (eRet (none) a (wFl a (sRem F) (sRemP F P))) := by
  refine EM.of (by decide +kernel) rfl (Nat.le_of_ble_eq_true rfl) ?_
  have hF0 := hF
  obtain ⟨hc, hld, hled, htn, hgo, hkp, hst, hwt, hcl, hsh, hnx, hN, rx, ry, rh, rm, rc, rw9⟩ := hF
  refine e_aload_n dX2_rememberShape_0 rfl rfl ?_
  refine e_getfield fd_X2_24 dX2_rememberShape_1 rfl rfl rfl rfl ?_
  refine e_if_le (t := 22) dX2_rememberShape_4 rfl rfl (by omega) (fun h4 => ?_) (fun h4 => ?_)
  · exact e_vret dX2_rememberShape_22 rfl (eRet_v (by first | (rw [(sRem_y (F := F) (P := P) (by omega)).1, (sRem_y (F := F) (P := P) (by omega)).2] <;> rfl) | (rw [(sRem_n (F := F) (P := P) (by omega)).1, (sRem_n (F := F) (P := P) (by omega)).2] <;> rfl)))
  · refine e_aload_n dX2_rememberShape_7 rfl rfl ?_
    refine e_cV2 [0, 1, 2, 3, 4, 5, 6, 7, 8, 9] lk_X2_186 rfl dX2_rememberShape_8 rfl (C_X2_drawPresentShape hF0) rfl rfl (Nat.le_of_ble_eq_true rfl) (Nat.le_of_ble_eq_true rfl) (Nat.le_of_ble_eq_true rfl) ⟨rfl, rfl⟩ rfl rfl rfl rfl rfl rfl rfl rfl ?_
    refine e_aload_n dX2_rememberShape_11 rfl rfl ?_
    refine e_getfield fd_X2_38 dX2_rememberShape_12 rfl rfl rfl rfl ?_
    refine e_aload_n dX2_rememberShape_15 rfl rfl ?_
    refine e_getfield fd_X2_42 dX2_rememberShape_16 rfl rfl rfl rfl ?_
    refine e_cV2 [7, 8, 9] lk_X2_189 rfl dX2_rememberShape_19 rfl (C_X5_remember (by omega) (by omega)) rfl rfl (Nat.le_of_ble_eq_true rfl) (Nat.le_of_ble_eq_true rfl) (Nat.le_of_ble_eq_true rfl) ⟨rfl, rfl⟩ rfl rfl rfl rfl rfl rfl rfl rfl ?_
    exact e_vret dX2_rememberShape_22 rfl (eRet_v (by first | (rw [(sRem_y (F := F) (P := P) (by omega)).1, (sRem_y (F := F) (P := P) (by omega)).2] <;> rfl) | (rw [(sRem_n (F := F) (P := P) (by omega)).1, (sRem_n (F := F) (P := P) (by omega)).2] <;> rfl)))
theorem C_X2_passSteps {X : eXT} {a : Nat → Nat} {N : Int} {F : eFs} {P : Int → Int} (hF : okF N F) {s : Int} (hs : 0 ≤ s ∧ s ≤ 1000) (hNs : N + 20000 ≤ 100000000) :
    EM X mX2_passSteps (eRm 5) a [.ref (a 0), vi s] (wFl a F P) (eRet (some (vi (sStsR (s - 0).toNat F))) a (wFl a (sSts (s - 0).toNat F) (sStsP (s - 0).toNat F P))) := by
  refine EM.of (by decide +kernel) rfl (Nat.le_of_ble_eq_true rfl) ?_
  have hF0 := hF
  obtain ⟨hc, hld, hled, htn, hgo, hkp, hst, hwt, hcl, hsh, hnx, hN, rx, ry, rh, rm, rc, rw9⟩ := hF
  refine e_iconst dX2_passSteps_0 rfl ?_
  refine f_istore_n dX2_passSteps_1 rfl (Nat.le_of_ble_eq_true rfl) rfl ?_
  refine e_iconst dX2_passSteps_2 rfl ?_
  refine f_istore_n dX2_passSteps_3 rfl (Nat.le_of_ble_eq_true rfl) rfl ?_
  have hL4 : ∀ (k4 : Nat) (i m : Int) (G : eFs) (Q : Int → Int) (hk4 : (s - i).toNat = k4) (g4 : 0 ≤ i ∧ i ≤ s) (o4 : okF (N + 12 * i) G) (c4 : G.1 0 = F.1 0) (e4 : sSts (s - 0).toNat F = sSts (s - i).toNat G) (f4 : sStsR (s - 0).toNat F = m + sStsR (s - i).toNat G) (p4 : sStsP (s - 0).toNat F P = sStsP (s - i).toNat G Q), EV (mX2_passSteps, (eRm 5), eRet (some (vi (sStsR (s - 0).toNat F))) a (wFl a (sSts (s - 0).toNat F) (sStsP (s - 0).toNat F P)), X) a (0, 0) (wFl a G Q) 4 [some (.ref (a 0)), some (vi s), some (vi m), some (vi i), none] [] := by
    intro k4
    induction k4 using Nat.strongRecOn with
    | _ k4 ih4 =>
    intro i m G Q hk4 g4 o4 c4 e4 f4 p4
    refine e_iload_n dX2_passSteps_4 rfl rfl ?_
    refine e_iload_n dX2_passSteps_5 rfl rfl ?_
    refine e_icmp_ge (t := 67) dX2_passSteps_6 rfl rfl (by omega) (by omega) (fun h6 => ?_) (fun h6 => ?_)
    · refine e_iload_n dX2_passSteps_67 rfl rfl ?_
      exact e_iret dX2_passSteps_68 rfl rfl (eRet_i (by rw [(sSts_end (F := G) (P := Q) (n := s) (i := i) (by omega)).2.1] at f4; omega) (by rw [e4, p4, (sSts_end (F := G) (P := Q) (n := s) (i := i) (by omega)).1, (sSts_end (F := G) (P := Q) (n := s) (i := i) (by omega)).2.2]))
    · refine e_iload_n dX2_passSteps_9 rfl rfl ?_
      refine e_aload_n dX2_passSteps_10 rfl rfl ?_
      refine e_cV2 [0, 1, 2, 3, 4, 5, 6, 7, 8, 9] lk_X2_152 rfl dX2_passSteps_11 rfl (C_X2_moveLeader o4) rfl rfl (Nat.le_of_ble_eq_true rfl) (Nat.le_of_ble_eq_true rfl) (Nat.le_of_ble_eq_true rfl) ⟨rfl, rfl⟩ rfl rfl rfl rfl rfl rfl rfl rfl ?_
      refine EV.ceq (cs' := wFl a (sML G) (Q)) rfl ?_
      refine e_iadd dX2_passSteps_14 rfl ?_
      refine f_istore_n dX2_passSteps_15 rfl (Nat.le_of_ble_eq_true rfl) rfl ?_
      refine e_iconst dX2_passSteps_16 rfl ?_
      refine f_istore dX2_passSteps_17 rfl (Nat.le_of_ble_eq_true rfl) rfl ?_
      have hL19 : ∀ (k19 : Nat) (b q : Int) (Gb : eFs) (hk19 : (F.1 0 - b).toNat = k19) (g19 : 0 ≤ b ∧ b ≤ F.1 0) (o19 : okF (N + 12 * i + 1 + b) Gb) (c19 : Gb.1 0 = F.1 0) (e19 : sFA (sML G) = sFols (F.1 0 - b).toNat b Gb) (f19 : m + sMLr G + sFAr (sML G) = q + sFolr (F.1 0 - b).toNat b Gb), EV (mX2_passSteps, (eRm 5), eRet (some (vi (sStsR (s - 0).toNat F))) a (wFl a (sSts (s - 0).toNat F) (sStsP (s - 0).toNat F P)), X) a (0, 0) (wFl a Gb Q) 19 [some (.ref (a 0)), some (vi s), some (vi q), some (vi i), some (vi b)] [] := by
        intro k19
        induction k19 using Nat.strongRecOn with
        | _ k19 ih19 =>
        intro b q Gb hk19 g19 o19 c19 e19 f19
        refine e_iload dX2_passSteps_19 rfl rfl ?_
        refine e_aload_n dX2_passSteps_21 rfl rfl ?_
        refine e_getfield fd_X2_24 dX2_passSteps_22 rfl rfl rfl rfl ?_
        refine e_icmp_ge (t := 43) dX2_passSteps_25 rfl rfl (by omega) (by omega) (fun h25 => ?_) (fun h25 => ?_)
        · have z1 : sFA (sML G) = Gb := e19.trans (sFols_end (by omega)).1
          have z2 : m + sMLr G + sFAr (sML G) = q := f19.trans (by rw [(sFols_end (F := Gb) (n := F.1 0) (b := b) (by omega)).2]; omega)
          refine e_aload_n dX2_passSteps_43 rfl rfl ?_
          refine e_cV2 [0, 1, 2, 3, 4, 5, 6, 7, 8, 9] lk_X2_159 rfl dX2_passSteps_44 rfl (C_X2_rememberShape o19) rfl rfl (Nat.le_of_ble_eq_true rfl) (Nat.le_of_ble_eq_true rfl) (Nat.le_of_ble_eq_true rfl) ⟨rfl, rfl⟩ rfl rfl rfl rfl rfl rfl rfl rfl ?_
          refine EV.ceq (cs' := wFl a (sRem Gb) (sRemP Gb Q)) rfl ?_
          refine e_aload_n dX2_passSteps_47 rfl rfl ?_
          refine e_dup dX2_passSteps_48 rfl rfl ?_
          refine e_getfield fd_X2_64 dX2_passSteps_49 rfl rfl rfl rfl ?_
          refine e_iconst dX2_passSteps_52 rfl ?_
          refine e_iadd dX2_passSteps_53 rfl ?_
          refine e_putfield fd_X2_64 dX2_passSteps_54 rfl rfl rfl (Nat.le_of_ble_eq_true rfl) rfl rfl ?_
          refine EV.ceq (cs' := wFl a (sTik (sRem Gb)) (sRemP Gb Q)) rfl ?_
          refine e_aload_n dX2_passSteps_57 rfl rfl ?_
          refine e_cV2 [0, 1, 2, 3, 4, 5, 6, 7, 8, 9] lk_X2_162 rfl dX2_passSteps_58 rfl (C_X2_passLead (F := sTik (sRem Gb)) (okF_tik (okF_rem o19) (by omega))) rfl rfl (Nat.le_of_ble_eq_true rfl) (Nat.le_of_ble_eq_true rfl) (Nat.le_of_ble_eq_true rfl) ⟨rfl, rfl⟩ rfl rfl rfl rfl rfl rfl rfl rfl ?_
          refine EV.ceq (cs' := wFl a (sPL (sTik (sRem Gb))) (sRemP Gb Q)) rfl ?_
          refine f_iinc dX2_passSteps_61 rfl rfl (Nat.le_of_ble_eq_true rfl) rfl ?_
          refine e_goto (n := 4) dX2_passSteps_64 rfl ?_
          refine EV.fgt 4 ?_
          refine EV.ceq (cs' := wFl a (sStp G) (sStpP G Q)) (by unfold sStp sStpP; rw [z1]) ?_
          exact ih4 _ (by omega) (i + 1) q (sStp G) (sStpP G Q) rfl (by omega) (by rw [show N + 12 * (i + 1) = N + 12 * i + 12 by omega]; exact okF_stp o4 (by omega)) ((sStp_fix o4 (by omega)).1.trans c4) (e4.trans (sSts_go (P := Q) (by omega)).1) (by rw [f4, (sSts_go (F := G) (P := Q) (i := i) (n := s) (by omega)).2.1]; unfold sStpR; omega) (p4.trans (sSts_go (by omega)).2.2)
        · refine e_iload_n dX2_passSteps_28 rfl rfl ?_
          refine e_aload_n dX2_passSteps_29 rfl rfl ?_
          refine e_iload dX2_passSteps_30 rfl rfl ?_
          refine e_cV2 [0, 1, 2, 3, 4, 5, 6, 7, 8, 9] lk_X2_156 rfl dX2_passSteps_32 rfl (C_X2_moveFollower o19 (by omega)) rfl rfl (Nat.le_of_ble_eq_true rfl) (Nat.le_of_ble_eq_true rfl) (Nat.le_of_ble_eq_true rfl) ⟨rfl, rfl⟩ rfl rfl rfl rfl rfl rfl rfl rfl ?_
          refine EV.ceq (cs' := wFl a (sMF Gb b) (Q)) rfl ?_
          refine e_iadd dX2_passSteps_35 rfl ?_
          refine f_istore_n dX2_passSteps_36 rfl (Nat.le_of_ble_eq_true rfl) rfl ?_
          refine f_iinc dX2_passSteps_37 rfl rfl (Nat.le_of_ble_eq_true rfl) rfl ?_
          refine e_goto (n := 19) dX2_passSteps_40 rfl ?_
          exact ih19 _ (by omega) (b + 1) (q + sMFr Gb b) (sMF Gb b) rfl (by omega) (by rw [show N + 12 * i + 1 + (b + 1) = N + 12 * i + 1 + b + 1 by omega]; exact okF_mf o19 (by omega)) (sMF_fix.1.trans c19) (e19.trans (sFols_go (by omega)).1) (by rw [f19, (sFols_go (F := Gb) (b := b) (n := F.1 0) (by omega)).2]; omega)
      exact hL19 _ 0 (m + sMLr G) (sML G) rfl (by omega) (by rw [show N + 12 * i + 1 + 0 = N + 12 * i + 1 by omega]; exact okF_ml o4 (by omega)) (sML_fix.1.trans c4) (by unfold sFA; rw [sML_fix.1.trans c4]) (by unfold sFAr; rw [sML_fix.1.trans c4])
  refine EV.fgt 4 ?_
  exact hL4 _ 0 0 F P rfl (by omega) (by rw [show N + 12 * 0 = N by omega]; exact hF0) rfl rfl (by omega) rfl
