/-! ===== the reference: its state ===== -/
/-- numbers: 0 thrown, 1 changes, 2 is saved, 3 result, 4 why, 5 detail, 6 typed, 7 here, 8 error, 9 error at, 10 failed at, 11 commands, 12 line's size; rows: 0 all, 1 shape, 2 input, 3 commands, 4 line -/
def wM (a : Nat → Nat) (M : eFs) : List eE := [.inr (7, [vi (M.1 0), .ref (a 1), vi (M.1 1), vb (M.1 2 = 1), vi (M.1 3), vi (M.1 4), vi (M.1 5), .ref (a 2), .ref (a 3), vi (M.1 6), vi (M.1 7), vi (M.1 8), vi (M.1 9), vi (M.1 10), .ref (a 4), vi (M.1 11), .ref (a 5), vi (M.1 12)]),
  eI 0 3000 (M.2 0), eI 0 12 (M.2 1), eI 2 60 (M.2 2), eI 0 244 (M.2 3), eI 2 12 (M.2 4)]
/-- words of a shape against rows of bits -/
def mSh (w : Int → Int) (s : Int) (y : Int → Int) (o : Int) : Prop := ∀ r, 0 ≤ r → r < 12 → (0 ≤ y (o + r) ∧ y (o + r) ≤ 4095) ∧ ∀ c, 0 ≤ c → c < 12 → ((w (s * 3 + r / 4)).toNat.testBit (r % 4 * 12 + c).toNat = true ↔ (y (o + r)).toNat.testBit c.toNat = true)
/-- a row of the reference tells a flock -/
def mRn (F : eFs) (x : Int → Int) : Prop := x 0 = F.1 0 ∧ x 1 = F.1 9 ∧ x 2 = F.1 1 ∧ x 3 = F.1 2 ∧ x 4 = F.1 3 ∧ x 5 = (if F.1 4 = -1 then 0 else 12 * F.1 5 + F.1 4 + 1) ∧ x 6 = F.1 6 ∧ x 7 = F.1 7 ∧ x 8 = F.1 8 ∧ x 9 = F.1 10
def mRb (F : eFs) (x : Int → Int) : Prop := ∀ b, 0 ≤ b → b < F.1 0 → x (10 + 4 * b + 0) = F.2 0 b ∧ x (10 + 4 * b + 1) = F.2 1 b ∧ x (10 + 4 * b + 2) = F.2 2 b ∧ x (10 + 4 * b + 3) = F.2 3 b
def mRc (F : eFs) (x : Int → Int) : Prop := (∀ u v, sIn u v → (sBit (F.2 4 v) u ↔ ∃ k, 0 ≤ k ∧ k < F.1 9 ∧ x (50 + k) = 12 * v + u)) ∧ (∀ k, 0 ≤ k → k < F.1 9 → 0 ≤ x (50 + k) ∧ x (50 + k) < 144) ∧ (∀ k j, 0 ≤ k → k < j → j < F.1 9 → x (50 + k) ≠ x (50 + j))
def mRs (F : eFs) (x : Int → Int) : Prop := ∀ k, 0 ≤ k → k < F.1 10 → mSh (F.2 5) ((F.1 11 - 1 - k) % 16) x (58 + 12 * k)
def mR (F : eFs) (x : Int → Int) : Prop := mRn F x ∧ mRb F x ∧ mRc F x ∧ mRs F x
theorem mSh_cong {w : Int → Int} {s o : Int} {x y : Int → Int} (h : ∀ r, 0 ≤ r → r < 12 → y (o + r) = x (o + r)) (q : mSh w s x o) : mSh w s y o := fun r r0 r1 => by rw [h r r0 r1]; exact q r r0 r1
theorem mR_cong {F : eFs} {N : Int} {x y : Int → Int} (hF : okF N F) (h : ∀ j, 0 ≤ j → j < 250 → y j = x j) (q : mR F x) : mR F y := by
  obtain ⟨hc, hld, hled, htn, hgo, hkp, hst, hwt, hcl, hsh, hnx, hN, rx, ry, rh, rm, rc, rw9⟩ := hF
  obtain ⟨q1, q2, ⟨q3, q4, q5⟩, q6⟩ := q
  refine ⟨?_, fun b b0 b1 => ?_, ⟨fun u v i => ?_, fun k k0 k1 => ?_, fun k j k0 k1 j1 => ?_⟩, fun k k0 k1 => ?_⟩
  · unfold mRn at q1 ⊢
    rw [h 0 (by omega) (by omega), h 1 (by omega) (by omega), h 2 (by omega) (by omega), h 3 (by omega) (by omega), h 4 (by omega) (by omega), h 5 (by omega) (by omega), h 6 (by omega) (by omega), h 7 (by omega) (by omega), h 8 (by omega) (by omega), h 9 (by omega) (by omega)]
    exact q1
  · rw [h _ (by omega) (by omega), h _ (by omega) (by omega), h _ (by omega) (by omega), h _ (by omega) (by omega)]; exact q2 b b0 b1
  · rw [q3 u v i]
    constructor
    · rintro ⟨k, k0, k1, e⟩; exact ⟨k, k0, k1, by rw [h _ (by omega) (by omega)]; exact e⟩
    · rintro ⟨k, k0, k1, e⟩; exact ⟨k, k0, k1, by rw [h _ (by omega) (by omega)] at e; exact e⟩
  · rw [h _ (by omega) (by omega)]; exact q4 k k0 k1
  · rw [h _ (by omega) (by omega), h _ (by omega) (by omega)]; exact q5 k j k0 k1 j1
  · exact mSh_cong (fun r r0 r1 => h _ (by omega) (by omega)) (q6 k k0 k1)
/-- one of the rows: the present one (0), those ahead of the changes (1 to 8), the snapshot (9), aside (10), tried (11) -/
def mSl (x : Int → Int) (k : Int) : Int → Int := fun j => x (250 * k + j)
/-- the reference's cloud in a cell -/
def mCl (M : eFs) (x y : Int) : Int := eFB (fun k => M.2 0 (50 + k) = 12 * y + x) (M.2 0 1) 0
theorem mCl_cov {N : Int} {F M : eFs} {u v : Int} (hF : okF N F) (hR : mR F (M.2 0)) (h : sIn u v) : (-1 ≤ mCl M u v ∧ (mCl M u v < F.1 9 ∨ mCl M u v = -1)) ∧ (0 ≤ mCl M u v ↔ sCov (F.2 4) u v) ∧ (0 ≤ mCl M u v → M.2 0 (50 + mCl M u v) = 12 * v + u) := by
  have e : M.2 0 1 = F.1 9 := hR.1.2.1
  have hin := eFB_in (P := fun k => M.2 0 (50 + k) = 12 * v + u) (n := M.2 0 1) (i := 0) (by decide)
  rcases eFB_or (P := fun k => M.2 0 (50 + k) = 12 * v + u) (n := M.2 0 1) 0 with ⟨h1, h2⟩ | ⟨h1, h2, h3, h4⟩
  · refine ⟨by unfold mCl; omega, ⟨fun q => by unfold mCl at q; omega, fun q => ?_⟩, fun q => by unfold mCl at q; omega⟩
    obtain ⟨k, k0, k1, ek⟩ := (hR.2.2.1.1 u v h).mp q.2
    exact absurd ek (h2 k k0 (by omega))
  · refine ⟨by unfold mCl; omega, ⟨fun q => ⟨h, (hR.2.2.1.1 u v h).mpr ⟨_, h1, by omega, h3⟩⟩, fun q => h1⟩, fun _ => h3⟩

theorem C_X7_in {X : eXT} {a : Nat → Nat} {v l m : Int} (gv : -2147483648 ≤ v ∧ v ≤ 2147483647) (gl : -2147483648 ≤ l ∧ l ≤ 2147483647) (gm : -2147483648 ≤ m ∧ m ≤ 2147483647) :
    EM X mX7_in (eRm 0) a [vi v, vi l, vi m] ([]) (eRet (some (vb (l ≤ v ∧ v ≤ m))) a []) := by
  refine EM.of (by decide +kernel) rfl (Nat.le_of_ble_eq_true rfl) ?_
  refine e_iload_n dX7_in_0 rfl rfl ?_
  refine e_iload_n dX7_in_1 rfl rfl ?_
  refine e_icmp_lt (t := 14) dX7_in_2 rfl rfl (by omega) (by omega) (fun h2 => ?_) (fun h2 => ?_)
  · refine e_iconst dX7_in_14 rfl ?_
    exact e_iret dX7_in_15 rfl (by decide) (eRet_f (by omega) rfl)
  · refine e_iload_n dX7_in_5 rfl rfl ?_
    refine e_iload_n dX7_in_6 rfl rfl ?_
    refine e_icmp_gt (t := 14) dX7_in_7 rfl rfl (by omega) (by omega) (fun h7 => ?_) (fun h7 => ?_)
    · refine e_iconst dX7_in_14 rfl ?_
      exact e_iret dX7_in_15 rfl (by decide) (eRet_f (by omega) rfl)
    · refine e_iconst dX7_in_10 rfl ?_
      refine e_goto (n := 15) dX7_in_11 rfl ?_
      exact e_iret dX7_in_15 rfl (by decide) (eRet_t (by omega) rfl)
theorem C_X7_size {X : eXT} {a : Nat → Nat} {v : Int} (hv : -1000000 ≤ v ∧ v ≤ 1000000) :
    EM X mX7_size (eRm 0) a [vi v] ([]) (eRet (some (vi (eAbs v))) a []) := by
  refine EM.of (by decide +kernel) rfl (Nat.le_of_ble_eq_true rfl) ?_
  refine e_iload_n dX7_size_0 rfl rfl ?_
  refine e_if_ge (t := 9) dX7_size_1 rfl rfl (by omega) (fun h1 => ?_) (fun h1 => ?_)
  · refine e_iload_n dX7_size_9 rfl rfl ?_
    exact e_iret dX7_size_10 rfl rfl (eRet_i (by unfold eAbs; first | (rw [if_pos (by omega)]) | (rw [if_neg (by omega)])) rfl)
  · refine e_iload_n dX7_size_4 rfl rfl ?_
    refine e_ineg dX7_size_5 rfl ?_
    refine e_goto (n := 10) dX7_size_6 rfl ?_
    exact e_iret dX7_size_10 rfl rfl (eRet_i (by unfold eAbs; first | (rw [if_pos (by omega)]) | (rw [if_neg (by omega)])) rfl)
theorem C_X7_isCell {X : eXT} {a : Nat → Nat} {x y : Int} (gx : -2147483648 ≤ x ∧ x ≤ 2147483647) (gy : -2147483648 ≤ y ∧ y ≤ 2147483647) :
    EM X mX7_isCell (eRm 1) a [vi x, vi y] ([]) (eRet (some (vb (sIn x y))) a []) := by
  refine EM.of (by decide +kernel) rfl (Nat.le_of_ble_eq_true rfl) ?_
  refine e_iload_n dX7_isCell_0 rfl rfl ?_
  refine e_iconst dX7_isCell_1 rfl ?_
  refine e_bipush dX7_isCell_2 rfl rfl ?_
  refine e_cS0 [] lk_X7_46 rfl dX7_isCell_4 rfl (C_X7_in (by omega) (by omega) (by omega)) rfl rfl (Nat.le_of_ble_eq_true rfl) (Nat.le_of_ble_eq_true rfl) (Nat.le_of_ble_eq_true rfl) ⟨rfl, rfl⟩ rfl rfl  ?_
  refine e_ifb_eq (t := 24) dX7_isCell_7 rfl rfl (fun h7 => ?_) (fun h7 => ?_)
  · refine e_iconst dX7_isCell_24 rfl ?_
    exact e_iret dX7_isCell_25 rfl (by decide) (eRet_f (by omega) rfl)
  · refine e_iload_n dX7_isCell_10 rfl rfl ?_
    refine e_iconst dX7_isCell_11 rfl ?_
    refine e_bipush dX7_isCell_12 rfl rfl ?_
    refine e_cS0 [] lk_X7_46 rfl dX7_isCell_14 rfl (C_X7_in (by omega) (by omega) (by omega)) rfl rfl (Nat.le_of_ble_eq_true rfl) (Nat.le_of_ble_eq_true rfl) (Nat.le_of_ble_eq_true rfl) ⟨rfl, rfl⟩ rfl rfl  ?_
    refine e_ifb_eq (t := 24) dX7_isCell_17 rfl rfl (fun h17 => ?_) (fun h17 => ?_)
    · refine e_iconst dX7_isCell_24 rfl ?_
      exact e_iret dX7_isCell_25 rfl (by decide) (eRet_f (by omega) rfl)
    · refine e_iconst dX7_isCell_20 rfl ?_
      refine e_goto (n := 25) dX7_isCell_21 rfl ?_
      exact e_iret dX7_isCell_25 rfl (by decide) (eRet_t (by omega) rfl)
theorem C_X7_toward {X : eXT} {a : Nat → Nat} {v : Int} (hv : -1000000 ≤ v ∧ v ≤ 1000000) :
    EM X mX7_toward (eRm 0) a [vi v] ([]) (eRet (some (vi (if v < 0 then -1 else if 0 < v then 1 else 0))) a []) := by
  refine EM.of (by decide +kernel) rfl (Nat.le_of_ble_eq_true rfl) ?_
  refine e_iload_n dX7_toward_0 rfl rfl ?_
  refine e_if_ge (t := 8) dX7_toward_1 rfl rfl (by omega) (fun h1 => ?_) (fun h1 => ?_)
  · refine e_iload_n dX7_toward_8 rfl rfl ?_
    refine e_if_le (t := 16) dX7_toward_9 rfl rfl (by omega) (fun h9 => ?_) (fun h9 => ?_)
    · refine e_iconst dX7_toward_16 rfl ?_
      exact e_iret dX7_toward_17 rfl rfl (eRet_i (by (repeat' split) <;> omega) rfl)
    · refine e_iconst dX7_toward_12 rfl ?_
      refine e_goto (n := 17) dX7_toward_13 rfl ?_
      exact e_iret dX7_toward_17 rfl rfl (eRet_i (by (repeat' split) <;> omega) rfl)
  · refine e_iconst dX7_toward_4 rfl ?_
    refine e_goto (n := 17) dX7_toward_5 rfl ?_
    exact e_iret dX7_toward_17 rfl rfl (eRet_i (by (repeat' split) <;> omega) rfl)
theorem C_X7_thrown {X : eXT} {a : Nat → Nat} {M : eFs}  :
    EM X mX7_thrown (eRm 0) a [.ref (a 0)] (wM a M) (eRet (some (vi (M.1 0))) a (wM a M)) := by
  refine EM.of (by decide +kernel) rfl (Nat.le_of_ble_eq_true rfl) ?_
  refine e_aload_n dX7_thrown_0 rfl rfl ?_
  refine e_getfield fd_X7_33 dX7_thrown_1 rfl rfl rfl rfl ?_
  exact e_iret dX7_thrown_4 rfl rfl (eRet_i (by omega) rfl)
theorem C_X7_b {X : eXT} {a : Nat → Nat} {M : eFs} {b w : Int} (hb : 0 ≤ b ∧ b < 10) (hw : 0 ≤ w ∧ w ≤ 3) :
    EM X mX7_b (eRm 0) a [.ref (a 0), vi b, vi w] (wM a M) (eRet (some (vi (M.2 0 (10 + 4 * b + w)))) a (wM a M)) := by
  refine EM.of (by decide +kernel) rfl (Nat.le_of_ble_eq_true rfl) ?_
  refine e_aload_n dX7_b_0 rfl rfl ?_
  refine e_getfield fd_X7_9 dX7_b_1 rfl rfl rfl rfl ?_
  refine e_bipush dX7_b_4 rfl rfl ?_
  refine e_iconst dX7_b_6 rfl ?_
  refine e_iload_n dX7_b_7 rfl rfl ?_
  refine e_imul dX7_b_8 rfl ?_
  refine e_iadd dX7_b_9 rfl ?_
  refine e_iload_n dX7_b_10 rfl rfl ?_
  refine e_iadd dX7_b_11 rfl ?_
  refine e_iaload dX7_b_12 rfl rfl rfl (by omega) (by decide) ?_
  exact e_iret dX7_b_13 rfl rfl (eRet_i rfl rfl)
theorem C_X7_set {X : eXT} {a : Nat → Nat} {M : eFs} {b w v : Int} (hb : 0 ≤ b ∧ b < 10) (hw : 0 ≤ w ∧ w ≤ 3) :
    EM X mX7_set (eRm 0) a [.ref (a 0), vi b, vi w, vi v] (wM a M) (eRet none a (wM a (sA M 0 (10 + 4 * b + w) v))) := by
  refine EM.of (by decide +kernel) rfl (Nat.le_of_ble_eq_true rfl) ?_
  refine e_aload_n dX7_set_0 rfl rfl ?_
  refine e_getfield fd_X7_9 dX7_set_1 rfl rfl rfl rfl ?_
  refine e_bipush dX7_set_4 rfl rfl ?_
  refine e_iconst dX7_set_6 rfl ?_
  refine e_iload_n dX7_set_7 rfl rfl ?_
  refine e_imul dX7_set_8 rfl ?_
  refine e_iadd dX7_set_9 rfl ?_
  refine e_iload_n dX7_set_10 rfl rfl ?_
  refine e_iadd dX7_set_11 rfl ?_
  refine e_iload_n dX7_set_12 rfl rfl ?_
  refine e_iastore dX7_set_13 rfl rfl rfl (by omega) (by decide) ?_
  exact e_vret dX7_set_14 rfl (eRet_v rfl)
theorem C_X7_isFine {X : eXT} {a : Nat → Nat} {M : eFs} {c : Prop} [Decidable c] :
    EM X mX7_isFine (eRm 0) a [.ref (a 0), vb c] (wM a M) (eRet (some (vb c)) a (wM a (sS M 0 (if c then 0 else 1)))) := by
  refine EM.of (by decide +kernel) rfl (Nat.le_of_ble_eq_true rfl) ?_
  refine e_aload_n dX7_isFine_0 rfl rfl ?_
  refine e_iload_n dX7_isFine_1 rfl rfl ?_
  refine e_ifb_eq (t := 9) dX7_isFine_2 rfl rfl (fun h2 => ?_) (fun h2 => ?_)
  · refine e_iconst dX7_isFine_9 rfl ?_
    refine e_putfield fd_X7_33 dX7_isFine_10 rfl rfl rfl (Nat.le_of_ble_eq_true rfl) rfl rfl ?_
    refine e_iload_n dX7_isFine_13 rfl rfl ?_
    exact e_iret dX7_isFine_14 rfl eNarB (eRet_b Iff.rfl (by first | (rw [if_pos h2]; rfl) | (rw [if_neg h2]; rfl)))
  · refine e_iconst dX7_isFine_5 rfl ?_
    refine e_goto (n := 10) dX7_isFine_6 rfl ?_
    refine e_putfield fd_X7_33 dX7_isFine_10 rfl rfl rfl (Nat.le_of_ble_eq_true rfl) rfl rfl ?_
    refine e_iload_n dX7_isFine_13 rfl rfl ?_
    exact e_iret dX7_isFine_14 rfl eNarB (eRet_b Iff.rfl (by first | (rw [if_pos h2]; rfl) | (rw [if_neg h2]; rfl)))
theorem C_X7_told {X : eXT} {a : Nat → Nat} {M : eFs} {k : Int} (hk : 0 ≤ k ∧ k < 250) :
    EM X mX7_told (eRm 0) a [.ref (a 0), vi k] (wM a M) (eRet (some (vi (M.2 0 k))) a (wM a (sS M 0 0))) := by
  refine EM.of (by decide +kernel) rfl (Nat.le_of_ble_eq_true rfl) ?_
  refine e_aload_n dX7_told_0 rfl rfl ?_
  refine e_iconst dX7_told_1 rfl ?_
  refine e_putfield fd_X7_33 dX7_told_2 rfl rfl rfl (Nat.le_of_ble_eq_true rfl) rfl rfl ?_
  refine e_aload_n dX7_told_5 rfl rfl ?_
  refine e_getfield fd_X7_9 dX7_told_6 rfl rfl rfl rfl ?_
  refine e_iload_n dX7_told_9 rfl rfl ?_
  refine e_iaload dX7_told_10 rfl rfl rfl (by omega) (by decide) ?_
  exact e_iret dX7_told_11 rfl rfl (eRet_i rfl rfl)
theorem cpy_up {x g : Int → Int} {f t k : Int} (e : ∀ j, g j = eCy x x (250 * f) (250 * t) k j) (hk : 0 ≤ k ∧ k < 250) (hft : (0 ≤ f ∧ f ≤ 11) ∧ (0 ≤ t ∧ t ≤ 11) ∧ ¬ f = t) : ∀ j, eU g (250 * t + k) (g (250 * f + k)) j = eCy x x (250 * f) (250 * t) (k + 1) j := by
  intro j
  have e1 : g (250 * f + k) = x (250 * f + k) := by rw [e]; unfold eCy; rw [if_neg (by omega)]
  by_cases q : j = 250 * t + k
  · rw [q, eU_self, e1]
    unfold eCy
    rw [if_pos (by omega)]
    congr 1
    omega
  · rw [eU_ne q, e]
    unfold eCy
    by_cases r : 250 * t ≤ j ∧ j < 250 * t + k
    · rw [if_pos r, if_pos (by omega)]
    · rw [if_neg r, if_neg (by omega)]

theorem C_X7_copies {X : eXT} {a : Nat → Nat} {M : eFs} {f t : Int} (hft : (0 ≤ f ∧ f ≤ 11) ∧ (0 ≤ t ∧ t ≤ 11) ∧ ¬ f = t) :
    EM X mX7_copies (eRm 0) a [.ref (a 0), vi f, vi t] (wM a M) (eRet none a (wM a (sR M 0 (eCy (M.2 0) (M.2 0) (250 * f) (250 * t) 250)))) := by
  refine EM.of (by decide +kernel) rfl (Nat.le_of_ble_eq_true rfl) ?_
  refine e_iconst dX7_copies_0 rfl ?_
  refine f_istore_n dX7_copies_1 rfl (Nat.le_of_ble_eq_true rfl) rfl ?_
  have hL2 : ∀ (k2 : Nat) (k : Int) (g : Int → Int) (hk2 : (250 - k).toNat = k2) (g2 : 0 ≤ k ∧ k ≤ 250) (e2 : ∀ j, g j = eCy (M.2 0) (M.2 0) (250 * f) (250 * t) k j), EV (mX7_copies, (eRm 0), eRet none a (wM a (sR M 0 (eCy (M.2 0) (M.2 0) (250 * f) (250 * t) 250))), X) a (0, 0) (wM a (sR M 0 g)) 2 [some (.ref (a 0)), some (vi f), some (vi t), some (vi k)] [] := by
    intro k2
    induction k2 using Nat.strongRecOn with
    | _ k2 ih2 =>
    intro k g hk2 g2 e2
    refine e_iload_n dX7_copies_2 rfl rfl ?_
    refine e_sipush dX7_copies_3 rfl rfl ?_
    refine e_icmp_ge (t := 39) dX7_copies_6 rfl rfl (by omega) (by omega) (fun h6 => ?_) (fun h6 => ?_)
    · exact e_vret dX7_copies_39 rfl (eRet_v (by rw [show g = eCy (M.2 0) (M.2 0) (250 * f) (250 * t) 250 from funext (fun j => by rw [e2, show k = 250 by omega])]))
    · refine e_aload_n dX7_copies_9 rfl rfl ?_
      refine e_getfield fd_X7_9 dX7_copies_10 rfl rfl rfl rfl ?_
      refine e_sipush dX7_copies_13 rfl rfl ?_
      refine e_iload_n dX7_copies_16 rfl rfl ?_
      refine e_imul dX7_copies_17 rfl ?_
      refine e_iload_n dX7_copies_18 rfl rfl ?_
      refine e_iadd dX7_copies_19 rfl ?_
      refine e_aload_n dX7_copies_20 rfl rfl ?_
      refine e_getfield fd_X7_9 dX7_copies_21 rfl rfl rfl rfl ?_
      refine e_sipush dX7_copies_24 rfl rfl ?_
      refine e_iload_n dX7_copies_27 rfl rfl ?_
      refine e_imul dX7_copies_28 rfl ?_
      refine e_iload_n dX7_copies_29 rfl rfl ?_
      refine e_iadd dX7_copies_30 rfl ?_
      refine e_iaload dX7_copies_31 rfl rfl rfl (by omega) (by decide) ?_
      refine e_iastore dX7_copies_32 rfl rfl rfl (by omega) (by decide) ?_
      refine f_iinc dX7_copies_33 rfl rfl (Nat.le_of_ble_eq_true rfl) rfl ?_
      refine e_goto (n := 2) dX7_copies_36 rfl ?_
      exact ih2 _ (by omega) (k + 1) _ rfl (by omega) (cpy_up e2 (by omega) (by omega))
  refine EV.ceq (cs' := wM a (sR M 0 (M.2 0))) rfl ?_
  exact hL2 _ 0 (M.2 0) rfl (by omega) (fun j => by unfold eCy; rw [if_neg (by omega)])
theorem C_X7_begins {X : eXT} {a : Nat → Nat} {M : eFs}  :
    EM X mX7_begins (eRm 1) a [.ref (a 0)] (wM a M) (eRet none a (wM a (sR M 0 (eCy (M.2 0) (M.2 0) (250 * 0) (250 * 10) 250)))) := by
  refine EM.of (by decide +kernel) rfl (Nat.le_of_ble_eq_true rfl) ?_
  refine e_aload_n dX7_begins_0 rfl rfl ?_
  refine e_iconst dX7_begins_1 rfl ?_
  refine e_bipush dX7_begins_2 rfl rfl ?_
  refine e_cV2 [0, 1, 2, 3, 4, 5] lk_X7_36 rfl dX7_begins_4 rfl (C_X7_copies (by omega)) rfl rfl (Nat.le_of_ble_eq_true rfl) (Nat.le_of_ble_eq_true rfl) (Nat.le_of_ble_eq_true rfl) ⟨rfl, rfl⟩ rfl rfl rfl rfl rfl rfl rfl rfl ?_
  exact e_vret dX7_begins_7 rfl (eRet_v rfl)
theorem C_X7_isBasket {X : eXT} {a : Nat → Nat} {N : Int} {F M : eFs} (hF : okF N F) (hR : mR F (M.2 0)) {b : Int} (gb : -2147483648 ≤ b ∧ b ≤ 2147483647) :
    EM X mX7_isBasket (eRm 1) a [.ref (a 0), vi b] (wM a M) (eRet (some (vb (sHas F b))) a (wM a M)) := by
  refine EM.of (by decide +kernel) rfl (Nat.le_of_ble_eq_true rfl) ?_
  have hF0 := hF
  obtain ⟨hc, hld, hled, htn, hgo, hkp, hst, hwt, hcl, hsh, hnx, hN, rx, ry, rh, rm, rc, rw9⟩ := hF
  obtain ⟨⟨n0, n1, n2, n3, n4, n5, n6, n7, n8, n9⟩, hb, hcd, hss⟩ := id hR
  refine e_iload_n dX7_isBasket_0 rfl rfl ?_
  refine e_iconst dX7_isBasket_1 rfl ?_
  refine e_aload_n dX7_isBasket_2 rfl rfl ?_
  refine e_getfield fd_X7_9 dX7_isBasket_3 rfl rfl rfl rfl ?_
  refine e_iconst dX7_isBasket_6 rfl ?_
  refine e_iaload dX7_isBasket_7 rfl rfl rfl (by omega) (by decide) ?_
  refine e_iconst dX7_isBasket_8 rfl ?_
  refine e_isub dX7_isBasket_9 rfl ?_
  refine e_cS0 [] lk_X7_46 rfl dX7_isBasket_10 rfl (C_X7_in (by omega) (by omega) (by omega)) rfl rfl (Nat.le_of_ble_eq_true rfl) (Nat.le_of_ble_eq_true rfl) (Nat.le_of_ble_eq_true rfl) ⟨rfl, rfl⟩ rfl rfl  ?_
  exact e_iret dX7_isBasket_13 rfl eNarB (eRet_b (by omega) rfl)
theorem C_X7_far {X : eXT} {a : Nat → Nat} {N : Int} {F M : eFs} (hF : okF N F) (hR : mR F (M.2 0)) {b x y : Int} (hb0 : sHas F b) (hx : -50 ≤ x ∧ x ≤ 50) (hy : -50 ≤ y ∧ y ≤ 50) :
    EM X mX7_far (eRm 1) a [.ref (a 0), vi b, vi x, vi y] (wM a M) (eRet (some (vi (sD F b x y))) a (wM a M)) := by
  refine EM.of (by decide +kernel) rfl (Nat.le_of_ble_eq_true rfl) ?_
  have hF0 := hF
  obtain ⟨hc, hld, hled, htn, hgo, hkp, hst, hwt, hcl, hsh, hnx, hN, rx, ry, rh, rm, rc, rw9⟩ := hF
  obtain ⟨⟨n0, n1, n2, n3, n4, n5, n6, n7, n8, n9⟩, hb, hcd, hss⟩ := id hR
  have hbb := hb b (by omega) (by omega)
  have r0 := rx b
  have r1 := ry b
  have k0 : eAbs (M.2 0 (10 + 4 * b + 0) - x) = eAbs (F.2 0 b - x) := by rw [hbb.1]
  have k1 : eAbs (M.2 0 (10 + 4 * b + 1) - y) = eAbs (F.2 1 b - y) := by rw [hbb.2.1]
  refine e_aload_n dX7_far_0 rfl rfl ?_
  refine e_iload_n dX7_far_1 rfl rfl ?_
  refine e_iconst dX7_far_2 rfl ?_
  refine e_cV0 [0, 1, 2, 3, 4, 5] lk_X7_50 rfl dX7_far_3 rfl (C_X7_b (by omega) (by omega)) rfl rfl (Nat.le_of_ble_eq_true rfl) (Nat.le_of_ble_eq_true rfl) (Nat.le_of_ble_eq_true rfl) ⟨rfl, rfl⟩ rfl rfl rfl rfl rfl rfl  ?_
  refine e_iload_n dX7_far_6 rfl rfl ?_
  refine e_isub dX7_far_7 rfl ?_
  refine e_cS0 [] lk_X7_54 rfl dX7_far_8 rfl (C_X7_size (by omega)) rfl rfl (Nat.le_of_ble_eq_true rfl) (Nat.le_of_ble_eq_true rfl) (Nat.le_of_ble_eq_true rfl) ⟨rfl, rfl⟩ rfl rfl  ?_
  refine e_aload_n dX7_far_11 rfl rfl ?_
  refine e_iload_n dX7_far_12 rfl rfl ?_
  refine e_iconst dX7_far_13 rfl ?_
  refine e_cV0 [0, 1, 2, 3, 4, 5] lk_X7_50 rfl dX7_far_14 rfl (C_X7_b (by omega) (by omega)) rfl rfl (Nat.le_of_ble_eq_true rfl) (Nat.le_of_ble_eq_true rfl) (Nat.le_of_ble_eq_true rfl) ⟨rfl, rfl⟩ rfl rfl rfl rfl rfl rfl  ?_
  refine e_iload_n dX7_far_17 rfl rfl ?_
  refine e_isub dX7_far_18 rfl ?_
  refine e_cS0 [] lk_X7_54 rfl dX7_far_19 rfl (C_X7_size (by omega)) rfl rfl (Nat.le_of_ble_eq_true rfl) (Nat.le_of_ble_eq_true rfl) (Nat.le_of_ble_eq_true rfl) ⟨rfl, rfl⟩ rfl rfl  ?_
  refine e_iadd dX7_far_22 rfl ?_
  exact e_iret dX7_far_23 rfl rfl (eRet_i (by unfold sD; omega) rfl)
theorem C_X7_apart {X : eXT} {a : Nat → Nat} {N : Int} {F M : eFs} (hF : okF N F) (hR : mR F (M.2 0)) {b o : Int} (hb0 : sHas F b) (ho : sHas F o) :
    EM X mX7_apart (eRm 2) a [.ref (a 0), vi b, vi o] (wM a M) (eRet (some (vi (sDD F b o))) a (wM a M)) := by
  refine EM.of (by decide +kernel) rfl (Nat.le_of_ble_eq_true rfl) ?_
  have hF0 := hF
  obtain ⟨hc, hld, hled, htn, hgo, hkp, hst, hwt, hcl, hsh, hnx, hN, rx, ry, rh, rm, rc, rw9⟩ := hF
  obtain ⟨⟨n0, n1, n2, n3, n4, n5, n6, n7, n8, n9⟩, hb, hcd, hss⟩ := id hR
  have hoo := hb o (by omega) (by omega)
  have r0 := rx o
  have r1 := ry o
  refine e_aload_n dX7_apart_0 rfl rfl ?_
  refine e_iload_n dX7_apart_1 rfl rfl ?_
  refine e_aload_n dX7_apart_2 rfl rfl ?_
  refine e_iload_n dX7_apart_3 rfl rfl ?_
  refine e_iconst dX7_apart_4 rfl ?_
  refine e_cV0 [0, 1, 2, 3, 4, 5] lk_X7_50 rfl dX7_apart_5 rfl (C_X7_b (by omega) (by omega)) rfl rfl (Nat.le_of_ble_eq_true rfl) (Nat.le_of_ble_eq_true rfl) (Nat.le_of_ble_eq_true rfl) ⟨rfl, rfl⟩ rfl rfl rfl rfl rfl rfl  ?_
  refine e_aload_n dX7_apart_8 rfl rfl ?_
  refine e_iload_n dX7_apart_9 rfl rfl ?_
  refine e_iconst dX7_apart_10 rfl ?_
  refine e_cV0 [0, 1, 2, 3, 4, 5] lk_X7_50 rfl dX7_apart_11 rfl (C_X7_b (by omega) (by omega)) rfl rfl (Nat.le_of_ble_eq_true rfl) (Nat.le_of_ble_eq_true rfl) (Nat.le_of_ble_eq_true rfl) ⟨rfl, rfl⟩ rfl rfl rfl rfl rfl rfl  ?_
  refine e_cV0 [0, 1, 2, 3, 4, 5] lk_X7_58 rfl dX7_apart_14 rfl (C_X7_far hF0 hR (by omega) (by omega) (by omega)) rfl rfl (Nat.le_of_ble_eq_true rfl) (Nat.le_of_ble_eq_true rfl) (Nat.le_of_ble_eq_true rfl) ⟨rfl, rfl⟩ rfl rfl rfl rfl rfl rfl  ?_
  exact e_iret dX7_apart_17 rfl rfl (eRet_i (by unfold sDD; rw [hoo.1, hoo.2.1]) rfl)
theorem C_X7_cloud {X : eXT} {a : Nat → Nat} {N : Int} {F M : eFs} (hF : okF N F) (hR : mR F (M.2 0)) {x y : Int} (hx : -100 ≤ x ∧ x ≤ 100) (hy : -100 ≤ y ∧ y ≤ 100) :
    EM X mX7_cloud (eRm 0) a [.ref (a 0), vi x, vi y] (wM a M) (eRet (some (vi (mCl M x y))) a (wM a M)) := by
  refine EM.of (by decide +kernel) rfl (Nat.le_of_ble_eq_true rfl) ?_
  have hF0 := hF
  obtain ⟨hc, hld, hled, htn, hgo, hkp, hst, hwt, hcl, hsh, hnx, hN, rx, ry, rh, rm, rc, rw9⟩ := hF
  obtain ⟨⟨n0, n1, n2, n3, n4, n5, n6, n7, n8, n9⟩, hb, hcd, hss⟩ := id hR
  refine e_iconst dX7_cloud_0 rfl ?_
  refine f_istore_n dX7_cloud_1 rfl (Nat.le_of_ble_eq_true rfl) rfl ?_
  have hL2 : ∀ (k2 : Nat) (k : Int) (hk2 : ((M.2 0 1) - k).toNat = k2) (g2 : 0 ≤ k ∧ k ≤ M.2 0 1) (e2 : eFB (fun k => M.2 0 (50 + k) = 12 * y + x) (M.2 0 1) 0 = eFB (fun k => M.2 0 (50 + k) = 12 * y + x) (M.2 0 1) k) , EV (mX7_cloud, (eRm 0), eRet (some (vi (mCl M x y))) a (wM a M), X) a (0, 0) (wM a M) 2 [some (.ref (a 0)), some (vi x), some (vi y), some (vi k)] [] := by
    intro k2
    induction k2 using Nat.strongRecOn with
    | _ k2 ih2 =>
    intro k hk2 g2 e2
    refine e_iload_n dX7_cloud_2 rfl rfl ?_
    refine e_aload_n dX7_cloud_3 rfl rfl ?_
    refine e_getfield fd_X7_9 dX7_cloud_4 rfl rfl rfl rfl ?_
    refine e_iconst dX7_cloud_7 rfl ?_
    refine e_iaload dX7_cloud_8 rfl rfl rfl (by omega) (by decide) ?_
    refine e_icmp_ge (t := 38) dX7_cloud_9 rfl rfl (by omega) (by omega) (fun h9 => ?_) (fun h9 => ?_)
    · refine e_iconst dX7_cloud_38 rfl ?_
      exact e_iret dX7_cloud_39 rfl rfl (eRet_i ((e2.trans (eFB_end (by omega)))).symm rfl)
    · have uk := hcd.2.1 k (by omega) (by omega)
      refine e_aload_n dX7_cloud_12 rfl rfl ?_
      refine e_getfield fd_X7_9 dX7_cloud_13 rfl rfl rfl rfl ?_
      refine e_bipush dX7_cloud_16 rfl rfl ?_
      refine e_iload_n dX7_cloud_18 rfl rfl ?_
      refine e_iadd dX7_cloud_19 rfl ?_
      refine e_iaload dX7_cloud_20 rfl rfl rfl (by omega) (by decide) ?_
      refine e_bipush dX7_cloud_21 rfl rfl ?_
      refine e_iload_n dX7_cloud_23 rfl rfl ?_
      refine e_imul dX7_cloud_24 rfl ?_
      refine e_iload_n dX7_cloud_25 rfl rfl ?_
      refine e_iadd dX7_cloud_26 rfl ?_
      refine e_icmp_ne (t := 32) dX7_cloud_27 rfl rfl (by omega) (by omega) (fun h27 => ?_) (fun h27 => ?_)
      · refine f_iinc dX7_cloud_32 rfl rfl (Nat.le_of_ble_eq_true rfl) rfl ?_
        refine e_goto (n := 2) dX7_cloud_35 rfl ?_
        exact ih2 _ (by omega) (k + 1) rfl (by omega) (e2.trans (eFB_go (by omega) h27)) 
      · refine e_iload_n dX7_cloud_30 rfl rfl ?_
        exact e_iret dX7_cloud_31 rfl rfl (eRet_i ((e2.trans (eFB_hit (by omega) (Decidable.not_not.mp h27)))).symm rfl)
  exact hL2 _ 0 rfl (by omega) rfl 
theorem sD_w {N : Int} {F : eFs} (hF : okF N F) (k x y : Int) (hx : -50 ≤ x ∧ x ≤ 50) (hy : -50 ≤ y ∧ y ≤ 50) : 0 ≤ sD F k x y ∧ sD F k x y ≤ 200 := by
  obtain ⟨hc, hld, hled, htn, hgo, hkp, hst, hwt, hcl, hsh, hnx, hN, rx, ry, rh, rm, rc, rw9⟩ := hF
  have a1 := eAbs_or (F.2 0 k - x)
  have a2 := eAbs_or (F.2 1 k - y)
  have a3 := rx k
  have a4 := ry k
  unfold sD
  omega

theorem C_X7_touched {X : eXT} {a : Nat → Nat} {N : Int} {F M : eFs} (hF : okF N F) (hR : mR F (M.2 0)) {m x y : Int} (hm : -2147483648 ≤ m ∧ m ≤ 2147483647) (hx : -50 ≤ x ∧ x ≤ 50) (hy : -50 ≤ y ∧ y ≤ 50) :
    EM X mX7_touched (eRm 2) a [.ref (a 0), vi m, vi x, vi y] (wM a M) (eRet (some (vi (sTo F m x y))) a (wM a M)) := by
  refine EM.of (by decide +kernel) rfl (Nat.le_of_ble_eq_true rfl) ?_
  have hF0 := hF
  obtain ⟨hc, hld, hled, htn, hgo, hkp, hst, hwt, hcl, hsh, hnx, hN, rx, ry, rh, rm, rc, rw9⟩ := hF
  obtain ⟨⟨n0, n1, n2, n3, n4, n5, n6, n7, n8, n9⟩, hb, hcd, hss⟩ := id hR
  refine e_iconst dX7_touched_0 rfl ?_
  refine f_istore dX7_touched_1 rfl (Nat.le_of_ble_eq_true rfl) rfl ?_
  have hL3 : ∀ (k3 : Nat) (k : Int) (hk3 : ((F.1 0) - k).toNat = k3) (g3 : 0 ≤ k ∧ k ≤ F.1 0) (e3 : eFB (fun k => ¬ k = m ∧ sD F k x y < 2) (F.1 0) 0 = eFB (fun k => ¬ k = m ∧ sD F k x y < 2) (F.1 0) k) , EV (mX7_touched, (eRm 2), eRet (some (vi (sTo F m x y))) a (wM a M), X) a (0, 0) (wM a M) 3 [some (.ref (a 0)), some (vi m), some (vi x), some (vi y), some (vi k)] [] := by
    intro k3
    induction k3 using Nat.strongRecOn with
    | _ k3 ih3 =>
    intro k hk3 g3 e3
    refine e_iload dX7_touched_3 rfl rfl ?_
    refine e_aload_n dX7_touched_5 rfl rfl ?_
    refine e_getfield fd_X7_9 dX7_touched_6 rfl rfl rfl rfl ?_
    refine e_iconst dX7_touched_9 rfl ?_
    refine e_iaload dX7_touched_10 rfl rfl rfl (by omega) (by decide) ?_
    refine e_icmp_ge (t := 41) dX7_touched_11 rfl rfl (by omega) (by omega) (fun h11 => ?_) (fun h11 => ?_)
    · refine e_iconst dX7_touched_41 rfl ?_
      exact e_iret dX7_touched_42 rfl rfl (eRet_i ((e3.trans (eFB_end (by omega)))).symm rfl)
    · refine e_iload dX7_touched_14 rfl rfl ?_
      refine e_iload_n dX7_touched_16 rfl rfl ?_
      refine e_icmp_eq (t := 35) dX7_touched_17 rfl rfl (by omega) (by omega) (fun h17 => ?_) (fun h17 => ?_)
      · refine f_iinc dX7_touched_35 rfl rfl (Nat.le_of_ble_eq_true rfl) rfl ?_
        refine e_goto (n := 3) dX7_touched_38 rfl ?_
        exact ih3 _ (by omega) (k + 1) rfl (by omega) (e3.trans (eFB_go (by omega) (by omega))) 
      · refine e_aload_n dX7_touched_20 rfl rfl ?_
        refine e_iload dX7_touched_21 rfl rfl ?_
        refine e_iload_n dX7_touched_23 rfl rfl ?_
        refine e_iload_n dX7_touched_24 rfl rfl ?_
        refine e_cV0 [0, 1, 2, 3, 4, 5] lk_X7_58 rfl dX7_touched_25 rfl (C_X7_far hF0 hR (by omega) (by omega) (by omega)) rfl rfl (Nat.le_of_ble_eq_true rfl) (Nat.le_of_ble_eq_true rfl) (Nat.le_of_ble_eq_true rfl) ⟨rfl, rfl⟩ rfl rfl rfl rfl rfl rfl  ?_
        have ud : 0 ≤ sD F k x y ∧ sD F k x y ≤ 200 := sD_w hF0 k x y hx hy
        refine e_iconst dX7_touched_28 rfl ?_
        refine e_icmp_ge (t := 35) dX7_touched_29 rfl rfl (by omega) (by omega) (fun h29 => ?_) (fun h29 => ?_)
        · refine f_iinc dX7_touched_35 rfl rfl (Nat.le_of_ble_eq_true rfl) rfl ?_
          refine e_goto (n := 3) dX7_touched_38 rfl ?_
          exact ih3 _ (by omega) (k + 1) rfl (by omega) (e3.trans (eFB_go (by omega) (by omega))) 
        · refine e_iload dX7_touched_32 rfl rfl ?_
          exact e_iret dX7_touched_34 rfl rfl (eRet_i ((e3.trans (eFB_hit (by omega) (by omega)))).symm rfl)
  exact hL3 _ 0 rfl (by omega) rfl 
theorem sD_0 {F : eFs} {k x y : Int} : sD F k x y = 0 ↔ (F.2 0 k = x ∧ F.2 1 k = y) := by
  have a1 := eAbs_or (F.2 0 k - x)
  have a2 := eAbs_or (F.2 1 k - y)
  unfold sD
  omega

theorem C_X7_at {X : eXT} {a : Nat → Nat} {N : Int} {F M : eFs} (hF : okF N F) (hR : mR F (M.2 0)) {x y : Int} (hx : -50 ≤ x ∧ x ≤ 50) (hy : -50 ≤ y ∧ y ≤ 50) :
    EM X mX7_at (eRm 2) a [.ref (a 0), vi x, vi y] (wM a M) (eRet (some (vi (sAt F x y))) a (wM a M)) := by
  refine EM.of (by decide +kernel) rfl (Nat.le_of_ble_eq_true rfl) ?_
  have hF0 := hF
  obtain ⟨hc, hld, hled, htn, hgo, hkp, hst, hwt, hcl, hsh, hnx, hN, rx, ry, rh, rm, rc, rw9⟩ := hF
  obtain ⟨⟨n0, n1, n2, n3, n4, n5, n6, n7, n8, n9⟩, hb, hcd, hss⟩ := id hR
  refine e_iconst dX7_at_0 rfl ?_
  refine f_istore_n dX7_at_1 rfl (Nat.le_of_ble_eq_true rfl) rfl ?_
  have hL2 : ∀ (k2 : Nat) (k : Int) (hk2 : ((F.1 0) - k).toNat = k2) (g2 : 0 ≤ k ∧ k ≤ F.1 0) (e2 : eFB (fun k => F.2 0 k = x ∧ F.2 1 k = y) (F.1 0) 0 = eFB (fun k => F.2 0 k = x ∧ F.2 1 k = y) (F.1 0) k) , EV (mX7_at, (eRm 2), eRet (some (vi (sAt F x y))) a (wM a M), X) a (0, 0) (wM a M) 2 [some (.ref (a 0)), some (vi x), some (vi y), some (vi k)] [] := by
    intro k2
    induction k2 using Nat.strongRecOn with
    | _ k2 ih2 =>
    intro k hk2 g2 e2
    refine e_iload_n dX7_at_2 rfl rfl ?_
    refine e_aload_n dX7_at_3 rfl rfl ?_
    refine e_getfield fd_X7_9 dX7_at_4 rfl rfl rfl rfl ?_
    refine e_iconst dX7_at_7 rfl ?_
    refine e_iaload dX7_at_8 rfl rfl rfl (by omega) (by decide) ?_
    refine e_icmp_ge (t := 30) dX7_at_9 rfl rfl (by omega) (by omega) (fun h9 => ?_) (fun h9 => ?_)
    · refine e_iconst dX7_at_30 rfl ?_
      exact e_iret dX7_at_31 rfl rfl (eRet_i ((e2.trans (eFB_end (by omega)))).symm rfl)
    · refine e_aload_n dX7_at_12 rfl rfl ?_
      refine e_iload_n dX7_at_13 rfl rfl ?_
      refine e_iload_n dX7_at_14 rfl rfl ?_
      refine e_iload_n dX7_at_15 rfl rfl ?_
      refine e_cV0 [0, 1, 2, 3, 4, 5] lk_X7_58 rfl dX7_at_16 rfl (C_X7_far hF0 hR (by omega) (by omega) (by omega)) rfl rfl (Nat.le_of_ble_eq_true rfl) (Nat.le_of_ble_eq_true rfl) (Nat.le_of_ble_eq_true rfl) ⟨rfl, rfl⟩ rfl rfl rfl rfl rfl rfl  ?_
      have ud := sD_0 (F := F) (k := k) (x := x) (y := y)
      have ue := sD_w hF0 k x y hx hy
      refine e_if_ne (t := 24) dX7_at_19 rfl rfl (by omega) (fun h19 => ?_) (fun h19 => ?_)
      · refine f_iinc dX7_at_24 rfl rfl (Nat.le_of_ble_eq_true rfl) rfl ?_
        refine e_goto (n := 2) dX7_at_27 rfl ?_
        exact ih2 _ (by omega) (k + 1) rfl (by omega) (e2.trans (eFB_go (by omega) (by omega))) 
      · refine e_iload_n dX7_at_22 rfl rfl ?_
        exact e_iret dX7_at_23 rfl rfl (eRet_i ((e2.trans (eFB_hit (by omega) (by omega)))).symm rfl)
  exact hL2 _ 0 rfl (by omega) rfl 
theorem C_X7_isPossible {X : eXT} {a : Nat → Nat} {N : Int} {F M : eFs} (hF : okF N F) (hR : mR F (M.2 0)) {m x y : Int} (hm : -2147483648 ≤ m ∧ m ≤ 2147483647) (hx : -50 ≤ x ∧ x ≤ 50) (hy : -50 ≤ y ∧ y ≤ 50) :
    EM X mX7_isPossible (eRm 3) a [.ref (a 0), vi m, vi x, vi y] (wM a M) (eRet (some (vb (sPos F m x y))) a (wM a M)) := by
  refine EM.of (by decide +kernel) rfl (Nat.le_of_ble_eq_true rfl) ?_
  have hF0 := hF
  obtain ⟨hc, hld, hled, htn, hgo, hkp, hst, hwt, hcl, hsh, hnx, hN, rx, ry, rh, rm, rc, rw9⟩ := hF
  obtain ⟨⟨n0, n1, n2, n3, n4, n5, n6, n7, n8, n9⟩, hb, hcd, hss⟩ := id hR
  have tin := sTo_in (F := F) (m := m) (x := x) (y := y)
  refine e_iload_n dX7_isPossible_0 rfl rfl ?_
  refine e_iload_n dX7_isPossible_1 rfl rfl ?_
  refine e_cS0 [] lk_X7_62 rfl dX7_isPossible_2 rfl (C_X7_isCell (by omega) (by omega)) rfl rfl (Nat.le_of_ble_eq_true rfl) (Nat.le_of_ble_eq_true rfl) (Nat.le_of_ble_eq_true rfl) ⟨rfl, rfl⟩ rfl rfl  ?_
  refine e_ifb_eq (t := 31) dX7_isPossible_5 rfl rfl (fun h5 => ?_) (fun h5 => ?_)
  · refine e_iconst dX7_isPossible_31 rfl ?_
    exact e_iret dX7_isPossible_32 rfl (by decide) (eRet_f (by first | exact fun q => h5 q.1 | exact fun q => q.2.1 (mc.2.1.mp h14) | exact fun q => absurd q.2.2 (by omega) | exact ⟨h5, fun q => absurd (mc.2.1.mpr q) (by omega), by omega⟩) rfl)
  · have mc := mCl_cov (u := x) (v := y) hF0 hR h5
    refine e_aload_n dX7_isPossible_8 rfl rfl ?_
    refine e_iload_n dX7_isPossible_9 rfl rfl ?_
    refine e_iload_n dX7_isPossible_10 rfl rfl ?_
    refine e_cV0 [0, 1, 2, 3, 4, 5] lk_X7_66 rfl dX7_isPossible_11 rfl (C_X7_cloud hF0 hR (by omega) (by omega)) rfl rfl (Nat.le_of_ble_eq_true rfl) (Nat.le_of_ble_eq_true rfl) (Nat.le_of_ble_eq_true rfl) ⟨rfl, rfl⟩ rfl rfl rfl rfl rfl rfl  ?_
    refine e_if_ge (t := 31) dX7_isPossible_14 rfl rfl (by omega) (fun h14 => ?_) (fun h14 => ?_)
    · refine e_iconst dX7_isPossible_31 rfl ?_
      exact e_iret dX7_isPossible_32 rfl (by decide) (eRet_f (by first | exact fun q => h5 q.1 | exact fun q => q.2.1 (mc.2.1.mp h14) | exact fun q => absurd q.2.2 (by omega) | exact ⟨h5, fun q => absurd (mc.2.1.mpr q) (by omega), by omega⟩) rfl)
    · refine e_aload_n dX7_isPossible_17 rfl rfl ?_
      refine e_iload_n dX7_isPossible_18 rfl rfl ?_
      refine e_iload_n dX7_isPossible_19 rfl rfl ?_
      refine e_iload_n dX7_isPossible_20 rfl rfl ?_
      refine e_cV0 [0, 1, 2, 3, 4, 5] lk_X7_69 rfl dX7_isPossible_21 rfl (C_X7_touched hF0 hR (by omega) (by omega) (by omega)) rfl rfl (Nat.le_of_ble_eq_true rfl) (Nat.le_of_ble_eq_true rfl) (Nat.le_of_ble_eq_true rfl) ⟨rfl, rfl⟩ rfl rfl rfl rfl rfl rfl  ?_
      refine e_if_ge (t := 31) dX7_isPossible_24 rfl rfl (by omega) (fun h24 => ?_) (fun h24 => ?_)
      · refine e_iconst dX7_isPossible_31 rfl ?_
        exact e_iret dX7_isPossible_32 rfl (by decide) (eRet_f (by first | exact fun q => h5 q.1 | exact fun q => q.2.1 (mc.2.1.mp h14) | exact fun q => absurd q.2.2 (by omega) | exact ⟨h5, fun q => absurd (mc.2.1.mpr q) (by omega), by omega⟩) rfl)
      · refine e_iconst dX7_isPossible_27 rfl ?_
        refine e_goto (n := 32) dX7_isPossible_28 rfl ?_
        exact e_iret dX7_isPossible_32 rfl (by decide) (eRet_t (by first | exact fun q => h5 q.1 | exact fun q => q.2.1 (mc.2.1.mp h14) | exact fun q => absurd q.2.2 (by omega) | exact ⟨h5, fun q => absurd (mc.2.1.mpr q) (by omega), by omega⟩) rfl)
def mRf (M F : eFs) (m x y : Int) : eFs := if sPos F m x y then M else sS (sS M 4 (if sCov (F.2 4) x y then 1 else 2)) 5 (if sCov (F.2 4) x y then F.1 9 else sTo F m x y)
theorem mRf_y {M F : eFs} {m x y : Int} (h : sPos F m x y) : mRf M F m x y = M := if_pos h
theorem mRf_c {M F : eFs} {m x y : Int} (h : sCov (F.2 4) x y) : mRf M F m x y = sS (sS M 4 1) 5 (F.1 9) := by unfold mRf; rw [if_neg (fun q => q.2.1 h), if_pos h, if_pos h]
theorem mRf_b {M F : eFs} {m x y : Int} (h : ¬ sCov (F.2 4) x y) (h2 : ¬ sTo F m x y = -1) : mRf M F m x y = sS (sS M 4 2) 5 (sTo F m x y) := by unfold mRf; rw [if_neg (fun q => h2 q.2.2), if_neg h, if_neg h]

theorem C_X7_refuses {X : eXT} {a : Nat → Nat} {N : Int} {F M : eFs} (hF : okF N F) (hR : mR F (M.2 0)) {m x y : Int} (hm : -2147483648 ≤ m ∧ m ≤ 2147483647) (hin : sIn x y) :
    EM X mX7_refuses (eRm 3) a [.ref (a 0), vi m, vi x, vi y] (wM a M) (eRet (some (vb (¬ sPos F m x y))) a (wM a (mRf M F m x y))) := by
  refine EM.of (by decide +kernel) rfl (Nat.le_of_ble_eq_true rfl) ?_
  have hF0 := hF
  obtain ⟨hc, hld, hled, htn, hgo, hkp, hst, hwt, hcl, hsh, hnx, hN, rx, ry, rh, rm, rc, rw9⟩ := hF
  obtain ⟨⟨n0, n1, n2, n3, n4, n5, n6, n7, n8, n9⟩, hb, hcd, hss⟩ := id hR
  have tin := sTo_in (F := F) (m := m) (x := x) (y := y)
  have mc := mCl_cov (u := x) (v := y) hF0 hR hin
  refine e_aload_n dX7_refuses_0 rfl rfl ?_
  refine e_iload_n dX7_refuses_1 rfl rfl ?_
  refine e_iload_n dX7_refuses_2 rfl rfl ?_
  refine e_cV0 [0, 1, 2, 3, 4, 5] lk_X7_66 rfl dX7_refuses_3 rfl (C_X7_cloud hF0 hR (by omega) (by omega)) rfl rfl (Nat.le_of_ble_eq_true rfl) (Nat.le_of_ble_eq_true rfl) (Nat.le_of_ble_eq_true rfl) ⟨rfl, rfl⟩ rfl rfl rfl rfl rfl rfl  ?_
  refine f_istore dX7_refuses_6 rfl (Nat.le_of_ble_eq_true rfl) rfl ?_
  refine e_aload_n dX7_refuses_8 rfl rfl ?_
  refine e_iload_n dX7_refuses_9 rfl rfl ?_
  refine e_iload_n dX7_refuses_10 rfl rfl ?_
  refine e_iload_n dX7_refuses_11 rfl rfl ?_
  refine e_cV0 [0, 1, 2, 3, 4, 5] lk_X7_69 rfl dX7_refuses_12 rfl (C_X7_touched hF0 hR (by omega) (by omega) (by omega)) rfl rfl (Nat.le_of_ble_eq_true rfl) (Nat.le_of_ble_eq_true rfl) (Nat.le_of_ble_eq_true rfl) ⟨rfl, rfl⟩ rfl rfl rfl rfl rfl rfl  ?_
  refine f_istore dX7_refuses_15 rfl (Nat.le_of_ble_eq_true rfl) rfl ?_
  refine e_iload dX7_refuses_17 rfl rfl ?_
  refine e_if_ge (t := 29) dX7_refuses_19 rfl rfl (by omega) (fun h19 => ?_) (fun h19 => ?_)
  · refine e_aload_n dX7_refuses_29 rfl rfl ?_
    refine e_iload dX7_refuses_30 rfl rfl ?_
    refine e_if_lt (t := 39) dX7_refuses_32 rfl rfl (by omega) (fun h32 => ?_) (fun h32 => ?_)
    · refine e_iconst dX7_refuses_39 rfl ?_
      refine e_putfield fd_X7_72 dX7_refuses_40 rfl rfl rfl (Nat.le_of_ble_eq_true rfl) rfl rfl ?_
      refine e_aload_n dX7_refuses_43 rfl rfl ?_
      refine e_iload dX7_refuses_44 rfl rfl ?_
      refine e_if_lt (t := 58) dX7_refuses_46 rfl rfl (by omega) (fun h46 => ?_) (fun h46 => ?_)
      · refine e_iload dX7_refuses_58 rfl rfl ?_
        refine e_putfield fd_X7_75 dX7_refuses_60 rfl rfl rfl (Nat.le_of_ble_eq_true rfl) rfl rfl ?_
        refine e_iconst dX7_refuses_63 rfl ?_
        exact e_iret dX7_refuses_64 rfl (by decide) (eRet_t (by first | exact fun q => q.2.1 (mc.2.1.mp (by omega)) | exact fun q => absurd q.2.2 (by omega)) (by first | (rw [mRf_c (mc.2.1.mp (by omega)), ← n1] <;> rfl) | (rw [mRf_b (fun q => absurd (mc.2.1.mpr q) (by omega)) (by omega)] <;> rfl)))
      · exfalso; omega
    · refine e_iconst dX7_refuses_35 rfl ?_
      refine e_goto (n := 40) dX7_refuses_36 rfl ?_
      refine e_putfield fd_X7_72 dX7_refuses_40 rfl rfl rfl (Nat.le_of_ble_eq_true rfl) rfl rfl ?_
      refine e_aload_n dX7_refuses_43 rfl rfl ?_
      refine e_iload dX7_refuses_44 rfl rfl ?_
      refine e_if_lt (t := 58) dX7_refuses_46 rfl rfl (by omega) (fun h46 => ?_) (fun h46 => ?_)
      · exfalso; omega
      · refine e_aload_n dX7_refuses_49 rfl rfl ?_
        refine e_getfield fd_X7_9 dX7_refuses_50 rfl rfl rfl rfl ?_
        refine e_iconst dX7_refuses_53 rfl ?_
        refine e_iaload dX7_refuses_54 rfl rfl rfl (by omega) (by decide) ?_
        refine e_goto (n := 60) dX7_refuses_55 rfl ?_
        refine e_putfield fd_X7_75 dX7_refuses_60 rfl rfl rfl (Nat.le_of_ble_eq_true rfl) rfl rfl ?_
        refine e_iconst dX7_refuses_63 rfl ?_
        exact e_iret dX7_refuses_64 rfl (by decide) (eRet_t (by first | exact fun q => q.2.1 (mc.2.1.mp (by omega)) | exact fun q => absurd q.2.2 (by omega)) (by first | (rw [mRf_c (mc.2.1.mp (by omega)), ← n1] <;> rfl) | (rw [mRf_b (fun q => absurd (mc.2.1.mpr q) (by omega)) (by omega)] <;> rfl)))
  · refine e_iload dX7_refuses_22 rfl rfl ?_
    refine e_if_ge (t := 29) dX7_refuses_24 rfl rfl (by omega) (fun h24 => ?_) (fun h24 => ?_)
    · refine e_aload_n dX7_refuses_29 rfl rfl ?_
      refine e_iload dX7_refuses_30 rfl rfl ?_
      refine e_if_lt (t := 39) dX7_refuses_32 rfl rfl (by omega) (fun h32 => ?_) (fun h32 => ?_)
      · refine e_iconst dX7_refuses_39 rfl ?_
        refine e_putfield fd_X7_72 dX7_refuses_40 rfl rfl rfl (Nat.le_of_ble_eq_true rfl) rfl rfl ?_
        refine e_aload_n dX7_refuses_43 rfl rfl ?_
        refine e_iload dX7_refuses_44 rfl rfl ?_
        refine e_if_lt (t := 58) dX7_refuses_46 rfl rfl (by omega) (fun h46 => ?_) (fun h46 => ?_)
        · refine e_iload dX7_refuses_58 rfl rfl ?_
          refine e_putfield fd_X7_75 dX7_refuses_60 rfl rfl rfl (Nat.le_of_ble_eq_true rfl) rfl rfl ?_
          refine e_iconst dX7_refuses_63 rfl ?_
          exact e_iret dX7_refuses_64 rfl (by decide) (eRet_t (by first | exact fun q => q.2.1 (mc.2.1.mp (by omega)) | exact fun q => absurd q.2.2 (by omega)) (by first | (rw [mRf_c (mc.2.1.mp (by omega)), ← n1] <;> rfl) | (rw [mRf_b (fun q => absurd (mc.2.1.mpr q) (by omega)) (by omega)] <;> rfl)))
        · exfalso; omega
      · refine e_iconst dX7_refuses_35 rfl ?_
        refine e_goto (n := 40) dX7_refuses_36 rfl ?_
        refine e_putfield fd_X7_72 dX7_refuses_40 rfl rfl rfl (Nat.le_of_ble_eq_true rfl) rfl rfl ?_
        refine e_aload_n dX7_refuses_43 rfl rfl ?_
        refine e_iload dX7_refuses_44 rfl rfl ?_
        refine e_if_lt (t := 58) dX7_refuses_46 rfl rfl (by omega) (fun h46 => ?_) (fun h46 => ?_)
        · exfalso; omega
        · refine e_aload_n dX7_refuses_49 rfl rfl ?_
          refine e_getfield fd_X7_9 dX7_refuses_50 rfl rfl rfl rfl ?_
          refine e_iconst dX7_refuses_53 rfl ?_
          refine e_iaload dX7_refuses_54 rfl rfl rfl (by omega) (by decide) ?_
          refine e_goto (n := 60) dX7_refuses_55 rfl ?_
          refine e_putfield fd_X7_75 dX7_refuses_60 rfl rfl rfl (Nat.le_of_ble_eq_true rfl) rfl rfl ?_
          refine e_iconst dX7_refuses_63 rfl ?_
          exact e_iret dX7_refuses_64 rfl (by decide) (eRet_t (by first | exact fun q => q.2.1 (mc.2.1.mp (by omega)) | exact fun q => absurd q.2.2 (by omega)) (by first | (rw [mRf_c (mc.2.1.mp (by omega)), ← n1] <;> rfl) | (rw [mRf_b (fun q => absurd (mc.2.1.mpr q) (by omega)) (by omega)] <;> rfl)))
    · refine e_iconst dX7_refuses_27 rfl ?_
      exact e_iret dX7_refuses_28 rfl (by decide) (eRet_f (fun q => q ⟨hin, (fun q => absurd (mc.2.1.mpr q) (by omega)), by omega⟩) (by rw [mRf_y ⟨hin, (fun q => absurd (mc.2.1.mpr q) (by omega)), by omega⟩]))
/-- a basket moved in the reference's row -/
def mMv (x : Int → Int) (b u v : Int) : Int → Int := eU (eU (eU x (10 + 4 * b + 0) u) (10 + 4 * b + 1) v) (10 + 4 * b + 3) (x (10 + 4 * b + 3) + 1)
theorem mMv_at {x : Int → Int} {b u v j : Int} (h : ¬ (10 + 4 * b ≤ j ∧ j ≤ 13 + 4 * b)) : mMv x b u v j = x j := by
  unfold mMv
  rw [eU_ne (by omega), eU_ne (by omega), eU_ne (by omega)]
theorem mR_mv {N : Int} {F : eFs} {x : Int → Int} {b u v : Int} (hF : okF N F) (hR : mR F x) (hb : sHas F b) : mR (sMv F b u v) (mMv x b u v) := by
  have hF0 := hF
  obtain ⟨hc, hld, hled, htn, hgo, hkp, hst, hwt, hcl, hsh, hnx, hN, rx, ry, rh, rm, rc, rw9⟩ := hF
  obtain ⟨q1, q2, ⟨q3, q4, q5⟩, q6⟩ := hR
  have m := fun j (h : ¬ (10 + 4 * b ≤ j ∧ j ≤ 13 + 4 * b)) => mMv_at (x := x) (u := u) (v := v) h
  have hbb := q2 b hb.1 hb.2
  refine ⟨?_, fun k k0 k1 => ?_, ⟨fun u v i => ?_, fun k k0 k1 => ?_, fun k j k0 k1 j1 => ?_⟩, fun k k0 k1 => ?_⟩
  · unfold mRn at q1 ⊢
    rw [m 0 (by omega), m 1 (by omega), m 2 (by omega), m 3 (by omega), m 4 (by omega), m 5 (by omega), m 6 (by omega), m 7 (by omega), m 8 (by omega), m 9 (by omega)]
    exact q1
  · have k1 : k < F.1 0 := k1
    show mMv x b u v (10 + 4 * k + 0) = eU (F.2 0) b u k ∧ mMv x b u v (10 + 4 * k + 1) = eU (F.2 1) b v k ∧ mMv x b u v (10 + 4 * k + 2) = F.2 2 k ∧ mMv x b u v (10 + 4 * k + 3) = eU (F.2 3) b (F.2 3 b + 1) k
    by_cases e : k = b
    · subst e
      rw [eU_self, eU_self, eU_self]
      unfold mMv
      rw [eU_ne (show 10 + 4 * k + 0 ≠ 10 + 4 * k + 3 by omega), eU_ne (show 10 + 4 * k + 0 ≠ 10 + 4 * k + 1 by omega), eU_self, eU_ne (show 10 + 4 * k + 1 ≠ 10 + 4 * k + 3 by omega), eU_self, eU_ne (show 10 + 4 * k + 2 ≠ 10 + 4 * k + 3 by omega), eU_ne (show 10 + 4 * k + 2 ≠ 10 + 4 * k + 1 by omega), eU_ne (show 10 + 4 * k + 2 ≠ 10 + 4 * k + 0 by omega), eU_self]
      exact ⟨rfl, rfl, hbb.2.2.1, by rw [hbb.2.2.2]⟩
    · rw [eU_ne e, eU_ne e, eU_ne e, m _ (by omega), m _ (by omega), m _ (by omega), m _ (by omega)]
      exact q2 k k0 k1
  · show sBit (F.2 4 v) u ↔ ∃ k, 0 ≤ k ∧ k < F.1 9 ∧ mMv x b _ _ (50 + k) = 12 * v + u
    rw [q3 u v i]
    constructor
    · rintro ⟨k, k0, k1, e⟩; exact ⟨k, k0, k1, by rw [m _ (by have := hb.2; omega)]; exact e⟩
    · rintro ⟨k, k0, k1, e⟩; exact ⟨k, k0, k1, by rw [m _ (by have := hb.2; omega)] at e; exact e⟩
  · rw [m _ (by have := hb.2; omega)]; exact q4 k k0 k1
  · rw [m _ (by have := hb.2; omega), m _ (by have := hb.2; omega)]; exact q5 k j k0 k1 j1
  · exact mSh_cong (fun r r0 r1 => m _ (by have := hb.2; omega)) (q6 k k0 k1)
def mGo (F : eFs) (x : Int → Int) (b u v : Int) : Int → Int := if sPos F b u v then mMv x b u v else x
theorem mR_go {N : Int} {F : eFs} {x : Int → Int} {b u v : Int} (hF : okF N F) (hR : mR F x) (hb : sHas F b) : mR (sGo F b u v) (mGo F x b u v) ∧ ∀ j, 250 ≤ j → mGo F x b u v j = x j := by
  have hc := hF.1
  unfold sGo mGo
  split
  · exact ⟨mR_mv hF hR hb, fun j h => mMv_at (by have := hb.2; omega)⟩
  · exact ⟨hR, fun j h => rfl⟩

theorem C_X7_goes {X : eXT} {a : Nat → Nat} {N : Int} {F M : eFs} (hF : okF N F) (hR : mR F (M.2 0)) {b x y : Int} (hb0 : sHas F b) (hx : -50 ≤ x ∧ x ≤ 50) (hy : -50 ≤ y ∧ y ≤ 50) :
    EM X mX7_goes (eRm 4) a [.ref (a 0), vi b, vi x, vi y] (wM a M) (eRet (some (vb (sPos F b x y))) a (wM a (sR M 0 (mGo F (M.2 0) b x y)))) := by
  refine EM.of (by decide +kernel) rfl (Nat.le_of_ble_eq_true rfl) ?_
  have hF0 := hF
  obtain ⟨hc, hld, hled, htn, hgo, hkp, hst, hwt, hcl, hsh, hnx, hN, rx, ry, rh, rm, rc, rw9⟩ := hF
  obtain ⟨⟨n0, n1, n2, n3, n4, n5, n6, n7, n8, n9⟩, hb, hcd, hss⟩ := id hR
  refine e_aload_n dX7_goes_0 rfl rfl ?_
  refine e_iload_n dX7_goes_1 rfl rfl ?_
  refine e_iload_n dX7_goes_2 rfl rfl ?_
  refine e_iload_n dX7_goes_3 rfl rfl ?_
  refine e_cV0 [0, 1, 2, 3, 4, 5] lk_X7_82 rfl dX7_goes_4 rfl (C_X7_isPossible hF0 hR (by omega) (by omega) (by omega)) rfl rfl (Nat.le_of_ble_eq_true rfl) (Nat.le_of_ble_eq_true rfl) (Nat.le_of_ble_eq_true rfl) ⟨rfl, rfl⟩ rfl rfl rfl rfl rfl rfl  ?_
  refine e_ifb_ne (t := 12) dX7_goes_7 rfl rfl (fun h7 => ?_) (fun h7 => ?_)
  · refine e_aload_n dX7_goes_12 rfl rfl ?_
    refine e_iload_n dX7_goes_13 rfl rfl ?_
    refine e_iconst dX7_goes_14 rfl ?_
    refine e_iload_n dX7_goes_15 rfl rfl ?_
    refine e_cV2 [0, 1, 2, 3, 4, 5] lk_X7_85 rfl dX7_goes_16 rfl (C_X7_set (by omega) (by omega)) rfl rfl (Nat.le_of_ble_eq_true rfl) (Nat.le_of_ble_eq_true rfl) (Nat.le_of_ble_eq_true rfl) ⟨rfl, rfl⟩ rfl rfl rfl rfl rfl rfl rfl rfl ?_
    refine EV.ceq (cs' := wM a (sR M 0 (eU (M.2 0) (10 + 4 * b + 0) x))) rfl ?_
    refine e_aload_n dX7_goes_19 rfl rfl ?_
    refine e_iload_n dX7_goes_20 rfl rfl ?_
    refine e_iconst dX7_goes_21 rfl ?_
    refine e_iload_n dX7_goes_22 rfl rfl ?_
    refine e_cV2 [0, 1, 2, 3, 4, 5] lk_X7_85 rfl dX7_goes_23 rfl (C_X7_set (by omega) (by omega)) rfl rfl (Nat.le_of_ble_eq_true rfl) (Nat.le_of_ble_eq_true rfl) (Nat.le_of_ble_eq_true rfl) ⟨rfl, rfl⟩ rfl rfl rfl rfl rfl rfl rfl rfl ?_
    refine EV.ceq (cs' := wM a (sR M 0 (eU (eU (M.2 0) (10 + 4 * b + 0) x) (10 + 4 * b + 1) y))) rfl ?_
    refine e_aload_n dX7_goes_26 rfl rfl ?_
    refine e_iload_n dX7_goes_27 rfl rfl ?_
    refine e_iconst dX7_goes_28 rfl ?_
    refine e_aload_n dX7_goes_29 rfl rfl ?_
    refine e_iload_n dX7_goes_30 rfl rfl ?_
    refine e_iconst dX7_goes_31 rfl ?_
    refine e_cV0 [0, 1, 2, 3, 4, 5] lk_X7_50 rfl dX7_goes_32 rfl (C_X7_b (by omega) (by omega)) rfl rfl (Nat.le_of_ble_eq_true rfl) (Nat.le_of_ble_eq_true rfl) (Nat.le_of_ble_eq_true rfl) ⟨rfl, rfl⟩ rfl rfl rfl rfl rfl rfl  ?_
    refine EV.eq (st' := [vi (M.2 0 (10 + 4 * b + 3)), vi 3, vi b, .ref (a 0)]) (by show [vi (eU (eU (M.2 0) (10 + 4 * b + 0) x) (10 + 4 * b + 1) y (10 + 4 * b + 3)), vi 3, vi b, .ref (a 0)] = _; rw [eU_ne (by omega), eU_ne (by omega)]) ?_
    refine e_iconst dX7_goes_35 rfl ?_
    refine e_iadd dX7_goes_36 rfl ?_
    refine e_cV2 [0, 1, 2, 3, 4, 5] lk_X7_85 rfl dX7_goes_37 rfl (C_X7_set (by omega) (by omega)) rfl rfl (Nat.le_of_ble_eq_true rfl) (Nat.le_of_ble_eq_true rfl) (Nat.le_of_ble_eq_true rfl) ⟨rfl, rfl⟩ rfl rfl rfl rfl rfl rfl rfl rfl ?_
    refine EV.ceq (cs' := wM a (sR M 0 (mMv (M.2 0) b x y))) rfl ?_
    refine e_iconst dX7_goes_40 rfl ?_
    exact e_iret dX7_goes_41 rfl (by decide) (eRet_t h7 (by unfold mGo; rw [if_pos h7] <;> rfl))
  · refine e_iconst dX7_goes_10 rfl ?_
    exact e_iret dX7_goes_11 rfl (by decide) (eRet_f h7 (by unfold mGo; rw [if_neg h7] <;> rfl))
theorem mR_wt {N : Int} {F : eFs} {x : Int → Int} (hF : okF N F) (hR : mR F x) : mR (sWt F) (eU x 8 (x 8 + 1)) := by
  obtain ⟨hc, hld, hled, htn, hgo, hkp, hst, hwt, hcl, hsh, hnx, hN, rx, ry, rh, rm, rc, rw9⟩ := hF
  obtain ⟨q1, q2, ⟨q3, q4, q5⟩, q6⟩ := hR
  have m := fun j (h : j ≠ 8) => eU_ne (x := x) (z := 8) (v := x 8 + 1) h
  refine ⟨?_, fun k k0 k1 => ?_, ⟨fun u v i => ?_, fun k k0 k1 => ?_, fun k j k0 k1 j1 => ?_⟩, fun k k0 k1 => ?_⟩
  · obtain ⟨a0, a1, a2, a3, a4, a5, a6, a7, a8, a9⟩ := q1
    unfold mRn
    rw [m 0 (by omega), m 1 (by omega), m 2 (by omega), m 3 (by omega), m 4 (by omega), m 5 (by omega), m 6 (by omega), m 7 (by omega), eU_self, m 9 (by omega)]
    exact ⟨a0, a1, a2, a3, a4, a5, a6, a7, by rw [a8]; rfl, a9⟩
  · have k1 : k < F.1 0 := k1
    rw [m _ (by omega), m _ (by omega), m _ (by omega), m _ (by omega)]; exact q2 k k0 k1
  · show sBit (F.2 4 v) u ↔ ∃ k, 0 ≤ k ∧ k < F.1 9 ∧ eU x 8 (x 8 + 1) (50 + k) = 12 * v + u
    rw [q3 u v i]
    constructor
    · rintro ⟨k, k0, k1, e⟩; exact ⟨k, k0, k1, by rw [m _ (by omega)]; exact e⟩
    · rintro ⟨k, k0, k1, e⟩; exact ⟨k, k0, k1, by rw [m _ (by omega)] at e; exact e⟩
  · rw [m _ (by omega)]; exact q4 k k0 k1
  · rw [m _ (by omega), m _ (by omega)]; exact q5 k j k0 k1 j1
  · exact mSh_cong (fun r r0 r1 => m _ (by omega)) (q6 k k0 k1)

theorem C_X7_counted {X : eXT} {a : Nat → Nat} {M : eFs} {c : Prop} [Decidable c] :
    EM X mX7_counted (eRm 0) a [.ref (a 0), vb c] (wM a M) (eRet (some (vi (if c then 1 else 0))) a (wM a (if c then sR M 0 (eU (M.2 0) 8 (M.2 0 8 + 0)) else sR M 0 (eU (M.2 0) 8 (M.2 0 8 + 1))))) := by
  refine EM.of (by decide +kernel) rfl (Nat.le_of_ble_eq_true rfl) ?_
  refine e_aload_n dX7_counted_0 rfl rfl ?_
  refine e_getfield fd_X7_9 dX7_counted_1 rfl rfl rfl rfl ?_
  refine e_bipush dX7_counted_4 rfl rfl ?_
  refine e_dup2 dX7_counted_6 rfl rfl rfl ?_
  refine e_iaload dX7_counted_7 rfl rfl rfl (by omega) (by decide) ?_
  refine e_iload_n dX7_counted_8 rfl rfl ?_
  refine e_ifb_eq (t := 16) dX7_counted_9 rfl rfl (fun h9 => ?_) (fun h9 => ?_)
  · refine e_iconst dX7_counted_16 rfl ?_
    refine e_iadd dX7_counted_17 rfl ?_
    refine e_iastore dX7_counted_18 rfl rfl rfl (by omega) (by decide) ?_
    refine e_iload_n dX7_counted_19 rfl rfl ?_
    refine e_ifb_eq (t := 27) dX7_counted_20 rfl rfl (fun h20 => ?_) (fun h20 => ?_)
    · refine e_iconst dX7_counted_27 rfl ?_
      exact e_iret dX7_counted_28 rfl rfl (eRet_i (by first | (rw [if_pos h9]) | (rw [if_neg h9])) (by first | (rw [if_pos h9] <;> rfl) | (rw [if_neg h9] <;> rfl)))
    · exact absurd h20 h9
  · refine e_iconst dX7_counted_12 rfl ?_
    refine e_goto (n := 17) dX7_counted_13 rfl ?_
    refine e_iadd dX7_counted_17 rfl ?_
    refine e_iastore dX7_counted_18 rfl rfl rfl (by omega) (by decide) ?_
    refine e_iload_n dX7_counted_19 rfl rfl ?_
    refine e_ifb_eq (t := 27) dX7_counted_20 rfl rfl (fun h20 => ?_) (fun h20 => ?_)
    · exact absurd h9 h20
    · refine e_iconst dX7_counted_23 rfl ?_
      refine e_goto (n := 28) dX7_counted_24 rfl ?_
      exact e_iret dX7_counted_28 rfl rfl (eRet_i (by first | (rw [if_pos h9]) | (rw [if_neg h9])) (by first | (rw [if_pos h9] <;> rfl) | (rw [if_neg h9] <;> rfl)))
