/-! ===== the reference: shapes ===== -/
theorem tb48 {w : Int} (hw : 0 ≤ w ∧ w < 281474976710656) {t : Nat} (ht : 48 ≤ t) : w.toNat.testBit t = false := by
  apply Nat.testBit_lt_two_pow
  have : w.toNat < 2 ^ 48 := by omega
  exact Nat.lt_of_lt_of_le this (Nat.pow_le_pow_right (by decide) ht)
theorem tb12 {w : Int} (hw : 0 ≤ w ∧ w ≤ 4095) {t : Nat} (ht : 12 ≤ t) : w.toNat.testBit t = false := by
  apply Nat.testBit_lt_two_pow
  have : w.toNat < 2 ^ 12 := by omega
  exact Nat.lt_of_lt_of_le this (Nat.pow_le_pow_right (by decide) ht)
/-- words alike are rows alike -/
theorem mSh_eq {w w' y y' : Int → Int} {s s' o o' : Int} (hw : sL48 w) (hw' : sL48 w') (h : mSh w s y o) (h' : mSh w' s' y' o') : sEq3 w s w' s' ↔ ∀ r, 0 ≤ r → r < 12 → y (o + r) = y' (o' + r) := by
  have key : ∀ q, 0 ≤ q → q < 3 → (w (s * 3 + q) = w' (s' * 3 + q) ↔ ∀ r, 4 * q ≤ r → r < 4 * q + 4 → y (o + r) = y' (o' + r)) := by
    intro q q0 q1
    constructor
    · intro e r r0 r1
      have hr := h r (by omega) (by omega)
      have hr' := h' r (by omega) (by omega)
      have d : r / 4 = q := by omega
      have e2 : (y (o + r)).toNat = (y' (o' + r)).toNat := by
        apply Nat.eq_of_testBit_eq
        intro i
        by_cases hi : i < 12
        · have a := hr.2 (i : Int) (by omega) (by omega)
          have b := hr'.2 (i : Int) (by omega) (by omega)
          rw [d] at a b
          rw [e] at a
          rw [show ((i : Int)).toNat = i by omega] at a b
          cases h1 : (y (o + r)).toNat.testBit i <;> cases h2 : (y' (o' + r)).toNat.testBit i <;> simp_all
        · rw [tb12 hr.1 (by omega), tb12 hr'.1 (by omega)]
      omega
    · intro e
      have hq := hw (s * 3 + q)
      have hq' := hw' (s' * 3 + q)
      have e2 : (w (s * 3 + q)).toNat = (w' (s' * 3 + q)).toNat := by
        apply Nat.eq_of_testBit_eq
        intro t
        by_cases ht : t < 48
        · have hr := h (4 * q + (t : Int) / 12) (by omega) (by omega)
          have hr' := h' (4 * q + (t : Int) / 12) (by omega) (by omega)
          have a := hr.2 ((t : Int) % 12) (by omega) (by omega)
          have b := hr'.2 ((t : Int) % 12) (by omega) (by omega)
          rw [show (4 * q + (t : Int) / 12) / 4 = q by omega, show ((4 * q + (t : Int) / 12) % 4 * 12 + (t : Int) % 12).toNat = t by omega] at a b
          rw [e _ (by omega) (by omega)] at a
          cases h1 : (w (s * 3 + q)).toNat.testBit t <;> cases h2 : (w' (s' * 3 + q)).toNat.testBit t <;> simp_all
        · rw [tb48 hq (by omega), tb48 hq' (by omega)]
      omega
  have k0 := key 0 (by omega) (by omega)
  have k1 := key (0 + 1) (by omega) (by omega)
  have k2 := key (0 + 1 + 1) (by omega) (by omega)
  unfold sEq3
  rw [k0, k1, k2]
  constructor
  · rintro ⟨a, b, c⟩ r r0 r1
    by_cases h1 : r < 4
    · exact a r (by omega) (by omega)
    · by_cases h2 : r < 8
      · exact b r (by omega) (by omega)
      · exact c r (by omega) (by omega)
  · intro a
    exact ⟨fun r r0 r1 => a r (by omega) (by omega), fun r r0 r1 => a r (by omega) (by omega), fun r r0 r1 => a r (by omega) (by omega)⟩
/-- the rows of the present shape while baskets before k are drawn -/
def mDr (F : eFs) (k : Int) (Q : Int → Int) : Prop := ∀ r, 0 ≤ r → r < 12 → (0 ≤ Q r ∧ Q r ≤ 4095) ∧ ∀ c, 0 ≤ c → c < 12 → (sBit (Q r) c ↔ ∃ b, 0 ≤ b ∧ b < k ∧ F.2 1 b - sLow F = r ∧ F.2 0 b - sLft F = c)
theorem mDr_go {N : Int} {F : eFs} (hF : okF N F) {k : Int} {Q : Int → Int} (h0 : 0 ≤ k) (h1 : k < F.1 0) (h : mDr F k Q) : mDr F (k + 1) (eU Q (F.2 1 k - sLow F) (bOr (Q (F.2 1 k - sLow F)) (bShl 1 (F.2 0 k - sLft F)))) := by
  have wb := (sShWB hF h0 h1).1
  intro r r0 r1
  have hr := h r r0 r1
  by_cases e : r = F.2 1 k - sLow F
  · subst e
    rw [eU_self]
    have o := fun c (c0 : 0 ≤ c) (c1 : c < 12) => sBit_or (w := Q (F.2 1 k - sLow F)) (x := F.2 0 k - sLft F) (z := c) hr.1 (by omega) (by omega) c0 c1
    refine ⟨(o 0 (by omega) (by omega)).1, fun c c0 c1 => ?_⟩
    rw [(o c c0 c1).2, hr.2 c c0 c1]
    constructor
    · rintro (⟨b, b0, b1, q⟩ | q)
      · exact ⟨b, b0, by omega, q⟩
      · exact ⟨k, h0, by omega, rfl, q.symm⟩
    · rintro ⟨b, b0, b1, q1, q2⟩
      by_cases eb : b = k
      · subst eb; exact Or.inr q2.symm
      · exact Or.inl ⟨b, b0, by omega, q1, q2⟩
  · rw [eU_ne e]
    refine ⟨hr.1, fun c c0 c1 => ?_⟩
    rw [hr.2 c c0 c1]
    constructor
    · rintro ⟨b, b0, b1, q⟩; exact ⟨b, b0, by omega, q⟩
    · rintro ⟨b, b0, b1, q1, q2⟩
      by_cases eb : b = k
      · subst eb; exact absurd q1.symm e
      · exact ⟨b, b0, by omega, q1, q2⟩
theorem mDr_end {N : Int} {F : eFs} (hF : okF N F) {k : Int} {Q : Int → Int} (hk : k = F.1 0) (h : mDr F k Q) : mSh (sShp F) 0 Q 0 := by
  subst hk
  have hs := sShp_in hF
  intro r r0 r1
  have hr := h r r0 r1
  rw [show 0 + r = r by omega]
  refine ⟨hr.1, fun c c0 c1 => ?_⟩
  rw [← sBit_n hr.1 c0 c1, hr.2 c c0 c1, show (0 : Int) * 3 + r / 4 = r / 4 by omega, hs.2]
  constructor
  · rintro ⟨b, b0, b1, e1, e2⟩
    have wb := sShWB hF b0 b1
    rw [wb.2.1] at e1
    rw [wb.2.2.1] at e2
    exact ⟨b, b0, b1, by omega, by omega⟩
  · rintro ⟨b, b0, b1, e1, e2⟩
    have wb := sShWB hF b0 b1
    exact ⟨b, b0, b1, by rw [wb.2.1, e1], by rw [wb.2.2.1]; omega⟩
/-- the row behind the shift and the new shape -/
def mRem (x sh : Int → Int) : Int → Int := fun j => if j = 9 then (if x 9 < 16 then x 9 + 1 else 16) else if 58 ≤ j ∧ j < 70 then sh (j - 58) else if 70 ≤ j ∧ j < 250 then x (j - 12) else x j
theorem mRem_0 {x sh : Int → Int} {j : Int} (h : j ≠ 9) (h2 : j < 58 ∨ 250 ≤ j) : mRem x sh j = x j := by
  unfold mRem
  rw [if_neg h, if_neg (by omega), if_neg (by omega)]
theorem mRem_1 {x sh : Int → Int} {j : Int} (h : 58 ≤ j ∧ j < 70) : mRem x sh j = sh (j - 58) := by
  unfold mRem
  rw [if_neg (by omega), if_pos h]
theorem mRem_2 {x sh : Int → Int} {j : Int} (h : 70 ≤ j ∧ j < 250) : mRem x sh j = x (j - 12) := by
  unfold mRem
  rw [if_neg (by omega), if_neg (by omega), if_pos h]
theorem mR_rem {N : Int} {F : eFs} {x sh : Int → Int} (hF : okF N F) (hR : mR F x) (h0 : 0 < F.1 0) (hs : mSh (sShp F) 0 sh 0) : mR (sRem F) (mRem x sh) := by
  have hF0 := hF
  obtain ⟨hc, hld, hled, htn, hgo, hkp, hst, hwt, hcl, hsh, hnx, hN, rx, ry, rh, rm, rc, rw9⟩ := hF
  obtain ⟨q1, q2, ⟨q3, q4, q5⟩, q6⟩ := hR
  have m := fun j (h : j ≠ 9) (h2 : j < 58 ∨ 250 ≤ j) => mRem_0 (x := x) (sh := sh) h h2
  rw [(sRem_y (P := fun _ => 0) h0).1]
  refine ⟨?_, fun k k0 k1 => ?_, ⟨fun u v i => ?_, fun k k0 k1 => ?_, fun k j k0 k1 j1 => ?_⟩, fun k k0 k1 => ?_⟩
  · obtain ⟨a0, a1, a2, a3, a4, a5, a6, a7, a8, a9⟩ := q1
    unfold mRn
    rw [m 0 (by omega) (by omega), m 1 (by omega) (by omega), m 2 (by omega) (by omega), m 3 (by omega) (by omega), m 4 (by omega) (by omega), m 5 (by omega) (by omega), m 6 (by omega) (by omega), m 7 (by omega) (by omega), m 8 (by omega) (by omega)]
    refine ⟨a0, a1, a2, a3, a4, a5, a6, a7, a8, ?_⟩
    show (if (9 : Int) = 9 then (if x 9 < 16 then x 9 + 1 else 16) else _) = (if F.1 10 + 1 < 16 then F.1 10 + 1 else 16)
    rw [if_pos rfl, a9]
    split <;> split <;> omega
  · have k1 : k < F.1 0 := k1
    rw [m _ (by omega) (by omega), m _ (by omega) (by omega), m _ (by omega) (by omega), m _ (by omega) (by omega)]; exact q2 k k0 k1
  · show sBit (F.2 4 v) u ↔ ∃ k, 0 ≤ k ∧ k < F.1 9 ∧ mRem x sh (50 + k) = 12 * v + u
    rw [q3 u v i]
    constructor
    · rintro ⟨k, k0, k1, e⟩; exact ⟨k, k0, k1, by rw [m _ (by omega) (by omega)]; exact e⟩
    · rintro ⟨k, k0, k1, e⟩; exact ⟨k, k0, k1, by rw [m _ (by omega) (by omega)] at e; exact e⟩
  · have k1 : k < F.1 9 := k1
    rw [m _ (by omega) (by omega)]; exact q4 k k0 k1
  · have j1 : j < F.1 9 := j1
    rw [m _ (by omega) (by omega), m _ (by omega) (by omega)]; exact q5 k j k0 k1 j1
  · have k1 : k < (if F.1 10 + 1 < 16 then F.1 10 + 1 else 16) := k1
    have k2 : k < 16 ∧ k ≤ F.1 10 := by split at k1 <;> omega
    show mSh (eCy (sShp F) (F.2 5) 0 (F.1 11 * 3) 3) (((if F.1 11 + 1 < 16 then F.1 11 + 1 else 0) - 1 - k) % 16) (mRem x sh) (58 + 12 * k)
    have es : ((if F.1 11 + 1 < 16 then F.1 11 + 1 else 0) - 1 - k) % 16 = (F.1 11 - k) % 16 := by split <;> omega
    rw [es]
    by_cases e0 : k = 0
    · subst e0
      rw [show (F.1 11 - 0) % 16 = F.1 11 by omega]
      intro r r0 r1
      have hr := hs r r0 r1
      rw [show (58 : Int) + 12 * 0 + r = 58 + r by omega, mRem_1 (by omega), show 58 + r - 58 = 0 + r by omega]
      refine ⟨hr.1, fun c c0 c1 => ?_⟩
      rw [← hr.2 c c0 c1]
      have : eCy (sShp F) (F.2 5) 0 (F.1 11 * 3) 3 (F.1 11 * 3 + r / 4) = sShp F (0 * 3 + r / 4) := by
        unfold eCy
        rw [if_pos (by omega)]
        congr 1
        omega
      rw [this]
    · have hk := q6 (k - 1) (by omega) (by omega)
      rw [show F.1 11 - 1 - (k - 1) = F.1 11 - k by omega] at hk
      intro r r0 r1
      have hr := hk r r0 r1
      rw [mRem_2 (by omega), show 58 + 12 * k + r - 12 = 58 + 12 * (k - 1) + r by omega]
      refine ⟨hr.1, fun c c0 c1 => ?_⟩
      rw [← hr.2 c c0 c1]
      have : eCy (sShp F) (F.2 5) 0 (F.1 11 * 3) 3 ((F.1 11 - k) % 16 * 3 + r / 4) = F.2 5 ((F.1 11 - k) % 16 * 3 + r / 4) := by
        unfold eCy
        rw [if_neg (by omega)]
      rw [this]
theorem mR_tik {N : Int} {F : eFs} {x : Int → Int} (hF : okF N F) (hR : mR F x) : mR (sTik F) (eU x 7 (x 7 + 1)) := by
  obtain ⟨hc, hld, hled, htn, hgo, hkp, hst, hwt, hcl, hsh, hnx, hN, rx, ry, rh, rm, rc, rw9⟩ := hF
  obtain ⟨q1, q2, ⟨q3, q4, q5⟩, q6⟩ := hR
  have m := fun j (h : j ≠ 7) => eU_ne (x := x) (z := 7) (v := x 7 + 1) h
  refine ⟨?_, fun k k0 k1 => ?_, ⟨fun u v i => ?_, fun k k0 k1 => ?_, fun k j k0 k1 j1 => ?_⟩, fun k k0 k1 => ?_⟩
  · obtain ⟨a0, a1, a2, a3, a4, a5, a6, a7, a8, a9⟩ := q1
    unfold mRn
    rw [m 0 (by omega), m 1 (by omega), m 2 (by omega), m 3 (by omega), m 4 (by omega), m 5 (by omega), m 6 (by omega), eU_self, m 8 (by omega), m 9 (by omega)]
    exact ⟨a0, a1, a2, a3, a4, a5, a6, by rw [a7]; rfl, a8, a9⟩
  · have k1 : k < F.1 0 := k1
    rw [m _ (by omega), m _ (by omega), m _ (by omega), m _ (by omega)]; exact q2 k k0 k1
  · show sBit (F.2 4 v) u ↔ ∃ k, 0 ≤ k ∧ k < F.1 9 ∧ eU x 7 (x 7 + 1) (50 + k) = 12 * v + u
    rw [q3 u v i]
    constructor
    · rintro ⟨k, k0, k1, e⟩; exact ⟨k, k0, k1, by rw [m _ (by omega)]; exact e⟩
    · rintro ⟨k, k0, k1, e⟩; exact ⟨k, k0, k1, by rw [m _ (by omega)] at e; exact e⟩
  · rw [m _ (by omega)]; exact q4 k k0 k1
  · rw [m _ (by omega), m _ (by omega)]; exact q5 k j k0 k1 j1
  · exact mSh_cong (fun r r0 r1 => m _ (by omega)) (q6 k k0 k1)
theorem mRem_of {x sh g2 : Int → Int} {k v : Int} (hk : k = 12) (e : ∀ j, g2 j = if 58 ≤ j ∧ j < 58 + k then sh (j - 58) else if 69 < j ∧ j < 250 then x (j - 12) else x j) (hv : (if x 9 < 16 then x 9 + 1 else 16) = v) : mRem x sh = eU g2 9 v := by
  funext j
  subst hk
  by_cases q : j = 9
  · subst q
    rw [eU_self, ← hv]
    exact if_pos rfl
  · rw [eU_ne q, e]
    unfold mRem
    rw [if_neg q]
    by_cases r : 58 ≤ j ∧ j < 70
    · rw [if_pos r, if_pos (show 58 ≤ j ∧ j < 58 + 12 by omega)]
    · rw [if_neg r, if_neg (show ¬ (58 ≤ j ∧ j < 58 + 12) by omega)]
      by_cases r2 : 70 ≤ j ∧ j < 250
      · rw [if_pos r2, if_pos (show 69 < j ∧ j < 250 by omega)]
      · rw [if_neg r2, if_neg (show ¬ (69 < j ∧ j < 250) by omega)]
/-- the reference's world, row by row -/
def wMx (a : Nat → Nat) (m : Nat → Int) (x sh inp cmd ln : Int → Int) : List eE := [.inr (7, [vi (m 0), .ref (a 1), vi (m 1), vb (m 2 = 1), vi (m 3), vi (m 4), vi (m 5), .ref (a 2), .ref (a 3), vi (m 6), vi (m 7), vi (m 8), vi (m 9), vi (m 10), .ref (a 4), vi (m 11), .ref (a 5), vi (m 12)]),
  eI 0 3000 x, eI 0 12 sh, eI 2 60 inp, eI 0 244 cmd, eI 2 12 ln]

theorem C_X7_shapes {X : eXT} {a : Nat → Nat} {N : Int} {F M : eFs} (hF : okF N F) (hR : mR F (M.2 0))  :
    EM X mX7_shapes (eRm 1) a [.ref (a 0)] (wM a M) (eRets none a (fun cs1 => ∃ sh : Int → Int, cs1 = wM a (sR M 1 sh) ∧ mSh (sShp F) 0 sh 0)) := by
  refine EM.of (by decide +kernel) rfl (Nat.le_of_ble_eq_true rfl) ?_
  have hF0 := hF
  obtain ⟨hc, hld, hled, htn, hgo, hkp, hst, hwt, hcl, hsh, hnx, hN, rx, ry, rh, rm, rc, rw9⟩ := hF
  obtain ⟨⟨n0, n1, n2, n3, n4, n5, n6, n7, n8, n9⟩, hb, hcd, hss⟩ := id hR
  refine e_bipush dX7_shapes_0 rfl rfl ?_
  refine f_istore_n dX7_shapes_2 rfl (Nat.le_of_ble_eq_true rfl) rfl ?_
  refine e_bipush dX7_shapes_3 rfl rfl ?_
  refine f_istore_n dX7_shapes_5 rfl (Nat.le_of_ble_eq_true rfl) rfl ?_
  refine e_iconst dX7_shapes_6 rfl ?_
  refine f_istore_n dX7_shapes_7 rfl (Nat.le_of_ble_eq_true rfl) rfl ?_
  have hL8 : ∀ (k8 : Nat) (k : Int) (g : Int → Int) (hk8 : (12 - k).toNat = k8) (g8 : 0 ≤ k ∧ k ≤ 12) (e8 : ∀ j, 0 ≤ j → j < k → g j = 0), EV (mX7_shapes, (eRm 1), eRets none a (fun cs1 => ∃ sh : Int → Int, cs1 = wM a (sR M 1 sh) ∧ mSh (sShp F) 0 sh 0), X) a (0, 0) (wMx a M.1 (M.2 0) (g) (M.2 2) (M.2 3) (M.2 4)) 8 [some (.ref (a 0)), some (vi 12), some (vi 12), some (vi k)] [] := by
    intro k8
    induction k8 using Nat.strongRecOn with
    | _ k8 ih8 =>
    intro k g hk8 g8 e8
    refine e_iload_n dX7_shapes_8 rfl rfl ?_
    refine e_bipush dX7_shapes_9 rfl rfl ?_
    refine e_icmp_ge (t := 27) dX7_shapes_11 rfl rfl (by omega) (by omega) (fun h11 => ?_) (fun h11 => ?_)
    · refine e_iconst dX7_shapes_27 rfl ?_
      refine f_istore_n dX7_shapes_28 rfl (Nat.le_of_ble_eq_true rfl) rfl ?_
      have hL29 : ∀ (k29 : Nat) (k lx ly : Int) (hk29 : (F.1 0 - k).toNat = k29) (g29 : 0 ≤ k ∧ k ≤ F.1 0) (e29 : sLft F = sMin (F.2 0) (F.1 0 - k).toNat k lx) (f29 : sLow F = sMin (F.2 1) (F.1 0 - k).toNat k ly) (lb : (0 ≤ lx ∧ lx ≤ 12) ∧ 0 ≤ ly ∧ ly ≤ 12), EV (mX7_shapes, (eRm 1), eRets none a (fun cs1 => ∃ sh : Int → Int, cs1 = wM a (sR M 1 sh) ∧ mSh (sShp F) 0 sh 0), X) a (0, 0) (wMx a M.1 (M.2 0) (g) (M.2 2) (M.2 3) (M.2 4)) 29 [some (.ref (a 0)), some (vi lx), some (vi ly), some (vi k)] [] := by
        intro k29
        induction k29 using Nat.strongRecOn with
        | _ k29 ih29 =>
        intro k lx ly hk29 g29 e29 f29 lb
        refine e_iload_n dX7_shapes_29 rfl rfl ?_
        refine e_aload_n dX7_shapes_30 rfl rfl ?_
        refine e_getfield fd_X7_9 dX7_shapes_31 rfl rfl rfl rfl ?_
        refine e_iconst dX7_shapes_34 rfl ?_
        refine e_iaload dX7_shapes_35 rfl rfl rfl (by omega) (by decide) ?_
        refine e_icmp_ge (t := 87) dX7_shapes_36 rfl rfl (by omega) (by omega) (fun h36 => ?_) (fun h36 => ?_)
        · have e9 : lx = sLft F := (e29.trans (sMin_end (by omega))).symm
          have f9 : ly = sLow F := (f29.trans (sMin_end (by omega))).symm
          subst e9
          subst f9
          refine e_iconst dX7_shapes_87 rfl ?_
          refine f_istore_n dX7_shapes_88 rfl (Nat.le_of_ble_eq_true rfl) rfl ?_
          have hL89 : ∀ (k89 : Nat) (k : Int) (Q : Int → Int) (hk89 : (F.1 0 - k).toNat = k89) (g89 : 0 ≤ k ∧ k ≤ F.1 0) (d89 : mDr F k Q), EV (mX7_shapes, (eRm 1), eRets none a (fun cs1 => ∃ sh : Int → Int, cs1 = wM a (sR M 1 sh) ∧ mSh (sShp F) 0 sh 0), X) a (0, 0) (wMx a M.1 (M.2 0) (Q) (M.2 2) (M.2 3) (M.2 4)) 89 [some (.ref (a 0)), some (vi (sLft F)), some (vi (sLow F)), some (vi k)] [] := by
            intro k89
            induction k89 using Nat.strongRecOn with
            | _ k89 ih89 =>
            intro k Q hk89 g89 d89
            refine e_iload_n dX7_shapes_89 rfl rfl ?_
            refine e_aload_n dX7_shapes_90 rfl rfl ?_
            refine e_getfield fd_X7_9 dX7_shapes_91 rfl rfl rfl rfl ?_
            refine e_iconst dX7_shapes_94 rfl ?_
            refine e_iaload dX7_shapes_95 rfl rfl rfl (by omega) (by decide) ?_
            refine e_icmp_ge (t := 131) dX7_shapes_96 rfl rfl (by omega) (by omega) (fun h96 => ?_) (fun h96 => ?_)
            · exact e_vret dX7_shapes_131 rfl ⟨rfl, rfl, Q, rfl, mDr_end hF0 (by omega) d89⟩
            · refine e_aload_n dX7_shapes_99 rfl rfl ?_
              refine e_getfield fd_X7_13 dX7_shapes_100 rfl rfl rfl rfl ?_
              refine e_aload_n dX7_shapes_103 rfl rfl ?_
              refine e_iload_n dX7_shapes_104 rfl rfl ?_
              refine e_iconst dX7_shapes_105 rfl ?_
              refine e_cV0 [0, 1, 2, 3, 4, 5] lk_X7_50 rfl dX7_shapes_106 rfl (C_X7_b (M := sR M 1 Q) (by omega) (by omega)) rfl rfl (Nat.le_of_ble_eq_true rfl) (Nat.le_of_ble_eq_true rfl) (Nat.le_of_ble_eq_true rfl) ⟨rfl, rfl⟩ rfl rfl rfl rfl rfl rfl  ?_
              have bk109 := hb k (by omega) (by omega)
              refine EV.eq (st' := [vi (F.2 1 k), .ref (a 2)]) (by show [vi (M.2 0 (10 + 4 * k + 1)), .ref (a 2)] = _; rw [bk109.2.1]) ?_
              have wb := (sShWB hF0 g89.1 (by omega)).1
              refine e_iload_n dX7_shapes_109 rfl rfl ?_
              refine e_isub dX7_shapes_110 rfl ?_
              refine e_dup2 dX7_shapes_111 rfl rfl rfl ?_
              refine e_iaload dX7_shapes_112 rfl rfl rfl (by omega) (by decide) ?_
              refine e_iconst dX7_shapes_113 rfl ?_
              refine e_aload_n dX7_shapes_114 rfl rfl ?_
              refine e_iload_n dX7_shapes_115 rfl rfl ?_
              refine e_iconst dX7_shapes_116 rfl ?_
              refine e_cV0 [0, 1, 2, 3, 4, 5] lk_X7_50 rfl dX7_shapes_117 rfl (C_X7_b (M := sR M 1 Q) (by omega) (by omega)) rfl rfl (Nat.le_of_ble_eq_true rfl) (Nat.le_of_ble_eq_true rfl) (Nat.le_of_ble_eq_true rfl) ⟨rfl, rfl⟩ rfl rfl rfl rfl rfl rfl  ?_
              have bk120 := hb k (by omega) (by omega)
              refine EV.eq (st' := [vi (F.2 0 k), vi 1, vi (Q (F.2 1 k - sLow F)), vi (F.2 1 k - sLow F), .ref (a 2)]) (by show [vi (M.2 0 (10 + 4 * k + 0)), vi 1, vi (Q (F.2 1 k - sLow F)), vi (F.2 1 k - sLow F), .ref (a 2)] = _; rw [bk120.1]) ?_
              refine e_iload_n dX7_shapes_120 rfl rfl ?_
              refine e_isub dX7_shapes_121 rfl ?_
              refine e_ishl dX7_shapes_122 rfl ?_
              refine e_ior dX7_shapes_123 rfl ?_
              refine e_iastore dX7_shapes_124 rfl rfl rfl (by omega) (by decide) ?_
              refine f_iinc dX7_shapes_125 rfl rfl (Nat.le_of_ble_eq_true rfl) rfl ?_
              refine e_goto (n := 89) dX7_shapes_128 rfl ?_
              refine EV.ceq (cs' := wMx a M.1 (M.2 0) ((eU Q (F.2 1 k - sLow F) (bOr (Q (F.2 1 k - sLow F)) (bShl 1 (F.2 0 k - sLft F))))) (M.2 2) (M.2 3) (M.2 4)) rfl ?_
              exact ih89 _ (by omega) (k + 1) _ rfl (by omega) (mDr_go hF0 (by omega) (by omega) d89)
          exact hL89 _ 0 g rfl (by omega) (fun r r0 r1 => by rw [e8 r r0 (by omega)]; exact ⟨by omega, fun c c0 c1 => ⟨fun q => absurd q sBit_0, fun ⟨b, b0, b1, _⟩ => by omega⟩⟩)
        · refine e_aload_n dX7_shapes_39 rfl rfl ?_
          refine e_iload_n dX7_shapes_40 rfl rfl ?_
          refine e_iconst dX7_shapes_41 rfl ?_
          refine e_cV0 [0, 1, 2, 3, 4, 5] lk_X7_50 rfl dX7_shapes_42 rfl (C_X7_b (M := sR M 1 g) (by omega) (by omega)) rfl rfl (Nat.le_of_ble_eq_true rfl) (Nat.le_of_ble_eq_true rfl) (Nat.le_of_ble_eq_true rfl) ⟨rfl, rfl⟩ rfl rfl rfl rfl rfl rfl  ?_
          have bk45 := hb k (by omega) (by omega)
          refine EV.eq (st' := [vi (F.2 0 k)]) (by show [vi (M.2 0 (10 + 4 * k + 0))] = _; rw [bk45.1]) ?_
          have rxk := rx k
          have ryk := ry k
          refine e_iload_n dX7_shapes_45 rfl rfl ?_
          refine e_icmp_ge (t := 58) dX7_shapes_46 rfl rfl (by omega) (by omega) (fun h46 => ?_) (fun h46 => ?_)
          · refine e_iload_n dX7_shapes_58 rfl rfl ?_
            refine f_istore_n dX7_shapes_59 rfl (Nat.le_of_ble_eq_true rfl) rfl ?_
            refine e_aload_n dX7_shapes_60 rfl rfl ?_
            refine e_iload_n dX7_shapes_61 rfl rfl ?_
            refine e_iconst dX7_shapes_62 rfl ?_
            refine e_cV0 [0, 1, 2, 3, 4, 5] lk_X7_50 rfl dX7_shapes_63 rfl (C_X7_b (M := sR M 1 g) (by omega) (by omega)) rfl rfl (Nat.le_of_ble_eq_true rfl) (Nat.le_of_ble_eq_true rfl) (Nat.le_of_ble_eq_true rfl) ⟨rfl, rfl⟩ rfl rfl rfl rfl rfl rfl  ?_
            have bk66 := hb k (by omega) (by omega)
            refine EV.eq (st' := [vi (F.2 1 k)]) (by show [vi (M.2 0 (10 + 4 * k + 1))] = _; rw [bk66.2.1]) ?_
            refine e_iload_n dX7_shapes_66 rfl rfl ?_
            refine e_icmp_ge (t := 79) dX7_shapes_67 rfl rfl (by omega) (by omega) (fun h67 => ?_) (fun h67 => ?_)
            · refine e_iload_n dX7_shapes_79 rfl rfl ?_
              refine f_istore_n dX7_shapes_80 rfl (Nat.le_of_ble_eq_true rfl) rfl ?_
              refine f_iinc dX7_shapes_81 rfl rfl (Nat.le_of_ble_eq_true rfl) rfl ?_
              refine e_goto (n := 29) dX7_shapes_84 rfl ?_
              exact ih29 _ (by omega) (k + 1) (lx) (ly) rfl (by omega) (by rw [e29, sMin_go (by omega), if_neg (by omega)]) (by rw [f29, sMin_go (by omega), if_neg (by omega)]) (by omega)
            · refine e_aload_n dX7_shapes_70 rfl rfl ?_
              refine e_iload_n dX7_shapes_71 rfl rfl ?_
              refine e_iconst dX7_shapes_72 rfl ?_
              refine e_cV0 [0, 1, 2, 3, 4, 5] lk_X7_50 rfl dX7_shapes_73 rfl (C_X7_b (M := sR M 1 g) (by omega) (by omega)) rfl rfl (Nat.le_of_ble_eq_true rfl) (Nat.le_of_ble_eq_true rfl) (Nat.le_of_ble_eq_true rfl) ⟨rfl, rfl⟩ rfl rfl rfl rfl rfl rfl  ?_
              have bk76 := hb k (by omega) (by omega)
              refine EV.eq (st' := [vi (F.2 1 k)]) (by show [vi (M.2 0 (10 + 4 * k + 1))] = _; rw [bk76.2.1]) ?_
              refine e_goto (n := 80) dX7_shapes_76 rfl ?_
              refine f_istore_n dX7_shapes_80 rfl (Nat.le_of_ble_eq_true rfl) rfl ?_
              refine f_iinc dX7_shapes_81 rfl rfl (Nat.le_of_ble_eq_true rfl) rfl ?_
              refine e_goto (n := 29) dX7_shapes_84 rfl ?_
              exact ih29 _ (by omega) (k + 1) (lx) (F.2 1 k) rfl (by omega) (by rw [e29, sMin_go (by omega), if_neg (by omega)]) (by rw [f29, sMin_go (by omega), if_pos (by omega)]) (by omega)
          · refine e_aload_n dX7_shapes_49 rfl rfl ?_
            refine e_iload_n dX7_shapes_50 rfl rfl ?_
            refine e_iconst dX7_shapes_51 rfl ?_
            refine e_cV0 [0, 1, 2, 3, 4, 5] lk_X7_50 rfl dX7_shapes_52 rfl (C_X7_b (M := sR M 1 g) (by omega) (by omega)) rfl rfl (Nat.le_of_ble_eq_true rfl) (Nat.le_of_ble_eq_true rfl) (Nat.le_of_ble_eq_true rfl) ⟨rfl, rfl⟩ rfl rfl rfl rfl rfl rfl  ?_
            have bk55 := hb k (by omega) (by omega)
            refine EV.eq (st' := [vi (F.2 0 k)]) (by show [vi (M.2 0 (10 + 4 * k + 0))] = _; rw [bk55.1]) ?_
            refine e_goto (n := 59) dX7_shapes_55 rfl ?_
            refine f_istore_n dX7_shapes_59 rfl (Nat.le_of_ble_eq_true rfl) rfl ?_
            refine e_aload_n dX7_shapes_60 rfl rfl ?_
            refine e_iload_n dX7_shapes_61 rfl rfl ?_
            refine e_iconst dX7_shapes_62 rfl ?_
            refine e_cV0 [0, 1, 2, 3, 4, 5] lk_X7_50 rfl dX7_shapes_63 rfl (C_X7_b (M := sR M 1 g) (by omega) (by omega)) rfl rfl (Nat.le_of_ble_eq_true rfl) (Nat.le_of_ble_eq_true rfl) (Nat.le_of_ble_eq_true rfl) ⟨rfl, rfl⟩ rfl rfl rfl rfl rfl rfl  ?_
            have bk66 := hb k (by omega) (by omega)
            refine EV.eq (st' := [vi (F.2 1 k)]) (by show [vi (M.2 0 (10 + 4 * k + 1))] = _; rw [bk66.2.1]) ?_
            refine e_iload_n dX7_shapes_66 rfl rfl ?_
            refine e_icmp_ge (t := 79) dX7_shapes_67 rfl rfl (by omega) (by omega) (fun h67 => ?_) (fun h67 => ?_)
            · refine e_iload_n dX7_shapes_79 rfl rfl ?_
              refine f_istore_n dX7_shapes_80 rfl (Nat.le_of_ble_eq_true rfl) rfl ?_
              refine f_iinc dX7_shapes_81 rfl rfl (Nat.le_of_ble_eq_true rfl) rfl ?_
              refine e_goto (n := 29) dX7_shapes_84 rfl ?_
              exact ih29 _ (by omega) (k + 1) (F.2 0 k) (ly) rfl (by omega) (by rw [e29, sMin_go (by omega), if_pos (by omega)]) (by rw [f29, sMin_go (by omega), if_neg (by omega)]) (by omega)
            · refine e_aload_n dX7_shapes_70 rfl rfl ?_
              refine e_iload_n dX7_shapes_71 rfl rfl ?_
              refine e_iconst dX7_shapes_72 rfl ?_
              refine e_cV0 [0, 1, 2, 3, 4, 5] lk_X7_50 rfl dX7_shapes_73 rfl (C_X7_b (M := sR M 1 g) (by omega) (by omega)) rfl rfl (Nat.le_of_ble_eq_true rfl) (Nat.le_of_ble_eq_true rfl) (Nat.le_of_ble_eq_true rfl) ⟨rfl, rfl⟩ rfl rfl rfl rfl rfl rfl  ?_
              have bk76 := hb k (by omega) (by omega)
              refine EV.eq (st' := [vi (F.2 1 k)]) (by show [vi (M.2 0 (10 + 4 * k + 1))] = _; rw [bk76.2.1]) ?_
              refine e_goto (n := 80) dX7_shapes_76 rfl ?_
              refine f_istore_n dX7_shapes_80 rfl (Nat.le_of_ble_eq_true rfl) rfl ?_
              refine f_iinc dX7_shapes_81 rfl rfl (Nat.le_of_ble_eq_true rfl) rfl ?_
              refine e_goto (n := 29) dX7_shapes_84 rfl ?_
              exact ih29 _ (by omega) (k + 1) (F.2 0 k) (F.2 1 k) rfl (by omega) (by rw [e29, sMin_go (by omega), if_pos (by omega)]) (by rw [f29, sMin_go (by omega), if_pos (by omega)]) (by omega)
      exact hL29 _ 0 12 12 rfl (by omega) rfl rfl (by omega)
    · refine e_aload_n dX7_shapes_14 rfl rfl ?_
      refine e_getfield fd_X7_13 dX7_shapes_15 rfl rfl rfl rfl ?_
      refine e_iload_n dX7_shapes_18 rfl rfl ?_
      refine e_iconst dX7_shapes_19 rfl ?_
      refine e_iastore dX7_shapes_20 rfl rfl rfl (by omega) (by decide) ?_
      refine f_iinc dX7_shapes_21 rfl rfl (Nat.le_of_ble_eq_true rfl) rfl ?_
      refine e_goto (n := 8) dX7_shapes_24 rfl ?_
      refine EV.ceq (cs' := wMx a M.1 (M.2 0) ((eU g k 0)) (M.2 2) (M.2 3) (M.2 4)) rfl ?_
      exact ih8 _ (by omega) (k + 1) _ rfl (by omega) (fun j j1 j2 => by by_cases q : j = k; rw [q, eU_self]; rw [eU_ne q]; exact e8 j j1 (by omega))
  refine EV.ceq (cs' := wMx a M.1 (M.2 0) (M.2 1) (M.2 2) (M.2 3) (M.2 4)) rfl ?_
  exact hL8 _ 0 (M.2 1) rfl (by omega) (fun j _ _ => by omega)
theorem C_X7_remembers {X : eXT} {a : Nat → Nat} {N : Int} {F M : eFs} (hF : okF N F) (hR : mR F (M.2 0)) (h0 : 0 < F.1 0) :
    EM X mX7_remembers (eRm 2) a [.ref (a 0)] (wM a M) (eRets none a (fun cs1 => ∃ sh x1 : Int → Int, cs1 = wM a (sR (sR M 1 sh) 0 x1) ∧ mR (sRem F) x1 ∧ mSh (sShp F) 0 sh 0 ∧ mFr (M.2 0) x1)) := by
  refine EM.of (by decide +kernel) rfl (Nat.le_of_ble_eq_true rfl) ?_
  have hF0 := hF
  obtain ⟨hc, hld, hled, htn, hgo, hkp, hst, hwt, hcl, hsh, hnx, hN, rx, ry, rh, rm, rc, rw9⟩ := hF
  obtain ⟨⟨n0, n1, n2, n3, n4, n5, n6, n7, n8, n9⟩, hb, hcd, hss⟩ := id hR
  refine e_aload_n dX7_remembers_0 rfl rfl ?_
  refine e_cV1 [0, 1, 2, 3, 4, 5] lk_X7_102 rfl dX7_remembers_1 rfl (C_X7_shapes hF0 hR) rfl rfl (Nat.le_of_ble_eq_true rfl) (Nat.le_of_ble_eq_true rfl) (Nat.le_of_ble_eq_true rfl) ⟨rfl, rfl⟩ rfl rfl rfl rfl rfl rfl (fun cs1 hcs => by obtain ⟨sh, hcs, -⟩ := hcs; rw [hcs]; rfl) ?_
  intro cs1 hcs
  obtain ⟨sh, hcs, hsh1⟩ := hcs
  subst hcs
  refine EV.ceq (cs' := wM a (sR M 1 sh)) rfl ?_
  refine e_sipush dX7_remembers_4 rfl rfl ?_
  refine f_istore_n dX7_remembers_7 rfl (Nat.le_of_ble_eq_true rfl) rfl ?_
  have hL8 : ∀ (k8 : Nat) (k : Int) (g : Int → Int) (hk8 : (k - 11).toNat = k8) (g8 : 11 ≤ k ∧ k ≤ 191) (e8 : ∀ j, g j = if 58 + k < j ∧ j < 250 then M.2 0 (j - 12) else M.2 0 j), EV (mX7_remembers, (eRm 2), eRets none a (fun cs1 => ∃ sh x1 : Int → Int, cs1 = wM a (sR (sR M 1 sh) 0 x1) ∧ mR (sRem F) x1 ∧ mSh (sShp F) 0 sh 0 ∧ mFr (M.2 0) x1), X) a (0, 0) (wMx a M.1 (g) (sh) (M.2 2) (M.2 3) (M.2 4)) 8 [some (.ref (a 0)), some (vi k)] [] := by
    intro k8
    induction k8 using Nat.strongRecOn with
    | _ k8 ih8 =>
    intro k g hk8 g8 e8
    refine e_iload_n dX7_remembers_8 rfl rfl ?_
    refine e_bipush dX7_remembers_9 rfl rfl ?_
    refine e_icmp_lt (t := 41) dX7_remembers_11 rfl rfl (by omega) (by omega) (fun h11 => ?_) (fun h11 => ?_)
    · refine e_iconst dX7_remembers_41 rfl ?_
      refine f_istore_n dX7_remembers_42 rfl (Nat.le_of_ble_eq_true rfl) rfl ?_
      have hL43 : ∀ (k43 : Nat) (k : Int) (g2 : Int → Int) (hk43 : (12 - k).toNat = k43) (g43 : 0 ≤ k ∧ k ≤ 12) (e43 : ∀ j, g2 j = if 58 ≤ j ∧ j < 58 + k then sh (j - 58) else if 69 < j ∧ j < 250 then M.2 0 (j - 12) else M.2 0 j), EV (mX7_remembers, (eRm 2), eRets none a (fun cs1 => ∃ sh x1 : Int → Int, cs1 = wM a (sR (sR M 1 sh) 0 x1) ∧ mR (sRem F) x1 ∧ mSh (sShp F) 0 sh 0 ∧ mFr (M.2 0) x1), X) a (0, 0) (wMx a M.1 (g2) (sh) (M.2 2) (M.2 3) (M.2 4)) 43 [some (.ref (a 0)), some (vi k)] [] := by
        intro k43
        induction k43 using Nat.strongRecOn with
        | _ k43 ih43 =>
        intro k g2 hk43 g43 e43
        refine e_iload_n dX7_remembers_43 rfl rfl ?_
        refine e_bipush dX7_remembers_44 rfl rfl ?_
        refine e_icmp_ge (t := 70) dX7_remembers_46 rfl rfl (by omega) (by omega) (fun h46 => ?_) (fun h46 => ?_)
        · have hk12 : k = 12 := by omega
          have e9 : g2 9 = M.2 0 9 := by rw [e43, if_neg (by omega), if_neg (by omega)]
          refine e_aload_n dX7_remembers_70 rfl rfl ?_
          refine e_getfield fd_X7_9 dX7_remembers_71 rfl rfl rfl rfl ?_
          refine e_bipush dX7_remembers_74 rfl rfl ?_
          refine e_aload_n dX7_remembers_76 rfl rfl ?_
          refine e_getfield fd_X7_9 dX7_remembers_77 rfl rfl rfl rfl ?_
          refine e_bipush dX7_remembers_80 rfl rfl ?_
          refine e_iaload dX7_remembers_82 rfl rfl rfl (by omega) (by decide) ?_
          refine e_bipush dX7_remembers_83 rfl rfl ?_
          refine e_icmp_ge (t := 100) dX7_remembers_85 rfl rfl (by omega) (by omega) (fun h85 => ?_) (fun h85 => ?_)
          · refine e_bipush dX7_remembers_100 rfl rfl ?_
            refine e_iastore dX7_remembers_102 rfl rfl rfl (by omega) (by decide) ?_
            exact e_vret dX7_remembers_103 rfl ⟨rfl, rfl, sh, mRem (M.2 0) sh, by rw [mRem_of hk12 e43 (v := 16) (by rw [if_neg (by omega)])] <;> rfl, mR_rem hF0 hR h0 hsh1, hsh1, fun j hj => mRem_0 (by omega) (by omega)⟩
          · refine e_aload_n dX7_remembers_88 rfl rfl ?_
            refine e_getfield fd_X7_9 dX7_remembers_89 rfl rfl rfl rfl ?_
            refine e_bipush dX7_remembers_92 rfl rfl ?_
            refine e_iaload dX7_remembers_94 rfl rfl rfl (by omega) (by decide) ?_
            refine e_iconst dX7_remembers_95 rfl ?_
            refine e_iadd dX7_remembers_96 rfl ?_
            refine EV.eq (st' := [vi (M.2 0 9 + 1), vi 9, .ref (a 1)]) (by rw [← e9] <;> rfl) ?_
            refine e_goto (n := 102) dX7_remembers_97 rfl ?_
            refine e_iastore dX7_remembers_102 rfl rfl rfl (by omega) (by decide) ?_
            exact e_vret dX7_remembers_103 rfl ⟨rfl, rfl, sh, mRem (M.2 0) sh, by rw [mRem_of hk12 e43 (v := M.2 0 9 + 1) (by rw [if_pos (by omega)])] <;> rfl, mR_rem hF0 hR h0 hsh1, hsh1, fun j hj => mRem_0 (by omega) (by omega)⟩
        · refine e_aload_n dX7_remembers_49 rfl rfl ?_
          refine e_getfield fd_X7_9 dX7_remembers_50 rfl rfl rfl rfl ?_
          refine e_bipush dX7_remembers_53 rfl rfl ?_
          refine e_iload_n dX7_remembers_55 rfl rfl ?_
          refine e_iadd dX7_remembers_56 rfl ?_
          refine e_aload_n dX7_remembers_57 rfl rfl ?_
          refine e_getfield fd_X7_13 dX7_remembers_58 rfl rfl rfl rfl ?_
          refine e_iload_n dX7_remembers_61 rfl rfl ?_
          refine e_iaload dX7_remembers_62 rfl rfl rfl (by omega) (by decide) ?_
          refine e_iastore dX7_remembers_63 rfl rfl rfl (by omega) (by decide) ?_
          refine f_iinc dX7_remembers_64 rfl rfl (Nat.le_of_ble_eq_true rfl) rfl ?_
          refine e_goto (n := 43) dX7_remembers_67 rfl ?_
          refine EV.ceq (cs' := wMx a M.1 ((eU g2 (58 + k) (sh k))) (sh) (M.2 2) (M.2 3) (M.2 4)) rfl ?_
          exact ih43 _ (by omega) (k + 1) _ rfl (by omega) (fun j => by by_cases q : j = 58 + k; rw [q, eU_self, if_pos (by omega), show 58 + k - 58 = k by omega]; rw [eU_ne q, e43]; by_cases r : 58 ≤ j ∧ j < 58 + k; rw [if_pos r, if_pos (show 58 ≤ j ∧ j < 58 + (k + 1) by omega)]; rw [if_neg r, if_neg (show ¬ (58 ≤ j ∧ j < 58 + (k + 1)) by omega)])
      exact hL43 _ 0 g rfl (by omega) (fun j => by rw [if_neg (by omega), e8]; by_cases r : 69 < j ∧ j < 250; rw [if_pos r, if_pos (by omega)]; rw [if_neg r, if_neg (by omega)])
    · refine e_aload_n dX7_remembers_14 rfl rfl ?_
      refine e_getfield fd_X7_9 dX7_remembers_15 rfl rfl rfl rfl ?_
      refine e_bipush dX7_remembers_18 rfl rfl ?_
      refine e_iload_n dX7_remembers_20 rfl rfl ?_
      refine e_iadd dX7_remembers_21 rfl ?_
      refine e_aload_n dX7_remembers_22 rfl rfl ?_
      refine e_getfield fd_X7_9 dX7_remembers_23 rfl rfl rfl rfl ?_
      refine e_bipush dX7_remembers_26 rfl rfl ?_
      refine e_iload_n dX7_remembers_28 rfl rfl ?_
      refine e_iadd dX7_remembers_29 rfl ?_
      refine e_bipush dX7_remembers_30 rfl rfl ?_
      refine e_isub dX7_remembers_32 rfl ?_
      refine e_iaload dX7_remembers_33 rfl rfl rfl (by omega) (by decide) ?_
      refine e_iastore dX7_remembers_34 rfl rfl rfl (by omega) (by decide) ?_
      refine f_iinc dX7_remembers_35 rfl rfl (Nat.le_of_ble_eq_true rfl) rfl ?_
      refine e_goto (n := 8) dX7_remembers_38 rfl ?_
      refine EV.ceq (cs' := wMx a M.1 ((eU g (58 + k) (g (58 + k - 12)))) (sh) (M.2 2) (M.2 3) (M.2 4)) rfl ?_
      exact ih8 _ (by omega) (k + -1) _ rfl (by omega) (fun j => by by_cases q : j = 58 + k; rw [q, eU_self, e8, if_neg (by omega), if_pos (by omega)]; rw [eU_ne q, e8]; by_cases r : 58 + k < j ∧ j < 250; rw [if_pos r, if_pos (by omega)]; rw [if_neg r, if_neg (by omega)])
  refine EV.ceq (cs' := wMx a M.1 ((M.2 0)) (sh) (M.2 2) (M.2 3) (M.2 4)) rfl ?_
  exact hL8 _ 191 (M.2 0) rfl (by omega) (fun j => by rw [if_neg (by omega)])
