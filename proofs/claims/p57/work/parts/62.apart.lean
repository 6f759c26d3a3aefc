/-! ===== the baskets stay apart, and out of the clouds ===== -/
theorem eFB_m1 {P : Int → Prop} [DecidablePred P] {n : Int} : eFB P n 0 = -1 ↔ ∀ j, 0 ≤ j → j < n → ¬ P j := by
  rw [← eFB_neg (P := P) (n := n) (i := 0) (by omega)]
  have := eFB_in (P := P) (n := n) (i := 0) (by omega)
  omega
def okA (F : eFs) : Prop := (∀ b o, sHas F b → sHas F o → ¬ b = o → 2 ≤ sDD F b o) ∧ (∀ b, sHas F b → ¬ sCov (F.2 4) (F.2 0 b) (F.2 1 b))
theorem okA_clr {N : Int} {F : eFs} (hF : okF N F) (h : okA F) : sClr F = -1 := by
  obtain ⟨hc, hld, hled, htn, hgo, hkp, hst, hwt, hcl, hsh, hnx, hN, rx, ry, rh, rm, rc, rw9⟩ := hF
  unfold sClr
  refine eFB_no (fun j j0 j1 q => q ⟨?_, h.2 j ⟨j0, j1⟩, ?_⟩)
  · have := rx j
    have := ry j
    omega
  · unfold sTo
    refine eFB_no (fun k k0 k1 r => ?_)
    have := h.1 k j ⟨k0, k1⟩ ⟨j0, j1⟩ r.1
    have r2 : sDD F k j < 2 := r.2
    omega
theorem okA_same {F G : eFs} (h : okA F) (e0 : G.1 0 = F.1 0) (ex : G.2 0 = F.2 0) (ey : G.2 1 = F.2 1) (e4 : G.2 4 = F.2 4) : okA G := by
  refine ⟨fun b o hb ho hn => ?_, fun b hb => ?_⟩
  · have := h.1 b o (by omega) (by omega) hn
    unfold sDD sD at this ⊢
    rw [ex, ey]
    exact this
  · rw [ex, ey, e4]
    exact h.2 b (by omega)
theorem sTo_far {F : eFs} {m x y : Int} (h : sTo F m x y = -1) : ∀ k, sHas F k → ¬ k = m → 2 ≤ sD F k x y := by
  intro k hk hn
  have := eFB_m1.mp h k hk.1 hk.2
  rcases Int.lt_or_le (sD F k x y) 2 with q | q
  · exact absurd ⟨hn, q⟩ this
  · exact q
theorem okA_at {F G : eFs} {b u v : Int} (h : okA F) (hp : sPos F b u v) (e0 : G.1 0 = F.1 0) (ex : G.2 0 = eU (F.2 0) b u) (ey : G.2 1 = eU (F.2 1) b v) (e4 : G.2 4 = F.2 4) : okA G := by
  have fr := sTo_far hp.2.2
  refine ⟨fun c o hc ho hn => ?_, fun c hc => ?_⟩
  · have hc' : sHas F c := by omega
    have ho' : sHas F o := by omega
    have w := h.1 c o hc' ho' hn
    unfold sDD sD at w ⊢
    rw [ex, ey]
    by_cases e1 : c = b
    · have e2 : ¬ o = b := by omega
      subst e1
      rw [eU_self, eU_self, eU_ne e2, eU_ne e2, eAbs_sub u, eAbs_sub v]
      exact fr o ho' e2
    · by_cases e2 : o = b
      · subst e2
        rw [eU_self, eU_self, eU_ne e1, eU_ne e1]
        exact fr c hc' e1
      · rw [eU_ne e1, eU_ne e1, eU_ne e2, eU_ne e2]
        exact w
  · have hc' : sHas F c := by omega
    rw [ex, ey, e4]
    by_cases e1 : c = b
    · subst e1
      rw [eU_self, eU_self]
      exact hp.2.1
    · rw [eU_ne e1, eU_ne e1]
      exact h.2 c hc'
theorem okA_mf {F : eFs} {b : Int} (h : okA F) : okA (sMF F b) := by
  by_cases q : sStay F b
  · rw [(sMF_0 (sWay_0 q)).1]; exact h
  · by_cases q1 : F.2 1 b < F.2 1 (F.1 1) ∧ sPos F b (F.2 0 b) (F.2 1 b + 1)
    · rw [(sMF_1 (sWay_1 q q1)).1]; exact okA_at h q1.2 rfl rfl rfl rfl
    · by_cases q2 : F.2 0 b < F.2 0 (F.1 1) ∧ sPos F b (F.2 0 b + 1) (F.2 1 b)
      · rw [(sMF_2 (sWay_2 q q1 q2)).1]; exact okA_at h q2.2 rfl rfl rfl rfl
      · by_cases q3 : F.2 1 (F.1 1) < F.2 1 b ∧ sPos F b (F.2 0 b) (F.2 1 b - 1)
        · rw [(sMF_3 (sWay_3 q q1 q2 q3)).1]; exact okA_at h q3.2 rfl rfl rfl rfl
        · by_cases q4 : F.2 0 (F.1 1) < F.2 0 b ∧ sPos F b (F.2 0 b - 1) (F.2 1 b)
          · rw [(sMF_4 (sWay_4 q q1 q2 q3 q4)).1]; exact okA_at h q4.2 rfl rfl rfl rfl
          · rw [(sMF_5 (sWay_5 q q1 q2 q3 q4)).1]; exact okA_same h rfl rfl rfl rfl
theorem okA_ml {F : eFs} (h : okA F) : okA (sML F) := by
  by_cases q : sOn F
  · rw [(sML_0 (sWayL_0 q)).1]; exact h
  · by_cases hx : sAlX F
    · by_cases q1 : sPos F (F.1 1) (sNX F) (sLY F)
      · rw [(sML_1 (sWayL_x1 q hx q1)).1]; exact okA_at h q1 rfl rfl rfl rfl
      · by_cases q2 : ¬ sNY F = sLY F ∧ sPos F (F.1 1) (sLX F) (sNY F)
        · rw [(sML_2 (sWayL_x2 q hx q1 q2)).1]; exact okA_at h q2.2 rfl rfl rfl rfl
        · rw [(sML_5 (sWayL_x5 q hx q1 q2)).1]; exact okA_same h rfl rfl rfl rfl
    · by_cases q1 : sPos F (F.1 1) (sLX F) (sNY F)
      · rw [(sML_2 (sWayL_y2 q hx q1)).1]; exact okA_at h q1 rfl rfl rfl rfl
      · by_cases q2 : ¬ sNX F = sLX F ∧ sPos F (F.1 1) (sNX F) (sLY F)
        · rw [(sML_1 (sWayL_y1 q hx q1 q2)).1]; exact okA_at h q2.2 rfl rfl rfl rfl
        · rw [(sML_5 (sWayL_y5 q hx q1 q2)).1]; exact okA_same h rfl rfl rfl rfl
theorem okA_fols : ∀ (k : Nat) (b : Int) (F : eFs), okA F → okA (sFols k b F) := by
  intro k
  induction k with
  | zero => intro b F h; exact h
  | succ k ih => intro b F h; exact ih (b + 1) _ (okA_mf h)
theorem okA_stp {F : eFs} (h : okA F) : okA (sStp F) := by
  have h1 : okA (sFA (sML F)) := okA_fols _ _ _ (okA_ml h)
  have h2 : okA (sRem (sFA (sML F))) := by
    unfold sRem
    split
    · exact okA_same h1 rfl rfl rfl rfl
    · exact h1
  have h3 : okA (sTik (sRem (sFA (sML F)))) := okA_same h2 rfl rfl rfl rfl
  unfold sStp sPL
  (repeat' split)
  · exact h3
  all_goals exact okA_same h3 rfl rfl rfl rfl
theorem okA_sts : ∀ (k : Nat) (F : eFs), okA F → okA (sSts k F) := by
  intro k
  induction k with
  | zero => intro F h; exact h
  | succ k ih => intro F h; exact ih _ (okA_stp h)
theorem okA_add {F : eFs} {x y g : Int} (h : okA F) (h0 : 0 ≤ F.1 0) (hp : sPos F (-1) x y) : okA (sAdd F x y g) := by
  have fr := sTo_far hp.2.2
  have e0 : (sAdd F x y g).1 0 = F.1 0 + 1 := rfl
  have ex : (sAdd F x y g).2 0 = eU (F.2 0) (F.1 0) x := rfl
  have ey : (sAdd F x y g).2 1 = eU (F.2 1) (F.1 0) y := rfl
  have e4 : (sAdd F x y g).2 4 = F.2 4 := rfl
  refine ⟨fun c o hc ho hn => ?_, fun c hc => ?_⟩
  · unfold sDD sD
    rw [ex, ey]
    by_cases e1 : c = F.1 0
    · have e2 : ¬ o = F.1 0 := by omega
      rw [e1, eU_self, eU_self, eU_ne e2, eU_ne e2, eAbs_sub x, eAbs_sub y]
      exact fr o (by omega) (by omega)
    · by_cases e2 : o = F.1 0
      · rw [e2, eU_self, eU_self, eU_ne e1, eU_ne e1]
        exact fr c (by omega) (by omega)
      · rw [eU_ne e1, eU_ne e1, eU_ne e2, eU_ne e2]
        exact h.1 c o (by omega) (by omega) hn
  · rw [ex, ey, e4]
    by_cases e1 : c = F.1 0
    · rw [e1, eU_self, eU_self]
      exact hp.2.1
    · rw [eU_ne e1, eU_ne e1]
      exact h.2 c (by omega)
theorem okA_cput {N : Int} {F : eFs} {x y : Int} (hF : okF N F) (h : okA F) (hin : sIn x y) (ha : sAt F x y = -1) : okA (sCPut F x y) := by
  have rc := hF.2.2.2.2.2.2.2.2.2.2.2.2.2.2.2.2.1
  have e4 : (sCPut F x y).2 4 = eU (F.2 4) y (bOr (F.2 4 y) (bShl 1 x)) := rfl
  refine ⟨h.1, fun b hb => ?_⟩
  have hb' : sHas F b := hb
  show ¬ sCov ((sCPut F x y).2 4) (F.2 0 b) (F.2 1 b)
  rw [e4]
  intro q
  have w := h.2 b hb'
  by_cases e : F.2 1 b = y
  · have q2 := q.2
    rw [e, eU_self] at q2
    have o := (sBit_or (w := F.2 4 y) (x := x) (z := F.2 0 b) (rc y) hin.1 hin.2.1 q.1.1 q.1.2.1).2
    rcases o.mp q2 with q3 | q3
    · exact w ⟨q.1, by rw [e]; exact q3⟩
    · have := eFB_m1.mp ha b hb'.1 hb'.2
      exact this ⟨q3, e⟩
  · have q2 := q.2
    rw [eU_ne e] at q2
    exact w ⟨q.1, q2⟩
theorem okA_crem {N : Int} {F : eFs} {x y : Int} (hF : okF N F) (h : okA F) (hin : sIn x y) : okA (sCRem F x y) := by
  have rc := hF.2.2.2.2.2.2.2.2.2.2.2.2.2.2.2.2.1
  have e4 : (sCRem F x y).2 4 = eU (F.2 4) y (bAnd (F.2 4 y) (bXor (bShl 1 x) (-1))) := rfl
  refine ⟨h.1, fun b hb => ?_⟩
  have hb' : sHas F b := hb
  show ¬ sCov ((sCRem F x y).2 4) (F.2 0 b) (F.2 1 b)
  rw [e4]
  intro q
  have w := h.2 b hb'
  by_cases e : F.2 1 b = y
  · have q2 := q.2
    rw [e, eU_self] at q2
    have o := (sBit_cl (w := F.2 4 y) (x := x) (z := F.2 0 b) (rc y) hin.1 hin.2.1 q.1.1 q.1.2.1).2
    exact w ⟨q.1, by rw [e]; exact (o.mp q2).1⟩
  · have q2 := q.2
    rw [eU_ne e] at q2
    exact w ⟨q.1, q2⟩
theorem okA_do {N : Int} {F : eFs} {k p q r : Int} (hk : 0 ≤ k ∧ k ≤ 8) (hF : okF N F) (h : okA F) (e : sHin F k p q r = 0) : okA (sDo F k p q r) := by
  rcases x9 hk with g | g | g | g | g | g | g | g | g <;> subst g
  · exact okA_add h hF.1.1 (hAdd_0 e).2.2.2
  · exact okA_at h (hJump_0 e).2.2 rfl rfl rfl rfl
  · exact okA_same h rfl rfl rfl rfl
  · exact okA_cput hF h (hCloud_0 e).1 (hCloud_0 e).2.2.2
  · exact okA_crem hF h (hClear_0 e).1
  · exact okA_same h rfl rfl rfl rfl
  · exact okA_same h rfl rfl rfl rfl
  · exact okA_same h rfl rfl rfl rfl
  · exact okA_sts _ _ h
theorem okA_0 : okA sF0 := ⟨fun b o hb => absurd hb (fun q => by have h1 := q.1; have h2 : b < 0 := q.2; omega), fun b hb => absurd hb (fun q => by have h1 := q.1; have h2 : b < 0 := q.2; omega)⟩
