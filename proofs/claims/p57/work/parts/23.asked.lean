/-! ===== Flock: what is asked ===== -/
theorem eAbs_or (z : Int) : 0 ≤ eAbs z ∧ (eAbs z = z ∨ eAbs z = -z) := by unfold eAbs; split <;> omega
theorem e_absA {K : eK} {a : Nat → Nat} {b : Nat × Nat} {cs : List eE} {pc n : Nat} {ls : List (Option Value)} {st : List Value} {idx : Nat} {x : Int} (w : eMa K.1.1.cls idx Lib.Math.abs.name Lib.Math.abs.code 1) (d : decode K.1.2.1 pc = .ok (.invokestatic idx, 3)) (hn : pc + 3 = n) (hfr : 1 ≤ K.2.1.frames) (hlo : (st.map fun v => v.category).sum + 13 ≤ K.2.1.locals) (hx2 : -2147483648 ≤ x ∧ x ≤ 2147483647)
    (k : (0 ≤ eAbs x ∧ (eAbs x = x ∨ eAbs x = -x)) → EV K a b cs n ls (vi (eAbs x) :: st)) : EV K a b cs pc ls (vi x :: st) :=
  e_abs w d hn hfr hlo hx2 (k (eAbs_or x))
def sD (F : eFs) (k x y : Int) : Int := eAbs (F.2 0 k - x) + eAbs (F.2 1 k - y)
def sDD (F : eFs) (k o : Int) : Int := sD F k (F.2 0 o) (F.2 1 o)
abbrev sHas (F : eFs) (k : Int) : Prop := 0 ≤ k ∧ k < F.1 0
def sTo (F : eFs) (m x y : Int) : Int := eFB (fun k => ¬ k = m ∧ sD F k x y < 2) (F.1 0) 0
def sAt (F : eFs) (x y : Int) : Int := eFB (fun k => F.2 0 k = x ∧ F.2 1 k = y) (F.1 0) 0
abbrev sPos (F : eFs) (m x y : Int) : Prop := sIn x y ∧ ¬ sCov (F.2 4) x y ∧ sTo F m x y = -1
def sClr (F : eFs) : Int := eFB (fun k => ¬ sPos F k (F.2 0 k) (F.2 1 k)) (F.1 0) 0
theorem sTo_in {F : eFs} {m x y : Int} : -1 ≤ sTo F m x y ∧ (sTo F m x y < F.1 0 ∨ sTo F m x y = -1) := eFB_in (by decide)
theorem sAt_in {F : eFs} {x y : Int} : -1 ≤ sAt F x y ∧ (sAt F x y < F.1 0 ∨ sAt F x y = -1) := eFB_in (by decide)

theorem C_X2_has {X : eXT} {a : Nat → Nat} {N : Int} {F : eFs} {P : Int → Int} (hF : okF N F) {b : Int} (hb : -2147483648 ≤ b ∧ b ≤ 2147483647) :
    EM X mX2_has (eRm 0) a [.ref (a 0), vi b] (wFl a F P) (eRet (some (vb (sHas F b))) a (wFl a F P)) := by
  refine EM.of (by decide +kernel) rfl (Nat.le_of_ble_eq_true rfl) ?_
  have hF0 := hF
  obtain ⟨hc, hld, hled, htn, hgo, hkp, hst, hwt, hcl, hsh, hnx, hN, rx, ry, rh, rm, rc, rw9⟩ := hF
  refine e_iload_n dX2_has_0 rfl rfl ?_
  refine e_if_lt (t := 16) dX2_has_1 rfl rfl (by omega) (fun h1 => ?_) (fun h1 => ?_)
  · refine e_iconst dX2_has_16 rfl ?_
    exact e_iret dX2_has_17 rfl (by decide) (eRet_f (by omega) rfl)
  · refine e_iload_n dX2_has_4 rfl rfl ?_
    refine e_aload_n dX2_has_5 rfl rfl ?_
    refine e_getfield fd_X2_24 dX2_has_6 rfl rfl rfl rfl ?_
    refine e_icmp_ge (t := 16) dX2_has_9 rfl rfl (by omega) (by omega) (fun h9 => ?_) (fun h9 => ?_)
    · refine e_iconst dX2_has_16 rfl ?_
      exact e_iret dX2_has_17 rfl (by decide) (eRet_f (by omega) rfl)
    · refine e_iconst dX2_has_12 rfl ?_
      refine e_goto (n := 17) dX2_has_13 rfl ?_
      exact e_iret dX2_has_17 rfl (by decide) (eRet_t (by omega) rfl)
theorem C_X2_distanceFrom {X : eXT} {a : Nat → Nat} {N : Int} {F : eFs} {P : Int → Int} (hF : okF N F) {b x y : Int} (hb : sHas F b) (hx : -20 ≤ x ∧ x ≤ 20) (hy : -20 ≤ y ∧ y ≤ 20) :
    EM X mX2_distanceFrom (eRm 1) a [.ref (a 0), vi b, vi x, vi y] (wFl a F P) (eRet (some (vi (sD F b x y))) a (wFl a F P)) := by
  refine EM.of (by decide +kernel) rfl (Nat.le_of_ble_eq_true rfl) ?_
  have hF0 := hF
  obtain ⟨hc, hld, hled, htn, hgo, hkp, hst, hwt, hcl, hsh, hnx, hN, rx, ry, rh, rm, rc, rw9⟩ := hF
  refine e_aload_n dX2_distanceFrom_0 rfl rfl ?_
  refine e_iload_n dX2_distanceFrom_1 rfl rfl ?_
  refine e_cV0 [0, 1, 2, 3, 4, 5, 6, 7, 8, 9] lk_X2_90 rfl dX2_distanceFrom_2 rfl (C_X2_has hF0 (by omega)) rfl rfl (Nat.le_of_ble_eq_true rfl) (Nat.le_of_ble_eq_true rfl) (Nat.le_of_ble_eq_true rfl) ⟨rfl, rfl⟩ rfl rfl rfl rfl rfl rfl  ?_
  refine e_ifb_eq (t := 34) dX2_distanceFrom_5 rfl rfl (fun h5 => ?_) (fun h5 => ?_)
  · exact absurd hb h5
  · refine e_aload_n dX2_distanceFrom_8 rfl rfl ?_
    refine e_getfield fd_X2_9 dX2_distanceFrom_9 rfl rfl rfl rfl ?_
    refine e_iload_n dX2_distanceFrom_12 rfl rfl ?_
    refine e_ialoadB dX2_distanceFrom_13 rfl rfl rfl (by omega) (by decide) rx ?_
    intro b13
    refine e_iload_n dX2_distanceFrom_14 rfl rfl ?_
    refine e_isub dX2_distanceFrom_15 rfl ?_
    refine e_absA ma_X2_175 dX2_distanceFrom_16 rfl (Nat.le_of_ble_eq_true rfl) (Nat.le_of_ble_eq_true rfl) (by omega) ?_
    intro q16
    refine e_aload_n dX2_distanceFrom_19 rfl rfl ?_
    refine e_getfield fd_X2_15 dX2_distanceFrom_20 rfl rfl rfl rfl ?_
    refine e_iload_n dX2_distanceFrom_23 rfl rfl ?_
    refine e_ialoadB dX2_distanceFrom_24 rfl rfl rfl (by omega) (by decide) ry ?_
    intro b24
    refine e_iload_n dX2_distanceFrom_25 rfl rfl ?_
    refine e_isub dX2_distanceFrom_26 rfl ?_
    refine e_absA ma_X2_175 dX2_distanceFrom_27 rfl (Nat.le_of_ble_eq_true rfl) (Nat.le_of_ble_eq_true rfl) (by omega) ?_
    intro q27
    refine e_iadd dX2_distanceFrom_30 rfl ?_
    refine e_goto (n := 35) dX2_distanceFrom_31 rfl ?_
    exact e_iret dX2_distanceFrom_35 rfl rfl (eRet_i rfl rfl)
theorem C_X2_distanceOf {X : eXT} {a : Nat → Nat} {N : Int} {F : eFs} {P : Int → Int} (hF : okF N F) {b o : Int} (hb : sHas F b) (ho : sHas F o) :
    EM X mX2_distanceOf (eRm 2) a [.ref (a 0), vi b, vi o] (wFl a F P) (eRet (some (vi (sDD F b o))) a (wFl a F P)) := by
  refine EM.of (by decide +kernel) rfl (Nat.le_of_ble_eq_true rfl) ?_
  have hF0 := hF
  obtain ⟨hc, hld, hled, htn, hgo, hkp, hst, hwt, hcl, hsh, hnx, hN, rx, ry, rh, rm, rc, rw9⟩ := hF
  refine e_aload_n dX2_distanceOf_0 rfl rfl ?_
  refine e_iload_n dX2_distanceOf_1 rfl rfl ?_
  refine e_cV0 [0, 1, 2, 3, 4, 5, 6, 7, 8, 9] lk_X2_90 rfl dX2_distanceOf_2 rfl (C_X2_has hF0 (by omega)) rfl rfl (Nat.le_of_ble_eq_true rfl) (Nat.le_of_ble_eq_true rfl) (Nat.le_of_ble_eq_true rfl) ⟨rfl, rfl⟩ rfl rfl rfl rfl rfl rfl  ?_
  refine e_ifb_eq (t := 28) dX2_distanceOf_5 rfl rfl (fun h5 => ?_) (fun h5 => ?_)
  · exact absurd ho h5
  · refine e_aload_n dX2_distanceOf_8 rfl rfl ?_
    refine e_iload_n dX2_distanceOf_9 rfl rfl ?_
    refine e_aload_n dX2_distanceOf_10 rfl rfl ?_
    refine e_getfield fd_X2_9 dX2_distanceOf_11 rfl rfl rfl rfl ?_
    refine e_iload_n dX2_distanceOf_14 rfl rfl ?_
    refine e_ialoadB dX2_distanceOf_15 rfl rfl rfl (by omega) (by decide) rx ?_
    intro b15
    refine e_aload_n dX2_distanceOf_16 rfl rfl ?_
    refine e_getfield fd_X2_15 dX2_distanceOf_17 rfl rfl rfl rfl ?_
    refine e_iload_n dX2_distanceOf_20 rfl rfl ?_
    refine e_ialoadB dX2_distanceOf_21 rfl rfl rfl (by omega) (by decide) ry ?_
    intro b21
    refine e_cV0 [0, 1, 2, 3, 4, 5, 6, 7, 8, 9] lk_X2_149 rfl dX2_distanceOf_22 rfl (C_X2_distanceFrom hF0 (by omega) (by omega) (by omega)) rfl rfl (Nat.le_of_ble_eq_true rfl) (Nat.le_of_ble_eq_true rfl) (Nat.le_of_ble_eq_true rfl) ⟨rfl, rfl⟩ rfl rfl rfl rfl rfl rfl  ?_
    refine e_goto (n := 29) dX2_distanceOf_25 rfl ?_
    exact e_iret dX2_distanceOf_29 rfl rfl (eRet_i rfl rfl)
theorem C_X2_lowestTouched {X : eXT} {a : Nat → Nat} {N : Int} {F : eFs} {P : Int → Int} (hF : okF N F) {m x y : Int} (hm : -2147483648 ≤ m ∧ m ≤ 2147483647) (hx : -20 ≤ x ∧ x ≤ 20) (hy : -20 ≤ y ∧ y ≤ 20) :
    EM X mX2_lowestTouched (eRm 1) a [.ref (a 0), vi m, vi x, vi y] (wFl a F P) (eRet (some (vi (sTo F m x y))) a (wFl a F P)) := by
  refine EM.of (by decide +kernel) rfl (Nat.le_of_ble_eq_true rfl) ?_
  have hF0 := hF
  obtain ⟨hc, hld, hled, htn, hgo, hkp, hst, hwt, hcl, hsh, hnx, hN, rx, ry, rh, rm, rc, rw9⟩ := hF
  refine e_iconst dX2_lowestTouched_0 rfl ?_
  refine f_istore dX2_lowestTouched_1 rfl (Nat.le_of_ble_eq_true rfl) rfl ?_
  have hL3 : ∀ (k3 : Nat) (k : Int) (hk3 : ((F.1 0) - k).toNat = k3) (g3 : 0 ≤ k ∧ k ≤ F.1 0) (e3 : eFB (fun k => ¬ k = m ∧ sD F k x y < 2) (F.1 0) 0 = eFB (fun k => ¬ k = m ∧ sD F k x y < 2) (F.1 0) k) , EV (mX2_lowestTouched, (eRm 1), eRet (some (vi (sTo F m x y))) a (wFl a F P), X) a (0, 0) (wFl a F P) 3 [some (.ref (a 0)), some (vi m), some (vi x), some (vi y), some (vi k)] [] := by
    intro k3
    induction k3 using Nat.strongRecOn with
    | _ k3 ih3 =>
    intro k hk3 g3 e3
    refine e_iload dX2_lowestTouched_3 rfl rfl ?_
    refine e_aload_n dX2_lowestTouched_5 rfl rfl ?_
    refine e_getfield fd_X2_24 dX2_lowestTouched_6 rfl rfl rfl rfl ?_
    refine e_icmp_ge (t := 56) dX2_lowestTouched_9 rfl rfl (by omega) (by omega) (fun h9 => ?_) (fun h9 => ?_)
    · refine e_iconst dX2_lowestTouched_56 rfl ?_
      exact e_iret dX2_lowestTouched_57 rfl rfl (eRet_i ((e3.trans (eFB_end (by omega)))).symm rfl)
    · refine e_iload dX2_lowestTouched_12 rfl rfl ?_
      refine e_iload_n dX2_lowestTouched_14 rfl rfl ?_
      refine e_icmp_eq (t := 50) dX2_lowestTouched_15 rfl rfl (by omega) (by omega) (fun h15 => ?_) (fun h15 => ?_)
      · refine f_iinc dX2_lowestTouched_50 rfl rfl (Nat.le_of_ble_eq_true rfl) rfl ?_
        refine e_goto (n := 3) dX2_lowestTouched_53 rfl ?_
        exact ih3 _ (by omega) (k + 1) rfl (by omega) (e3.trans (eFB_go (by omega) (by first | omega | (simp only [sD]; omega)))) 
      · refine e_aload_n dX2_lowestTouched_18 rfl rfl ?_
        refine e_getfield fd_X2_9 dX2_lowestTouched_19 rfl rfl rfl rfl ?_
        refine e_iload dX2_lowestTouched_22 rfl rfl ?_
        refine e_ialoadB dX2_lowestTouched_24 rfl rfl rfl (by omega) (by decide) rx ?_
        intro b24
        refine e_iload_n dX2_lowestTouched_25 rfl rfl ?_
        refine e_isub dX2_lowestTouched_26 rfl ?_
        refine e_absA ma_X2_175 dX2_lowestTouched_27 rfl (Nat.le_of_ble_eq_true rfl) (Nat.le_of_ble_eq_true rfl) (by omega) ?_
        intro q27
        refine e_aload_n dX2_lowestTouched_30 rfl rfl ?_
        refine e_getfield fd_X2_15 dX2_lowestTouched_31 rfl rfl rfl rfl ?_
        refine e_iload dX2_lowestTouched_34 rfl rfl ?_
        refine e_ialoadB dX2_lowestTouched_36 rfl rfl rfl (by omega) (by decide) ry ?_
        intro b36
        refine e_iload_n dX2_lowestTouched_37 rfl rfl ?_
        refine e_isub dX2_lowestTouched_38 rfl ?_
        refine e_absA ma_X2_175 dX2_lowestTouched_39 rfl (Nat.le_of_ble_eq_true rfl) (Nat.le_of_ble_eq_true rfl) (by omega) ?_
        intro q39
        refine e_iadd dX2_lowestTouched_42 rfl ?_
        refine e_iconst dX2_lowestTouched_43 rfl ?_
        refine e_icmp_ge (t := 50) dX2_lowestTouched_44 rfl rfl (by omega) (by omega) (fun h44 => ?_) (fun h44 => ?_)
        · refine f_iinc dX2_lowestTouched_50 rfl rfl (Nat.le_of_ble_eq_true rfl) rfl ?_
          refine e_goto (n := 3) dX2_lowestTouched_53 rfl ?_
          exact ih3 _ (by omega) (k + 1) rfl (by omega) (e3.trans (eFB_go (by omega) (by first | omega | (simp only [sD]; omega)))) 
        · refine e_iload dX2_lowestTouched_47 rfl rfl ?_
          exact e_iret dX2_lowestTouched_49 rfl rfl (eRet_i ((e3.trans (eFB_hit (by omega) (by first | omega | (simp only [sD]; omega))))).symm rfl)
  exact hL3 _ 0 rfl (by omega) rfl 
theorem C_X2_basketIn {X : eXT} {a : Nat → Nat} {N : Int} {F : eFs} {P : Int → Int} (hF : okF N F) {x y : Int} (hx : -20 ≤ x ∧ x ≤ 20) (hy : -20 ≤ y ∧ y ≤ 20) :
    EM X mX2_basketIn (eRm 0) a [.ref (a 0), vi x, vi y] (wFl a F P) (eRet (some (vi (sAt F x y))) a (wFl a F P)) := by
  refine EM.of (by decide +kernel) rfl (Nat.le_of_ble_eq_true rfl) ?_
  have hF0 := hF
  obtain ⟨hc, hld, hled, htn, hgo, hkp, hst, hwt, hcl, hsh, hnx, hN, rx, ry, rh, rm, rc, rw9⟩ := hF
  refine e_iconst dX2_basketIn_0 rfl ?_
  refine f_istore_n dX2_basketIn_1 rfl (Nat.le_of_ble_eq_true rfl) rfl ?_
  have hL2 : ∀ (k2 : Nat) (k : Int) (hk2 : ((F.1 0) - k).toNat = k2) (g2 : 0 ≤ k ∧ k ≤ F.1 0) (e2 : eFB (fun k => F.2 0 k = x ∧ F.2 1 k = y) (F.1 0) 0 = eFB (fun k => F.2 0 k = x ∧ F.2 1 k = y) (F.1 0) k) , EV (mX2_basketIn, (eRm 0), eRet (some (vi (sAt F x y))) a (wFl a F P), X) a (0, 0) (wFl a F P) 2 [some (.ref (a 0)), some (vi x), some (vi y), some (vi k)] [] := by
    intro k2
    induction k2 using Nat.strongRecOn with
    | _ k2 ih2 =>
    intro k hk2 g2 e2
    refine e_iload_n dX2_basketIn_2 rfl rfl ?_
    refine e_aload_n dX2_basketIn_3 rfl rfl ?_
    refine e_getfield fd_X2_24 dX2_basketIn_4 rfl rfl rfl rfl ?_
    refine e_icmp_ge (t := 38) dX2_basketIn_7 rfl rfl (by omega) (by omega) (fun h7 => ?_) (fun h7 => ?_)
    · refine e_iconst dX2_basketIn_38 rfl ?_
      exact e_iret dX2_basketIn_39 rfl rfl (eRet_i ((e2.trans (eFB_end (by omega)))).symm rfl)
    · refine e_aload_n dX2_basketIn_10 rfl rfl ?_
      refine e_getfield fd_X2_9 dX2_basketIn_11 rfl rfl rfl rfl ?_
      refine e_iload_n dX2_basketIn_14 rfl rfl ?_
      refine e_ialoadB dX2_basketIn_15 rfl rfl rfl (by omega) (by decide) rx ?_
      intro b15
      refine e_iload_n dX2_basketIn_16 rfl rfl ?_
      refine e_icmp_ne (t := 32) dX2_basketIn_17 rfl rfl (by omega) (by omega) (fun h17 => ?_) (fun h17 => ?_)
      · refine f_iinc dX2_basketIn_32 rfl rfl (Nat.le_of_ble_eq_true rfl) rfl ?_
        refine e_goto (n := 2) dX2_basketIn_35 rfl ?_
        exact ih2 _ (by omega) (k + 1) rfl (by omega) (e2.trans (eFB_go (by omega) (by omega))) 
      · refine e_aload_n dX2_basketIn_20 rfl rfl ?_
        refine e_getfield fd_X2_15 dX2_basketIn_21 rfl rfl rfl rfl ?_
        refine e_iload_n dX2_basketIn_24 rfl rfl ?_
        refine e_ialoadB dX2_basketIn_25 rfl rfl rfl (by omega) (by decide) ry ?_
        intro b25
        refine e_iload_n dX2_basketIn_26 rfl rfl ?_
        refine e_icmp_ne (t := 32) dX2_basketIn_27 rfl rfl (by omega) (by omega) (fun h27 => ?_) (fun h27 => ?_)
        · refine f_iinc dX2_basketIn_32 rfl rfl (Nat.le_of_ble_eq_true rfl) rfl ?_
          refine e_goto (n := 2) dX2_basketIn_35 rfl ?_
          exact ih2 _ (by omega) (k + 1) rfl (by omega) (e2.trans (eFB_go (by omega) (by omega))) 
        · refine e_iload_n dX2_basketIn_30 rfl rfl ?_
          exact e_iret dX2_basketIn_31 rfl rfl (eRet_i ((e2.trans (eFB_hit (by omega) (by omega)))).symm rfl)
  exact hL2 _ 0 rfl (by omega) rfl 
theorem C_X2_isPossible {X : eXT} {a : Nat → Nat} {N : Int} {F : eFs} {P : Int → Int} (hF : okF N F) {m x y : Int} (hm : -2147483648 ≤ m ∧ m ≤ 2147483647) (hx : -20 ≤ x ∧ x ≤ 20) (hy : -20 ≤ y ∧ y ≤ 20) :
    EM X mX2_isPossible (eRm 2) a [.ref (a 0), vi m, vi x, vi y] (wFl a F P) (eRet (some (vb (sPos F m x y))) a (wFl a F P)) := by
  refine EM.of (by decide +kernel) rfl (Nat.le_of_ble_eq_true rfl) ?_
  have hF0 := hF
  obtain ⟨hc, hld, hled, htn, hgo, hkp, hst, hwt, hcl, hsh, hnx, hN, rx, ry, rh, rm, rc, rw9⟩ := hF
  have tin := sTo_in (F := F) (m := m) (x := x) (y := y)
  refine e_iload_n dX2_isPossible_0 rfl rfl ?_
  refine e_iload_n dX2_isPossible_1 rfl rfl ?_
  refine e_cS0 [] lk_X2_107 rfl dX2_isPossible_2 rfl (C_X0_inSky (by omega) (by omega)) rfl rfl (Nat.le_of_ble_eq_true rfl) (Nat.le_of_ble_eq_true rfl) (Nat.le_of_ble_eq_true rfl) ⟨rfl, rfl⟩ rfl rfl  ?_
  refine e_ifb_eq (t := 35) dX2_isPossible_5 rfl rfl (fun h5 => ?_) (fun h5 => ?_)
  · refine e_iconst dX2_isPossible_35 rfl ?_
    exact e_iret dX2_isPossible_36 rfl (by decide) (eRet_f (by first | exact fun q => h5 q.1 | exact fun q => q.2.1 h17 | exact fun q => h28 q.2.2 | exact ⟨h5, h17, Decidable.not_not.mp h28⟩) rfl)
  · refine e_aload_n dX2_isPossible_8 rfl rfl ?_
    refine e_getfield fd_X2_31 dX2_isPossible_9 rfl rfl rfl rfl ?_
    refine e_iload_n dX2_isPossible_12 rfl rfl ?_
    refine e_iload_n dX2_isPossible_13 rfl rfl ?_
    refine e_cV0 [5, 6] lk_X2_116 rfl dX2_isPossible_14 rfl (C_X0_covers (by omega) (by omega)) rfl rfl (Nat.le_of_ble_eq_true rfl) (Nat.le_of_ble_eq_true rfl) (Nat.le_of_ble_eq_true rfl) ⟨rfl, rfl⟩ rfl rfl rfl rfl rfl rfl  ?_
    refine e_ifb_ne (t := 35) dX2_isPossible_17 rfl rfl (fun h17 => ?_) (fun h17 => ?_)
    · refine e_iconst dX2_isPossible_35 rfl ?_
      exact e_iret dX2_isPossible_36 rfl (by decide) (eRet_f (by first | exact fun q => h5 q.1 | exact fun q => q.2.1 h17 | exact fun q => h28 q.2.2 | exact ⟨h5, h17, Decidable.not_not.mp h28⟩) rfl)
    · refine e_aload_n dX2_isPossible_20 rfl rfl ?_
      refine e_iload_n dX2_isPossible_21 rfl rfl ?_
      refine e_iload_n dX2_isPossible_22 rfl rfl ?_
      refine e_iload_n dX2_isPossible_23 rfl rfl ?_
      refine e_cV0 [0, 1, 2, 3, 4, 5, 6, 7, 8, 9] lk_X2_193 rfl dX2_isPossible_24 rfl (C_X2_lowestTouched hF0 (by omega) (by omega) (by omega)) rfl rfl (Nat.le_of_ble_eq_true rfl) (Nat.le_of_ble_eq_true rfl) (Nat.le_of_ble_eq_true rfl) ⟨rfl, rfl⟩ rfl rfl rfl rfl rfl rfl  ?_
      refine e_iconst dX2_isPossible_27 rfl ?_
      refine e_icmp_ne (t := 35) dX2_isPossible_28 rfl rfl (by omega) (by omega) (fun h28 => ?_) (fun h28 => ?_)
      · refine e_iconst dX2_isPossible_35 rfl ?_
        exact e_iret dX2_isPossible_36 rfl (by decide) (eRet_f (by first | exact fun q => h5 q.1 | exact fun q => q.2.1 h17 | exact fun q => h28 q.2.2 | exact ⟨h5, h17, Decidable.not_not.mp h28⟩) rfl)
      · refine e_iconst dX2_isPossible_31 rfl ?_
        refine e_goto (n := 36) dX2_isPossible_32 rfl ?_
        exact e_iret dX2_isPossible_36 rfl (by decide) (eRet_t (by first | exact fun q => h5 q.1 | exact fun q => q.2.1 h17 | exact fun q => h28 q.2.2 | exact ⟨h5, h17, Decidable.not_not.mp h28⟩) rfl)
theorem C_X2_isApartAndClear {X : eXT} {a : Nat → Nat} {N : Int} {F : eFs} {P : Int → Int} (hF : okF N F)  :
    EM X mX2_isApartAndClear (eRm 3) a [.ref (a 0)] (wFl a F P) (eRet (some (vb (sClr F = -1))) a (wFl a F P)) := by
  refine EM.of (by decide +kernel) rfl (Nat.le_of_ble_eq_true rfl) ?_
  have hF0 := hF
  obtain ⟨hc, hld, hled, htn, hgo, hkp, hst, hwt, hcl, hsh, hnx, hN, rx, ry, rh, rm, rc, rw9⟩ := hF
  refine e_iconst dX2_isApartAndClear_0 rfl ?_
  refine f_istore_n dX2_isApartAndClear_1 rfl (Nat.le_of_ble_eq_true rfl) rfl ?_
  have hL2 : ∀ (k2 : Nat) (k : Int) (hk2 : ((F.1 0) - k).toNat = k2) (g2 : 0 ≤ k ∧ k ≤ F.1 0) (e2 : eFB (fun k => ¬ sPos F k (F.2 0 k) (F.2 1 k)) (F.1 0) 0 = eFB (fun k => ¬ sPos F k (F.2 0 k) (F.2 1 k)) (F.1 0) k) , EV (mX2_isApartAndClear, (eRm 3), eRet (some (vb (sClr F = -1))) a (wFl a F P), X) a (0, 0) (wFl a F P) 2 [some (.ref (a 0)), some (vi k)] [] := by
    intro k2
    induction k2 using Nat.strongRecOn with
    | _ k2 ih2 =>
    intro k hk2 g2 e2
    refine e_iload_n dX2_isApartAndClear_2 rfl rfl ?_
    refine e_aload_n dX2_isApartAndClear_3 rfl rfl ?_
    refine e_getfield fd_X2_24 dX2_isApartAndClear_4 rfl rfl rfl rfl ?_
    refine e_icmp_ge (t := 38) dX2_isApartAndClear_7 rfl rfl (by omega) (by omega) (fun h7 => ?_) (fun h7 => ?_)
    · refine e_iconst dX2_isApartAndClear_38 rfl ?_
      exact e_iret dX2_isApartAndClear_39 rfl (by decide) (eRet_t (e2.trans (eFB_end (by omega))) rfl)
    · refine e_aload_n dX2_isApartAndClear_10 rfl rfl ?_
      refine e_iload_n dX2_isApartAndClear_11 rfl rfl ?_
      refine e_aload_n dX2_isApartAndClear_12 rfl rfl ?_
      refine e_getfield fd_X2_9 dX2_isApartAndClear_13 rfl rfl rfl rfl ?_
      refine e_iload_n dX2_isApartAndClear_16 rfl rfl ?_
      refine e_ialoadB dX2_isApartAndClear_17 rfl rfl rfl (by omega) (by decide) rx ?_
      intro b17
      refine e_aload_n dX2_isApartAndClear_18 rfl rfl ?_
      refine e_getfield fd_X2_15 dX2_isApartAndClear_19 rfl rfl rfl rfl ?_
      refine e_iload_n dX2_isApartAndClear_22 rfl rfl ?_
      refine e_ialoadB dX2_isApartAndClear_23 rfl rfl rfl (by omega) (by decide) ry ?_
      intro b23
      refine e_cV0 [0, 1, 2, 3, 4, 5, 6, 7, 8, 9] lk_X2_111 rfl dX2_isApartAndClear_24 rfl (C_X2_isPossible hF0 (by omega) (by omega) (by omega)) rfl rfl (Nat.le_of_ble_eq_true rfl) (Nat.le_of_ble_eq_true rfl) (Nat.le_of_ble_eq_true rfl) ⟨rfl, rfl⟩ rfl rfl rfl rfl rfl rfl  ?_
      refine e_ifb_ne (t := 32) dX2_isApartAndClear_27 rfl rfl (fun h27 => ?_) (fun h27 => ?_)
      · refine f_iinc dX2_isApartAndClear_32 rfl rfl (Nat.le_of_ble_eq_true rfl) rfl ?_
        refine e_goto (n := 2) dX2_isApartAndClear_35 rfl ?_
        exact ih2 _ (by omega) (k + 1) rfl (by omega) (e2.trans (eFB_go (by omega) (fun q => q h27))) 
      · refine e_iconst dX2_isApartAndClear_30 rfl ?_
        exact e_iret dX2_isApartAndClear_31 rfl (by decide) (eRet_f (fun q => by have z := (e2.trans (eFB_hit (by omega) h27)); unfold sClr at q; omega) rfl)
  exact hL2 _ 0 rfl (by omega) rfl 
theorem C_X2_hasTarget {X : eXT} {a : Nat → Nat} {N : Int} {F : eFs} {P : Int → Int} (hF : okF N F)  :
    EM X mX2_hasTarget (eRm 0) a [.ref (a 0)] (wFl a F P) (eRet (some (vb (¬ F.1 4 = -1))) a (wFl a F P)) := by
  refine EM.of (by decide +kernel) rfl (Nat.le_of_ble_eq_true rfl) ?_
  have hF0 := hF
  obtain ⟨hc, hld, hled, htn, hgo, hkp, hst, hwt, hcl, hsh, hnx, hN, rx, ry, rh, rm, rc, rw9⟩ := hF
  refine e_aload_n dX2_hasTarget_0 rfl rfl ?_
  refine e_getfield fd_X2_55 dX2_hasTarget_1 rfl rfl rfl rfl ?_
  refine e_iconst dX2_hasTarget_4 rfl ?_
  refine e_icmp_eq (t := 12) dX2_hasTarget_5 rfl rfl (by omega) (by omega) (fun h5 => ?_) (fun h5 => ?_)
  · refine e_iconst dX2_hasTarget_12 rfl ?_
    exact e_iret dX2_hasTarget_13 rfl (by decide) (eRet_f (by omega) rfl)
  · refine e_iconst dX2_hasTarget_8 rfl ?_
    refine e_goto (n := 13) dX2_hasTarget_9 rfl ?_
    exact e_iret dX2_hasTarget_13 rfl (by decide) (eRet_t (by omega) rfl)
theorem C_X2_linked {X : eXT} {a : Nat → Nat} {N : Int} {F : eFs} {P : Int → Int} (hF : okF N F) {b o : Int} (hb : sHas F b) (ho : sHas F o) :
    EM X mX2_linked (eRm 3) a [.ref (a 0), vi b, vi o] (wFl a F P) (eRet (some (vb (sDD F b o ≤ F.1 6))) a (wFl a F P)) := by
  refine EM.of (by decide +kernel) rfl (Nat.le_of_ble_eq_true rfl) ?_
  have hF0 := hF
  obtain ⟨hc, hld, hled, htn, hgo, hkp, hst, hwt, hcl, hsh, hnx, hN, rx, ry, rh, rm, rc, rw9⟩ := hF
  have q1 := eAbs_or (F.2 0 b - F.2 0 o)
  have q2 := eAbs_or (F.2 1 b - F.2 1 o)
  have b1 := rx b
  have b2 := rx o
  have b3 := ry b
  have b4 := ry o
  refine e_aload_n dX2_linked_0 rfl rfl ?_
  refine e_iload_n dX2_linked_1 rfl rfl ?_
  refine e_iload_n dX2_linked_2 rfl rfl ?_
  refine e_cV0 [0, 1, 2, 3, 4, 5, 6, 7, 8, 9] lk_X2_183 rfl dX2_linked_3 rfl (C_X2_distanceOf hF0 (by omega) (by omega)) rfl rfl (Nat.le_of_ble_eq_true rfl) (Nat.le_of_ble_eq_true rfl) (Nat.le_of_ble_eq_true rfl) ⟨rfl, rfl⟩ rfl rfl rfl rfl rfl rfl  ?_
  refine e_aload_n dX2_linked_6 rfl rfl ?_
  refine e_getfield fd_X2_61 dX2_linked_7 rfl rfl rfl rfl ?_
  refine e_icmp_gt (t := 17) dX2_linked_10 rfl rfl (by first | omega | (simp only [sDD, sD]; omega)) (by first | omega | (simp only [sDD, sD]; omega)) (fun h10 => ?_) (fun h10 => ?_)
  · refine e_iconst dX2_linked_17 rfl ?_
    exact e_iret dX2_linked_18 rfl (by decide) (eRet_f (by omega) rfl)
  · refine e_iconst dX2_linked_13 rfl ?_
    refine e_goto (n := 18) dX2_linked_14 rfl ?_
    exact e_iret dX2_linked_18 rfl (by decide) (eRet_t (by omega) rfl)
