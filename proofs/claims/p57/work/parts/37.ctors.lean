/-! ===== EV: constructors ===== -/
def eRn (d k s : Nat) : Room := ⟨d, k, s, 60 * d⟩
/-- an object and what it is made of stand there -/
def eNewQ (a : Nat → Nat) (W : (Nat → Nat) → List eE) : ePo := fun o a1 cs1 => o = .inl none ∧ a1 0 = a 0 ∧ cs1 = W a1
theorem eAd_1 {a : Nat → Nat} {c : eE} : ∀ k, k < [c].length → a k = eAd [a 0] k := by
  intro k hk
  have : k = 0 := Nat.lt_one_iff.mp hk
  subst this
  rfl
theorem eAd_lt {qs ps : List Nat} {k : Nat} (h : k < qs.length) : eAd (qs ++ ps) k = eAd qs k := by simp [eAd, List.getD, List.getElem?_append_left h]
theorem eAd_ge {qs ps : List Nat} {k : Nat} : eAd (qs ++ ps) (qs.length + k) = eAd ps k := by simp [eAd, List.getD, List.getElem?_append_right]
section EVN
variable {K : eK} {b b' : Nat × Nat} {cs : List eE} {pc n : Nat} {ls : List (Option Value)} {st rest : List Value} {M1 : mE} {R1 : Room}
theorem e_ctor {qs : List Nat} {idx q k : Nat} {c0 : eE} {W : (Nat → Nat) → List eE} (hw : eLkN K.1.1.cls idx M1 0) (hh : M1.2.2.2.2 = []) (hrt : M1.2.2.2.1 = none) (d : decode K.1.2.1 pc = .ok (.invokespecial idx, 3)) (hn : pc + 3 = n)
    (hM : ∀ a0 : Nat → Nat, EM (K.2.2.2.1, none) M1 R1 a0 [.ref (a0 0)] [c0] (eNewQ a0 W)) (hk : ∀ a1, (W a1).length = k + 1) (hst : st = .ref q :: rest) (hl : qs.length = cs.length) (hcat : (rest.map fun v => v.category).sum ≤ 8)
    (hfr : R1.frames + 1 ≤ K.2.1.frames) (hlo : 8 + (M1.2.2.1 + 11) + R1.locals ≤ K.2.1.locals) (b' : Nat × Nat) (hb : R1.cells + b'.1 ≤ b.1 ∧ R1.slots + b'.2 ≤ b.2)
    (kk : ∀ a1 : Nat → Nat, a1 0 = q → EV K (eAd (qs ++ (q :: (List.range k).map (fun i => a1 (1 + i))))) b' (cs ++ W a1) n ls rest) : EV K (eAd (qs ++ [q])) b (cs ++ [c0]) pc ls st := by
  have hq : eAd (qs ++ [q]) (eR [cs.length] 0) = q := by
    show eAd (qs ++ [q]) cs.length = q
    rw [← hl, show qs.length = qs.length + 0 from rfl, eAd_ge]; rfl
  have hM2 := hM (fun k => eAd (qs ++ [q]) (eR [cs.length] k))
  simp only [hq] at hM2
  refine e_invN (ρ := [cs.length]) (cs0 := [c0]) (av := []) (rest := rest) (q := q) hw hh hrt d hn hM2 hst rfl hcat hfr hlo b' hb (by simp) (by simp [va_nd]) (fun o a1 cs1 h => ?_) (fun v a1 cs1 h => ?_) (fun E a1 cs1 h => by cases h.1)
  · obtain ⟨-, h2, h3⟩ := h
    refine ⟨fun k hk => ?_, ?_⟩
    · have : k = 0 := Nat.lt_one_iff.mp hk
      subst this
      exact h2
    · rw [h3, hk]; show 1 ≤ k + 1; omega
  · obtain ⟨h1, h2, h3⟩ := h
    cases h1
    subst h3
    have h0 : a1 0 = q := h2.trans hq
    have hx : ∃ x t, W a1 = x :: t := by
      cases hW : W a1 with
      | nil => have := hk a1; rw [hW] at this; cases this
      | cons x t => exact ⟨x, t, rfl⟩
    obtain ⟨x, t, hW⟩ := hx
    have hlt : t.length = k := by have := hk a1; rw [hW] at this; simpa using this
    have e1 : eMrg (cs ++ [c0]) [cs.length] (W a1) ++ (W a1).drop [cs.length].length = cs ++ W a1 := by
      rw [hW]
      show (cs ++ [c0]).set cs.length x ++ t = cs ++ x :: t
      rw [List.set_append_right _ _ (Nat.le_refl _)]
      simp
    rw [e1]
    refine EV.cong (fun j hj => ?_) (kk a1 h0)
    show (if j < (cs ++ [c0]).length then eAd (qs ++ [q]) j else a1 (1 + (j - (cs ++ [c0]).length))) = _
    have hj2 : j < cs.length + (k + 1) := by rw [List.length_append, hk] at hj; exact hj
    by_cases c : j < (cs ++ [c0]).length
    · rw [if_pos c, show qs ++ (q :: (List.range k).map (fun i => a1 (1 + i))) = (qs ++ [q]) ++ (List.range k).map (fun i => a1 (1 + i)) by simp]
      rw [eAd_lt (ps := (List.range k).map (fun i => a1 (1 + i))) (by simp at c ⊢; omega)]
    · rw [if_neg c, show qs ++ (q :: (List.range k).map (fun i => a1 (1 + i))) = (qs ++ [q]) ++ (List.range k).map (fun i => a1 (1 + i)) by simp]
      have e : j = (qs ++ [q]).length + (j - (cs ++ [c0]).length) := by simp at c ⊢; omega
      have e2 : eAd ((qs ++ [q]) ++ (List.range k).map (fun i => a1 (1 + i))) j = eAd ((List.range k).map (fun i => a1 (1 + i))) (j - (cs ++ [c0]).length) := by
        conv => lhs; rw [e]
        exact eAd_ge
      rw [e2]
      simp only [eAd, List.getD, List.getElem?_map]
      have hr : j - (cs.length + 1) < k := by simp at c; omega
      simp [hr]
end EVN
theorem eNw_i {N : Nat} (cA : ClassId) : vp_cell cA (N, .inl (fun j : Nat => Int32.ofInt ((fun _ => (0 : Int)) (j : Int)))) = arrV cA N (fun _ => defaultValue .int) := by rw [vp_cell_i]; rfl
theorem eNw_c {N : Nat} (cA : ClassId) : vp_cell cA (N, .inl (fun j : Nat => Int32.ofInt ((fun _ => (0 : Int)) (j : Int)))) = arrV cA N (fun _ => defaultValue .char) := by rw [vp_cell_i]; rfl
theorem eNw_l {N : Nat} (cA : ClassId) : vp_cell cA (N, .inr (.inl (fun j : Nat => Int64.ofInt ((fun _ => (0 : Int)) (j : Int))))) = arrV cA N (fun _ => defaultValue .long) := by rw [vp_cell_l]; rfl
/-- a new flock -/
def sF0 : eFs := (fun j => if j = 3 then 4 else if j = 4 then -1 else if j = 5 then -1 else if j = 6 then 3 else 0, fun _ _ => 0)

theorem C_X0_init {X : eXT} {a : Nat → Nat} : EM X mX0_init (eRn 1 1 12) a [.ref (a 0)] [.inr (0, [.null, vi 0])] (eNewQ a (fun a1 => wCl a1 0 (fun _ => 0))) := by
  refine EM.of (by decide +kernel) rfl (Nat.le_of_ble_eq_true rfl) ?_
  refine EV.cong eAd_1 ?_
  refine e_aload_n dX0_init_0 rfl rfl ?_
  refine e_objInit wd_1_49 wd_1_36 wd_1_37 dX0_init_1 rfl (Nat.le_of_ble_eq_true rfl) (Nat.le_of_ble_eq_true rfl) ?_
  refine e_aload_n dX0_init_4 rfl rfl ?_
  refine e_bipush dX0_init_5 rfl rfl ?_
  refine EV.ceq (cs' := [.inr (0, [.null, vi 0])]) rfl ?_
  refine e_newarray (qs := [a 0]) (cs := [.inr (0, [.null, vi 0])]) (ar := .int) (ty := .int) (t := 0) (N := 12) (x := (12, .inl (fun j : Nat => Int32.ofInt ((fun _ => (0 : Int)) (j : Int))))) wd_1_59 rfl rfl (fun C h => by cases h) (fun cA => eNw_i cA) dX0_init_7 rfl (Nat.le_of_ble_eq_true rfl) (Nat.le_of_ble_eq_true rfl) rfl (0, 0) ⟨(Nat.le_of_ble_eq_true rfl), (Nat.le_of_ble_eq_true rfl)⟩ ?_
  intro x1
  refine e_putfieldF (i := 0) fd_X0_9 dX0_init_9 rfl rfl rfl rfl rfl (Nat.le_of_ble_eq_true rfl) rfl rfl ?_
  refine e_aload_n dX0_init_12 rfl rfl ?_
  refine e_iconst dX0_init_13 rfl ?_
  refine e_putfield (i := 0) fd_X0_15 dX0_init_14 rfl rfl rfl (Nat.le_of_ble_eq_true rfl) rfl rfl ?_
  refine EV.ceq (cs' := wCl (eAd [a 0, x1]) 0 (fun _ => 0)) rfl ?_
  exact e_vret dX0_init_17 rfl ⟨rfl, rfl, rfl⟩

theorem C_X5_init {X : eXT} {a : Nat → Nat} : EM X mX5_init (eRn 1 1 48) a [.ref (a 0)] [.inr (5, [.null, vi 0, vi 0])] (eNewQ a (fun a1 => wSh a1 0 0 (fun _ => 0))) := by
  refine EM.of (by decide +kernel) rfl (Nat.le_of_ble_eq_true rfl) ?_
  refine EV.cong eAd_1 ?_
  refine e_aload_n dX5_init_0 rfl rfl ?_
  refine e_objInit wd_1_65 wd_1_36 wd_1_37 dX5_init_1 rfl (Nat.le_of_ble_eq_true rfl) (Nat.le_of_ble_eq_true rfl) ?_
  refine e_aload_n dX5_init_4 rfl rfl ?_
  refine e_bipush dX5_init_5 rfl rfl ?_
  refine EV.ceq (cs' := [.inr (5, [.null, vi 0, vi 0])]) rfl ?_
  refine e_newarray (qs := [a 0]) (cs := [.inr (5, [.null, vi 0, vi 0])]) (ar := .long) (ty := .long) (t := 1) (N := 48) (x := (48, .inr (.inl (fun j : Nat => Int64.ofInt ((fun _ => (0 : Int)) (j : Int)))))) wd_1_77 rfl rfl (fun C h => by cases h) (fun cA => eNw_l cA) dX5_init_7 rfl (Nat.le_of_ble_eq_true rfl) (Nat.le_of_ble_eq_true rfl) rfl (0, 0) ⟨(Nat.le_of_ble_eq_true rfl), (Nat.le_of_ble_eq_true rfl)⟩ ?_
  intro x1
  refine e_putfieldF (i := 0) fd_X5_11 dX5_init_9 rfl rfl rfl rfl rfl (Nat.le_of_ble_eq_true rfl) rfl rfl ?_
  refine e_aload_n dX5_init_12 rfl rfl ?_
  refine e_iconst dX5_init_13 rfl ?_
  refine e_putfield (i := 0) fd_X5_15 dX5_init_14 rfl rfl rfl (Nat.le_of_ble_eq_true rfl) rfl rfl ?_
  refine e_aload_n dX5_init_17 rfl rfl ?_
  refine e_iconst dX5_init_18 rfl ?_
  refine e_putfield (i := 0) fd_X5_19 dX5_init_19 rfl rfl rfl (Nat.le_of_ble_eq_true rfl) rfl rfl ?_
  refine EV.ceq (cs' := wSh (eAd [a 0, x1]) 0 0 (fun _ => 0)) rfl ?_
  exact e_vret dX5_init_22 rfl ⟨rfl, rfl, rfl⟩

theorem C_X3_init {X : eXT} {a : Nat → Nat} : EM X mX3_init (eRn 1 2 20) a [.ref (a 0)] [.inr (3, [.null, .null])] (eNewQ a (fun a1 => [.inr (3, [.ref (a1 1), .ref (a1 2)]), eI 0 10 (fun _ => 0), eI 0 10 (fun _ => 0)])) := by
  refine EM.of (by decide +kernel) rfl (Nat.le_of_ble_eq_true rfl) ?_
  refine EV.cong eAd_1 ?_
  refine e_aload_n dX3_init_0 rfl rfl ?_
  refine e_objInit wd_1_162 wd_1_36 wd_1_37 dX3_init_1 rfl (Nat.le_of_ble_eq_true rfl) (Nat.le_of_ble_eq_true rfl) ?_
  refine e_aload_n dX3_init_4 rfl rfl ?_
  refine e_bipush dX3_init_5 rfl rfl ?_
  refine EV.ceq (cs' := [.inr (3, [.null, .null])]) rfl ?_
  refine e_newarray (qs := [a 0]) (cs := [.inr (3, [.null, .null])]) (ar := .int) (ty := .int) (t := 0) (N := 10) (x := (10, .inl (fun j : Nat => Int32.ofInt ((fun _ => (0 : Int)) (j : Int))))) wd_1_59 rfl rfl (fun C h => by cases h) (fun cA => eNw_i cA) dX3_init_7 rfl (Nat.le_of_ble_eq_true rfl) (Nat.le_of_ble_eq_true rfl) rfl (1, 10) ⟨(Nat.le_of_ble_eq_true rfl), (Nat.le_of_ble_eq_true rfl)⟩ ?_
  intro x1
  refine e_putfieldF (i := 0) fd_X3_9 dX3_init_9 rfl rfl rfl rfl rfl (Nat.le_of_ble_eq_true rfl) rfl rfl ?_
  refine e_aload_n dX3_init_12 rfl rfl ?_
  refine e_bipush dX3_init_13 rfl rfl ?_
  refine EV.ceq (cs' := [.inr (3, [.ref x1, .null]), eI 0 10 (fun _ => 0)]) rfl ?_
  refine e_newarray (qs := [a 0, x1]) (cs := [.inr (3, [.ref x1, .null]), eI 0 10 (fun _ => 0)]) (ar := .int) (ty := .int) (t := 0) (N := 10) (x := (10, .inl (fun j : Nat => Int32.ofInt ((fun _ => (0 : Int)) (j : Int))))) wd_1_59 rfl rfl (fun C h => by cases h) (fun cA => eNw_i cA) dX3_init_15 rfl (Nat.le_of_ble_eq_true rfl) (Nat.le_of_ble_eq_true rfl) rfl (0, 0) ⟨(Nat.le_of_ble_eq_true rfl), (Nat.le_of_ble_eq_true rfl)⟩ ?_
  intro x2
  refine e_putfieldF (i := 0) fd_X3_15 dX3_init_17 rfl rfl rfl rfl rfl (Nat.le_of_ble_eq_true rfl) rfl rfl ?_
  refine EV.ceq (cs' := [.inr (3, [.ref ((eAd [a 0, x1, x2]) 1), .ref ((eAd [a 0, x1, x2]) 2)]), eI 0 10 (fun _ => 0), eI 0 10 (fun _ => 0)]) rfl ?_
  exact e_vret dX3_init_20 rfl ⟨rfl, rfl, rfl⟩

theorem C_X2_init {X : eXT} {a : Nat → Nat} : EM X mX2_init (eRn 2 9 108) a [.ref (a 0)] [.inr (2, [.null, .null, .null, .null, vi 0, .null, .null, .null, vi 0, vi 0, vi 0, vi 0, vi 0, vi 0, vi 0, vi 0])] (eNewQ a (fun a1 => wFl a1 sF0 (fun _ => 0))) := by
  refine EM.of (by decide +kernel) rfl (Nat.le_of_ble_eq_true rfl) ?_
  refine EV.cong eAd_1 ?_
  refine e_aload_n dX2_init_0 rfl rfl ?_
  refine e_objInit wd_1_43 wd_1_36 wd_1_37 dX2_init_1 rfl (Nat.le_of_ble_eq_true rfl) (Nat.le_of_ble_eq_true rfl) ?_
  refine e_aload_n dX2_init_4 rfl rfl ?_
  refine e_bipush dX2_init_5 rfl rfl ?_
  refine EV.ceq (cs' := [.inr (2, [.null, .null, .null, .null, vi 0, .null, .null, .null, vi 0, vi 0, vi 0, vi 0, vi 0, vi 0, vi 0, vi 0])]) rfl ?_
  refine e_newarray (qs := [a 0]) (cs := [.inr (2, [.null, .null, .null, .null, vi 0, .null, .null, .null, vi 0, vi 0, vi 0, vi 0, vi 0, vi 0, vi 0, vi 0])]) (ar := .int) (ty := .int) (t := 0) (N := 10) (x := (10, .inl (fun j : Nat => Int32.ofInt ((fun _ => (0 : Int)) (j : Int))))) wd_1_59 rfl rfl (fun C h => by cases h) (fun cA => eNw_i cA) dX2_init_7 rfl (Nat.le_of_ble_eq_true rfl) (Nat.le_of_ble_eq_true rfl) rfl (8, 98) ⟨(Nat.le_of_ble_eq_true rfl), (Nat.le_of_ble_eq_true rfl)⟩ ?_
  intro x1
  refine e_putfieldF (i := 0) fd_X2_9 dX2_init_9 rfl rfl rfl rfl rfl (Nat.le_of_ble_eq_true rfl) rfl rfl ?_
  refine e_aload_n dX2_init_12 rfl rfl ?_
  refine e_bipush dX2_init_13 rfl rfl ?_
  refine EV.ceq (cs' := [.inr (2, [.ref x1, .null, .null, .null, vi 0, .null, .null, .null, vi 0, vi 0, vi 0, vi 0, vi 0, vi 0, vi 0, vi 0]), eI 0 10 (fun _ => 0)]) rfl ?_
  refine e_newarray (qs := [a 0, x1]) (cs := [.inr (2, [.ref x1, .null, .null, .null, vi 0, .null, .null, .null, vi 0, vi 0, vi 0, vi 0, vi 0, vi 0, vi 0, vi 0]), eI 0 10 (fun _ => 0)]) (ar := .int) (ty := .int) (t := 0) (N := 10) (x := (10, .inl (fun j : Nat => Int32.ofInt ((fun _ => (0 : Int)) (j : Int))))) wd_1_59 rfl rfl (fun C h => by cases h) (fun cA => eNw_i cA) dX2_init_15 rfl (Nat.le_of_ble_eq_true rfl) (Nat.le_of_ble_eq_true rfl) rfl (7, 88) ⟨(Nat.le_of_ble_eq_true rfl), (Nat.le_of_ble_eq_true rfl)⟩ ?_
  intro x2
  refine e_putfieldF (i := 0) fd_X2_15 dX2_init_17 rfl rfl rfl rfl rfl (Nat.le_of_ble_eq_true rfl) rfl rfl ?_
  refine e_aload_n dX2_init_20 rfl rfl ?_
  refine e_bipush dX2_init_21 rfl rfl ?_
  refine EV.ceq (cs' := [.inr (2, [.ref x1, .ref x2, .null, .null, vi 0, .null, .null, .null, vi 0, vi 0, vi 0, vi 0, vi 0, vi 0, vi 0, vi 0]), eI 0 10 (fun _ => 0), eI 0 10 (fun _ => 0)]) rfl ?_
  refine e_newarray (qs := [a 0, x1, x2]) (cs := [.inr (2, [.ref x1, .ref x2, .null, .null, vi 0, .null, .null, .null, vi 0, vi 0, vi 0, vi 0, vi 0, vi 0, vi 0, vi 0]), eI 0 10 (fun _ => 0), eI 0 10 (fun _ => 0)]) (ar := .int) (ty := .int) (t := 0) (N := 10) (x := (10, .inl (fun j : Nat => Int32.ofInt ((fun _ => (0 : Int)) (j : Int))))) wd_1_59 rfl rfl (fun C h => by cases h) (fun cA => eNw_i cA) dX2_init_23 rfl (Nat.le_of_ble_eq_true rfl) (Nat.le_of_ble_eq_true rfl) rfl (6, 78) ⟨(Nat.le_of_ble_eq_true rfl), (Nat.le_of_ble_eq_true rfl)⟩ ?_
  intro x3
  refine e_putfieldF (i := 0) fd_X2_18 dX2_init_25 rfl rfl rfl rfl rfl (Nat.le_of_ble_eq_true rfl) rfl rfl ?_
  refine e_aload_n dX2_init_28 rfl rfl ?_
  refine e_bipush dX2_init_29 rfl rfl ?_
  refine EV.ceq (cs' := [.inr (2, [.ref x1, .ref x2, .ref x3, .null, vi 0, .null, .null, .null, vi 0, vi 0, vi 0, vi 0, vi 0, vi 0, vi 0, vi 0]), eI 0 10 (fun _ => 0), eI 0 10 (fun _ => 0), eI 0 10 (fun _ => 0)]) rfl ?_
  refine e_newarray (qs := [a 0, x1, x2, x3]) (cs := [.inr (2, [.ref x1, .ref x2, .ref x3, .null, vi 0, .null, .null, .null, vi 0, vi 0, vi 0, vi 0, vi 0, vi 0, vi 0, vi 0]), eI 0 10 (fun _ => 0), eI 0 10 (fun _ => 0), eI 0 10 (fun _ => 0)]) (ar := .int) (ty := .int) (t := 0) (N := 10) (x := (10, .inl (fun j : Nat => Int32.ofInt ((fun _ => (0 : Int)) (j : Int))))) wd_1_59 rfl rfl (fun C h => by cases h) (fun cA => eNw_i cA) dX2_init_31 rfl (Nat.le_of_ble_eq_true rfl) (Nat.le_of_ble_eq_true rfl) rfl (5, 68) ⟨(Nat.le_of_ble_eq_true rfl), (Nat.le_of_ble_eq_true rfl)⟩ ?_
  intro x4
  refine e_putfieldF (i := 0) fd_X2_21 dX2_init_33 rfl rfl rfl rfl rfl (Nat.le_of_ble_eq_true rfl) rfl rfl ?_
  refine e_aload_n dX2_init_36 rfl rfl ?_
  refine e_iconst dX2_init_37 rfl ?_
  refine e_putfield (i := 0) fd_X2_24 dX2_init_38 rfl rfl rfl (Nat.le_of_ble_eq_true rfl) rfl rfl ?_
  refine e_aload_n dX2_init_41 rfl rfl ?_
  refine EV.ceq (cs' := [.inr (2, [.ref x1, .ref x2, .ref x3, .ref x4, vi 0, .null, .null, .null, vi 0, vi 0, vi 0, vi 0, vi 0, vi 0, vi 0, vi 0]), eI 0 10 (fun _ => 0), eI 0 10 (fun _ => 0), eI 0 10 (fun _ => 0), eI 0 10 (fun _ => 0)]) rfl ?_
  refine e_new (qs := [a 0, x1, x2, x3, x4]) (cs := [.inr (2, [.ref x1, .ref x2, .ref x3, .ref x4, vi 0, .null, .null, .null, vi 0, vi 0, vi 0, vi 0, vi 0, vi 0, vi 0, vi 0]), eI 0 10 (fun _ => 0), eI 0 10 (fun _ => 0), eI 0 10 (fun _ => 0), eI 0 10 (fun _ => 0)]) (ci := 0) (N := 2) (fs := [.null, vi 0]) ⟨RX0, TX0, tyX0, rfl, inX0, tyX0_ok, wd_1_44, wd_1_45, wd_1_3, fun j hj => by
        rcases (show j = 0 ∨ j = 1 by omega) with h | h <;> subst h <;> rfl⟩ dX2_init_42 rfl rfl (4, 66) ⟨(Nat.le_of_ble_eq_true rfl), (Nat.le_of_ble_eq_true rfl)⟩ ?_
  intro x5
  refine e_dup dX2_init_45 rfl rfl ?_
  refine e_ctor (qs := [a 0, x1, x2, x3, x4]) (q := x5) (k := 1) (cs := [.inr (2, [.ref x1, .ref x2, .ref x3, .ref x4, vi 0, .null, .null, .null, vi 0, vi 0, vi 0, vi 0, vi 0, vi 0, vi 0, vi 0]), eI 0 10 (fun _ => 0), eI 0 10 (fun _ => 0), eI 0 10 (fun _ => 0), eI 0 10 (fun _ => 0)]) (c0 := .inr (0, [.null, vi 0])) (W := fun a1 => wCl a1 0 (fun _ => 0)) ⟨⟨"BasketFlock", List.mem_of_getElem? (i := 1) rfl⟩, ca_X0_init.1, ca_X0_init.2.1, ca_X0_init.2.2.1, ca_X0_init.2.2.2, wd_1_47, rfl⟩ rfl rfl dX2_init_46 rfl (fun a0 => C_X0_init) (fun a1 => rfl) rfl rfl (Nat.le_of_ble_eq_true rfl) (Nat.le_of_ble_eq_true rfl) (Nat.le_of_ble_eq_true rfl) (3, 54) ⟨(Nat.le_of_ble_eq_true rfl), (Nat.le_of_ble_eq_true rfl)⟩ ?_
  intro y5 y5h
  refine EV.cong (a' := eAd [a 0, x1, x2, x3, x4, x5, y5 1]) (fun k hk => rfl) ?_
  refine EV.ceq (cs' := [.inr (2, [.ref x1, .ref x2, .ref x3, .ref x4, vi 0, .null, .null, .null, vi 0, vi 0, vi 0, vi 0, vi 0, vi 0, vi 0, vi 0]), eI 0 10 (fun _ => 0), eI 0 10 (fun _ => 0), eI 0 10 (fun _ => 0), eI 0 10 (fun _ => 0), .inr (0, [.ref (y5 1), vi 0]), eI 0 12 (fun _ => 0)]) rfl ?_
  refine e_putfieldF (i := 0) fd_X2_31 dX2_init_49 rfl rfl rfl rfl rfl (Nat.le_of_ble_eq_true rfl) rfl rfl ?_
  refine e_aload_n dX2_init_52 rfl rfl ?_
  refine EV.ceq (cs' := [.inr (2, [.ref x1, .ref x2, .ref x3, .ref x4, vi 0, .ref x5, .null, .null, vi 0, vi 0, vi 0, vi 0, vi 0, vi 0, vi 0, vi 0]), eI 0 10 (fun _ => 0), eI 0 10 (fun _ => 0), eI 0 10 (fun _ => 0), eI 0 10 (fun _ => 0), .inr (0, [.ref (y5 1), vi 0]), eI 0 12 (fun _ => 0)]) rfl ?_
  refine e_new (qs := [a 0, x1, x2, x3, x4, x5, y5 1]) (cs := [.inr (2, [.ref x1, .ref x2, .ref x3, .ref x4, vi 0, .ref x5, .null, .null, vi 0, vi 0, vi 0, vi 0, vi 0, vi 0, vi 0, vi 0]), eI 0 10 (fun _ => 0), eI 0 10 (fun _ => 0), eI 0 10 (fun _ => 0), eI 0 10 (fun _ => 0), .inr (0, [.ref (y5 1), vi 0]), eI 0 12 (fun _ => 0)]) (ci := 5) (N := 3) (fs := [.null, vi 0, vi 0]) ⟨RX5, TX5, tyX5, rfl, inX5, tyX5_ok, wd_1_60, wd_1_61, wd_1_4, fun j hj => by
        rcases (show j = 0 ∨ j = 1 ∨ j = 2 by omega) with h | h | h <;> subst h <;> rfl⟩ dX2_init_53 rfl rfl (2, 51) ⟨(Nat.le_of_ble_eq_true rfl), (Nat.le_of_ble_eq_true rfl)⟩ ?_
  intro x6
  refine e_dup dX2_init_56 rfl rfl ?_
  refine e_ctor (qs := [a 0, x1, x2, x3, x4, x5, y5 1]) (q := x6) (k := 1) (cs := [.inr (2, [.ref x1, .ref x2, .ref x3, .ref x4, vi 0, .ref x5, .null, .null, vi 0, vi 0, vi 0, vi 0, vi 0, vi 0, vi 0, vi 0]), eI 0 10 (fun _ => 0), eI 0 10 (fun _ => 0), eI 0 10 (fun _ => 0), eI 0 10 (fun _ => 0), .inr (0, [.ref (y5 1), vi 0]), eI 0 12 (fun _ => 0)]) (c0 := .inr (5, [.null, vi 0, vi 0])) (W := fun a1 => wSh a1 0 0 (fun _ => 0)) ⟨⟨"BasketFlock", List.mem_of_getElem? (i := 2) rfl⟩, ca_X5_init.1, ca_X5_init.2.1, ca_X5_init.2.2.1, ca_X5_init.2.2.2, wd_1_63, rfl⟩ rfl rfl dX2_init_57 rfl (fun a0 => C_X5_init) (fun a1 => rfl) rfl rfl (Nat.le_of_ble_eq_true rfl) (Nat.le_of_ble_eq_true rfl) (Nat.le_of_ble_eq_true rfl) (1, 3) ⟨(Nat.le_of_ble_eq_true rfl), (Nat.le_of_ble_eq_true rfl)⟩ ?_
  intro y6 y6h
  refine EV.cong (a' := eAd [a 0, x1, x2, x3, x4, x5, y5 1, x6, y6 1]) (fun k hk => rfl) ?_
  refine EV.ceq (cs' := [.inr (2, [.ref x1, .ref x2, .ref x3, .ref x4, vi 0, .ref x5, .null, .null, vi 0, vi 0, vi 0, vi 0, vi 0, vi 0, vi 0, vi 0]), eI 0 10 (fun _ => 0), eI 0 10 (fun _ => 0), eI 0 10 (fun _ => 0), eI 0 10 (fun _ => 0), .inr (0, [.ref (y5 1), vi 0]), eI 0 12 (fun _ => 0), .inr (5, [.ref (y6 1), vi 0, vi 0]), eJ 1 48 (fun _ => 0)]) rfl ?_
  refine e_putfieldF (i := 0) fd_X2_38 dX2_init_60 rfl rfl rfl rfl rfl (Nat.le_of_ble_eq_true rfl) rfl rfl ?_
  refine e_aload_n dX2_init_63 rfl rfl ?_
  refine e_iconst dX2_init_64 rfl ?_
  refine EV.ceq (cs' := [.inr (2, [.ref x1, .ref x2, .ref x3, .ref x4, vi 0, .ref x5, .ref x6, .null, vi 0, vi 0, vi 0, vi 0, vi 0, vi 0, vi 0, vi 0]), eI 0 10 (fun _ => 0), eI 0 10 (fun _ => 0), eI 0 10 (fun _ => 0), eI 0 10 (fun _ => 0), .inr (0, [.ref (y5 1), vi 0]), eI 0 12 (fun _ => 0), .inr (5, [.ref (y6 1), vi 0, vi 0]), eJ 1 48 (fun _ => 0)]) rfl ?_
  refine e_newarray (qs := [a 0, x1, x2, x3, x4, x5, y5 1, x6, y6 1]) (cs := [.inr (2, [.ref x1, .ref x2, .ref x3, .ref x4, vi 0, .ref x5, .ref x6, .null, vi 0, vi 0, vi 0, vi 0, vi 0, vi 0, vi 0, vi 0]), eI 0 10 (fun _ => 0), eI 0 10 (fun _ => 0), eI 0 10 (fun _ => 0), eI 0 10 (fun _ => 0), .inr (0, [.ref (y5 1), vi 0]), eI 0 12 (fun _ => 0), .inr (5, [.ref (y6 1), vi 0, vi 0]), eJ 1 48 (fun _ => 0)]) (ar := .long) (ty := .long) (t := 1) (N := 3) (x := (3, .inr (.inl (fun j : Nat => Int64.ofInt ((fun _ => (0 : Int)) (j : Int)))))) wd_1_77 rfl rfl (fun C h => by cases h) (fun cA => eNw_l cA) dX2_init_65 rfl (Nat.le_of_ble_eq_true rfl) (Nat.le_of_ble_eq_true rfl) rfl (0, 0) ⟨(Nat.le_of_ble_eq_true rfl), (Nat.le_of_ble_eq_true rfl)⟩ ?_
  intro x7
  refine e_putfieldF (i := 0) fd_X2_42 dX2_init_67 rfl rfl rfl rfl rfl (Nat.le_of_ble_eq_true rfl) rfl rfl ?_
  refine e_aload_n dX2_init_70 rfl rfl ?_
  refine e_iconst dX2_init_71 rfl ?_
  refine e_putfield (i := 0) fd_X2_46 dX2_init_72 rfl rfl rfl (Nat.le_of_ble_eq_true rfl) rfl rfl ?_
  refine e_aload_n dX2_init_75 rfl rfl ?_
  refine e_iconst dX2_init_76 rfl ?_
  refine e_putfield (i := 0) fd_X2_49 dX2_init_77 rfl rfl rfl (Nat.le_of_ble_eq_true rfl) rfl rfl ?_
  refine e_aload_n dX2_init_80 rfl rfl ?_
  refine e_iconst dX2_init_81 rfl ?_
  refine e_putfield (i := 0) fd_X2_52 dX2_init_82 rfl rfl rfl (Nat.le_of_ble_eq_true rfl) rfl rfl ?_
  refine e_aload_n dX2_init_85 rfl rfl ?_
  refine e_iconst dX2_init_86 rfl ?_
  refine e_putfield (i := 0) fd_X2_55 dX2_init_87 rfl rfl rfl (Nat.le_of_ble_eq_true rfl) rfl rfl ?_
  refine e_aload_n dX2_init_90 rfl rfl ?_
  refine e_iconst dX2_init_91 rfl ?_
  refine e_putfield (i := 0) fd_X2_58 dX2_init_92 rfl rfl rfl (Nat.le_of_ble_eq_true rfl) rfl rfl ?_
  refine e_aload_n dX2_init_95 rfl rfl ?_
  refine e_iconst dX2_init_96 rfl ?_
  refine e_putfield (i := 0) fd_X2_61 dX2_init_97 rfl rfl rfl (Nat.le_of_ble_eq_true rfl) rfl rfl ?_
  refine e_aload_n dX2_init_100 rfl rfl ?_
  refine e_iconst dX2_init_101 rfl ?_
  refine e_putfield (i := 0) fd_X2_64 dX2_init_102 rfl rfl rfl (Nat.le_of_ble_eq_true rfl) rfl rfl ?_
  refine e_aload_n dX2_init_105 rfl rfl ?_
  refine e_iconst dX2_init_106 rfl ?_
  refine e_putfield (i := 0) fd_X2_67 dX2_init_107 rfl rfl rfl (Nat.le_of_ble_eq_true rfl) rfl rfl ?_
  refine EV.ceq (cs' := wFl (eAd [a 0, x1, x2, x3, x4, x5, y5 1, x6, y6 1, x7]) sF0 (fun _ => 0)) rfl ?_
  exact e_vret dX2_init_110 rfl ⟨rfl, rfl, rfl⟩

