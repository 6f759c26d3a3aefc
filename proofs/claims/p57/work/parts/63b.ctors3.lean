/-! ===== constructors of History, CommandText, BasketFlock ===== -/
section EVN2
variable {K : eK} {b b' : Nat × Nat} {cs : List eE} {pc n : Nat} {ls : List (Option Value)} {st rest : List Value} {M1 : mE} {R1 : Room}
theorem e_ctorI {qs : List Nat} {idx q k : Nat} {c0 : eE} {W : (Nat → Nat) → List eE} (hw : eLkI K.1.1.cls idx M1 0) (hh : M1.2.2.2.2 = []) (hrt : M1.2.2.2.1 = none) (d : decode K.1.2.1 pc = .ok (.invokespecial idx, 3)) (hn : pc + 3 = n)
    (hM : ∀ a0 : Nat → Nat, EM (K.2.2.2.1, none) M1 R1 a0 [.ref (a0 0)] [c0] (eNewQ a0 W)) (hk : ∀ a1, (W a1).length = k + 1) (hst : st = .ref q :: rest) (hl : qs.length = cs.length) (hcat : (rest.map fun v => v.category).sum ≤ 8)
    (hfr : R1.frames + 1 ≤ K.2.1.frames) (hlo : 8 + (M1.2.2.1 + 11) + R1.locals ≤ K.2.1.locals) (b' : Nat × Nat) (hb : R1.cells + b'.1 ≤ b.1 ∧ R1.slots + b'.2 ≤ b.2)
    (kk : ∀ a1 : Nat → Nat, a1 0 = q → EV K (eAd (qs ++ (q :: (List.range k).map (fun i => a1 (1 + i))))) b' (cs ++ W a1) n ls rest) : EV K (eAd (qs ++ [q])) b (cs ++ [c0]) pc ls st := by
  have hq : eAd (qs ++ [q]) (eR [cs.length] 0) = q := by
    show eAd (qs ++ [q]) cs.length = q
    rw [← hl, show qs.length = qs.length + 0 from rfl, eAd_ge]; rfl
  have hM2 := hM (fun k => eAd (qs ++ [q]) (eR [cs.length] k))
  simp only [hq] at hM2
  refine e_invI (ρ := [cs.length]) (cs0 := [c0]) (av := []) (rest := rest) (q := q) hw hh hrt d hn hM2 hst rfl hcat hfr hlo b' hb (by simp) (by simp [va_nd]) (fun o a1 cs1 h => ?_) (fun v a1 cs1 h => ?_) (fun E a1 cs1 h => by cases h.1)
  · obtain ⟨-, h2, h3⟩ := h
    refine ⟨fun k hk => ?_, ?_⟩
    · have : k = 0 := Nat.lt_one_iff.mp hk
      subst this
      exact h2
    · rw [h3, hk]; show 1 ≤ k + 1; omega
  · obtain ⟨h1, h2, h3⟩ := h
    cases h1
    subst h3
    have h0 : a1 0 = q := h2.trans hq
    have hx : ∃ x t, W a1 = x :: t := by
      cases hW : W a1 with
      | nil => have := hk a1; rw [hW] at this; cases this
      | cons x t => exact ⟨x, t, rfl⟩
    obtain ⟨x, t, hW⟩ := hx
    have hlt : t.length = k := by have := hk a1; rw [hW] at this; simpa using this
    have e1 : eMrg (cs ++ [c0]) [cs.length] (W a1) ++ (W a1).drop [cs.length].length = cs ++ W a1 := by
      rw [hW]
      show (cs ++ [c0]).set cs.length x ++ t = cs ++ x :: t
      rw [List.set_append_right _ _ (Nat.le_refl _)]
      simp
    rw [e1]
    refine EV.cong (fun j hj => ?_) (kk a1 h0)
    show (if j < (cs ++ [c0]).length then eAd (qs ++ [q]) j else a1 (1 + (j - (cs ++ [c0]).length))) = _
    have hj2 : j < cs.length + (k + 1) := by rw [List.length_append, hk] at hj; exact hj
    by_cases c : j < (cs ++ [c0]).length
    · rw [if_pos c, show qs ++ (q :: (List.range k).map (fun i => a1 (1 + i))) = (qs ++ [q]) ++ (List.range k).map (fun i => a1 (1 + i)) by simp]
      rw [eAd_lt (ps := (List.range k).map (fun i => a1 (1 + i))) (by simp at c ⊢; omega)]
    · rw [if_neg c, show qs ++ (q :: (List.range k).map (fun i => a1 (1 + i))) = (qs ++ [q]) ++ (List.range k).map (fun i => a1 (1 + i)) by simp]
      have e : j = (qs ++ [q]).length + (j - (cs ++ [c0]).length) := by simp at c ⊢; omega
      have e2 : eAd ((qs ++ [q]) ++ (List.range k).map (fun i => a1 (1 + i))) j = eAd ((List.range k).map (fun i => a1 (1 + i))) (j - (cs ++ [c0]).length) := by
        conv => lhs; rw [e]
        exact eAd_ge
      rw [e2]
      simp only [eAd, List.getD, List.getElem?_map]
      have hr : j - (cs.length + 1) < k := by simp at c; omega
      simp [hr]
end EVN2
set_option maxHeartbeats 1000000 in
theorem C_X4_init {X : eXT} {a : Nat → Nat} : EM X mX4_init (eRn 3 81 1000) a [.ref (a 0)] [.inr (4, [.null, vi 0, vi 0])] (eNewQ a (fun a1 => wHi a1 0 0 hs0)) := by
  refine EM.of (by decide +kernel) rfl (Nat.le_of_ble_eq_true rfl) ?_
  refine EV.cong eAd_1 ?_
  refine e_aload_n dX4_init_0 rfl rfl ?_
  refine e_objInit wd_1_143 wd_1_36 wd_1_37 dX4_init_1 rfl (Nat.le_of_ble_eq_true rfl) (Nat.le_of_ble_eq_true rfl) ?_
  refine e_aload_n dX4_init_4 rfl rfl ?_
  refine e_bipush dX4_init_5 rfl rfl ?_
  refine EV.ceq (cs' := ([.inr (4, [.null, vi 0, vi 0])] : List eE)) rfl ?_
  refine e_newq (qs := [a 0]) (cs := ([.inr (4, [.null, vi 0, vi 0])] : List eE)) (N := 8) wd_1_144 dX4_init_7 rfl (Nat.le_of_ble_eq_true rfl) rfl (80, 992) ⟨(Nat.le_of_ble_eq_true rfl), (Nat.le_of_ble_eq_true rfl)⟩ ?_
  intro x1
  refine e_putfieldF (i := 0) fd_X4_11 dX4_init_10 rfl rfl rfl rfl rfl (Nat.le_of_ble_eq_true rfl) rfl rfl ?_
  refine e_aload_n dX4_init_13 rfl rfl ?_
  refine e_iconst dX4_init_14 rfl ?_
  refine e_putfield (i := 0) fd_X4_17 dX4_init_15 rfl rfl rfl (Nat.le_of_ble_eq_true rfl) rfl rfl ?_
  refine e_aload_n dX4_init_18 rfl rfl ?_
  refine e_iconst dX4_init_19 rfl ?_
  refine e_putfield (i := 0) fd_X4_21 dX4_init_20 rfl rfl rfl (Nat.le_of_ble_eq_true rfl) rfl rfl ?_
  refine e_iconst dX4_init_23 rfl ?_
  refine f_istore_n dX4_init_24 rfl (Nat.le_of_ble_eq_true rfl) rfl ?_
  refine e_iload_n dX4_init_25 rfl rfl ?_
  refine e_bipush dX4_init_26 rfl rfl ?_
  refine e_icmp_ge (t := 50) dX4_init_28 rfl rfl (by decide) (by decide) (fun h => absurd h (by decide)) (fun _ => ?_)
  refine e_aload_n dX4_init_31 rfl rfl ?_
  refine EV.ceq (cs' := ([.inr (4, [.ref x1, vi 0, vi 0])] : List eE) ++ [eRf 4 8 (fun _ => none)]) rfl ?_
  refine e_getfield (i := 0) fd_X4_11 dX4_init_32 rfl rfl rfl rfl ?_
  refine e_iload_n dX4_init_35 rfl rfl ?_
  refine EV.ceq (cs' := ([.inr (4, [.ref x1, vi 0, vi 0])] : List eE) ++ [eRf 4 8 (fun _ => none)]) rfl ?_
  refine e_new (qs := [a 0, x1]) (cs := ([.inr (4, [.ref x1, vi 0, vi 0])] : List eE) ++ [eRf 4 8 (fun _ => none)]) (ci := 2) (N := 16) (fs := [.null, .null, .null, .null, vi 0, .null, .null, .null, vi 0, vi 0, vi 0, vi 0, vi 0, vi 0, vi 0, vi 0]) ⟨RX2, TX2, tyX2, rfl, inX2, tyX2_ok, wd_1_144, wd_1_39, wd_1_2, fun j hj => by
        rcases (show j = 0 ∨ j = 1 ∨ j = 2 ∨ j = 3 ∨ j = 4 ∨ j = 5 ∨ j = 6 ∨ j = 7 ∨ j = 8 ∨ j = 9 ∨ j = 10 ∨ j = 11 ∨ j = 12 ∨ j = 13 ∨ j = 14 ∨ j = 15 by omega) with h | h | h | h | h | h | h | h | h | h | h | h | h | h | h | h <;> subst h <;> rfl⟩ dX4_init_36 rfl rfl (79, 976) ⟨(Nat.le_of_ble_eq_true rfl), (Nat.le_of_ble_eq_true rfl)⟩ ?_
  intro x2
  refine e_dup dX4_init_39 rfl rfl ?_
  refine e_ctor (qs := [a 0, x1]) (q := x2) (k := 9) (cs := ([.inr (4, [.ref x1, vi 0, vi 0])] : List eE) ++ [eRf 4 8 (fun _ => none)]) (c0 := .inr (2, [.null, .null, .null, .null, vi 0, .null, .null, .null, vi 0, vi 0, vi 0, vi 0, vi 0, vi 0, vi 0, vi 0])) (W := fun a1 => wFl a1 sF0 (fun _ => 0)) ⟨⟨"BasketFlock", List.mem_of_getElem? (i := 3) rfl⟩, ca_X2_init.1, ca_X2_init.2.1, ca_X2_init.2.2.1, ca_X2_init.2.2.2, wd_1_41, rfl⟩ rfl rfl dX4_init_40 rfl (fun a0 => C_X2_init) (fun a1 => rfl) rfl rfl (Nat.le_of_ble_eq_true rfl) (Nat.le_of_ble_eq_true rfl) (Nat.le_of_ble_eq_true rfl) (70, 868) ⟨(Nat.le_of_ble_eq_true rfl), (Nat.le_of_ble_eq_true rfl)⟩ ?_
  intro y2 y2h
  refine EV.cong (a' := eAd [a 0, x1, x2, y2 1, y2 2, y2 3, y2 4, y2 5, y2 6, y2 7, y2 8, y2 9]) (fun k hk => rfl) ?_
  refine EV.ceq (cs' := ([.inr (4, [.ref x1, vi 0, vi 0])] : List eE) ++ [eRf 4 8 (fun _ => none)] ++ wFl y2 sF0 (fun _ => 0)) rfl ?_
  refine e_aastore (i := 1) (j := 2) (ci := 2) dX4_init_43 rfl rfl rfl rfl rfl rfl rfl (by decide) (by decide) ?_
  refine f_iinc dX4_init_44 rfl rfl (Nat.le_of_ble_eq_true rfl) rfl ?_
  refine e_goto (n := 25) dX4_init_47 rfl ?_
  refine e_iload_n dX4_init_25 rfl rfl ?_
  refine e_bipush dX4_init_26 rfl rfl ?_
  refine e_icmp_ge (t := 50) dX4_init_28 rfl rfl (by decide) (by decide) (fun h => absurd h (by decide)) (fun _ => ?_)
  refine e_aload_n dX4_init_31 rfl rfl ?_
  refine EV.ceq (cs' := ([.inr (4, [.ref x1, vi 0, vi 0])] : List eE) ++ [eRf 4 8 (va_up (fun _ => none) 0 (some x2))] ++ wFl y2 sF0 (fun _ => 0)) rfl ?_
  refine e_getfield (i := 0) fd_X4_11 dX4_init_32 rfl rfl rfl rfl ?_
  refine e_iload_n dX4_init_35 rfl rfl ?_
  refine EV.ceq (cs' := ([.inr (4, [.ref x1, vi 0, vi 0])] : List eE) ++ [eRf 4 8 (va_up (fun _ => none) 0 (some x2))] ++ wFl y2 sF0 (fun _ => 0)) rfl ?_
  refine e_new (qs := [a 0, x1, x2, y2 1, y2 2, y2 3, y2 4, y2 5, y2 6, y2 7, y2 8, y2 9]) (cs := ([.inr (4, [.ref x1, vi 0, vi 0])] : List eE) ++ [eRf 4 8 (va_up (fun _ => none) 0 (some x2))] ++ wFl y2 sF0 (fun _ => 0)) (ci := 2) (N := 16) (fs := [.null, .null, .null, .null, vi 0, .null, .null, .null, vi 0, vi 0, vi 0, vi 0, vi 0, vi 0, vi 0, vi 0]) ⟨RX2, TX2, tyX2, rfl, inX2, tyX2_ok, wd_1_144, wd_1_39, wd_1_2, fun j hj => by
        rcases (show j = 0 ∨ j = 1 ∨ j = 2 ∨ j = 3 ∨ j = 4 ∨ j = 5 ∨ j = 6 ∨ j = 7 ∨ j = 8 ∨ j = 9 ∨ j = 10 ∨ j = 11 ∨ j = 12 ∨ j = 13 ∨ j = 14 ∨ j = 15 by omega) with h | h | h | h | h | h | h | h | h | h | h | h | h | h | h | h <;> subst h <;> rfl⟩ dX4_init_36 rfl rfl (69, 852) ⟨(Nat.le_of_ble_eq_true rfl), (Nat.le_of_ble_eq_true rfl)⟩ ?_
  intro x3
  refine e_dup dX4_init_39 rfl rfl ?_
  refine e_ctor (qs := [a 0, x1, x2, y2 1, y2 2, y2 3, y2 4, y2 5, y2 6, y2 7, y2 8, y2 9]) (q := x3) (k := 9) (cs := ([.inr (4, [.ref x1, vi 0, vi 0])] : List eE) ++ [eRf 4 8 (va_up (fun _ => none) 0 (some x2))] ++ wFl y2 sF0 (fun _ => 0)) (c0 := .inr (2, [.null, .null, .null, .null, vi 0, .null, .null, .null, vi 0, vi 0, vi 0, vi 0, vi 0, vi 0, vi 0, vi 0])) (W := fun a1 => wFl a1 sF0 (fun _ => 0)) ⟨⟨"BasketFlock", List.mem_of_getElem? (i := 3) rfl⟩, ca_X2_init.1, ca_X2_init.2.1, ca_X2_init.2.2.1, ca_X2_init.2.2.2, wd_1_41, rfl⟩ rfl rfl dX4_init_40 rfl (fun a0 => C_X2_init) (fun a1 => rfl) rfl rfl (Nat.le_of_ble_eq_true rfl) (Nat.le_of_ble_eq_true rfl) (Nat.le_of_ble_eq_true rfl) (60, 744) ⟨(Nat.le_of_ble_eq_true rfl), (Nat.le_of_ble_eq_true rfl)⟩ ?_
  intro y3 y3h
  refine EV.cong (a' := eAd [a 0, x1, x2, y2 1, y2 2, y2 3, y2 4, y2 5, y2 6, y2 7, y2 8, y2 9, x3, y3 1, y3 2, y3 3, y3 4, y3 5, y3 6, y3 7, y3 8, y3 9]) (fun k hk => rfl) ?_
  refine EV.ceq (cs' := ([.inr (4, [.ref x1, vi 0, vi 0])] : List eE) ++ [eRf 4 8 (va_up (fun _ => none) 0 (some x2))] ++ wFl y2 sF0 (fun _ => 0) ++ wFl y3 sF0 (fun _ => 0)) rfl ?_
  refine e_aastore (i := 1) (j := 12) (ci := 2) dX4_init_43 rfl rfl rfl rfl rfl rfl rfl (by decide) (by decide) ?_
  refine f_iinc dX4_init_44 rfl rfl (Nat.le_of_ble_eq_true rfl) rfl ?_
  refine e_goto (n := 25) dX4_init_47 rfl ?_
  refine e_iload_n dX4_init_25 rfl rfl ?_
  refine e_bipush dX4_init_26 rfl rfl ?_
  refine e_icmp_ge (t := 50) dX4_init_28 rfl rfl (by decide) (by decide) (fun h => absurd h (by decide)) (fun _ => ?_)
  refine e_aload_n dX4_init_31 rfl rfl ?_
  refine EV.ceq (cs' := ([.inr (4, [.ref x1, vi 0, vi 0])] : List eE) ++ [eRf 4 8 (va_up (va_up (fun _ => none) 0 (some x2)) 1 (some x3))] ++ wFl y2 sF0 (fun _ => 0) ++ wFl y3 sF0 (fun _ => 0)) rfl ?_
  refine e_getfield (i := 0) fd_X4_11 dX4_init_32 rfl rfl rfl rfl ?_
  refine e_iload_n dX4_init_35 rfl rfl ?_
  refine EV.ceq (cs' := ([.inr (4, [.ref x1, vi 0, vi 0])] : List eE) ++ [eRf 4 8 (va_up (va_up (fun _ => none) 0 (some x2)) 1 (some x3))] ++ wFl y2 sF0 (fun _ => 0) ++ wFl y3 sF0 (fun _ => 0)) rfl ?_
  refine e_new (qs := [a 0, x1, x2, y2 1, y2 2, y2 3, y2 4, y2 5, y2 6, y2 7, y2 8, y2 9, x3, y3 1, y3 2, y3 3, y3 4, y3 5, y3 6, y3 7, y3 8, y3 9]) (cs := ([.inr (4, [.ref x1, vi 0, vi 0])] : List eE) ++ [eRf 4 8 (va_up (va_up (fun _ => none) 0 (some x2)) 1 (some x3))] ++ wFl y2 sF0 (fun _ => 0) ++ wFl y3 sF0 (fun _ => 0)) (ci := 2) (N := 16) (fs := [.null, .null, .null, .null, vi 0, .null, .null, .null, vi 0, vi 0, vi 0, vi 0, vi 0, vi 0, vi 0, vi 0]) ⟨RX2, TX2, tyX2, rfl, inX2, tyX2_ok, wd_1_144, wd_1_39, wd_1_2, fun j hj => by
        rcases (show j = 0 ∨ j = 1 ∨ j = 2 ∨ j = 3 ∨ j = 4 ∨ j = 5 ∨ j = 6 ∨ j = 7 ∨ j = 8 ∨ j = 9 ∨ j = 10 ∨ j = 11 ∨ j = 12 ∨ j = 13 ∨ j = 14 ∨ j = 15 by omega) with h | h | h | h | h | h | h | h | h | h | h | h | h | h | h | h <;> subst h <;> rfl⟩ dX4_init_36 rfl rfl (59, 728) ⟨(Nat.le_of_ble_eq_true rfl), (Nat.le_of_ble_eq_true rfl)⟩ ?_
  intro x4
  refine e_dup dX4_init_39 rfl rfl ?_
  refine e_ctor (qs := [a 0, x1, x2, y2 1, y2 2, y2 3, y2 4, y2 5, y2 6, y2 7, y2 8, y2 9, x3, y3 1, y3 2, y3 3, y3 4, y3 5, y3 6, y3 7, y3 8, y3 9]) (q := x4) (k := 9) (cs := ([.inr (4, [.ref x1, vi 0, vi 0])] : List eE) ++ [eRf 4 8 (va_up (va_up (fun _ => none) 0 (some x2)) 1 (some x3))] ++ wFl y2 sF0 (fun _ => 0) ++ wFl y3 sF0 (fun _ => 0)) (c0 := .inr (2, [.null, .null, .null, .null, vi 0, .null, .null, .null, vi 0, vi 0, vi 0, vi 0, vi 0, vi 0, vi 0, vi 0])) (W := fun a1 => wFl a1 sF0 (fun _ => 0)) ⟨⟨"BasketFlock", List.mem_of_getElem? (i := 3) rfl⟩, ca_X2_init.1, ca_X2_init.2.1, ca_X2_init.2.2.1, ca_X2_init.2.2.2, wd_1_41, rfl⟩ rfl rfl dX4_init_40 rfl (fun a0 => C_X2_init) (fun a1 => rfl) rfl rfl (Nat.le_of_ble_eq_true rfl) (Nat.le_of_ble_eq_true rfl) (Nat.le_of_ble_eq_true rfl) (50, 620) ⟨(Nat.le_of_ble_eq_true rfl), (Nat.le_of_ble_eq_true rfl)⟩ ?_
  intro y4 y4h
  refine EV.cong (a' := eAd [a 0, x1, x2, y2 1, y2 2, y2 3, y2 4, y2 5, y2 6, y2 7, y2 8, y2 9, x3, y3 1, y3 2, y3 3, y3 4, y3 5, y3 6, y3 7, y3 8, y3 9, x4, y4 1, y4 2, y4 3, y4 4, y4 5, y4 6, y4 7, y4 8, y4 9]) (fun k hk => rfl) ?_
  refine EV.ceq (cs' := ([.inr (4, [.ref x1, vi 0, vi 0])] : List eE) ++ [eRf 4 8 (va_up (va_up (fun _ => none) 0 (some x2)) 1 (some x3))] ++ wFl y2 sF0 (fun _ => 0) ++ wFl y3 sF0 (fun _ => 0) ++ wFl y4 sF0 (fun _ => 0)) rfl ?_
  refine e_aastore (i := 1) (j := 22) (ci := 2) dX4_init_43 rfl rfl rfl rfl rfl rfl rfl (by decide) (by decide) ?_
  refine f_iinc dX4_init_44 rfl rfl (Nat.le_of_ble_eq_true rfl) rfl ?_
  refine e_goto (n := 25) dX4_init_47 rfl ?_
  refine e_iload_n dX4_init_25 rfl rfl ?_
  refine e_bipush dX4_init_26 rfl rfl ?_
  refine e_icmp_ge (t := 50) dX4_init_28 rfl rfl (by decide) (by decide) (fun h => absurd h (by decide)) (fun _ => ?_)
  refine e_aload_n dX4_init_31 rfl rfl ?_
  refine EV.ceq (cs' := ([.inr (4, [.ref x1, vi 0, vi 0])] : List eE) ++ [eRf 4 8 (va_up (va_up (va_up (fun _ => none) 0 (some x2)) 1 (some x3)) 2 (some x4))] ++ wFl y2 sF0 (fun _ => 0) ++ wFl y3 sF0 (fun _ => 0) ++ wFl y4 sF0 (fun _ => 0)) rfl ?_
  refine e_getfield (i := 0) fd_X4_11 dX4_init_32 rfl rfl rfl rfl ?_
  refine e_iload_n dX4_init_35 rfl rfl ?_
  refine EV.ceq (cs' := ([.inr (4, [.ref x1, vi 0, vi 0])] : List eE) ++ [eRf 4 8 (va_up (va_up (va_up (fun _ => none) 0 (some x2)) 1 (some x3)) 2 (some x4))] ++ wFl y2 sF0 (fun _ => 0) ++ wFl y3 sF0 (fun _ => 0) ++ wFl y4 sF0 (fun _ => 0)) rfl ?_
  refine e_new (qs := [a 0, x1, x2, y2 1, y2 2, y2 3, y2 4, y2 5, y2 6, y2 7, y2 8, y2 9, x3, y3 1, y3 2, y3 3, y3 4, y3 5, y3 6, y3 7, y3 8, y3 9, x4, y4 1, y4 2, y4 3, y4 4, y4 5, y4 6, y4 7, y4 8, y4 9]) (cs := ([.inr (4, [.ref x1, vi 0, vi 0])] : List eE) ++ [eRf 4 8 (va_up (va_up (va_up (fun _ => none) 0 (some x2)) 1 (some x3)) 2 (some x4))] ++ wFl y2 sF0 (fun _ => 0) ++ wFl y3 sF0 (fun _ => 0) ++ wFl y4 sF0 (fun _ => 0)) (ci := 2) (N := 16) (fs := [.null, .null, .null, .null, vi 0, .null, .null, .null, vi 0, vi 0, vi 0, vi 0, vi 0, vi 0, vi 0, vi 0]) ⟨RX2, TX2, tyX2, rfl, inX2, tyX2_ok, wd_1_144, wd_1_39, wd_1_2, fun j hj => by
        rcases (show j = 0 ∨ j = 1 ∨ j = 2 ∨ j = 3 ∨ j = 4 ∨ j = 5 ∨ j = 6 ∨ j = 7 ∨ j = 8 ∨ j = 9 ∨ j = 10 ∨ j = 11 ∨ j = 12 ∨ j = 13 ∨ j = 14 ∨ j = 15 by omega) with h | h | h | h | h | h | h | h | h | h | h | h | h | h | h | h <;> subst h <;> rfl⟩ dX4_init_36 rfl rfl (49, 604) ⟨(Nat.le_of_ble_eq_true rfl), (Nat.le_of_ble_eq_true rfl)⟩ ?_
  intro x5
  refine e_dup dX4_init_39 rfl rfl ?_
  refine e_ctor (qs := [a 0, x1, x2, y2 1, y2 2, y2 3, y2 4, y2 5, y2 6, y2 7, y2 8, y2 9, x3, y3 1, y3 2, y3 3, y3 4, y3 5, y3 6, y3 7, y3 8, y3 9, x4, y4 1, y4 2, y4 3, y4 4, y4 5, y4 6, y4 7, y4 8, y4 9]) (q := x5) (k := 9) (cs := ([.inr (4, [.ref x1, vi 0, vi 0])] : List eE) ++ [eRf 4 8 (va_up (va_up (va_up (fun _ => none) 0 (some x2)) 1 (some x3)) 2 (some x4))] ++ wFl y2 sF0 (fun _ => 0) ++ wFl y3 sF0 (fun _ => 0) ++ wFl y4 sF0 (fun _ => 0)) (c0 := .inr (2, [.null, .null, .null, .null, vi 0, .null, .null, .null, vi 0, vi 0, vi 0, vi 0, vi 0, vi 0, vi 0, vi 0])) (W := fun a1 => wFl a1 sF0 (fun _ => 0)) ⟨⟨"BasketFlock", List.mem_of_getElem? (i := 3) rfl⟩, ca_X2_init.1, ca_X2_init.2.1, ca_X2_init.2.2.1, ca_X2_init.2.2.2, wd_1_41, rfl⟩ rfl rfl dX4_init_40 rfl (fun a0 => C_X2_init) (fun a1 => rfl) rfl rfl (Nat.le_of_ble_eq_true rfl) (Nat.le_of_ble_eq_true rfl) (Nat.le_of_ble_eq_true rfl) (40, 496) ⟨(Nat.le_of_ble_eq_true rfl), (Nat.le_of_ble_eq_true rfl)⟩ ?_
  intro y5 y5h
  refine EV.cong (a' := eAd [a 0, x1, x2, y2 1, y2 2, y2 3, y2 4, y2 5, y2 6, y2 7, y2 8, y2 9, x3, y3 1, y3 2, y3 3, y3 4, y3 5, y3 6, y3 7, y3 8, y3 9, x4, y4 1, y4 2, y4 3, y4 4, y4 5, y4 6, y4 7, y4 8, y4 9, x5, y5 1, y5 2, y5 3, y5 4, y5 5, y5 6, y5 7, y5 8, y5 9]) (fun k hk => rfl) ?_
  refine EV.ceq (cs' := ([.inr (4, [.ref x1, vi 0, vi 0])] : List eE) ++ [eRf 4 8 (va_up (va_up (va_up (fun _ => none) 0 (some x2)) 1 (some x3)) 2 (some x4))] ++ wFl y2 sF0 (fun _ => 0) ++ wFl y3 sF0 (fun _ => 0) ++ wFl y4 sF0 (fun _ => 0) ++ wFl y5 sF0 (fun _ => 0)) rfl ?_
  refine e_aastore (i := 1) (j := 32) (ci := 2) dX4_init_43 rfl rfl rfl rfl rfl rfl rfl (by decide) (by decide) ?_
  refine f_iinc dX4_init_44 rfl rfl (Nat.le_of_ble_eq_true rfl) rfl ?_
  refine e_goto (n := 25) dX4_init_47 rfl ?_
  refine e_iload_n dX4_init_25 rfl rfl ?_
  refine e_bipush dX4_init_26 rfl rfl ?_
  refine e_icmp_ge (t := 50) dX4_init_28 rfl rfl (by decide) (by decide) (fun h => absurd h (by decide)) (fun _ => ?_)
  refine e_aload_n dX4_init_31 rfl rfl ?_
  refine EV.ceq (cs' := ([.inr (4, [.ref x1, vi 0, vi 0])] : List eE) ++ [eRf 4 8 (va_up (va_up (va_up (va_up (fun _ => none) 0 (some x2)) 1 (some x3)) 2 (some x4)) 3 (some x5))] ++ wFl y2 sF0 (fun _ => 0) ++ wFl y3 sF0 (fun _ => 0) ++ wFl y4 sF0 (fun _ => 0) ++ wFl y5 sF0 (fun _ => 0)) rfl ?_
  refine e_getfield (i := 0) fd_X4_11 dX4_init_32 rfl rfl rfl rfl ?_
  refine e_iload_n dX4_init_35 rfl rfl ?_
  refine EV.ceq (cs' := ([.inr (4, [.ref x1, vi 0, vi 0])] : List eE) ++ [eRf 4 8 (va_up (va_up (va_up (va_up (fun _ => none) 0 (some x2)) 1 (some x3)) 2 (some x4)) 3 (some x5))] ++ wFl y2 sF0 (fun _ => 0) ++ wFl y3 sF0 (fun _ => 0) ++ wFl y4 sF0 (fun _ => 0) ++ wFl y5 sF0 (fun _ => 0)) rfl ?_
  refine e_new (qs := [a 0, x1, x2, y2 1, y2 2, y2 3, y2 4, y2 5, y2 6, y2 7, y2 8, y2 9, x3, y3 1, y3 2, y3 3, y3 4, y3 5, y3 6, y3 7, y3 8, y3 9, x4, y4 1, y4 2, y4 3, y4 4, y4 5, y4 6, y4 7, y4 8, y4 9, x5, y5 1, y5 2, y5 3, y5 4, y5 5, y5 6, y5 7, y5 8, y5 9]) (cs := ([.inr (4, [.ref x1, vi 0, vi 0])] : List eE) ++ [eRf 4 8 (va_up (va_up (va_up (va_up (fun _ => none) 0 (some x2)) 1 (some x3)) 2 (some x4)) 3 (some x5))] ++ wFl y2 sF0 (fun _ => 0) ++ wFl y3 sF0 (fun _ => 0) ++ wFl y4 sF0 (fun _ => 0) ++ wFl y5 sF0 (fun _ => 0)) (ci := 2) (N := 16) (fs := [.null, .null, .null, .null, vi 0, .null, .null, .null, vi 0, vi 0, vi 0, vi 0, vi 0, vi 0, vi 0, vi 0]) ⟨RX2, TX2, tyX2, rfl, inX2, tyX2_ok, wd_1_144, wd_1_39, wd_1_2, fun j hj => by
        rcases (show j = 0 ∨ j = 1 ∨ j = 2 ∨ j = 3 ∨ j = 4 ∨ j = 5 ∨ j = 6 ∨ j = 7 ∨ j = 8 ∨ j = 9 ∨ j = 10 ∨ j = 11 ∨ j = 12 ∨ j = 13 ∨ j = 14 ∨ j = 15 by omega) with h | h | h | h | h | h | h | h | h | h | h | h | h | h | h | h <;> subst h <;> rfl⟩ dX4_init_36 rfl rfl (39, 480) ⟨(Nat.le_of_ble_eq_true rfl), (Nat.le_of_ble_eq_true rfl)⟩ ?_
  intro x6
  refine e_dup dX4_init_39 rfl rfl ?_
  refine e_ctor (qs := [a 0, x1, x2, y2 1, y2 2, y2 3, y2 4, y2 5, y2 6, y2 7, y2 8, y2 9, x3, y3 1, y3 2, y3 3, y3 4, y3 5, y3 6, y3 7, y3 8, y3 9, x4, y4 1, y4 2, y4 3, y4 4, y4 5, y4 6, y4 7, y4 8, y4 9, x5, y5 1, y5 2, y5 3, y5 4, y5 5, y5 6, y5 7, y5 8, y5 9]) (q := x6) (k := 9) (cs := ([.inr (4, [.ref x1, vi 0, vi 0])] : List eE) ++ [eRf 4 8 (va_up (va_up (va_up (va_up (fun _ => none) 0 (some x2)) 1 (some x3)) 2 (some x4)) 3 (some x5))] ++ wFl y2 sF0 (fun _ => 0) ++ wFl y3 sF0 (fun _ => 0) ++ wFl y4 sF0 (fun _ => 0) ++ wFl y5 sF0 (fun _ => 0)) (c0 := .inr (2, [.null, .null, .null, .null, vi 0, .null, .null, .null, vi 0, vi 0, vi 0, vi 0, vi 0, vi 0, vi 0, vi 0])) (W := fun a1 => wFl a1 sF0 (fun _ => 0)) ⟨⟨"BasketFlock", List.mem_of_getElem? (i := 3) rfl⟩, ca_X2_init.1, ca_X2_init.2.1, ca_X2_init.2.2.1, ca_X2_init.2.2.2, wd_1_41, rfl⟩ rfl rfl dX4_init_40 rfl (fun a0 => C_X2_init) (fun a1 => rfl) rfl rfl (Nat.le_of_ble_eq_true rfl) (Nat.le_of_ble_eq_true rfl) (Nat.le_of_ble_eq_true rfl) (30, 372) ⟨(Nat.le_of_ble_eq_true rfl), (Nat.le_of_ble_eq_true rfl)⟩ ?_
  intro y6 y6h
  refine EV.cong (a' := eAd [a 0, x1, x2, y2 1, y2 2, y2 3, y2 4, y2 5, y2 6, y2 7, y2 8, y2 9, x3, y3 1, y3 2, y3 3, y3 4, y3 5, y3 6, y3 7, y3 8, y3 9, x4, y4 1, y4 2, y4 3, y4 4, y4 5, y4 6, y4 7, y4 8, y4 9, x5, y5 1, y5 2, y5 3, y5 4, y5 5, y5 6, y5 7, y5 8, y5 9, x6, y6 1, y6 2, y6 3, y6 4, y6 5, y6 6, y6 7, y6 8, y6 9]) (fun k hk => rfl) ?_
  refine EV.ceq (cs' := ([.inr (4, [.ref x1, vi 0, vi 0])] : List eE) ++ [eRf 4 8 (va_up (va_up (va_up (va_up (fun _ => none) 0 (some x2)) 1 (some x3)) 2 (some x4)) 3 (some x5))] ++ wFl y2 sF0 (fun _ => 0) ++ wFl y3 sF0 (fun _ => 0) ++ wFl y4 sF0 (fun _ => 0) ++ wFl y5 sF0 (fun _ => 0) ++ wFl y6 sF0 (fun _ => 0)) rfl ?_
  refine e_aastore (i := 1) (j := 42) (ci := 2) dX4_init_43 rfl rfl rfl rfl rfl rfl rfl (by decide) (by decide) ?_
  refine f_iinc dX4_init_44 rfl rfl (Nat.le_of_ble_eq_true rfl) rfl ?_
  refine e_goto (n := 25) dX4_init_47 rfl ?_
  refine e_iload_n dX4_init_25 rfl rfl ?_
  refine e_bipush dX4_init_26 rfl rfl ?_
  refine e_icmp_ge (t := 50) dX4_init_28 rfl rfl (by decide) (by decide) (fun h => absurd h (by decide)) (fun _ => ?_)
  refine e_aload_n dX4_init_31 rfl rfl ?_
  refine EV.ceq (cs' := ([.inr (4, [.ref x1, vi 0, vi 0])] : List eE) ++ [eRf 4 8 (va_up (va_up (va_up (va_up (va_up (fun _ => none) 0 (some x2)) 1 (some x3)) 2 (some x4)) 3 (some x5)) 4 (some x6))] ++ wFl y2 sF0 (fun _ => 0) ++ wFl y3 sF0 (fun _ => 0) ++ wFl y4 sF0 (fun _ => 0) ++ wFl y5 sF0 (fun _ => 0) ++ wFl y6 sF0 (fun _ => 0)) rfl ?_
  refine e_getfield (i := 0) fd_X4_11 dX4_init_32 rfl rfl rfl rfl ?_
  refine e_iload_n dX4_init_35 rfl rfl ?_
  refine EV.ceq (cs' := ([.inr (4, [.ref x1, vi 0, vi 0])] : List eE) ++ [eRf 4 8 (va_up (va_up (va_up (va_up (va_up (fun _ => none) 0 (some x2)) 1 (some x3)) 2 (some x4)) 3 (some x5)) 4 (some x6))] ++ wFl y2 sF0 (fun _ => 0) ++ wFl y3 sF0 (fun _ => 0) ++ wFl y4 sF0 (fun _ => 0) ++ wFl y5 sF0 (fun _ => 0) ++ wFl y6 sF0 (fun _ => 0)) rfl ?_
  refine e_new (qs := [a 0, x1, x2, y2 1, y2 2, y2 3, y2 4, y2 5, y2 6, y2 7, y2 8, y2 9, x3, y3 1, y3 2, y3 3, y3 4, y3 5, y3 6, y3 7, y3 8, y3 9, x4, y4 1, y4 2, y4 3, y4 4, y4 5, y4 6, y4 7, y4 8, y4 9, x5, y5 1, y5 2, y5 3, y5 4, y5 5, y5 6, y5 7, y5 8, y5 9, x6, y6 1, y6 2, y6 3, y6 4, y6 5, y6 6, y6 7, y6 8, y6 9]) (cs := ([.inr (4, [.ref x1, vi 0, vi 0])] : List eE) ++ [eRf 4 8 (va_up (va_up (va_up (va_up (va_up (fun _ => none) 0 (some x2)) 1 (some x3)) 2 (some x4)) 3 (some x5)) 4 (some x6))] ++ wFl y2 sF0 (fun _ => 0) ++ wFl y3 sF0 (fun _ => 0) ++ wFl y4 sF0 (fun _ => 0) ++ wFl y5 sF0 (fun _ => 0) ++ wFl y6 sF0 (fun _ => 0)) (ci := 2) (N := 16) (fs := [.null, .null, .null, .null, vi 0, .null, .null, .null, vi 0, vi 0, vi 0, vi 0, vi 0, vi 0, vi 0, vi 0]) ⟨RX2, TX2, tyX2, rfl, inX2, tyX2_ok, wd_1_144, wd_1_39, wd_1_2, fun j hj => by
        rcases (show j = 0 ∨ j = 1 ∨ j = 2 ∨ j = 3 ∨ j = 4 ∨ j = 5 ∨ j = 6 ∨ j = 7 ∨ j = 8 ∨ j = 9 ∨ j = 10 ∨ j = 11 ∨ j = 12 ∨ j = 13 ∨ j = 14 ∨ j = 15 by omega) with h | h | h | h | h | h | h | h | h | h | h | h | h | h | h | h <;> subst h <;> rfl⟩ dX4_init_36 rfl rfl (29, 356) ⟨(Nat.le_of_ble_eq_true rfl), (Nat.le_of_ble_eq_true rfl)⟩ ?_
  intro x7
  refine e_dup dX4_init_39 rfl rfl ?_
  refine e_ctor (qs := [a 0, x1, x2, y2 1, y2 2, y2 3, y2 4, y2 5, y2 6, y2 7, y2 8, y2 9, x3, y3 1, y3 2, y3 3, y3 4, y3 5, y3 6, y3 7, y3 8, y3 9, x4, y4 1, y4 2, y4 3, y4 4, y4 5, y4 6, y4 7, y4 8, y4 9, x5, y5 1, y5 2, y5 3, y5 4, y5 5, y5 6, y5 7, y5 8, y5 9, x6, y6 1, y6 2, y6 3, y6 4, y6 5, y6 6, y6 7, y6 8, y6 9]) (q := x7) (k := 9) (cs := ([.inr (4, [.ref x1, vi 0, vi 0])] : List eE) ++ [eRf 4 8 (va_up (va_up (va_up (va_up (va_up (fun _ => none) 0 (some x2)) 1 (some x3)) 2 (some x4)) 3 (some x5)) 4 (some x6))] ++ wFl y2 sF0 (fun _ => 0) ++ wFl y3 sF0 (fun _ => 0) ++ wFl y4 sF0 (fun _ => 0) ++ wFl y5 sF0 (fun _ => 0) ++ wFl y6 sF0 (fun _ => 0)) (c0 := .inr (2, [.null, .null, .null, .null, vi 0, .null, .null, .null, vi 0, vi 0, vi 0, vi 0, vi 0, vi 0, vi 0, vi 0])) (W := fun a1 => wFl a1 sF0 (fun _ => 0)) ⟨⟨"BasketFlock", List.mem_of_getElem? (i := 3) rfl⟩, ca_X2_init.1, ca_X2_init.2.1, ca_X2_init.2.2.1, ca_X2_init.2.2.2, wd_1_41, rfl⟩ rfl rfl dX4_init_40 rfl (fun a0 => C_X2_init) (fun a1 => rfl) rfl rfl (Nat.le_of_ble_eq_true rfl) (Nat.le_of_ble_eq_true rfl) (Nat.le_of_ble_eq_true rfl) (20, 248) ⟨(Nat.le_of_ble_eq_true rfl), (Nat.le_of_ble_eq_true rfl)⟩ ?_
  intro y7 y7h
  refine EV.cong (a' := eAd [a 0, x1, x2, y2 1, y2 2, y2 3, y2 4, y2 5, y2 6, y2 7, y2 8, y2 9, x3, y3 1, y3 2, y3 3, y3 4, y3 5, y3 6, y3 7, y3 8, y3 9, x4, y4 1, y4 2, y4 3, y4 4, y4 5, y4 6, y4 7, y4 8, y4 9, x5, y5 1, y5 2, y5 3, y5 4, y5 5, y5 6, y5 7, y5 8, y5 9, x6, y6 1, y6 2, y6 3, y6 4, y6 5, y6 6, y6 7, y6 8, y6 9, x7, y7 1, y7 2, y7 3, y7 4, y7 5, y7 6, y7 7, y7 8, y7 9]) (fun k hk => rfl) ?_
  refine EV.ceq (cs' := ([.inr (4, [.ref x1, vi 0, vi 0])] : List eE) ++ [eRf 4 8 (va_up (va_up (va_up (va_up (va_up (fun _ => none) 0 (some x2)) 1 (some x3)) 2 (some x4)) 3 (some x5)) 4 (some x6))] ++ wFl y2 sF0 (fun _ => 0) ++ wFl y3 sF0 (fun _ => 0) ++ wFl y4 sF0 (fun _ => 0) ++ wFl y5 sF0 (fun _ => 0) ++ wFl y6 sF0 (fun _ => 0) ++ wFl y7 sF0 (fun _ => 0)) rfl ?_
  refine e_aastore (i := 1) (j := 52) (ci := 2) dX4_init_43 rfl rfl rfl rfl rfl rfl rfl (by decide) (by decide) ?_
  refine f_iinc dX4_init_44 rfl rfl (Nat.le_of_ble_eq_true rfl) rfl ?_
  refine e_goto (n := 25) dX4_init_47 rfl ?_
  refine e_iload_n dX4_init_25 rfl rfl ?_
  refine e_bipush dX4_init_26 rfl rfl ?_
  refine e_icmp_ge (t := 50) dX4_init_28 rfl rfl (by decide) (by decide) (fun h => absurd h (by decide)) (fun _ => ?_)
  refine e_aload_n dX4_init_31 rfl rfl ?_
  refine EV.ceq (cs' := ([.inr (4, [.ref x1, vi 0, vi 0])] : List eE) ++ [eRf 4 8 (va_up (va_up (va_up (va_up (va_up (va_up (fun _ => none) 0 (some x2)) 1 (some x3)) 2 (some x4)) 3 (some x5)) 4 (some x6)) 5 (some x7))] ++ wFl y2 sF0 (fun _ => 0) ++ wFl y3 sF0 (fun _ => 0) ++ wFl y4 sF0 (fun _ => 0) ++ wFl y5 sF0 (fun _ => 0) ++ wFl y6 sF0 (fun _ => 0) ++ wFl y7 sF0 (fun _ => 0)) rfl ?_
  refine e_getfield (i := 0) fd_X4_11 dX4_init_32 rfl rfl rfl rfl ?_
  refine e_iload_n dX4_init_35 rfl rfl ?_
  refine EV.ceq (cs' := ([.inr (4, [.ref x1, vi 0, vi 0])] : List eE) ++ [eRf 4 8 (va_up (va_up (va_up (va_up (va_up (va_up (fun _ => none) 0 (some x2)) 1 (some x3)) 2 (some x4)) 3 (some x5)) 4 (some x6)) 5 (some x7))] ++ wFl y2 sF0 (fun _ => 0) ++ wFl y3 sF0 (fun _ => 0) ++ wFl y4 sF0 (fun _ => 0) ++ wFl y5 sF0 (fun _ => 0) ++ wFl y6 sF0 (fun _ => 0) ++ wFl y7 sF0 (fun _ => 0)) rfl ?_
  refine e_new (qs := [a 0, x1, x2, y2 1, y2 2, y2 3, y2 4, y2 5, y2 6, y2 7, y2 8, y2 9, x3, y3 1, y3 2, y3 3, y3 4, y3 5, y3 6, y3 7, y3 8, y3 9, x4, y4 1, y4 2, y4 3, y4 4, y4 5, y4 6, y4 7, y4 8, y4 9, x5, y5 1, y5 2, y5 3, y5 4, y5 5, y5 6, y5 7, y5 8, y5 9, x6, y6 1, y6 2, y6 3, y6 4, y6 5, y6 6, y6 7, y6 8, y6 9, x7, y7 1, y7 2, y7 3, y7 4, y7 5, y7 6, y7 7, y7 8, y7 9]) (cs := ([.inr (4, [.ref x1, vi 0, vi 0])] : List eE) ++ [eRf 4 8 (va_up (va_up (va_up (va_up (va_up (va_up (fun _ => none) 0 (some x2)) 1 (some x3)) 2 (some x4)) 3 (some x5)) 4 (some x6)) 5 (some x7))] ++ wFl y2 sF0 (fun _ => 0) ++ wFl y3 sF0 (fun _ => 0) ++ wFl y4 sF0 (fun _ => 0) ++ wFl y5 sF0 (fun _ => 0) ++ wFl y6 sF0 (fun _ => 0) ++ wFl y7 sF0 (fun _ => 0)) (ci := 2) (N := 16) (fs := [.null, .null, .null, .null, vi 0, .null, .null, .null, vi 0, vi 0, vi 0, vi 0, vi 0, vi 0, vi 0, vi 0]) ⟨RX2, TX2, tyX2, rfl, inX2, tyX2_ok, wd_1_144, wd_1_39, wd_1_2, fun j hj => by
        rcases (show j = 0 ∨ j = 1 ∨ j = 2 ∨ j = 3 ∨ j = 4 ∨ j = 5 ∨ j = 6 ∨ j = 7 ∨ j = 8 ∨ j = 9 ∨ j = 10 ∨ j = 11 ∨ j = 12 ∨ j = 13 ∨ j = 14 ∨ j = 15 by omega) with h | h | h | h | h | h | h | h | h | h | h | h | h | h | h | h <;> subst h <;> rfl⟩ dX4_init_36 rfl rfl (19, 232) ⟨(Nat.le_of_ble_eq_true rfl), (Nat.le_of_ble_eq_true rfl)⟩ ?_
  intro x8
  refine e_dup dX4_init_39 rfl rfl ?_
  refine e_ctor (qs := [a 0, x1, x2, y2 1, y2 2, y2 3, y2 4, y2 5, y2 6, y2 7, y2 8, y2 9, x3, y3 1, y3 2, y3 3, y3 4, y3 5, y3 6, y3 7, y3 8, y3 9, x4, y4 1, y4 2, y4 3, y4 4, y4 5, y4 6, y4 7, y4 8, y4 9, x5, y5 1, y5 2, y5 3, y5 4, y5 5, y5 6, y5 7, y5 8, y5 9, x6, y6 1, y6 2, y6 3, y6 4, y6 5, y6 6, y6 7, y6 8, y6 9, x7, y7 1, y7 2, y7 3, y7 4, y7 5, y7 6, y7 7, y7 8, y7 9]) (q := x8) (k := 9) (cs := ([.inr (4, [.ref x1, vi 0, vi 0])] : List eE) ++ [eRf 4 8 (va_up (va_up (va_up (va_up (va_up (va_up (fun _ => none) 0 (some x2)) 1 (some x3)) 2 (some x4)) 3 (some x5)) 4 (some x6)) 5 (some x7))] ++ wFl y2 sF0 (fun _ => 0) ++ wFl y3 sF0 (fun _ => 0) ++ wFl y4 sF0 (fun _ => 0) ++ wFl y5 sF0 (fun _ => 0) ++ wFl y6 sF0 (fun _ => 0) ++ wFl y7 sF0 (fun _ => 0)) (c0 := .inr (2, [.null, .null, .null, .null, vi 0, .null, .null, .null, vi 0, vi 0, vi 0, vi 0, vi 0, vi 0, vi 0, vi 0])) (W := fun a1 => wFl a1 sF0 (fun _ => 0)) ⟨⟨"BasketFlock", List.mem_of_getElem? (i := 3) rfl⟩, ca_X2_init.1, ca_X2_init.2.1, ca_X2_init.2.2.1, ca_X2_init.2.2.2, wd_1_41, rfl⟩ rfl rfl dX4_init_40 rfl (fun a0 => C_X2_init) (fun a1 => rfl) rfl rfl (Nat.le_of_ble_eq_true rfl) (Nat.le_of_ble_eq_true rfl) (Nat.le_of_ble_eq_true rfl) (10, 124) ⟨(Nat.le_of_ble_eq_true rfl), (Nat.le_of_ble_eq_true rfl)⟩ ?_
  intro y8 y8h
  refine EV.cong (a' := eAd [a 0, x1, x2, y2 1, y2 2, y2 3, y2 4, y2 5, y2 6, y2 7, y2 8, y2 9, x3, y3 1, y3 2, y3 3, y3 4, y3 5, y3 6, y3 7, y3 8, y3 9, x4, y4 1, y4 2, y4 3, y4 4, y4 5, y4 6, y4 7, y4 8, y4 9, x5, y5 1, y5 2, y5 3, y5 4, y5 5, y5 6, y5 7, y5 8, y5 9, x6, y6 1, y6 2, y6 3, y6 4, y6 5, y6 6, y6 7, y6 8, y6 9, x7, y7 1, y7 2, y7 3, y7 4, y7 5, y7 6, y7 7, y7 8, y7 9, x8, y8 1, y8 2, y8 3, y8 4, y8 5, y8 6, y8 7, y8 8, y8 9]) (fun k hk => rfl) ?_
  refine EV.ceq (cs' := ([.inr (4, [.ref x1, vi 0, vi 0])] : List eE) ++ [eRf 4 8 (va_up (va_up (va_up (va_up (va_up (va_up (fun _ => none) 0 (some x2)) 1 (some x3)) 2 (some x4)) 3 (some x5)) 4 (some x6)) 5 (some x7))] ++ wFl y2 sF0 (fun _ => 0) ++ wFl y3 sF0 (fun _ => 0) ++ wFl y4 sF0 (fun _ => 0) ++ wFl y5 sF0 (fun _ => 0) ++ wFl y6 sF0 (fun _ => 0) ++ wFl y7 sF0 (fun _ => 0) ++ wFl y8 sF0 (fun _ => 0)) rfl ?_
  refine e_aastore (i := 1) (j := 62) (ci := 2) dX4_init_43 rfl rfl rfl rfl rfl rfl rfl (by decide) (by decide) ?_
  refine f_iinc dX4_init_44 rfl rfl (Nat.le_of_ble_eq_true rfl) rfl ?_
  refine e_goto (n := 25) dX4_init_47 rfl ?_
  refine e_iload_n dX4_init_25 rfl rfl ?_
  refine e_bipush dX4_init_26 rfl rfl ?_
  refine e_icmp_ge (t := 50) dX4_init_28 rfl rfl (by decide) (by decide) (fun h => absurd h (by decide)) (fun _ => ?_)
  refine e_aload_n dX4_init_31 rfl rfl ?_
  refine EV.ceq (cs' := ([.inr (4, [.ref x1, vi 0, vi 0])] : List eE) ++ [eRf 4 8 (va_up (va_up (va_up (va_up (va_up (va_up (va_up (fun _ => none) 0 (some x2)) 1 (some x3)) 2 (some x4)) 3 (some x5)) 4 (some x6)) 5 (some x7)) 6 (some x8))] ++ wFl y2 sF0 (fun _ => 0) ++ wFl y3 sF0 (fun _ => 0) ++ wFl y4 sF0 (fun _ => 0) ++ wFl y5 sF0 (fun _ => 0) ++ wFl y6 sF0 (fun _ => 0) ++ wFl y7 sF0 (fun _ => 0) ++ wFl y8 sF0 (fun _ => 0)) rfl ?_
  refine e_getfield (i := 0) fd_X4_11 dX4_init_32 rfl rfl rfl rfl ?_
  refine e_iload_n dX4_init_35 rfl rfl ?_
  refine EV.ceq (cs' := ([.inr (4, [.ref x1, vi 0, vi 0])] : List eE) ++ [eRf 4 8 (va_up (va_up (va_up (va_up (va_up (va_up (va_up (fun _ => none) 0 (some x2)) 1 (some x3)) 2 (some x4)) 3 (some x5)) 4 (some x6)) 5 (some x7)) 6 (some x8))] ++ wFl y2 sF0 (fun _ => 0) ++ wFl y3 sF0 (fun _ => 0) ++ wFl y4 sF0 (fun _ => 0) ++ wFl y5 sF0 (fun _ => 0) ++ wFl y6 sF0 (fun _ => 0) ++ wFl y7 sF0 (fun _ => 0) ++ wFl y8 sF0 (fun _ => 0)) rfl ?_
  refine e_new (qs := [a 0, x1, x2, y2 1, y2 2, y2 3, y2 4, y2 5, y2 6, y2 7, y2 8, y2 9, x3, y3 1, y3 2, y3 3, y3 4, y3 5, y3 6, y3 7, y3 8, y3 9, x4, y4 1, y4 2, y4 3, y4 4, y4 5, y4 6, y4 7, y4 8, y4 9, x5, y5 1, y5 2, y5 3, y5 4, y5 5, y5 6, y5 7, y5 8, y5 9, x6, y6 1, y6 2, y6 3, y6 4, y6 5, y6 6, y6 7, y6 8, y6 9, x7, y7 1, y7 2, y7 3, y7 4, y7 5, y7 6, y7 7, y7 8, y7 9, x8, y8 1, y8 2, y8 3, y8 4, y8 5, y8 6, y8 7, y8 8, y8 9]) (cs := ([.inr (4, [.ref x1, vi 0, vi 0])] : List eE) ++ [eRf 4 8 (va_up (va_up (va_up (va_up (va_up (va_up (va_up (fun _ => none) 0 (some x2)) 1 (some x3)) 2 (some x4)) 3 (some x5)) 4 (some x6)) 5 (some x7)) 6 (some x8))] ++ wFl y2 sF0 (fun _ => 0) ++ wFl y3 sF0 (fun _ => 0) ++ wFl y4 sF0 (fun _ => 0) ++ wFl y5 sF0 (fun _ => 0) ++ wFl y6 sF0 (fun _ => 0) ++ wFl y7 sF0 (fun _ => 0) ++ wFl y8 sF0 (fun _ => 0)) (ci := 2) (N := 16) (fs := [.null, .null, .null, .null, vi 0, .null, .null, .null, vi 0, vi 0, vi 0, vi 0, vi 0, vi 0, vi 0, vi 0]) ⟨RX2, TX2, tyX2, rfl, inX2, tyX2_ok, wd_1_144, wd_1_39, wd_1_2, fun j hj => by
        rcases (show j = 0 ∨ j = 1 ∨ j = 2 ∨ j = 3 ∨ j = 4 ∨ j = 5 ∨ j = 6 ∨ j = 7 ∨ j = 8 ∨ j = 9 ∨ j = 10 ∨ j = 11 ∨ j = 12 ∨ j = 13 ∨ j = 14 ∨ j = 15 by omega) with h | h | h | h | h | h | h | h | h | h | h | h | h | h | h | h <;> subst h <;> rfl⟩ dX4_init_36 rfl rfl (9, 108) ⟨(Nat.le_of_ble_eq_true rfl), (Nat.le_of_ble_eq_true rfl)⟩ ?_
  intro x9
  refine e_dup dX4_init_39 rfl rfl ?_
  refine e_ctor (qs := [a 0, x1, x2, y2 1, y2 2, y2 3, y2 4, y2 5, y2 6, y2 7, y2 8, y2 9, x3, y3 1, y3 2, y3 3, y3 4, y3 5, y3 6, y3 7, y3 8, y3 9, x4, y4 1, y4 2, y4 3, y4 4, y4 5, y4 6, y4 7, y4 8, y4 9, x5, y5 1, y5 2, y5 3, y5 4, y5 5, y5 6, y5 7, y5 8, y5 9, x6, y6 1, y6 2, y6 3, y6 4, y6 5, y6 6, y6 7, y6 8, y6 9, x7, y7 1, y7 2, y7 3, y7 4, y7 5, y7 6, y7 7, y7 8, y7 9, x8, y8 1, y8 2, y8 3, y8 4, y8 5, y8 6, y8 7, y8 8, y8 9]) (q := x9) (k := 9) (cs := ([.inr (4, [.ref x1, vi 0, vi 0])] : List eE) ++ [eRf 4 8 (va_up (va_up (va_up (va_up (va_up (va_up (va_up (fun _ => none) 0 (some x2)) 1 (some x3)) 2 (some x4)) 3 (some x5)) 4 (some x6)) 5 (some x7)) 6 (some x8))] ++ wFl y2 sF0 (fun _ => 0) ++ wFl y3 sF0 (fun _ => 0) ++ wFl y4 sF0 (fun _ => 0) ++ wFl y5 sF0 (fun _ => 0) ++ wFl y6 sF0 (fun _ => 0) ++ wFl y7 sF0 (fun _ => 0) ++ wFl y8 sF0 (fun _ => 0)) (c0 := .inr (2, [.null, .null, .null, .null, vi 0, .null, .null, .null, vi 0, vi 0, vi 0, vi 0, vi 0, vi 0, vi 0, vi 0])) (W := fun a1 => wFl a1 sF0 (fun _ => 0)) ⟨⟨"BasketFlock", List.mem_of_getElem? (i := 3) rfl⟩, ca_X2_init.1, ca_X2_init.2.1, ca_X2_init.2.2.1, ca_X2_init.2.2.2, wd_1_41, rfl⟩ rfl rfl dX4_init_40 rfl (fun a0 => C_X2_init) (fun a1 => rfl) rfl rfl (Nat.le_of_ble_eq_true rfl) (Nat.le_of_ble_eq_true rfl) (Nat.le_of_ble_eq_true rfl) (0, 0) ⟨(Nat.le_of_ble_eq_true rfl), (Nat.le_of_ble_eq_true rfl)⟩ ?_
  intro y9 y9h
  refine EV.cong (a' := eAd [a 0, x1, x2, y2 1, y2 2, y2 3, y2 4, y2 5, y2 6, y2 7, y2 8, y2 9, x3, y3 1, y3 2, y3 3, y3 4, y3 5, y3 6, y3 7, y3 8, y3 9, x4, y4 1, y4 2, y4 3, y4 4, y4 5, y4 6, y4 7, y4 8, y4 9, x5, y5 1, y5 2, y5 3, y5 4, y5 5, y5 6, y5 7, y5 8, y5 9, x6, y6 1, y6 2, y6 3, y6 4, y6 5, y6 6, y6 7, y6 8, y6 9, x7, y7 1, y7 2, y7 3, y7 4, y7 5, y7 6, y7 7, y7 8, y7 9, x8, y8 1, y8 2, y8 3, y8 4, y8 5, y8 6, y8 7, y8 8, y8 9, x9, y9 1, y9 2, y9 3, y9 4, y9 5, y9 6, y9 7, y9 8, y9 9]) (fun k hk => rfl) ?_
  refine EV.ceq (cs' := ([.inr (4, [.ref x1, vi 0, vi 0])] : List eE) ++ [eRf 4 8 (va_up (va_up (va_up (va_up (va_up (va_up (va_up (fun _ => none) 0 (some x2)) 1 (some x3)) 2 (some x4)) 3 (some x5)) 4 (some x6)) 5 (some x7)) 6 (some x8))] ++ wFl y2 sF0 (fun _ => 0) ++ wFl y3 sF0 (fun _ => 0) ++ wFl y4 sF0 (fun _ => 0) ++ wFl y5 sF0 (fun _ => 0) ++ wFl y6 sF0 (fun _ => 0) ++ wFl y7 sF0 (fun _ => 0) ++ wFl y8 sF0 (fun _ => 0) ++ wFl y9 sF0 (fun _ => 0)) rfl ?_
  refine e_aastore (i := 1) (j := 72) (ci := 2) dX4_init_43 rfl rfl rfl rfl rfl rfl rfl (by decide) (by decide) ?_
  refine f_iinc dX4_init_44 rfl rfl (Nat.le_of_ble_eq_true rfl) rfl ?_
  refine e_goto (n := 25) dX4_init_47 rfl ?_
  refine e_iload_n dX4_init_25 rfl rfl ?_
  refine e_bipush dX4_init_26 rfl rfl ?_
  refine e_icmp_ge (t := 50) dX4_init_28 rfl rfl (by decide) (by decide) (fun _ => ?_) (fun h => absurd h (by decide))
  refine EV.ceq (cs' := ([.inr (4, [.ref x1, vi 0, vi 0])] : List eE) ++ [eRf 4 8 (va_up (va_up (va_up (va_up (va_up (va_up (va_up (va_up (fun _ => none) 0 (some x2)) 1 (some x3)) 2 (some x4)) 3 (some x5)) 4 (some x6)) 5 (some x7)) 6 (some x8)) 7 (some x9))] ++ wFl y2 sF0 (fun _ => 0) ++ wFl y3 sF0 (fun _ => 0) ++ wFl y4 sF0 (fun _ => 0) ++ wFl y5 sF0 (fun _ => 0) ++ wFl y6 sF0 (fun _ => 0) ++ wFl y7 sF0 (fun _ => 0) ++ wFl y8 sF0 (fun _ => 0) ++ wFl y9 sF0 (fun _ => 0)) rfl ?_
  refine EV.ceq (cs' := ([.inr (4, [.ref x1, vi 0, vi 0])] : List eE) ++ [eRf 4 8 (fun j => [x2, x3, x4, x5, x6, x7, x8, x9][j]?)] ++ wFl y2 sF0 (fun _ => 0) ++ wFl y3 sF0 (fun _ => 0) ++ wFl y4 sF0 (fun _ => 0) ++ wFl y5 sF0 (fun _ => 0) ++ wFl y6 sF0 (fun _ => 0) ++ wFl y7 sF0 (fun _ => 0) ++ wFl y8 sF0 (fun _ => 0) ++ wFl y9 sF0 (fun _ => 0)) (by rw [row8]) ?_
  refine EV.ceq (cs' := wHi (eAd [a 0, x1, x2, y2 1, y2 2, y2 3, y2 4, y2 5, y2 6, y2 7, y2 8, y2 9, x3, y3 1, y3 2, y3 3, y3 4, y3 5, y3 6, y3 7, y3 8, y3 9, x4, y4 1, y4 2, y4 3, y4 4, y4 5, y4 6, y4 7, y4 8, y4 9, x5, y5 1, y5 2, y5 3, y5 4, y5 5, y5 6, y5 7, y5 8, y5 9, x6, y6 1, y6 2, y6 3, y6 4, y6 5, y6 6, y6 7, y6 8, y6 9, x7, y7 1, y7 2, y7 3, y7 4, y7 5, y7 6, y7 7, y7 8, y7 9, x8, y8 1, y8 2, y8 3, y8 4, y8 5, y8 6, y8 7, y8 8, y8 9, x9, y9 1, y9 2, y9 3, y9 4, y9 5, y9 6, y9 7, y9 8, y9 9]) 0 0 hs0) rfl ?_
  exact e_vret dX4_init_50 rfl ⟨rfl, rfl, rfl⟩

theorem C_X1_init {X : eXT} {a : Nat → Nat} : EM X mX1_init (eRn 1 13 110) a [.ref (a 0)] [.inr (1, [.null, vi 0, .null, .null, vi 0, vi 0])] (eNewQ a (fun a1 => wTx a1 tT0 (fun _ _ => 0))) := by
  refine EM.of (by decide +kernel) rfl (Nat.le_of_ble_eq_true rfl) ?_
  refine EV.cong eAd_1 ?_
  refine e_aload_n dX1_init_0 rfl rfl ?_
  refine e_objInit wd_1_175 wd_1_36 wd_1_37 dX1_init_1 rfl (Nat.le_of_ble_eq_true rfl) (Nat.le_of_ble_eq_true rfl) ?_
  refine e_aload_n dX1_init_4 rfl rfl ?_
  refine e_bipush dX1_init_5 rfl rfl ?_
  refine EV.ceq (cs' := ([.inr (1, [.null, vi 0, .null, .null, vi 0, vi 0])] : List eE)) rfl ?_
  refine e_newarray (qs := [a 0]) (cs := ([.inr (1, [.null, vi 0, .null, .null, vi 0, vi 0])] : List eE)) (ar := .char) (ty := .char) (t := 2) (N := 60) (x := (60, .inl (fun j : Nat => Int32.ofInt ((fun _ => (0 : Int)) (j : Int))))) wd_1_197 rfl rfl (fun C h => by cases h) (fun cA => eNw_c cA) dX1_init_7 rfl (Nat.le_of_ble_eq_true rfl) (Nat.le_of_ble_eq_true rfl) rfl (12, 50) ⟨(Nat.le_of_ble_eq_true rfl), (Nat.le_of_ble_eq_true rfl)⟩ ?_
  intro x1
  refine e_putfieldF (i := 0) fd_X1_9 dX1_init_9 rfl rfl rfl rfl rfl (Nat.le_of_ble_eq_true rfl) rfl rfl ?_
  refine e_aload_n dX1_init_12 rfl rfl ?_
  refine e_iconst dX1_init_13 rfl ?_
  refine e_putfield (i := 0) fd_X1_15 dX1_init_14 rfl rfl rfl (Nat.le_of_ble_eq_true rfl) rfl rfl ?_
  refine e_aload_n dX1_init_17 rfl rfl ?_
  refine e_bipush dX1_init_18 rfl rfl ?_
  refine EV.ceq (cs' := ([.inr (1, [.ref x1, vi 0, .null, .null, vi 0, vi 0])] : List eE) ++ [eI 2 60 (fun _ => 0)]) rfl ?_
  refine e_newarray (qs := [a 0, x1]) (cs := ([.inr (1, [.ref x1, vi 0, .null, .null, vi 0, vi 0])] : List eE) ++ [eI 2 60 (fun _ => 0)]) (ar := .int) (ty := .int) (t := 0) (N := 10) (x := (10, .inl (fun j : Nat => Int32.ofInt ((fun _ => (0 : Int)) (j : Int))))) wd_1_59 rfl rfl (fun C h => by cases h) (fun cA => eNw_i cA) dX1_init_20 rfl (Nat.le_of_ble_eq_true rfl) (Nat.le_of_ble_eq_true rfl) rfl (11, 40) ⟨(Nat.le_of_ble_eq_true rfl), (Nat.le_of_ble_eq_true rfl)⟩ ?_
  intro x2
  refine e_putfieldF (i := 0) fd_X1_19 dX1_init_22 rfl rfl rfl rfl rfl (Nat.le_of_ble_eq_true rfl) rfl rfl ?_
  refine e_aload_n dX1_init_25 rfl rfl ?_
  refine e_bipush dX1_init_26 rfl rfl ?_
  refine e_iconst dX1_init_28 rfl ?_
  refine EV.ceq (cs' := ([.inr (1, [.ref x1, vi 0, .ref x2, .null, vi 0, vi 0])] : List eE) ++ [eI 2 60 (fun _ => 0)] ++ [eI 0 10 (fun _ => 0)]) rfl ?_
  refine e_mna (qs := [a 0, x1, x2]) (cs := ([.inr (1, [.ref x1, vi 0, .ref x2, .null, vi 0, vi 0])] : List eE) ++ [eI 2 60 (fun _ => 0)] ++ [eI 0 10 (fun _ => 0)]) wd_1_176 wd_1_59 dX1_init_29 rfl rfl (0, 0) ⟨(Nat.le_of_ble_eq_true rfl), (Nat.le_of_ble_eq_true rfl)⟩ ?_
  intro xr r0 r1 r2 r3 r4 r5 r6 r7 r8 r9
  refine e_putfieldF (i := 0) fd_X1_25 dX1_init_33 rfl rfl rfl rfl rfl (Nat.le_of_ble_eq_true rfl) rfl rfl ?_
  refine e_aload_n dX1_init_36 rfl rfl ?_
  refine e_iconst dX1_init_37 rfl ?_
  refine e_putfield (i := 0) fd_X1_28 dX1_init_38 rfl rfl rfl (Nat.le_of_ble_eq_true rfl) rfl rfl ?_
  refine e_aload_n dX1_init_41 rfl rfl ?_
  refine e_iconst dX1_init_42 rfl ?_
  refine e_putfield (i := 0) fd_X1_31 dX1_init_43 rfl rfl rfl (Nat.le_of_ble_eq_true rfl) rfl rfl ?_
  refine EV.ceq (cs' := wTx (eAd [a 0, x1, x2, xr, r0, r1, r2, r3, r4, r5, r6, r7, r8, r9]) tT0 (fun _ _ => 0)) rfl ?_
  exact e_vret dX1_init_46 rfl ⟨rfl, rfl, rfl⟩

/-- the addresses of the things of a BasketFlock at its start -/
def xAd (q : Nat) (y1 y2 y3 y4 y5 y6 : Nat → Nat) (x7 : Nat) : Nat → Nat := fun k => if k < 130 then (if k < 116 then (if k < 113 then (if k < 31 then (if k < 21 then (if k < 11 then (if k < 1 then q else y1 (k - 1)) else y2 (k - 11)) else y3 (k - 21)) else y4 (k - 31)) else y5 (k - 113)) else y6 (k - 116)) else x7
theorem eAd_rng {a1 : Nat → Nat} {n : Nat} : ∀ k, k < n + 1 → eAd (a1 0 :: (List.range n).map (fun i => a1 (1 + i))) k = a1 k := by
  intro k hk
  cases k with
  | zero => rfl
  | succ k =>
    show ((List.range n).map (fun i => a1 (1 + i))).getD k 0 = a1 (k + 1)
    rw [List.getD, List.getElem?_map, List.getElem?_range (by omega), Nat.add_comm k 1]
    rfl
theorem eAd_seg {A : List Nat} {y : Nat → Nat} {n m k : Nat} (hA : A.length = m) (hk : k < m + (n + 1)) : eAd (A ++ (y 0 :: (List.range n).map (fun i => y (1 + i)))) k = if k < m then eAd A k else y (k - m) := by
  subst hA
  by_cases h : k < A.length
  · rw [if_pos h, eAd_lt h]
  · rw [if_neg h]
    have e : k = A.length + (k - A.length) := by omega
    have e2 : eAd (A ++ (y 0 :: (List.range n).map (fun i => y (1 + i)))) k = eAd (y 0 :: (List.range n).map (fun i => y (1 + i))) (k - A.length) := by
      conv => lhs; rw [e]
      exact eAd_ge
    rw [e2]
    exact eAd_rng (k - A.length) (by omega)
theorem eAd_lst {A : List Nat} {x m k : Nat} (hA : A.length = m) (hk : k < m + 1) : eAd (A ++ [x]) k = if k < m then eAd A k else x := by
  subst hA
  by_cases h : k < A.length
  · rw [if_pos h, eAd_lt h]
  · rw [if_neg h]
    have e : k = A.length + 0 := by omega
    subst e
    rw [eAd_ge]
    rfl
theorem xAd_ok {q x7 : Nat} {y1 y2 y3 y4 y5 y6 : Nat → Nat} : ∀ k, k < 131 → eAd [q, y1 0, y1 1, y1 2, y1 3, y1 4, y1 5, y1 6, y1 7, y1 8, y1 9, y2 0, y2 1, y2 2, y2 3, y2 4, y2 5, y2 6, y2 7, y2 8, y2 9, y3 0, y3 1, y3 2, y3 3, y3 4, y3 5, y3 6, y3 7, y3 8, y3 9, y4 0, y4 1, y4 2, y4 3, y4 4, y4 5, y4 6, y4 7, y4 8, y4 9, y4 10, y4 11, y4 12, y4 13, y4 14, y4 15, y4 16, y4 17, y4 18, y4 19, y4 20, y4 21, y4 22, y4 23, y4 24, y4 25, y4 26, y4 27, y4 28, y4 29, y4 30, y4 31, y4 32, y4 33, y4 34, y4 35, y4 36, y4 37, y4 38, y4 39, y4 40, y4 41, y4 42, y4 43, y4 44, y4 45, y4 46, y4 47, y4 48, y4 49, y4 50, y4 51, y4 52, y4 53, y4 54, y4 55, y4 56, y4 57, y4 58, y4 59, y4 60, y4 61, y4 62, y4 63, y4 64, y4 65, y4 66, y4 67, y4 68, y4 69, y4 70, y4 71, y4 72, y4 73, y4 74, y4 75, y4 76, y4 77, y4 78, y4 79, y4 80, y4 81, y5 0, y5 1, y5 2, y6 0, y6 1, y6 2, y6 3, y6 4, y6 5, y6 6, y6 7, y6 8, y6 9, y6 10, y6 11, y6 12, y6 13, x7] k = xAd q y1 y2 y3 y4 y5 y6 x7 k := by
  intro k hk
  have e : ([q, y1 0, y1 1, y1 2, y1 3, y1 4, y1 5, y1 6, y1 7, y1 8, y1 9, y2 0, y2 1, y2 2, y2 3, y2 4, y2 5, y2 6, y2 7, y2 8, y2 9, y3 0, y3 1, y3 2, y3 3, y3 4, y3 5, y3 6, y3 7, y3 8, y3 9, y4 0, y4 1, y4 2, y4 3, y4 4, y4 5, y4 6, y4 7, y4 8, y4 9, y4 10, y4 11, y4 12, y4 13, y4 14, y4 15, y4 16, y4 17, y4 18, y4 19, y4 20, y4 21, y4 22, y4 23, y4 24, y4 25, y4 26, y4 27, y4 28, y4 29, y4 30, y4 31, y4 32, y4 33, y4 34, y4 35, y4 36, y4 37, y4 38, y4 39, y4 40, y4 41, y4 42, y4 43, y4 44, y4 45, y4 46, y4 47, y4 48, y4 49, y4 50, y4 51, y4 52, y4 53, y4 54, y4 55, y4 56, y4 57, y4 58, y4 59, y4 60, y4 61, y4 62, y4 63, y4 64, y4 65, y4 66, y4 67, y4 68, y4 69, y4 70, y4 71, y4 72, y4 73, y4 74, y4 75, y4 76, y4 77, y4 78, y4 79, y4 80, y4 81, y5 0, y5 1, y5 2, y6 0, y6 1, y6 2, y6 3, y6 4, y6 5, y6 6, y6 7, y6 8, y6 9, y6 10, y6 11, y6 12, y6 13, x7] : List Nat) = ((((((([q] : List Nat) ++ (y1 0 :: (List.range 9).map (fun i => y1 (1 + i)))) ++ (y2 0 :: (List.range 9).map (fun i => y2 (1 + i)))) ++ (y3 0 :: (List.range 9).map (fun i => y3 (1 + i)))) ++ (y4 0 :: (List.range 81).map (fun i => y4 (1 + i)))) ++ (y5 0 :: (List.range 2).map (fun i => y5 (1 + i)))) ++ (y6 0 :: (List.range 13).map (fun i => y6 (1 + i)))) ++ [x7] := rfl
  rw [e]
  have l0 : ([q] : List Nat).length = 1 := rfl
  have l1 : (([q] : List Nat) ++ (y1 0 :: (List.range 9).map (fun i => y1 (1 + i)))).length = 11 := by rw [List.length_append, l0, List.length_cons, List.length_map, List.length_range]
  have l2 : ((([q] : List Nat) ++ (y1 0 :: (List.range 9).map (fun i => y1 (1 + i)))) ++ (y2 0 :: (List.range 9).map (fun i => y2 (1 + i)))).length = 21 := by rw [List.length_append, l1, List.length_cons, List.length_map, List.length_range]
  have l3 : (((([q] : List Nat) ++ (y1 0 :: (List.range 9).map (fun i => y1 (1 + i)))) ++ (y2 0 :: (List.range 9).map (fun i => y2 (1 + i)))) ++ (y3 0 :: (List.range 9).map (fun i => y3 (1 + i)))).length = 31 := by rw [List.length_append, l2, List.length_cons, List.length_map, List.length_range]
  have l4 : ((((([q] : List Nat) ++ (y1 0 :: (List.range 9).map (fun i => y1 (1 + i)))) ++ (y2 0 :: (List.range 9).map (fun i => y2 (1 + i)))) ++ (y3 0 :: (List.range 9).map (fun i => y3 (1 + i)))) ++ (y4 0 :: (List.range 81).map (fun i => y4 (1 + i)))).length = 113 := by rw [List.length_append, l3, List.length_cons, List.length_map, List.length_range]
  have l5 : (((((([q] : List Nat) ++ (y1 0 :: (List.range 9).map (fun i => y1 (1 + i)))) ++ (y2 0 :: (List.range 9).map (fun i => y2 (1 + i)))) ++ (y3 0 :: (List.range 9).map (fun i => y3 (1 + i)))) ++ (y4 0 :: (List.range 81).map (fun i => y4 (1 + i)))) ++ (y5 0 :: (List.range 2).map (fun i => y5 (1 + i)))).length = 116 := by rw [List.length_append, l4, List.length_cons, List.length_map, List.length_range]
  have l6 : ((((((([q] : List Nat) ++ (y1 0 :: (List.range 9).map (fun i => y1 (1 + i)))) ++ (y2 0 :: (List.range 9).map (fun i => y2 (1 + i)))) ++ (y3 0 :: (List.range 9).map (fun i => y3 (1 + i)))) ++ (y4 0 :: (List.range 81).map (fun i => y4 (1 + i)))) ++ (y5 0 :: (List.range 2).map (fun i => y5 (1 + i)))) ++ (y6 0 :: (List.range 13).map (fun i => y6 (1 + i)))).length = 130 := by rw [List.length_append, l5, List.length_cons, List.length_map, List.length_range]
  unfold xAd
  rw [eAd_lst l6 hk]
  by_cases h6 : k < 130
  · rw [if_pos h6, if_pos h6, eAd_seg l5 h6]
    by_cases h5 : k < 116
    · rw [if_pos h5, if_pos h5, eAd_seg l4 h5]
      by_cases h4 : k < 113
      · rw [if_pos h4, if_pos h4, eAd_seg l3 h4]
        by_cases h3 : k < 31
        · rw [if_pos h3, if_pos h3, eAd_seg l2 h3]
          by_cases h2 : k < 21
          · rw [if_pos h2, if_pos h2, eAd_seg l1 h2]
            by_cases h1 : k < 11
            · rw [if_pos h1, if_pos h1, eAd_seg l0 h1]
              by_cases h0 : k < 1
              · rw [if_pos h0, if_pos h0]
                have e0 : k = 0 := by omega
                subst e0
                rfl
              · rw [if_neg h0, if_neg h0]
            · rw [if_neg h1, if_neg h1]
          · rw [if_neg h2, if_neg h2]
        · rw [if_neg h3, if_neg h3]
      · rw [if_neg h4, if_neg h4]
    · rw [if_neg h5, if_neg h5]
  · rw [if_neg h6, if_neg h6]
theorem xAd_A {q x7 : Nat} {y1 y2 y3 y4 y5 y6 : Nat → Nat} : wA (xAd q y1 y2 y3 y4 y5 y6 x7) zz0 (fun _ => 0) sF0 (fun _ => 0) sF0 (fun _ => 0) sF0 (fun _ => 0) 0 0 hs0 (fun _ => 0) (fun _ => 0) tT0 (fun _ _ => 0) [] = ([.inr (6, [.ref (y1 0), .ref (y2 0), .ref (y3 0), vi 0, .ref (y4 0), .ref (y5 0), .ref (y6 0), vi (-1), vi (-1), vi (-1), vi (-1), .ref x7, vi 0])] : List eE) ++ wFl y1 sF0 (fun _ => 0) ++ wFl y2 sF0 (fun _ => 0) ++ wFl y3 sF0 (fun _ => 0) ++ wHi y4 0 0 hs0 ++ ([.inr (3, [.ref (y5 1), .ref (y5 2)]), eI 0 10 (fun _ => 0), eI 0 10 (fun _ => 0)] : List eE) ++ wTx y6 tT0 (fun _ _ => 0) ++ [eI 2 12 (fun _ => 0)] := by
  have f1 : wFl (fun k => xAd q y1 y2 y3 y4 y5 y6 x7 (1 + k)) sF0 (fun _ => 0) = wFl y1 sF0 (fun _ => 0) := rfl
  have f2 : wFl (fun k => xAd q y1 y2 y3 y4 y5 y6 x7 (11 + k)) sF0 (fun _ => 0) = wFl y2 sF0 (fun _ => 0) := rfl
  have f3 : wFl (fun k => xAd q y1 y2 y3 y4 y5 y6 x7 (21 + k)) sF0 (fun _ => 0) = wFl y3 sF0 (fun _ => 0) := rfl
  have f4 : wHi (fun k => xAd q y1 y2 y3 y4 y5 y6 x7 (31 + k)) 0 0 hs0 = wHi y4 0 0 hs0 := rfl
  have f6 : wTx (fun k => xAd q y1 y2 y3 y4 y5 y6 x7 (116 + k)) tT0 (fun _ _ => 0) = wTx y6 tT0 (fun _ _ => 0) := rfl
  unfold wA
  rw [f1, f2, f3, f4, f6]
  simp only [List.append_assoc, List.append_nil]
  rfl
set_option maxHeartbeats 2000000 in
theorem C_X6_init {X : eXT} {a : Nat → Nat} : EM X mX6_init (eRn 4 130 1525) a [.ref (a 0)] [.inr (6, [.null, .null, .null, vi 0, .null, .null, .null, vi 0, vi 0, vi 0, vi 0, .null, vi 0])] (eNewQ a (fun a1 => wA a1 zz0 (fun _ => 0) sF0 (fun _ => 0) sF0 (fun _ => 0) sF0 (fun _ => 0) 0 0 hs0 (fun _ => 0) (fun _ => 0) tT0 (fun _ _ => 0) [])) := by
  refine EM.of (by decide +kernel) rfl (Nat.le_of_ble_eq_true rfl) ?_
  refine EV.cong eAd_1 ?_
  refine e_aload_n dX6_init_0 rfl rfl ?_
  refine e_objInit wd_1_35 wd_1_36 wd_1_37 dX6_init_1 rfl (Nat.le_of_ble_eq_true rfl) (Nat.le_of_ble_eq_true rfl) ?_
  refine e_aload_n dX6_init_4 rfl rfl ?_
  refine EV.ceq (cs' := ([.inr (6, [.null, .null, .null, vi 0, .null, .null, .null, vi 0, vi 0, vi 0, vi 0, .null, vi 0])] : List eE)) rfl ?_
  refine e_new (qs := [a 0]) (cs := ([.inr (6, [.null, .null, .null, vi 0, .null, .null, .null, vi 0, vi 0, vi 0, vi 0, .null, vi 0])] : List eE)) (ci := 2) (N := 16) (fs := [.null, .null, .null, .null, vi 0, .null, .null, .null, vi 0, vi 0, vi 0, vi 0, vi 0, vi 0, vi 0, vi 0]) ⟨RX2, TX2, tyX2, rfl, inX2, tyX2_ok, wd_1_38, wd_1_39, wd_1_2, fun j hj => by
        rcases (show j = 0 ∨ j = 1 ∨ j = 2 ∨ j = 3 ∨ j = 4 ∨ j = 5 ∨ j = 6 ∨ j = 7 ∨ j = 8 ∨ j = 9 ∨ j = 10 ∨ j = 11 ∨ j = 12 ∨ j = 13 ∨ j = 14 ∨ j = 15 by omega) with h | h | h | h | h | h | h | h | h | h | h | h | h | h | h | h <;> subst h <;> rfl⟩ dX6_init_5 rfl rfl (129, 1509) ⟨(Nat.le_of_ble_eq_true rfl), (Nat.le_of_ble_eq_true rfl)⟩ ?_
  intro x1
  refine e_dup dX6_init_8 rfl rfl ?_
  refine e_ctor (qs := [a 0]) (q := x1) (k := 9) (cs := ([.inr (6, [.null, .null, .null, vi 0, .null, .null, .null, vi 0, vi 0, vi 0, vi 0, .null, vi 0])] : List eE)) (c0 := .inr (2, [.null, .null, .null, .null, vi 0, .null, .null, .null, vi 0, vi 0, vi 0, vi 0, vi 0, vi 0, vi 0, vi 0])) (W := fun a1 => wFl a1 sF0 (fun _ => 0)) ⟨⟨"BasketFlock", List.mem_of_getElem? (i := 0) rfl⟩, ca_X2_init.1, ca_X2_init.2.1, ca_X2_init.2.2.1, ca_X2_init.2.2.2, wd_1_41, rfl⟩ rfl rfl dX6_init_9 rfl (fun a0 => C_X2_init) (fun a1 => rfl) rfl rfl (Nat.le_of_ble_eq_true rfl) (Nat.le_of_ble_eq_true rfl) (Nat.le_of_ble_eq_true rfl) (120, 1401) ⟨(Nat.le_of_ble_eq_true rfl), (Nat.le_of_ble_eq_true rfl)⟩ ?_
  intro y1 y1h
  refine EV.cong (a' := eAd [a 0, x1, y1 1, y1 2, y1 3, y1 4, y1 5, y1 6, y1 7, y1 8, y1 9]) (fun k hk => rfl) ?_
  refine EV.ceq (cs' := ([.inr (6, [.null, .null, .null, vi 0, .null, .null, .null, vi 0, vi 0, vi 0, vi 0, .null, vi 0])] : List eE) ++ wFl y1 sF0 (fun _ => 0)) rfl ?_
  refine e_putfieldF (i := 0) fd_X6_10 dX6_init_12 rfl rfl rfl rfl rfl (Nat.le_of_ble_eq_true rfl) rfl rfl ?_
  refine e_aload_n dX6_init_15 rfl rfl ?_
  refine EV.ceq (cs' := ([.inr (6, [.ref x1, .null, .null, vi 0, .null, .null, .null, vi 0, vi 0, vi 0, vi 0, .null, vi 0])] : List eE) ++ wFl y1 sF0 (fun _ => 0)) rfl ?_
  refine e_new (qs := [a 0, x1, y1 1, y1 2, y1 3, y1 4, y1 5, y1 6, y1 7, y1 8, y1 9]) (cs := ([.inr (6, [.ref x1, .null, .null, vi 0, .null, .null, .null, vi 0, vi 0, vi 0, vi 0, .null, vi 0])] : List eE) ++ wFl y1 sF0 (fun _ => 0)) (ci := 2) (N := 16) (fs := [.null, .null, .null, .null, vi 0, .null, .null, .null, vi 0, vi 0, vi 0, vi 0, vi 0, vi 0, vi 0, vi 0]) ⟨RX2, TX2, tyX2, rfl, inX2, tyX2_ok, wd_1_38, wd_1_39, wd_1_2, fun j hj => by
        rcases (show j = 0 ∨ j = 1 ∨ j = 2 ∨ j = 3 ∨ j = 4 ∨ j = 5 ∨ j = 6 ∨ j = 7 ∨ j = 8 ∨ j = 9 ∨ j = 10 ∨ j = 11 ∨ j = 12 ∨ j = 13 ∨ j = 14 ∨ j = 15 by omega) with h | h | h | h | h | h | h | h | h | h | h | h | h | h | h | h <;> subst h <;> rfl⟩ dX6_init_16 rfl rfl (119, 1385) ⟨(Nat.le_of_ble_eq_true rfl), (Nat.le_of_ble_eq_true rfl)⟩ ?_
  intro x2
  refine e_dup dX6_init_19 rfl rfl ?_
  refine e_ctor (qs := [a 0, x1, y1 1, y1 2, y1 3, y1 4, y1 5, y1 6, y1 7, y1 8, y1 9]) (q := x2) (k := 9) (cs := ([.inr (6, [.ref x1, .null, .null, vi 0, .null, .null, .null, vi 0, vi 0, vi 0, vi 0, .null, vi 0])] : List eE) ++ wFl y1 sF0 (fun _ => 0)) (c0 := .inr (2, [.null, .null, .null, .null, vi 0, .null, .null, .null, vi 0, vi 0, vi 0, vi 0, vi 0, vi 0, vi 0, vi 0])) (W := fun a1 => wFl a1 sF0 (fun _ => 0)) ⟨⟨"BasketFlock", List.mem_of_getElem? (i := 0) rfl⟩, ca_X2_init.1, ca_X2_init.2.1, ca_X2_init.2.2.1, ca_X2_init.2.2.2, wd_1_41, rfl⟩ rfl rfl dX6_init_20 rfl (fun a0 => C_X2_init) (fun a1 => rfl) rfl rfl (Nat.le_of_ble_eq_true rfl) (Nat.le_of_ble_eq_true rfl) (Nat.le_of_ble_eq_true rfl) (110, 1277) ⟨(Nat.le_of_ble_eq_true rfl), (Nat.le_of_ble_eq_true rfl)⟩ ?_
  intro y2 y2h
  refine EV.cong (a' := eAd [a 0, x1, y1 1, y1 2, y1 3, y1 4, y1 5, y1 6, y1 7, y1 8, y1 9, x2, y2 1, y2 2, y2 3, y2 4, y2 5, y2 6, y2 7, y2 8, y2 9]) (fun k hk => rfl) ?_
  refine EV.ceq (cs' := ([.inr (6, [.ref x1, .null, .null, vi 0, .null, .null, .null, vi 0, vi 0, vi 0, vi 0, .null, vi 0])] : List eE) ++ wFl y1 sF0 (fun _ => 0) ++ wFl y2 sF0 (fun _ => 0)) rfl ?_
  refine e_putfieldF (i := 0) fd_X6_16 dX6_init_23 rfl rfl rfl rfl rfl (Nat.le_of_ble_eq_true rfl) rfl rfl ?_
  refine e_aload_n dX6_init_26 rfl rfl ?_
  refine EV.ceq (cs' := ([.inr (6, [.ref x1, .ref x2, .null, vi 0, .null, .null, .null, vi 0, vi 0, vi 0, vi 0, .null, vi 0])] : List eE) ++ wFl y1 sF0 (fun _ => 0) ++ wFl y2 sF0 (fun _ => 0)) rfl ?_
  refine e_new (qs := [a 0, x1, y1 1, y1 2, y1 3, y1 4, y1 5, y1 6, y1 7, y1 8, y1 9, x2, y2 1, y2 2, y2 3, y2 4, y2 5, y2 6, y2 7, y2 8, y2 9]) (cs := ([.inr (6, [.ref x1, .ref x2, .null, vi 0, .null, .null, .null, vi 0, vi 0, vi 0, vi 0, .null, vi 0])] : List eE) ++ wFl y1 sF0 (fun _ => 0) ++ wFl y2 sF0 (fun _ => 0)) (ci := 2) (N := 16) (fs := [.null, .null, .null, .null, vi 0, .null, .null, .null, vi 0, vi 0, vi 0, vi 0, vi 0, vi 0, vi 0, vi 0]) ⟨RX2, TX2, tyX2, rfl, inX2, tyX2_ok, wd_1_38, wd_1_39, wd_1_2, fun j hj => by
        rcases (show j = 0 ∨ j = 1 ∨ j = 2 ∨ j = 3 ∨ j = 4 ∨ j = 5 ∨ j = 6 ∨ j = 7 ∨ j = 8 ∨ j = 9 ∨ j = 10 ∨ j = 11 ∨ j = 12 ∨ j = 13 ∨ j = 14 ∨ j = 15 by omega) with h | h | h | h | h | h | h | h | h | h | h | h | h | h | h | h <;> subst h <;> rfl⟩ dX6_init_27 rfl rfl (109, 1261) ⟨(Nat.le_of_ble_eq_true rfl), (Nat.le_of_ble_eq_true rfl)⟩ ?_
  intro x3
  refine e_dup dX6_init_30 rfl rfl ?_
  refine e_ctor (qs := [a 0, x1, y1 1, y1 2, y1 3, y1 4, y1 5, y1 6, y1 7, y1 8, y1 9, x2, y2 1, y2 2, y2 3, y2 4, y2 5, y2 6, y2 7, y2 8, y2 9]) (q := x3) (k := 9) (cs := ([.inr (6, [.ref x1, .ref x2, .null, vi 0, .null, .null, .null, vi 0, vi 0, vi 0, vi 0, .null, vi 0])] : List eE) ++ wFl y1 sF0 (fun _ => 0) ++ wFl y2 sF0 (fun _ => 0)) (c0 := .inr (2, [.null, .null, .null, .null, vi 0, .null, .null, .null, vi 0, vi 0, vi 0, vi 0, vi 0, vi 0, vi 0, vi 0])) (W := fun a1 => wFl a1 sF0 (fun _ => 0)) ⟨⟨"BasketFlock", List.mem_of_getElem? (i := 0) rfl⟩, ca_X2_init.1, ca_X2_init.2.1, ca_X2_init.2.2.1, ca_X2_init.2.2.2, wd_1_41, rfl⟩ rfl rfl dX6_init_31 rfl (fun a0 => C_X2_init) (fun a1 => rfl) rfl rfl (Nat.le_of_ble_eq_true rfl) (Nat.le_of_ble_eq_true rfl) (Nat.le_of_ble_eq_true rfl) (100, 1153) ⟨(Nat.le_of_ble_eq_true rfl), (Nat.le_of_ble_eq_true rfl)⟩ ?_
  intro y3 y3h
  refine EV.cong (a' := eAd [a 0, x1, y1 1, y1 2, y1 3, y1 4, y1 5, y1 6, y1 7, y1 8, y1 9, x2, y2 1, y2 2, y2 3, y2 4, y2 5, y2 6, y2 7, y2 8, y2 9, x3, y3 1, y3 2, y3 3, y3 4, y3 5, y3 6, y3 7, y3 8, y3 9]) (fun k hk => rfl) ?_
  refine EV.ceq (cs' := ([.inr (6, [.ref x1, .ref x2, .null, vi 0, .null, .null, .null, vi 0, vi 0, vi 0, vi 0, .null, vi 0])] : List eE) ++ wFl y1 sF0 (fun _ => 0) ++ wFl y2 sF0 (fun _ => 0) ++ wFl y3 sF0 (fun _ => 0)) rfl ?_
  refine e_putfieldF (i := 0) fd_X6_19 dX6_init_34 rfl rfl rfl rfl rfl (Nat.le_of_ble_eq_true rfl) rfl rfl ?_
  refine e_aload_n dX6_init_37 rfl rfl ?_
  refine e_iconst dX6_init_38 rfl ?_
  refine e_putfield (i := 0) fd_X6_22 dX6_init_39 rfl rfl rfl (Nat.le_of_ble_eq_true rfl) (by decide) (by decide) ?_
  refine e_aload_n dX6_init_42 rfl rfl ?_
  refine EV.ceq (cs' := ([.inr (6, [.ref x1, .ref x2, .ref x3, vi 0, .null, .null, .null, vi 0, vi 0, vi 0, vi 0, .null, vi 0])] : List eE) ++ wFl y1 sF0 (fun _ => 0) ++ wFl y2 sF0 (fun _ => 0) ++ wFl y3 sF0 (fun _ => 0)) rfl ?_
  refine e_new (qs := [a 0, x1, y1 1, y1 2, y1 3, y1 4, y1 5, y1 6, y1 7, y1 8, y1 9, x2, y2 1, y2 2, y2 3, y2 4, y2 5, y2 6, y2 7, y2 8, y2 9, x3, y3 1, y3 2, y3 3, y3 4, y3 5, y3 6, y3 7, y3 8, y3 9]) (cs := ([.inr (6, [.ref x1, .ref x2, .ref x3, vi 0, .null, .null, .null, vi 0, vi 0, vi 0, vi 0, .null, vi 0])] : List eE) ++ wFl y1 sF0 (fun _ => 0) ++ wFl y2 sF0 (fun _ => 0) ++ wFl y3 sF0 (fun _ => 0)) (ci := 4) (N := 3) (fs := [.null, vi 0, vi 0]) ⟨RX4, TX4, tyX4, rfl, inX4, tyX4_ok, wd_1_138, wd_1_139, wd_1_5, fun j hj => by
        rcases (show j = 0 ∨ j = 1 ∨ j = 2 by omega) with h | h | h <;> subst h <;> rfl⟩ dX6_init_43 rfl rfl (99, 1150) ⟨(Nat.le_of_ble_eq_true rfl), (Nat.le_of_ble_eq_true rfl)⟩ ?_
  intro x4
  refine e_dup dX6_init_46 rfl rfl ?_
  refine e_ctorI (qs := [a 0, x1, y1 1, y1 2, y1 3, y1 4, y1 5, y1 6, y1 7, y1 8, y1 9, x2, y2 1, y2 2, y2 3, y2 4, y2 5, y2 6, y2 7, y2 8, y2 9, x3, y3 1, y3 2, y3 3, y3 4, y3 5, y3 6, y3 7, y3 8, y3 9]) (q := x4) (k := 81) (cs := ([.inr (6, [.ref x1, .ref x2, .ref x3, vi 0, .null, .null, .null, vi 0, vi 0, vi 0, vi 0, .null, vi 0])] : List eE) ++ wFl y1 sF0 (fun _ => 0) ++ wFl y2 sF0 (fun _ => 0) ++ wFl y3 sF0 (fun _ => 0)) (c0 := .inr (4, [.null, vi 0, vi 0])) (W := fun a1 => wHi a1 0 0 hs0) li_X6_28 rfl rfl dX6_init_47 rfl (fun a0 => C_X4_init) (fun a1 => rfl) rfl rfl (Nat.le_of_ble_eq_true rfl) (Nat.le_of_ble_eq_true rfl) (Nat.le_of_ble_eq_true rfl) (18, 150) ⟨(Nat.le_of_ble_eq_true rfl), (Nat.le_of_ble_eq_true rfl)⟩ ?_
  intro y4 y4h
  refine EV.cong (a' := eAd [a 0, x1, y1 1, y1 2, y1 3, y1 4, y1 5, y1 6, y1 7, y1 8, y1 9, x2, y2 1, y2 2, y2 3, y2 4, y2 5, y2 6, y2 7, y2 8, y2 9, x3, y3 1, y3 2, y3 3, y3 4, y3 5, y3 6, y3 7, y3 8, y3 9, x4, y4 1, y4 2, y4 3, y4 4, y4 5, y4 6, y4 7, y4 8, y4 9, y4 10, y4 11, y4 12, y4 13, y4 14, y4 15, y4 16, y4 17, y4 18, y4 19, y4 20, y4 21, y4 22, y4 23, y4 24, y4 25, y4 26, y4 27, y4 28, y4 29, y4 30, y4 31, y4 32, y4 33, y4 34, y4 35, y4 36, y4 37, y4 38, y4 39, y4 40, y4 41, y4 42, y4 43, y4 44, y4 45, y4 46, y4 47, y4 48, y4 49, y4 50, y4 51, y4 52, y4 53, y4 54, y4 55, y4 56, y4 57, y4 58, y4 59, y4 60, y4 61, y4 62, y4 63, y4 64, y4 65, y4 66, y4 67, y4 68, y4 69, y4 70, y4 71, y4 72, y4 73, y4 74, y4 75, y4 76, y4 77, y4 78, y4 79, y4 80, y4 81]) (fun k hk => rfl) ?_
  refine EV.ceq (cs' := ([.inr (6, [.ref x1, .ref x2, .ref x3, vi 0, .null, .null, .null, vi 0, vi 0, vi 0, vi 0, .null, vi 0])] : List eE) ++ wFl y1 sF0 (fun _ => 0) ++ wFl y2 sF0 (fun _ => 0) ++ wFl y3 sF0 (fun _ => 0) ++ wHi y4 0 0 hs0) rfl ?_
  refine e_putfieldF (i := 0) fd_X6_29 dX6_init_50 rfl rfl rfl rfl rfl (Nat.le_of_ble_eq_true rfl) rfl rfl ?_
  refine e_aload_n dX6_init_53 rfl rfl ?_
  refine EV.ceq (cs' := ([.inr (6, [.ref x1, .ref x2, .ref x3, vi 0, .ref x4, .null, .null, vi 0, vi 0, vi 0, vi 0, .null, vi 0])] : List eE) ++ wFl y1 sF0 (fun _ => 0) ++ wFl y2 sF0 (fun _ => 0) ++ wFl y3 sF0 (fun _ => 0) ++ wHi y4 0 0 hs0) rfl ?_
  refine e_new (qs := [a 0, x1, y1 1, y1 2, y1 3, y1 4, y1 5, y1 6, y1 7, y1 8, y1 9, x2, y2 1, y2 2, y2 3, y2 4, y2 5, y2 6, y2 7, y2 8, y2 9, x3, y3 1, y3 2, y3 3, y3 4, y3 5, y3 6, y3 7, y3 8, y3 9, x4, y4 1, y4 2, y4 3, y4 4, y4 5, y4 6, y4 7, y4 8, y4 9, y4 10, y4 11, y4 12, y4 13, y4 14, y4 15, y4 16, y4 17, y4 18, y4 19, y4 20, y4 21, y4 22, y4 23, y4 24, y4 25, y4 26, y4 27, y4 28, y4 29, y4 30, y4 31, y4 32, y4 33, y4 34, y4 35, y4 36, y4 37, y4 38, y4 39, y4 40, y4 41, y4 42, y4 43, y4 44, y4 45, y4 46, y4 47, y4 48, y4 49, y4 50, y4 51, y4 52, y4 53, y4 54, y4 55, y4 56, y4 57, y4 58, y4 59, y4 60, y4 61, y4 62, y4 63, y4 64, y4 65, y4 66, y4 67, y4 68, y4 69, y4 70, y4 71, y4 72, y4 73, y4 74, y4 75, y4 76, y4 77, y4 78, y4 79, y4 80, y4 81]) (cs := ([.inr (6, [.ref x1, .ref x2, .ref x3, vi 0, .ref x4, .null, .null, vi 0, vi 0, vi 0, vi 0, .null, vi 0])] : List eE) ++ wFl y1 sF0 (fun _ => 0) ++ wFl y2 sF0 (fun _ => 0) ++ wFl y3 sF0 (fun _ => 0) ++ wHi y4 0 0 hs0) (ci := 3) (N := 2) (fs := [.null, .null]) ⟨RX3, TX3, tyX3, rfl, inX3, tyX3_ok, wd_1_157, wd_1_158, wd_1_6, fun j hj => by
        rcases (show j = 0 ∨ j = 1 by omega) with h | h <;> subst h <;> rfl⟩ dX6_init_54 rfl rfl (17, 148) ⟨(Nat.le_of_ble_eq_true rfl), (Nat.le_of_ble_eq_true rfl)⟩ ?_
  intro x5
  refine e_dup dX6_init_57 rfl rfl ?_
  refine e_ctor (qs := [a 0, x1, y1 1, y1 2, y1 3, y1 4, y1 5, y1 6, y1 7, y1 8, y1 9, x2, y2 1, y2 2, y2 3, y2 4, y2 5, y2 6, y2 7, y2 8, y2 9, x3, y3 1, y3 2, y3 3, y3 4, y3 5, y3 6, y3 7, y3 8, y3 9, x4, y4 1, y4 2, y4 3, y4 4, y4 5, y4 6, y4 7, y4 8, y4 9, y4 10, y4 11, y4 12, y4 13, y4 14, y4 15, y4 16, y4 17, y4 18, y4 19, y4 20, y4 21, y4 22, y4 23, y4 24, y4 25, y4 26, y4 27, y4 28, y4 29, y4 30, y4 31, y4 32, y4 33, y4 34, y4 35, y4 36, y4 37, y4 38, y4 39, y4 40, y4 41, y4 42, y4 43, y4 44, y4 45, y4 46, y4 47, y4 48, y4 49, y4 50, y4 51, y4 52, y4 53, y4 54, y4 55, y4 56, y4 57, y4 58, y4 59, y4 60, y4 61, y4 62, y4 63, y4 64, y4 65, y4 66, y4 67, y4 68, y4 69, y4 70, y4 71, y4 72, y4 73, y4 74, y4 75, y4 76, y4 77, y4 78, y4 79, y4 80, y4 81]) (q := x5) (k := 2) (cs := ([.inr (6, [.ref x1, .ref x2, .ref x3, vi 0, .ref x4, .null, .null, vi 0, vi 0, vi 0, vi 0, .null, vi 0])] : List eE) ++ wFl y1 sF0 (fun _ => 0) ++ wFl y2 sF0 (fun _ => 0) ++ wFl y3 sF0 (fun _ => 0) ++ wHi y4 0 0 hs0) (c0 := .inr (3, [.null, .null])) (W := fun a1 => [.inr (3, [.ref (a1 1), .ref (a1 2)]), eI 0 10 (fun _ => 0), eI 0 10 (fun _ => 0)]) ⟨⟨"BasketFlock", List.mem_of_getElem? (i := 4) rfl⟩, ca_X3_init.1, ca_X3_init.2.1, ca_X3_init.2.2.1, ca_X3_init.2.2.2, wd_1_160, rfl⟩ rfl rfl dX6_init_58 rfl (fun a0 => C_X3_init) (fun a1 => rfl) rfl rfl (Nat.le_of_ble_eq_true rfl) (Nat.le_of_ble_eq_true rfl) (Nat.le_of_ble_eq_true rfl) (15, 128) ⟨(Nat.le_of_ble_eq_true rfl), (Nat.le_of_ble_eq_true rfl)⟩ ?_
  intro y5 y5h
  refine EV.cong (a' := eAd [a 0, x1, y1 1, y1 2, y1 3, y1 4, y1 5, y1 6, y1 7, y1 8, y1 9, x2, y2 1, y2 2, y2 3, y2 4, y2 5, y2 6, y2 7, y2 8, y2 9, x3, y3 1, y3 2, y3 3, y3 4, y3 5, y3 6, y3 7, y3 8, y3 9, x4, y4 1, y4 2, y4 3, y4 4, y4 5, y4 6, y4 7, y4 8, y4 9, y4 10, y4 11, y4 12, y4 13, y4 14, y4 15, y4 16, y4 17, y4 18, y4 19, y4 20, y4 21, y4 22, y4 23, y4 24, y4 25, y4 26, y4 27, y4 28, y4 29, y4 30, y4 31, y4 32, y4 33, y4 34, y4 35, y4 36, y4 37, y4 38, y4 39, y4 40, y4 41, y4 42, y4 43, y4 44, y4 45, y4 46, y4 47, y4 48, y4 49, y4 50, y4 51, y4 52, y4 53, y4 54, y4 55, y4 56, y4 57, y4 58, y4 59, y4 60, y4 61, y4 62, y4 63, y4 64, y4 65, y4 66, y4 67, y4 68, y4 69, y4 70, y4 71, y4 72, y4 73, y4 74, y4 75, y4 76, y4 77, y4 78, y4 79, y4 80, y4 81, x5, y5 1, y5 2]) (fun k hk => rfl) ?_
  refine EV.ceq (cs' := ([.inr (6, [.ref x1, .ref x2, .ref x3, vi 0, .ref x4, .null, .null, vi 0, vi 0, vi 0, vi 0, .null, vi 0])] : List eE) ++ wFl y1 sF0 (fun _ => 0) ++ wFl y2 sF0 (fun _ => 0) ++ wFl y3 sF0 (fun _ => 0) ++ wHi y4 0 0 hs0 ++ ([.inr (3, [.ref (y5 1), .ref (y5 2)]), eI 0 10 (fun _ => 0), eI 0 10 (fun _ => 0)] : List eE)) rfl ?_
  refine e_putfieldF (i := 0) fd_X6_36 dX6_init_61 rfl rfl rfl rfl rfl (Nat.le_of_ble_eq_true rfl) rfl rfl ?_
  refine e_aload_n dX6_init_64 rfl rfl ?_
  refine EV.ceq (cs' := ([.inr (6, [.ref x1, .ref x2, .ref x3, vi 0, .ref x4, .ref x5, .null, vi 0, vi 0, vi 0, vi 0, .null, vi 0])] : List eE) ++ wFl y1 sF0 (fun _ => 0) ++ wFl y2 sF0 (fun _ => 0) ++ wFl y3 sF0 (fun _ => 0) ++ wHi y4 0 0 hs0 ++ ([.inr (3, [.ref (y5 1), .ref (y5 2)]), eI 0 10 (fun _ => 0), eI 0 10 (fun _ => 0)] : List eE)) rfl ?_
  refine e_new (qs := [a 0, x1, y1 1, y1 2, y1 3, y1 4, y1 5, y1 6, y1 7, y1 8, y1 9, x2, y2 1, y2 2, y2 3, y2 4, y2 5, y2 6, y2 7, y2 8, y2 9, x3, y3 1, y3 2, y3 3, y3 4, y3 5, y3 6, y3 7, y3 8, y3 9, x4, y4 1, y4 2, y4 3, y4 4, y4 5, y4 6, y4 7, y4 8, y4 9, y4 10, y4 11, y4 12, y4 13, y4 14, y4 15, y4 16, y4 17, y4 18, y4 19, y4 20, y4 21, y4 22, y4 23, y4 24, y4 25, y4 26, y4 27, y4 28, y4 29, y4 30, y4 31, y4 32, y4 33, y4 34, y4 35, y4 36, y4 37, y4 38, y4 39, y4 40, y4 41, y4 42, y4 43, y4 44, y4 45, y4 46, y4 47, y4 48, y4 49, y4 50, y4 51, y4 52, y4 53, y4 54, y4 55, y4 56, y4 57, y4 58, y4 59, y4 60, y4 61, y4 62, y4 63, y4 64, y4 65, y4 66, y4 67, y4 68, y4 69, y4 70, y4 71, y4 72, y4 73, y4 74, y4 75, y4 76, y4 77, y4 78, y4 79, y4 80, y4 81, x5, y5 1, y5 2]) (cs := ([.inr (6, [.ref x1, .ref x2, .ref x3, vi 0, .ref x4, .ref x5, .null, vi 0, vi 0, vi 0, vi 0, .null, vi 0])] : List eE) ++ wFl y1 sF0 (fun _ => 0) ++ wFl y2 sF0 (fun _ => 0) ++ wFl y3 sF0 (fun _ => 0) ++ wHi y4 0 0 hs0 ++ ([.inr (3, [.ref (y5 1), .ref (y5 2)]), eI 0 10 (fun _ => 0), eI 0 10 (fun _ => 0)] : List eE)) (ci := 1) (N := 6) (fs := [.null, vi 0, .null, .null, vi 0, vi 0]) ⟨RX1, TX1, tyX1, rfl, inX1, tyX1_ok, wd_1_170, wd_1_171, wd_1_7, fun j hj => by
        rcases (show j = 0 ∨ j = 1 ∨ j = 2 ∨ j = 3 ∨ j = 4 ∨ j = 5 by omega) with h | h | h | h | h | h <;> subst h <;> rfl⟩ dX6_init_65 rfl rfl (14, 122) ⟨(Nat.le_of_ble_eq_true rfl), (Nat.le_of_ble_eq_true rfl)⟩ ?_
  intro x6
  refine e_dup dX6_init_68 rfl rfl ?_
  refine e_ctor (qs := [a 0, x1, y1 1, y1 2, y1 3, y1 4, y1 5, y1 6, y1 7, y1 8, y1 9, x2, y2 1, y2 2, y2 3, y2 4, y2 5, y2 6, y2 7, y2 8, y2 9, x3, y3 1, y3 2, y3 3, y3 4, y3 5, y3 6, y3 7, y3 8, y3 9, x4, y4 1, y4 2, y4 3, y4 4, y4 5, y4 6, y4 7, y4 8, y4 9, y4 10, y4 11, y4 12, y4 13, y4 14, y4 15, y4 16, y4 17, y4 18, y4 19, y4 20, y4 21, y4 22, y4 23, y4 24, y4 25, y4 26, y4 27, y4 28, y4 29, y4 30, y4 31, y4 32, y4 33, y4 34, y4 35, y4 36, y4 37, y4 38, y4 39, y4 40, y4 41, y4 42, y4 43, y4 44, y4 45, y4 46, y4 47, y4 48, y4 49, y4 50, y4 51, y4 52, y4 53, y4 54, y4 55, y4 56, y4 57, y4 58, y4 59, y4 60, y4 61, y4 62, y4 63, y4 64, y4 65, y4 66, y4 67, y4 68, y4 69, y4 70, y4 71, y4 72, y4 73, y4 74, y4 75, y4 76, y4 77, y4 78, y4 79, y4 80, y4 81, x5, y5 1, y5 2]) (q := x6) (k := 13) (cs := ([.inr (6, [.ref x1, .ref x2, .ref x3, vi 0, .ref x4, .ref x5, .null, vi 0, vi 0, vi 0, vi 0, .null, vi 0])] : List eE) ++ wFl y1 sF0 (fun _ => 0) ++ wFl y2 sF0 (fun _ => 0) ++ wFl y3 sF0 (fun _ => 0) ++ wHi y4 0 0 hs0 ++ ([.inr (3, [.ref (y5 1), .ref (y5 2)]), eI 0 10 (fun _ => 0), eI 0 10 (fun _ => 0)] : List eE)) (c0 := .inr (1, [.null, vi 0, .null, .null, vi 0, vi 0])) (W := fun a1 => wTx a1 tT0 (fun _ _ => 0)) ⟨⟨"BasketFlock", List.mem_of_getElem? (i := 5) rfl⟩, ca_X1_init.1, ca_X1_init.2.1, ca_X1_init.2.2.1, ca_X1_init.2.2.2, wd_1_173, rfl⟩ rfl rfl dX6_init_69 rfl (fun a0 => C_X1_init) (fun a1 => rfl) rfl rfl (Nat.le_of_ble_eq_true rfl) (Nat.le_of_ble_eq_true rfl) (Nat.le_of_ble_eq_true rfl) (1, 12) ⟨(Nat.le_of_ble_eq_true rfl), (Nat.le_of_ble_eq_true rfl)⟩ ?_
  intro y6 y6h
  refine EV.cong (a' := eAd [a 0, x1, y1 1, y1 2, y1 3, y1 4, y1 5, y1 6, y1 7, y1 8, y1 9, x2, y2 1, y2 2, y2 3, y2 4, y2 5, y2 6, y2 7, y2 8, y2 9, x3, y3 1, y3 2, y3 3, y3 4, y3 5, y3 6, y3 7, y3 8, y3 9, x4, y4 1, y4 2, y4 3, y4 4, y4 5, y4 6, y4 7, y4 8, y4 9, y4 10, y4 11, y4 12, y4 13, y4 14, y4 15, y4 16, y4 17, y4 18, y4 19, y4 20, y4 21, y4 22, y4 23, y4 24, y4 25, y4 26, y4 27, y4 28, y4 29, y4 30, y4 31, y4 32, y4 33, y4 34, y4 35, y4 36, y4 37, y4 38, y4 39, y4 40, y4 41, y4 42, y4 43, y4 44, y4 45, y4 46, y4 47, y4 48, y4 49, y4 50, y4 51, y4 52, y4 53, y4 54, y4 55, y4 56, y4 57, y4 58, y4 59, y4 60, y4 61, y4 62, y4 63, y4 64, y4 65, y4 66, y4 67, y4 68, y4 69, y4 70, y4 71, y4 72, y4 73, y4 74, y4 75, y4 76, y4 77, y4 78, y4 79, y4 80, y4 81, x5, y5 1, y5 2, x6, y6 1, y6 2, y6 3, y6 4, y6 5, y6 6, y6 7, y6 8, y6 9, y6 10, y6 11, y6 12, y6 13]) (fun k hk => rfl) ?_
  refine EV.ceq (cs' := ([.inr (6, [.ref x1, .ref x2, .ref x3, vi 0, .ref x4, .ref x5, .null, vi 0, vi 0, vi 0, vi 0, .null, vi 0])] : List eE) ++ wFl y1 sF0 (fun _ => 0) ++ wFl y2 sF0 (fun _ => 0) ++ wFl y3 sF0 (fun _ => 0) ++ wHi y4 0 0 hs0 ++ ([.inr (3, [.ref (y5 1), .ref (y5 2)]), eI 0 10 (fun _ => 0), eI 0 10 (fun _ => 0)] : List eE) ++ wTx y6 tT0 (fun _ _ => 0)) rfl ?_
  refine e_putfieldF (i := 0) fd_X6_43 dX6_init_72 rfl rfl rfl rfl rfl (Nat.le_of_ble_eq_true rfl) rfl rfl ?_
  refine e_aload_n dX6_init_75 rfl rfl ?_
  refine e_iconst dX6_init_76 rfl ?_
  refine e_putfield (i := 0) fd_X6_47 dX6_init_77 rfl rfl rfl (Nat.le_of_ble_eq_true rfl) rfl rfl ?_
  refine e_aload_n dX6_init_80 rfl rfl ?_
  refine e_iconst dX6_init_81 rfl ?_
  refine e_putfield (i := 0) fd_X6_51 dX6_init_82 rfl rfl rfl (Nat.le_of_ble_eq_true rfl) rfl rfl ?_
  refine e_aload_n dX6_init_85 rfl rfl ?_
  refine e_iconst dX6_init_86 rfl ?_
  refine e_putfield (i := 0) fd_X6_54 dX6_init_87 rfl rfl rfl (Nat.le_of_ble_eq_true rfl) rfl rfl ?_
  refine e_aload_n dX6_init_90 rfl rfl ?_
  refine e_iconst dX6_init_91 rfl ?_
  refine e_putfield (i := 0) fd_X6_57 dX6_init_92 rfl rfl rfl (Nat.le_of_ble_eq_true rfl) rfl rfl ?_
  refine e_aload_n dX6_init_95 rfl rfl ?_
  refine e_bipush dX6_init_96 rfl rfl ?_
  refine EV.ceq (cs' := ([.inr (6, [.ref x1, .ref x2, .ref x3, vi 0, .ref x4, .ref x5, .ref x6, vi (-1), vi (-1), vi (-1), vi (-1), .null, vi 0])] : List eE) ++ wFl y1 sF0 (fun _ => 0) ++ wFl y2 sF0 (fun _ => 0) ++ wFl y3 sF0 (fun _ => 0) ++ wHi y4 0 0 hs0 ++ ([.inr (3, [.ref (y5 1), .ref (y5 2)]), eI 0 10 (fun _ => 0), eI 0 10 (fun _ => 0)] : List eE) ++ wTx y6 tT0 (fun _ _ => 0)) rfl ?_
  refine e_newarray (qs := [a 0, x1, y1 1, y1 2, y1 3, y1 4, y1 5, y1 6, y1 7, y1 8, y1 9, x2, y2 1, y2 2, y2 3, y2 4, y2 5, y2 6, y2 7, y2 8, y2 9, x3, y3 1, y3 2, y3 3, y3 4, y3 5, y3 6, y3 7, y3 8, y3 9, x4, y4 1, y4 2, y4 3, y4 4, y4 5, y4 6, y4 7, y4 8, y4 9, y4 10, y4 11, y4 12, y4 13, y4 14, y4 15, y4 16, y4 17, y4 18, y4 19, y4 20, y4 21, y4 22, y4 23, y4 24, y4 25, y4 26, y4 27, y4 28, y4 29, y4 30, y4 31, y4 32, y4 33, y4 34, y4 35, y4 36, y4 37, y4 38, y4 39, y4 40, y4 41, y4 42, y4 43, y4 44, y4 45, y4 46, y4 47, y4 48, y4 49, y4 50, y4 51, y4 52, y4 53, y4 54, y4 55, y4 56, y4 57, y4 58, y4 59, y4 60, y4 61, y4 62, y4 63, y4 64, y4 65, y4 66, y4 67, y4 68, y4 69, y4 70, y4 71, y4 72, y4 73, y4 74, y4 75, y4 76, y4 77, y4 78, y4 79, y4 80, y4 81, x5, y5 1, y5 2, x6, y6 1, y6 2, y6 3, y6 4, y6 5, y6 6, y6 7, y6 8, y6 9, y6 10, y6 11, y6 12, y6 13]) (cs := ([.inr (6, [.ref x1, .ref x2, .ref x3, vi 0, .ref x4, .ref x5, .ref x6, vi (-1), vi (-1), vi (-1), vi (-1), .null, vi 0])] : List eE) ++ wFl y1 sF0 (fun _ => 0) ++ wFl y2 sF0 (fun _ => 0) ++ wFl y3 sF0 (fun _ => 0) ++ wHi y4 0 0 hs0 ++ ([.inr (3, [.ref (y5 1), .ref (y5 2)]), eI 0 10 (fun _ => 0), eI 0 10 (fun _ => 0)] : List eE) ++ wTx y6 tT0 (fun _ _ => 0)) (ar := .char) (ty := .char) (t := 2) (N := 12) (x := (12, .inl (fun j : Nat => Int32.ofInt ((fun _ => (0 : Int)) (j : Int))))) wd_1_197 rfl rfl (fun C h => by cases h) (fun cA => eNw_c cA) dX6_init_98 rfl (Nat.le_of_ble_eq_true rfl) (Nat.le_of_ble_eq_true rfl) rfl (0, 0) ⟨(Nat.le_of_ble_eq_true rfl), (Nat.le_of_ble_eq_true rfl)⟩ ?_
  intro x7
  refine e_putfieldF (i := 0) fd_X6_60 dX6_init_100 rfl rfl rfl rfl rfl (Nat.le_of_ble_eq_true rfl) rfl rfl ?_
  refine e_aload_n dX6_init_103 rfl rfl ?_
  refine e_iconst dX6_init_104 rfl ?_
  refine e_putfield (i := 0) fd_X6_64 dX6_init_105 rfl rfl rfl (Nat.le_of_ble_eq_true rfl) rfl rfl ?_
  refine EV.ceq (cs' := ([.inr (6, [.ref x1, .ref x2, .ref x3, vi 0, .ref x4, .ref x5, .ref x6, vi (-1), vi (-1), vi (-1), vi (-1), .ref x7, vi 0])] : List eE) ++ wFl y1 sF0 (fun _ => 0) ++ wFl y2 sF0 (fun _ => 0) ++ wFl y3 sF0 (fun _ => 0) ++ wHi y4 0 0 hs0 ++ ([.inr (3, [.ref (y5 1), .ref (y5 2)]), eI 0 10 (fun _ => 0), eI 0 10 (fun _ => 0)] : List eE) ++ wTx y6 tT0 (fun _ _ => 0) ++ [eI 2 12 (fun _ => 0)]) rfl ?_
  subst y1h
  subst y2h
  subst y3h
  subst y4h
  subst y5h
  subst y6h
  refine EV.cong (a' := xAd (a 0) y1 y2 y3 y4 y5 y6 x7) (fun k hk => xAd_ok k hk) ?_
  refine EV.ceq (cs' := wA (xAd (a 0) y1 y2 y3 y4 y5 y6 x7) zz0 (fun _ => 0) sF0 (fun _ => 0) sF0 (fun _ => 0) sF0 (fun _ => 0) 0 0 hs0 (fun _ => 0) (fun _ => 0) tT0 (fun _ _ => 0) []) xAd_A.symm ?_
  exact e_vret dX6_init_108 rfl ⟨rfl, rfl, rfl⟩
