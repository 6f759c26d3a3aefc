/-! ===== the law: a row's text, sign by sign ===== -/
theorem at_R {A B : List eE} {i k : Nat} (h : i = A.length + k) : (A ++ B)[i]? = B[k]? := by
  subst h
  rw [List.getElem?_append_right (by omega), show A.length + k - A.length = k by omega]
theorem lRow_cong {X : eXT} {a a1 : Nat → Nat} {t : List eE} {q n : Nat} {g : Int → Int} (h : lRow X a 0 t q n g) (e : ∀ j, j < 131 + t.length → a1 j = a j) : lRow X a1 0 t q n g := by
  rcases h with ⟨rfl, rfl, rfl⟩ | ⟨rfl, rfl⟩
  · exact Or.inl ⟨rfl, rfl, rfl⟩
  · have hl : (cSt a 0 n g).length = 2 := rfl
    rw [hl] at e
    refine Or.inr ⟨?_, (e (131 + 0) (by decide)).symm⟩
    unfold cSt
    rw [e (131 + 0 + 1) (by decide)]
theorem lRow_len {X : eXT} {a : Nat → Nat} {t : List eE} {q n : Nat} {g : Int → Int} (h : lRow X a 0 t q n g) : t.length ≤ 2 := by
  rcases h with ⟨rfl, rfl, rfl⟩ | ⟨rfl, rfl⟩
  · decide
  · exact Nat.le_refl 2
theorem cSb_len {a : Nat → Nat} {i : Nat} {m : Int} {g : Int → Int} : (cSb a i m g).length = 2 := rfl
theorem cSt_len {a : Nat → Nat} {i n : Nat} {g : Int → Int} : (cSt a i n g).length = 2 := rfl
theorem cSb_cong {a a1 : Nat → Nat} {i : Nat} {m : Int} {g : Int → Int} (e : a1 (131 + i + 1) = a (131 + i + 1)) : cSb a i m g = cSb a1 i m g := by unfold cSb; rw [e]
theorem tcF_in1 (j : Int) : 0 ≤ tcF 1 j ∧ tcF 1 j ≤ 127 := by
  unfold tcF
  cases j.toNat with
  | zero => decide
  | succ m => exact (by decide : (0 : Int) ≤ (0 : Int32).toInt ∧ (0 : Int32).toInt ≤ 127)
theorem tcF_in2 (j : Int) : 0 ≤ tcF 2 j ∧ tcF 2 j ≤ 127 := by
  unfold tcF
  cases j.toNat with
  | zero => decide
  | succ m => exact (by decide : (0 : Int) ≤ (0 : Int32).toInt ∧ (0 : Int32).toInt ≤ 127)
theorem eCy_in {f g : Int → Int} {sp dp m : Int} (hf : ∀ j, 0 ≤ f j ∧ f j ≤ 127) (hg : ∀ j, 0 ≤ g j ∧ g j ≤ 127) (j : Int) : 0 ≤ eCy f g sp dp m j ∧ eCy f g sp dp m j ≤ 127 := by
  unfold eCy
  split
  · exact hf _
  · exact hg _
section EVR
variable {X : eXT} {a : Nat → Nat} {b : Nat × Nat} {pc : Nat} {ls : List (Option Value)} {st : List Value} {F : eFs} {u : eUs} {t t0 t1 : List eE}
/-- a new builder -/
theorem e_mk (b' : Nat × Nat) (hb : 2 + b'.1 ≤ b.1 ∧ 20 + b'.2 ≤ b.2) (d1 : decode (lK X).1.2.1 pc = .ok (.new 168, 3)) (d2 : decode (lK X).1.2.1 (pc + 3) = .ok (.dup, 1)) (d3 : decode (lK X).1.2.1 (pc + 3 + 1) = .ok (.invokespecial 170, 3)) (hcat : (st.map fun v => v.category).sum ≤ 7)
    (k : ∀ a1 : Nat → Nat, (∀ j, j < 131 + t.length → a1 j = a j) → EV (lK X) a1 b' (wB a1 F u (t ++ cSb a1 t.length 0 (fun _ => 0))) (pc + 3 + 1 + 3) ls (.ref (a1 (131 + t.length)) :: st)) : EV (lK X) a b (wB a F u t) pc ls st := by
  refine e_newL nw_SbL d1 rfl (b'.1 + 1, b'.2 + 16) ⟨by show 1 + (b'.1 + 1) ≤ _; omega, by show 4 + (b'.2 + 16) ≤ _; omega⟩ (fun a1 ha => ?_)
  refine e_dup d2 rfl rfl ?_
  refine e_sbIni (rest := .ref (a1 (131 + t.length)) :: st) li_L_170 d3 rfl rfl (Nat.add_le_add_left hcat 1) (Nat.le_of_ble_eq_true rfl) (Nat.le_of_ble_eq_true rfl) b' ⟨by show 1 + b'.1 ≤ b'.1 + 1; omega, by show 16 + b'.2 ≤ b'.2 + 16; omega⟩ (fun a2 ha2 => ?_)
  exact EV.eq (st' := .ref (a2 (131 + t.length)) :: st) (by rw [ha2 _ (by omega)]) (k a2 (fun j hj => (ha2 j (by omega)).trans (ha j hj)))
end EVR
theorem sb_sel {a : Nat → Nat} {F : eFs} {u : eUs} {t t1 : List eE} {m : Int} {g : Int → Int} : [131 + t.length, 131 + t.length + 1].map (fun i => (wB a F u (t ++ (cSb a t.length m g ++ t1)))[i]?) = (cSb a t.length m g).map some := by
  rw [wB_app]
  exact two_sel wB_len
set_option maxHeartbeats 4000000 in
theorem S_cell {X : eXT} {a : Nat → Nat} {b b1 : Nat × Nat} {N : Int} {F : eFs} {u : eUs} {q0 q n : Nat} {tr : List eE} {g : Int → Int} {y zz : Int} {l0 l2 l3 l4 l5 l6 l7 l8 l9 l10 l11 l12 l13 l14 l19 l20 : Option Value} (hF : okF N F) (h0 : q0 = a 0) (hx : n ≤ 11) (hy : 0 ≤ y ∧ y ≤ 11)
    (hr : lRow X a 0 tr q n g) (hg : ∀ j, 0 ≤ g j ∧ g j ≤ 127) (hs : ∀ j : Int, 0 ≤ j → j < n → g j = sSgn F j y) (hz : zz = if sAt F n y = -1 then -30000 else sAt F n y) (hb : b1.1 + 8 ≤ b.1 ∧ b1.2 + 80 ≤ b.2)
    (kk : ∀ (a1 : Nat → Nat) (g1 : Int → Int), q0 = a1 0 → (∀ j, 0 ≤ g1 j ∧ g1 j ≤ 127) → (∀ j : Int, 0 ≤ j → j < ((n + 1 : Nat) : Int) → g1 j = sSgn F j y) → EV (lK X) a1 b1 (wB a1 F u (cSt a1 0 (n + 1) g1)) 687 [l0, some (.ref q0), l2, l3, l4, l5, l6, l7, l8, l9, l10, l11, l12, l13, l14, some (vi y), some (.ref (a1 131)), some (vi (n : Int)), some (vi zz), l19, l20] []) :
    EV (lK X) a b (wB a F u tr) 618 [l0, some (.ref q0), l2, l3, l4, l5, l6, l7, l8, l9, l10, l11, l12, l13, l14, some (vi y), some (.ref q), some (vi (n : Int)), some (vi zz), l19, l20] [] := by
  have hc := hF.1
  have at9 := sAt_in (F := F) (x := n) (y := y)
  have hin : sIn (n : Int) y := by omega
  refine e_mk (b.1 - 2, b.2 - 20) ⟨by show 2 + (b.1 - 2) ≤ _; omega, by show 20 + (b.2 - 20) ≤ _; omega⟩ dL_law_618 dL_law_621 dL_law_622 (Nat.le_of_ble_eq_true rfl) (fun a1 ha1 => ?_)
  have hr1 := lRow_cong hr ha1
  have h01 : q0 = a1 0 := h0.trans (ha1 0 (by omega)).symm
  refine e_aload dL_law_625 rfl rfl ?_
  obtain ⟨v0, f, rd, hf, hfg⟩ := lRow_rd (K := lK X) (F := F) (u := u) (t0 := []) (t1 := cSb a1 tr.length 0 (fun _ => 0) ++ []) (ρ := [131 + tr.length, 131 + tr.length + 1]) (cs0 := cSb a1 tr.length 0 (fun _ => 0)) hr1 (by omega) hg sb_sel (fun j hj => by
    have : j = 131 + tr.length ∨ j = 131 + tr.length + 1 := by simpa using hj
    show 131 + 0 + tr.length ≤ j
    omega)
  refine EV.ceq (cs' := wB a1 F u (tr ++ (cSb a1 tr.length 0 (fun _ => 0) ++ []))) (by rw [List.append_nil]) ?_
  refine e_sbApp (t0 := tr) (t1 := []) lk_L_171 dL_law_627 rfl rfl (Nat.le_of_ble_eq_true rfl) (Nat.le_of_ble_eq_true rfl) (Nat.le_of_ble_eq_true rfl) ⟨by omega, by omega⟩ (fun j hj => hf j) rd ?_
  obtain ⟨G, hG⟩ : ∃ G, G = eCy f (fun _ => 0) 0 0 (n : Int) := ⟨_, rfl⟩
  have G1 : ∀ j, 0 ≤ G j ∧ G j ≤ 127 := by rw [hG]; exact eCy_in hf (fun _ => by omega)
  have G2 : ∀ j : Int, 0 ≤ j → j < n → G j = sSgn F j y := by
    intro j j0 j1
    rw [hG]
    unfold eCy
    have e9 := hfg j.toNat (by omega) (by omega)
    rw [Int.toNat_of_nonneg j0] at e9
    rw [if_pos ⟨j0, by omega⟩, show 0 + (j - 0) = j by omega, e9]
    exact hs j j0 j1
  refine EV.ceq (cs' := wB a1 F u (tr ++ (cSb a1 tr.length (n : Int) G ++ []))) (by rw [← hG, Int.zero_add]) ?_
  have hJ : ∀ (a3 : Nat → Nat) (b3 : Nat × Nat) (T : List eE) (qt v0 : Nat) (f0 : Int → Int), q0 = a3 0 → eRd (lK X) a3 (wB a3 F u (tr ++ (cSb a3 tr.length (n : Int) G ++ T))) [131 + tr.length, 131 + tr.length + 1] (cSb a3 tr.length (n : Int) G) (some (.inr (qt, v0, 1, fun j => Int32.ofInt (f0 (j : Int))))) → (∀ j, 0 ≤ f0 j ∧ f0 j ≤ 127) → f0 0 = sSgn F n y → b1.1 + 2 ≤ b3.1 ∧ b1.2 + 20 ≤ b3.2 → EV (lK X) a3 b3 (wB a3 F u (tr ++ (cSb a3 tr.length (n : Int) G ++ T))) 679 [l0, some (.ref q0), l2, l3, l4, l5, l6, l7, l8, l9, l10, l11, l12, l13, l14, some (vi y), some (.ref q), some (vi (n : Int)), some (vi zz), l19, l20] [.ref qt, .ref (a3 (131 + tr.length))] := by
    intro a3 b3 T qt v0 f0 h03 rd f9 f8 hb3
    refine e_sbApp (t0 := tr) (t1 := T) (m0 := 1) lk_L_171 dL_law_679 rfl rfl (Nat.le_of_ble_eq_true rfl) (Nat.le_of_ble_eq_true rfl) (Nat.le_of_ble_eq_true rfl) ⟨by omega, by omega⟩ (fun j hj => f9 j) rd ?_
    obtain ⟨H, hH⟩ : ∃ H, H = eCy f0 G 0 n ((1 : Nat) : Int) := ⟨_, rfl⟩
    have H1 : ∀ j, 0 ≤ H j ∧ H j ≤ 127 := by rw [hH]; exact eCy_in f9 G1
    have H2 : ∀ j : Int, 0 ≤ j → j < ((n + 1 : Nat) : Int) → H j = sSgn F j y := by
      intro j j0 j1
      rw [hH]
      unfold eCy
      by_cases hj : j = n
      · rw [if_pos ⟨by omega, by omega⟩, hj, show 0 + ((n : Int) - n) = 0 by omega]; exact f8
      · rw [if_neg (by omega)]; exact G2 j j0 (by omega)
    refine EV.ceq (cs' := wB a3 F u (tr ++ cSb a3 tr.length ((n + 1 : Nat) : Int) H) ++ T) (by rw [← hH, ← wB_app, List.append_assoc, show (n : Int) + ((1 : Nat) : Int) = ((n + 1 : Nat) : Int) by omega]) (EV.less ?_)
    refine e_sbStr (t0 := tr) (m := n + 1) lk_L_178 dL_law_682 rfl rfl (Nat.le_of_ble_eq_true rfl) (Nat.le_of_ble_eq_true rfl) (Nat.le_of_ble_eq_true rfl) (by omega) H1 b1 ⟨by omega, by omega⟩ (fun a4 ha4 => ?_)
    refine f_astore dL_law_685 rfl (Nat.le_of_ble_eq_true rfl) rfl ?_
    have hlen : (wB a4 F u []).length = 131 := wB_len
    refine EV.ceq (cs' := wB a4 F u [] ++ ((tr ++ cSb a4 tr.length ((n + 1 : Nat) : Int) H) ++ cSt a4 (tr.length + 2) (n + 1) H)) (by rw [wB_nil, List.append_assoc]) (EV.skip ?_)
    obtain ⟨a5, e5⟩ : ∃ a5 : Nat → Nat, a5 = fun k => if k < (wB a4 F u []).length then a4 k else a4 (k + (tr ++ cSb a4 tr.length ((n + 1 : Nat) : Int) H).length) := ⟨_, rfl⟩
    rw [← e5]
    have lo : ∀ k, k < 131 → a5 k = a4 k := fun k hk => by rw [e5]; exact if_pos (by rw [hlen]; exact hk)
    have hi : ∀ k, 131 ≤ k → a5 k = a4 (k + (tr.length + 2)) := fun k hk => by rw [e5]; show (if k < (wB a4 F u []).length then _ else _) = _; rw [if_neg (by rw [hlen]; omega), List.length_append, cSb_len]
    have h05 : q0 = a5 0 := by rw [lo 0 (by decide), ha4 0 (by omega)]; exact h03
    have w5 : wB a4 F u [] ++ cSt a4 (tr.length + 2) (n + 1) H = wB a5 F u (cSt a5 0 (n + 1) H) := by
      rw [wB_nil (a := a5), wB_cong (a := a4) (a' := a5) lo]
      unfold cSt
      rw [hi (131 + 0 + 1) (by omega), show 131 + 0 + 1 + (tr.length + 2) = 131 + (tr.length + 2) + 1 by omega]
    have v5 : a4 (131 + tr.length + 2) = a5 131 := by rw [hi 131 (by omega)]; exact congrArg a4 (by omega)
    refine EV.ceq w5 ?_
    have k9 := kk a5 H h05 H1 H2
    rw [← v5] at k9
    exact k9
  refine e_iload dL_law_630 rfl rfl ?_
  refine e_sipush dL_law_632 rfl rfl ?_
  have z9 : (sAt F n y = -1 ∧ zz = -30000) ∨ (0 ≤ sAt F n y ∧ sAt F n y ≤ 9 ∧ zz = sAt F n y) := by
    by_cases q : sAt F n y = -1
    · rw [if_pos q] at hz; exact Or.inl ⟨q, hz⟩
    · rw [if_neg q] at hz; exact Or.inr ⟨by omega, by omega, hz⟩
  refine e_icmp_eq (t := 661) dL_law_635 rfl rfl (by omega) (by omega) (fun h635 => ?_) (fun h635 => ?_)
  · have hq : sAt F n y = -1 := by omega
    refine e_aload_n dL_law_661 rfl rfl ?_
    refine e_iload dL_law_662 rfl rfl ?_
    refine e_iload dL_law_664 rfl rfl ?_
    refine e_obs lk_L_154 rfl dL_law_666 rfl (N_X6_isCloud hF hin) h01 rfl rfl (Nat.le_of_ble_eq_true rfl) (Nat.le_of_ble_eq_true rfl) (Nat.le_of_ble_eq_true rfl) ⟨rfl, rfl⟩ rfl ?_
    refine e_ifb_eq (t := 677) dL_law_669 rfl rfl (fun h669 => ?_) (fun h669 => ?_)
    · refine e_ldcS (si := 18) rfl dL_law_677 rfl ?_
      exact hJ a1 (b.1 - 2, b.2 - 20) [] _ _ (tcF 2) h01 (eRd.text (i := 2) sb_sel (by decide)) tcF_in2 (by unfold sSgn; rw [if_pos hq, if_neg h669]; rfl) ⟨by show _ ≤ b.1 - 2; omega, by show _ ≤ b.2 - 20; omega⟩
    · refine e_ldcS (si := 17) rfl dL_law_672 rfl ?_
      refine e_goto (n := 679) dL_law_674 rfl ?_
      exact hJ a1 (b.1 - 2, b.2 - 20) [] _ _ (tcF 1) h01 (eRd.text (i := 1) sb_sel (by decide)) tcF_in1 (by unfold sSgn; rw [if_pos hq, if_pos h669]; rfl) ⟨by show _ ≤ b.1 - 2; omega, by show _ ≤ b.2 - 20; omega⟩
  · have hq : ¬ sAt F n y = -1 := by omega
    obtain ⟨T1, hT1⟩ : ∃ T1, T1 = tr ++ (cSb a1 tr.length (n : Int) G ++ []) := ⟨_, rfl⟩
    have lT : T1.length = tr.length + 2 := by rw [hT1, List.append_nil, List.length_append, cSb_len]
    rw [← hT1]
    refine e_mk (b.1 - 4, b.2 - 40) ⟨by show 2 + (b.1 - 4) ≤ b.1 - 2; omega, by show 20 + (b.2 - 40) ≤ b.2 - 20; omega⟩ dL_law_638 dL_law_641 dL_law_642 (Nat.le_of_ble_eq_true rfl) (fun a3 ha3 => ?_)
    refine e_ldcS (si := 16) rfl dL_law_645 rfl ?_
    refine EV.ceq (cs' := wB a3 F u (T1 ++ (cSb a3 T1.length 0 (fun _ => 0) ++ []))) (by rw [List.append_nil]) ?_
    refine e_sbApp (t0 := T1) (t1 := []) (m0 := 0) (f := tcF 0) lk_L_171 dL_law_647 rfl rfl (Nat.le_of_ble_eq_true rfl) (Nat.le_of_ble_eq_true rfl) (Nat.le_of_ble_eq_true rfl) ⟨by omega, by omega⟩ (fun j hj => absurd hj (Nat.not_lt_zero j)) (eRd.text (i := 0) sb_sel (by decide)) ?_
    refine EV.ceq (cs' := wB a3 F u (T1 ++ (cSb a3 T1.length 0 (eCy (tcF 0) (fun _ => 0) 0 0 ((0 : Nat) : Int)) ++ []))) rfl ?_
    refine e_iload dL_law_650 rfl rfl ?_
    refine EV.eq (st' := [vi (sAt F n y), .ref (a3 (131 + T1.length)), .ref (a1 (131 + tr.length))]) (by rw [show zz = sAt F n y by omega]) ?_
    refine e_sbInt (t0 := T1) (t1 := []) lk_L_175 dL_law_652 rfl rfl (Nat.le_of_ble_eq_true rfl) (Nat.le_of_ble_eq_true rfl) (Nat.le_of_ble_eq_true rfl) ⟨by omega, by omega⟩ ⟨by omega, by omega⟩ ?_
    obtain ⟨D, hD⟩ : ∃ D, D = eU (eCy (tcF 0) (fun _ => 0) 0 0 ((0 : Nat) : Int)) (0 + 1 + -1) (48 + sAt F n y) := ⟨_, rfl⟩
    have D0 : D 0 = sSgn F n y := by
      rw [hD]
      show eU _ 0 _ 0 = _
      rw [eU_self]
      unfold sSgn
      rw [if_neg hq]
    have D1 : ∀ j, 0 ≤ D j ∧ D j ≤ 127 := by
      intro j
      by_cases hj : j = 0
      · rw [hj, D0]; exact sSgn_r hc _ _
      · rw [hD, eU_ne (by omega)]
        unfold eCy
        rw [if_neg (by omega)]
        exact (by decide : (0 : Int) ≤ 0 ∧ (0 : Int) ≤ 127)
    refine EV.ceq (cs' := wB a3 F u (T1 ++ cSb a3 T1.length ((1 : Nat) : Int) D)) (by rw [← hD, List.append_nil]; rfl) ?_
    refine e_sbStr (t0 := T1) (m := 1) lk_L_178 dL_law_655 rfl rfl (Nat.le_of_ble_eq_true rfl) (Nat.le_of_ble_eq_true rfl) (Nat.le_of_ble_eq_true rfl) (by omega) D1 (b.1 - 6, b.2 - 60) ⟨by show 2 + (b.1 - 6) ≤ b.1 - 4; omega, by show 20 + (b.2 - 60) ≤ b.2 - 40; omega⟩ (fun a4 ha4 => ?_)
    have ag : ∀ j, j < 131 + tr.length + 2 → a4 j = a1 j := fun j hj => (ha4 j (by omega)).trans (ha3 j (by omega))
    obtain ⟨T2, hT2⟩ : ∃ T2, T2 = cSb a4 T1.length ((1 : Nat) : Int) D ++ cSt a4 (T1.length + 2) 1 D := ⟨_, rfl⟩
    have w4 : wB a4 F u (T1 ++ (cSb a4 T1.length ((1 : Nat) : Int) D ++ cSt a4 (T1.length + 2) 1 D)) = wB a4 F u (tr ++ (cSb a4 tr.length (n : Int) G ++ T2)) := by
      rw [hT2, hT1, List.append_nil, List.append_assoc, cSb_cong (a := a1) (a1 := a4) (i := tr.length) (m := (n : Int)) (g := G) (ag _ (by omega))]
    have s0 : (wB a4 F u (T1 ++ (cSb a4 T1.length ((1 : Nat) : Int) D ++ cSt a4 (T1.length + 2) 1 D)))[131 + T1.length + 2]? = some (.inr (8, [.ref (a4 (131 + (T1.length + 2) + 1)), vi 0, vi 0, vi 0])) := by
      rw [← List.append_assoc, wB_app]
      exact (at_R (k := 0) (by rw [wB_len, List.length_append, cSb_len]; omega)).trans rfl
    have s1 : (wB a4 F u (T1 ++ (cSb a4 T1.length ((1 : Nat) : Int) D ++ cSt a4 (T1.length + 2) 1 D)))[131 + (T1.length + 2) + 1]? = some (eI 3 1 D) := by
      rw [← List.append_assoc, wB_app]
      exact (at_R (k := 1) (by rw [wB_len, List.length_append, cSb_len])).trans rfl
    rw [w4] at s0 s1
    refine EV.ceq w4 ?_
    refine e_goto (n := 679) dL_law_658 rfl ?_
    refine EV.eq (st' := [.ref (a4 (131 + T1.length + 2)), .ref (a4 (131 + tr.length))]) (by rw [ag (131 + tr.length) (by omega)]) ?_
    exact hJ a4 (b.1 - 6, b.2 - 60) T2 _ _ D (h01.trans (ag 0 (by omega)).symm) (eRd.world sb_sel s0 s1 (by simp; omega) (by simp; omega) (by decide)) D1 D0 ⟨by show _ ≤ b.1 - 6; omega, by show _ ≤ b.2 - 60; omega⟩
/-! is the described row this text? -/
theorem N_L_isLine {S : Nat → Nat} {q v0 : Nat} {f : Int → Int} {a : Nat → Nat} {q0 q1 q2 q3 q4 q5 : Nat} {z : Nat → Int} {ln : Int → Int} (hz : okZ z) (hln : ∀ j, 0 ≤ ln j ∧ ln j ≤ 65535) (h12 : z 4 = 12) (hf : ∀ j, 0 ≤ f j ∧ f j ≤ 127) (he : ∀ j : Int, 0 ≤ j → j < 12 → ln j = f j) :
    EMx (S, some (.inr (q, v0, 12, fun j => Int32.ofInt (f (j : Int))))) mL_isLine (eRm 4) a [.ref (a 0), vi 12, .ref q] [wO q0 q1 q2 q3 q4 q5 (a 1) z, eI 2 12 ln] (eRet (some (vi 1)) a [wO q0 q1 q2 q3 q4 q5 (a 1) z, eI 2 12 ln]) := by
  refine EMx.of (by decide +kernel) rfl (Nat.le_of_ble_eq_true rfl) rfl ?_
  refine e_iload_n dL_isLine_0 rfl rfl ?_
  refine e_aload_n dL_isLine_1 rfl rfl ?_
  refine e_xT2 [] (av := []) (rest := [vi 12]) lk_L_106 rfl rfl dL_isLine_2 rfl (T_length (m0 := 12) (by decide)) (eRd.own rfl rfl) rfl rfl (Nat.le_of_ble_eq_true rfl) (Nat.le_of_ble_eq_true rfl) (Nat.le_of_ble_eq_true rfl) ⟨rfl, rfl⟩ rfl rfl rfl rfl ?_
  refine e_icmp_eq (t := 10) dL_isLine_5 rfl rfl (by omega) (by omega) (fun h5 => ?_) (fun h5 => ?_)
  · refine e_iconst dL_isLine_10 rfl ?_
    refine f_istore_n dL_isLine_11 rfl (Nat.le_of_ble_eq_true rfl) rfl ?_
    have hL12 : ∀ (k12 : Nat) (i : Int) (hk12 : (12 - i).toNat = k12) (g12 : 0 ≤ i ∧ i ≤ 12), EV (mL_isLine, (eRm 4), eRet (some (vi 1)) a [wO q0 q1 q2 q3 q4 q5 (a 1) z, eI 2 12 ln], (S, some (.inr (q, v0, 12, fun j => Int32.ofInt (f (j : Int)))))) a (0, 0) ([wO q0 q1 q2 q3 q4 q5 (a 1) z, eI 2 12 ln]) 12 [some (.ref (a 0)), some (vi 12), some (.ref q), some (vi i)] [] := by
      intro k12
      induction k12 using Nat.strongRecOn with
      | _ k12 ih12 =>
      intro i hk12 g12
      refine e_iload_n dL_isLine_12 rfl rfl ?_
      refine e_iload_n dL_isLine_13 rfl rfl ?_
      refine e_icmp_ge (t := 38) dL_isLine_14 rfl rfl (by omega) (by omega) (fun h14 => ?_) (fun h14 => ?_)
      · refine e_iconst dL_isLine_38 rfl ?_
        exact e_iret dL_isLine_39 rfl (by decide) (eRet_i rfl rfl)
      · have hi := he i (by omega) (by omega)
        have r1 := hln i
        have r2 := hf i
        refine e_aload_n dL_isLine_17 rfl rfl ?_
        refine e_iload_n dL_isLine_18 rfl rfl ?_
        refine e_lin lk_L_111 rfl dL_isLine_19 rfl (N_X6_lineAt hz hln (by omega)) rfl rfl rfl (Nat.le_of_ble_eq_true rfl) (Nat.le_of_ble_eq_true rfl) (Nat.le_of_ble_eq_true rfl) ⟨rfl, rfl⟩ rfl ?_
        refine e_aload_n dL_isLine_22 rfl rfl ?_
        refine e_iload_n dL_isLine_23 rfl rfl ?_
        refine e_xT2 [] (av := [vi i]) (rest := [vi (ln i)]) lk_L_115 rfl rfl dL_isLine_24 rfl (T_charAt (m0 := 12) (z := i) (by omega) (by decide) (hf i)) (eRd.own rfl rfl) rfl rfl (Nat.le_of_ble_eq_true rfl) (Nat.le_of_ble_eq_true rfl) (Nat.le_of_ble_eq_true rfl) ⟨rfl, rfl⟩ rfl rfl rfl rfl ?_
        refine e_icmp_eq (t := 32) dL_isLine_27 rfl rfl (by omega) (by omega) (fun h27 => ?_) (fun h27 => ?_)
        · refine f_iinc dL_isLine_32 rfl rfl (Nat.le_of_ble_eq_true rfl) rfl ?_
          refine e_goto (n := 12) dL_isLine_35 rfl ?_
          exact ih12 _ (by omega) (i + 1) rfl (by omega)
        · exact absurd hi h27
    exact hL12 _ 0 rfl (by omega)
  · omega
