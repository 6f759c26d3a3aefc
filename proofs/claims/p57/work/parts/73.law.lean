/-! ===== the law answers true ===== -/
theorem nw_X6L : eNw RL 14 6 13 [.null, .null, .null, vi 0, .null, .null, .null, vi 0, vi 0, vi 0, vi 0, .null, vi 0] := ⟨RX6, TX6, tyX6, rfl, inX6, tyX6_ok, wd_1_30, wd_1_31, wd_1_1, fun j hj => by rcases (show j = 0 ∨ j = 1 ∨ j = 2 ∨ j = 3 ∨ j = 4 ∨ j = 5 ∨ j = 6 ∨ j = 7 ∨ j = 8 ∨ j = 9 ∨ j = 10 ∨ j = 11 ∨ j = 12 by omega) with h | h | h | h | h | h | h | h | h | h | h | h | h <;> subst h <;> rfl⟩
theorem e_one {c : eE} {cs1 : List eE} (h : 1 ≤ cs1.length) : eMrg [c] [0] cs1 ++ cs1.drop 1 = cs1 := by
  cases cs1 with
  | nil => exact absurd h (by decide)
  | cons x xs => rfl
theorem okU_0 : okU (zz0, (fun _ => 0), (fun _ => 0), (0, 0), hs0, (fun _ => 0), (fun _ => 0)) := ⟨⟨by decide, by decide, by decide, by decide, Or.inl rfl⟩, fun _ => (by decide : (0 : Int) ≤ 0 ∧ (0 : Int) ≤ 65535), ⟨⟨by decide, by decide⟩, ⟨by decide, by decide⟩⟩, fun _ => (by decide : (-1 : Int) ≤ 0 ∧ (0 : Int) ≤ 9), fun _ => (by decide : (0 : Int) ≤ 0 ∧ (0 : Int) ≤ 9)⟩
theorem wA_len {a : Nat → Nat} : (wB a sF0 (zz0, (fun _ => 0), (fun _ => 0), (0, 0), hs0, (fun _ => 0), (fun _ => 0)) []).length = 131 := wB_len
set_option maxHeartbeats 4000000 in
theorem L_turns {S : Nat → Nat} {bb L : Nat} {xs : Nat → Int32} (hL : L ≤ 260) {q0 : Nat} : ∀ (k : Nat) (turn : Int) (a : Nat → Nat) (b : Nat × Nat) (F : eFs) (u : eUs), (4 - turn).toNat = k → (0 ≤ turn ∧ turn ≤ 4) → q0 = a 0 → okU u → okI (5520 + 240 * turn) F → (2000 * (4 - turn).toNat ≤ b.1 ∧ 20000 * (4 - turn).toNat ≤ b.2) → EV (lK (S, some (.inl (bb, L, xs)))) a b (wB a F u []) 15 [some (.ref bb), some (.ref q0), some (vi turn), none, none, none, none, none, none, none, none, none, none, none, none, none, none, none, none, none, none] [] := by
  intro k
  induction k using Nat.strongRecOn with
  | _ k ih =>
  intro turn a b F u hk g h0 hu hI hb
  have hF := hI.1.1
  have hC := hI.1.2.1
  have hA := hI.1.2.2.1
  have hS := hI.1.2.2.2
  have hn := hI.2
  refine e_iload_n dL_law_15 rfl rfl ?_
  refine e_iconst dL_law_16 rfl ?_
  refine e_icmp_ge (t := 1011) dL_law_17 rfl rfl (by omega) (by omega) (fun h17 => ?_) (fun h17 => ?_)
  · refine e_iconst dL_law_1011 rfl ?_
    exact e_iret dL_law_1012 rfl (by decide) (by show (Sum.inl (some (vi 1)) : _ ⊕ _) = Sum.inl (some (.int 1)); rfl)
  · refine S_1 hF hn h0 hu (b1 := (b.1 - 1, b.2 - 9)) ⟨by show 1 + (b.1 - 1) ≤ _; omega, by show 9 + (b.2 - 9) ≤ _; omega⟩ (fun a1 gq ha hg r hr => ?_)
    have h01 : q0 = a1 0 := h0.trans (ha 0 (by decide)).symm
    refine S_2 hF hn h01 hg hr ?_
    refine S_3 hF hn h01 hg hA hu (b1 := (b.1 - 19, b.2 - 117)) ⟨by show (b.1 - 19) + 18 ≤ b.1 - 1; omega, by show (b.2 - 117) + 108 ≤ b.2 - 9; omega⟩ (fun u2 hu2 => ?_)
    refine S_4 hF hn h01 hu2 (b1 := (b.1 - 1459, b.2 - 13365)) ⟨by show (b.1 - 1459) + 1440 ≤ b.1 - 19; omega, by show (b.2 - 13365) + 13248 ≤ b.2 - 117; omega⟩ (fun a3 u3 h03 hu3 => ?_)
    refine S_5 hF hn h03 hu3 hC hA hS (b1 := (b.1 - 1463, b.2 - 13389)) ⟨by show (b.1 - 1463) + 4 ≤ b.1 - 1459; omega, by show (b.2 - 13389) + 24 ≤ b.2 - 13365; omega⟩ (fun u4 hu4 => ?_)
    refine e_aload_n dL_law_994 rfl rfl ?_
    refine e_aload_n dL_law_995 rfl rfl ?_
    refine e_bipush dL_law_996 rfl rfl ?_
    refine e_iconst dL_law_998 rfl ?_
    refine e_iload_n dL_law_999 rfl rfl ?_
    refine e_imul dL_law_1000 rfl ?_
    refine e_iadd dL_law_1001 rfl ?_
    refine e_act (av := [.ref (a3 0), .ref bb, vi (90 + 4 * turn)]) (rest := []) lk_L_86 rfl dL_law_1002 rfl (T_acts (k := 90 + 4 * turn) hL hI (by omega) hu4.1 hu4.2.2.1.1 hu4.2.2.1.2 (by omega)) rfl (fun h => by cases h) (by rw [h03]; rfl) rfl (Nat.le_of_ble_eq_true rfl) (Nat.le_of_ble_eq_true rfl) (Nat.le_of_ble_eq_true rfl) (b.1 - 1465, b.2 - 13401) ⟨by show 2 + (b.1 - 1465) ≤ b.1 - 1463; omega, by show 12 + (b.2 - 13401) ≤ b.2 - 13389; omega⟩ hu4 (fun F5 u5 hu5 hI5 => ?_)
    refine f_iinc dL_law_1005 rfl rfl (Nat.le_of_ble_eq_true rfl) rfl ?_
    refine e_goto (n := 15) dL_law_1008 rfl ?_
    exact ih _ (by omega) (turn + 1) a3 (b.1 - 1465, b.2 - 13401) F5 u5 rfl (by omega) h03 hu5 (by rw [show 5520 + 240 * (turn + 1) = 5520 + 240 * turn + 240 by omega]; exact hI5) (by show 2000 * (4 - (turn + 1)).toNat ≤ b.1 - 1465 ∧ 20000 * (4 - (turn + 1)).toNat ≤ b.2 - 13401; omega)
set_option maxHeartbeats 4000000 in
theorem law_go {S : Nat → Nat} {bb L : Nat} {xs : Nat → Int32} (hL : L ≤ 260) {a : Nat → Nat} : EV (lK (S, some (.inl (bb, L, xs)))) a (870437, 6478457) [] 0 [some (.ref bb), none, none, none, none, none, none, none, none, none, none, none, none, none, none, none, none, none, none, none, none] [] := by
  refine e_newG (cs := []) nw_X6L dL_law_0 rfl (10000, 100000) ⟨(Nat.le_of_ble_eq_true rfl), (Nat.le_of_ble_eq_true rfl)⟩ (fun q0 => ?_)
  refine EV.ceq (cs' := ([.inr (6, [.null, .null, .null, vi 0, .null, .null, .null, vi 0, vi 0, vi 0, vi 0, .null, vi 0])] : List eE)) rfl ?_
  refine e_dup dL_law_3 rfl rfl ?_
  refine e_invI (ρ := [0]) (av := []) (rest := [.ref q0]) li_L_118 rfl rfl dL_law_4 rfl C_X6_init rfl rfl (Nat.le_of_ble_eq_true rfl) (Nat.le_of_ble_eq_true rfl) (Nat.le_of_ble_eq_true rfl) (9000, 90000) ⟨(Nat.le_of_ble_eq_true rfl), (Nat.le_of_ble_eq_true rfl)⟩ rfl rfl (fun o a1 cs1 h => ?_) (fun w a1 cs1 h => ?_) (fun E a1 cs1 h => by cases h.1)
  · obtain ⟨-, h2, h3⟩ := h
    subst h3
    exact ⟨fun k hk => by rw [show k = 0 from Nat.lt_one_iff.mp hk]; exact h2, (Nat.le_of_ble_eq_true rfl)⟩
  · obtain ⟨h1, h2, h3⟩ := h
    cases h1
    have e3 : cs1 = wB a1 sF0 (zz0, (fun _ => 0), (fun _ => 0), (0, 0), hs0, (fun _ => 0), (fun _ => 0)) [] := h3
    have l3 : 1 ≤ cs1.length := by rw [e3, wB_len]; omega
    obtain ⟨a2, ha2⟩ : ∃ a2 : Nat → Nat, a2 = fun j => if j < ([.inr (6, [.null, .null, .null, vi 0, .null, .null, .null, vi 0, vi 0, vi 0, vi 0, .null, vi 0])] : List eE).length then eAs a ([] : List eE).length q0 j else a1 ([0].length + (j - ([.inr (6, [.null, .null, .null, vi 0, .null, .null, .null, vi 0, vi 0, vi 0, vi 0, .null, vi 0])] : List eE).length)) := ⟨_, rfl⟩
    have e20 : a2 0 = q0 := by rw [ha2]; rfl
    have e2 : ∀ k, k < 131 → a2 k = a1 k := fun k _ => by
      by_cases hk : k = 0
      · subst hk; rw [e20]; exact h2.symm
      · rw [ha2]
        show (if k < 1 then _ else a1 (1 + (k - 1))) = _
        rw [if_neg (by omega), show 1 + (k - 1) = k by omega]
    rw [← ha2]
    refine EV.ceq ((e_one l3).trans (e3.trans (wB_cong e2))) ?_
    refine EV.eq (st' := [.ref q0]) rfl ?_
    have h0 : q0 = a2 0 := e20.symm
    refine f_astore_n dL_law_7 rfl (Nat.le_of_ble_eq_true rfl) rfl ?_
    refine e_aload_n dL_law_8 rfl rfl ?_
    refine e_aload_n dL_law_9 rfl rfl ?_
    refine e_act (av := [.ref (a2 0), .ref bb]) (rest := []) lk_L_119 rfl dL_law_10 rfl (T_build hL okU_0.1 okU_0.2.2.1.1 okU_0.2.2.1.2) rfl (fun h => by cases h) (by rw [h0]; rfl) rfl (Nat.le_of_ble_eq_true rfl) (Nat.le_of_ble_eq_true rfl) (Nat.le_of_ble_eq_true rfl) (8000, 80000) ⟨(Nat.le_of_ble_eq_true rfl), (Nat.le_of_ble_eq_true rfl)⟩ okU_0 (fun F u hu hI => ?_)
    refine e_iconst dL_law_13 rfl ?_
    refine f_istore_n dL_law_14 rfl (Nat.le_of_ble_eq_true rfl) rfl ?_
    exact L_turns hL _ 0 a2 (8000, 80000) F u rfl (by decide) h0 hu hI ⟨(Nat.le_of_ble_eq_true rfl), (Nat.le_of_ble_eq_true rfl)⟩
