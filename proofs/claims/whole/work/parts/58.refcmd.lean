/-! ===== the reference: a command ===== -/
def lt0 (k : Nat) : Int := if k = 0 then 97 else if k = 1 then 106 else if k = 2 then 104 else if k = 3 then 99 else if k = 4 then 101 else if k = 5 then 116 else if k = 6 then 103 else if k = 7 then 107 else 115
/-- the state behind a command that begins at p -/
def cmS (tx : Int → Int) (p : Int) : sP := if kF tx p = 9 then (p, p) else kS tx (kF tx p) (kW tx (kF tx p) (-1, p + 1))
/-- a command's entries in the row of commands -/
abbrev cmC (tx : Int → Int) (p : Int) (K1 : Int → Int) (n : Int) : Prop := kF tx p < 9 → K1 (4 * n) = lt0 (kF tx p) ∧ K1 (4 * n + 1) = kV1 tx (kF tx p) (kW tx (kF tx p) (-1, p + 1)) ∧ (kF tx p ≠ 5 → kF tx p ≠ 7 → kF tx p ≠ 8 → K1 (4 * n + 2) = kV2 tx (kF tx p) (kW tx (kF tx p) (-1, p + 1))) ∧ (kF tx p = 0 ∨ kF tx p = 1 → K1 (4 * n + 3) = kV3 tx (kF tx p) (kW tx (kF tx p) (-1, p + 1)))
abbrev cmR (tx : Int → Int) (p : Int) (K K1 : Int → Int) (n : Int) : Prop := (∀ j, ¬ (4 * n ≤ j ∧ j < 4 * n + 4) → K1 j = K j) ∧ cmC tx p K1 n
theorem okS_kW {M : eFs} (hx : okX M) {s : sP} (hs : okS (M.1 6) s) (k : Nat) : okS (M.1 6) (kW (txM M) k s) := by
  unfold kW
  (repeat' split)
  · exact okS_nd hx (by decide) (okS_nd hx (by decide) hs)
  · exact okS_w3 hx (by decide) (by decide) (by decide) hs
  · exact okS_nd hx (by decide) (okS_nd hx (by decide) (okS_w3 hx (by decide) (by decide) (by decide) hs))
  · exact okS_w3 hx (by decide) (by decide) (by decide) (okS_nd hx (by decide) hs)
  · exact okS_w3 hx (by decide) (by decide) (by decide) (okS_nd hx (by decide) hs)
  · exact okS_w3 hx (by decide) (by decide) (by decide) hs
  · exact okS_w3 hx (by decide) (by decide) (by decide) hs
  · exact okS_w3 hx (by decide) (by decide) (by decide) hs
  · exact okS_w3 hx (by decide) (by decide) (by decide) hs
theorem okS_kS {M : eFs} (hx : okX M) {s : sP} (hs : okS (M.1 6) s) (k : Nat) : okS (M.1 6) (kS (txM M) k s) := by
  unfold kS
  (repeat' split)
  · exact okS_bh hx (by decide) (okS_cl hx hs)
  · exact okS_cl hx (okS_bh hx (by decide) hs)
  · exact okS_bh hx (by decide) (okS_bh hx (by decide) hs)
  · exact okS_cl hx hs
  · exact okS_cl hx hs
  · exact okS_bh hx (by decide) hs
  · exact okS_cl hx hs
  · exact okS_bh hx (by decide) hs
  · exact okS_bh hx (by decide) hs
theorem kF_lt {tx : Int → Int} {p : Int} (h : kF tx p < 9) : 0 ≤ tx p := by
  unfold kF at h
  (repeat' split at h) <;> omega
theorem okS_cm {M : eFs} (hx : okX M) {p : Int} (hp : 0 ≤ p ∧ p ≤ M.1 6) : okS (M.1 6) (cmS (txM M) p) := by
  unfold cmS
  split
  · exact ⟨(show -1 ≤ p ∧ p ≤ M.1 6 by omega), hp⟩
  · have h1 := kF_in (tx := txM M) (p := p)
    have h2 := kF_lt (tx := txM M) (p := p) (by omega)
    have a := tx_in hx p
    exact okS_kS hx (okS_kW hx ⟨(show (-1 : Int) ≤ -1 ∧ (-1 : Int) ≤ M.1 6 by omega), (show 0 ≤ p + 1 ∧ p + 1 ≤ M.1 6 by omega)⟩ _) _
theorem kF_c {tx : Int → Int} {p : Int} (hp : 0 ≤ p) (h : tx p = 99) : kF tx p = kC tx p := by
  unfold kF
  rw [if_neg (by omega), if_neg (by omega), if_neg (by omega), if_pos h]
theorem kC_4 {tx : Int → Int} {p : Int} (h : kC tx p = 4) : (nd tx 108 (-1, p + 1)).1 < 0 ∧ tx (nd tx 108 (-1, p + 1)).2 = 101 := by
  unfold kC at h
  split at h
  · assumption
  · exact absurd h (by decide)
theorem kC_3 {tx : Int → Int} {p : Int} (h : kC tx p = 3) : ¬ ((nd tx 108 (-1, p + 1)).1 < 0 ∧ tx (nd tx 108 (-1, p + 1)).2 = 101) := by
  unfold kC at h
  split at h
  · exact absurd h (by decide)
  · assumption

theorem C_X7_command0 {X : eXT} {a : Nat → Nat} {M : eFs} {p : Int} {K : Int → Int} {n : Int} (hx : okX M) (hp : 0 ≤ p ∧ p ≤ M.1 6) (hn : 0 ≤ n ∧ n ≤ 50) (hk : kF (txM M) p = 0) (hf : txM M p = 97) :
    EM X mX7_command (eRm 5) a [.ref (a 0)] (wM a (mPS M (-1, p) K n)) (eRets none a (fun cs1 => ∃ K1 : Int → Int, cs1 = wM a (mPS M (cmS (txM M) p) K1 (n + 1)) ∧ cmR (txM M) p K K1 n)) := by
  refine EM.of (by decide +kernel) rfl (Nat.le_of_ble_eq_true rfl) ?_
  have hs0 : okS (M.1 6) ((-1 : Int), p) := ⟨(show (-1 : Int) ≤ -1 ∧ (-1 : Int) ≤ M.1 6 by omega), hp⟩
  have ts0 := tx_in hx p
  refine e_iconst dX7_command_0 rfl ?_
  refine e_aload_n dX7_command_1 rfl rfl ?_
  refine e_getfield fd_X7_224 dX7_command_2 rfl rfl rfl rfl ?_
  refine EV.eq (st' := [vi n, vi 4]) rfl ?_
  refine e_imul dX7_command_5 rfl ?_
  refine f_istore_n dX7_command_6 rfl (Nat.le_of_ble_eq_true rfl) rfl ?_
  refine e_aload_n dX7_command_7 rfl rfl ?_
  refine e_dup dX7_command_8 rfl rfl ?_
  refine e_getfield fd_X7_224 dX7_command_9 rfl rfl rfl rfl ?_
  refine EV.eq (st' := [vi n, .ref (a 0)]) rfl ?_
  refine e_iconst dX7_command_12 rfl ?_
  refine e_iadd dX7_command_13 rfl ?_
  refine e_putfield fd_X7_224 dX7_command_14 rfl rfl rfl (Nat.le_of_ble_eq_true rfl) rfl rfl ?_
  refine EV.ceq (cs' := wM a (mPS M (-1, p) K (n + 1))) rfl ?_
  refine e_aload_n dX7_command_17 rfl rfl ?_
  refine e_cV0 [0, 1, 2, 3, 4, 5] lk_X7_208 rfl dX7_command_18 rfl (C_X7_sign (s := (-1, p)) hx hs0) rfl rfl (Nat.le_of_ble_eq_true rfl) (Nat.le_of_ble_eq_true rfl) (Nat.le_of_ble_eq_true rfl) ⟨rfl, rfl⟩ rfl rfl rfl rfl rfl rfl  ?_
  refine EV.eq (st' := [vi (txM M p)]) rfl ?_
  have ts := tx_in hx p
  refine f_istore_n dX7_command_21 rfl (Nat.le_of_ble_eq_true rfl) rfl ?_
  refine e_iconst dX7_command_22 rfl ?_
  refine f_istore_n dX7_command_23 rfl (Nat.le_of_ble_eq_true rfl) rfl ?_
  refine e_iload_n dX7_command_24 rfl rfl ?_
  refine e_iconst dX7_command_25 rfl ?_
  refine e_icmp_ge (t := 44) dX7_command_26 rfl rfl (by decide) (by decide) (fun h => absurd h (by decide)) (fun _ => ?_)
  refine e_aload_n dX7_command_29 rfl rfl ?_
  refine e_getfield fd_X7_27 dX7_command_30 rfl rfl rfl rfl ?_
  refine e_iload_n dX7_command_33 rfl rfl ?_
  refine e_iload_n dX7_command_34 rfl rfl ?_
  refine e_iadd dX7_command_35 rfl ?_
  refine e_iconst dX7_command_36 rfl ?_
  refine e_iastore dX7_command_37 rfl rfl rfl (by omega) (by decide) ?_
  refine f_iinc dX7_command_38 rfl rfl (Nat.le_of_ble_eq_true rfl) rfl ?_
  refine e_goto (n := 24) dX7_command_41 rfl ?_
  refine e_iload_n dX7_command_24 rfl rfl ?_
  refine e_iconst dX7_command_25 rfl ?_
  refine e_icmp_ge (t := 44) dX7_command_26 rfl rfl (by decide) (by decide) (fun h => absurd h (by decide)) (fun _ => ?_)
  refine e_aload_n dX7_command_29 rfl rfl ?_
  refine e_getfield fd_X7_27 dX7_command_30 rfl rfl rfl rfl ?_
  refine e_iload_n dX7_command_33 rfl rfl ?_
  refine e_iload_n dX7_command_34 rfl rfl ?_
  refine e_iadd dX7_command_35 rfl ?_
  refine e_iconst dX7_command_36 rfl ?_
  refine e_iastore dX7_command_37 rfl rfl rfl (by omega) (by decide) ?_
  refine f_iinc dX7_command_38 rfl rfl (Nat.le_of_ble_eq_true rfl) rfl ?_
  refine e_goto (n := 24) dX7_command_41 rfl ?_
  refine e_iload_n dX7_command_24 rfl rfl ?_
  refine e_iconst dX7_command_25 rfl ?_
  refine e_icmp_ge (t := 44) dX7_command_26 rfl rfl (by decide) (by decide) (fun h => absurd h (by decide)) (fun _ => ?_)
  refine e_aload_n dX7_command_29 rfl rfl ?_
  refine e_getfield fd_X7_27 dX7_command_30 rfl rfl rfl rfl ?_
  refine e_iload_n dX7_command_33 rfl rfl ?_
  refine e_iload_n dX7_command_34 rfl rfl ?_
  refine e_iadd dX7_command_35 rfl ?_
  refine e_iconst dX7_command_36 rfl ?_
  refine e_iastore dX7_command_37 rfl rfl rfl (by omega) (by decide) ?_
  refine f_iinc dX7_command_38 rfl rfl (Nat.le_of_ble_eq_true rfl) rfl ?_
  refine e_goto (n := 24) dX7_command_41 rfl ?_
  refine e_iload_n dX7_command_24 rfl rfl ?_
  refine e_iconst dX7_command_25 rfl ?_
  refine e_icmp_ge (t := 44) dX7_command_26 rfl rfl (by decide) (by decide) (fun h => absurd h (by decide)) (fun _ => ?_)
  refine e_aload_n dX7_command_29 rfl rfl ?_
  refine e_getfield fd_X7_27 dX7_command_30 rfl rfl rfl rfl ?_
  refine e_iload_n dX7_command_33 rfl rfl ?_
  refine e_iload_n dX7_command_34 rfl rfl ?_
  refine e_iadd dX7_command_35 rfl ?_
  refine e_iconst dX7_command_36 rfl ?_
  refine e_iastore dX7_command_37 rfl rfl rfl (by omega) (by decide) ?_
  refine f_iinc dX7_command_38 rfl rfl (Nat.le_of_ble_eq_true rfl) rfl ?_
  refine e_goto (n := 24) dX7_command_41 rfl ?_
  refine e_iload_n dX7_command_24 rfl rfl ?_
  refine e_iconst dX7_command_25 rfl ?_
  refine e_icmp_ge (t := 44) dX7_command_26 rfl rfl (by decide) (by decide) (fun _ => ?_) (fun h => absurd h (by decide))
  refine EV.ceq (cs' := wM a (mPS M (-1, p) (eU (eU (eU (eU K (4 * n + 0) 0) (4 * n + (0 + 1)) 0) (4 * n + (0 + 1 + 1)) 0) (4 * n + (0 + 1 + 1 + 1)) 0) (n + 1))) rfl ?_
  refine e_iload_n dX7_command_44 rfl rfl ?_
  refine e_bipush dX7_command_45 rfl rfl ?_
  refine e_icmp_eq (t := 101) dX7_command_47 rfl rfl (by omega) (by omega) (fun h47 => ?_) (fun h47 => ?_)
  · refine e_aload_n dX7_command_101 rfl rfl ?_
    refine e_dup dX7_command_102 rfl rfl ?_
    refine e_getfield fd_X7_202 dX7_command_103 rfl rfl rfl rfl ?_
    refine EV.eq (st' := [vi p, .ref (a 0)]) rfl ?_
    refine e_iconst dX7_command_106 rfl ?_
    refine e_iadd dX7_command_107 rfl ?_
    refine e_putfield fd_X7_202 dX7_command_108 rfl rfl rfl (Nat.le_of_ble_eq_true rfl) rfl rfl ?_
    refine EV.ceq (cs' := wM a (mPS M (-1, p + 1) (eU (eU (eU (eU K (4 * n + 0) 0) (4 * n + (0 + 1)) 0) (4 * n + (0 + 1 + 1)) 0) (4 * n + (0 + 1 + 1 + 1)) 0) (n + 1))) rfl ?_
    have hs : okS (M.1 6) ((-1 : Int), p + 1) := ⟨(show (-1 : Int) ≤ -1 ∧ (-1 : Int) ≤ M.1 6 by omega), (show 0 ≤ p + 1 ∧ p + 1 ≤ M.1 6 by omega)⟩
    refine e_aload_n dX7_command_111 rfl rfl ?_
    refine e_iload_n dX7_command_112 rfl rfl ?_
    refine EV.eq (st' := [vi 97, .ref (a 0)]) (by show [vi (txM M p), .ref (a 0)] = _; rw [hf]) ?_
    refine e_cV2 [0, 1, 2, 3, 4, 5] lk_X7_227 rfl dX7_command_113 rfl (C_X7_word0 (s := (-1, p + 1)) (K := eU (eU (eU (eU K (4 * n + 0) 0) (4 * n + (0 + 1)) 0) (4 * n + (0 + 1 + 1)) 0) (4 * n + (0 + 1 + 1 + 1)) 0) (n := n + 1) hx hs) rfl rfl (Nat.le_of_ble_eq_true rfl) (Nat.le_of_ble_eq_true rfl) (Nat.le_of_ble_eq_true rfl) ⟨rfl, rfl⟩ rfl rfl rfl rfl rfl rfl rfl rfl ?_
    refine EV.ceq (cs' := wM a (mPS M (kW (txM M) 0 (-1, p + 1)) (eU (eU (eU (eU K (4 * n + 0) 0) (4 * n + (0 + 1)) 0) (4 * n + (0 + 1 + 1)) 0) (4 * n + (0 + 1 + 1 + 1)) 0) (n + 1))) rfl ?_
    refine f_istore_n dX7_command_116 rfl (Nat.le_of_ble_eq_true rfl) rfl ?_
    refine e_aload_n dX7_command_117 rfl rfl ?_
    refine e_getfield fd_X7_27 dX7_command_118 rfl rfl rfl rfl ?_
    refine e_iload_n dX7_command_121 rfl rfl ?_
    refine e_iload_n dX7_command_122 rfl rfl ?_
    refine e_iastore dX7_command_123 rfl rfl rfl (by omega) (by decide) ?_
    refine EV.ceq (cs' := wM a (mPS M (kW (txM M) 0 (-1, p + 1)) (eU (eU (eU (eU (eU K (4 * n + 0) 0) (4 * n + (0 + 1)) 0) (4 * n + (0 + 1 + 1)) 0) (4 * n + (0 + 1 + 1 + 1)) 0) (4 * n) 97) (n + 1))) rfl ?_
    refine e_iload_n dX7_command_124 rfl rfl ?_
    refine e_tabIn (t := 220) dX7_command_125 (by decide) (by decide) (by decide) rfl rfl ?_
    refine e_aload_n dX7_command_220 rfl rfl ?_
    refine e_iload_n dX7_command_221 rfl rfl ?_
    refine e_iconst dX7_command_222 rfl ?_
    refine e_iadd dX7_command_223 rfl ?_
    refine e_cV2 [0, 1, 2, 3, 4, 5] lk_X7_230 rfl dX7_command_224 rfl (C_X7_cell (s := kW (txM M) 0 (-1, p + 1)) (K := eU (eU (eU (eU (eU K (4 * n + 0) 0) (4 * n + (0 + 1)) 0) (4 * n + (0 + 1 + 1)) 0) (4 * n + (0 + 1 + 1 + 1)) 0) (4 * n) 97) (n := n + 1) hx (okS_kW hx hs 0) (t := 4 * n + 1) (by omega)) rfl rfl (Nat.le_of_ble_eq_true rfl) (Nat.le_of_ble_eq_true rfl) (Nat.le_of_ble_eq_true rfl) ⟨rfl, rfl⟩ rfl rfl rfl rfl rfl rfl rfl rfl ?_
    refine EV.ceq (cs' := wM a (mPS M (clS (txM M) (kW (txM M) 0 (-1, p + 1))) (eU (eU (eU (eU (eU (eU (eU K (4 * n + 0) 0) (4 * n + (0 + 1)) 0) (4 * n + (0 + 1 + 1)) 0) (4 * n + (0 + 1 + 1 + 1)) 0) (4 * n) 97) (4 * n + 1) (clU (txM M) (kW (txM M) 0 (-1, p + 1)))) (4 * n + 1 + 1) (clV (txM M) (kW (txM M) 0 (-1, p + 1)))) (n + 1))) rfl ?_
    refine e_aload_n dX7_command_227 rfl rfl ?_
    refine e_getfield fd_X7_27 dX7_command_228 rfl rfl rfl rfl ?_
    refine e_iload_n dX7_command_231 rfl rfl ?_
    refine e_iconst dX7_command_232 rfl ?_
    refine e_iadd dX7_command_233 rfl ?_
    refine e_aload_n dX7_command_234 rfl rfl ?_
    refine e_bipush dX7_command_235 rfl rfl ?_
    refine e_iconst dX7_command_237 rfl ?_
    refine e_cV2 [0, 1, 2, 3, 4, 5] lk_X7_221 rfl dX7_command_238 rfl (C_X7_behind1 (s := clS (txM M) (kW (txM M) 0 (-1, p + 1))) (K := eU (eU (eU (eU (eU (eU (eU K (4 * n + 0) 0) (4 * n + (0 + 1)) 0) (4 * n + (0 + 1 + 1)) 0) (4 * n + (0 + 1 + 1 + 1)) 0) (4 * n) 97) (4 * n + 1) (clU (txM M) (kW (txM M) 0 (-1, p + 1)))) (4 * n + 1 + 1) (clV (txM M) (kW (txM M) 0 (-1, p + 1)))) (n := n + 1) hx (okS_cl hx (okS_kW hx hs 0)) (c := 32) (by decide)) rfl rfl (Nat.le_of_ble_eq_true rfl) (Nat.le_of_ble_eq_true rfl) (Nat.le_of_ble_eq_true rfl) ⟨rfl, rfl⟩ rfl rfl rfl rfl rfl rfl rfl rfl ?_
    refine EV.ceq (cs' := wM a (mPS M (bhS (txM M) 32 False (clS (txM M) (kW (txM M) 0 (-1, p + 1)))) (eU (eU (eU (eU (eU (eU (eU K (4 * n + 0) 0) (4 * n + (0 + 1)) 0) (4 * n + (0 + 1 + 1)) 0) (4 * n + (0 + 1 + 1 + 1)) 0) (4 * n) 97) (4 * n + 1) (clU (txM M) (kW (txM M) 0 (-1, p + 1)))) (4 * n + 1 + 1) (clV (txM M) (kW (txM M) 0 (-1, p + 1)))) (n + 1))) rfl ?_
    refine e_iastore dX7_command_241 rfl rfl rfl (by omega) (by decide) ?_
    refine e_goto (n := 346) dX7_command_242 rfl ?_
    exact e_vret dX7_command_346 rfl ⟨rfl, rfl, eU (eU (eU (eU (eU (eU (eU (eU K (4 * n + 0) 0) (4 * n + (0 + 1)) 0) (4 * n + (0 + 1 + 1)) 0) (4 * n + (0 + 1 + 1 + 1)) 0) (4 * n) 97) (4 * n + 1) (clU (txM M) (kW (txM M) 0 (-1, p + 1)))) (4 * n + 1 + 1) (clV (txM M) (kW (txM M) 0 (-1, p + 1)))) (4 * n + 3) (bhV (txM M) 32 False (clS (txM M) (kW (txM M) 0 (-1, p + 1)))), by unfold cmS; rw [hk] <;> rfl, fun j hj => (by simp only [eU, ite_true]; (repeat' split) <;> first | rfl | (exfalso; omega) | exact absurd trivial (by assumption)), fun _ => by rw [hk]; exact ⟨(by simp only [eU, ite_true]; (repeat' split) <;> first | rfl | (exfalso; omega) | exact absurd trivial (by assumption)), (by simp only [eU, ite_true]; (repeat' split) <;> first | rfl | (exfalso; omega) | exact absurd trivial (by assumption)), fun q1 q2 q3 => (by simp only [eU, ite_true]; (repeat' split) <;> first | rfl | (exfalso; omega) | exact absurd trivial (by assumption)), fun q => (by simp only [eU, ite_true]; (repeat' split) <;> first | rfl | (exfalso; omega) | exact absurd trivial (by assumption))⟩⟩
  · exfalso; omega
theorem C_X7_command1 {X : eXT} {a : Nat → Nat} {M : eFs} {p : Int} {K : Int → Int} {n : Int} (hx : okX M) (hp : 0 ≤ p ∧ p ≤ M.1 6) (hn : 0 ≤ n ∧ n ≤ 50) (hk : kF (txM M) p = 1) (hf : txM M p = 106) :
    EM X mX7_command (eRm 5) a [.ref (a 0)] (wM a (mPS M (-1, p) K n)) (eRets none a (fun cs1 => ∃ K1 : Int → Int, cs1 = wM a (mPS M (cmS (txM M) p) K1 (n + 1)) ∧ cmR (txM M) p K K1 n)) := by
  refine EM.of (by decide +kernel) rfl (Nat.le_of_ble_eq_true rfl) ?_
  have hs0 : okS (M.1 6) ((-1 : Int), p) := ⟨(show (-1 : Int) ≤ -1 ∧ (-1 : Int) ≤ M.1 6 by omega), hp⟩
  have ts0 := tx_in hx p
  refine e_iconst dX7_command_0 rfl ?_
  refine e_aload_n dX7_command_1 rfl rfl ?_
  refine e_getfield fd_X7_224 dX7_command_2 rfl rfl rfl rfl ?_
  refine EV.eq (st' := [vi n, vi 4]) rfl ?_
  refine e_imul dX7_command_5 rfl ?_
  refine f_istore_n dX7_command_6 rfl (Nat.le_of_ble_eq_true rfl) rfl ?_
  refine e_aload_n dX7_command_7 rfl rfl ?_
  refine e_dup dX7_command_8 rfl rfl ?_
  refine e_getfield fd_X7_224 dX7_command_9 rfl rfl rfl rfl ?_
  refine EV.eq (st' := [vi n, .ref (a 0)]) rfl ?_
  refine e_iconst dX7_command_12 rfl ?_
  refine e_iadd dX7_command_13 rfl ?_
  refine e_putfield fd_X7_224 dX7_command_14 rfl rfl rfl (Nat.le_of_ble_eq_true rfl) rfl rfl ?_
  refine EV.ceq (cs' := wM a (mPS M (-1, p) K (n + 1))) rfl ?_
  refine e_aload_n dX7_command_17 rfl rfl ?_
  refine e_cV0 [0, 1, 2, 3, 4, 5] lk_X7_208 rfl dX7_command_18 rfl (C_X7_sign (s := (-1, p)) hx hs0) rfl rfl (Nat.le_of_ble_eq_true rfl) (Nat.le_of_ble_eq_true rfl) (Nat.le_of_ble_eq_true rfl) ⟨rfl, rfl⟩ rfl rfl rfl rfl rfl rfl  ?_
  refine EV.eq (st' := [vi (txM M p)]) rfl ?_
  have ts := tx_in hx p
  refine f_istore_n dX7_command_21 rfl (Nat.le_of_ble_eq_true rfl) rfl ?_
  refine e_iconst dX7_command_22 rfl ?_
  refine f_istore_n dX7_command_23 rfl (Nat.le_of_ble_eq_true rfl) rfl ?_
  refine e_iload_n dX7_command_24 rfl rfl ?_
  refine e_iconst dX7_command_25 rfl ?_
  refine e_icmp_ge (t := 44) dX7_command_26 rfl rfl (by decide) (by decide) (fun h => absurd h (by decide)) (fun _ => ?_)
  refine e_aload_n dX7_command_29 rfl rfl ?_
  refine e_getfield fd_X7_27 dX7_command_30 rfl rfl rfl rfl ?_
  refine e_iload_n dX7_command_33 rfl rfl ?_
  refine e_iload_n dX7_command_34 rfl rfl ?_
  refine e_iadd dX7_command_35 rfl ?_
  refine e_iconst dX7_command_36 rfl ?_
  refine e_iastore dX7_command_37 rfl rfl rfl (by omega) (by decide) ?_
  refine f_iinc dX7_command_38 rfl rfl (Nat.le_of_ble_eq_true rfl) rfl ?_
  refine e_goto (n := 24) dX7_command_41 rfl ?_
  refine e_iload_n dX7_command_24 rfl rfl ?_
  refine e_iconst dX7_command_25 rfl ?_
  refine e_icmp_ge (t := 44) dX7_command_26 rfl rfl (by decide) (by decide) (fun h => absurd h (by decide)) (fun _ => ?_)
  refine e_aload_n dX7_command_29 rfl rfl ?_
  refine e_getfield fd_X7_27 dX7_command_30 rfl rfl rfl rfl ?_
  refine e_iload_n dX7_command_33 rfl rfl ?_
  refine e_iload_n dX7_command_34 rfl rfl ?_
  refine e_iadd dX7_command_35 rfl ?_
  refine e_iconst dX7_command_36 rfl ?_
  refine e_iastore dX7_command_37 rfl rfl rfl (by omega) (by decide) ?_
  refine f_iinc dX7_command_38 rfl rfl (Nat.le_of_ble_eq_true rfl) rfl ?_
  refine e_goto (n := 24) dX7_command_41 rfl ?_
  refine e_iload_n dX7_command_24 rfl rfl ?_
  refine e_iconst dX7_command_25 rfl ?_
  refine e_icmp_ge (t := 44) dX7_command_26 rfl rfl (by decide) (by decide) (fun h => absurd h (by decide)) (fun _ => ?_)
  refine e_aload_n dX7_command_29 rfl rfl ?_
  refine e_getfield fd_X7_27 dX7_command_30 rfl rfl rfl rfl ?_
  refine e_iload_n dX7_command_33 rfl rfl ?_
  refine e_iload_n dX7_command_34 rfl rfl ?_
  refine e_iadd dX7_command_35 rfl ?_
  refine e_iconst dX7_command_36 rfl ?_
  refine e_iastore dX7_command_37 rfl rfl rfl (by omega) (by decide) ?_
  refine f_iinc dX7_command_38 rfl rfl (Nat.le_of_ble_eq_true rfl) rfl ?_
  refine e_goto (n := 24) dX7_command_41 rfl ?_
  refine e_iload_n dX7_command_24 rfl rfl ?_
  refine e_iconst dX7_command_25 rfl ?_
  refine e_icmp_ge (t := 44) dX7_command_26 rfl rfl (by decide) (by decide) (fun h => absurd h (by decide)) (fun _ => ?_)
  refine e_aload_n dX7_command_29 rfl rfl ?_
  refine e_getfield fd_X7_27 dX7_command_30 rfl rfl rfl rfl ?_
  refine e_iload_n dX7_command_33 rfl rfl ?_
  refine e_iload_n dX7_command_34 rfl rfl ?_
  refine e_iadd dX7_command_35 rfl ?_
  refine e_iconst dX7_command_36 rfl ?_
  refine e_iastore dX7_command_37 rfl rfl rfl (by omega) (by decide) ?_
  refine f_iinc dX7_command_38 rfl rfl (Nat.le_of_ble_eq_true rfl) rfl ?_
  refine e_goto (n := 24) dX7_command_41 rfl ?_
  refine e_iload_n dX7_command_24 rfl rfl ?_
  refine e_iconst dX7_command_25 rfl ?_
  refine e_icmp_ge (t := 44) dX7_command_26 rfl rfl (by decide) (by decide) (fun _ => ?_) (fun h => absurd h (by decide))
  refine EV.ceq (cs' := wM a (mPS M (-1, p) (eU (eU (eU (eU K (4 * n + 0) 0) (4 * n + (0 + 1)) 0) (4 * n + (0 + 1 + 1)) 0) (4 * n + (0 + 1 + 1 + 1)) 0) (n + 1))) rfl ?_
  refine e_iload_n dX7_command_44 rfl rfl ?_
  refine e_bipush dX7_command_45 rfl rfl ?_
  refine e_icmp_eq (t := 101) dX7_command_47 rfl rfl (by omega) (by omega) (fun h47 => ?_) (fun h47 => ?_)
  · exfalso; omega
  · refine e_iload_n dX7_command_50 rfl rfl ?_
    refine e_bipush dX7_command_51 rfl rfl ?_
    refine e_icmp_eq (t := 101) dX7_command_53 rfl rfl (by omega) (by omega) (fun h53 => ?_) (fun h53 => ?_)
    · refine e_aload_n dX7_command_101 rfl rfl ?_
      refine e_dup dX7_command_102 rfl rfl ?_
      refine e_getfield fd_X7_202 dX7_command_103 rfl rfl rfl rfl ?_
      refine EV.eq (st' := [vi p, .ref (a 0)]) rfl ?_
      refine e_iconst dX7_command_106 rfl ?_
      refine e_iadd dX7_command_107 rfl ?_
      refine e_putfield fd_X7_202 dX7_command_108 rfl rfl rfl (Nat.le_of_ble_eq_true rfl) rfl rfl ?_
      refine EV.ceq (cs' := wM a (mPS M (-1, p + 1) (eU (eU (eU (eU K (4 * n + 0) 0) (4 * n + (0 + 1)) 0) (4 * n + (0 + 1 + 1)) 0) (4 * n + (0 + 1 + 1 + 1)) 0) (n + 1))) rfl ?_
      have hs : okS (M.1 6) ((-1 : Int), p + 1) := ⟨(show (-1 : Int) ≤ -1 ∧ (-1 : Int) ≤ M.1 6 by omega), (show 0 ≤ p + 1 ∧ p + 1 ≤ M.1 6 by omega)⟩
      refine e_aload_n dX7_command_111 rfl rfl ?_
      refine e_iload_n dX7_command_112 rfl rfl ?_
      refine EV.eq (st' := [vi 106, .ref (a 0)]) (by show [vi (txM M p), .ref (a 0)] = _; rw [hf]) ?_
      refine e_cV2 [0, 1, 2, 3, 4, 5] lk_X7_227 rfl dX7_command_113 rfl (C_X7_word1 (s := (-1, p + 1)) (K := eU (eU (eU (eU K (4 * n + 0) 0) (4 * n + (0 + 1)) 0) (4 * n + (0 + 1 + 1)) 0) (4 * n + (0 + 1 + 1 + 1)) 0) (n := n + 1) hx hs) rfl rfl (Nat.le_of_ble_eq_true rfl) (Nat.le_of_ble_eq_true rfl) (Nat.le_of_ble_eq_true rfl) ⟨rfl, rfl⟩ rfl rfl rfl rfl rfl rfl rfl rfl ?_
      refine EV.ceq (cs' := wM a (mPS M (kW (txM M) 1 (-1, p + 1)) (eU (eU (eU (eU K (4 * n + 0) 0) (4 * n + (0 + 1)) 0) (4 * n + (0 + 1 + 1)) 0) (4 * n + (0 + 1 + 1 + 1)) 0) (n + 1))) rfl ?_
      refine f_istore_n dX7_command_116 rfl (Nat.le_of_ble_eq_true rfl) rfl ?_
      refine e_aload_n dX7_command_117 rfl rfl ?_
      refine e_getfield fd_X7_27 dX7_command_118 rfl rfl rfl rfl ?_
      refine e_iload_n dX7_command_121 rfl rfl ?_
      refine e_iload_n dX7_command_122 rfl rfl ?_
      refine e_iastore dX7_command_123 rfl rfl rfl (by omega) (by decide) ?_
      refine EV.ceq (cs' := wM a (mPS M (kW (txM M) 1 (-1, p + 1)) (eU (eU (eU (eU (eU K (4 * n + 0) 0) (4 * n + (0 + 1)) 0) (4 * n + (0 + 1 + 1)) 0) (4 * n + (0 + 1 + 1 + 1)) 0) (4 * n) 106) (n + 1))) rfl ?_
      refine e_iload_n dX7_command_124 rfl rfl ?_
      refine e_tabIn (t := 245) dX7_command_125 (by decide) (by decide) (by decide) rfl rfl ?_
      refine e_aload_n dX7_command_245 rfl rfl ?_
      refine e_getfield fd_X7_27 dX7_command_246 rfl rfl rfl rfl ?_
      refine e_iload_n dX7_command_249 rfl rfl ?_
      refine e_iconst dX7_command_250 rfl ?_
      refine e_iadd dX7_command_251 rfl ?_
      refine e_aload_n dX7_command_252 rfl rfl ?_
      refine e_bipush dX7_command_253 rfl rfl ?_
      refine e_iconst dX7_command_255 rfl ?_
      refine e_cV2 [0, 1, 2, 3, 4, 5] lk_X7_221 rfl dX7_command_256 rfl (C_X7_behind1 (s := kW (txM M) 1 (-1, p + 1)) (K := eU (eU (eU (eU (eU K (4 * n + 0) 0) (4 * n + (0 + 1)) 0) (4 * n + (0 + 1 + 1)) 0) (4 * n + (0 + 1 + 1 + 1)) 0) (4 * n) 106) (n := n + 1) hx (okS_kW hx hs 1) (c := 32) (by decide)) rfl rfl (Nat.le_of_ble_eq_true rfl) (Nat.le_of_ble_eq_true rfl) (Nat.le_of_ble_eq_true rfl) ⟨rfl, rfl⟩ rfl rfl rfl rfl rfl rfl rfl rfl ?_
      refine EV.ceq (cs' := wM a (mPS M (bhS (txM M) 32 False (kW (txM M) 1 (-1, p + 1))) (eU (eU (eU (eU (eU K (4 * n + 0) 0) (4 * n + (0 + 1)) 0) (4 * n + (0 + 1 + 1)) 0) (4 * n + (0 + 1 + 1 + 1)) 0) (4 * n) 106) (n + 1))) rfl ?_
      refine e_iastore dX7_command_259 rfl rfl rfl (by omega) (by decide) ?_
      refine EV.ceq (cs' := wM a (mPS M (bhS (txM M) 32 False (kW (txM M) 1 (-1, p + 1))) (eU (eU (eU (eU (eU (eU K (4 * n + 0) 0) (4 * n + (0 + 1)) 0) (4 * n + (0 + 1 + 1)) 0) (4 * n + (0 + 1 + 1 + 1)) 0) (4 * n) 106) (4 * n + 1) (bhV (txM M) 32 False (kW (txM M) 1 (-1, p + 1)))) (n + 1))) rfl ?_
      refine e_aload_n dX7_command_260 rfl rfl ?_
      refine e_iload_n dX7_command_261 rfl rfl ?_
      refine e_iconst dX7_command_262 rfl ?_
      refine e_iadd dX7_command_263 rfl ?_
      refine e_cV2 [0, 1, 2, 3, 4, 5] lk_X7_230 rfl dX7_command_264 rfl (C_X7_cell (s := bhS (txM M) 32 False (kW (txM M) 1 (-1, p + 1))) (K := eU (eU (eU (eU (eU (eU K (4 * n + 0) 0) (4 * n + (0 + 1)) 0) (4 * n + (0 + 1 + 1)) 0) (4 * n + (0 + 1 + 1 + 1)) 0) (4 * n) 106) (4 * n + 1) (bhV (txM M) 32 False (kW (txM M) 1 (-1, p + 1)))) (n := n + 1) hx (okS_bh hx (by decide) (okS_kW hx hs 1)) (t := 4 * n + 2) (by omega)) rfl rfl (Nat.le_of_ble_eq_true rfl) (Nat.le_of_ble_eq_true rfl) (Nat.le_of_ble_eq_true rfl) ⟨rfl, rfl⟩ rfl rfl rfl rfl rfl rfl rfl rfl ?_
      refine EV.ceq (cs' := wM a (mPS M (clS (txM M) (bhS (txM M) 32 False (kW (txM M) 1 (-1, p + 1)))) (eU (eU (eU (eU (eU (eU (eU (eU K (4 * n + 0) 0) (4 * n + (0 + 1)) 0) (4 * n + (0 + 1 + 1)) 0) (4 * n + (0 + 1 + 1 + 1)) 0) (4 * n) 106) (4 * n + 1) (bhV (txM M) 32 False (kW (txM M) 1 (-1, p + 1)))) (4 * n + 2) (clU (txM M) (bhS (txM M) 32 False (kW (txM M) 1 (-1, p + 1))))) (4 * n + 2 + 1) (clV (txM M) (bhS (txM M) 32 False (kW (txM M) 1 (-1, p + 1))))) (n + 1))) rfl ?_
      refine e_goto (n := 346) dX7_command_267 rfl ?_
      exact e_vret dX7_command_346 rfl ⟨rfl, rfl, eU (eU (eU (eU (eU (eU (eU (eU K (4 * n + 0) 0) (4 * n + (0 + 1)) 0) (4 * n + (0 + 1 + 1)) 0) (4 * n + (0 + 1 + 1 + 1)) 0) (4 * n) 106) (4 * n + 1) (bhV (txM M) 32 False (kW (txM M) 1 (-1, p + 1)))) (4 * n + 2) (clU (txM M) (bhS (txM M) 32 False (kW (txM M) 1 (-1, p + 1))))) (4 * n + 2 + 1) (clV (txM M) (bhS (txM M) 32 False (kW (txM M) 1 (-1, p + 1)))), by unfold cmS; rw [hk] <;> rfl, fun j hj => (by simp only [eU, ite_true]; (repeat' split) <;> first | rfl | (exfalso; omega) | exact absurd trivial (by assumption)), fun _ => by rw [hk]; exact ⟨(by simp only [eU, ite_true]; (repeat' split) <;> first | rfl | (exfalso; omega) | exact absurd trivial (by assumption)), (by simp only [eU, ite_true]; (repeat' split) <;> first | rfl | (exfalso; omega) | exact absurd trivial (by assumption)), fun q1 q2 q3 => (by simp only [eU, ite_true]; (repeat' split) <;> first | rfl | (exfalso; omega) | exact absurd trivial (by assumption)), fun q => (by simp only [eU, ite_true]; (repeat' split) <;> first | rfl | (exfalso; omega) | exact absurd trivial (by assumption))⟩⟩
    · exfalso; omega
theorem C_X7_command2 {X : eXT} {a : Nat → Nat} {M : eFs} {p : Int} {K : Int → Int} {n : Int} (hx : okX M) (hp : 0 ≤ p ∧ p ≤ M.1 6) (hn : 0 ≤ n ∧ n ≤ 50) (hk : kF (txM M) p = 2) (hf : txM M p = 104) :
    EM X mX7_command (eRm 5) a [.ref (a 0)] (wM a (mPS M (-1, p) K n)) (eRets none a (fun cs1 => ∃ K1 : Int → Int, cs1 = wM a (mPS M (cmS (txM M) p) K1 (n + 1)) ∧ cmR (txM M) p K K1 n)) := by
  refine EM.of (by decide +kernel) rfl (Nat.le_of_ble_eq_true rfl) ?_
  have hs0 : okS (M.1 6) ((-1 : Int), p) := ⟨(show (-1 : Int) ≤ -1 ∧ (-1 : Int) ≤ M.1 6 by omega), hp⟩
  have ts0 := tx_in hx p
  refine e_iconst dX7_command_0 rfl ?_
  refine e_aload_n dX7_command_1 rfl rfl ?_
  refine e_getfield fd_X7_224 dX7_command_2 rfl rfl rfl rfl ?_
  refine EV.eq (st' := [vi n, vi 4]) rfl ?_
  refine e_imul dX7_command_5 rfl ?_
  refine f_istore_n dX7_command_6 rfl (Nat.le_of_ble_eq_true rfl) rfl ?_
  refine e_aload_n dX7_command_7 rfl rfl ?_
  refine e_dup dX7_command_8 rfl rfl ?_
  refine e_getfield fd_X7_224 dX7_command_9 rfl rfl rfl rfl ?_
  refine EV.eq (st' := [vi n, .ref (a 0)]) rfl ?_
  refine e_iconst dX7_command_12 rfl ?_
  refine e_iadd dX7_command_13 rfl ?_
  refine e_putfield fd_X7_224 dX7_command_14 rfl rfl rfl (Nat.le_of_ble_eq_true rfl) rfl rfl ?_
  refine EV.ceq (cs' := wM a (mPS M (-1, p) K (n + 1))) rfl ?_
  refine e_aload_n dX7_command_17 rfl rfl ?_
  refine e_cV0 [0, 1, 2, 3, 4, 5] lk_X7_208 rfl dX7_command_18 rfl (C_X7_sign (s := (-1, p)) hx hs0) rfl rfl (Nat.le_of_ble_eq_true rfl) (Nat.le_of_ble_eq_true rfl) (Nat.le_of_ble_eq_true rfl) ⟨rfl, rfl⟩ rfl rfl rfl rfl rfl rfl  ?_
  refine EV.eq (st' := [vi (txM M p)]) rfl ?_
  have ts := tx_in hx p
  refine f_istore_n dX7_command_21 rfl (Nat.le_of_ble_eq_true rfl) rfl ?_
  refine e_iconst dX7_command_22 rfl ?_
  refine f_istore_n dX7_command_23 rfl (Nat.le_of_ble_eq_true rfl) rfl ?_
  refine e_iload_n dX7_command_24 rfl rfl ?_
  refine e_iconst dX7_command_25 rfl ?_
  refine e_icmp_ge (t := 44) dX7_command_26 rfl rfl (by decide) (by decide) (fun h => absurd h (by decide)) (fun _ => ?_)
  refine e_aload_n dX7_command_29 rfl rfl ?_
  refine e_getfield fd_X7_27 dX7_command_30 rfl rfl rfl rfl ?_
  refine e_iload_n dX7_command_33 rfl rfl ?_
  refine e_iload_n dX7_command_34 rfl rfl ?_
  refine e_iadd dX7_command_35 rfl ?_
  refine e_iconst dX7_command_36 rfl ?_
  refine e_iastore dX7_command_37 rfl rfl rfl (by omega) (by decide) ?_
  refine f_iinc dX7_command_38 rfl rfl (Nat.le_of_ble_eq_true rfl) rfl ?_
  refine e_goto (n := 24) dX7_command_41 rfl ?_
  refine e_iload_n dX7_command_24 rfl rfl ?_
  refine e_iconst dX7_command_25 rfl ?_
  refine e_icmp_ge (t := 44) dX7_command_26 rfl rfl (by decide) (by decide) (fun h => absurd h (by decide)) (fun _ => ?_)
  refine e_aload_n dX7_command_29 rfl rfl ?_
  refine e_getfield fd_X7_27 dX7_command_30 rfl rfl rfl rfl ?_
  refine e_iload_n dX7_command_33 rfl rfl ?_
  refine e_iload_n dX7_command_34 rfl rfl ?_
  refine e_iadd dX7_command_35 rfl ?_
  refine e_iconst dX7_command_36 rfl ?_
  refine e_iastore dX7_command_37 rfl rfl rfl (by omega) (by decide) ?_
  refine f_iinc dX7_command_38 rfl rfl (Nat.le_of_ble_eq_true rfl) rfl ?_
  refine e_goto (n := 24) dX7_command_41 rfl ?_
  refine e_iload_n dX7_command_24 rfl rfl ?_
  refine e_iconst dX7_command_25 rfl ?_
  refine e_icmp_ge (t := 44) dX7_command_26 rfl rfl (by decide) (by decide) (fun h => absurd h (by decide)) (fun _ => ?_)
  refine e_aload_n dX7_command_29 rfl rfl ?_
  refine e_getfield fd_X7_27 dX7_command_30 rfl rfl rfl rfl ?_
  refine e_iload_n dX7_command_33 rfl rfl ?_
  refine e_iload_n dX7_command_34 rfl rfl ?_
  refine e_iadd dX7_command_35 rfl ?_
  refine e_iconst dX7_command_36 rfl ?_
  refine e_iastore dX7_command_37 rfl rfl rfl (by omega) (by decide) ?_
  refine f_iinc dX7_command_38 rfl rfl (Nat.le_of_ble_eq_true rfl) rfl ?_
  refine e_goto (n := 24) dX7_command_41 rfl ?_
  refine e_iload_n dX7_command_24 rfl rfl ?_
  refine e_iconst dX7_command_25 rfl ?_
  refine e_icmp_ge (t := 44) dX7_command_26 rfl rfl (by decide) (by decide) (fun h => absurd h (by decide)) (fun _ => ?_)
  refine e_aload_n dX7_command_29 rfl rfl ?_
  refine e_getfield fd_X7_27 dX7_command_30 rfl rfl rfl rfl ?_
  refine e_iload_n dX7_command_33 rfl rfl ?_
  refine e_iload_n dX7_command_34 rfl rfl ?_
  refine e_iadd dX7_command_35 rfl ?_
  refine e_iconst dX7_command_36 rfl ?_
  refine e_iastore dX7_command_37 rfl rfl rfl (by omega) (by decide) ?_
  refine f_iinc dX7_command_38 rfl rfl (Nat.le_of_ble_eq_true rfl) rfl ?_
  refine e_goto (n := 24) dX7_command_41 rfl ?_
  refine e_iload_n dX7_command_24 rfl rfl ?_
  refine e_iconst dX7_command_25 rfl ?_
  refine e_icmp_ge (t := 44) dX7_command_26 rfl rfl (by decide) (by decide) (fun _ => ?_) (fun h => absurd h (by decide))
  refine EV.ceq (cs' := wM a (mPS M (-1, p) (eU (eU (eU (eU K (4 * n + 0) 0) (4 * n + (0 + 1)) 0) (4 * n + (0 + 1 + 1)) 0) (4 * n + (0 + 1 + 1 + 1)) 0) (n + 1))) rfl ?_
  refine e_iload_n dX7_command_44 rfl rfl ?_
  refine e_bipush dX7_command_45 rfl rfl ?_
  refine e_icmp_eq (t := 101) dX7_command_47 rfl rfl (by omega) (by omega) (fun h47 => ?_) (fun h47 => ?_)
  · exfalso; omega
  · refine e_iload_n dX7_command_50 rfl rfl ?_
    refine e_bipush dX7_command_51 rfl rfl ?_
    refine e_icmp_eq (t := 101) dX7_command_53 rfl rfl (by omega) (by omega) (fun h53 => ?_) (fun h53 => ?_)
    · exfalso; omega
    · refine e_iload_n dX7_command_56 rfl rfl ?_
      refine e_bipush dX7_command_57 rfl rfl ?_
      refine e_icmp_eq (t := 101) dX7_command_59 rfl rfl (by omega) (by omega) (fun h59 => ?_) (fun h59 => ?_)
      · refine e_aload_n dX7_command_101 rfl rfl ?_
        refine e_dup dX7_command_102 rfl rfl ?_
        refine e_getfield fd_X7_202 dX7_command_103 rfl rfl rfl rfl ?_
        refine EV.eq (st' := [vi p, .ref (a 0)]) rfl ?_
        refine e_iconst dX7_command_106 rfl ?_
        refine e_iadd dX7_command_107 rfl ?_
        refine e_putfield fd_X7_202 dX7_command_108 rfl rfl rfl (Nat.le_of_ble_eq_true rfl) rfl rfl ?_
        refine EV.ceq (cs' := wM a (mPS M (-1, p + 1) (eU (eU (eU (eU K (4 * n + 0) 0) (4 * n + (0 + 1)) 0) (4 * n + (0 + 1 + 1)) 0) (4 * n + (0 + 1 + 1 + 1)) 0) (n + 1))) rfl ?_
        have hs : okS (M.1 6) ((-1 : Int), p + 1) := ⟨(show (-1 : Int) ≤ -1 ∧ (-1 : Int) ≤ M.1 6 by omega), (show 0 ≤ p + 1 ∧ p + 1 ≤ M.1 6 by omega)⟩
        refine e_aload_n dX7_command_111 rfl rfl ?_
        refine e_iload_n dX7_command_112 rfl rfl ?_
        refine EV.eq (st' := [vi 104, .ref (a 0)]) (by show [vi (txM M p), .ref (a 0)] = _; rw [hf]) ?_
        refine e_cV2 [0, 1, 2, 3, 4, 5] lk_X7_227 rfl dX7_command_113 rfl (C_X7_word2 (s := (-1, p + 1)) (K := eU (eU (eU (eU K (4 * n + 0) 0) (4 * n + (0 + 1)) 0) (4 * n + (0 + 1 + 1)) 0) (4 * n + (0 + 1 + 1 + 1)) 0) (n := n + 1) hx hs) rfl rfl (Nat.le_of_ble_eq_true rfl) (Nat.le_of_ble_eq_true rfl) (Nat.le_of_ble_eq_true rfl) ⟨rfl, rfl⟩ rfl rfl rfl rfl rfl rfl rfl rfl ?_
        refine EV.ceq (cs' := wM a (mPS M (kW (txM M) 2 (-1, p + 1)) (eU (eU (eU (eU K (4 * n + 0) 0) (4 * n + (0 + 1)) 0) (4 * n + (0 + 1 + 1)) 0) (4 * n + (0 + 1 + 1 + 1)) 0) (n + 1))) rfl ?_
        refine f_istore_n dX7_command_116 rfl (Nat.le_of_ble_eq_true rfl) rfl ?_
        refine e_aload_n dX7_command_117 rfl rfl ?_
        refine e_getfield fd_X7_27 dX7_command_118 rfl rfl rfl rfl ?_
        refine e_iload_n dX7_command_121 rfl rfl ?_
        refine e_iload_n dX7_command_122 rfl rfl ?_
        refine e_iastore dX7_command_123 rfl rfl rfl (by omega) (by decide) ?_
        refine EV.ceq (cs' := wM a (mPS M (kW (txM M) 2 (-1, p + 1)) (eU (eU (eU (eU (eU K (4 * n + 0) 0) (4 * n + (0 + 1)) 0) (4 * n + (0 + 1 + 1)) 0) (4 * n + (0 + 1 + 1 + 1)) 0) (4 * n) 104) (n + 1))) rfl ?_
        refine e_iload_n dX7_command_124 rfl rfl ?_
        refine e_tabIn (t := 270) dX7_command_125 (by decide) (by decide) (by decide) rfl rfl ?_
        refine e_aload_n dX7_command_270 rfl rfl ?_
        refine e_getfield fd_X7_27 dX7_command_271 rfl rfl rfl rfl ?_
        refine e_iload_n dX7_command_274 rfl rfl ?_
        refine e_iconst dX7_command_275 rfl ?_
        refine e_iadd dX7_command_276 rfl ?_
        refine e_aload_n dX7_command_277 rfl rfl ?_
        refine e_bipush dX7_command_278 rfl rfl ?_
        refine e_iconst dX7_command_280 rfl ?_
        refine e_cV2 [0, 1, 2, 3, 4, 5] lk_X7_221 rfl dX7_command_281 rfl (C_X7_behind1 (s := kW (txM M) 2 (-1, p + 1)) (K := eU (eU (eU (eU (eU K (4 * n + 0) 0) (4 * n + (0 + 1)) 0) (4 * n + (0 + 1 + 1)) 0) (4 * n + (0 + 1 + 1 + 1)) 0) (4 * n) 104) (n := n + 1) hx (okS_kW hx hs 2) (c := 32) (by decide)) rfl rfl (Nat.le_of_ble_eq_true rfl) (Nat.le_of_ble_eq_true rfl) (Nat.le_of_ble_eq_true rfl) ⟨rfl, rfl⟩ rfl rfl rfl rfl rfl rfl rfl rfl ?_
        refine EV.ceq (cs' := wM a (mPS M (bhS (txM M) 32 False (kW (txM M) 2 (-1, p + 1))) (eU (eU (eU (eU (eU K (4 * n + 0) 0) (4 * n + (0 + 1)) 0) (4 * n + (0 + 1 + 1)) 0) (4 * n + (0 + 1 + 1 + 1)) 0) (4 * n) 104) (n + 1))) rfl ?_
        refine e_iastore dX7_command_284 rfl rfl rfl (by omega) (by decide) ?_
        refine EV.ceq (cs' := wM a (mPS M (bhS (txM M) 32 False (kW (txM M) 2 (-1, p + 1))) (eU (eU (eU (eU (eU (eU K (4 * n + 0) 0) (4 * n + (0 + 1)) 0) (4 * n + (0 + 1 + 1)) 0) (4 * n + (0 + 1 + 1 + 1)) 0) (4 * n) 104) (4 * n + 1) (bhV (txM M) 32 False (kW (txM M) 2 (-1, p + 1)))) (n + 1))) rfl ?_
        refine e_aload_n dX7_command_285 rfl rfl ?_
        refine e_getfield fd_X7_27 dX7_command_286 rfl rfl rfl rfl ?_
        refine e_iload_n dX7_command_289 rfl rfl ?_
        refine e_iconst dX7_command_290 rfl ?_
        refine e_iadd dX7_command_291 rfl ?_
        refine e_aload_n dX7_command_292 rfl rfl ?_
        refine e_bipush dX7_command_293 rfl rfl ?_
        refine e_iconst dX7_command_295 rfl ?_
        refine e_cV2 [0, 1, 2, 3, 4, 5] lk_X7_221 rfl dX7_command_296 rfl (C_X7_behind1 (s := bhS (txM M) 32 False (kW (txM M) 2 (-1, p + 1))) (K := eU (eU (eU (eU (eU (eU K (4 * n + 0) 0) (4 * n + (0 + 1)) 0) (4 * n + (0 + 1 + 1)) 0) (4 * n + (0 + 1 + 1 + 1)) 0) (4 * n) 104) (4 * n + 1) (bhV (txM M) 32 False (kW (txM M) 2 (-1, p + 1)))) (n := n + 1) hx (okS_bh hx (by decide) (okS_kW hx hs 2)) (c := 32) (by decide)) rfl rfl (Nat.le_of_ble_eq_true rfl) (Nat.le_of_ble_eq_true rfl) (Nat.le_of_ble_eq_true rfl) ⟨rfl, rfl⟩ rfl rfl rfl rfl rfl rfl rfl rfl ?_
        refine EV.ceq (cs' := wM a (mPS M (bhS (txM M) 32 False (bhS (txM M) 32 False (kW (txM M) 2 (-1, p + 1)))) (eU (eU (eU (eU (eU (eU K (4 * n + 0) 0) (4 * n + (0 + 1)) 0) (4 * n + (0 + 1 + 1)) 0) (4 * n + (0 + 1 + 1 + 1)) 0) (4 * n) 104) (4 * n + 1) (bhV (txM M) 32 False (kW (txM M) 2 (-1, p + 1)))) (n + 1))) rfl ?_
        refine e_iastore dX7_command_299 rfl rfl rfl (by omega) (by decide) ?_
        refine e_goto (n := 346) dX7_command_300 rfl ?_
        exact e_vret dX7_command_346 rfl ⟨rfl, rfl, eU (eU (eU (eU (eU (eU (eU K (4 * n + 0) 0) (4 * n + (0 + 1)) 0) (4 * n + (0 + 1 + 1)) 0) (4 * n + (0 + 1 + 1 + 1)) 0) (4 * n) 104) (4 * n + 1) (bhV (txM M) 32 False (kW (txM M) 2 (-1, p + 1)))) (4 * n + 2) (bhV (txM M) 32 False (bhS (txM M) 32 False (kW (txM M) 2 (-1, p + 1)))), by unfold cmS; rw [hk] <;> rfl, fun j hj => (by simp only [eU, ite_true]; (repeat' split) <;> first | rfl | (exfalso; omega) | exact absurd trivial (by assumption)), fun _ => by rw [hk]; exact ⟨(by simp only [eU, ite_true]; (repeat' split) <;> first | rfl | (exfalso; omega) | exact absurd trivial (by assumption)), (by simp only [eU, ite_true]; (repeat' split) <;> first | rfl | (exfalso; omega) | exact absurd trivial (by assumption)), fun q1 q2 q3 => (by simp only [eU, ite_true]; (repeat' split) <;> first | rfl | (exfalso; omega) | exact absurd trivial (by assumption)), fun q => absurd q (by decide)⟩⟩
      · exfalso; omega
theorem C_X7_command3 {X : eXT} {a : Nat → Nat} {M : eFs} {p : Int} {K : Int → Int} {n : Int} (hx : okX M) (hp : 0 ≤ p ∧ p ≤ M.1 6) (hn : 0 ≤ n ∧ n ≤ 50) (hk : kF (txM M) p = 3) (hf : txM M p = 99) :
    EM X mX7_command (eRm 5) a [.ref (a 0)] (wM a (mPS M (-1, p) K n)) (eRets none a (fun cs1 => ∃ K1 : Int → Int, cs1 = wM a (mPS M (cmS (txM M) p) K1 (n + 1)) ∧ cmR (txM M) p K K1 n)) := by
  refine EM.of (by decide +kernel) rfl (Nat.le_of_ble_eq_true rfl) ?_
  have hs0 : okS (M.1 6) ((-1 : Int), p) := ⟨(show (-1 : Int) ≤ -1 ∧ (-1 : Int) ≤ M.1 6 by omega), hp⟩
  have ts0 := tx_in hx p
  have hk0 := hk
  rw [kF_c hp.1 hf] at hk
  refine e_iconst dX7_command_0 rfl ?_
  refine e_aload_n dX7_command_1 rfl rfl ?_
  refine e_getfield fd_X7_224 dX7_command_2 rfl rfl rfl rfl ?_
  refine EV.eq (st' := [vi n, vi 4]) rfl ?_
  refine e_imul dX7_command_5 rfl ?_
  refine f_istore_n dX7_command_6 rfl (Nat.le_of_ble_eq_true rfl) rfl ?_
  refine e_aload_n dX7_command_7 rfl rfl ?_
  refine e_dup dX7_command_8 rfl rfl ?_
  refine e_getfield fd_X7_224 dX7_command_9 rfl rfl rfl rfl ?_
  refine EV.eq (st' := [vi n, .ref (a 0)]) rfl ?_
  refine e_iconst dX7_command_12 rfl ?_
  refine e_iadd dX7_command_13 rfl ?_
  refine e_putfield fd_X7_224 dX7_command_14 rfl rfl rfl (Nat.le_of_ble_eq_true rfl) rfl rfl ?_
  refine EV.ceq (cs' := wM a (mPS M (-1, p) K (n + 1))) rfl ?_
  refine e_aload_n dX7_command_17 rfl rfl ?_
  refine e_cV0 [0, 1, 2, 3, 4, 5] lk_X7_208 rfl dX7_command_18 rfl (C_X7_sign (s := (-1, p)) hx hs0) rfl rfl (Nat.le_of_ble_eq_true rfl) (Nat.le_of_ble_eq_true rfl) (Nat.le_of_ble_eq_true rfl) ⟨rfl, rfl⟩ rfl rfl rfl rfl rfl rfl  ?_
  refine EV.eq (st' := [vi (txM M p)]) rfl ?_
  have ts := tx_in hx p
  refine f_istore_n dX7_command_21 rfl (Nat.le_of_ble_eq_true rfl) rfl ?_
  refine e_iconst dX7_command_22 rfl ?_
  refine f_istore_n dX7_command_23 rfl (Nat.le_of_ble_eq_true rfl) rfl ?_
  refine e_iload_n dX7_command_24 rfl rfl ?_
  refine e_iconst dX7_command_25 rfl ?_
  refine e_icmp_ge (t := 44) dX7_command_26 rfl rfl (by decide) (by decide) (fun h => absurd h (by decide)) (fun _ => ?_)
  refine e_aload_n dX7_command_29 rfl rfl ?_
  refine e_getfield fd_X7_27 dX7_command_30 rfl rfl rfl rfl ?_
  refine e_iload_n dX7_command_33 rfl rfl ?_
  refine e_iload_n dX7_command_34 rfl rfl ?_
  refine e_iadd dX7_command_35 rfl ?_
  refine e_iconst dX7_command_36 rfl ?_
  refine e_iastore dX7_command_37 rfl rfl rfl (by omega) (by decide) ?_
  refine f_iinc dX7_command_38 rfl rfl (Nat.le_of_ble_eq_true rfl) rfl ?_
  refine e_goto (n := 24) dX7_command_41 rfl ?_
  refine e_iload_n dX7_command_24 rfl rfl ?_
  refine e_iconst dX7_command_25 rfl ?_
  refine e_icmp_ge (t := 44) dX7_command_26 rfl rfl (by decide) (by decide) (fun h => absurd h (by decide)) (fun _ => ?_)
  refine e_aload_n dX7_command_29 rfl rfl ?_
  refine e_getfield fd_X7_27 dX7_command_30 rfl rfl rfl rfl ?_
  refine e_iload_n dX7_command_33 rfl rfl ?_
  refine e_iload_n dX7_command_34 rfl rfl ?_
  refine e_iadd dX7_command_35 rfl ?_
  refine e_iconst dX7_command_36 rfl ?_
  refine e_iastore dX7_command_37 rfl rfl rfl (by omega) (by decide) ?_
  refine f_iinc dX7_command_38 rfl rfl (Nat.le_of_ble_eq_true rfl) rfl ?_
  refine e_goto (n := 24) dX7_command_41 rfl ?_
  refine e_iload_n dX7_command_24 rfl rfl ?_
  refine e_iconst dX7_command_25 rfl ?_
  refine e_icmp_ge (t := 44) dX7_command_26 rfl rfl (by decide) (by decide) (fun h => absurd h (by decide)) (fun _ => ?_)
  refine e_aload_n dX7_command_29 rfl rfl ?_
  refine e_getfield fd_X7_27 dX7_command_30 rfl rfl rfl rfl ?_
  refine e_iload_n dX7_command_33 rfl rfl ?_
  refine e_iload_n dX7_command_34 rfl rfl ?_
  refine e_iadd dX7_command_35 rfl ?_
  refine e_iconst dX7_command_36 rfl ?_
  refine e_iastore dX7_command_37 rfl rfl rfl (by omega) (by decide) ?_
  refine f_iinc dX7_command_38 rfl rfl (Nat.le_of_ble_eq_true rfl) rfl ?_
  refine e_goto (n := 24) dX7_command_41 rfl ?_
  refine e_iload_n dX7_command_24 rfl rfl ?_
  refine e_iconst dX7_command_25 rfl ?_
  refine e_icmp_ge (t := 44) dX7_command_26 rfl rfl (by decide) (by decide) (fun h => absurd h (by decide)) (fun _ => ?_)
  refine e_aload_n dX7_command_29 rfl rfl ?_
  refine e_getfield fd_X7_27 dX7_command_30 rfl rfl rfl rfl ?_
  refine e_iload_n dX7_command_33 rfl rfl ?_
  refine e_iload_n dX7_command_34 rfl rfl ?_
  refine e_iadd dX7_command_35 rfl ?_
  refine e_iconst dX7_command_36 rfl ?_
  refine e_iastore dX7_command_37 rfl rfl rfl (by omega) (by decide) ?_
  refine f_iinc dX7_command_38 rfl rfl (Nat.le_of_ble_eq_true rfl) rfl ?_
  refine e_goto (n := 24) dX7_command_41 rfl ?_
  refine e_iload_n dX7_command_24 rfl rfl ?_
  refine e_iconst dX7_command_25 rfl ?_
  refine e_icmp_ge (t := 44) dX7_command_26 rfl rfl (by decide) (by decide) (fun _ => ?_) (fun h => absurd h (by decide))
  refine EV.ceq (cs' := wM a (mPS M (-1, p) (eU (eU (eU (eU K (4 * n + 0) 0) (4 * n + (0 + 1)) 0) (4 * n + (0 + 1 + 1)) 0) (4 * n + (0 + 1 + 1 + 1)) 0) (n + 1))) rfl ?_
  refine e_iload_n dX7_command_44 rfl rfl ?_
  refine e_bipush dX7_command_45 rfl rfl ?_
  refine e_icmp_eq (t := 101) dX7_command_47 rfl rfl (by omega) (by omega) (fun h47 => ?_) (fun h47 => ?_)
  · exfalso; omega
  · refine e_iload_n dX7_command_50 rfl rfl ?_
    refine e_bipush dX7_command_51 rfl rfl ?_
    refine e_icmp_eq (t := 101) dX7_command_53 rfl rfl (by omega) (by omega) (fun h53 => ?_) (fun h53 => ?_)
    · exfalso; omega
    · refine e_iload_n dX7_command_56 rfl rfl ?_
      refine e_bipush dX7_command_57 rfl rfl ?_
      refine e_icmp_eq (t := 101) dX7_command_59 rfl rfl (by omega) (by omega) (fun h59 => ?_) (fun h59 => ?_)
      · exfalso; omega
      · refine e_iload_n dX7_command_62 rfl rfl ?_
        refine e_bipush dX7_command_63 rfl rfl ?_
        refine e_icmp_eq (t := 101) dX7_command_65 rfl rfl (by omega) (by omega) (fun h65 => ?_) (fun h65 => ?_)
        · refine e_aload_n dX7_command_101 rfl rfl ?_
          refine e_dup dX7_command_102 rfl rfl ?_
          refine e_getfield fd_X7_202 dX7_command_103 rfl rfl rfl rfl ?_
          refine EV.eq (st' := [vi p, .ref (a 0)]) rfl ?_
          refine e_iconst dX7_command_106 rfl ?_
          refine e_iadd dX7_command_107 rfl ?_
          refine e_putfield fd_X7_202 dX7_command_108 rfl rfl rfl (Nat.le_of_ble_eq_true rfl) rfl rfl ?_
          refine EV.ceq (cs' := wM a (mPS M (-1, p + 1) (eU (eU (eU (eU K (4 * n + 0) 0) (4 * n + (0 + 1)) 0) (4 * n + (0 + 1 + 1)) 0) (4 * n + (0 + 1 + 1 + 1)) 0) (n + 1))) rfl ?_
          have hs : okS (M.1 6) ((-1 : Int), p + 1) := ⟨(show (-1 : Int) ≤ -1 ∧ (-1 : Int) ≤ M.1 6 by omega), (show 0 ≤ p + 1 ∧ p + 1 ≤ M.1 6 by omega)⟩
          refine e_aload_n dX7_command_111 rfl rfl ?_
          refine e_iload_n dX7_command_112 rfl rfl ?_
          refine EV.eq (st' := [vi 99, .ref (a 0)]) (by show [vi (txM M p), .ref (a 0)] = _; rw [hf]) ?_
          refine e_cV2 [0, 1, 2, 3, 4, 5] lk_X7_227 rfl dX7_command_113 rfl (C_X7_word3 (s := (-1, p + 1)) (K := eU (eU (eU (eU K (4 * n + 0) 0) (4 * n + (0 + 1)) 0) (4 * n + (0 + 1 + 1)) 0) (4 * n + (0 + 1 + 1 + 1)) 0) (n := n + 1) hx hs (kC_3 hk)) rfl rfl (Nat.le_of_ble_eq_true rfl) (Nat.le_of_ble_eq_true rfl) (Nat.le_of_ble_eq_true rfl) ⟨rfl, rfl⟩ rfl rfl rfl rfl rfl rfl rfl rfl ?_
          refine EV.ceq (cs' := wM a (mPS M (kW (txM M) 3 (-1, p + 1)) (eU (eU (eU (eU K (4 * n + 0) 0) (4 * n + (0 + 1)) 0) (4 * n + (0 + 1 + 1)) 0) (4 * n + (0 + 1 + 1 + 1)) 0) (n + 1))) rfl ?_
          refine f_istore_n dX7_command_116 rfl (Nat.le_of_ble_eq_true rfl) rfl ?_
          refine e_aload_n dX7_command_117 rfl rfl ?_
          refine e_getfield fd_X7_27 dX7_command_118 rfl rfl rfl rfl ?_
          refine e_iload_n dX7_command_121 rfl rfl ?_
          refine e_iload_n dX7_command_122 rfl rfl ?_
          refine e_iastore dX7_command_123 rfl rfl rfl (by omega) (by decide) ?_
          refine EV.ceq (cs' := wM a (mPS M (kW (txM M) 3 (-1, p + 1)) (eU (eU (eU (eU (eU K (4 * n + 0) 0) (4 * n + (0 + 1)) 0) (4 * n + (0 + 1 + 1)) 0) (4 * n + (0 + 1 + 1 + 1)) 0) (4 * n) 99) (n + 1))) rfl ?_
          refine e_iload_n dX7_command_124 rfl rfl ?_
          refine e_tabIn (t := 339) dX7_command_125 (by decide) (by decide) (by decide) rfl rfl ?_
          refine e_aload_n dX7_command_339 rfl rfl ?_
          refine e_iload_n dX7_command_340 rfl rfl ?_
          refine e_iconst dX7_command_341 rfl ?_
          refine e_iadd dX7_command_342 rfl ?_
          refine e_cV2 [0, 1, 2, 3, 4, 5] lk_X7_230 rfl dX7_command_343 rfl (C_X7_cell (s := kW (txM M) 3 (-1, p + 1)) (K := eU (eU (eU (eU (eU K (4 * n + 0) 0) (4 * n + (0 + 1)) 0) (4 * n + (0 + 1 + 1)) 0) (4 * n + (0 + 1 + 1 + 1)) 0) (4 * n) 99) (n := n + 1) hx (okS_kW hx hs 3) (t := 4 * n + 1) (by omega)) rfl rfl (Nat.le_of_ble_eq_true rfl) (Nat.le_of_ble_eq_true rfl) (Nat.le_of_ble_eq_true rfl) ⟨rfl, rfl⟩ rfl rfl rfl rfl rfl rfl rfl rfl ?_
          refine EV.ceq (cs' := wM a (mPS M (clS (txM M) (kW (txM M) 3 (-1, p + 1))) (eU (eU (eU (eU (eU (eU (eU K (4 * n + 0) 0) (4 * n + (0 + 1)) 0) (4 * n + (0 + 1 + 1)) 0) (4 * n + (0 + 1 + 1 + 1)) 0) (4 * n) 99) (4 * n + 1) (clU (txM M) (kW (txM M) 3 (-1, p + 1)))) (4 * n + 1 + 1) (clV (txM M) (kW (txM M) 3 (-1, p + 1)))) (n + 1))) rfl ?_
          exact e_vret dX7_command_346 rfl ⟨rfl, rfl, eU (eU (eU (eU (eU (eU (eU K (4 * n + 0) 0) (4 * n + (0 + 1)) 0) (4 * n + (0 + 1 + 1)) 0) (4 * n + (0 + 1 + 1 + 1)) 0) (4 * n) 99) (4 * n + 1) (clU (txM M) (kW (txM M) 3 (-1, p + 1)))) (4 * n + 1 + 1) (clV (txM M) (kW (txM M) 3 (-1, p + 1))), by unfold cmS; rw [hk0] <;> rfl, fun j hj => (by simp only [eU, ite_true]; (repeat' split) <;> first | rfl | (exfalso; omega) | exact absurd trivial (by assumption)), fun _ => by rw [hk0]; exact ⟨(by simp only [eU, ite_true]; (repeat' split) <;> first | rfl | (exfalso; omega) | exact absurd trivial (by assumption)), (by simp only [eU, ite_true]; (repeat' split) <;> first | rfl | (exfalso; omega) | exact absurd trivial (by assumption)), fun q1 q2 q3 => (by simp only [eU, ite_true]; (repeat' split) <;> first | rfl | (exfalso; omega) | exact absurd trivial (by assumption)), fun q => absurd q (by decide)⟩⟩
        · exfalso; omega
theorem C_X7_command4 {X : eXT} {a : Nat → Nat} {M : eFs} {p : Int} {K : Int → Int} {n : Int} (hx : okX M) (hp : 0 ≤ p ∧ p ≤ M.1 6) (hn : 0 ≤ n ∧ n ≤ 50) (hk : kF (txM M) p = 4) (hf : txM M p = 99) :
    EM X mX7_command (eRm 5) a [.ref (a 0)] (wM a (mPS M (-1, p) K n)) (eRets none a (fun cs1 => ∃ K1 : Int → Int, cs1 = wM a (mPS M (cmS (txM M) p) K1 (n + 1)) ∧ cmR (txM M) p K K1 n)) := by
  refine EM.of (by decide +kernel) rfl (Nat.le_of_ble_eq_true rfl) ?_
  have hs0 : okS (M.1 6) ((-1 : Int), p) := ⟨(show (-1 : Int) ≤ -1 ∧ (-1 : Int) ≤ M.1 6 by omega), hp⟩
  have ts0 := tx_in hx p
  have hk0 := hk
  rw [kF_c hp.1 hf] at hk
  refine e_iconst dX7_command_0 rfl ?_
  refine e_aload_n dX7_command_1 rfl rfl ?_
  refine e_getfield fd_X7_224 dX7_command_2 rfl rfl rfl rfl ?_
  refine EV.eq (st' := [vi n, vi 4]) rfl ?_
  refine e_imul dX7_command_5 rfl ?_
  refine f_istore_n dX7_command_6 rfl (Nat.le_of_ble_eq_true rfl) rfl ?_
  refine e_aload_n dX7_command_7 rfl rfl ?_
  refine e_dup dX7_command_8 rfl rfl ?_
  refine e_getfield fd_X7_224 dX7_command_9 rfl rfl rfl rfl ?_
  refine EV.eq (st' := [vi n, .ref (a 0)]) rfl ?_
  refine e_iconst dX7_command_12 rfl ?_
  refine e_iadd dX7_command_13 rfl ?_
  refine e_putfield fd_X7_224 dX7_command_14 rfl rfl rfl (Nat.le_of_ble_eq_true rfl) rfl rfl ?_
  refine EV.ceq (cs' := wM a (mPS M (-1, p) K (n + 1))) rfl ?_
  refine e_aload_n dX7_command_17 rfl rfl ?_
  refine e_cV0 [0, 1, 2, 3, 4, 5] lk_X7_208 rfl dX7_command_18 rfl (C_X7_sign (s := (-1, p)) hx hs0) rfl rfl (Nat.le_of_ble_eq_true rfl) (Nat.le_of_ble_eq_true rfl) (Nat.le_of_ble_eq_true rfl) ⟨rfl, rfl⟩ rfl rfl rfl rfl rfl rfl  ?_
  refine EV.eq (st' := [vi (txM M p)]) rfl ?_
  have ts := tx_in hx p
  refine f_istore_n dX7_command_21 rfl (Nat.le_of_ble_eq_true rfl) rfl ?_
  refine e_iconst dX7_command_22 rfl ?_
  refine f_istore_n dX7_command_23 rfl (Nat.le_of_ble_eq_true rfl) rfl ?_
  refine e_iload_n dX7_command_24 rfl rfl ?_
  refine e_iconst dX7_command_25 rfl ?_
  refine e_icmp_ge (t := 44) dX7_command_26 rfl rfl (by decide) (by decide) (fun h => absurd h (by decide)) (fun _ => ?_)
  refine e_aload_n dX7_command_29 rfl rfl ?_
  refine e_getfield fd_X7_27 dX7_command_30 rfl rfl rfl rfl ?_
  refine e_iload_n dX7_command_33 rfl rfl ?_
  refine e_iload_n dX7_command_34 rfl rfl ?_
  refine e_iadd dX7_command_35 rfl ?_
  refine e_iconst dX7_command_36 rfl ?_
  refine e_iastore dX7_command_37 rfl rfl rfl (by omega) (by decide) ?_
  refine f_iinc dX7_command_38 rfl rfl (Nat.le_of_ble_eq_true rfl) rfl ?_
  refine e_goto (n := 24) dX7_command_41 rfl ?_
  refine e_iload_n dX7_command_24 rfl rfl ?_
  refine e_iconst dX7_command_25 rfl ?_
  refine e_icmp_ge (t := 44) dX7_command_26 rfl rfl (by decide) (by decide) (fun h => absurd h (by decide)) (fun _ => ?_)
  refine e_aload_n dX7_command_29 rfl rfl ?_
  refine e_getfield fd_X7_27 dX7_command_30 rfl rfl rfl rfl ?_
  refine e_iload_n dX7_command_33 rfl rfl ?_
  refine e_iload_n dX7_command_34 rfl rfl ?_
  refine e_iadd dX7_command_35 rfl ?_
  refine e_iconst dX7_command_36 rfl ?_
  refine e_iastore dX7_command_37 rfl rfl rfl (by omega) (by decide) ?_
  refine f_iinc dX7_command_38 rfl rfl (Nat.le_of_ble_eq_true rfl) rfl ?_
  refine e_goto (n := 24) dX7_command_41 rfl ?_
  refine e_iload_n dX7_command_24 rfl rfl ?_
  refine e_iconst dX7_command_25 rfl ?_
  refine e_icmp_ge (t := 44) dX7_command_26 rfl rfl (by decide) (by decide) (fun h => absurd h (by decide)) (fun _ => ?_)
  refine e_aload_n dX7_command_29 rfl rfl ?_
  refine e_getfield fd_X7_27 dX7_command_30 rfl rfl rfl rfl ?_
  refine e_iload_n dX7_command_33 rfl rfl ?_
  refine e_iload_n dX7_command_34 rfl rfl ?_
  refine e_iadd dX7_command_35 rfl ?_
  refine e_iconst dX7_command_36 rfl ?_
  refine e_iastore dX7_command_37 rfl rfl rfl (by omega) (by decide) ?_
  refine f_iinc dX7_command_38 rfl rfl (Nat.le_of_ble_eq_true rfl) rfl ?_
  refine e_goto (n := 24) dX7_command_41 rfl ?_
  refine e_iload_n dX7_command_24 rfl rfl ?_
  refine e_iconst dX7_command_25 rfl ?_
  refine e_icmp_ge (t := 44) dX7_command_26 rfl rfl (by decide) (by decide) (fun h => absurd h (by decide)) (fun _ => ?_)
  refine e_aload_n dX7_command_29 rfl rfl ?_
  refine e_getfield fd_X7_27 dX7_command_30 rfl rfl rfl rfl ?_
  refine e_iload_n dX7_command_33 rfl rfl ?_
  refine e_iload_n dX7_command_34 rfl rfl ?_
  refine e_iadd dX7_command_35 rfl ?_
  refine e_iconst dX7_command_36 rfl ?_
  refine e_iastore dX7_command_37 rfl rfl rfl (by omega) (by decide) ?_
  refine f_iinc dX7_command_38 rfl rfl (Nat.le_of_ble_eq_true rfl) rfl ?_
  refine e_goto (n := 24) dX7_command_41 rfl ?_
  refine e_iload_n dX7_command_24 rfl rfl ?_
  refine e_iconst dX7_command_25 rfl ?_
  refine e_icmp_ge (t := 44) dX7_command_26 rfl rfl (by decide) (by decide) (fun _ => ?_) (fun h => absurd h (by decide))
  refine EV.ceq (cs' := wM a (mPS M (-1, p) (eU (eU (eU (eU K (4 * n + 0) 0) (4 * n + (0 + 1)) 0) (4 * n + (0 + 1 + 1)) 0) (4 * n + (0 + 1 + 1 + 1)) 0) (n + 1))) rfl ?_
  refine e_iload_n dX7_command_44 rfl rfl ?_
  refine e_bipush dX7_command_45 rfl rfl ?_
  refine e_icmp_eq (t := 101) dX7_command_47 rfl rfl (by omega) (by omega) (fun h47 => ?_) (fun h47 => ?_)
  · exfalso; omega
  · refine e_iload_n dX7_command_50 rfl rfl ?_
    refine e_bipush dX7_command_51 rfl rfl ?_
    refine e_icmp_eq (t := 101) dX7_command_53 rfl rfl (by omega) (by omega) (fun h53 => ?_) (fun h53 => ?_)
    · exfalso; omega
    · refine e_iload_n dX7_command_56 rfl rfl ?_
      refine e_bipush dX7_command_57 rfl rfl ?_
      refine e_icmp_eq (t := 101) dX7_command_59 rfl rfl (by omega) (by omega) (fun h59 => ?_) (fun h59 => ?_)
      · exfalso; omega
      · refine e_iload_n dX7_command_62 rfl rfl ?_
        refine e_bipush dX7_command_63 rfl rfl ?_
        refine e_icmp_eq (t := 101) dX7_command_65 rfl rfl (by omega) (by omega) (fun h65 => ?_) (fun h65 => ?_)
        · refine e_aload_n dX7_command_101 rfl rfl ?_
          refine e_dup dX7_command_102 rfl rfl ?_
          refine e_getfield fd_X7_202 dX7_command_103 rfl rfl rfl rfl ?_
          refine EV.eq (st' := [vi p, .ref (a 0)]) rfl ?_
          refine e_iconst dX7_command_106 rfl ?_
          refine e_iadd dX7_command_107 rfl ?_
          refine e_putfield fd_X7_202 dX7_command_108 rfl rfl rfl (Nat.le_of_ble_eq_true rfl) rfl rfl ?_
          refine EV.ceq (cs' := wM a (mPS M (-1, p + 1) (eU (eU (eU (eU K (4 * n + 0) 0) (4 * n + (0 + 1)) 0) (4 * n + (0 + 1 + 1)) 0) (4 * n + (0 + 1 + 1 + 1)) 0) (n + 1))) rfl ?_
          have hs : okS (M.1 6) ((-1 : Int), p + 1) := ⟨(show (-1 : Int) ≤ -1 ∧ (-1 : Int) ≤ M.1 6 by omega), (show 0 ≤ p + 1 ∧ p + 1 ≤ M.1 6 by omega)⟩
          refine e_aload_n dX7_command_111 rfl rfl ?_
          refine e_iload_n dX7_command_112 rfl rfl ?_
          refine EV.eq (st' := [vi 99, .ref (a 0)]) (by show [vi (txM M p), .ref (a 0)] = _; rw [hf]) ?_
          refine e_cV2 [0, 1, 2, 3, 4, 5] lk_X7_227 rfl dX7_command_113 rfl (C_X7_word4 (s := (-1, p + 1)) (K := eU (eU (eU (eU K (4 * n + 0) 0) (4 * n + (0 + 1)) 0) (4 * n + (0 + 1 + 1)) 0) (4 * n + (0 + 1 + 1 + 1)) 0) (n := n + 1) hx hs (kC_4 hk)) rfl rfl (Nat.le_of_ble_eq_true rfl) (Nat.le_of_ble_eq_true rfl) (Nat.le_of_ble_eq_true rfl) ⟨rfl, rfl⟩ rfl rfl rfl rfl rfl rfl rfl rfl ?_
          refine EV.ceq (cs' := wM a (mPS M (kW (txM M) 4 (-1, p + 1)) (eU (eU (eU (eU K (4 * n + 0) 0) (4 * n + (0 + 1)) 0) (4 * n + (0 + 1 + 1)) 0) (4 * n + (0 + 1 + 1 + 1)) 0) (n + 1))) rfl ?_
          refine f_istore_n dX7_command_116 rfl (Nat.le_of_ble_eq_true rfl) rfl ?_
          refine e_aload_n dX7_command_117 rfl rfl ?_
          refine e_getfield fd_X7_27 dX7_command_118 rfl rfl rfl rfl ?_
          refine e_iload_n dX7_command_121 rfl rfl ?_
          refine e_iload_n dX7_command_122 rfl rfl ?_
          refine e_iastore dX7_command_123 rfl rfl rfl (by omega) (by decide) ?_
          refine EV.ceq (cs' := wM a (mPS M (kW (txM M) 4 (-1, p + 1)) (eU (eU (eU (eU (eU K (4 * n + 0) 0) (4 * n + (0 + 1)) 0) (4 * n + (0 + 1 + 1)) 0) (4 * n + (0 + 1 + 1 + 1)) 0) (4 * n) 101) (n + 1))) rfl ?_
          refine e_iload_n dX7_command_124 rfl rfl ?_
          refine e_tabIn (t := 339) dX7_command_125 (by decide) (by decide) (by decide) rfl rfl ?_
          refine e_aload_n dX7_command_339 rfl rfl ?_
          refine e_iload_n dX7_command_340 rfl rfl ?_
          refine e_iconst dX7_command_341 rfl ?_
          refine e_iadd dX7_command_342 rfl ?_
          refine e_cV2 [0, 1, 2, 3, 4, 5] lk_X7_230 rfl dX7_command_343 rfl (C_X7_cell (s := kW (txM M) 4 (-1, p + 1)) (K := eU (eU (eU (eU (eU K (4 * n + 0) 0) (4 * n + (0 + 1)) 0) (4 * n + (0 + 1 + 1)) 0) (4 * n + (0 + 1 + 1 + 1)) 0) (4 * n) 101) (n := n + 1) hx (okS_kW hx hs 4) (t := 4 * n + 1) (by omega)) rfl rfl (Nat.le_of_ble_eq_true rfl) (Nat.le_of_ble_eq_true rfl) (Nat.le_of_ble_eq_true rfl) ⟨rfl, rfl⟩ rfl rfl rfl rfl rfl rfl rfl rfl ?_
          refine EV.ceq (cs' := wM a (mPS M (clS (txM M) (kW (txM M) 4 (-1, p + 1))) (eU (eU (eU (eU (eU (eU (eU K (4 * n + 0) 0) (4 * n + (0 + 1)) 0) (4 * n + (0 + 1 + 1)) 0) (4 * n + (0 + 1 + 1 + 1)) 0) (4 * n) 101) (4 * n + 1) (clU (txM M) (kW (txM M) 4 (-1, p + 1)))) (4 * n + 1 + 1) (clV (txM M) (kW (txM M) 4 (-1, p + 1)))) (n + 1))) rfl ?_
          exact e_vret dX7_command_346 rfl ⟨rfl, rfl, eU (eU (eU (eU (eU (eU (eU K (4 * n + 0) 0) (4 * n + (0 + 1)) 0) (4 * n + (0 + 1 + 1)) 0) (4 * n + (0 + 1 + 1 + 1)) 0) (4 * n) 101) (4 * n + 1) (clU (txM M) (kW (txM M) 4 (-1, p + 1)))) (4 * n + 1 + 1) (clV (txM M) (kW (txM M) 4 (-1, p + 1))), by unfold cmS; rw [hk0] <;> rfl, fun j hj => (by simp only [eU, ite_true]; (repeat' split) <;> first | rfl | (exfalso; omega) | exact absurd trivial (by assumption)), fun _ => by rw [hk0]; exact ⟨(by simp only [eU, ite_true]; (repeat' split) <;> first | rfl | (exfalso; omega) | exact absurd trivial (by assumption)), (by simp only [eU, ite_true]; (repeat' split) <;> first | rfl | (exfalso; omega) | exact absurd trivial (by assumption)), fun q1 q2 q3 => (by simp only [eU, ite_true]; (repeat' split) <;> first | rfl | (exfalso; omega) | exact absurd trivial (by assumption)), fun q => absurd q (by decide)⟩⟩
        · exfalso; omega
theorem C_X7_command5 {X : eXT} {a : Nat → Nat} {M : eFs} {p : Int} {K : Int → Int} {n : Int} (hx : okX M) (hp : 0 ≤ p ∧ p ≤ M.1 6) (hn : 0 ≤ n ∧ n ≤ 50) (hk : kF (txM M) p = 5) (hf : txM M p = 116) :
    EM X mX7_command (eRm 5) a [.ref (a 0)] (wM a (mPS M (-1, p) K n)) (eRets none a (fun cs1 => ∃ K1 : Int → Int, cs1 = wM a (mPS M (cmS (txM M) p) K1 (n + 1)) ∧ cmR (txM M) p K K1 n)) := by
  refine EM.of (by decide +kernel) rfl (Nat.le_of_ble_eq_true rfl) ?_
  have hs0 : okS (M.1 6) ((-1 : Int), p) := ⟨(show (-1 : Int) ≤ -1 ∧ (-1 : Int) ≤ M.1 6 by omega), hp⟩
  have ts0 := tx_in hx p
  refine e_iconst dX7_command_0 rfl ?_
  refine e_aload_n dX7_command_1 rfl rfl ?_
  refine e_getfield fd_X7_224 dX7_command_2 rfl rfl rfl rfl ?_
  refine EV.eq (st' := [vi n, vi 4]) rfl ?_
  refine e_imul dX7_command_5 rfl ?_
  refine f_istore_n dX7_command_6 rfl (Nat.le_of_ble_eq_true rfl) rfl ?_
  refine e_aload_n dX7_command_7 rfl rfl ?_
  refine e_dup dX7_command_8 rfl rfl ?_
  refine e_getfield fd_X7_224 dX7_command_9 rfl rfl rfl rfl ?_
  refine EV.eq (st' := [vi n, .ref (a 0)]) rfl ?_
  refine e_iconst dX7_command_12 rfl ?_
  refine e_iadd dX7_command_13 rfl ?_
  refine e_putfield fd_X7_224 dX7_command_14 rfl rfl rfl (Nat.le_of_ble_eq_true rfl) rfl rfl ?_
  refine EV.ceq (cs' := wM a (mPS M (-1, p) K (n + 1))) rfl ?_
  refine e_aload_n dX7_command_17 rfl rfl ?_
  refine e_cV0 [0, 1, 2, 3, 4, 5] lk_X7_208 rfl dX7_command_18 rfl (C_X7_sign (s := (-1, p)) hx hs0) rfl rfl (Nat.le_of_ble_eq_true rfl) (Nat.le_of_ble_eq_true rfl) (Nat.le_of_ble_eq_true rfl) ⟨rfl, rfl⟩ rfl rfl rfl rfl rfl rfl  ?_
  refine EV.eq (st' := [vi (txM M p)]) rfl ?_
  have ts := tx_in hx p
  refine f_istore_n dX7_command_21 rfl (Nat.le_of_ble_eq_true rfl) rfl ?_
  refine e_iconst dX7_command_22 rfl ?_
  refine f_istore_n dX7_command_23 rfl (Nat.le_of_ble_eq_true rfl) rfl ?_
  refine e_iload_n dX7_command_24 rfl rfl ?_
  refine e_iconst dX7_command_25 rfl ?_
  refine e_icmp_ge (t := 44) dX7_command_26 rfl rfl (by decide) (by decide) (fun h => absurd h (by decide)) (fun _ => ?_)
  refine e_aload_n dX7_command_29 rfl rfl ?_
  refine e_getfield fd_X7_27 dX7_command_30 rfl rfl rfl rfl ?_
  refine e_iload_n dX7_command_33 rfl rfl ?_
  refine e_iload_n dX7_command_34 rfl rfl ?_
  refine e_iadd dX7_command_35 rfl ?_
  refine e_iconst dX7_command_36 rfl ?_
  refine e_iastore dX7_command_37 rfl rfl rfl (by omega) (by decide) ?_
  refine f_iinc dX7_command_38 rfl rfl (Nat.le_of_ble_eq_true rfl) rfl ?_
  refine e_goto (n := 24) dX7_command_41 rfl ?_
  refine e_iload_n dX7_command_24 rfl rfl ?_
  refine e_iconst dX7_command_25 rfl ?_
  refine e_icmp_ge (t := 44) dX7_command_26 rfl rfl (by decide) (by decide) (fun h => absurd h (by decide)) (fun _ => ?_)
  refine e_aload_n dX7_command_29 rfl rfl ?_
  refine e_getfield fd_X7_27 dX7_command_30 rfl rfl rfl rfl ?_
  refine e_iload_n dX7_command_33 rfl rfl ?_
  refine e_iload_n dX7_command_34 rfl rfl ?_
  refine e_iadd dX7_command_35 rfl ?_
  refine e_iconst dX7_command_36 rfl ?_
  refine e_iastore dX7_command_37 rfl rfl rfl (by omega) (by decide) ?_
  refine f_iinc dX7_command_38 rfl rfl (Nat.le_of_ble_eq_true rfl) rfl ?_
  refine e_goto (n := 24) dX7_command_41 rfl ?_
  refine e_iload_n dX7_command_24 rfl rfl ?_
  refine e_iconst dX7_command_25 rfl ?_
  refine e_icmp_ge (t := 44) dX7_command_26 rfl rfl (by decide) (by decide) (fun h => absurd h (by decide)) (fun _ => ?_)
  refine e_aload_n dX7_command_29 rfl rfl ?_
  refine e_getfield fd_X7_27 dX7_command_30 rfl rfl rfl rfl ?_
  refine e_iload_n dX7_command_33 rfl rfl ?_
  refine e_iload_n dX7_command_34 rfl rfl ?_
  refine e_iadd dX7_command_35 rfl ?_
  refine e_iconst dX7_command_36 rfl ?_
  refine e_iastore dX7_command_37 rfl rfl rfl (by omega) (by decide) ?_
  refine f_iinc dX7_command_38 rfl rfl (Nat.le_of_ble_eq_true rfl) rfl ?_
  refine e_goto (n := 24) dX7_command_41 rfl ?_
  refine e_iload_n dX7_command_24 rfl rfl ?_
  refine e_iconst dX7_command_25 rfl ?_
  refine e_icmp_ge (t := 44) dX7_command_26 rfl rfl (by decide) (by decide) (fun h => absurd h (by decide)) (fun _ => ?_)
  refine e_aload_n dX7_command_29 rfl rfl ?_
  refine e_getfield fd_X7_27 dX7_command_30 rfl rfl rfl rfl ?_
  refine e_iload_n dX7_command_33 rfl rfl ?_
  refine e_iload_n dX7_command_34 rfl rfl ?_
  refine e_iadd dX7_command_35 rfl ?_
  refine e_iconst dX7_command_36 rfl ?_
  refine e_iastore dX7_command_37 rfl rfl rfl (by omega) (by decide) ?_
  refine f_iinc dX7_command_38 rfl rfl (Nat.le_of_ble_eq_true rfl) rfl ?_
  refine e_goto (n := 24) dX7_command_41 rfl ?_
  refine e_iload_n dX7_command_24 rfl rfl ?_
  refine e_iconst dX7_command_25 rfl ?_
  refine e_icmp_ge (t := 44) dX7_command_26 rfl rfl (by decide) (by decide) (fun _ => ?_) (fun h => absurd h (by decide))
  refine EV.ceq (cs' := wM a (mPS M (-1, p) (eU (eU (eU (eU K (4 * n + 0) 0) (4 * n + (0 + 1)) 0) (4 * n + (0 + 1 + 1)) 0) (4 * n + (0 + 1 + 1 + 1)) 0) (n + 1))) rfl ?_
  refine e_iload_n dX7_command_44 rfl rfl ?_
  refine e_bipush dX7_command_45 rfl rfl ?_
  refine e_icmp_eq (t := 101) dX7_command_47 rfl rfl (by omega) (by omega) (fun h47 => ?_) (fun h47 => ?_)
  · exfalso; omega
  · refine e_iload_n dX7_command_50 rfl rfl ?_
    refine e_bipush dX7_command_51 rfl rfl ?_
    refine e_icmp_eq (t := 101) dX7_command_53 rfl rfl (by omega) (by omega) (fun h53 => ?_) (fun h53 => ?_)
    · exfalso; omega
    · refine e_iload_n dX7_command_56 rfl rfl ?_
      refine e_bipush dX7_command_57 rfl rfl ?_
      refine e_icmp_eq (t := 101) dX7_command_59 rfl rfl (by omega) (by omega) (fun h59 => ?_) (fun h59 => ?_)
      · exfalso; omega
      · refine e_iload_n dX7_command_62 rfl rfl ?_
        refine e_bipush dX7_command_63 rfl rfl ?_
        refine e_icmp_eq (t := 101) dX7_command_65 rfl rfl (by omega) (by omega) (fun h65 => ?_) (fun h65 => ?_)
        · exfalso; omega
        · refine e_iload_n dX7_command_68 rfl rfl ?_
          refine e_bipush dX7_command_69 rfl rfl ?_
          refine e_icmp_eq (t := 101) dX7_command_71 rfl rfl (by omega) (by omega) (fun h71 => ?_) (fun h71 => ?_)
          · refine e_aload_n dX7_command_101 rfl rfl ?_
            refine e_dup dX7_command_102 rfl rfl ?_
            refine e_getfield fd_X7_202 dX7_command_103 rfl rfl rfl rfl ?_
            refine EV.eq (st' := [vi p, .ref (a 0)]) rfl ?_
            refine e_iconst dX7_command_106 rfl ?_
            refine e_iadd dX7_command_107 rfl ?_
            refine e_putfield fd_X7_202 dX7_command_108 rfl rfl rfl (Nat.le_of_ble_eq_true rfl) rfl rfl ?_
            refine EV.ceq (cs' := wM a (mPS M (-1, p + 1) (eU (eU (eU (eU K (4 * n + 0) 0) (4 * n + (0 + 1)) 0) (4 * n + (0 + 1 + 1)) 0) (4 * n + (0 + 1 + 1 + 1)) 0) (n + 1))) rfl ?_
            have hs : okS (M.1 6) ((-1 : Int), p + 1) := ⟨(show (-1 : Int) ≤ -1 ∧ (-1 : Int) ≤ M.1 6 by omega), (show 0 ≤ p + 1 ∧ p + 1 ≤ M.1 6 by omega)⟩
            refine e_aload_n dX7_command_111 rfl rfl ?_
            refine e_iload_n dX7_command_112 rfl rfl ?_
            refine EV.eq (st' := [vi 116, .ref (a 0)]) (by show [vi (txM M p), .ref (a 0)] = _; rw [hf]) ?_
            refine e_cV2 [0, 1, 2, 3, 4, 5] lk_X7_227 rfl dX7_command_113 rfl (C_X7_word5 (s := (-1, p + 1)) (K := eU (eU (eU (eU K (4 * n + 0) 0) (4 * n + (0 + 1)) 0) (4 * n + (0 + 1 + 1)) 0) (4 * n + (0 + 1 + 1 + 1)) 0) (n := n + 1) hx hs) rfl rfl (Nat.le_of_ble_eq_true rfl) (Nat.le_of_ble_eq_true rfl) (Nat.le_of_ble_eq_true rfl) ⟨rfl, rfl⟩ rfl rfl rfl rfl rfl rfl rfl rfl ?_
            refine EV.ceq (cs' := wM a (mPS M (kW (txM M) 5 (-1, p + 1)) (eU (eU (eU (eU K (4 * n + 0) 0) (4 * n + (0 + 1)) 0) (4 * n + (0 + 1 + 1)) 0) (4 * n + (0 + 1 + 1 + 1)) 0) (n + 1))) rfl ?_
            refine f_istore_n dX7_command_116 rfl (Nat.le_of_ble_eq_true rfl) rfl ?_
            refine e_aload_n dX7_command_117 rfl rfl ?_
            refine e_getfield fd_X7_27 dX7_command_118 rfl rfl rfl rfl ?_
            refine e_iload_n dX7_command_121 rfl rfl ?_
            refine e_iload_n dX7_command_122 rfl rfl ?_
            refine e_iastore dX7_command_123 rfl rfl rfl (by omega) (by decide) ?_
            refine EV.ceq (cs' := wM a (mPS M (kW (txM M) 5 (-1, p + 1)) (eU (eU (eU (eU (eU K (4 * n + 0) 0) (4 * n + (0 + 1)) 0) (4 * n + (0 + 1 + 1)) 0) (4 * n + (0 + 1 + 1 + 1)) 0) (4 * n) 116) (n + 1))) rfl ?_
            refine e_iload_n dX7_command_124 rfl rfl ?_
            refine e_tabIn (t := 303) dX7_command_125 (by decide) (by decide) (by decide) rfl rfl ?_
            refine e_aload_n dX7_command_303 rfl rfl ?_
            refine e_getfield fd_X7_27 dX7_command_304 rfl rfl rfl rfl ?_
            refine e_iload_n dX7_command_307 rfl rfl ?_
            refine e_iconst dX7_command_308 rfl ?_
            refine e_iadd dX7_command_309 rfl ?_
            refine e_aload_n dX7_command_310 rfl rfl ?_
            refine e_bipush dX7_command_311 rfl rfl ?_
            refine e_iconst dX7_command_313 rfl ?_
            refine e_cV2 [0, 1, 2, 3, 4, 5] lk_X7_221 rfl dX7_command_314 rfl (C_X7_behind1 (s := kW (txM M) 5 (-1, p + 1)) (K := eU (eU (eU (eU (eU K (4 * n + 0) 0) (4 * n + (0 + 1)) 0) (4 * n + (0 + 1 + 1)) 0) (4 * n + (0 + 1 + 1 + 1)) 0) (4 * n) 116) (n := n + 1) hx (okS_kW hx hs 5) (c := 32) (by decide)) rfl rfl (Nat.le_of_ble_eq_true rfl) (Nat.le_of_ble_eq_true rfl) (Nat.le_of_ble_eq_true rfl) ⟨rfl, rfl⟩ rfl rfl rfl rfl rfl rfl rfl rfl ?_
            refine EV.ceq (cs' := wM a (mPS M (bhS (txM M) 32 False (kW (txM M) 5 (-1, p + 1))) (eU (eU (eU (eU (eU K (4 * n + 0) 0) (4 * n + (0 + 1)) 0) (4 * n + (0 + 1 + 1)) 0) (4 * n + (0 + 1 + 1 + 1)) 0) (4 * n) 116) (n + 1))) rfl ?_
            refine e_iastore dX7_command_317 rfl rfl rfl (by omega) (by decide) ?_
            refine e_goto (n := 346) dX7_command_318 rfl ?_
            exact e_vret dX7_command_346 rfl ⟨rfl, rfl, eU (eU (eU (eU (eU (eU K (4 * n + 0) 0) (4 * n + (0 + 1)) 0) (4 * n + (0 + 1 + 1)) 0) (4 * n + (0 + 1 + 1 + 1)) 0) (4 * n) 116) (4 * n + 1) (bhV (txM M) 32 False (kW (txM M) 5 (-1, p + 1))), by unfold cmS; rw [hk] <;> rfl, fun j hj => (by simp only [eU, ite_true]; (repeat' split) <;> first | rfl | (exfalso; omega) | exact absurd trivial (by assumption)), fun _ => by rw [hk]; exact ⟨(by simp only [eU, ite_true]; (repeat' split) <;> first | rfl | (exfalso; omega) | exact absurd trivial (by assumption)), (by simp only [eU, ite_true]; (repeat' split) <;> first | rfl | (exfalso; omega) | exact absurd trivial (by assumption)), fun q1 q2 q3 => absurd rfl q1, fun q => absurd q (by decide)⟩⟩
          · exfalso; omega
theorem C_X7_command6 {X : eXT} {a : Nat → Nat} {M : eFs} {p : Int} {K : Int → Int} {n : Int} (hx : okX M) (hp : 0 ≤ p ∧ p ≤ M.1 6) (hn : 0 ≤ n ∧ n ≤ 50) (hk : kF (txM M) p = 6) (hf : txM M p = 103) :
    EM X mX7_command (eRm 5) a [.ref (a 0)] (wM a (mPS M (-1, p) K n)) (eRets none a (fun cs1 => ∃ K1 : Int → Int, cs1 = wM a (mPS M (cmS (txM M) p) K1 (n + 1)) ∧ cmR (txM M) p K K1 n)) := by
  refine EM.of (by decide +kernel) rfl (Nat.le_of_ble_eq_true rfl) ?_
  have hs0 : okS (M.1 6) ((-1 : Int), p) := ⟨(show (-1 : Int) ≤ -1 ∧ (-1 : Int) ≤ M.1 6 by omega), hp⟩
  have ts0 := tx_in hx p
  refine e_iconst dX7_command_0 rfl ?_
  refine e_aload_n dX7_command_1 rfl rfl ?_
  refine e_getfield fd_X7_224 dX7_command_2 rfl rfl rfl rfl ?_
  refine EV.eq (st' := [vi n, vi 4]) rfl ?_
  refine e_imul dX7_command_5 rfl ?_
  refine f_istore_n dX7_command_6 rfl (Nat.le_of_ble_eq_true rfl) rfl ?_
  refine e_aload_n dX7_command_7 rfl rfl ?_
  refine e_dup dX7_command_8 rfl rfl ?_
  refine e_getfield fd_X7_224 dX7_command_9 rfl rfl rfl rfl ?_
  refine EV.eq (st' := [vi n, .ref (a 0)]) rfl ?_
  refine e_iconst dX7_command_12 rfl ?_
  refine e_iadd dX7_command_13 rfl ?_
  refine e_putfield fd_X7_224 dX7_command_14 rfl rfl rfl (Nat.le_of_ble_eq_true rfl) rfl rfl ?_
  refine EV.ceq (cs' := wM a (mPS M (-1, p) K (n + 1))) rfl ?_
  refine e_aload_n dX7_command_17 rfl rfl ?_
  refine e_cV0 [0, 1, 2, 3, 4, 5] lk_X7_208 rfl dX7_command_18 rfl (C_X7_sign (s := (-1, p)) hx hs0) rfl rfl (Nat.le_of_ble_eq_true rfl) (Nat.le_of_ble_eq_true rfl) (Nat.le_of_ble_eq_true rfl) ⟨rfl, rfl⟩ rfl rfl rfl rfl rfl rfl  ?_
  refine EV.eq (st' := [vi (txM M p)]) rfl ?_
  have ts := tx_in hx p
  refine f_istore_n dX7_command_21 rfl (Nat.le_of_ble_eq_true rfl) rfl ?_
  refine e_iconst dX7_command_22 rfl ?_
  refine f_istore_n dX7_command_23 rfl (Nat.le_of_ble_eq_true rfl) rfl ?_
  refine e_iload_n dX7_command_24 rfl rfl ?_
  refine e_iconst dX7_command_25 rfl ?_
  refine e_icmp_ge (t := 44) dX7_command_26 rfl rfl (by decide) (by decide) (fun h => absurd h (by decide)) (fun _ => ?_)
  refine e_aload_n dX7_command_29 rfl rfl ?_
  refine e_getfield fd_X7_27 dX7_command_30 rfl rfl rfl rfl ?_
  refine e_iload_n dX7_command_33 rfl rfl ?_
  refine e_iload_n dX7_command_34 rfl rfl ?_
  refine e_iadd dX7_command_35 rfl ?_
  refine e_iconst dX7_command_36 rfl ?_
  refine e_iastore dX7_command_37 rfl rfl rfl (by omega) (by decide) ?_
  refine f_iinc dX7_command_38 rfl rfl (Nat.le_of_ble_eq_true rfl) rfl ?_
  refine e_goto (n := 24) dX7_command_41 rfl ?_
  refine e_iload_n dX7_command_24 rfl rfl ?_
  refine e_iconst dX7_command_25 rfl ?_
  refine e_icmp_ge (t := 44) dX7_command_26 rfl rfl (by decide) (by decide) (fun h => absurd h (by decide)) (fun _ => ?_)
  refine e_aload_n dX7_command_29 rfl rfl ?_
  refine e_getfield fd_X7_27 dX7_command_30 rfl rfl rfl rfl ?_
  refine e_iload_n dX7_command_33 rfl rfl ?_
  refine e_iload_n dX7_command_34 rfl rfl ?_
  refine e_iadd dX7_command_35 rfl ?_
  refine e_iconst dX7_command_36 rfl ?_
  refine e_iastore dX7_command_37 rfl rfl rfl (by omega) (by decide) ?_
  refine f_iinc dX7_command_38 rfl rfl (Nat.le_of_ble_eq_true rfl) rfl ?_
  refine e_goto (n := 24) dX7_command_41 rfl ?_
  refine e_iload_n dX7_command_24 rfl rfl ?_
  refine e_iconst dX7_command_25 rfl ?_
  refine e_icmp_ge (t := 44) dX7_command_26 rfl rfl (by decide) (by decide) (fun h => absurd h (by decide)) (fun _ => ?_)
  refine e_aload_n dX7_command_29 rfl rfl ?_
  refine e_getfield fd_X7_27 dX7_command_30 rfl rfl rfl rfl ?_
  refine e_iload_n dX7_command_33 rfl rfl ?_
  refine e_iload_n dX7_command_34 rfl rfl ?_
  refine e_iadd dX7_command_35 rfl ?_
  refine e_iconst dX7_command_36 rfl ?_
  refine e_iastore dX7_command_37 rfl rfl rfl (by omega) (by decide) ?_
  refine f_iinc dX7_command_38 rfl rfl (Nat.le_of_ble_eq_true rfl) rfl ?_
  refine e_goto (n := 24) dX7_command_41 rfl ?_
  refine e_iload_n dX7_command_24 rfl rfl ?_
  refine e_iconst dX7_command_25 rfl ?_
  refine e_icmp_ge (t := 44) dX7_command_26 rfl rfl (by decide) (by decide) (fun h => absurd h (by decide)) (fun _ => ?_)
  refine e_aload_n dX7_command_29 rfl rfl ?_
  refine e_getfield fd_X7_27 dX7_command_30 rfl rfl rfl rfl ?_
  refine e_iload_n dX7_command_33 rfl rfl ?_
  refine e_iload_n dX7_command_34 rfl rfl ?_
  refine e_iadd dX7_command_35 rfl ?_
  refine e_iconst dX7_command_36 rfl ?_
  refine e_iastore dX7_command_37 rfl rfl rfl (by omega) (by decide) ?_
  refine f_iinc dX7_command_38 rfl rfl (Nat.le_of_ble_eq_true rfl) rfl ?_
  refine e_goto (n := 24) dX7_command_41 rfl ?_
  refine e_iload_n dX7_command_24 rfl rfl ?_
  refine e_iconst dX7_command_25 rfl ?_
  refine e_icmp_ge (t := 44) dX7_command_26 rfl rfl (by decide) (by decide) (fun _ => ?_) (fun h => absurd h (by decide))
  refine EV.ceq (cs' := wM a (mPS M (-1, p) (eU (eU (eU (eU K (4 * n + 0) 0) (4 * n + (0 + 1)) 0) (4 * n + (0 + 1 + 1)) 0) (4 * n + (0 + 1 + 1 + 1)) 0) (n + 1))) rfl ?_
  refine e_iload_n dX7_command_44 rfl rfl ?_
  refine e_bipush dX7_command_45 rfl rfl ?_
  refine e_icmp_eq (t := 101) dX7_command_47 rfl rfl (by omega) (by omega) (fun h47 => ?_) (fun h47 => ?_)
  · exfalso; omega
  · refine e_iload_n dX7_command_50 rfl rfl ?_
    refine e_bipush dX7_command_51 rfl rfl ?_
    refine e_icmp_eq (t := 101) dX7_command_53 rfl rfl (by omega) (by omega) (fun h53 => ?_) (fun h53 => ?_)
    · exfalso; omega
    · refine e_iload_n dX7_command_56 rfl rfl ?_
      refine e_bipush dX7_command_57 rfl rfl ?_
      refine e_icmp_eq (t := 101) dX7_command_59 rfl rfl (by omega) (by omega) (fun h59 => ?_) (fun h59 => ?_)
      · exfalso; omega
      · refine e_iload_n dX7_command_62 rfl rfl ?_
        refine e_bipush dX7_command_63 rfl rfl ?_
        refine e_icmp_eq (t := 101) dX7_command_65 rfl rfl (by omega) (by omega) (fun h65 => ?_) (fun h65 => ?_)
        · exfalso; omega
        · refine e_iload_n dX7_command_68 rfl rfl ?_
          refine e_bipush dX7_command_69 rfl rfl ?_
          refine e_icmp_eq (t := 101) dX7_command_71 rfl rfl (by omega) (by omega) (fun h71 => ?_) (fun h71 => ?_)
          · exfalso; omega
          · refine e_iload_n dX7_command_74 rfl rfl ?_
            refine e_bipush dX7_command_75 rfl rfl ?_
            refine e_icmp_eq (t := 101) dX7_command_77 rfl rfl (by omega) (by omega) (fun h77 => ?_) (fun h77 => ?_)
            · refine e_aload_n dX7_command_101 rfl rfl ?_
              refine e_dup dX7_command_102 rfl rfl ?_
              refine e_getfield fd_X7_202 dX7_command_103 rfl rfl rfl rfl ?_
              refine EV.eq (st' := [vi p, .ref (a 0)]) rfl ?_
              refine e_iconst dX7_command_106 rfl ?_
              refine e_iadd dX7_command_107 rfl ?_
              refine e_putfield fd_X7_202 dX7_command_108 rfl rfl rfl (Nat.le_of_ble_eq_true rfl) rfl rfl ?_
              refine EV.ceq (cs' := wM a (mPS M (-1, p + 1) (eU (eU (eU (eU K (4 * n + 0) 0) (4 * n + (0 + 1)) 0) (4 * n + (0 + 1 + 1)) 0) (4 * n + (0 + 1 + 1 + 1)) 0) (n + 1))) rfl ?_
              have hs : okS (M.1 6) ((-1 : Int), p + 1) := ⟨(show (-1 : Int) ≤ -1 ∧ (-1 : Int) ≤ M.1 6 by omega), (show 0 ≤ p + 1 ∧ p + 1 ≤ M.1 6 by omega)⟩
              refine e_aload_n dX7_command_111 rfl rfl ?_
              refine e_iload_n dX7_command_112 rfl rfl ?_
              refine EV.eq (st' := [vi 103, .ref (a 0)]) (by show [vi (txM M p), .ref (a 0)] = _; rw [hf]) ?_
              refine e_cV2 [0, 1, 2, 3, 4, 5] lk_X7_227 rfl dX7_command_113 rfl (C_X7_word6 (s := (-1, p + 1)) (K := eU (eU (eU (eU K (4 * n + 0) 0) (4 * n + (0 + 1)) 0) (4 * n + (0 + 1 + 1)) 0) (4 * n + (0 + 1 + 1 + 1)) 0) (n := n + 1) hx hs) rfl rfl (Nat.le_of_ble_eq_true rfl) (Nat.le_of_ble_eq_true rfl) (Nat.le_of_ble_eq_true rfl) ⟨rfl, rfl⟩ rfl rfl rfl rfl rfl rfl rfl rfl ?_
              refine EV.ceq (cs' := wM a (mPS M (kW (txM M) 6 (-1, p + 1)) (eU (eU (eU (eU K (4 * n + 0) 0) (4 * n + (0 + 1)) 0) (4 * n + (0 + 1 + 1)) 0) (4 * n + (0 + 1 + 1 + 1)) 0) (n + 1))) rfl ?_
              refine f_istore_n dX7_command_116 rfl (Nat.le_of_ble_eq_true rfl) rfl ?_
              refine e_aload_n dX7_command_117 rfl rfl ?_
              refine e_getfield fd_X7_27 dX7_command_118 rfl rfl rfl rfl ?_
              refine e_iload_n dX7_command_121 rfl rfl ?_
              refine e_iload_n dX7_command_122 rfl rfl ?_
              refine e_iastore dX7_command_123 rfl rfl rfl (by omega) (by decide) ?_
              refine EV.ceq (cs' := wM a (mPS M (kW (txM M) 6 (-1, p + 1)) (eU (eU (eU (eU (eU K (4 * n + 0) 0) (4 * n + (0 + 1)) 0) (4 * n + (0 + 1 + 1)) 0) (4 * n + (0 + 1 + 1 + 1)) 0) (4 * n) 103) (n + 1))) rfl ?_
              refine e_iload_n dX7_command_124 rfl rfl ?_
              refine e_tabIn (t := 339) dX7_command_125 (by decide) (by decide) (by decide) rfl rfl ?_
              refine e_aload_n dX7_command_339 rfl rfl ?_
              refine e_iload_n dX7_command_340 rfl rfl ?_
              refine e_iconst dX7_command_341 rfl ?_
              refine e_iadd dX7_command_342 rfl ?_
              refine e_cV2 [0, 1, 2, 3, 4, 5] lk_X7_230 rfl dX7_command_343 rfl (C_X7_cell (s := kW (txM M) 6 (-1, p + 1)) (K := eU (eU (eU (eU (eU K (4 * n + 0) 0) (4 * n + (0 + 1)) 0) (4 * n + (0 + 1 + 1)) 0) (4 * n + (0 + 1 + 1 + 1)) 0) (4 * n) 103) (n := n + 1) hx (okS_kW hx hs 6) (t := 4 * n + 1) (by omega)) rfl rfl (Nat.le_of_ble_eq_true rfl) (Nat.le_of_ble_eq_true rfl) (Nat.le_of_ble_eq_true rfl) ⟨rfl, rfl⟩ rfl rfl rfl rfl rfl rfl rfl rfl ?_
              refine EV.ceq (cs' := wM a (mPS M (clS (txM M) (kW (txM M) 6 (-1, p + 1))) (eU (eU (eU (eU (eU (eU (eU K (4 * n + 0) 0) (4 * n + (0 + 1)) 0) (4 * n + (0 + 1 + 1)) 0) (4 * n + (0 + 1 + 1 + 1)) 0) (4 * n) 103) (4 * n + 1) (clU (txM M) (kW (txM M) 6 (-1, p + 1)))) (4 * n + 1 + 1) (clV (txM M) (kW (txM M) 6 (-1, p + 1)))) (n + 1))) rfl ?_
              exact e_vret dX7_command_346 rfl ⟨rfl, rfl, eU (eU (eU (eU (eU (eU (eU K (4 * n + 0) 0) (4 * n + (0 + 1)) 0) (4 * n + (0 + 1 + 1)) 0) (4 * n + (0 + 1 + 1 + 1)) 0) (4 * n) 103) (4 * n + 1) (clU (txM M) (kW (txM M) 6 (-1, p + 1)))) (4 * n + 1 + 1) (clV (txM M) (kW (txM M) 6 (-1, p + 1))), by unfold cmS; rw [hk] <;> rfl, fun j hj => (by simp only [eU, ite_true]; (repeat' split) <;> first | rfl | (exfalso; omega) | exact absurd trivial (by assumption)), fun _ => by rw [hk]; exact ⟨(by simp only [eU, ite_true]; (repeat' split) <;> first | rfl | (exfalso; omega) | exact absurd trivial (by assumption)), (by simp only [eU, ite_true]; (repeat' split) <;> first | rfl | (exfalso; omega) | exact absurd trivial (by assumption)), fun q1 q2 q3 => (by simp only [eU, ite_true]; (repeat' split) <;> first | rfl | (exfalso; omega) | exact absurd trivial (by assumption)), fun q => absurd q (by decide)⟩⟩
            · exfalso; omega
theorem C_X7_command7 {X : eXT} {a : Nat → Nat} {M : eFs} {p : Int} {K : Int → Int} {n : Int} (hx : okX M) (hp : 0 ≤ p ∧ p ≤ M.1 6) (hn : 0 ≤ n ∧ n ≤ 50) (hk : kF (txM M) p = 7) (hf : txM M p = 107) :
    EM X mX7_command (eRm 5) a [.ref (a 0)] (wM a (mPS M (-1, p) K n)) (eRets none a (fun cs1 => ∃ K1 : Int → Int, cs1 = wM a (mPS M (cmS (txM M) p) K1 (n + 1)) ∧ cmR (txM M) p K K1 n)) := by
  refine EM.of (by decide +kernel) rfl (Nat.le_of_ble_eq_true rfl) ?_
  have hs0 : okS (M.1 6) ((-1 : Int), p) := ⟨(show (-1 : Int) ≤ -1 ∧ (-1 : Int) ≤ M.1 6 by omega), hp⟩
  have ts0 := tx_in hx p
  refine e_iconst dX7_command_0 rfl ?_
  refine e_aload_n dX7_command_1 rfl rfl ?_
  refine e_getfield fd_X7_224 dX7_command_2 rfl rfl rfl rfl ?_
  refine EV.eq (st' := [vi n, vi 4]) rfl ?_
  refine e_imul dX7_command_5 rfl ?_
  refine f_istore_n dX7_command_6 rfl (Nat.le_of_ble_eq_true rfl) rfl ?_
  refine e_aload_n dX7_command_7 rfl rfl ?_
  refine e_dup dX7_command_8 rfl rfl ?_
  refine e_getfield fd_X7_224 dX7_command_9 rfl rfl rfl rfl ?_
  refine EV.eq (st' := [vi n, .ref (a 0)]) rfl ?_
  refine e_iconst dX7_command_12 rfl ?_
  refine e_iadd dX7_command_13 rfl ?_
  refine e_putfield fd_X7_224 dX7_command_14 rfl rfl rfl (Nat.le_of_ble_eq_true rfl) rfl rfl ?_
  refine EV.ceq (cs' := wM a (mPS M (-1, p) K (n + 1))) rfl ?_
  refine e_aload_n dX7_command_17 rfl rfl ?_
  refine e_cV0 [0, 1, 2, 3, 4, 5] lk_X7_208 rfl dX7_command_18 rfl (C_X7_sign (s := (-1, p)) hx hs0) rfl rfl (Nat.le_of_ble_eq_true rfl) (Nat.le_of_ble_eq_true rfl) (Nat.le_of_ble_eq_true rfl) ⟨rfl, rfl⟩ rfl rfl rfl rfl rfl rfl  ?_
  refine EV.eq (st' := [vi (txM M p)]) rfl ?_
  have ts := tx_in hx p
  refine f_istore_n dX7_command_21 rfl (Nat.le_of_ble_eq_true rfl) rfl ?_
  refine e_iconst dX7_command_22 rfl ?_
  refine f_istore_n dX7_command_23 rfl (Nat.le_of_ble_eq_true rfl) rfl ?_
  refine e_iload_n dX7_command_24 rfl rfl ?_
  refine e_iconst dX7_command_25 rfl ?_
  refine e_icmp_ge (t := 44) dX7_command_26 rfl rfl (by decide) (by decide) (fun h => absurd h (by decide)) (fun _ => ?_)
  refine e_aload_n dX7_command_29 rfl rfl ?_
  refine e_getfield fd_X7_27 dX7_command_30 rfl rfl rfl rfl ?_
  refine e_iload_n dX7_command_33 rfl rfl ?_
  refine e_iload_n dX7_command_34 rfl rfl ?_
  refine e_iadd dX7_command_35 rfl ?_
  refine e_iconst dX7_command_36 rfl ?_
  refine e_iastore dX7_command_37 rfl rfl rfl (by omega) (by decide) ?_
  refine f_iinc dX7_command_38 rfl rfl (Nat.le_of_ble_eq_true rfl) rfl ?_
  refine e_goto (n := 24) dX7_command_41 rfl ?_
  refine e_iload_n dX7_command_24 rfl rfl ?_
  refine e_iconst dX7_command_25 rfl ?_
  refine e_icmp_ge (t := 44) dX7_command_26 rfl rfl (by decide) (by decide) (fun h => absurd h (by decide)) (fun _ => ?_)
  refine e_aload_n dX7_command_29 rfl rfl ?_
  refine e_getfield fd_X7_27 dX7_command_30 rfl rfl rfl rfl ?_
  refine e_iload_n dX7_command_33 rfl rfl ?_
  refine e_iload_n dX7_command_34 rfl rfl ?_
  refine e_iadd dX7_command_35 rfl ?_
  refine e_iconst dX7_command_36 rfl ?_
  refine e_iastore dX7_command_37 rfl rfl rfl (by omega) (by decide) ?_
  refine f_iinc dX7_command_38 rfl rfl (Nat.le_of_ble_eq_true rfl) rfl ?_
  refine e_goto (n := 24) dX7_command_41 rfl ?_
  refine e_iload_n dX7_command_24 rfl rfl ?_
  refine e_iconst dX7_command_25 rfl ?_
  refine e_icmp_ge (t := 44) dX7_command_26 rfl rfl (by decide) (by decide) (fun h => absurd h (by decide)) (fun _ => ?_)
  refine e_aload_n dX7_command_29 rfl rfl ?_
  refine e_getfield fd_X7_27 dX7_command_30 rfl rfl rfl rfl ?_
  refine e_iload_n dX7_command_33 rfl rfl ?_
  refine e_iload_n dX7_command_34 rfl rfl ?_
  refine e_iadd dX7_command_35 rfl ?_
  refine e_iconst dX7_command_36 rfl ?_
  refine e_iastore dX7_command_37 rfl rfl rfl (by omega) (by decide) ?_
  refine f_iinc dX7_command_38 rfl rfl (Nat.le_of_ble_eq_true rfl) rfl ?_
  refine e_goto (n := 24) dX7_command_41 rfl ?_
  refine e_iload_n dX7_command_24 rfl rfl ?_
  refine e_iconst dX7_command_25 rfl ?_
  refine e_icmp_ge (t := 44) dX7_command_26 rfl rfl (by decide) (by decide) (fun h => absurd h (by decide)) (fun _ => ?_)
  refine e_aload_n dX7_command_29 rfl rfl ?_
  refine e_getfield fd_X7_27 dX7_command_30 rfl rfl rfl rfl ?_
  refine e_iload_n dX7_command_33 rfl rfl ?_
  refine e_iload_n dX7_command_34 rfl rfl ?_
  refine e_iadd dX7_command_35 rfl ?_
  refine e_iconst dX7_command_36 rfl ?_
  refine e_iastore dX7_command_37 rfl rfl rfl (by omega) (by decide) ?_
  refine f_iinc dX7_command_38 rfl rfl (Nat.le_of_ble_eq_true rfl) rfl ?_
  refine e_goto (n := 24) dX7_command_41 rfl ?_
  refine e_iload_n dX7_command_24 rfl rfl ?_
  refine e_iconst dX7_command_25 rfl ?_
  refine e_icmp_ge (t := 44) dX7_command_26 rfl rfl (by decide) (by decide) (fun _ => ?_) (fun h => absurd h (by decide))
  refine EV.ceq (cs' := wM a (mPS M (-1, p) (eU (eU (eU (eU K (4 * n + 0) 0) (4 * n + (0 + 1)) 0) (4 * n + (0 + 1 + 1)) 0) (4 * n + (0 + 1 + 1 + 1)) 0) (n + 1))) rfl ?_
  refine e_iload_n dX7_command_44 rfl rfl ?_
  refine e_bipush dX7_command_45 rfl rfl ?_
  refine e_icmp_eq (t := 101) dX7_command_47 rfl rfl (by omega) (by omega) (fun h47 => ?_) (fun h47 => ?_)
  · exfalso; omega
  · refine e_iload_n dX7_command_50 rfl rfl ?_
    refine e_bipush dX7_command_51 rfl rfl ?_
    refine e_icmp_eq (t := 101) dX7_command_53 rfl rfl (by omega) (by omega) (fun h53 => ?_) (fun h53 => ?_)
    · exfalso; omega
    · refine e_iload_n dX7_command_56 rfl rfl ?_
      refine e_bipush dX7_command_57 rfl rfl ?_
      refine e_icmp_eq (t := 101) dX7_command_59 rfl rfl (by omega) (by omega) (fun h59 => ?_) (fun h59 => ?_)
      · exfalso; omega
      · refine e_iload_n dX7_command_62 rfl rfl ?_
        refine e_bipush dX7_command_63 rfl rfl ?_
        refine e_icmp_eq (t := 101) dX7_command_65 rfl rfl (by omega) (by omega) (fun h65 => ?_) (fun h65 => ?_)
        · exfalso; omega
        · refine e_iload_n dX7_command_68 rfl rfl ?_
          refine e_bipush dX7_command_69 rfl rfl ?_
          refine e_icmp_eq (t := 101) dX7_command_71 rfl rfl (by omega) (by omega) (fun h71 => ?_) (fun h71 => ?_)
          · exfalso; omega
          · refine e_iload_n dX7_command_74 rfl rfl ?_
            refine e_bipush dX7_command_75 rfl rfl ?_
            refine e_icmp_eq (t := 101) dX7_command_77 rfl rfl (by omega) (by omega) (fun h77 => ?_) (fun h77 => ?_)
            · exfalso; omega
            · refine e_iload_n dX7_command_80 rfl rfl ?_
              refine e_bipush dX7_command_81 rfl rfl ?_
              refine e_icmp_eq (t := 101) dX7_command_83 rfl rfl (by omega) (by omega) (fun h83 => ?_) (fun h83 => ?_)
              · refine e_aload_n dX7_command_101 rfl rfl ?_
                refine e_dup dX7_command_102 rfl rfl ?_
                refine e_getfield fd_X7_202 dX7_command_103 rfl rfl rfl rfl ?_
                refine EV.eq (st' := [vi p, .ref (a 0)]) rfl ?_
                refine e_iconst dX7_command_106 rfl ?_
                refine e_iadd dX7_command_107 rfl ?_
                refine e_putfield fd_X7_202 dX7_command_108 rfl rfl rfl (Nat.le_of_ble_eq_true rfl) rfl rfl ?_
                refine EV.ceq (cs' := wM a (mPS M (-1, p + 1) (eU (eU (eU (eU K (4 * n + 0) 0) (4 * n + (0 + 1)) 0) (4 * n + (0 + 1 + 1)) 0) (4 * n + (0 + 1 + 1 + 1)) 0) (n + 1))) rfl ?_
                have hs : okS (M.1 6) ((-1 : Int), p + 1) := ⟨(show (-1 : Int) ≤ -1 ∧ (-1 : Int) ≤ M.1 6 by omega), (show 0 ≤ p + 1 ∧ p + 1 ≤ M.1 6 by omega)⟩
                refine e_aload_n dX7_command_111 rfl rfl ?_
                refine e_iload_n dX7_command_112 rfl rfl ?_
                refine EV.eq (st' := [vi 107, .ref (a 0)]) (by show [vi (txM M p), .ref (a 0)] = _; rw [hf]) ?_
                refine e_cV2 [0, 1, 2, 3, 4, 5] lk_X7_227 rfl dX7_command_113 rfl (C_X7_word7 (s := (-1, p + 1)) (K := eU (eU (eU (eU K (4 * n + 0) 0) (4 * n + (0 + 1)) 0) (4 * n + (0 + 1 + 1)) 0) (4 * n + (0 + 1 + 1 + 1)) 0) (n := n + 1) hx hs) rfl rfl (Nat.le_of_ble_eq_true rfl) (Nat.le_of_ble_eq_true rfl) (Nat.le_of_ble_eq_true rfl) ⟨rfl, rfl⟩ rfl rfl rfl rfl rfl rfl rfl rfl ?_
                refine EV.ceq (cs' := wM a (mPS M (kW (txM M) 7 (-1, p + 1)) (eU (eU (eU (eU K (4 * n + 0) 0) (4 * n + (0 + 1)) 0) (4 * n + (0 + 1 + 1)) 0) (4 * n + (0 + 1 + 1 + 1)) 0) (n + 1))) rfl ?_
                refine f_istore_n dX7_command_116 rfl (Nat.le_of_ble_eq_true rfl) rfl ?_
                refine e_aload_n dX7_command_117 rfl rfl ?_
                refine e_getfield fd_X7_27 dX7_command_118 rfl rfl rfl rfl ?_
                refine e_iload_n dX7_command_121 rfl rfl ?_
                refine e_iload_n dX7_command_122 rfl rfl ?_
                refine e_iastore dX7_command_123 rfl rfl rfl (by omega) (by decide) ?_
                refine EV.ceq (cs' := wM a (mPS M (kW (txM M) 7 (-1, p + 1)) (eU (eU (eU (eU (eU K (4 * n + 0) 0) (4 * n + (0 + 1)) 0) (4 * n + (0 + 1 + 1)) 0) (4 * n + (0 + 1 + 1 + 1)) 0) (4 * n) 107) (n + 1))) rfl ?_
                refine e_iload_n dX7_command_124 rfl rfl ?_
                refine e_tabIn (t := 303) dX7_command_125 (by decide) (by decide) (by decide) rfl rfl ?_
                refine e_aload_n dX7_command_303 rfl rfl ?_
                refine e_getfield fd_X7_27 dX7_command_304 rfl rfl rfl rfl ?_
                refine e_iload_n dX7_command_307 rfl rfl ?_
                refine e_iconst dX7_command_308 rfl ?_
                refine e_iadd dX7_command_309 rfl ?_
                refine e_aload_n dX7_command_310 rfl rfl ?_
                refine e_bipush dX7_command_311 rfl rfl ?_
                refine e_iconst dX7_command_313 rfl ?_
                refine e_cV2 [0, 1, 2, 3, 4, 5] lk_X7_221 rfl dX7_command_314 rfl (C_X7_behind1 (s := kW (txM M) 7 (-1, p + 1)) (K := eU (eU (eU (eU (eU K (4 * n + 0) 0) (4 * n + (0 + 1)) 0) (4 * n + (0 + 1 + 1)) 0) (4 * n + (0 + 1 + 1 + 1)) 0) (4 * n) 107) (n := n + 1) hx (okS_kW hx hs 7) (c := 32) (by decide)) rfl rfl (Nat.le_of_ble_eq_true rfl) (Nat.le_of_ble_eq_true rfl) (Nat.le_of_ble_eq_true rfl) ⟨rfl, rfl⟩ rfl rfl rfl rfl rfl rfl rfl rfl ?_
                refine EV.ceq (cs' := wM a (mPS M (bhS (txM M) 32 False (kW (txM M) 7 (-1, p + 1))) (eU (eU (eU (eU (eU K (4 * n + 0) 0) (4 * n + (0 + 1)) 0) (4 * n + (0 + 1 + 1)) 0) (4 * n + (0 + 1 + 1 + 1)) 0) (4 * n) 107) (n + 1))) rfl ?_
                refine e_iastore dX7_command_317 rfl rfl rfl (by omega) (by decide) ?_
                refine e_goto (n := 346) dX7_command_318 rfl ?_
                exact e_vret dX7_command_346 rfl ⟨rfl, rfl, eU (eU (eU (eU (eU (eU K (4 * n + 0) 0) (4 * n + (0 + 1)) 0) (4 * n + (0 + 1 + 1)) 0) (4 * n + (0 + 1 + 1 + 1)) 0) (4 * n) 107) (4 * n + 1) (bhV (txM M) 32 False (kW (txM M) 7 (-1, p + 1))), by unfold cmS; rw [hk] <;> rfl, fun j hj => (by simp only [eU, ite_true]; (repeat' split) <;> first | rfl | (exfalso; omega) | exact absurd trivial (by assumption)), fun _ => by rw [hk]; exact ⟨(by simp only [eU, ite_true]; (repeat' split) <;> first | rfl | (exfalso; omega) | exact absurd trivial (by assumption)), (by simp only [eU, ite_true]; (repeat' split) <;> first | rfl | (exfalso; omega) | exact absurd trivial (by assumption)), fun q1 q2 q3 => absurd rfl q2, fun q => absurd q (by decide)⟩⟩
              · exfalso; omega
theorem C_X7_command8 {X : eXT} {a : Nat → Nat} {M : eFs} {p : Int} {K : Int → Int} {n : Int} (hx : okX M) (hp : 0 ≤ p ∧ p ≤ M.1 6) (hn : 0 ≤ n ∧ n ≤ 50) (hk : kF (txM M) p = 8) (hf : txM M p = 115) :
    EM X mX7_command (eRm 5) a [.ref (a 0)] (wM a (mPS M (-1, p) K n)) (eRets none a (fun cs1 => ∃ K1 : Int → Int, cs1 = wM a (mPS M (cmS (txM M) p) K1 (n + 1)) ∧ cmR (txM M) p K K1 n)) := by
  refine EM.of (by decide +kernel) rfl (Nat.le_of_ble_eq_true rfl) ?_
  have hs0 : okS (M.1 6) ((-1 : Int), p) := ⟨(show (-1 : Int) ≤ -1 ∧ (-1 : Int) ≤ M.1 6 by omega), hp⟩
  have ts0 := tx_in hx p
  refine e_iconst dX7_command_0 rfl ?_
  refine e_aload_n dX7_command_1 rfl rfl ?_
  refine e_getfield fd_X7_224 dX7_command_2 rfl rfl rfl rfl ?_
  refine EV.eq (st' := [vi n, vi 4]) rfl ?_
  refine e_imul dX7_command_5 rfl ?_
  refine f_istore_n dX7_command_6 rfl (Nat.le_of_ble_eq_true rfl) rfl ?_
  refine e_aload_n dX7_command_7 rfl rfl ?_
  refine e_dup dX7_command_8 rfl rfl ?_
  refine e_getfield fd_X7_224 dX7_command_9 rfl rfl rfl rfl ?_
  refine EV.eq (st' := [vi n, .ref (a 0)]) rfl ?_
  refine e_iconst dX7_command_12 rfl ?_
  refine e_iadd dX7_command_13 rfl ?_
  refine e_putfield fd_X7_224 dX7_command_14 rfl rfl rfl (Nat.le_of_ble_eq_true rfl) rfl rfl ?_
  refine EV.ceq (cs' := wM a (mPS M (-1, p) K (n + 1))) rfl ?_
  refine e_aload_n dX7_command_17 rfl rfl ?_
  refine e_cV0 [0, 1, 2, 3, 4, 5] lk_X7_208 rfl dX7_command_18 rfl (C_X7_sign (s := (-1, p)) hx hs0) rfl rfl (Nat.le_of_ble_eq_true rfl) (Nat.le_of_ble_eq_true rfl) (Nat.le_of_ble_eq_true rfl) ⟨rfl, rfl⟩ rfl rfl rfl rfl rfl rfl  ?_
  refine EV.eq (st' := [vi (txM M p)]) rfl ?_
  have ts := tx_in hx p
  refine f_istore_n dX7_command_21 rfl (Nat.le_of_ble_eq_true rfl) rfl ?_
  refine e_iconst dX7_command_22 rfl ?_
  refine f_istore_n dX7_command_23 rfl (Nat.le_of_ble_eq_true rfl) rfl ?_
  refine e_iload_n dX7_command_24 rfl rfl ?_
  refine e_iconst dX7_command_25 rfl ?_
  refine e_icmp_ge (t := 44) dX7_command_26 rfl rfl (by decide) (by decide) (fun h => absurd h (by decide)) (fun _ => ?_)
  refine e_aload_n dX7_command_29 rfl rfl ?_
  refine e_getfield fd_X7_27 dX7_command_30 rfl rfl rfl rfl ?_
  refine e_iload_n dX7_command_33 rfl rfl ?_
  refine e_iload_n dX7_command_34 rfl rfl ?_
  refine e_iadd dX7_command_35 rfl ?_
  refine e_iconst dX7_command_36 rfl ?_
  refine e_iastore dX7_command_37 rfl rfl rfl (by omega) (by decide) ?_
  refine f_iinc dX7_command_38 rfl rfl (Nat.le_of_ble_eq_true rfl) rfl ?_
  refine e_goto (n := 24) dX7_command_41 rfl ?_
  refine e_iload_n dX7_command_24 rfl rfl ?_
  refine e_iconst dX7_command_25 rfl ?_
  refine e_icmp_ge (t := 44) dX7_command_26 rfl rfl (by decide) (by decide) (fun h => absurd h (by decide)) (fun _ => ?_)
  refine e_aload_n dX7_command_29 rfl rfl ?_
  refine e_getfield fd_X7_27 dX7_command_30 rfl rfl rfl rfl ?_
  refine e_iload_n dX7_command_33 rfl rfl ?_
  refine e_iload_n dX7_command_34 rfl rfl ?_
  refine e_iadd dX7_command_35 rfl ?_
  refine e_iconst dX7_command_36 rfl ?_
  refine e_iastore dX7_command_37 rfl rfl rfl (by omega) (by decide) ?_
  refine f_iinc dX7_command_38 rfl rfl (Nat.le_of_ble_eq_true rfl) rfl ?_
  refine e_goto (n := 24) dX7_command_41 rfl ?_
  refine e_iload_n dX7_command_24 rfl rfl ?_
  refine e_iconst dX7_command_25 rfl ?_
  refine e_icmp_ge (t := 44) dX7_command_26 rfl rfl (by decide) (by decide) (fun h => absurd h (by decide)) (fun _ => ?_)
  refine e_aload_n dX7_command_29 rfl rfl ?_
  refine e_getfield fd_X7_27 dX7_command_30 rfl rfl rfl rfl ?_
  refine e_iload_n dX7_command_33 rfl rfl ?_
  refine e_iload_n dX7_command_34 rfl rfl ?_
  refine e_iadd dX7_command_35 rfl ?_
  refine e_iconst dX7_command_36 rfl ?_
  refine e_iastore dX7_command_37 rfl rfl rfl (by omega) (by decide) ?_
  refine f_iinc dX7_command_38 rfl rfl (Nat.le_of_ble_eq_true rfl) rfl ?_
  refine e_goto (n := 24) dX7_command_41 rfl ?_
  refine e_iload_n dX7_command_24 rfl rfl ?_
  refine e_iconst dX7_command_25 rfl ?_
  refine e_icmp_ge (t := 44) dX7_command_26 rfl rfl (by decide) (by decide) (fun h => absurd h (by decide)) (fun _ => ?_)
  refine e_aload_n dX7_command_29 rfl rfl ?_
  refine e_getfield fd_X7_27 dX7_command_30 rfl rfl rfl rfl ?_
  refine e_iload_n dX7_command_33 rfl rfl ?_
  refine e_iload_n dX7_command_34 rfl rfl ?_
  refine e_iadd dX7_command_35 rfl ?_
  refine e_iconst dX7_command_36 rfl ?_
  refine e_iastore dX7_command_37 rfl rfl rfl (by omega) (by decide) ?_
  refine f_iinc dX7_command_38 rfl rfl (Nat.le_of_ble_eq_true rfl) rfl ?_
  refine e_goto (n := 24) dX7_command_41 rfl ?_
  refine e_iload_n dX7_command_24 rfl rfl ?_
  refine e_iconst dX7_command_25 rfl ?_
  refine e_icmp_ge (t := 44) dX7_command_26 rfl rfl (by decide) (by decide) (fun _ => ?_) (fun h => absurd h (by decide))
  refine EV.ceq (cs' := wM a (mPS M (-1, p) (eU (eU (eU (eU K (4 * n + 0) 0) (4 * n + (0 + 1)) 0) (4 * n + (0 + 1 + 1)) 0) (4 * n + (0 + 1 + 1 + 1)) 0) (n + 1))) rfl ?_
  refine e_iload_n dX7_command_44 rfl rfl ?_
  refine e_bipush dX7_command_45 rfl rfl ?_
  refine e_icmp_eq (t := 101) dX7_command_47 rfl rfl (by omega) (by omega) (fun h47 => ?_) (fun h47 => ?_)
  · exfalso; omega
  · refine e_iload_n dX7_command_50 rfl rfl ?_
    refine e_bipush dX7_command_51 rfl rfl ?_
    refine e_icmp_eq (t := 101) dX7_command_53 rfl rfl (by omega) (by omega) (fun h53 => ?_) (fun h53 => ?_)
    · exfalso; omega
    · refine e_iload_n dX7_command_56 rfl rfl ?_
      refine e_bipush dX7_command_57 rfl rfl ?_
      refine e_icmp_eq (t := 101) dX7_command_59 rfl rfl (by omega) (by omega) (fun h59 => ?_) (fun h59 => ?_)
      · exfalso; omega
      · refine e_iload_n dX7_command_62 rfl rfl ?_
        refine e_bipush dX7_command_63 rfl rfl ?_
        refine e_icmp_eq (t := 101) dX7_command_65 rfl rfl (by omega) (by omega) (fun h65 => ?_) (fun h65 => ?_)
        · exfalso; omega
        · refine e_iload_n dX7_command_68 rfl rfl ?_
          refine e_bipush dX7_command_69 rfl rfl ?_
          refine e_icmp_eq (t := 101) dX7_command_71 rfl rfl (by omega) (by omega) (fun h71 => ?_) (fun h71 => ?_)
          · exfalso; omega
          · refine e_iload_n dX7_command_74 rfl rfl ?_
            refine e_bipush dX7_command_75 rfl rfl ?_
            refine e_icmp_eq (t := 101) dX7_command_77 rfl rfl (by omega) (by omega) (fun h77 => ?_) (fun h77 => ?_)
            · exfalso; omega
            · refine e_iload_n dX7_command_80 rfl rfl ?_
              refine e_bipush dX7_command_81 rfl rfl ?_
              refine e_icmp_eq (t := 101) dX7_command_83 rfl rfl (by omega) (by omega) (fun h83 => ?_) (fun h83 => ?_)
              · exfalso; omega
              · refine e_iload_n dX7_command_86 rfl rfl ?_
                refine e_bipush dX7_command_87 rfl rfl ?_
                refine e_icmp_eq (t := 101) dX7_command_89 rfl rfl (by omega) (by omega) (fun h89 => ?_) (fun h89 => ?_)
                · refine e_aload_n dX7_command_101 rfl rfl ?_
                  refine e_dup dX7_command_102 rfl rfl ?_
                  refine e_getfield fd_X7_202 dX7_command_103 rfl rfl rfl rfl ?_
                  refine EV.eq (st' := [vi p, .ref (a 0)]) rfl ?_
                  refine e_iconst dX7_command_106 rfl ?_
                  refine e_iadd dX7_command_107 rfl ?_
                  refine e_putfield fd_X7_202 dX7_command_108 rfl rfl rfl (Nat.le_of_ble_eq_true rfl) rfl rfl ?_
                  refine EV.ceq (cs' := wM a (mPS M (-1, p + 1) (eU (eU (eU (eU K (4 * n + 0) 0) (4 * n + (0 + 1)) 0) (4 * n + (0 + 1 + 1)) 0) (4 * n + (0 + 1 + 1 + 1)) 0) (n + 1))) rfl ?_
                  have hs : okS (M.1 6) ((-1 : Int), p + 1) := ⟨(show (-1 : Int) ≤ -1 ∧ (-1 : Int) ≤ M.1 6 by omega), (show 0 ≤ p + 1 ∧ p + 1 ≤ M.1 6 by omega)⟩
                  refine e_aload_n dX7_command_111 rfl rfl ?_
                  refine e_iload_n dX7_command_112 rfl rfl ?_
                  refine EV.eq (st' := [vi 115, .ref (a 0)]) (by show [vi (txM M p), .ref (a 0)] = _; rw [hf]) ?_
                  refine e_cV2 [0, 1, 2, 3, 4, 5] lk_X7_227 rfl dX7_command_113 rfl (C_X7_word8 (s := (-1, p + 1)) (K := eU (eU (eU (eU K (4 * n + 0) 0) (4 * n + (0 + 1)) 0) (4 * n + (0 + 1 + 1)) 0) (4 * n + (0 + 1 + 1 + 1)) 0) (n := n + 1) hx hs) rfl rfl (Nat.le_of_ble_eq_true rfl) (Nat.le_of_ble_eq_true rfl) (Nat.le_of_ble_eq_true rfl) ⟨rfl, rfl⟩ rfl rfl rfl rfl rfl rfl rfl rfl ?_
                  refine EV.ceq (cs' := wM a (mPS M (kW (txM M) 8 (-1, p + 1)) (eU (eU (eU (eU K (4 * n + 0) 0) (4 * n + (0 + 1)) 0) (4 * n + (0 + 1 + 1)) 0) (4 * n + (0 + 1 + 1 + 1)) 0) (n + 1))) rfl ?_
                  refine f_istore_n dX7_command_116 rfl (Nat.le_of_ble_eq_true rfl) rfl ?_
                  refine e_aload_n dX7_command_117 rfl rfl ?_
                  refine e_getfield fd_X7_27 dX7_command_118 rfl rfl rfl rfl ?_
                  refine e_iload_n dX7_command_121 rfl rfl ?_
                  refine e_iload_n dX7_command_122 rfl rfl ?_
                  refine e_iastore dX7_command_123 rfl rfl rfl (by omega) (by decide) ?_
                  refine EV.ceq (cs' := wM a (mPS M (kW (txM M) 8 (-1, p + 1)) (eU (eU (eU (eU (eU K (4 * n + 0) 0) (4 * n + (0 + 1)) 0) (4 * n + (0 + 1 + 1)) 0) (4 * n + (0 + 1 + 1 + 1)) 0) (4 * n) 115) (n + 1))) rfl ?_
                  refine e_iload_n dX7_command_124 rfl rfl ?_
                  refine e_tabIn (t := 321) dX7_command_125 (by decide) (by decide) (by decide) rfl rfl ?_
                  refine e_aload_n dX7_command_321 rfl rfl ?_
                  refine e_getfield fd_X7_27 dX7_command_322 rfl rfl rfl rfl ?_
                  refine e_iload_n dX7_command_325 rfl rfl ?_
                  refine e_iconst dX7_command_326 rfl ?_
                  refine e_iadd dX7_command_327 rfl ?_
                  refine e_aload_n dX7_command_328 rfl rfl ?_
                  refine e_bipush dX7_command_329 rfl rfl ?_
                  refine e_iconst dX7_command_331 rfl ?_
                  refine e_cV2 [0, 1, 2, 3, 4, 5] lk_X7_221 rfl dX7_command_332 rfl (C_X7_behind2 (s := kW (txM M) 8 (-1, p + 1)) (K := eU (eU (eU (eU (eU K (4 * n + 0) 0) (4 * n + (0 + 1)) 0) (4 * n + (0 + 1 + 1)) 0) (4 * n + (0 + 1 + 1 + 1)) 0) (4 * n) 115) (n := n + 1) hx (okS_kW hx hs 8) (c := 32) (by decide)) rfl rfl (Nat.le_of_ble_eq_true rfl) (Nat.le_of_ble_eq_true rfl) (Nat.le_of_ble_eq_true rfl) ⟨rfl, rfl⟩ rfl rfl rfl rfl rfl rfl rfl rfl ?_
                  refine EV.ceq (cs' := wM a (mPS M (bhS (txM M) 32 True (kW (txM M) 8 (-1, p + 1))) (eU (eU (eU (eU (eU K (4 * n + 0) 0) (4 * n + (0 + 1)) 0) (4 * n + (0 + 1 + 1)) 0) (4 * n + (0 + 1 + 1 + 1)) 0) (4 * n) 115) (n + 1))) rfl ?_
                  refine e_iastore dX7_command_335 rfl rfl rfl (by omega) (by decide) ?_
                  refine e_goto (n := 346) dX7_command_336 rfl ?_
                  exact e_vret dX7_command_346 rfl ⟨rfl, rfl, eU (eU (eU (eU (eU (eU K (4 * n + 0) 0) (4 * n + (0 + 1)) 0) (4 * n + (0 + 1 + 1)) 0) (4 * n + (0 + 1 + 1 + 1)) 0) (4 * n) 115) (4 * n + 1) (bhV (txM M) 32 True (kW (txM M) 8 (-1, p + 1))), by unfold cmS; rw [hk] <;> rfl, fun j hj => (by simp only [eU, ite_true]; (repeat' split) <;> first | rfl | (exfalso; omega) | exact absurd trivial (by assumption)), fun _ => by rw [hk]; exact ⟨(by simp only [eU, ite_true]; (repeat' split) <;> first | rfl | (exfalso; omega) | exact absurd trivial (by assumption)), (by simp only [eU, ite_true]; (repeat' split) <;> first | rfl | (exfalso; omega) | exact absurd trivial (by assumption)), fun q1 q2 q3 => absurd rfl q3, fun q => absurd q (by decide)⟩⟩
                · exfalso; omega
theorem C_X7_command9 {X : eXT} {a : Nat → Nat} {M : eFs} {p : Int} {K : Int → Int} {n : Int} (hx : okX M) (hp : 0 ≤ p ∧ p ≤ M.1 6) (hn : 0 ≤ n ∧ n ≤ 50) (hk : kF (txM M) p = 9) (hf : ¬ txM M p = 97 ∧ ¬ txM M p = 106 ∧ ¬ txM M p = 104 ∧ ¬ txM M p = 99 ∧ ¬ txM M p = 116 ∧ ¬ txM M p = 103 ∧ ¬ txM M p = 107 ∧ ¬ txM M p = 115) :
    EM X mX7_command (eRm 5) a [.ref (a 0)] (wM a (mPS M (-1, p) K n)) (eRets none a (fun cs1 => ∃ K1 : Int → Int, cs1 = wM a (mPS M (cmS (txM M) p) K1 (n + 1)) ∧ cmR (txM M) p K K1 n)) := by
  refine EM.of (by decide +kernel) rfl (Nat.le_of_ble_eq_true rfl) ?_
  have hs0 : okS (M.1 6) ((-1 : Int), p) := ⟨(show (-1 : Int) ≤ -1 ∧ (-1 : Int) ≤ M.1 6 by omega), hp⟩
  have ts0 := tx_in hx p
  refine e_iconst dX7_command_0 rfl ?_
  refine e_aload_n dX7_command_1 rfl rfl ?_
  refine e_getfield fd_X7_224 dX7_command_2 rfl rfl rfl rfl ?_
  refine EV.eq (st' := [vi n, vi 4]) rfl ?_
  refine e_imul dX7_command_5 rfl ?_
  refine f_istore_n dX7_command_6 rfl (Nat.le_of_ble_eq_true rfl) rfl ?_
  refine e_aload_n dX7_command_7 rfl rfl ?_
  refine e_dup dX7_command_8 rfl rfl ?_
  refine e_getfield fd_X7_224 dX7_command_9 rfl rfl rfl rfl ?_
  refine EV.eq (st' := [vi n, .ref (a 0)]) rfl ?_
  refine e_iconst dX7_command_12 rfl ?_
  refine e_iadd dX7_command_13 rfl ?_
  refine e_putfield fd_X7_224 dX7_command_14 rfl rfl rfl (Nat.le_of_ble_eq_true rfl) rfl rfl ?_
  refine EV.ceq (cs' := wM a (mPS M (-1, p) K (n + 1))) rfl ?_
  refine e_aload_n dX7_command_17 rfl rfl ?_
  refine e_cV0 [0, 1, 2, 3, 4, 5] lk_X7_208 rfl dX7_command_18 rfl (C_X7_sign (s := (-1, p)) hx hs0) rfl rfl (Nat.le_of_ble_eq_true rfl) (Nat.le_of_ble_eq_true rfl) (Nat.le_of_ble_eq_true rfl) ⟨rfl, rfl⟩ rfl rfl rfl rfl rfl rfl  ?_
  refine EV.eq (st' := [vi (txM M p)]) rfl ?_
  have ts := tx_in hx p
  refine f_istore_n dX7_command_21 rfl (Nat.le_of_ble_eq_true rfl) rfl ?_
  refine e_iconst dX7_command_22 rfl ?_
  refine f_istore_n dX7_command_23 rfl (Nat.le_of_ble_eq_true rfl) rfl ?_
  refine e_iload_n dX7_command_24 rfl rfl ?_
  refine e_iconst dX7_command_25 rfl ?_
  refine e_icmp_ge (t := 44) dX7_command_26 rfl rfl (by decide) (by decide) (fun h => absurd h (by decide)) (fun _ => ?_)
  refine e_aload_n dX7_command_29 rfl rfl ?_
  refine e_getfield fd_X7_27 dX7_command_30 rfl rfl rfl rfl ?_
  refine e_iload_n dX7_command_33 rfl rfl ?_
  refine e_iload_n dX7_command_34 rfl rfl ?_
  refine e_iadd dX7_command_35 rfl ?_
  refine e_iconst dX7_command_36 rfl ?_
  refine e_iastore dX7_command_37 rfl rfl rfl (by omega) (by decide) ?_
  refine f_iinc dX7_command_38 rfl rfl (Nat.le_of_ble_eq_true rfl) rfl ?_
  refine e_goto (n := 24) dX7_command_41 rfl ?_
  refine e_iload_n dX7_command_24 rfl rfl ?_
  refine e_iconst dX7_command_25 rfl ?_
  refine e_icmp_ge (t := 44) dX7_command_26 rfl rfl (by decide) (by decide) (fun h => absurd h (by decide)) (fun _ => ?_)
  refine e_aload_n dX7_command_29 rfl rfl ?_
  refine e_getfield fd_X7_27 dX7_command_30 rfl rfl rfl rfl ?_
  refine e_iload_n dX7_command_33 rfl rfl ?_
  refine e_iload_n dX7_command_34 rfl rfl ?_
  refine e_iadd dX7_command_35 rfl ?_
  refine e_iconst dX7_command_36 rfl ?_
  refine e_iastore dX7_command_37 rfl rfl rfl (by omega) (by decide) ?_
  refine f_iinc dX7_command_38 rfl rfl (Nat.le_of_ble_eq_true rfl) rfl ?_
  refine e_goto (n := 24) dX7_command_41 rfl ?_
  refine e_iload_n dX7_command_24 rfl rfl ?_
  refine e_iconst dX7_command_25 rfl ?_
  refine e_icmp_ge (t := 44) dX7_command_26 rfl rfl (by decide) (by decide) (fun h => absurd h (by decide)) (fun _ => ?_)
  refine e_aload_n dX7_command_29 rfl rfl ?_
  refine e_getfield fd_X7_27 dX7_command_30 rfl rfl rfl rfl ?_
  refine e_iload_n dX7_command_33 rfl rfl ?_
  refine e_iload_n dX7_command_34 rfl rfl ?_
  refine e_iadd dX7_command_35 rfl ?_
  refine e_iconst dX7_command_36 rfl ?_
  refine e_iastore dX7_command_37 rfl rfl rfl (by omega) (by decide) ?_
  refine f_iinc dX7_command_38 rfl rfl (Nat.le_of_ble_eq_true rfl) rfl ?_
  refine e_goto (n := 24) dX7_command_41 rfl ?_
  refine e_iload_n dX7_command_24 rfl rfl ?_
  refine e_iconst dX7_command_25 rfl ?_
  refine e_icmp_ge (t := 44) dX7_command_26 rfl rfl (by decide) (by decide) (fun h => absurd h (by decide)) (fun _ => ?_)
  refine e_aload_n dX7_command_29 rfl rfl ?_
  refine e_getfield fd_X7_27 dX7_command_30 rfl rfl rfl rfl ?_
  refine e_iload_n dX7_command_33 rfl rfl ?_
  refine e_iload_n dX7_command_34 rfl rfl ?_
  refine e_iadd dX7_command_35 rfl ?_
  refine e_iconst dX7_command_36 rfl ?_
  refine e_iastore dX7_command_37 rfl rfl rfl (by omega) (by decide) ?_
  refine f_iinc dX7_command_38 rfl rfl (Nat.le_of_ble_eq_true rfl) rfl ?_
  refine e_goto (n := 24) dX7_command_41 rfl ?_
  refine e_iload_n dX7_command_24 rfl rfl ?_
  refine e_iconst dX7_command_25 rfl ?_
  refine e_icmp_ge (t := 44) dX7_command_26 rfl rfl (by decide) (by decide) (fun _ => ?_) (fun h => absurd h (by decide))
  refine EV.ceq (cs' := wM a (mPS M (-1, p) (eU (eU (eU (eU K (4 * n + 0) 0) (4 * n + (0 + 1)) 0) (4 * n + (0 + 1 + 1)) 0) (4 * n + (0 + 1 + 1 + 1)) 0) (n + 1))) rfl ?_
  refine e_iload_n dX7_command_44 rfl rfl ?_
  refine e_bipush dX7_command_45 rfl rfl ?_
  refine e_icmp_eq (t := 101) dX7_command_47 rfl rfl (by omega) (by omega) (fun h47 => ?_) (fun h47 => ?_)
  · exfalso; omega
  · refine e_iload_n dX7_command_50 rfl rfl ?_
    refine e_bipush dX7_command_51 rfl rfl ?_
    refine e_icmp_eq (t := 101) dX7_command_53 rfl rfl (by omega) (by omega) (fun h53 => ?_) (fun h53 => ?_)
    · exfalso; omega
    · refine e_iload_n dX7_command_56 rfl rfl ?_
      refine e_bipush dX7_command_57 rfl rfl ?_
      refine e_icmp_eq (t := 101) dX7_command_59 rfl rfl (by omega) (by omega) (fun h59 => ?_) (fun h59 => ?_)
      · exfalso; omega
      · refine e_iload_n dX7_command_62 rfl rfl ?_
        refine e_bipush dX7_command_63 rfl rfl ?_
        refine e_icmp_eq (t := 101) dX7_command_65 rfl rfl (by omega) (by omega) (fun h65 => ?_) (fun h65 => ?_)
        · exfalso; omega
        · refine e_iload_n dX7_command_68 rfl rfl ?_
          refine e_bipush dX7_command_69 rfl rfl ?_
          refine e_icmp_eq (t := 101) dX7_command_71 rfl rfl (by omega) (by omega) (fun h71 => ?_) (fun h71 => ?_)
          · exfalso; omega
          · refine e_iload_n dX7_command_74 rfl rfl ?_
            refine e_bipush dX7_command_75 rfl rfl ?_
            refine e_icmp_eq (t := 101) dX7_command_77 rfl rfl (by omega) (by omega) (fun h77 => ?_) (fun h77 => ?_)
            · exfalso; omega
            · refine e_iload_n dX7_command_80 rfl rfl ?_
              refine e_bipush dX7_command_81 rfl rfl ?_
              refine e_icmp_eq (t := 101) dX7_command_83 rfl rfl (by omega) (by omega) (fun h83 => ?_) (fun h83 => ?_)
              · exfalso; omega
              · refine e_iload_n dX7_command_86 rfl rfl ?_
                refine e_bipush dX7_command_87 rfl rfl ?_
                refine e_icmp_eq (t := 101) dX7_command_89 rfl rfl (by omega) (by omega) (fun h89 => ?_) (fun h89 => ?_)
                · exfalso; omega
                · refine e_aload_n dX7_command_92 rfl rfl ?_
                  refine e_aload_n dX7_command_93 rfl rfl ?_
                  refine e_getfield fd_X7_202 dX7_command_94 rfl rfl rfl rfl ?_
                  refine EV.eq (st' := [vi p, .ref (a 0)]) rfl ?_
                  refine e_putfield fd_X7_205 dX7_command_97 rfl rfl rfl (Nat.le_of_ble_eq_true rfl) rfl rfl ?_
                  exact e_vret dX7_command_100 rfl ⟨rfl, rfl, eU (eU (eU (eU K (4 * n + 0) 0) (4 * n + (0 + 1)) 0) (4 * n + (0 + 1 + 1)) 0) (4 * n + (0 + 1 + 1 + 1)) 0, by unfold cmS; rw [if_pos hk] <;> rfl, fun j hj => (by simp only [eU, ite_true]; (repeat' split) <;> first | rfl | (exfalso; omega) | exact absurd trivial (by assumption)), fun q => absurd q (by omega)⟩
theorem C_X7_command {X : eXT} {a : Nat → Nat} {M : eFs} {p : Int} {K : Int → Int} {n : Int} (hx : okX M) (hp : 0 ≤ p ∧ p ≤ M.1 6) (hn : 0 ≤ n ∧ n ≤ 50) : EM X mX7_command (eRm 5) a [.ref (a 0)] (wM a (mPS M (-1, p) K n)) (eRets none a (fun cs1 => ∃ K1 : Int → Int, cs1 = wM a (mPS M (cmS (txM M) p) K1 (n + 1)) ∧ cmR (txM M) p K K1 n)) := by
  by_cases h97 : txM M p = 97
  · exact C_X7_command0 hx hp hn (by unfold kF; rw [if_pos h97]) h97
  by_cases h106 : txM M p = 106
  · exact C_X7_command1 hx hp hn (by unfold kF; rw [if_neg h97, if_pos h106]) h106
  by_cases h104 : txM M p = 104
  · exact C_X7_command2 hx hp hn (by unfold kF; rw [if_neg h97, if_neg h106, if_pos h104]) h104
  by_cases h99 : txM M p = 99
  · have e := kF_c (tx := txM M) hp.1 h99
    have q : kC (txM M) p = 3 ∨ kC (txM M) p = 4 := by unfold kC; split; exact Or.inr rfl; exact Or.inl rfl
    rcases q with q | q
    · exact C_X7_command3 hx hp hn (e.trans q) h99
    · exact C_X7_command4 hx hp hn (e.trans q) h99
  by_cases h116 : txM M p = 116
  · exact C_X7_command5 hx hp hn (by unfold kF; rw [if_neg h97, if_neg h106, if_neg h104, if_neg h99, if_pos h116]) h116
  by_cases h103 : txM M p = 103
  · exact C_X7_command6 hx hp hn (by unfold kF; rw [if_neg h97, if_neg h106, if_neg h104, if_neg h99, if_neg h116, if_pos h103]) h103
  by_cases h107 : txM M p = 107
  · exact C_X7_command7 hx hp hn (by unfold kF; rw [if_neg h97, if_neg h106, if_neg h104, if_neg h99, if_neg h116, if_neg h103, if_pos h107]) h107
  by_cases h115 : txM M p = 115
  · exact C_X7_command8 hx hp hn (by unfold kF; rw [if_neg h97, if_neg h106, if_neg h104, if_neg h99, if_neg h116, if_neg h103, if_neg h107, if_pos h115]) h115
  exact C_X7_command9 hx hp hn (by unfold kF; rw [if_neg h97, if_neg h106, if_neg h104, if_neg h99, if_neg h116, if_neg h103, if_neg h107, if_neg h115]) ⟨h97, h106, h104, h99, h116, h103, h107, h115⟩

