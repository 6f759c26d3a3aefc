/-! ===== the reference's text: what is read ===== -/
def mPS (M : eFs) (s : sP) (K : Int → Int) (n : Int) : eFs := sS (sR (sS (sS M 8 s.1) 7 s.2) 3 K) 11 n
abbrev txM (M : eFs) : Int → Int := tS (M.1 6) (M.2 2)
abbrev okX (M : eFs) : Prop := (0 ≤ M.1 6 ∧ M.1 6 ≤ 60) ∧ ∀ j, 0 ≤ M.2 2 j ∧ M.2 2 j ≤ 126
abbrev okS (L : Int) (s : sP) : Prop := (-1 ≤ s.1 ∧ s.1 ≤ L) ∧ (0 ≤ s.2 ∧ s.2 ≤ L)
theorem tx_in {M : eFs} (hx : okX M) (p : Int) : -1 ≤ txM M p ∧ txM M p ≤ 126 ∧ (0 ≤ txM M p ↔ p < M.1 6) := by
  have w := tS_in (L := M.1 6) hx.2 p
  exact ⟨w.1, w.2.1, w.2.2.1⟩
theorem okS_nd {M : eFs} (hx : okX M) {c : Int} {s : sP} (hc : 0 ≤ c) (hs : okS (M.1 6) s) : okS (M.1 6) (nd (txM M) c s) := by
  have a := tx_in hx s.2
  unfold nd
  (repeat' split)
  · exact hs
  · exact ⟨hs.1, (show 0 ≤ s.2 + 1 ∧ s.2 + 1 ≤ M.1 6 by omega)⟩
  · exact ⟨(show -1 ≤ s.2 ∧ s.2 ≤ M.1 6 by omega), hs.2⟩
theorem okS_nm {M : eFs} (hx : okX M) {two : Prop} [Decidable two] {s : sP} (hs : okS (M.1 6) s) : okS (M.1 6) (nmS (txM M) two s) := by
  have a := tx_in hx s.2
  have b := tx_in hx (s.2 + 1)
  unfold nmS tNp
  (repeat' split)
  · exact hs
  · exact ⟨hs.1, (show 0 ≤ s.2 + 1 + 1 ∧ s.2 + 1 + 1 ≤ M.1 6 by omega)⟩
  · exact ⟨hs.1, (show 0 ≤ s.2 + 1 ∧ s.2 + 1 ≤ M.1 6 by omega)⟩
  · exact ⟨(show -1 ≤ s.2 ∧ s.2 ≤ M.1 6 by omega), hs.2⟩
theorem nmV_in {M : eFs} (hx : okX M) {two : Prop} [Decidable two] {s : sP} : 0 ≤ nmV (txM M) two s ∧ nmV (txM M) two s ≤ 99 := by
  unfold nmV
  (repeat' split)
  · omega
  · exact tNv_in (by assumption)
  · omega
theorem okS_w3 {M : eFs} (hx : okX M) {a b c : Int} {s : sP} (ha : 0 ≤ a) (hb : 0 ≤ b) (hc : 0 ≤ c) (hs : okS (M.1 6) s) : okS (M.1 6) (w3 (txM M) a b c s) := okS_nd hx hc (okS_nd hx hb (okS_nd hx ha hs))
theorem okS_bh {M : eFs} (hx : okX M) {c : Int} {two : Prop} [Decidable two] {s : sP} (hc : 0 ≤ c) (hs : okS (M.1 6) s) : okS (M.1 6) (bhS (txM M) c two s) := okS_nm hx (okS_nd hx hc hs)
theorem okS_cl {M : eFs} (hx : okX M) {s : sP} (hs : okS (M.1 6) s) : okS (M.1 6) (clS (txM M) s) := okS_bh hx (by decide) (okS_bh hx (by decide) hs)
theorem bhV_in {M : eFs} (hx : okX M) {c : Int} {two : Prop} [Decidable two] {s : sP} : 0 ≤ bhV (txM M) c two s ∧ bhV (txM M) c two s ≤ 99 := nmV_in hx

theorem C_X7_sign {X : eXT} {a : Nat → Nat} {M : eFs} {s : sP} {K : Int → Int} {n : Int} (hx : okX M) (hs : okS (M.1 6) s)  :
    EM X mX7_sign (eRm 0) a [.ref (a 0)] (wM a (mPS M (s) (K) (n))) (eRet (some (vi (txM M s.2))) a (wM a (mPS M (s) (K) (n)))) := by
  refine EM.of (by decide +kernel) rfl (Nat.le_of_ble_eq_true rfl) ?_
  refine e_aload_n dX7_sign_0 rfl rfl ?_
  refine e_getfield fd_X7_202 dX7_sign_1 rfl rfl rfl rfl ?_
  refine EV.eq (st' := [vi s.2]) rfl ?_
  refine e_aload_n dX7_sign_4 rfl rfl ?_
  refine e_getfield fd_X7_199 dX7_sign_5 rfl rfl rfl rfl ?_
  refine EV.eq (st' := [vi (M.1 6), vi s.2]) rfl ?_
  refine e_icmp_ge (t := 23) dX7_sign_8 rfl rfl (by omega) (by omega) (fun h8 => ?_) (fun h8 => ?_)
  · refine e_iconst dX7_sign_23 rfl ?_
    exact e_iret dX7_sign_24 rfl rfl (eRet_i (by show _ = tS (M.1 6) (M.2 2) s.2; unfold tS; rw [if_neg (by omega)]) rfl)
  · refine e_aload_n dX7_sign_11 rfl rfl ?_
    refine e_getfield fd_X7_16 dX7_sign_12 rfl rfl rfl rfl ?_
    refine e_aload_n dX7_sign_15 rfl rfl ?_
    refine e_getfield fd_X7_202 dX7_sign_16 rfl rfl rfl rfl ?_
    refine EV.eq (st' := [vi s.2, .ref (a 3)]) rfl ?_
    refine e_caload dX7_sign_19 rfl rfl rfl (by omega) (by decide) ?_
    refine e_goto (n := 24) dX7_sign_20 rfl ?_
    exact e_iret dX7_sign_24 rfl rfl (eRet_i (by show _ = tS (M.1 6) (M.2 2) s.2; unfold tS; rw [if_pos (by omega)] <;> rfl) rfl)
theorem C_X7_needs {X : eXT} {a : Nat → Nat} {M : eFs} {s : sP} {K : Int → Int} {n : Int} (hx : okX M) (hs : okS (M.1 6) s) {c : Int} (hc : 0 ≤ c ∧ c ≤ 126) :
    EM X mX7_needs (eRm 1) a [.ref (a 0), vi c] (wM a (mPS M (s) (K) (n))) (eRet none a (wM a (mPS M (nd (txM M) c s) (K) (n)))) := by
  refine EM.of (by decide +kernel) rfl (Nat.le_of_ble_eq_true rfl) ?_
  refine e_aload_n dX7_needs_0 rfl rfl ?_
  refine e_getfield fd_X7_205 dX7_needs_1 rfl rfl rfl rfl ?_
  refine EV.eq (st' := [vi s.1]) rfl ?_
  refine e_if_lt (t := 8) dX7_needs_4 rfl rfl (by omega) (fun h4 => ?_) (fun h4 => ?_)
  · refine e_aload_n dX7_needs_8 rfl rfl ?_
    refine e_cV0 [0, 1, 2, 3, 4, 5] lk_X7_208 rfl dX7_needs_9 rfl (C_X7_sign hx hs) rfl rfl (Nat.le_of_ble_eq_true rfl) (Nat.le_of_ble_eq_true rfl) (Nat.le_of_ble_eq_true rfl) ⟨rfl, rfl⟩ rfl rfl rfl rfl rfl rfl  ?_
    have ts := tx_in hx s.2
    refine e_iload_n dX7_needs_12 rfl rfl ?_
    refine e_icmp_eq (t := 25) dX7_needs_13 rfl rfl (by omega) (by omega) (fun h13 => ?_) (fun h13 => ?_)
    · refine e_aload_n dX7_needs_25 rfl rfl ?_
      refine e_dup dX7_needs_26 rfl rfl ?_
      refine e_getfield fd_X7_202 dX7_needs_27 rfl rfl rfl rfl ?_
      refine EV.eq (st' := [vi s.2, .ref (a 0)]) rfl ?_
      refine e_iconst dX7_needs_30 rfl ?_
      refine e_iadd dX7_needs_31 rfl ?_
      refine e_putfield fd_X7_202 dX7_needs_32 rfl rfl rfl (Nat.le_of_ble_eq_true rfl) rfl rfl ?_
      exact e_vret dX7_needs_35 rfl (eRet_v (by unfold nd; rw [if_neg (by omega), if_pos (by omega)] <;> rfl))
    · refine e_aload_n dX7_needs_16 rfl rfl ?_
      refine e_aload_n dX7_needs_17 rfl rfl ?_
      refine e_getfield fd_X7_202 dX7_needs_18 rfl rfl rfl rfl ?_
      refine EV.eq (st' := [vi s.2, .ref (a 0)]) rfl ?_
      refine e_putfield fd_X7_205 dX7_needs_21 rfl rfl rfl (Nat.le_of_ble_eq_true rfl) rfl rfl ?_
      exact e_vret dX7_needs_24 rfl (eRet_v (by unfold nd; rw [if_neg (by omega), if_neg h13] <;> rfl))
  · exact e_vret dX7_needs_7 rfl (eRet_v (by rw [nd_e (by omega)]))
theorem C_X7_letters {X : eXT} {a : Nat → Nat} {M : eFs} {s : sP} {K : Int → Int} {n : Int} (hx : okX M) (hs : okS (M.1 6) s) {c1 c2 c3 : Int} (h1 : 0 ≤ c1 ∧ c1 ≤ 126) (h2 : 0 ≤ c2 ∧ c2 ≤ 126) (h3 : 0 ≤ c3 ∧ c3 ≤ 126) :
    EM X mX7_letters (eRm 2) a [.ref (a 0), vi c1, vi c2, vi c3] (wM a (mPS M (s) (K) (n))) (eRet none a (wM a (mPS M (w3 (txM M) c1 c2 c3 s) (K) (n)))) := by
  refine EM.of (by decide +kernel) rfl (Nat.le_of_ble_eq_true rfl) ?_
  refine e_aload_n dX7_letters_0 rfl rfl ?_
  refine e_iload_n dX7_letters_1 rfl rfl ?_
  refine e_cV2 [0, 1, 2, 3, 4, 5] lk_X7_211 rfl dX7_letters_2 rfl (C_X7_needs hx hs (c := c1) (by omega)) rfl rfl (Nat.le_of_ble_eq_true rfl) (Nat.le_of_ble_eq_true rfl) (Nat.le_of_ble_eq_true rfl) ⟨rfl, rfl⟩ rfl rfl rfl rfl rfl rfl rfl rfl ?_
  refine EV.ceq (cs' := wM a (mPS M (nd (txM M) c1 (s)) (K) (n))) rfl ?_
  refine e_aload_n dX7_letters_5 rfl rfl ?_
  refine e_iload_n dX7_letters_6 rfl rfl ?_
  refine e_cV2 [0, 1, 2, 3, 4, 5] lk_X7_211 rfl dX7_letters_7 rfl (C_X7_needs hx (okS_nd hx h1.1 hs) (c := c2) (by omega)) rfl rfl (Nat.le_of_ble_eq_true rfl) (Nat.le_of_ble_eq_true rfl) (Nat.le_of_ble_eq_true rfl) ⟨rfl, rfl⟩ rfl rfl rfl rfl rfl rfl rfl rfl ?_
  refine EV.ceq (cs' := wM a (mPS M (nd (txM M) c2 (nd (txM M) c1 (s))) (K) (n))) rfl ?_
  refine e_aload_n dX7_letters_10 rfl rfl ?_
  refine e_iload_n dX7_letters_11 rfl rfl ?_
  refine e_cV2 [0, 1, 2, 3, 4, 5] lk_X7_211 rfl dX7_letters_12 rfl (C_X7_needs hx (okS_nd hx h2.1 (okS_nd hx h1.1 hs)) (c := c3) (by omega)) rfl rfl (Nat.le_of_ble_eq_true rfl) (Nat.le_of_ble_eq_true rfl) (Nat.le_of_ble_eq_true rfl) ⟨rfl, rfl⟩ rfl rfl rfl rfl rfl rfl rfl rfl ?_
  refine EV.ceq (cs' := wM a (mPS M (w3 (txM M) c1 c2 c3 s) (K) (n))) rfl ?_
  exact e_vret dX7_letters_15 rfl (eRet_v rfl)
theorem C_X7_number1 {X : eXT} {a : Nat → Nat} {M : eFs} {s : sP} {K : Int → Int} {n : Int} (hx : okX M) (hs : okS (M.1 6) s)  :
    EM X mX7_number (eRm 1) a [.ref (a 0), vi 1] (wM a (mPS M (s) (K) (n))) (eRet (some (vi (nmV (txM M) False s))) a (wM a (mPS M (nmS (txM M) False s) (K) (n)))) := by
  refine EM.of (by decide +kernel) rfl (Nat.le_of_ble_eq_true rfl) ?_
  refine e_aload_n dX7_number_0 rfl rfl ?_
  refine e_getfield fd_X7_205 dX7_number_1 rfl rfl rfl rfl ?_
  refine EV.eq (st' := [vi s.1]) rfl ?_
  refine e_if_lt (t := 9) dX7_number_4 rfl rfl (by omega) (fun h4 => ?_) (fun h4 => ?_)
  · refine e_aload_n dX7_number_9 rfl rfl ?_
    refine e_cV0 [0, 1, 2, 3, 4, 5] lk_X7_208 rfl dX7_number_10 rfl (C_X7_sign hx hs) rfl rfl (Nat.le_of_ble_eq_true rfl) (Nat.le_of_ble_eq_true rfl) (Nat.le_of_ble_eq_true rfl) ⟨rfl, rfl⟩ rfl rfl rfl rfl rfl rfl  ?_
    have ts := tx_in hx s.2
    refine e_bipush dX7_number_13 rfl rfl ?_
    refine e_bipush dX7_number_15 rfl rfl ?_
    refine e_cS0 [] lk_X7_46 rfl dX7_number_17 rfl (C_X7_in (by omega) (by omega) (by omega)) rfl rfl (Nat.le_of_ble_eq_true rfl) (Nat.le_of_ble_eq_true rfl) (Nat.le_of_ble_eq_true rfl) ⟨rfl, rfl⟩ rfl rfl  ?_
    refine e_ifb_ne (t := 33) dX7_number_20 rfl rfl (fun h20 => ?_) (fun h20 => ?_)
    · refine e_iconst dX7_number_33 rfl ?_
      refine f_istore_n dX7_number_34 rfl (Nat.le_of_ble_eq_true rfl) rfl ?_
      refine e_iconst dX7_number_35 rfl ?_
      refine f_istore_n dX7_number_36 rfl (Nat.le_of_ble_eq_true rfl) rfl ?_
      refine e_iload_n dX7_number_37 rfl rfl ?_
      refine e_iload_n dX7_number_38 rfl rfl ?_
      refine e_icmp_ge (t := 85) dX7_number_39 rfl rfl (by decide) (by decide) (fun h => absurd h (by decide)) (fun _ => ?_)
      refine e_aload_n dX7_number_42 rfl rfl ?_
      refine e_cV0 [0, 1, 2, 3, 4, 5] lk_X7_208 rfl dX7_number_43 rfl (C_X7_sign hx hs) rfl rfl (Nat.le_of_ble_eq_true rfl) (Nat.le_of_ble_eq_true rfl) (Nat.le_of_ble_eq_true rfl) ⟨rfl, rfl⟩ rfl rfl rfl rfl rfl rfl  ?_
      have ts := tx_in hx s.2
      refine e_bipush dX7_number_46 rfl rfl ?_
      refine e_bipush dX7_number_48 rfl rfl ?_
      refine e_cS0 [] lk_X7_46 rfl dX7_number_50 rfl (C_X7_in (by omega) (by omega) (by omega)) rfl rfl (Nat.le_of_ble_eq_true rfl) (Nat.le_of_ble_eq_true rfl) (Nat.le_of_ble_eq_true rfl) ⟨rfl, rfl⟩ rfl rfl  ?_
      refine e_ifb_eq (t := 85) dX7_number_53 rfl rfl (fun h53 => ?_) (fun h53 => ?_)
      · exfalso; omega
      · refine e_bipush dX7_number_56 rfl rfl ?_
        refine e_iload_n dX7_number_58 rfl rfl ?_
        refine e_imul dX7_number_59 rfl ?_
        refine e_aload_n dX7_number_60 rfl rfl ?_
        refine e_cV0 [0, 1, 2, 3, 4, 5] lk_X7_208 rfl dX7_number_61 rfl (C_X7_sign hx hs) rfl rfl (Nat.le_of_ble_eq_true rfl) (Nat.le_of_ble_eq_true rfl) (Nat.le_of_ble_eq_true rfl) ⟨rfl, rfl⟩ rfl rfl rfl rfl rfl rfl  ?_
        have ts := tx_in hx s.2
        refine e_iadd dX7_number_64 rfl ?_
        refine e_bipush dX7_number_65 rfl rfl ?_
        refine e_isub dX7_number_67 rfl ?_
        refine f_istore_n dX7_number_68 rfl (Nat.le_of_ble_eq_true rfl) rfl ?_
        refine e_aload_n dX7_number_69 rfl rfl ?_
        refine e_dup dX7_number_70 rfl rfl ?_
        refine e_getfield fd_X7_202 dX7_number_71 rfl rfl rfl rfl ?_
        refine EV.eq (st' := [vi (s.2), .ref (a 0)]) rfl ?_
        refine e_iconst dX7_number_74 rfl ?_
        refine e_iadd dX7_number_75 rfl ?_
        refine e_putfield fd_X7_202 dX7_number_76 rfl rfl rfl (Nat.le_of_ble_eq_true rfl) rfl rfl ?_
        refine EV.ceq (cs' := wM a (mPS M ((s.1, s.2 + 1)) (K) (n))) rfl ?_
        have hs1 : okS (M.1 6) (s.1, s.2 + 1) := ⟨hs.1, (show 0 ≤ s.2 + 1 ∧ s.2 + 1 ≤ M.1 6 by omega)⟩
        refine f_iinc dX7_number_79 rfl rfl (Nat.le_of_ble_eq_true rfl) rfl ?_
        refine e_goto (n := 37) dX7_number_82 rfl ?_
        refine e_iload_n dX7_number_37 rfl rfl ?_
        refine e_iload_n dX7_number_38 rfl rfl ?_
        refine e_icmp_ge (t := 85) dX7_number_39 rfl rfl (by decide) (by decide) (fun _ => ?_) (fun h => absurd h (by decide))
        refine e_iload_n dX7_number_85 rfl rfl ?_
        exact e_iret dX7_number_86 rfl rfl (eRet_i (by unfold nmV; rw [if_neg (by omega), if_pos (by omega), (tN_n (fun q => q.1)).1]; omega) (by unfold nmS; rw [if_neg (by omega), if_pos (by omega), (tN_n (fun q => q.1)).2] <;> rfl))
    · refine e_aload_n dX7_number_23 rfl rfl ?_
      refine e_aload_n dX7_number_24 rfl rfl ?_
      refine e_getfield fd_X7_202 dX7_number_25 rfl rfl rfl rfl ?_
      refine EV.eq (st' := [vi s.2, .ref (a 0)]) rfl ?_
      refine e_putfield fd_X7_205 dX7_number_28 rfl rfl rfl (Nat.le_of_ble_eq_true rfl) rfl rfl ?_
      refine e_iconst dX7_number_31 rfl ?_
      exact e_iret dX7_number_32 rfl rfl (eRet_i (by unfold nmV; rw [if_neg (by omega), if_neg h20]) (by unfold nmS; rw [if_neg (by omega), if_neg h20] <;> rfl))
  · refine e_iconst dX7_number_7 rfl ?_
    exact e_iret dX7_number_8 rfl rfl (eRet_i (by unfold nmV; rw [if_pos (by omega)]) (by rw [nmS_e (by omega)]))
theorem C_X7_number2 {X : eXT} {a : Nat → Nat} {M : eFs} {s : sP} {K : Int → Int} {n : Int} (hx : okX M) (hs : okS (M.1 6) s)  :
    EM X mX7_number (eRm 1) a [.ref (a 0), vi 2] (wM a (mPS M (s) (K) (n))) (eRet (some (vi (nmV (txM M) True s))) a (wM a (mPS M (nmS (txM M) True s) (K) (n)))) := by
  refine EM.of (by decide +kernel) rfl (Nat.le_of_ble_eq_true rfl) ?_
  refine e_aload_n dX7_number_0 rfl rfl ?_
  refine e_getfield fd_X7_205 dX7_number_1 rfl rfl rfl rfl ?_
  refine EV.eq (st' := [vi s.1]) rfl ?_
  refine e_if_lt (t := 9) dX7_number_4 rfl rfl (by omega) (fun h4 => ?_) (fun h4 => ?_)
  · refine e_aload_n dX7_number_9 rfl rfl ?_
    refine e_cV0 [0, 1, 2, 3, 4, 5] lk_X7_208 rfl dX7_number_10 rfl (C_X7_sign hx hs) rfl rfl (Nat.le_of_ble_eq_true rfl) (Nat.le_of_ble_eq_true rfl) (Nat.le_of_ble_eq_true rfl) ⟨rfl, rfl⟩ rfl rfl rfl rfl rfl rfl  ?_
    have ts := tx_in hx s.2
    refine e_bipush dX7_number_13 rfl rfl ?_
    refine e_bipush dX7_number_15 rfl rfl ?_
    refine e_cS0 [] lk_X7_46 rfl dX7_number_17 rfl (C_X7_in (by omega) (by omega) (by omega)) rfl rfl (Nat.le_of_ble_eq_true rfl) (Nat.le_of_ble_eq_true rfl) (Nat.le_of_ble_eq_true rfl) ⟨rfl, rfl⟩ rfl rfl  ?_
    refine e_ifb_ne (t := 33) dX7_number_20 rfl rfl (fun h20 => ?_) (fun h20 => ?_)
    · refine e_iconst dX7_number_33 rfl ?_
      refine f_istore_n dX7_number_34 rfl (Nat.le_of_ble_eq_true rfl) rfl ?_
      refine e_iconst dX7_number_35 rfl ?_
      refine f_istore_n dX7_number_36 rfl (Nat.le_of_ble_eq_true rfl) rfl ?_
      refine e_iload_n dX7_number_37 rfl rfl ?_
      refine e_iload_n dX7_number_38 rfl rfl ?_
      refine e_icmp_ge (t := 85) dX7_number_39 rfl rfl (by decide) (by decide) (fun h => absurd h (by decide)) (fun _ => ?_)
      refine e_aload_n dX7_number_42 rfl rfl ?_
      refine e_cV0 [0, 1, 2, 3, 4, 5] lk_X7_208 rfl dX7_number_43 rfl (C_X7_sign hx hs) rfl rfl (Nat.le_of_ble_eq_true rfl) (Nat.le_of_ble_eq_true rfl) (Nat.le_of_ble_eq_true rfl) ⟨rfl, rfl⟩ rfl rfl rfl rfl rfl rfl  ?_
      have ts := tx_in hx s.2
      refine e_bipush dX7_number_46 rfl rfl ?_
      refine e_bipush dX7_number_48 rfl rfl ?_
      refine e_cS0 [] lk_X7_46 rfl dX7_number_50 rfl (C_X7_in (by omega) (by omega) (by omega)) rfl rfl (Nat.le_of_ble_eq_true rfl) (Nat.le_of_ble_eq_true rfl) (Nat.le_of_ble_eq_true rfl) ⟨rfl, rfl⟩ rfl rfl  ?_
      refine e_ifb_eq (t := 85) dX7_number_53 rfl rfl (fun h53 => ?_) (fun h53 => ?_)
      · exfalso; omega
      · refine e_bipush dX7_number_56 rfl rfl ?_
        refine e_iload_n dX7_number_58 rfl rfl ?_
        refine e_imul dX7_number_59 rfl ?_
        refine e_aload_n dX7_number_60 rfl rfl ?_
        refine e_cV0 [0, 1, 2, 3, 4, 5] lk_X7_208 rfl dX7_number_61 rfl (C_X7_sign hx hs) rfl rfl (Nat.le_of_ble_eq_true rfl) (Nat.le_of_ble_eq_true rfl) (Nat.le_of_ble_eq_true rfl) ⟨rfl, rfl⟩ rfl rfl rfl rfl rfl rfl  ?_
        have ts := tx_in hx s.2
        refine e_iadd dX7_number_64 rfl ?_
        refine e_bipush dX7_number_65 rfl rfl ?_
        refine e_isub dX7_number_67 rfl ?_
        refine f_istore_n dX7_number_68 rfl (Nat.le_of_ble_eq_true rfl) rfl ?_
        refine e_aload_n dX7_number_69 rfl rfl ?_
        refine e_dup dX7_number_70 rfl rfl ?_
        refine e_getfield fd_X7_202 dX7_number_71 rfl rfl rfl rfl ?_
        refine EV.eq (st' := [vi (s.2), .ref (a 0)]) rfl ?_
        refine e_iconst dX7_number_74 rfl ?_
        refine e_iadd dX7_number_75 rfl ?_
        refine e_putfield fd_X7_202 dX7_number_76 rfl rfl rfl (Nat.le_of_ble_eq_true rfl) rfl rfl ?_
        refine EV.ceq (cs' := wM a (mPS M ((s.1, s.2 + 1)) (K) (n))) rfl ?_
        have hs1 : okS (M.1 6) (s.1, s.2 + 1) := ⟨hs.1, (show 0 ≤ s.2 + 1 ∧ s.2 + 1 ≤ M.1 6 by omega)⟩
        refine f_iinc dX7_number_79 rfl rfl (Nat.le_of_ble_eq_true rfl) rfl ?_
        refine e_goto (n := 37) dX7_number_82 rfl ?_
        refine e_iload_n dX7_number_37 rfl rfl ?_
        refine e_iload_n dX7_number_38 rfl rfl ?_
        refine e_icmp_ge (t := 85) dX7_number_39 rfl rfl (by decide) (by decide) (fun h => absurd h (by decide)) (fun _ => ?_)
        refine e_aload_n dX7_number_42 rfl rfl ?_
        refine e_cV0 [0, 1, 2, 3, 4, 5] lk_X7_208 rfl dX7_number_43 rfl (C_X7_sign (s := (s.1, s.2 + 1)) hx hs1) rfl rfl (Nat.le_of_ble_eq_true rfl) (Nat.le_of_ble_eq_true rfl) (Nat.le_of_ble_eq_true rfl) ⟨rfl, rfl⟩ rfl rfl rfl rfl rfl rfl  ?_
        have tt := tx_in hx (s.2 + 1)
        have te : txM M ((s.1, s.2 + 1) : sP).2 = txM M (s.2 + 1) := rfl
        refine e_bipush dX7_number_46 rfl rfl ?_
        refine e_bipush dX7_number_48 rfl rfl ?_
        refine e_cS0 [] lk_X7_46 rfl dX7_number_50 rfl (C_X7_in (by omega) (by omega) (by omega)) rfl rfl (Nat.le_of_ble_eq_true rfl) (Nat.le_of_ble_eq_true rfl) (Nat.le_of_ble_eq_true rfl) ⟨rfl, rfl⟩ rfl rfl  ?_
        refine e_ifb_eq (t := 85) dX7_number_53 rfl rfl (fun h53 => ?_) (fun h53 => ?_)
        · refine e_iload_n dX7_number_85 rfl rfl ?_
          exact e_iret dX7_number_86 rfl rfl (eRet_i (by unfold nmV; rw [if_neg (by omega), if_pos (by omega), (tN_n (fun q => h53 q.2)).1]; omega) (by unfold nmS; rw [if_neg (by omega), if_pos (by omega), (tN_n (fun q => h53 q.2)).2] <;> rfl))
        · refine e_bipush dX7_number_56 rfl rfl ?_
          refine e_iload_n dX7_number_58 rfl rfl ?_
          refine e_imul dX7_number_59 rfl ?_
          refine e_aload_n dX7_number_60 rfl rfl ?_
          refine e_cV0 [0, 1, 2, 3, 4, 5] lk_X7_208 rfl dX7_number_61 rfl (C_X7_sign (s := (s.1, s.2 + 1)) hx hs1) rfl rfl (Nat.le_of_ble_eq_true rfl) (Nat.le_of_ble_eq_true rfl) (Nat.le_of_ble_eq_true rfl) ⟨rfl, rfl⟩ rfl rfl rfl rfl rfl rfl  ?_
          have tt := tx_in hx (s.2 + 1)
          have te : txM M ((s.1, s.2 + 1) : sP).2 = txM M (s.2 + 1) := rfl
          refine e_iadd dX7_number_64 rfl ?_
          refine e_bipush dX7_number_65 rfl rfl ?_
          refine e_isub dX7_number_67 rfl ?_
          refine f_istore_n dX7_number_68 rfl (Nat.le_of_ble_eq_true rfl) rfl ?_
          refine e_aload_n dX7_number_69 rfl rfl ?_
          refine e_dup dX7_number_70 rfl rfl ?_
          refine e_getfield fd_X7_202 dX7_number_71 rfl rfl rfl rfl ?_
          refine EV.eq (st' := [vi (s.2 + 1), .ref (a 0)]) rfl ?_
          refine e_iconst dX7_number_74 rfl ?_
          refine e_iadd dX7_number_75 rfl ?_
          refine e_putfield fd_X7_202 dX7_number_76 rfl rfl rfl (Nat.le_of_ble_eq_true rfl) rfl rfl ?_
          refine EV.ceq (cs' := wM a (mPS M ((s.1, s.2 + 1 + 1)) (K) (n))) rfl ?_
          refine f_iinc dX7_number_79 rfl rfl (Nat.le_of_ble_eq_true rfl) rfl ?_
          refine e_goto (n := 37) dX7_number_82 rfl ?_
          refine e_iload_n dX7_number_37 rfl rfl ?_
          refine e_iload_n dX7_number_38 rfl rfl ?_
          refine e_icmp_ge (t := 85) dX7_number_39 rfl rfl (by decide) (by decide) (fun _ => ?_) (fun h => absurd h (by decide))
          refine e_iload_n dX7_number_85 rfl rfl ?_
          exact e_iret dX7_number_86 rfl rfl (eRet_i (by unfold nmV; rw [if_neg (by omega), if_pos (by omega), (tN_y trivial (show tDg (txM M (s.2 + 1)) from h53)).1]; omega) (by unfold nmS; rw [if_neg (by omega), if_pos (by omega), (tN_y trivial (show tDg (txM M (s.2 + 1)) from h53)).2] <;> rfl))
    · refine e_aload_n dX7_number_23 rfl rfl ?_
      refine e_aload_n dX7_number_24 rfl rfl ?_
      refine e_getfield fd_X7_202 dX7_number_25 rfl rfl rfl rfl ?_
      refine EV.eq (st' := [vi s.2, .ref (a 0)]) rfl ?_
      refine e_putfield fd_X7_205 dX7_number_28 rfl rfl rfl (Nat.le_of_ble_eq_true rfl) rfl rfl ?_
      refine e_iconst dX7_number_31 rfl ?_
      exact e_iret dX7_number_32 rfl rfl (eRet_i (by unfold nmV; rw [if_neg (by omega), if_neg h20]) (by unfold nmS; rw [if_neg (by omega), if_neg h20] <;> rfl))
  · refine e_iconst dX7_number_7 rfl ?_
    exact e_iret dX7_number_8 rfl rfl (eRet_i (by unfold nmV; rw [if_pos (by omega)]) (by rw [nmS_e (by omega)]))
theorem C_X7_behind1 {X : eXT} {a : Nat → Nat} {M : eFs} {s : sP} {K : Int → Int} {n : Int} (hx : okX M) (hs : okS (M.1 6) s) {c : Int} (hc : 0 ≤ c ∧ c ≤ 126) :
    EM X mX7_behind (eRm 2) a [.ref (a 0), vi c, vi 1] (wM a (mPS M (s) (K) (n))) (eRet (some (vi (bhV (txM M) c False s))) a (wM a (mPS M (bhS (txM M) c False s) (K) (n)))) := by
  refine EM.of (by decide +kernel) rfl (Nat.le_of_ble_eq_true rfl) ?_
  refine e_aload_n dX7_behind_0 rfl rfl ?_
  refine e_iload_n dX7_behind_1 rfl rfl ?_
  refine e_cV2 [0, 1, 2, 3, 4, 5] lk_X7_211 rfl dX7_behind_2 rfl (C_X7_needs hx hs (c := c) (by omega)) rfl rfl (Nat.le_of_ble_eq_true rfl) (Nat.le_of_ble_eq_true rfl) (Nat.le_of_ble_eq_true rfl) ⟨rfl, rfl⟩ rfl rfl rfl rfl rfl rfl rfl rfl ?_
  refine e_aload_n dX7_behind_5 rfl rfl ?_
  refine e_iload_n dX7_behind_6 rfl rfl ?_
  refine e_cV2 [0, 1, 2, 3, 4, 5] lk_X7_215 rfl dX7_behind_7 rfl (C_X7_number1 hx (okS_nd hx hc.1 hs)) rfl rfl (Nat.le_of_ble_eq_true rfl) (Nat.le_of_ble_eq_true rfl) (Nat.le_of_ble_eq_true rfl) ⟨rfl, rfl⟩ rfl rfl rfl rfl rfl rfl rfl rfl ?_
  exact e_iret dX7_behind_10 rfl rfl (eRet_i rfl rfl)
theorem C_X7_behind2 {X : eXT} {a : Nat → Nat} {M : eFs} {s : sP} {K : Int → Int} {n : Int} (hx : okX M) (hs : okS (M.1 6) s) {c : Int} (hc : 0 ≤ c ∧ c ≤ 126) :
    EM X mX7_behind (eRm 2) a [.ref (a 0), vi c, vi 2] (wM a (mPS M (s) (K) (n))) (eRet (some (vi (bhV (txM M) c True s))) a (wM a (mPS M (bhS (txM M) c True s) (K) (n)))) := by
  refine EM.of (by decide +kernel) rfl (Nat.le_of_ble_eq_true rfl) ?_
  refine e_aload_n dX7_behind_0 rfl rfl ?_
  refine e_iload_n dX7_behind_1 rfl rfl ?_
  refine e_cV2 [0, 1, 2, 3, 4, 5] lk_X7_211 rfl dX7_behind_2 rfl (C_X7_needs hx hs (c := c) (by omega)) rfl rfl (Nat.le_of_ble_eq_true rfl) (Nat.le_of_ble_eq_true rfl) (Nat.le_of_ble_eq_true rfl) ⟨rfl, rfl⟩ rfl rfl rfl rfl rfl rfl rfl rfl ?_
  refine e_aload_n dX7_behind_5 rfl rfl ?_
  refine e_iload_n dX7_behind_6 rfl rfl ?_
  refine e_cV2 [0, 1, 2, 3, 4, 5] lk_X7_215 rfl dX7_behind_7 rfl (C_X7_number2 hx (okS_nd hx hc.1 hs)) rfl rfl (Nat.le_of_ble_eq_true rfl) (Nat.le_of_ble_eq_true rfl) (Nat.le_of_ble_eq_true rfl) ⟨rfl, rfl⟩ rfl rfl rfl rfl rfl rfl rfl rfl ?_
  exact e_iret dX7_behind_10 rfl rfl (eRet_i rfl rfl)
theorem C_X7_cell {X : eXT} {a : Nat → Nat} {M : eFs} {s : sP} {K : Int → Int} {n : Int} (hx : okX M) (hs : okS (M.1 6) s) {t : Int} (ht : 0 ≤ t ∧ t ≤ 240) :
    EM X mX7_cell (eRm 3) a [.ref (a 0), vi t] (wM a (mPS M (s) (K) (n))) (eRet none a (wM a (mPS M (clS (txM M) s) (eU (eU K t (clU (txM M) s)) (t + 1) (clV (txM M) s)) (n)))) := by
  refine EM.of (by decide +kernel) rfl (Nat.le_of_ble_eq_true rfl) ?_
  refine e_aload_n dX7_cell_0 rfl rfl ?_
  refine e_getfield fd_X7_27 dX7_cell_1 rfl rfl rfl rfl ?_
  refine e_iload_n dX7_cell_4 rfl rfl ?_
  refine e_aload_n dX7_cell_5 rfl rfl ?_
  refine e_bipush dX7_cell_6 rfl rfl ?_
  refine e_iconst dX7_cell_8 rfl ?_
  refine e_cV2 [0, 1, 2, 3, 4, 5] lk_X7_221 rfl dX7_cell_9 rfl (C_X7_behind2 (K := K) (n := n) hx hs (c := 32) (by omega)) rfl rfl (Nat.le_of_ble_eq_true rfl) (Nat.le_of_ble_eq_true rfl) (Nat.le_of_ble_eq_true rfl) ⟨rfl, rfl⟩ rfl rfl rfl rfl rfl rfl rfl rfl ?_
  refine EV.ceq (cs' := wM a (mPS M (bhS (txM M) 32 True s) (K) (n))) rfl ?_
  refine e_iastore dX7_cell_12 rfl rfl rfl (by omega) (by decide) ?_
  refine EV.ceq (cs' := wM a (mPS M (bhS (txM M) 32 True s) (eU K t (clU (txM M) s)) (n))) rfl ?_
  refine e_aload_n dX7_cell_13 rfl rfl ?_
  refine e_getfield fd_X7_27 dX7_cell_14 rfl rfl rfl rfl ?_
  refine e_iload_n dX7_cell_17 rfl rfl ?_
  refine e_iconst dX7_cell_18 rfl ?_
  refine e_iadd dX7_cell_19 rfl ?_
  refine e_aload_n dX7_cell_20 rfl rfl ?_
  refine e_bipush dX7_cell_21 rfl rfl ?_
  refine e_iconst dX7_cell_23 rfl ?_
  refine e_cV2 [0, 1, 2, 3, 4, 5] lk_X7_221 rfl dX7_cell_24 rfl (C_X7_behind2 (K := eU K t (clU (txM M) s)) (n := n) hx (okS_bh hx (by decide) hs) (c := 44) (by omega)) rfl rfl (Nat.le_of_ble_eq_true rfl) (Nat.le_of_ble_eq_true rfl) (Nat.le_of_ble_eq_true rfl) ⟨rfl, rfl⟩ rfl rfl rfl rfl rfl rfl rfl rfl ?_
  refine e_iastore dX7_cell_27 rfl rfl rfl (by omega) (by decide) ?_
  exact e_vret dX7_cell_28 rfl (eRet_v rfl)
theorem C_X7_word0 {X : eXT} {a : Nat → Nat} {M : eFs} {s : sP} {K : Int → Int} {n : Int} (hx : okX M) (hs : okS (M.1 6) s)  :
    EM X mX7_word (eRm 3) a [.ref (a 0), vi 97] (wM a (mPS M (s) (K) (n))) (eRet (some (vi 97)) a (wM a (mPS M (kW (txM M) 0 s) (K) (n)))) := by
  refine EM.of (by decide +kernel) rfl (Nat.le_of_ble_eq_true rfl) ?_
  refine e_iload_n dX7_word_0 rfl rfl ?_
  refine e_tabIn (t := 96) dX7_word_1 (by decide) (by decide) (by decide) rfl rfl ?_
  refine e_aload_n dX7_word_96 rfl rfl ?_
  refine e_bipush dX7_word_97 rfl rfl ?_
  refine e_cV2 [0, 1, 2, 3, 4, 5] lk_X7_211 rfl dX7_word_99 rfl (C_X7_needs hx hs (c := 100) (by decide)) rfl rfl (Nat.le_of_ble_eq_true rfl) (Nat.le_of_ble_eq_true rfl) (Nat.le_of_ble_eq_true rfl) ⟨rfl, rfl⟩ rfl rfl rfl rfl rfl rfl rfl rfl ?_
  refine EV.ceq (cs' := wM a (mPS M (nd (txM M) 100 (s)) (K) (n))) rfl ?_
  refine e_aload_n dX7_word_102 rfl rfl ?_
  refine e_bipush dX7_word_103 rfl rfl ?_
  refine e_cV2 [0, 1, 2, 3, 4, 5] lk_X7_211 rfl dX7_word_105 rfl (C_X7_needs hx (okS_nd hx (c := 100) (by decide) hs) (c := 100) (by decide)) rfl rfl (Nat.le_of_ble_eq_true rfl) (Nat.le_of_ble_eq_true rfl) (Nat.le_of_ble_eq_true rfl) ⟨rfl, rfl⟩ rfl rfl rfl rfl rfl rfl rfl rfl ?_
  refine EV.ceq (cs' := wM a (mPS M (nd (txM M) 100 (nd (txM M) 100 (s))) (K) (n))) rfl ?_
  refine e_bipush dX7_word_108 rfl rfl ?_
  exact e_iret dX7_word_110 rfl rfl (eRet_i rfl rfl)
theorem C_X7_word1 {X : eXT} {a : Nat → Nat} {M : eFs} {s : sP} {K : Int → Int} {n : Int} (hx : okX M) (hs : okS (M.1 6) s)  :
    EM X mX7_word (eRm 3) a [.ref (a 0), vi 106] (wM a (mPS M (s) (K) (n))) (eRet (some (vi 106)) a (wM a (mPS M (kW (txM M) 1 s) (K) (n)))) := by
  refine EM.of (by decide +kernel) rfl (Nat.le_of_ble_eq_true rfl) ?_
  refine e_iload_n dX7_word_0 rfl rfl ?_
  refine e_tabIn (t := 111) dX7_word_1 (by decide) (by decide) (by decide) rfl rfl ?_
  refine e_aload_n dX7_word_111 rfl rfl ?_
  refine e_bipush dX7_word_112 rfl rfl ?_
  refine e_bipush dX7_word_114 rfl rfl ?_
  refine e_bipush dX7_word_116 rfl rfl ?_
  refine e_cV2 [0, 1, 2, 3, 4, 5] lk_X7_218 rfl dX7_word_118 rfl (C_X7_letters (c1 := 117) (c2 := 109) (c3 := 112) hx hs (by decide) (by decide) (by decide)) rfl rfl (Nat.le_of_ble_eq_true rfl) (Nat.le_of_ble_eq_true rfl) (Nat.le_of_ble_eq_true rfl) ⟨rfl, rfl⟩ rfl rfl rfl rfl rfl rfl rfl rfl ?_
  refine EV.ceq (cs' := wM a (mPS M (w3 (txM M) 117 109 112 (s)) (K) (n))) rfl ?_
  refine e_bipush dX7_word_121 rfl rfl ?_
  exact e_iret dX7_word_123 rfl rfl (eRet_i rfl rfl)
theorem C_X7_word2 {X : eXT} {a : Nat → Nat} {M : eFs} {s : sP} {K : Int → Int} {n : Int} (hx : okX M) (hs : okS (M.1 6) s)  :
    EM X mX7_word (eRm 3) a [.ref (a 0), vi 104] (wM a (mPS M (s) (K) (n))) (eRet (some (vi 104)) a (wM a (mPS M (kW (txM M) 2 s) (K) (n)))) := by
  refine EM.of (by decide +kernel) rfl (Nat.le_of_ble_eq_true rfl) ?_
  refine e_iload_n dX7_word_0 rfl rfl ?_
  refine e_tabIn (t := 124) dX7_word_1 (by decide) (by decide) (by decide) rfl rfl ?_
  refine e_aload_n dX7_word_124 rfl rfl ?_
  refine e_bipush dX7_word_125 rfl rfl ?_
  refine e_bipush dX7_word_127 rfl rfl ?_
  refine e_bipush dX7_word_129 rfl rfl ?_
  refine e_cV2 [0, 1, 2, 3, 4, 5] lk_X7_218 rfl dX7_word_131 rfl (C_X7_letters (c1 := 97) (c2 := 110) (c3 := 100) hx hs (by decide) (by decide) (by decide)) rfl rfl (Nat.le_of_ble_eq_true rfl) (Nat.le_of_ble_eq_true rfl) (Nat.le_of_ble_eq_true rfl) ⟨rfl, rfl⟩ rfl rfl rfl rfl rfl rfl rfl rfl ?_
  refine EV.ceq (cs' := wM a (mPS M (w3 (txM M) 97 110 100 (s)) (K) (n))) rfl ?_
  refine e_aload_n dX7_word_134 rfl rfl ?_
  refine e_bipush dX7_word_135 rfl rfl ?_
  refine e_cV2 [0, 1, 2, 3, 4, 5] lk_X7_211 rfl dX7_word_137 rfl (C_X7_needs hx (okS_w3 hx (a := 97) (b := 110) (c := 100) (by decide) (by decide) (by decide) hs) (c := 108) (by decide)) rfl rfl (Nat.le_of_ble_eq_true rfl) (Nat.le_of_ble_eq_true rfl) (Nat.le_of_ble_eq_true rfl) ⟨rfl, rfl⟩ rfl rfl rfl rfl rfl rfl rfl rfl ?_
  refine EV.ceq (cs' := wM a (mPS M (nd (txM M) 108 (w3 (txM M) 97 110 100 (s))) (K) (n))) rfl ?_
  refine e_aload_n dX7_word_140 rfl rfl ?_
  refine e_bipush dX7_word_141 rfl rfl ?_
  refine e_cV2 [0, 1, 2, 3, 4, 5] lk_X7_211 rfl dX7_word_143 rfl (C_X7_needs hx (okS_nd hx (c := 108) (by decide) (okS_w3 hx (a := 97) (b := 110) (c := 100) (by decide) (by decide) (by decide) hs)) (c := 101) (by decide)) rfl rfl (Nat.le_of_ble_eq_true rfl) (Nat.le_of_ble_eq_true rfl) (Nat.le_of_ble_eq_true rfl) ⟨rfl, rfl⟩ rfl rfl rfl rfl rfl rfl rfl rfl ?_
  refine EV.ceq (cs' := wM a (mPS M (nd (txM M) 101 (nd (txM M) 108 (w3 (txM M) 97 110 100 (s)))) (K) (n))) rfl ?_
  refine e_bipush dX7_word_146 rfl rfl ?_
  exact e_iret dX7_word_148 rfl rfl (eRet_i rfl rfl)
theorem C_X7_word3 {X : eXT} {a : Nat → Nat} {M : eFs} {s : sP} {K : Int → Int} {n : Int} (hx : okX M) (hs : okS (M.1 6) s) (hk : ¬ ((nd (txM M) 108 (s)).1 < 0 ∧ txM M (nd (txM M) 108 (s)).2 = 101)) :
    EM X mX7_word (eRm 3) a [.ref (a 0), vi 99] (wM a (mPS M (s) (K) (n))) (eRet (some (vi 99)) a (wM a (mPS M (kW (txM M) 3 s) (K) (n)))) := by
  refine EM.of (by decide +kernel) rfl (Nat.le_of_ble_eq_true rfl) ?_
  refine e_iload_n dX7_word_0 rfl rfl ?_
  refine e_tabIn (t := 201) dX7_word_1 (by decide) (by decide) (by decide) rfl rfl ?_
  refine e_aload_n dX7_word_201 rfl rfl ?_
  refine e_bipush dX7_word_202 rfl rfl ?_
  refine e_cV2 [0, 1, 2, 3, 4, 5] lk_X7_211 rfl dX7_word_204 rfl (C_X7_needs hx hs (c := 108) (by decide)) rfl rfl (Nat.le_of_ble_eq_true rfl) (Nat.le_of_ble_eq_true rfl) (Nat.le_of_ble_eq_true rfl) ⟨rfl, rfl⟩ rfl rfl rfl rfl rfl rfl rfl rfl ?_
  refine EV.ceq (cs' := wM a (mPS M (nd (txM M) 108 (s)) (K) (n))) rfl ?_
  refine e_aload_n dX7_word_207 rfl rfl ?_
  refine e_getfield fd_X7_205 dX7_word_208 rfl rfl rfl rfl ?_
  have s1 := okS_nd hx (c := 108) (by decide) hs
  refine EV.eq (st' := [vi (nd (txM M) 108 (s)).1]) rfl ?_
  refine e_if_ge (t := 236) dX7_word_211 rfl rfl (by omega) (fun h211 => ?_) (fun h211 => ?_)
  · refine e_aload_n dX7_word_236 rfl rfl ?_
    refine e_bipush dX7_word_237 rfl rfl ?_
    refine e_bipush dX7_word_239 rfl rfl ?_
    refine e_bipush dX7_word_241 rfl rfl ?_
    refine e_cV2 [0, 1, 2, 3, 4, 5] lk_X7_218 rfl dX7_word_243 rfl (C_X7_letters (c1 := 111) (c2 := 117) (c3 := 100) hx (okS_nd hx (c := 108) (by decide) hs) (by decide) (by decide) (by decide)) rfl rfl (Nat.le_of_ble_eq_true rfl) (Nat.le_of_ble_eq_true rfl) (Nat.le_of_ble_eq_true rfl) ⟨rfl, rfl⟩ rfl rfl rfl rfl rfl rfl rfl rfl ?_
    refine EV.ceq (cs' := wM a (mPS M (w3 (txM M) 111 117 100 (nd (txM M) 108 (s))) (K) (n))) rfl ?_
    refine e_bipush dX7_word_246 rfl rfl ?_
    exact e_iret dX7_word_248 rfl rfl (eRet_i rfl rfl)
  · refine e_aload_n dX7_word_214 rfl rfl ?_
    refine e_cV0 [0, 1, 2, 3, 4, 5] lk_X7_208 rfl dX7_word_215 rfl (C_X7_sign (s := nd (txM M) 108 (s)) hx (okS_nd hx (c := 108) (by decide) hs)) rfl rfl (Nat.le_of_ble_eq_true rfl) (Nat.le_of_ble_eq_true rfl) (Nat.le_of_ble_eq_true rfl) ⟨rfl, rfl⟩ rfl rfl rfl rfl rfl rfl  ?_
    have ts := tx_in hx (nd (txM M) 108 (s)).2
    refine e_bipush dX7_word_218 rfl rfl ?_
    refine e_icmp_ne (t := 236) dX7_word_220 rfl rfl (by omega) (by omega) (fun h220 => ?_) (fun h220 => ?_)
    · refine e_aload_n dX7_word_236 rfl rfl ?_
      refine e_bipush dX7_word_237 rfl rfl ?_
      refine e_bipush dX7_word_239 rfl rfl ?_
      refine e_bipush dX7_word_241 rfl rfl ?_
      refine e_cV2 [0, 1, 2, 3, 4, 5] lk_X7_218 rfl dX7_word_243 rfl (C_X7_letters (c1 := 111) (c2 := 117) (c3 := 100) hx (okS_nd hx (c := 108) (by decide) hs) (by decide) (by decide) (by decide)) rfl rfl (Nat.le_of_ble_eq_true rfl) (Nat.le_of_ble_eq_true rfl) (Nat.le_of_ble_eq_true rfl) ⟨rfl, rfl⟩ rfl rfl rfl rfl rfl rfl rfl rfl ?_
      refine EV.ceq (cs' := wM a (mPS M (w3 (txM M) 111 117 100 (nd (txM M) 108 (s))) (K) (n))) rfl ?_
      refine e_bipush dX7_word_246 rfl rfl ?_
      exact e_iret dX7_word_248 rfl rfl (eRet_i rfl rfl)
    · exfalso; omega
theorem C_X7_word4 {X : eXT} {a : Nat → Nat} {M : eFs} {s : sP} {K : Int → Int} {n : Int} (hx : okX M) (hs : okS (M.1 6) s) (hk : ((nd (txM M) 108 (s)).1 < 0 ∧ txM M (nd (txM M) 108 (s)).2 = 101)) :
    EM X mX7_word (eRm 3) a [.ref (a 0), vi 99] (wM a (mPS M (s) (K) (n))) (eRet (some (vi 101)) a (wM a (mPS M (kW (txM M) 4 s) (K) (n)))) := by
  refine EM.of (by decide +kernel) rfl (Nat.le_of_ble_eq_true rfl) ?_
  refine e_iload_n dX7_word_0 rfl rfl ?_
  refine e_tabIn (t := 201) dX7_word_1 (by decide) (by decide) (by decide) rfl rfl ?_
  refine e_aload_n dX7_word_201 rfl rfl ?_
  refine e_bipush dX7_word_202 rfl rfl ?_
  refine e_cV2 [0, 1, 2, 3, 4, 5] lk_X7_211 rfl dX7_word_204 rfl (C_X7_needs hx hs (c := 108) (by decide)) rfl rfl (Nat.le_of_ble_eq_true rfl) (Nat.le_of_ble_eq_true rfl) (Nat.le_of_ble_eq_true rfl) ⟨rfl, rfl⟩ rfl rfl rfl rfl rfl rfl rfl rfl ?_
  refine EV.ceq (cs' := wM a (mPS M (nd (txM M) 108 (s)) (K) (n))) rfl ?_
  refine e_aload_n dX7_word_207 rfl rfl ?_
  refine e_getfield fd_X7_205 dX7_word_208 rfl rfl rfl rfl ?_
  have s1 := okS_nd hx (c := 108) (by decide) hs
  refine EV.eq (st' := [vi (nd (txM M) 108 (s)).1]) rfl ?_
  refine e_if_ge (t := 236) dX7_word_211 rfl rfl (by omega) (fun h211 => ?_) (fun h211 => ?_)
  · exfalso; omega
  · refine e_aload_n dX7_word_214 rfl rfl ?_
    refine e_cV0 [0, 1, 2, 3, 4, 5] lk_X7_208 rfl dX7_word_215 rfl (C_X7_sign (s := nd (txM M) 108 (s)) hx (okS_nd hx (c := 108) (by decide) hs)) rfl rfl (Nat.le_of_ble_eq_true rfl) (Nat.le_of_ble_eq_true rfl) (Nat.le_of_ble_eq_true rfl) ⟨rfl, rfl⟩ rfl rfl rfl rfl rfl rfl  ?_
    have ts := tx_in hx (nd (txM M) 108 (s)).2
    refine e_bipush dX7_word_218 rfl rfl ?_
    refine e_icmp_ne (t := 236) dX7_word_220 rfl rfl (by omega) (by omega) (fun h220 => ?_) (fun h220 => ?_)
    · exfalso; omega
    · refine e_aload_n dX7_word_223 rfl rfl ?_
      refine e_bipush dX7_word_224 rfl rfl ?_
      refine e_bipush dX7_word_226 rfl rfl ?_
      refine e_bipush dX7_word_228 rfl rfl ?_
      refine e_cV2 [0, 1, 2, 3, 4, 5] lk_X7_218 rfl dX7_word_230 rfl (C_X7_letters (c1 := 101) (c2 := 97) (c3 := 114) hx (okS_nd hx (c := 108) (by decide) hs) (by decide) (by decide) (by decide)) rfl rfl (Nat.le_of_ble_eq_true rfl) (Nat.le_of_ble_eq_true rfl) (Nat.le_of_ble_eq_true rfl) ⟨rfl, rfl⟩ rfl rfl rfl rfl rfl rfl rfl rfl ?_
      refine EV.ceq (cs' := wM a (mPS M (w3 (txM M) 101 97 114 (nd (txM M) 108 (s))) (K) (n))) rfl ?_
      refine e_bipush dX7_word_233 rfl rfl ?_
      exact e_iret dX7_word_235 rfl rfl (eRet_i rfl rfl)
theorem C_X7_word5 {X : eXT} {a : Nat → Nat} {M : eFs} {s : sP} {K : Int → Int} {n : Int} (hx : okX M) (hs : okS (M.1 6) s)  :
    EM X mX7_word (eRm 3) a [.ref (a 0), vi 116] (wM a (mPS M (s) (K) (n))) (eRet (some (vi 116)) a (wM a (mPS M (kW (txM M) 5 s) (K) (n)))) := by
  refine EM.of (by decide +kernel) rfl (Nat.le_of_ble_eq_true rfl) ?_
  refine e_iload_n dX7_word_0 rfl rfl ?_
  refine e_tabIn (t := 149) dX7_word_1 (by decide) (by decide) (by decide) rfl rfl ?_
  refine e_aload_n dX7_word_149 rfl rfl ?_
  refine e_bipush dX7_word_150 rfl rfl ?_
  refine e_bipush dX7_word_152 rfl rfl ?_
  refine e_bipush dX7_word_154 rfl rfl ?_
  refine e_cV2 [0, 1, 2, 3, 4, 5] lk_X7_218 rfl dX7_word_156 rfl (C_X7_letters (c1 := 117) (c2 := 114) (c3 := 110) hx hs (by decide) (by decide) (by decide)) rfl rfl (Nat.le_of_ble_eq_true rfl) (Nat.le_of_ble_eq_true rfl) (Nat.le_of_ble_eq_true rfl) ⟨rfl, rfl⟩ rfl rfl rfl rfl rfl rfl rfl rfl ?_
  refine EV.ceq (cs' := wM a (mPS M (w3 (txM M) 117 114 110 (s)) (K) (n))) rfl ?_
  refine e_bipush dX7_word_159 rfl rfl ?_
  exact e_iret dX7_word_161 rfl rfl (eRet_i rfl rfl)
theorem C_X7_word6 {X : eXT} {a : Nat → Nat} {M : eFs} {s : sP} {K : Int → Int} {n : Int} (hx : okX M) (hs : okS (M.1 6) s)  :
    EM X mX7_word (eRm 3) a [.ref (a 0), vi 103] (wM a (mPS M (s) (K) (n))) (eRet (some (vi 103)) a (wM a (mPS M (kW (txM M) 6 s) (K) (n)))) := by
  refine EM.of (by decide +kernel) rfl (Nat.le_of_ble_eq_true rfl) ?_
  refine e_iload_n dX7_word_0 rfl rfl ?_
  refine e_tabIn (t := 162) dX7_word_1 (by decide) (by decide) (by decide) rfl rfl ?_
  refine e_aload_n dX7_word_162 rfl rfl ?_
  refine e_bipush dX7_word_163 rfl rfl ?_
  refine e_bipush dX7_word_165 rfl rfl ?_
  refine e_bipush dX7_word_167 rfl rfl ?_
  refine e_cV2 [0, 1, 2, 3, 4, 5] lk_X7_218 rfl dX7_word_169 rfl (C_X7_letters (c1 := 111) (c2 := 97) (c3 := 108) hx hs (by decide) (by decide) (by decide)) rfl rfl (Nat.le_of_ble_eq_true rfl) (Nat.le_of_ble_eq_true rfl) (Nat.le_of_ble_eq_true rfl) ⟨rfl, rfl⟩ rfl rfl rfl rfl rfl rfl rfl rfl ?_
  refine EV.ceq (cs' := wM a (mPS M (w3 (txM M) 111 97 108 (s)) (K) (n))) rfl ?_
  refine e_bipush dX7_word_172 rfl rfl ?_
  exact e_iret dX7_word_174 rfl rfl (eRet_i rfl rfl)
theorem C_X7_word7 {X : eXT} {a : Nat → Nat} {M : eFs} {s : sP} {K : Int → Int} {n : Int} (hx : okX M) (hs : okS (M.1 6) s)  :
    EM X mX7_word (eRm 3) a [.ref (a 0), vi 107] (wM a (mPS M (s) (K) (n))) (eRet (some (vi 107)) a (wM a (mPS M (kW (txM M) 7 s) (K) (n)))) := by
  refine EM.of (by decide +kernel) rfl (Nat.le_of_ble_eq_true rfl) ?_
  refine e_iload_n dX7_word_0 rfl rfl ?_
  refine e_tabIn (t := 175) dX7_word_1 (by decide) (by decide) (by decide) rfl rfl ?_
  refine e_aload_n dX7_word_175 rfl rfl ?_
  refine e_bipush dX7_word_176 rfl rfl ?_
  refine e_bipush dX7_word_178 rfl rfl ?_
  refine e_bipush dX7_word_180 rfl rfl ?_
  refine e_cV2 [0, 1, 2, 3, 4, 5] lk_X7_218 rfl dX7_word_182 rfl (C_X7_letters (c1 := 101) (c2 := 101) (c3 := 112) hx hs (by decide) (by decide) (by decide)) rfl rfl (Nat.le_of_ble_eq_true rfl) (Nat.le_of_ble_eq_true rfl) (Nat.le_of_ble_eq_true rfl) ⟨rfl, rfl⟩ rfl rfl rfl rfl rfl rfl rfl rfl ?_
  refine EV.ceq (cs' := wM a (mPS M (w3 (txM M) 101 101 112 (s)) (K) (n))) rfl ?_
  refine e_bipush dX7_word_185 rfl rfl ?_
  exact e_iret dX7_word_187 rfl rfl (eRet_i rfl rfl)
theorem C_X7_word8 {X : eXT} {a : Nat → Nat} {M : eFs} {s : sP} {K : Int → Int} {n : Int} (hx : okX M) (hs : okS (M.1 6) s)  :
    EM X mX7_word (eRm 3) a [.ref (a 0), vi 115] (wM a (mPS M (s) (K) (n))) (eRet (some (vi 115)) a (wM a (mPS M (kW (txM M) 8 s) (K) (n)))) := by
  refine EM.of (by decide +kernel) rfl (Nat.le_of_ble_eq_true rfl) ?_
  refine e_iload_n dX7_word_0 rfl rfl ?_
  refine e_tabIn (t := 188) dX7_word_1 (by decide) (by decide) (by decide) rfl rfl ?_
  refine e_aload_n dX7_word_188 rfl rfl ?_
  refine e_bipush dX7_word_189 rfl rfl ?_
  refine e_bipush dX7_word_191 rfl rfl ?_
  refine e_bipush dX7_word_193 rfl rfl ?_
  refine e_cV2 [0, 1, 2, 3, 4, 5] lk_X7_218 rfl dX7_word_195 rfl (C_X7_letters (c1 := 116) (c2 := 101) (c3 := 112) hx hs (by decide) (by decide) (by decide)) rfl rfl (Nat.le_of_ble_eq_true rfl) (Nat.le_of_ble_eq_true rfl) (Nat.le_of_ble_eq_true rfl) ⟨rfl, rfl⟩ rfl rfl rfl rfl rfl rfl rfl rfl ?_
  refine EV.ceq (cs' := wM a (mPS M (w3 (txM M) 116 101 112 (s)) (K) (n))) rfl ?_
  refine e_bipush dX7_word_198 rfl rfl ?_
  exact e_iret dX7_word_200 rfl rfl (eRet_i rfl rfl)
