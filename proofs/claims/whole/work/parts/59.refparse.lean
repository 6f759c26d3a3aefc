/-! ===== the reference: a text is parsed ===== -/
/-- command i of the reference's row is the class's -/
def rlC (K Kc : Int → Int) (Mc : Int → Int → Int) (i : Int) : Prop := (0 ≤ Kc i ∧ Kc i ≤ 8) ∧ K (4 * i) = lt0 (Kc i).toNat ∧ K (4 * i + 1) = Mc i 0 ∧ (Kc i ≠ 5 → Kc i ≠ 7 → Kc i ≠ 8 → K (4 * i + 2) = Mc i 1) ∧ (Kc i = 0 ∨ Kc i = 1 → K (4 * i + 3) = Mc i 2)
theorem rlC_eq {K K1 Kc Kd : Int → Int} {Mc Md : Int → Int → Int} {i : Int} (h : rlC K Kc Mc i) (h0 : K1 (4 * i) = K (4 * i)) (h1 : K1 (4 * i + 1) = K (4 * i + 1)) (h2 : K1 (4 * i + 2) = K (4 * i + 2)) (h3 : K1 (4 * i + 3) = K (4 * i + 3)) (hk : Kd i = Kc i) (hm : Md i = Mc i) : rlC K1 Kd Md i := by
  unfold rlC
  rw [h0, h1, h2, h3, hk, hm]
  exact h
theorem tPk_lo {tx : Int → Int} {p : Int} : ∀ (n : Nat) (k far : Int) (r : Int → Int), 0 ≤ k → k + n ≤ 9 → p ≤ far → p ≤ (tPk tx p n k far r).2.1 := by
  intro n
  induction n with
  | zero => intro k far r h0 h1 h2; exact h2
  | succ n ih =>
    intro k far r h0 h1 h2
    have l := (tMa_lo (tx := tx) (p := p) (r := r) (show k.toNat < 9 by omega)).1
    unfold tPk
    split
    · exact l
    · exact ih (k + 1) _ _ (by omega) (by omega) (by split <;> omega)
theorem tPa_lo {tx : Int → Int} {p : Int} {r : Int → Int} : p ≤ (tPa tx p r).2.1 := tPk_lo _ _ _ _ (by omega) (by decide) (Int.le_refl _)
/-- a command read: it fails alike, or it is the class's -/
theorem cm_or {tx : Int → Int} {p : Int} {r : Int → Int} (hp : 0 ≤ p) : (¬ 0 ≤ (tPa tx p r).1 ∧ (cmS tx p).1 = (tPa tx p r).2.1 ∧ 0 ≤ (tPa tx p r).2.1) ∨ (0 ≤ (tPa tx p r).1 ∧ cmS tx p = (-1, (tPa tx p r).2.1) ∧ kF tx p < 9 ∧ (tPa tx p r).1 = ((kF tx p : Nat) : Int) ∧ kN tx (kF tx p) (kW tx (kF tx p) (-1, p + 1)) (tPa tx p r).2.2 ∧ p + 6 ≤ (tPa tx p r).2.1) := by
  obtain ⟨a1, a2⟩ := kTT (r := r) hp
  have l := tPa_lo (tx := tx) (p := p) (r := r)
  have kk := kF_in (tx := tx) (p := p)
  by_cases h9 : kF tx p = 9
  · left
    have e := a1 h9
    unfold cmS
    rw [if_pos h9, e]
    exact ⟨(show ¬ (0 : Int) ≤ -1 by decide), rfl, hp⟩
  · have h8 : kF tx p < 9 := by omega
    obtain ⟨b1, b2⟩ := a2 h8
    have e : cmS tx p = kS tx (kF tx p) (kW tx (kF tx p) (-1, p + 1)) := if_neg h9
    by_cases h0 : 0 ≤ (tPa tx p r).1
    · right
      obtain ⟨c1, c2, c3, c4⟩ := b1 h0
      exact ⟨h0, e.trans c2, h8, c1, c3, c4⟩
    · left
      exact ⟨h0, by rw [e]; exact b2 h0, by omega⟩
theorem rl_up {tx : Int → Int} {p cc : Int} {K Kc : Int → Int} {Mc : Int → Int → Int} (hc : 0 ≤ cc) (h : ∀ i, 0 ≤ i → i < cc → rlC K Kc Mc i) (hm : cmC tx p K cc) (h8 : kF tx p < 9) (hk : (tPa tx p (Mc cc)).1 = ((kF tx p : Nat) : Int)) (hn : kN tx (kF tx p) (kW tx (kF tx p) (-1, p + 1)) (tPa tx p (Mc cc)).2.2) : ∀ i, 0 ≤ i → i < cc + 1 → rlC K (eU Kc cc (tPa tx p (Mc cc)).1) (tU Mc cc (tPa tx p (Mc cc)).2.2) i := by
  intro i i0 i1
  by_cases e : i = cc
  · subst e
    obtain ⟨m0, m1, m2, m3⟩ := hm h8
    obtain ⟨n1, n2, n3⟩ := hn
    unfold rlC
    rw [eU_self, tU_self, hk, show (((kF tx p : Nat) : Int)).toNat = kF tx p by omega]
    exact ⟨by omega, m0, m1.trans n1, fun q1 q2 q3 => (m2 (by omega) (by omega) (by omega)).trans (n2 (by omega) (by omega) (by omega)), fun q => (m3 (by omega)).trans (n3 (by omega))⟩
  · exact rlC_eq (h i i0 (by omega)) rfl rfl rfl rfl (eU_ne e) (tU_ne e)
theorem rl_kp {cc : Int} {K K1 Kc : Int → Int} {Mc : Int → Int → Int} (h : ∀ i, 0 ≤ i → i < cc → rlC K Kc Mc i) (hk : ∀ j, ¬ (4 * cc ≤ j ∧ j < 4 * cc + 4) → K1 j = K j) : ∀ i, 0 ≤ i → i < cc → rlC K1 Kc Mc i := fun i i0 i1 => rlC_eq (h i i0 i1) (hk _ (by omega)) (hk _ (by omega)) (hk _ (by omega)) (hk _ (by omega)) rfl rfl
def mPR (M : eFs) (Kc : Int → Int) (Mc : Int → Int → Int) : Int × Int × Int × (Int → Int) × (Int → Int → Int) := tPs (M.1 6) (txM M) ((10 : Int) - 0).toNat 0 0 Kc Mc
theorem mPR_t {M T : eFs} {Mt : Int → Int → Int} (h0 : T.1 0 = M.1 6) (h2 : T.2 0 = M.2 2) : tPR T Mt = mPR M (T.2 1) Mt := by
  unfold tPR mPR
  rw [h0, h2]
/-- the text is parsed as the class parses it -/
def mPa (M : eFs) (Kc : Int → Int) (Mc : Int → Int → Int) (s : sP) (K1 : Int → Int) (n1 : Int) : Prop := okS (M.1 6) s ∧ s.1 = (mPR M Kc Mc).1 ∧ ((mPR M Kc Mc).1 = -1 → n1 = (mPR M Kc Mc).2.1 ∧ (0 ≤ n1 ∧ n1 ≤ 9) ∧ ∀ i, 0 ≤ i → i < n1 → rlC K1 (mPR M Kc Mc).2.2.2.1 (mPR M Kc Mc).2.2.2.2 i)
theorem mPa_x {M : eFs} {Kc Kd K1 : Int → Int} {Mc Md : Int → Int → Int} {s : sP} {p cc n1 : Int} (hs : okS (M.1 6) s) (q : mPR M Kc Mc = tPs (M.1 6) (txM M) (10 - cc).toNat cc p Kd Md) (hc : cc < 10) (h1 : ¬ 0 ≤ (tPa (txM M) p (Md cc)).1) (h2 : s.1 = (tPa (txM M) p (Md cc)).2.1) (h3 : 0 ≤ (tPa (txM M) p (Md cc)).2.1) : mPa M Kc Mc s K1 n1 := by
  unfold mPa
  rw [q, tPs_x hc h1]
  exact ⟨hs, h2, fun z => absurd z (by show ¬ (tPa (txM M) p (Md cc)).2.1 = -1; omega)⟩
theorem mPa_e {M : eFs} {Kc Kd K1 : Int → Int} {Mc Md : Int → Int → Int} {s : sP} {p cc : Int} (hs : okS (M.1 6) s) (q : mPR M Kc Mc = tPs (M.1 6) (txM M) (10 - cc).toNat cc p Kd Md) (hc : 0 ≤ cc ∧ cc < 9) (h1 : 0 ≤ (tPa (txM M) p (Md cc)).1) (h2 : ¬ txM M (tPa (txM M) p (Md cc)).2.1 = 59) (h3 : s.1 = if M.1 6 ≤ (tPa (txM M) p (Md cc)).2.1 then -1 else (tPa (txM M) p (Md cc)).2.1) (hr : ∀ i, 0 ≤ i → i < cc + 1 → rlC K1 (eU Kd cc (tPa (txM M) p (Md cc)).1) (tU Md cc (tPa (txM M) p (Md cc)).2.2) i) : mPa M Kc Mc s K1 (cc + 1) := by
  unfold mPa
  rw [q, tPs_e (by omega) h1 h2]
  exact ⟨hs, h3, fun _ => ⟨rfl, by omega, hr⟩⟩
theorem mCh_arg {a : Nat → Nat} {M F : eFs} {k p q r p' q' r' : Int} {cs1 : List eE} (h1 : sHin F k p q r = sHin F k p' q' r') (h6 : ¬ sHin F k p q r = 6) (h2 : sDo F k p q r = sDo F k p' q' r') (h3 : sDoR F k p q r = sDoR F k p' q' r') (h : mCh a M F k p q r cs1) : mCh a M F k p' q' r' cs1 := by
  obtain ⟨M', e, kp, hw, hr⟩ := h
  refine ⟨M', e, kp, fun z hz => ?_, fun y => ?_⟩
  · have w := hw z hz
    unfold zHi at w ⊢
    rw [if_neg h6] at w
    rw [← h1, if_neg h6]
    exact w
  · rw [← h2, ← h3]
    exact hr (h1.trans y)
theorem mCh_mg {a : Nat → Nat} {M F : eFs} {k p q r : Int} {cs1 : List eE} (h : mCh (fun k => a (eR [0, 1, 2, 3, 4, 5] k)) M F k p q r cs1) : mCh a M F k p q r (eMrg (wM a M) [0, 1, 2, 3, 4, 5] cs1) := by
  obtain ⟨M', e, w⟩ := h
  subst e
  exact ⟨M', rfl, w⟩

theorem C_X7_parse {X : eXT} {a : Nat → Nat} {M : eFs} (hx : okX M) (Kc : Int → Int) (Mc : Int → Int → Int) :
    EM X mX7_parse (eRm 6) a [.ref (a 0)] (wM a M) (eRets none a (fun cs1 => ∃ (s : sP) (K1 : Int → Int) (n1 : Int), cs1 = wM a (mPS M s K1 n1) ∧ mPa M Kc Mc s K1 n1)) := by
  refine EM.of (by decide +kernel) rfl (Nat.le_of_ble_eq_true rfl) ?_
  refine e_aload_n dX7_parse_0 rfl rfl ?_
  refine e_iconst dX7_parse_1 rfl ?_
  refine e_putfield fd_X7_202 dX7_parse_2 rfl rfl rfl (Nat.le_of_ble_eq_true rfl) rfl rfl ?_
  refine e_aload_n dX7_parse_5 rfl rfl ?_
  refine e_iconst dX7_parse_6 rfl ?_
  refine e_putfield fd_X7_205 dX7_parse_7 rfl rfl rfl (Nat.le_of_ble_eq_true rfl) rfl rfl ?_
  refine e_aload_n dX7_parse_10 rfl rfl ?_
  refine e_iconst dX7_parse_11 rfl ?_
  refine e_putfield fd_X7_224 dX7_parse_12 rfl rfl rfl (Nat.le_of_ble_eq_true rfl) rfl rfl ?_
  refine EV.ceq (cs' := wM a (mPS M (-1, 0) (M.2 3) 0)) rfl ?_
  refine e_aload_n dX7_parse_15 rfl rfl ?_
  refine e_cV1 [0, 1, 2, 3, 4, 5] lk_X7_233 rfl dX7_parse_16 rfl (C_X7_command (p := 0) (K := M.2 3) (n := 0) hx (by omega) (by omega)) rfl rfl (Nat.le_of_ble_eq_true rfl) (Nat.le_of_ble_eq_true rfl) (Nat.le_of_ble_eq_true rfl) ⟨rfl, rfl⟩ rfl rfl rfl rfl rfl rfl (fun cs1 hcs => by obtain ⟨K1, hcs, -⟩ := hcs; rw [hcs]; rfl) ?_
  intro cs1 hcs
  obtain ⟨K1, hcs, hc1⟩ := hcs
  subst hcs
  have hL19 : ∀ (k19 : Nat) (cc p : Int) (K Kd : Int → Int) (Md : Int → Int → Int) (hk19 : (60 - p).toNat = k19) (g19 : 0 ≤ cc ∧ 7 * cc ≤ p ∧ p ≤ M.1 6) (q19 : mPR M Kc Mc = tPs (M.1 6) (txM M) (10 - cc).toNat cc p Kd Md) (r19 : ∀ i, 0 ≤ i → i < cc → rlC K Kd Md i) (c19 : cmC (txM M) p K cc), EV (mX7_parse, (eRm 6), eRets none a (fun cs1 => ∃ (s : sP) (K1 : Int → Int) (n1 : Int), cs1 = wM a (mPS M s K1 n1) ∧ mPa M Kc Mc s K1 n1), X) a (0, 0) (wM a (mPS M (cmS (txM M) p) K (cc + 1))) 19 [some (.ref (a 0))] [] := by
    intro k19
    induction k19 using Nat.strongRecOn with
    | _ k19 ih19 =>
    intro cc p K Kd Md hk19 g19 q19 r19 c19
    have sc := okS_cm hx (p := p) (by omega)
    have co := cm_or (tx := txM M) (p := p) (r := Md cc) (by omega)
    refine e_aload_n dX7_parse_19 rfl rfl ?_
    refine e_getfield fd_X7_205 dX7_parse_20 rfl rfl rfl rfl ?_
    refine EV.eq (st' := [vi (cmS (txM M) p).1]) rfl ?_
    refine e_if_ge (t := 52) dX7_parse_23 rfl rfl (by omega) (fun h23 => ?_) (fun h23 => ?_)
    · rcases co with ⟨z1, z2, z3⟩ | ⟨b1, b2, b3, b4, b5, b6⟩
      rotate_left
      · exfalso; rw [b2] at h23; exact absurd (show (0 : Int) ≤ -1 from h23) (by decide)
      refine e_aload_n dX7_parse_52 rfl rfl ?_
      refine e_getfield fd_X7_205 dX7_parse_53 rfl rfl rfl rfl ?_
      refine EV.eq (st' := [vi (cmS (txM M) p).1]) rfl ?_
      refine e_if_ge (t := 78) dX7_parse_56 rfl rfl (by omega) (fun h56 => ?_) (fun h56 => ?_)
      · exact e_vret dX7_parse_78 rfl ⟨rfl, rfl, cmS (txM M) p, K, cc + 1, rfl, mPa_x sc q19 (by omega) z1 z2 z3⟩
      · exfalso; omega
    · rcases co with ⟨z1, z2, z3⟩ | ⟨b1, b2, b3, b4, b5, b6⟩
      · exfalso; omega
      have sb : okS (M.1 6) (-1, (tPa (txM M) p (Md cc)).2.1) := by rw [← b2]; exact sc
      refine EV.ceq (cs' := wM a (mPS M (-1, (tPa (txM M) p (Md cc)).2.1) K (cc + 1))) (by rw [b2]) ?_
      refine e_aload_n dX7_parse_26 rfl rfl ?_
      refine e_cV0 [0, 1, 2, 3, 4, 5] lk_X7_208 rfl dX7_parse_27 rfl (C_X7_sign (s := (-1, (tPa (txM M) p (Md cc)).2.1)) hx sb) rfl rfl (Nat.le_of_ble_eq_true rfl) (Nat.le_of_ble_eq_true rfl) (Nat.le_of_ble_eq_true rfl) ⟨rfl, rfl⟩ rfl rfl rfl rfl rfl rfl  ?_
      refine EV.eq (st' := [vi (txM M (tPa (txM M) p (Md cc)).2.1)]) rfl ?_
      have ts := tx_in hx (tPa (txM M) p (Md cc)).2.1
      refine e_bipush dX7_parse_30 rfl rfl ?_
      refine e_icmp_ne (t := 52) dX7_parse_32 rfl rfl (by omega) (by omega) (fun h32 => ?_) (fun h32 => ?_)
      · refine e_aload_n dX7_parse_52 rfl rfl ?_
        refine e_getfield fd_X7_205 dX7_parse_53 rfl rfl rfl rfl ?_
        refine EV.eq (st' := [vi (-1)]) rfl ?_
        refine e_if_ge (t := 78) dX7_parse_56 rfl rfl (by omega) (fun h56 => ?_) (fun h56 => ?_)
        · exfalso; omega
        · refine e_aload_n dX7_parse_59 rfl rfl ?_
          refine e_getfield fd_X7_202 dX7_parse_60 rfl rfl rfl rfl ?_
          refine e_aload_n dX7_parse_63 rfl rfl ?_
          refine e_getfield fd_X7_199 dX7_parse_64 rfl rfl rfl rfl ?_
          refine EV.eq (st' := [vi (M.1 6), vi (tPa (txM M) p (Md cc)).2.1]) rfl ?_
          refine e_icmp_ge (t := 78) dX7_parse_67 rfl rfl (by omega) (by omega) (fun h67 => ?_) (fun h67 => ?_)
          · exact e_vret dX7_parse_78 rfl ⟨rfl, rfl, (-1, (tPa (txM M) p (Md cc)).2.1), K, cc + 1, rfl, mPa_e sb q19 (by omega) b1 h32 (by rw [if_pos (by omega)]) (rl_up g19.1 r19 c19 b3 b4 b5)⟩
          · refine e_aload_n dX7_parse_70 rfl rfl ?_
            refine e_aload_n dX7_parse_71 rfl rfl ?_
            refine e_getfield fd_X7_202 dX7_parse_72 rfl rfl rfl rfl ?_
            refine EV.eq (st' := [vi (tPa (txM M) p (Md cc)).2.1, .ref (a 0)]) rfl ?_
            refine e_putfield fd_X7_205 dX7_parse_75 rfl rfl rfl (Nat.le_of_ble_eq_true rfl) rfl rfl ?_
            exact e_vret dX7_parse_78 rfl ⟨rfl, rfl, ((tPa (txM M) p (Md cc)).2.1, (tPa (txM M) p (Md cc)).2.1), K, cc + 1, rfl, mPa_e ⟨(show -1 ≤ (tPa (txM M) p (Md cc)).2.1 ∧ (tPa (txM M) p (Md cc)).2.1 ≤ M.1 6 by omega), sb.2⟩ q19 (by omega) b1 h32 (by rw [if_neg (by omega)]) (rl_up g19.1 r19 c19 b3 b4 b5)⟩
      · refine e_aload_n dX7_parse_35 rfl rfl ?_
        refine e_dup dX7_parse_36 rfl rfl ?_
        refine e_getfield fd_X7_202 dX7_parse_37 rfl rfl rfl rfl ?_
        refine EV.eq (st' := [vi (tPa (txM M) p (Md cc)).2.1, .ref (a 0)]) rfl ?_
        refine e_iconst dX7_parse_40 rfl ?_
        refine e_iadd dX7_parse_41 rfl ?_
        refine e_putfield fd_X7_202 dX7_parse_42 rfl rfl rfl (Nat.le_of_ble_eq_true rfl) rfl rfl ?_
        refine EV.ceq (cs' := wM a (mPS M (-1, (tPa (txM M) p (Md cc)).2.1 + 1) K (cc + 1))) rfl ?_
        refine e_aload_n dX7_parse_45 rfl rfl ?_
        refine e_cV1 [0, 1, 2, 3, 4, 5] lk_X7_233 rfl dX7_parse_46 rfl (C_X7_command (p := (tPa (txM M) p (Md cc)).2.1 + 1) (K := K) (n := cc + 1) hx (by omega) (by omega)) rfl rfl (Nat.le_of_ble_eq_true rfl) (Nat.le_of_ble_eq_true rfl) (Nat.le_of_ble_eq_true rfl) ⟨rfl, rfl⟩ rfl rfl rfl rfl rfl rfl (fun cs1 hcs => by obtain ⟨K1, hcs, -⟩ := hcs; rw [hcs]; rfl) ?_
        intro cs1 hcs
        obtain ⟨K1, hcs, hc1⟩ := hcs
        subst hcs
        refine e_goto (n := 19) dX7_parse_49 rfl ?_
        exact ih19 _ (by omega) (cc + 1) ((tPa (txM M) p (Md cc)).2.1 + 1) K1 _ _ rfl (by omega) (q19.trans (tPs_go (by omega) b1 (by omega))) (rl_kp (rl_up g19.1 r19 c19 b3 b4 b5) hc1.1) hc1.2
  exact hL19 _ 0 0 K1 Kc Mc rfl (by omega) rfl (fun i i0 i1 => by omega) hc1.2
theorem C_X7_does0 {X : eXT} {a : Nat → Nat} {N : Int} {F M : eFs} (hF : okF N F) (hR : mR F (M.2 0)) (hNs : N + 20000 ≤ 100000000) {t q1 q2 q3 : Int} (ht : 0 ≤ t ∧ t ≤ 240) (gq1 : -2147483648 ≤ q1 ∧ q1 ≤ 2147483647) (gq2 : -2147483648 ≤ q2 ∧ q2 ≤ 2147483647) (gq3 : -2147483648 ≤ q3 ∧ q3 ≤ 2147483647) (h0 : M.2 3 t = 97) (h1 : M.2 3 (t + 1) = q1) (h2 : M.2 3 (t + 2) = q2) (h3 : M.2 3 (t + 3) = q3) :
    EM X mX7_does (eRm 8) a [.ref (a 0), vi t] (wM a M) (eRets (some (vi (mHC (sHin F 0 q1 q2 q3)))) a (mCh a M F 0 q1 q2 q3)) := by
  refine EM.of (by decide +kernel) rfl (Nat.le_of_ble_eq_true rfl) ?_
  have hF0 := hF
  obtain ⟨hc, hld, hled, htn, hgo, hkp, hst, hwt, hcl, hsh, hnx, hN, rx, ry, rh, rm, rc, rw9⟩ := hF
  obtain ⟨⟨n0, n1, n2, n3, n4, n5, n6, n7, n8, n9⟩, hb, hcd, hss⟩ := id hR
  refine e_aload_n dX7_does_0 rfl rfl ?_
  refine e_getfield fd_X7_27 dX7_does_1 rfl rfl rfl rfl ?_
  refine e_iload_n dX7_does_4 rfl rfl ?_
  refine e_iconst dX7_does_5 rfl ?_
  refine e_iadd dX7_does_6 rfl ?_
  refine e_iaload dX7_does_7 rfl rfl rfl (by omega) (by decide) ?_
  refine EV.eq (st' := [vi q1]) (by rw [h1]) ?_
  refine f_istore_n dX7_does_8 rfl (Nat.le_of_ble_eq_true rfl) rfl ?_
  refine e_aload_n dX7_does_9 rfl rfl ?_
  refine e_getfield fd_X7_27 dX7_does_10 rfl rfl rfl rfl ?_
  refine e_iload_n dX7_does_13 rfl rfl ?_
  refine e_iconst dX7_does_14 rfl ?_
  refine e_iadd dX7_does_15 rfl ?_
  refine e_iaload dX7_does_16 rfl rfl rfl (by omega) (by decide) ?_
  refine EV.eq (st' := [vi q2]) (by rw [h2]) ?_
  refine f_istore_n dX7_does_17 rfl (Nat.le_of_ble_eq_true rfl) rfl ?_
  refine e_aload_n dX7_does_18 rfl rfl ?_
  refine e_getfield fd_X7_27 dX7_does_19 rfl rfl rfl rfl ?_
  refine e_iload_n dX7_does_22 rfl rfl ?_
  refine e_iconst dX7_does_23 rfl ?_
  refine e_iadd dX7_does_24 rfl ?_
  refine e_iaload dX7_does_25 rfl rfl rfl (by omega) (by decide) ?_
  refine EV.eq (st' := [vi q3]) (by rw [h3]) ?_
  refine f_istore dX7_does_26 rfl (Nat.le_of_ble_eq_true rfl) rfl ?_
  refine e_aload_n dX7_does_28 rfl rfl ?_
  refine e_getfield fd_X7_27 dX7_does_29 rfl rfl rfl rfl ?_
  refine e_iload_n dX7_does_32 rfl rfl ?_
  refine e_iaload dX7_does_33 rfl rfl rfl (by omega) (by decide) ?_
  refine EV.eq (st' := [vi 97]) (by rw [h0]) ?_
  refine e_tabIn (t := 128) dX7_does_34 (by decide) (by decide) (by decide) rfl rfl ?_
  refine e_aload_n dX7_does_128 rfl rfl ?_
  refine e_iload_n dX7_does_129 rfl rfl ?_
  refine e_iload_n dX7_does_130 rfl rfl ?_
  refine e_iload dX7_does_131 rfl rfl ?_
  refine e_cV1 [0, 1, 2, 3, 4, 5] lk_X7_121 rfl dX7_does_133 rfl (C_X7_adds hF0 hR (by omega) (by omega) (by omega)) rfl rfl (Nat.le_of_ble_eq_true rfl) (Nat.le_of_ble_eq_true rfl) (Nat.le_of_ble_eq_true rfl) ⟨rfl, rfl⟩ rfl rfl rfl rfl rfl rfl (fun cs1 hcs => by obtain ⟨M1, hcs, -⟩ := hcs; rw [hcs]; rfl) ?_
  intro cs1 hcs
  have hcs := mCh_mg hcs
  exact e_iret dX7_does_136 rfl rfl ⟨rfl, rfl, hcs⟩
theorem C_X7_does1 {X : eXT} {a : Nat → Nat} {N : Int} {F M : eFs} (hF : okF N F) (hR : mR F (M.2 0)) (hNs : N + 20000 ≤ 100000000) {t q1 q2 q3 : Int} (ht : 0 ≤ t ∧ t ≤ 240) (gq1 : -2147483648 ≤ q1 ∧ q1 ≤ 2147483647) (gq2 : -2147483648 ≤ q2 ∧ q2 ≤ 2147483647) (gq3 : -2147483648 ≤ q3 ∧ q3 ≤ 2147483647) (h0 : M.2 3 t = 106) (h1 : M.2 3 (t + 1) = q1) (h2 : M.2 3 (t + 2) = q2) (h3 : M.2 3 (t + 3) = q3) :
    EM X mX7_does (eRm 8) a [.ref (a 0), vi t] (wM a M) (eRets (some (vi (mHC (sHin F 1 q1 q2 q3)))) a (mCh a M F 1 q1 q2 q3)) := by
  refine EM.of (by decide +kernel) rfl (Nat.le_of_ble_eq_true rfl) ?_
  have hF0 := hF
  obtain ⟨hc, hld, hled, htn, hgo, hkp, hst, hwt, hcl, hsh, hnx, hN, rx, ry, rh, rm, rc, rw9⟩ := hF
  obtain ⟨⟨n0, n1, n2, n3, n4, n5, n6, n7, n8, n9⟩, hb, hcd, hss⟩ := id hR
  refine e_aload_n dX7_does_0 rfl rfl ?_
  refine e_getfield fd_X7_27 dX7_does_1 rfl rfl rfl rfl ?_
  refine e_iload_n dX7_does_4 rfl rfl ?_
  refine e_iconst dX7_does_5 rfl ?_
  refine e_iadd dX7_does_6 rfl ?_
  refine e_iaload dX7_does_7 rfl rfl rfl (by omega) (by decide) ?_
  refine EV.eq (st' := [vi q1]) (by rw [h1]) ?_
  refine f_istore_n dX7_does_8 rfl (Nat.le_of_ble_eq_true rfl) rfl ?_
  refine e_aload_n dX7_does_9 rfl rfl ?_
  refine e_getfield fd_X7_27 dX7_does_10 rfl rfl rfl rfl ?_
  refine e_iload_n dX7_does_13 rfl rfl ?_
  refine e_iconst dX7_does_14 rfl ?_
  refine e_iadd dX7_does_15 rfl ?_
  refine e_iaload dX7_does_16 rfl rfl rfl (by omega) (by decide) ?_
  refine EV.eq (st' := [vi q2]) (by rw [h2]) ?_
  refine f_istore_n dX7_does_17 rfl (Nat.le_of_ble_eq_true rfl) rfl ?_
  refine e_aload_n dX7_does_18 rfl rfl ?_
  refine e_getfield fd_X7_27 dX7_does_19 rfl rfl rfl rfl ?_
  refine e_iload_n dX7_does_22 rfl rfl ?_
  refine e_iconst dX7_does_23 rfl ?_
  refine e_iadd dX7_does_24 rfl ?_
  refine e_iaload dX7_does_25 rfl rfl rfl (by omega) (by decide) ?_
  refine EV.eq (st' := [vi q3]) (by rw [h3]) ?_
  refine f_istore dX7_does_26 rfl (Nat.le_of_ble_eq_true rfl) rfl ?_
  refine e_aload_n dX7_does_28 rfl rfl ?_
  refine e_getfield fd_X7_27 dX7_does_29 rfl rfl rfl rfl ?_
  refine e_iload_n dX7_does_32 rfl rfl ?_
  refine e_iaload dX7_does_33 rfl rfl rfl (by omega) (by decide) ?_
  refine EV.eq (st' := [vi 106]) (by rw [h0]) ?_
  refine e_tabIn (t := 137) dX7_does_34 (by decide) (by decide) (by decide) rfl rfl ?_
  refine e_aload_n dX7_does_137 rfl rfl ?_
  refine e_iload_n dX7_does_138 rfl rfl ?_
  refine e_iload_n dX7_does_139 rfl rfl ?_
  refine e_iload dX7_does_140 rfl rfl ?_
  refine e_cV1 [0, 1, 2, 3, 4, 5] lk_X7_132 rfl dX7_does_142 rfl (C_X7_jumps hF0 hR (by omega) (by omega) (by omega)) rfl rfl (Nat.le_of_ble_eq_true rfl) (Nat.le_of_ble_eq_true rfl) (Nat.le_of_ble_eq_true rfl) ⟨rfl, rfl⟩ rfl rfl rfl rfl rfl rfl (fun cs1 hcs => by obtain ⟨M1, hcs, -⟩ := hcs; rw [hcs]; rfl) ?_
  intro cs1 hcs
  have hcs := mCh_mg hcs
  exact e_iret dX7_does_145 rfl rfl ⟨rfl, rfl, hcs⟩
theorem C_X7_does2 {X : eXT} {a : Nat → Nat} {N : Int} {F M : eFs} (hF : okF N F) (hR : mR F (M.2 0)) (hNs : N + 20000 ≤ 100000000) {t q1 q2 q3 : Int} (ht : 0 ≤ t ∧ t ≤ 240) (gq1 : -2147483648 ≤ q1 ∧ q1 ≤ 2147483647) (gq2 : -2147483648 ≤ q2 ∧ q2 ≤ 2147483647) (gq3 : -2147483648 ≤ q3 ∧ q3 ≤ 2147483647) (h0 : M.2 3 t = 104) (h1 : M.2 3 (t + 1) = q1) (h2 : M.2 3 (t + 2) = q2) :
    EM X mX7_does (eRm 8) a [.ref (a 0), vi t] (wM a M) (eRets (some (vi (mHC (sHin F 2 q1 q2 q3)))) a (mCh a M F 2 q1 q2 q3)) := by
  refine EM.of (by decide +kernel) rfl (Nat.le_of_ble_eq_true rfl) ?_
  have hF0 := hF
  obtain ⟨hc, hld, hled, htn, hgo, hkp, hst, hwt, hcl, hsh, hnx, hN, rx, ry, rh, rm, rc, rw9⟩ := hF
  obtain ⟨⟨n0, n1, n2, n3, n4, n5, n6, n7, n8, n9⟩, hb, hcd, hss⟩ := id hR
  refine e_aload_n dX7_does_0 rfl rfl ?_
  refine e_getfield fd_X7_27 dX7_does_1 rfl rfl rfl rfl ?_
  refine e_iload_n dX7_does_4 rfl rfl ?_
  refine e_iconst dX7_does_5 rfl ?_
  refine e_iadd dX7_does_6 rfl ?_
  refine e_iaload dX7_does_7 rfl rfl rfl (by omega) (by decide) ?_
  refine EV.eq (st' := [vi q1]) (by rw [h1]) ?_
  refine f_istore_n dX7_does_8 rfl (Nat.le_of_ble_eq_true rfl) rfl ?_
  refine e_aload_n dX7_does_9 rfl rfl ?_
  refine e_getfield fd_X7_27 dX7_does_10 rfl rfl rfl rfl ?_
  refine e_iload_n dX7_does_13 rfl rfl ?_
  refine e_iconst dX7_does_14 rfl ?_
  refine e_iadd dX7_does_15 rfl ?_
  refine e_iaload dX7_does_16 rfl rfl rfl (by omega) (by decide) ?_
  refine EV.eq (st' := [vi q2]) (by rw [h2]) ?_
  refine f_istore_n dX7_does_17 rfl (Nat.le_of_ble_eq_true rfl) rfl ?_
  refine e_aload_n dX7_does_18 rfl rfl ?_
  refine e_getfield fd_X7_27 dX7_does_19 rfl rfl rfl rfl ?_
  refine e_iload_n dX7_does_22 rfl rfl ?_
  refine e_iconst dX7_does_23 rfl ?_
  refine e_iadd dX7_does_24 rfl ?_
  refine e_iaload dX7_does_25 rfl rfl rfl (by omega) (by decide) ?_
  refine f_istore dX7_does_26 rfl (Nat.le_of_ble_eq_true rfl) rfl ?_
  refine e_aload_n dX7_does_28 rfl rfl ?_
  refine e_getfield fd_X7_27 dX7_does_29 rfl rfl rfl rfl ?_
  refine e_iload_n dX7_does_32 rfl rfl ?_
  refine e_iaload dX7_does_33 rfl rfl rfl (by omega) (by decide) ?_
  refine EV.eq (st' := [vi 104]) (by rw [h0]) ?_
  refine e_tabIn (t := 146) dX7_does_34 (by decide) (by decide) (by decide) rfl rfl ?_
  refine e_aload_n dX7_does_146 rfl rfl ?_
  refine e_iload_n dX7_does_147 rfl rfl ?_
  refine e_iload_n dX7_does_148 rfl rfl ?_
  refine e_cV1 [0, 1, 2, 3, 4, 5] lk_X7_135 rfl dX7_does_149 rfl (C_X7_handles hF0 hR (by omega) (by omega)) rfl rfl (Nat.le_of_ble_eq_true rfl) (Nat.le_of_ble_eq_true rfl) (Nat.le_of_ble_eq_true rfl) ⟨rfl, rfl⟩ rfl rfl rfl rfl rfl rfl (fun cs1 hcs => by obtain ⟨M1, hcs, -⟩ := hcs; rw [hcs]; rfl) ?_
  intro cs1 hcs
  have hcs := mCh_mg hcs
  exact e_iret dX7_does_152 rfl rfl ⟨by rw [show sHin F 2 q1 q2 0 = sHin F 2 q1 q2 q3 by simp [sHin]], rfl, mCh_arg (p := q1) (q := q2) (r := 0) (by simp [sHin]) (by rcases hk_2 (F := F) (p := q1) (q := q2) (r := 0) with e | e | e <;> rw [e] <;> decide) (by simp [sDo]) (by simp [sDoR]) hcs⟩
theorem C_X7_does3 {X : eXT} {a : Nat → Nat} {N : Int} {F M : eFs} (hF : okF N F) (hR : mR F (M.2 0)) (hNs : N + 20000 ≤ 100000000) {t q1 q2 q3 : Int} (ht : 0 ≤ t ∧ t ≤ 240) (gq1 : -2147483648 ≤ q1 ∧ q1 ≤ 2147483647) (gq2 : -2147483648 ≤ q2 ∧ q2 ≤ 2147483647) (gq3 : -2147483648 ≤ q3 ∧ q3 ≤ 2147483647) (h0 : M.2 3 t = 99) (h1 : M.2 3 (t + 1) = q1) (h2 : M.2 3 (t + 2) = q2) :
    EM X mX7_does (eRm 8) a [.ref (a 0), vi t] (wM a M) (eRets (some (vi (mHC (sHin F 3 q1 q2 q3)))) a (mCh a M F 3 q1 q2 q3)) := by
  refine EM.of (by decide +kernel) rfl (Nat.le_of_ble_eq_true rfl) ?_
  have hF0 := hF
  obtain ⟨hc, hld, hled, htn, hgo, hkp, hst, hwt, hcl, hsh, hnx, hN, rx, ry, rh, rm, rc, rw9⟩ := hF
  obtain ⟨⟨n0, n1, n2, n3, n4, n5, n6, n7, n8, n9⟩, hb, hcd, hss⟩ := id hR
  refine e_aload_n dX7_does_0 rfl rfl ?_
  refine e_getfield fd_X7_27 dX7_does_1 rfl rfl rfl rfl ?_
  refine e_iload_n dX7_does_4 rfl rfl ?_
  refine e_iconst dX7_does_5 rfl ?_
  refine e_iadd dX7_does_6 rfl ?_
  refine e_iaload dX7_does_7 rfl rfl rfl (by omega) (by decide) ?_
  refine EV.eq (st' := [vi q1]) (by rw [h1]) ?_
  refine f_istore_n dX7_does_8 rfl (Nat.le_of_ble_eq_true rfl) rfl ?_
  refine e_aload_n dX7_does_9 rfl rfl ?_
  refine e_getfield fd_X7_27 dX7_does_10 rfl rfl rfl rfl ?_
  refine e_iload_n dX7_does_13 rfl rfl ?_
  refine e_iconst dX7_does_14 rfl ?_
  refine e_iadd dX7_does_15 rfl ?_
  refine e_iaload dX7_does_16 rfl rfl rfl (by omega) (by decide) ?_
  refine EV.eq (st' := [vi q2]) (by rw [h2]) ?_
  refine f_istore_n dX7_does_17 rfl (Nat.le_of_ble_eq_true rfl) rfl ?_
  refine e_aload_n dX7_does_18 rfl rfl ?_
  refine e_getfield fd_X7_27 dX7_does_19 rfl rfl rfl rfl ?_
  refine e_iload_n dX7_does_22 rfl rfl ?_
  refine e_iconst dX7_does_23 rfl ?_
  refine e_iadd dX7_does_24 rfl ?_
  refine e_iaload dX7_does_25 rfl rfl rfl (by omega) (by decide) ?_
  refine f_istore dX7_does_26 rfl (Nat.le_of_ble_eq_true rfl) rfl ?_
  refine e_aload_n dX7_does_28 rfl rfl ?_
  refine e_getfield fd_X7_27 dX7_does_29 rfl rfl rfl rfl ?_
  refine e_iload_n dX7_does_32 rfl rfl ?_
  refine e_iaload dX7_does_33 rfl rfl rfl (by omega) (by decide) ?_
  refine EV.eq (st' := [vi 99]) (by rw [h0]) ?_
  refine e_tabIn (t := 153) dX7_does_34 (by decide) (by decide) (by decide) rfl rfl ?_
  refine e_aload_n dX7_does_153 rfl rfl ?_
  refine e_iload_n dX7_does_154 rfl rfl ?_
  refine e_iload_n dX7_does_155 rfl rfl ?_
  refine e_cV1 [0, 1, 2, 3, 4, 5] lk_X7_141 rfl dX7_does_156 rfl (C_X7_clouds hF0 hR (by omega) (by omega)) rfl rfl (Nat.le_of_ble_eq_true rfl) (Nat.le_of_ble_eq_true rfl) (Nat.le_of_ble_eq_true rfl) ⟨rfl, rfl⟩ rfl rfl rfl rfl rfl rfl (fun cs1 hcs => by obtain ⟨M1, hcs, -⟩ := hcs; rw [hcs]; rfl) ?_
  intro cs1 hcs
  have hcs := mCh_mg hcs
  exact e_iret dX7_does_159 rfl rfl ⟨by rw [show sHin F 3 q1 q2 0 = sHin F 3 q1 q2 q3 by simp [sHin]], rfl, mCh_arg (p := q1) (q := q2) (r := 0) (by simp [sHin]) (by rcases hk_3 (F := F) (p := q1) (q := q2) (r := 0) with e | e | e | e <;> rw [e] <;> decide) (by simp [sDo]) (by simp [sDoR]) hcs⟩
theorem C_X7_does4 {X : eXT} {a : Nat → Nat} {N : Int} {F M : eFs} (hF : okF N F) (hR : mR F (M.2 0)) (hNs : N + 20000 ≤ 100000000) {t q1 q2 q3 : Int} (ht : 0 ≤ t ∧ t ≤ 240) (gq1 : -2147483648 ≤ q1 ∧ q1 ≤ 2147483647) (gq2 : -2147483648 ≤ q2 ∧ q2 ≤ 2147483647) (gq3 : -2147483648 ≤ q3 ∧ q3 ≤ 2147483647) (h0 : M.2 3 t = 101) (h1 : M.2 3 (t + 1) = q1) (h2 : M.2 3 (t + 2) = q2) :
    EM X mX7_does (eRm 8) a [.ref (a 0), vi t] (wM a M) (eRets (some (vi (mHC (sHin F 4 q1 q2 q3)))) a (mCh a M F 4 q1 q2 q3)) := by
  refine EM.of (by decide +kernel) rfl (Nat.le_of_ble_eq_true rfl) ?_
  have hF0 := hF
  obtain ⟨hc, hld, hled, htn, hgo, hkp, hst, hwt, hcl, hsh, hnx, hN, rx, ry, rh, rm, rc, rw9⟩ := hF
  obtain ⟨⟨n0, n1, n2, n3, n4, n5, n6, n7, n8, n9⟩, hb, hcd, hss⟩ := id hR
  refine e_aload_n dX7_does_0 rfl rfl ?_
  refine e_getfield fd_X7_27 dX7_does_1 rfl rfl rfl rfl ?_
  refine e_iload_n dX7_does_4 rfl rfl ?_
  refine e_iconst dX7_does_5 rfl ?_
  refine e_iadd dX7_does_6 rfl ?_
  refine e_iaload dX7_does_7 rfl rfl rfl (by omega) (by decide) ?_
  refine EV.eq (st' := [vi q1]) (by rw [h1]) ?_
  refine f_istore_n dX7_does_8 rfl (Nat.le_of_ble_eq_true rfl) rfl ?_
  refine e_aload_n dX7_does_9 rfl rfl ?_
  refine e_getfield fd_X7_27 dX7_does_10 rfl rfl rfl rfl ?_
  refine e_iload_n dX7_does_13 rfl rfl ?_
  refine e_iconst dX7_does_14 rfl ?_
  refine e_iadd dX7_does_15 rfl ?_
  refine e_iaload dX7_does_16 rfl rfl rfl (by omega) (by decide) ?_
  refine EV.eq (st' := [vi q2]) (by rw [h2]) ?_
  refine f_istore_n dX7_does_17 rfl (Nat.le_of_ble_eq_true rfl) rfl ?_
  refine e_aload_n dX7_does_18 rfl rfl ?_
  refine e_getfield fd_X7_27 dX7_does_19 rfl rfl rfl rfl ?_
  refine e_iload_n dX7_does_22 rfl rfl ?_
  refine e_iconst dX7_does_23 rfl ?_
  refine e_iadd dX7_does_24 rfl ?_
  refine e_iaload dX7_does_25 rfl rfl rfl (by omega) (by decide) ?_
  refine f_istore dX7_does_26 rfl (Nat.le_of_ble_eq_true rfl) rfl ?_
  refine e_aload_n dX7_does_28 rfl rfl ?_
  refine e_getfield fd_X7_27 dX7_does_29 rfl rfl rfl rfl ?_
  refine e_iload_n dX7_does_32 rfl rfl ?_
  refine e_iaload dX7_does_33 rfl rfl rfl (by omega) (by decide) ?_
  refine EV.eq (st' := [vi 101]) (by rw [h0]) ?_
  refine e_tabIn (t := 160) dX7_does_34 (by decide) (by decide) (by decide) rfl rfl ?_
  refine e_aload_n dX7_does_160 rfl rfl ?_
  refine e_iload_n dX7_does_161 rfl rfl ?_
  refine e_iload_n dX7_does_162 rfl rfl ?_
  refine e_cV1 [0, 1, 2, 3, 4, 5] lk_X7_144 rfl dX7_does_163 rfl (C_X7_clears hF0 hR (by omega) (by omega)) rfl rfl (Nat.le_of_ble_eq_true rfl) (Nat.le_of_ble_eq_true rfl) (Nat.le_of_ble_eq_true rfl) ⟨rfl, rfl⟩ rfl rfl rfl rfl rfl rfl (fun cs1 hcs => by obtain ⟨M1, hcs, -⟩ := hcs; rw [hcs]; rfl) ?_
  intro cs1 hcs
  have hcs := mCh_mg hcs
  exact e_iret dX7_does_166 rfl rfl ⟨by rw [show sHin F 4 q1 q2 0 = sHin F 4 q1 q2 q3 by simp [sHin]], rfl, mCh_arg (p := q1) (q := q2) (r := 0) (by simp [sHin]) (by rcases hk_4 (F := F) (p := q1) (q := q2) (r := 0) with e | e | e <;> rw [e] <;> decide) (by simp [sDo]) (by simp [sDoR]) hcs⟩
theorem C_X7_does5 {X : eXT} {a : Nat → Nat} {N : Int} {F M : eFs} (hF : okF N F) (hR : mR F (M.2 0)) (hNs : N + 20000 ≤ 100000000) {t q1 q2 q3 : Int} (ht : 0 ≤ t ∧ t ≤ 240) (gq1 : -2147483648 ≤ q1 ∧ q1 ≤ 2147483647) (gq2 : -2147483648 ≤ q2 ∧ q2 ≤ 2147483647) (gq3 : -2147483648 ≤ q3 ∧ q3 ≤ 2147483647) (h0 : M.2 3 t = 116) (h1 : M.2 3 (t + 1) = q1) :
    EM X mX7_does (eRm 8) a [.ref (a 0), vi t] (wM a M) (eRets (some (vi (mHC (sHin F 5 q1 q2 q3)))) a (mCh a M F 5 q1 q2 q3)) := by
  refine EM.of (by decide +kernel) rfl (Nat.le_of_ble_eq_true rfl) ?_
  have hF0 := hF
  obtain ⟨hc, hld, hled, htn, hgo, hkp, hst, hwt, hcl, hsh, hnx, hN, rx, ry, rh, rm, rc, rw9⟩ := hF
  obtain ⟨⟨n0, n1, n2, n3, n4, n5, n6, n7, n8, n9⟩, hb, hcd, hss⟩ := id hR
  refine e_aload_n dX7_does_0 rfl rfl ?_
  refine e_getfield fd_X7_27 dX7_does_1 rfl rfl rfl rfl ?_
  refine e_iload_n dX7_does_4 rfl rfl ?_
  refine e_iconst dX7_does_5 rfl ?_
  refine e_iadd dX7_does_6 rfl ?_
  refine e_iaload dX7_does_7 rfl rfl rfl (by omega) (by decide) ?_
  refine EV.eq (st' := [vi q1]) (by rw [h1]) ?_
  refine f_istore_n dX7_does_8 rfl (Nat.le_of_ble_eq_true rfl) rfl ?_
  refine e_aload_n dX7_does_9 rfl rfl ?_
  refine e_getfield fd_X7_27 dX7_does_10 rfl rfl rfl rfl ?_
  refine e_iload_n dX7_does_13 rfl rfl ?_
  refine e_iconst dX7_does_14 rfl ?_
  refine e_iadd dX7_does_15 rfl ?_
  refine e_iaload dX7_does_16 rfl rfl rfl (by omega) (by decide) ?_
  refine f_istore_n dX7_does_17 rfl (Nat.le_of_ble_eq_true rfl) rfl ?_
  refine e_aload_n dX7_does_18 rfl rfl ?_
  refine e_getfield fd_X7_27 dX7_does_19 rfl rfl rfl rfl ?_
  refine e_iload_n dX7_does_22 rfl rfl ?_
  refine e_iconst dX7_does_23 rfl ?_
  refine e_iadd dX7_does_24 rfl ?_
  refine e_iaload dX7_does_25 rfl rfl rfl (by omega) (by decide) ?_
  refine f_istore dX7_does_26 rfl (Nat.le_of_ble_eq_true rfl) rfl ?_
  refine e_aload_n dX7_does_28 rfl rfl ?_
  refine e_getfield fd_X7_27 dX7_does_29 rfl rfl rfl rfl ?_
  refine e_iload_n dX7_does_32 rfl rfl ?_
  refine e_iaload dX7_does_33 rfl rfl rfl (by omega) (by decide) ?_
  refine EV.eq (st' := [vi 116]) (by rw [h0]) ?_
  refine e_tabIn (t := 167) dX7_does_34 (by decide) (by decide) (by decide) rfl rfl ?_
  refine e_aload_n dX7_does_167 rfl rfl ?_
  refine e_iload_n dX7_does_168 rfl rfl ?_
  refine e_cV1 [0, 1, 2, 3, 4, 5] lk_X7_147 rfl dX7_does_169 rfl (C_X7_turns hF0 hR (by omega)) rfl rfl (Nat.le_of_ble_eq_true rfl) (Nat.le_of_ble_eq_true rfl) (Nat.le_of_ble_eq_true rfl) ⟨rfl, rfl⟩ rfl rfl rfl rfl rfl rfl (fun cs1 hcs => by obtain ⟨M1, hcs, -⟩ := hcs; rw [hcs]; rfl) ?_
  intro cs1 hcs
  have hcs := mCh_mg hcs
  exact e_iret dX7_does_172 rfl rfl ⟨by rw [show sHin F 5 q1 0 0 = sHin F 5 q1 q2 q3 by simp [sHin]], rfl, mCh_arg (p := q1) (q := 0) (r := 0) (by simp [sHin]) (by rcases hk_5 (F := F) (p := q1) (q := 0) (r := 0) with e | e <;> rw [e] <;> decide) (by simp [sDo]) (by simp [sDoR]) hcs⟩
theorem C_X7_does6 {X : eXT} {a : Nat → Nat} {N : Int} {F M : eFs} (hF : okF N F) (hR : mR F (M.2 0)) (hNs : N + 20000 ≤ 100000000) {t q1 q2 q3 : Int} (ht : 0 ≤ t ∧ t ≤ 240) (gq1 : -2147483648 ≤ q1 ∧ q1 ≤ 2147483647) (gq2 : -2147483648 ≤ q2 ∧ q2 ≤ 2147483647) (gq3 : -2147483648 ≤ q3 ∧ q3 ≤ 2147483647) (h0 : M.2 3 t = 103) (h1 : M.2 3 (t + 1) = q1) (h2 : M.2 3 (t + 2) = q2) :
    EM X mX7_does (eRm 8) a [.ref (a 0), vi t] (wM a M) (eRets (some (vi (mHC (sHin F 6 q1 q2 q3)))) a (mCh a M F 6 q1 q2 q3)) := by
  refine EM.of (by decide +kernel) rfl (Nat.le_of_ble_eq_true rfl) ?_
  have hF0 := hF
  obtain ⟨hc, hld, hled, htn, hgo, hkp, hst, hwt, hcl, hsh, hnx, hN, rx, ry, rh, rm, rc, rw9⟩ := hF
  obtain ⟨⟨n0, n1, n2, n3, n4, n5, n6, n7, n8, n9⟩, hb, hcd, hss⟩ := id hR
  refine e_aload_n dX7_does_0 rfl rfl ?_
  refine e_getfield fd_X7_27 dX7_does_1 rfl rfl rfl rfl ?_
  refine e_iload_n dX7_does_4 rfl rfl ?_
  refine e_iconst dX7_does_5 rfl ?_
  refine e_iadd dX7_does_6 rfl ?_
  refine e_iaload dX7_does_7 rfl rfl rfl (by omega) (by decide) ?_
  refine EV.eq (st' := [vi q1]) (by rw [h1]) ?_
  refine f_istore_n dX7_does_8 rfl (Nat.le_of_ble_eq_true rfl) rfl ?_
  refine e_aload_n dX7_does_9 rfl rfl ?_
  refine e_getfield fd_X7_27 dX7_does_10 rfl rfl rfl rfl ?_
  refine e_iload_n dX7_does_13 rfl rfl ?_
  refine e_iconst dX7_does_14 rfl ?_
  refine e_iadd dX7_does_15 rfl ?_
  refine e_iaload dX7_does_16 rfl rfl rfl (by omega) (by decide) ?_
  refine EV.eq (st' := [vi q2]) (by rw [h2]) ?_
  refine f_istore_n dX7_does_17 rfl (Nat.le_of_ble_eq_true rfl) rfl ?_
  refine e_aload_n dX7_does_18 rfl rfl ?_
  refine e_getfield fd_X7_27 dX7_does_19 rfl rfl rfl rfl ?_
  refine e_iload_n dX7_does_22 rfl rfl ?_
  refine e_iconst dX7_does_23 rfl ?_
  refine e_iadd dX7_does_24 rfl ?_
  refine e_iaload dX7_does_25 rfl rfl rfl (by omega) (by decide) ?_
  refine f_istore dX7_does_26 rfl (Nat.le_of_ble_eq_true rfl) rfl ?_
  refine e_aload_n dX7_does_28 rfl rfl ?_
  refine e_getfield fd_X7_27 dX7_does_29 rfl rfl rfl rfl ?_
  refine e_iload_n dX7_does_32 rfl rfl ?_
  refine e_iaload dX7_does_33 rfl rfl rfl (by omega) (by decide) ?_
  refine EV.eq (st' := [vi 103]) (by rw [h0]) ?_
  refine e_tabIn (t := 173) dX7_does_34 (by decide) (by decide) (by decide) rfl rfl ?_
  refine e_aload_n dX7_does_173 rfl rfl ?_
  refine e_iload_n dX7_does_174 rfl rfl ?_
  refine e_iload_n dX7_does_175 rfl rfl ?_
  refine e_cV1 [0, 1, 2, 3, 4, 5] lk_X7_150 rfl dX7_does_176 rfl (C_X7_aims hF0 hR (by omega) (by omega)) rfl rfl (Nat.le_of_ble_eq_true rfl) (Nat.le_of_ble_eq_true rfl) (Nat.le_of_ble_eq_true rfl) ⟨rfl, rfl⟩ rfl rfl rfl rfl rfl rfl (fun cs1 hcs => by obtain ⟨M1, hcs, -⟩ := hcs; rw [hcs]; rfl) ?_
  intro cs1 hcs
  have hcs := mCh_mg hcs
  exact e_iret dX7_does_179 rfl rfl ⟨by rw [show sHin F 6 q1 q2 0 = sHin F 6 q1 q2 q3 by simp [sHin]], rfl, mCh_arg (p := q1) (q := q2) (r := 0) (by simp [sHin]) (by rcases hk_6 (F := F) (p := q1) (q := q2) (r := 0) with e | e | e <;> rw [e] <;> decide) (by simp [sDo]) (by simp [sDoR]) hcs⟩
theorem C_X7_does7 {X : eXT} {a : Nat → Nat} {N : Int} {F M : eFs} (hF : okF N F) (hR : mR F (M.2 0)) (hNs : N + 20000 ≤ 100000000) {t q1 q2 q3 : Int} (ht : 0 ≤ t ∧ t ≤ 240) (gq1 : -2147483648 ≤ q1 ∧ q1 ≤ 2147483647) (gq2 : -2147483648 ≤ q2 ∧ q2 ≤ 2147483647) (gq3 : -2147483648 ≤ q3 ∧ q3 ≤ 2147483647) (h0 : M.2 3 t = 107) (h1 : M.2 3 (t + 1) = q1) :
    EM X mX7_does (eRm 8) a [.ref (a 0), vi t] (wM a M) (eRets (some (vi (mHC (sHin F 7 q1 q2 q3)))) a (mCh a M F 7 q1 q2 q3)) := by
  refine EM.of (by decide +kernel) rfl (Nat.le_of_ble_eq_true rfl) ?_
  have hF0 := hF
  obtain ⟨hc, hld, hled, htn, hgo, hkp, hst, hwt, hcl, hsh, hnx, hN, rx, ry, rh, rm, rc, rw9⟩ := hF
  obtain ⟨⟨n0, n1, n2, n3, n4, n5, n6, n7, n8, n9⟩, hb, hcd, hss⟩ := id hR
  refine e_aload_n dX7_does_0 rfl rfl ?_
  refine e_getfield fd_X7_27 dX7_does_1 rfl rfl rfl rfl ?_
  refine e_iload_n dX7_does_4 rfl rfl ?_
  refine e_iconst dX7_does_5 rfl ?_
  refine e_iadd dX7_does_6 rfl ?_
  refine e_iaload dX7_does_7 rfl rfl rfl (by omega) (by decide) ?_
  refine EV.eq (st' := [vi q1]) (by rw [h1]) ?_
  refine f_istore_n dX7_does_8 rfl (Nat.le_of_ble_eq_true rfl) rfl ?_
  refine e_aload_n dX7_does_9 rfl rfl ?_
  refine e_getfield fd_X7_27 dX7_does_10 rfl rfl rfl rfl ?_
  refine e_iload_n dX7_does_13 rfl rfl ?_
  refine e_iconst dX7_does_14 rfl ?_
  refine e_iadd dX7_does_15 rfl ?_
  refine e_iaload dX7_does_16 rfl rfl rfl (by omega) (by decide) ?_
  refine f_istore_n dX7_does_17 rfl (Nat.le_of_ble_eq_true rfl) rfl ?_
  refine e_aload_n dX7_does_18 rfl rfl ?_
  refine e_getfield fd_X7_27 dX7_does_19 rfl rfl rfl rfl ?_
  refine e_iload_n dX7_does_22 rfl rfl ?_
  refine e_iconst dX7_does_23 rfl ?_
  refine e_iadd dX7_does_24 rfl ?_
  refine e_iaload dX7_does_25 rfl rfl rfl (by omega) (by decide) ?_
  refine f_istore dX7_does_26 rfl (Nat.le_of_ble_eq_true rfl) rfl ?_
  refine e_aload_n dX7_does_28 rfl rfl ?_
  refine e_getfield fd_X7_27 dX7_does_29 rfl rfl rfl rfl ?_
  refine e_iload_n dX7_does_32 rfl rfl ?_
  refine e_iaload dX7_does_33 rfl rfl rfl (by omega) (by decide) ?_
  refine EV.eq (st' := [vi 107]) (by rw [h0]) ?_
  refine e_tabIn (t := 180) dX7_does_34 (by decide) (by decide) (by decide) rfl rfl ?_
  refine e_aload_n dX7_does_180 rfl rfl ?_
  refine e_iload_n dX7_does_181 rfl rfl ?_
  refine e_cV1 [0, 1, 2, 3, 4, 5] lk_X7_153 rfl dX7_does_182 rfl (C_X7_keeps hF0 hR (by omega)) rfl rfl (Nat.le_of_ble_eq_true rfl) (Nat.le_of_ble_eq_true rfl) (Nat.le_of_ble_eq_true rfl) ⟨rfl, rfl⟩ rfl rfl rfl rfl rfl rfl (fun cs1 hcs => by obtain ⟨M1, hcs, -⟩ := hcs; rw [hcs]; rfl) ?_
  intro cs1 hcs
  have hcs := mCh_mg hcs
  exact e_iret dX7_does_185 rfl rfl ⟨by rw [show sHin F 7 q1 0 0 = sHin F 7 q1 q2 q3 by simp [sHin]], rfl, mCh_arg (p := q1) (q := 0) (r := 0) (by simp [sHin]) (by rcases hk_7 (F := F) (p := q1) (q := 0) (r := 0) with e | e <;> rw [e] <;> decide) (by simp [sDo]) (by simp [sDoR]) hcs⟩
theorem C_X7_does8 {X : eXT} {a : Nat → Nat} {N : Int} {F M : eFs} (hF : okF N F) (hR : mR F (M.2 0)) (hNs : N + 20000 ≤ 100000000) {t q1 q2 q3 : Int} (ht : 0 ≤ t ∧ t ≤ 240) (gq1 : -2147483648 ≤ q1 ∧ q1 ≤ 2147483647) (gq2 : -2147483648 ≤ q2 ∧ q2 ≤ 2147483647) (gq3 : -2147483648 ≤ q3 ∧ q3 ≤ 2147483647) (h0 : M.2 3 t = 115) (h1 : M.2 3 (t + 1) = q1) :
    EM X mX7_does (eRm 8) a [.ref (a 0), vi t] (wM a M) (eRets (some (vi (mHC (sHin F 8 q1 q2 q3)))) a (mCh a M F 8 q1 q2 q3)) := by
  refine EM.of (by decide +kernel) rfl (Nat.le_of_ble_eq_true rfl) ?_
  have hF0 := hF
  obtain ⟨hc, hld, hled, htn, hgo, hkp, hst, hwt, hcl, hsh, hnx, hN, rx, ry, rh, rm, rc, rw9⟩ := hF
  obtain ⟨⟨n0, n1, n2, n3, n4, n5, n6, n7, n8, n9⟩, hb, hcd, hss⟩ := id hR
  refine e_aload_n dX7_does_0 rfl rfl ?_
  refine e_getfield fd_X7_27 dX7_does_1 rfl rfl rfl rfl ?_
  refine e_iload_n dX7_does_4 rfl rfl ?_
  refine e_iconst dX7_does_5 rfl ?_
  refine e_iadd dX7_does_6 rfl ?_
  refine e_iaload dX7_does_7 rfl rfl rfl (by omega) (by decide) ?_
  refine EV.eq (st' := [vi q1]) (by rw [h1]) ?_
  refine f_istore_n dX7_does_8 rfl (Nat.le_of_ble_eq_true rfl) rfl ?_
  refine e_aload_n dX7_does_9 rfl rfl ?_
  refine e_getfield fd_X7_27 dX7_does_10 rfl rfl rfl rfl ?_
  refine e_iload_n dX7_does_13 rfl rfl ?_
  refine e_iconst dX7_does_14 rfl ?_
  refine e_iadd dX7_does_15 rfl ?_
  refine e_iaload dX7_does_16 rfl rfl rfl (by omega) (by decide) ?_
  refine f_istore_n dX7_does_17 rfl (Nat.le_of_ble_eq_true rfl) rfl ?_
  refine e_aload_n dX7_does_18 rfl rfl ?_
  refine e_getfield fd_X7_27 dX7_does_19 rfl rfl rfl rfl ?_
  refine e_iload_n dX7_does_22 rfl rfl ?_
  refine e_iconst dX7_does_23 rfl ?_
  refine e_iadd dX7_does_24 rfl ?_
  refine e_iaload dX7_does_25 rfl rfl rfl (by omega) (by decide) ?_
  refine f_istore dX7_does_26 rfl (Nat.le_of_ble_eq_true rfl) rfl ?_
  refine e_aload_n dX7_does_28 rfl rfl ?_
  refine e_getfield fd_X7_27 dX7_does_29 rfl rfl rfl rfl ?_
  refine e_iload_n dX7_does_32 rfl rfl ?_
  refine e_iaload dX7_does_33 rfl rfl rfl (by omega) (by decide) ?_
  refine EV.eq (st' := [vi 115]) (by rw [h0]) ?_
  refine e_tabIn (t := 186) dX7_does_34 (by decide) (by decide) (by decide) rfl rfl ?_
  refine e_aload_n dX7_does_186 rfl rfl ?_
  refine e_iload_n dX7_does_187 rfl rfl ?_
  refine e_cV1 [0, 1, 2, 3, 4, 5] lk_X7_159 rfl dX7_does_188 rfl (C_X7_passes hF0 hR (by omega) (by omega)) rfl rfl (Nat.le_of_ble_eq_true rfl) (Nat.le_of_ble_eq_true rfl) (Nat.le_of_ble_eq_true rfl) ⟨rfl, rfl⟩ rfl rfl rfl rfl rfl rfl (fun cs1 hcs => by obtain ⟨M1, hcs, -⟩ := hcs; rw [hcs]; rfl) ?_
  intro cs1 hcs
  have hcs := mCh_mg hcs
  exact e_iret dX7_does_191 rfl rfl ⟨by rw [show sHin F 8 q1 0 0 = sHin F 8 q1 q2 q3 by simp [sHin]], rfl, mCh_arg (p := q1) (q := 0) (r := 0) (by simp [sHin]) (by rcases hk_8 (F := F) (p := q1) (q := 0) (r := 0) with e | e <;> rw [e] <;> decide) (by simp [sDo]) (by simp [sDoR]) hcs⟩
theorem C_X7_does {X : eXT} {a : Nat → Nat} {N : Int} {F M : eFs} (hF : okF N F) (hR : mR F (M.2 0)) (hNs : N + 20000 ≤ 100000000) {Kc : Int → Int} {Mc : Int → Int → Int} {i : Int} (hi : 0 ≤ i ∧ i ≤ 60) (hm : ∀ c j, 0 ≤ Mc c j ∧ Mc c j ≤ 99) (hr : rlC (M.2 3) Kc Mc i) :
    EM X mX7_does (eRm 8) a [.ref (a 0), vi (4 * i)] (wM a M) (eRets (some (vi (mHC (sHin F (Kc i) (Mc i 0) (Mc i 1) (Mc i 2))))) a (mCh a M F (Kc i) (Mc i 0) (Mc i 1) (Mc i 2))) := by
  obtain ⟨k0, r0, r1, r2, r3⟩ := hr
  have m0 := hm i 0
  have m1 := hm i 1
  have m2 := hm i 2
  rcases (show Kc i = 0 ∨ Kc i = 1 ∨ Kc i = 2 ∨ Kc i = 3 ∨ Kc i = 4 ∨ Kc i = 5 ∨ Kc i = 6 ∨ Kc i = 7 ∨ Kc i = 8 by omega) with e | e | e | e | e | e | e | e | e <;> rw [e] at r0 ⊢
  · exact C_X7_does0 hF hR hNs (by omega) (by omega) (by omega) (by omega) r0 r1 (r2 (by omega) (by omega) (by omega)) (r3 (by omega))
  · exact C_X7_does1 hF hR hNs (by omega) (by omega) (by omega) (by omega) r0 r1 (r2 (by omega) (by omega) (by omega)) (r3 (by omega))
  · exact C_X7_does2 hF hR hNs (by omega) (by omega) (by omega) (by omega) r0 r1 (r2 (by omega) (by omega) (by omega))
  · exact C_X7_does3 hF hR hNs (by omega) (by omega) (by omega) (by omega) r0 r1 (r2 (by omega) (by omega) (by omega))
  · exact C_X7_does4 hF hR hNs (by omega) (by omega) (by omega) (by omega) r0 r1 (r2 (by omega) (by omega) (by omega))
  · exact C_X7_does5 hF hR hNs (by omega) (by omega) (by omega) (by omega) r0 r1
  · exact C_X7_does6 hF hR hNs (by omega) (by omega) (by omega) (by omega) r0 r1 (r2 (by omega) (by omega) (by omega))
  · exact C_X7_does7 hF hR hNs (by omega) (by omega) (by omega) (by omega) r0 r1
  · exact C_X7_does8 hF hR hNs (by omega) (by omega) (by omega) (by omega) r0 r1

