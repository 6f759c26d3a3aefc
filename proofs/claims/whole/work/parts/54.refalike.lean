/-! ===== the reference: shapes that are alike ===== -/
theorem eFB_is {P : Int → Prop} [DecidablePred P] {n k : Int} (h0 : 0 ≤ k) (h1 : k < n) (hp : P k) (hl : ∀ j, 0 ≤ j → j < k → ¬ P j) : eFB P n 0 = k := by
  rcases eFB_or (P := P) (n := n) 0 with ⟨-, h2⟩ | ⟨g1, g2, g3, g4⟩
  · exact absurd hp (h2 k h0 h1)
  · have a1 : ¬ eFB P n 0 < k := fun q => hl _ g1 q g3
    have a2 : ¬ k < eFB P n 0 := fun q => g4 k h0 q hp
    omega
theorem eFB_ex {P : Int → Prop} [DecidablePred P] {n m : Int} (h0 : 0 ≤ m) (h1 : m < n) (hp : P m) : (0 ≤ eFB P n 0 ∧ eFB P n 0 < n) ∧ P (eFB P n 0) ∧ ∀ j, 0 ≤ j → j < eFB P n 0 → ¬ P j := by
  rcases eFB_or (P := P) (n := n) 0 with ⟨-, h2⟩ | ⟨g1, g2, g3, g4⟩
  · exact absurd hp (h2 m h0 h1)
  · exact ⟨⟨g1, g2⟩, g3, g4⟩
theorem eFB_m1 {P : Int → Prop} [DecidablePred P] {n : Int} : eFB P n 0 = -1 ↔ ∀ j, 0 ≤ j → j < n → ¬ P j := by
  rw [← eFB_neg (P := P) (n := n) (i := 0) (by omega)]
  have := eFB_in (P := P) (n := n) (i := 0) (by omega)
  omega
theorem and01 {q z : Int} (hq : q = 0 ∨ q = 1) (hz : z = 0 ∨ z = 1) : (bAnd q z = 0 ∨ bAnd q z = 1) ∧ (bAnd q z = 1 ↔ q = 1 ∧ z = 1) := by
  rcases hq with h | h <;> subst h <;> rcases hz with h | h <;> subst h <;> decide
/-- a flag says that P holds up to k -/
def eFl0 (P : Int → Prop) (k q : Int) : Prop := (q = 0 ∨ q = 1) ∧ (q = 1 ↔ ∀ r, 0 ≤ r → r < k → P r)
theorem eFl_0 {P : Int → Prop} : eFl0 P 0 1 := ⟨Or.inr rfl, fun _ r r0 r1 => by omega, fun _ => rfl⟩
theorem eFl_up {P : Int → Prop} {k q z : Int} (hk : 0 ≤ k) (e : eFl0 P k q) (hz : (z = 0 ∨ z = 1) ∧ (z = 1 ↔ P k)) : eFl0 P (k + 1) (bAnd q z) := by
  have h := and01 e.1 hz.1
  refine ⟨h.1, ?_⟩
  rw [h.2, e.2, hz.2]
  constructor
  · rintro ⟨a, b⟩ r r0 r1
    rcases (show r < k ∨ r = k by omega) with c | c
    · exact a r r0 c
    · rw [c]; exact b
  · intro a
    exact ⟨fun r r0 r1 => a r r0 (by omega), a k hk (by omega)⟩
theorem eFl_v {P : Int → Prop} {k q : Int} (e : eFl0 P k q) : vi q = vb (q = 1) := by
  rcases e.1 with h | h <;> subst h <;> rfl
abbrev mAl (M : eFs) (i j : Int) : Prop := eFB (fun r => ¬ M.2 0 (58 + 12 * i + r) = M.2 0 (58 + 12 * j + r)) 12 0 = -1
abbrev mIs (M : eFs) (i : Int) : Prop := eFB (fun r => ¬ M.2 1 r = M.2 0 (58 + 12 * i + r)) 12 0 = -1
abbrev mNw (M : eFs) (k : Int) : Prop := eFB (fun j => mAl M j k) k 0 = -1
theorem eFl_m1 {P : Int → Prop} [DecidablePred P] {k q n : Int} (e : eFl0 P k q) (hn : k = n) : q = 1 ↔ eFB (fun r => ¬ P r) n 0 = -1 := by
  subst hn
  rw [e.2, eFB_m1]
  constructor
  · intro a j j0 j1 q; exact q (a j j0 j1)
  · intro a j j0 j1; exact Decidable.not_not.mp (a j j0 j1)
theorem eFl_m2 {P : Int → Prop} [DecidablePred P] {k q n : Int} (e : eFl0 (fun r => ¬ P r) k q) (hn : k = n) : q = 1 ↔ eFB (fun r => P r) n 0 = -1 := by
  subst hn
  rw [e.2, eFB_m1]
theorem mAl_iff {M : eFs} {i j : Int} : mAl M i j ↔ ∀ r, 0 ≤ r → r < 12 → M.2 0 (58 + 12 * i + r) = M.2 0 (58 + 12 * j + r) := by
  unfold mAl
  rw [eFB_m1]
  exact ⟨fun a r r0 r1 => Decidable.not_not.mp (a r r0 r1), fun a r r0 r1 q => q (a r r0 r1)⟩
theorem mAl_eq {N : Int} {F M : eFs} (hF : okF N F) (hR : mR F (M.2 0)) {i j : Int} (hi : 0 ≤ i ∧ i < F.1 10) (hj : 0 ≤ j ∧ j < F.1 10) : mAl M i j ↔ sEq3 (F.2 5) ((F.1 11 - 1 - i) % 16) (F.2 5) ((F.1 11 - 1 - j) % 16) := by
  have hw : sL48 (F.2 5) := hF.2.2.2.2.2.2.2.2.2.2.2.2.2.2.2.2.2
  rw [mSh_eq hw hw (hR.2.2.2 i hi.1 hi.2) (hR.2.2.2 j hj.1 hj.2), mAl_iff]
theorem mIs_eq {N : Int} {F M : eFs} {sh : Int → Int} (hF : okF N F) (hR : mR F (M.2 0)) (hs : mSh (sShp F) 0 sh 0) (h1 : M.2 1 = sh) {i : Int} (hi : 0 ≤ i ∧ i < F.1 10) : mIs M i ↔ sEq3 (F.2 5) ((F.1 11 - 1 - i) % 16) (sShp F) 0 := by
  have hw : sL48 (F.2 5) := hF.2.2.2.2.2.2.2.2.2.2.2.2.2.2.2.2.2
  rw [mSh_eq hw (sShp_in hF).1 (hR.2.2.2 i hi.1 hi.2) hs]
  unfold mIs
  rw [eFB_m1, h1]
  constructor
  · intro a r r0 r1
    have := Decidable.not_not.mp (a r r0 r1)
    rw [show (0 : Int) + r = r by omega]
    exact this.symm
  · intro a r r0 r1 q
    have := a r r0 r1
    rw [show (0 : Int) + r = r by omega] at this
    exact q this.symm
/-- two counts that are one to one -/
theorem cnt_bij {n : Int} {P Q : Int → Prop} [DecidablePred P] [DecidablePred Q] {φ ψ : Int → Int} (h1 : ∀ k, 0 ≤ k → k < n → P k → (0 ≤ φ k ∧ φ k < n) ∧ Q (φ k) ∧ ψ (φ k) = k) (h2 : ∀ s, 0 ≤ s → s < n → Q s → (0 ≤ ψ s ∧ ψ s < n) ∧ P (ψ s) ∧ φ (ψ s) = s) : eCB P n 0 = eCB Q n 0 := by
  have a : eCB P n 0 = eSB (fun k => eSB (fun s => eI1 (P k ∧ Q s ∧ φ k = s)) n 0) n 0 := by
    unfold eCB
    apply eSB_cong
    intro k k0 k1
    by_cases hp : P k
    · obtain ⟨g1, g2, g3⟩ := h1 k k0 k1 hp
      have : eSB (fun s => eI1 (P k ∧ Q s ∧ φ k = s)) n 0 = eSB (eU (fun _ => 0) (φ k) 1) n 0 := by
        apply eSB_cong
        intro s s0 s1
        by_cases e : s = φ k
        · subst e; rw [eU_self]; exact eI1_t ⟨hp, g2, rfl⟩
        · rw [eU_ne e]; exact eI1_f (fun q => e q.2.2.symm)
      rw [this, eSB_upd g1.1 g1.2, eSB_zero (fun _ _ _ => rfl), eI1_t hp]
      rfl
    · rw [eI1_f hp]
      exact (eSB_zero (fun s _ _ => eI1_f (fun q => hp q.1))).symm
  have b : eCB Q n 0 = eSB (fun s => eSB (fun k => eI1 (P k ∧ Q s ∧ φ k = s)) n 0) n 0 := by
    unfold eCB
    apply eSB_cong
    intro s s0 s1
    by_cases hq : Q s
    · obtain ⟨g1, g2, g3⟩ := h2 s s0 s1 hq
      have : eSB (fun k => eI1 (P k ∧ Q s ∧ φ k = s)) n 0 = eSB (eU (fun _ => 0) (ψ s) 1) n 0 := by
        apply eSB_cong
        intro k k0 k1
        by_cases e : k = ψ s
        · subst e; rw [eU_self]; exact eI1_t ⟨g2, hq, g3⟩
        · rw [eU_ne e]
          exact eI1_f (fun q => e (by rw [← q.2.2]; exact (h1 k k0 k1 q.1).2.2.symm))
      rw [this, eSB_upd g1.1 g1.2, eSB_zero (fun _ _ _ => rfl), eI1_t hq]
      rfl
    · rw [eI1_f hq]
      exact (eSB_zero (fun k _ _ => eI1_f (fun q => hq q.2.1))).symm
  rw [a, b]
  exact eSB_swap (f := fun k s => eI1 (P k ∧ Q s ∧ φ k = s))
theorem sEq3_rf {x : Int → Int} {s : Int} : sEq3 x s x s := ⟨rfl, rfl, rfl⟩
theorem sEq3_sy {x : Int → Int} {s t : Int} (h : sEq3 x s x t) : sEq3 x t x s := ⟨h.1.symm, h.2.1.symm, h.2.2.symm⟩
theorem sEq3_tr {x : Int → Int} {s t u : Int} (h : sEq3 x s x t) (g : sEq3 x t x u) : sEq3 x s x u := ⟨h.1.trans g.1, h.2.1.trans g.2.1, h.2.2.trans g.2.2⟩
theorem mDif {N : Int} {F M : eFs} (hF : okF N F) (hR : mR F (M.2 0)) : eCB (fun k => mNw M k) (F.1 10) 0 = sDif F := by
  have hsh := hF.2.2.2.2.2.2.2.2.2.1
  have hnx := hF.2.2.2.2.2.2.2.2.2.2.1
  have sl : ∀ k, 0 ≤ k → k < F.1 10 → (0 ≤ (F.1 11 - 1 - k) % 16 ∧ (F.1 11 - 1 - k) % 16 < F.1 10) ∧ (F.1 11 - 1 - (F.1 11 - 1 - k) % 16) % 16 = k := by
    intro k k0 k1
    omega
  have al := fun i j (hi : 0 ≤ i ∧ i < F.1 10) (hj : 0 ≤ j ∧ j < F.1 10) => mAl_eq hF hR hi hj
  unfold sDif
  refine cnt_bij (φ := fun k => eFB (fun e => sEq3 (F.2 5) e (F.2 5) ((F.1 11 - 1 - k) % 16)) (F.1 10) 0) (ψ := fun s => eFB (fun j => sEq3 (F.2 5) ((F.1 11 - 1 - j) % 16) (F.2 5) s) (F.1 10) 0) (fun k k0 k1 hp => ?_) (fun s s0 s1 hq => ?_)
  · have sk := sl k k0 k1
    have nw := eFB_m1.mp hp
    obtain ⟨g1, g2, g3⟩ := eFB_ex (P := fun e => sEq3 (F.2 5) e (F.2 5) ((F.1 11 - 1 - k) % 16)) (n := F.1 10) sk.1.1 sk.1.2 sEq3_rf
    refine ⟨g1, ?_, ?_⟩
    · intro q
      refine q (eFB_m1.mpr (fun e e0 e1 r => ?_))
      exact g3 e e0 e1 (sEq3_tr r g2)
    · refine eFB_is k0 k1 (sEq3_sy g2) (fun j j0 j1 r => ?_)
      exact nw j j0 j1 ((al j k ⟨j0, by omega⟩ ⟨k0, k1⟩).mpr (sEq3_tr r g2))
  · have ss := sl s s0 s1
    have nb : ∀ e, 0 ≤ e → e < s → ¬ sEq3 (F.2 5) e (F.2 5) s := eFB_m1.mp (Decidable.not_not.mp hq)
    obtain ⟨g1, g2, g3⟩ := eFB_ex (P := fun j => sEq3 (F.2 5) ((F.1 11 - 1 - j) % 16) (F.2 5) s) (n := F.1 10) ss.1.1 ss.1.2 (by show sEq3 (F.2 5) ((F.1 11 - 1 - (F.1 11 - 1 - s) % 16) % 16) (F.2 5) s; rw [ss.2]; exact sEq3_rf)
    refine ⟨g1, ?_, ?_⟩
    · refine eFB_m1.mpr (fun j j0 j1 r => ?_)
      exact g3 j j0 j1 (sEq3_tr ((al j _ ⟨j0, by omega⟩ g1).mp r) g2)
    · refine eFB_is s0 s1 (sEq3_sy g2) (fun e e0 e1 r => ?_)
      exact nb e e0 e1 (sEq3_tr r g2)
theorem msq_y {a : Nat → Nat} {M : eFs} {T v w : Int} {sh : Int → Int} (hT : T = 0) (hv : w = v) : eRets (some (vi (if T = 0 then v else 0))) a (fun cs1 => ∃ sh : Int → Int, cs1 = wM a (sR (sS M 0 T) 1 sh)) (.inl (some (vi w))) a (wM a (sS (sR M 1 sh) 0 0)) := by
  subst hT; subst hv
  exact ⟨by rw [if_pos rfl], rfl, sh, rfl⟩
theorem msq_n {a : Nat → Nat} {M : eFs} {T v : Int} {sh : Int → Int} (hT : T = 1) : eRets (some (vi (if T = 0 then v else 0))) a (fun cs1 => ∃ sh : Int → Int, cs1 = wM a (sR (sS M 0 T) 1 sh)) (.inl (some (vi 0))) a (wM a (sS (sR M 1 sh) 0 1)) := by
  subst hT
  exact ⟨by rw [if_neg (by decide)], rfl, sh, rfl⟩

theorem C_X7_areAlike {X : eXT} {a : Nat → Nat} {N : Int} {F M : eFs} (hF : okF N F) (hR : mR F (M.2 0)) {i j : Int} (hi : 0 ≤ i ∧ i < F.1 10) (hj : 0 ≤ j ∧ j < F.1 10) :
    EM X mX7_areAlike (eRm 0) a [.ref (a 0), vi i, vi j] (wM a M) (eRet (some (vb (mAl M i j))) a (wM a M)) := by
  refine EM.of (by decide +kernel) rfl (Nat.le_of_ble_eq_true rfl) ?_
  have hF0 := hF
  obtain ⟨hc, hld, hled, htn, hgo, hkp, hst, hwt, hcl, hsh, hnx, hN, rx, ry, rh, rm, rc, rw9⟩ := hF
  obtain ⟨⟨n0, n1, n2, n3, n4, n5, n6, n7, n8, n9⟩, hb, hcd, hss⟩ := id hR
  refine e_iconst dX7_areAlike_0 rfl ?_
  refine f_istore_n dX7_areAlike_1 rfl (Nat.le_of_ble_eq_true rfl) rfl ?_
  refine e_iconst dX7_areAlike_2 rfl ?_
  refine f_istore dX7_areAlike_3 rfl (Nat.le_of_ble_eq_true rfl) rfl ?_
  have hL5 : ∀ (k5 : Nat) (k q : Int) (hk5 : (12 - k).toNat = k5) (g5 : 0 ≤ k ∧ k ≤ 12) (e5 : eFl0 (fun r => M.2 0 (58 + 12 * i + r) = M.2 0 (58 + 12 * j + r)) k q) , EV (mX7_areAlike, (eRm 0), eRet (some (vb (mAl M i j))) a (wM a M), X) a (0, 0) (wM a M) 5 [some (.ref (a 0)), some (vi i), some (vi j), some (vi q), some (vi k)] [] := by
    intro k5
    induction k5 using Nat.strongRecOn with
    | _ k5 ih5 =>
    intro k q hk5 g5 e5
    have q01 := e5.1
    refine e_iload dX7_areAlike_5 rfl rfl ?_
    refine e_bipush dX7_areAlike_7 rfl rfl ?_
    refine e_icmp_ge (t := 59) dX7_areAlike_9 rfl rfl (by omega) (by omega) (fun h9 => ?_) (fun h9 => ?_)
    · refine e_iload_n dX7_areAlike_59 rfl rfl ?_
      refine EV.eq (st' := [vb (q = 1)]) (by show [vi q] = _; rw [eFl_v e5]) ?_
      exact e_iret dX7_areAlike_60 rfl eNarB (eRet_b (eFl_m1 e5 (by omega)) rfl)
    · have hJ51 : ∀ (z : Int) (hz : (z = 0 ∨ z = 1) ∧ (z = 1 ↔ M.2 0 (58 + 12 * i + k) = M.2 0 (58 + 12 * j + k))), EV (mX7_areAlike, (eRm 0), eRet (some (vb (mAl M i j))) a (wM a M), X) a (0, 0) (wM a M) 51 [some (.ref (a 0)), some (vi i), some (vi j), some (vi q), some (vi k)] [vi z, vi q] := by
        intro z hz
        refine e_iand dX7_areAlike_51 rfl ?_
        refine f_istore_n dX7_areAlike_52 rfl (Nat.le_of_ble_eq_true rfl) rfl ?_
        refine f_iinc dX7_areAlike_53 rfl rfl (Nat.le_of_ble_eq_true rfl) rfl ?_
        refine e_goto (n := 5) dX7_areAlike_56 rfl ?_
        exact ih5 _ (by omega) (k + 1) (bAnd q z) rfl (by omega) (eFl_up g5.1 e5 hz)
      refine e_iload_n dX7_areAlike_12 rfl rfl ?_
      refine e_aload_n dX7_areAlike_13 rfl rfl ?_
      refine e_getfield fd_X7_9 dX7_areAlike_14 rfl rfl rfl rfl ?_
      refine e_bipush dX7_areAlike_17 rfl rfl ?_
      refine e_bipush dX7_areAlike_19 rfl rfl ?_
      refine e_iload_n dX7_areAlike_21 rfl rfl ?_
      refine e_imul dX7_areAlike_22 rfl ?_
      refine e_iadd dX7_areAlike_23 rfl ?_
      refine e_iload dX7_areAlike_24 rfl rfl ?_
      refine e_iadd dX7_areAlike_26 rfl ?_
      refine e_iaload dX7_areAlike_27 rfl rfl rfl (by omega) (by decide) ?_
      have ri := (hss i hi.1 hi.2 k (by omega) (by omega)).1
      have rj := (hss j hj.1 hj.2 k (by omega) (by omega)).1
      refine e_aload_n dX7_areAlike_28 rfl rfl ?_
      refine e_getfield fd_X7_9 dX7_areAlike_29 rfl rfl rfl rfl ?_
      refine e_bipush dX7_areAlike_32 rfl rfl ?_
      refine e_bipush dX7_areAlike_34 rfl rfl ?_
      refine e_iload_n dX7_areAlike_36 rfl rfl ?_
      refine e_imul dX7_areAlike_37 rfl ?_
      refine e_iadd dX7_areAlike_38 rfl ?_
      refine e_iload dX7_areAlike_39 rfl rfl ?_
      refine e_iadd dX7_areAlike_41 rfl ?_
      refine e_iaload dX7_areAlike_42 rfl rfl rfl (by omega) (by decide) ?_
      refine e_icmp_ne (t := 50) dX7_areAlike_43 rfl rfl (by omega) (by omega) (fun h43 => ?_) (fun h43 => ?_)
      · refine e_iconst dX7_areAlike_50 rfl ?_
        exact hJ51 _ ⟨by omega, by omega⟩
      · refine e_iconst dX7_areAlike_46 rfl ?_
        refine e_goto (n := 51) dX7_areAlike_47 rfl ?_
        exact hJ51 _ ⟨by omega, by omega⟩
  exact hL5 _ 0 1 rfl (by omega) eFl_0
theorem C_X7_differentShapes {X : eXT} {a : Nat → Nat} {N : Int} {F M : eFs} (hF : okF N F) (hR : mR F (M.2 0))  :
    EM X mX7_differentShapes (eRm 1) a [.ref (a 0)] (wM a M) (eRet (some (vi (sDif F))) a (wM a (sS M 0 0))) := by
  refine EM.of (by decide +kernel) rfl (Nat.le_of_ble_eq_true rfl) ?_
  have hF0 := hF
  obtain ⟨hc, hld, hled, htn, hgo, hkp, hst, hwt, hcl, hsh, hnx, hN, rx, ry, rh, rm, rc, rw9⟩ := hF
  obtain ⟨⟨n0, n1, n2, n3, n4, n5, n6, n7, n8, n9⟩, hb, hcd, hss⟩ := id hR
  refine e_aload_n dX7_differentShapes_0 rfl rfl ?_
  refine e_iconst dX7_differentShapes_1 rfl ?_
  refine e_putfield fd_X7_33 dX7_differentShapes_2 rfl rfl rfl (Nat.le_of_ble_eq_true rfl) rfl rfl ?_
  refine EV.ceq (cs' := wM a (sS M 0 0)) rfl ?_
  refine e_iconst dX7_differentShapes_5 rfl ?_
  refine f_istore_n dX7_differentShapes_6 rfl (Nat.le_of_ble_eq_true rfl) rfl ?_
  refine e_iconst dX7_differentShapes_7 rfl ?_
  refine f_istore_n dX7_differentShapes_8 rfl (Nat.le_of_ble_eq_true rfl) rfl ?_
  have hL9 : ∀ (k9 : Nat) (k n : Int) (hk9 : ((F.1 10) - k).toNat = k9) (g9 : 0 ≤ k ∧ k ≤ F.1 10) (e9 : 0 + eCB (fun k => mNw M k) (F.1 10) 0 = n + eCB (fun k => mNw M k) (F.1 10) k) , EV (mX7_differentShapes, (eRm 1), eRet (some (vi (sDif F))) a (wM a (sS M 0 0)), X) a (0, 0) (wM a (sS M 0 0)) 9 [some (.ref (a 0)), some (vi n), some (vi k), none, none] [] := by
    intro k9
    induction k9 using Nat.strongRecOn with
    | _ k9 ih9 =>
    intro k n hk9 g9 e9
    refine e_iload_n dX7_differentShapes_9 rfl rfl ?_
    refine e_aload_n dX7_differentShapes_10 rfl rfl ?_
    refine e_getfield fd_X7_9 dX7_differentShapes_11 rfl rfl rfl rfl ?_
    refine e_bipush dX7_differentShapes_14 rfl rfl ?_
    refine e_iaload dX7_differentShapes_16 rfl rfl rfl (by omega) (by decide) ?_
    refine EV.eq (st' := [vi (F.1 10), vi k]) (by show [vi (M.2 0 9), vi k] = _; rw [n9]) ?_
    refine e_icmp_ge (t := 73) dX7_differentShapes_17 rfl rfl (by omega) (by omega) (fun h17 => ?_) (fun h17 => ?_)
    · refine e_iload_n dX7_differentShapes_73 rfl rfl ?_
      exact e_iret dX7_differentShapes_74 rfl rfl (eRet_i (by have w := eCB_end (P := fun k => mNw M k) (n := F.1 10) (i := k) (by omega); have w2 := mDif hF0 hR; omega) rfl)
    · refine e_iconst dX7_differentShapes_20 rfl ?_
      refine f_istore_n dX7_differentShapes_21 rfl (Nat.le_of_ble_eq_true rfl) rfl ?_
      refine e_iconst dX7_differentShapes_22 rfl ?_
      refine f_istore dX7_differentShapes_23 rfl (Nat.le_of_ble_eq_true rfl) rfl ?_
      have hL25 : ∀ (k25 : Nat) (j q : Int) (hk25 : (k - j).toNat = k25) (g25 : 0 ≤ j ∧ j ≤ k) (e25 : eFl0 (fun j => ¬ mAl M j k) j q), EV (mX7_differentShapes, (eRm 1), eRet (some (vi (sDif F))) a (wM a (sS M 0 0)), X) a (0, 0) (wM a (sS M 0 0)) 25 [some (.ref (a 0)), some (vi n), some (vi k), some (vi q), some (vi j)] [] := by
        intro k25
        induction k25 using Nat.strongRecOn with
        | _ k25 ih25 =>
        intro j q hk25 g25 e25
        have q01 := e25.1
        refine e_iload dX7_differentShapes_25 rfl rfl ?_
        refine e_iload_n dX7_differentShapes_27 rfl rfl ?_
        refine e_icmp_ge (t := 55) dX7_differentShapes_28 rfl rfl (by omega) (by omega) (fun h28 => ?_) (fun h28 => ?_)
        · have hJ65 : ∀ (z : Int) (hz : z = eI1 (mNw M k)), EV (mX7_differentShapes, (eRm 1), eRet (some (vi (sDif F))) a (wM a (sS M 0 0)), X) a (0, 0) (wM a (sS M 0 0)) 65 [some (.ref (a 0)), some (vi n), some (vi k), none, none] [vi z, vi n] := by
            intro z hz
            refine e_iadd dX7_differentShapes_65 rfl ?_
            refine f_istore_n dX7_differentShapes_66 rfl (Nat.le_of_ble_eq_true rfl) rfl ?_
            refine f_iinc dX7_differentShapes_67 rfl rfl (Nat.le_of_ble_eq_true rfl) rfl ?_
            refine e_goto (n := 9) dX7_differentShapes_70 rfl ?_
            refine EV.fgt 3 ?_
            refine EV.fgt 4 ?_
            exact ih9 _ (by omega) (k + 1) (n + z) rfl (by omega) (by have w := eCB_go (P := fun k => mNw M k) (n := F.1 10) (i := k) (by omega); omega)
          refine e_iload_n dX7_differentShapes_55 rfl rfl ?_
          have nw : q = 1 ↔ mNw M k := eFl_m2 e25 (by omega)
          refine e_iload_n dX7_differentShapes_56 rfl rfl ?_
          refine e_if_eq (t := 64) dX7_differentShapes_57 rfl rfl (by omega) (fun h57 => ?_) (fun h57 => ?_)
          · refine e_iconst dX7_differentShapes_64 rfl ?_
            refine EV.fgt 3 ?_
            refine EV.fgt 4 ?_
            exact hJ65 _ (eI1_f (fun r => absurd (nw.mpr r) (by omega))).symm
          · refine e_iconst dX7_differentShapes_60 rfl ?_
            refine e_goto (n := 65) dX7_differentShapes_61 rfl ?_
            refine EV.fgt 3 ?_
            refine EV.fgt 4 ?_
            exact hJ65 _ (eI1_t (nw.mp (by omega))).symm
        · have hJ47 : ∀ (z : Int) (hz : (z = 0 ∨ z = 1) ∧ (z = 1 ↔ ¬ mAl M j k)), EV (mX7_differentShapes, (eRm 1), eRet (some (vi (sDif F))) a (wM a (sS M 0 0)), X) a (0, 0) (wM a (sS M 0 0)) 47 [some (.ref (a 0)), some (vi n), some (vi k), some (vi q), some (vi j)] [vi z, vi q] := by
            intro z hz
            refine e_iand dX7_differentShapes_47 rfl ?_
            refine f_istore_n dX7_differentShapes_48 rfl (Nat.le_of_ble_eq_true rfl) rfl ?_
            refine f_iinc dX7_differentShapes_49 rfl rfl (Nat.le_of_ble_eq_true rfl) rfl ?_
            refine e_goto (n := 25) dX7_differentShapes_52 rfl ?_
            exact ih25 _ (by omega) (j + 1) (bAnd q z) rfl (by omega) (eFl_up g25.1 e25 hz)
          refine e_iload_n dX7_differentShapes_31 rfl rfl ?_
          refine e_aload_n dX7_differentShapes_32 rfl rfl ?_
          refine e_iload dX7_differentShapes_33 rfl rfl ?_
          refine e_iload_n dX7_differentShapes_35 rfl rfl ?_
          refine e_cV0 [0, 1, 2, 3, 4, 5] lk_X7_193 rfl dX7_differentShapes_36 rfl (C_X7_areAlike (M := sS M 0 0) hF0 hR (i := j) (j := k) (by omega) (by omega)) rfl rfl (Nat.le_of_ble_eq_true rfl) (Nat.le_of_ble_eq_true rfl) (Nat.le_of_ble_eq_true rfl) ⟨rfl, rfl⟩ rfl rfl rfl rfl rfl rfl  ?_
          refine EV.eq (st' := [vb (mAl M j k), vi q]) rfl ?_
          refine e_ifb_ne (t := 46) dX7_differentShapes_39 rfl rfl (fun h39 => ?_) (fun h39 => ?_)
          · refine e_iconst dX7_differentShapes_46 rfl ?_
            exact hJ47 _ ⟨by omega, fun q => absurd q (by decide), fun q => absurd h39 q⟩
          · refine e_iconst dX7_differentShapes_42 rfl ?_
            refine e_goto (n := 47) dX7_differentShapes_43 rfl ?_
            exact hJ47 _ ⟨by omega, fun _ => h39, fun _ => rfl⟩
      exact hL25 _ 0 1 rfl (by omega) eFl_0
  refine EV.fgt 3 ?_
  refine EV.fgt 4 ?_
  exact hL9 _ 0 0 rfl (by omega) rfl 
theorem C_X7_isShape {X : eXT} {a : Nat → Nat} {N : Int} {F M : eFs} (hF : okF N F) (hR : mR F (M.2 0)) {i : Int} (hi : 0 ≤ i ∧ i < F.1 10) (hsh1 : ∀ r, 0 ≤ r → r < 12 → 0 ≤ M.2 1 r ∧ M.2 1 r ≤ 4095) :
    EM X mX7_isShape (eRm 0) a [.ref (a 0), vi i] (wM a M) (eRet (some (vb (mIs M i))) a (wM a M)) := by
  refine EM.of (by decide +kernel) rfl (Nat.le_of_ble_eq_true rfl) ?_
  have hF0 := hF
  obtain ⟨hc, hld, hled, htn, hgo, hkp, hst, hwt, hcl, hsh, hnx, hN, rx, ry, rh, rm, rc, rw9⟩ := hF
  obtain ⟨⟨n0, n1, n2, n3, n4, n5, n6, n7, n8, n9⟩, hb, hcd, hss⟩ := id hR
  refine e_iconst dX7_isShape_0 rfl ?_
  refine f_istore_n dX7_isShape_1 rfl (Nat.le_of_ble_eq_true rfl) rfl ?_
  refine e_iconst dX7_isShape_2 rfl ?_
  refine f_istore_n dX7_isShape_3 rfl (Nat.le_of_ble_eq_true rfl) rfl ?_
  have hL4 : ∀ (k4 : Nat) (k q : Int) (hk4 : (12 - k).toNat = k4) (g4 : 0 ≤ k ∧ k ≤ 12) (e4 : eFl0 (fun r => M.2 1 r = M.2 0 (58 + 12 * i + r)) k q) , EV (mX7_isShape, (eRm 0), eRet (some (vb (mIs M i))) a (wM a M), X) a (0, 0) (wM a M) 4 [some (.ref (a 0)), some (vi i), some (vi q), some (vi k)] [] := by
    intro k4
    induction k4 using Nat.strongRecOn with
    | _ k4 ih4 =>
    intro k q hk4 g4 e4
    have q01 := e4.1
    refine e_iload_n dX7_isShape_4 rfl rfl ?_
    refine e_bipush dX7_isShape_5 rfl rfl ?_
    refine e_icmp_ge (t := 47) dX7_isShape_7 rfl rfl (by omega) (by omega) (fun h7 => ?_) (fun h7 => ?_)
    · refine e_iload_n dX7_isShape_47 rfl rfl ?_
      refine EV.eq (st' := [vb (q = 1)]) (by show [vi q] = _; rw [eFl_v e4]) ?_
      exact e_iret dX7_isShape_48 rfl eNarB (eRet_b (eFl_m1 e4 (by omega)) rfl)
    · have hJ39 : ∀ (z : Int) (hz : (z = 0 ∨ z = 1) ∧ (z = 1 ↔ M.2 1 k = M.2 0 (58 + 12 * i + k))), EV (mX7_isShape, (eRm 0), eRet (some (vb (mIs M i))) a (wM a M), X) a (0, 0) (wM a M) 39 [some (.ref (a 0)), some (vi i), some (vi q), some (vi k)] [vi z, vi q] := by
        intro z hz
        refine e_iand dX7_isShape_39 rfl ?_
        refine f_istore_n dX7_isShape_40 rfl (Nat.le_of_ble_eq_true rfl) rfl ?_
        refine f_iinc dX7_isShape_41 rfl rfl (Nat.le_of_ble_eq_true rfl) rfl ?_
        refine e_goto (n := 4) dX7_isShape_44 rfl ?_
        exact ih4 _ (by omega) (k + 1) (bAnd q z) rfl (by omega) (eFl_up g4.1 e4 hz)
      refine e_iload_n dX7_isShape_10 rfl rfl ?_
      refine e_aload_n dX7_isShape_11 rfl rfl ?_
      refine e_getfield fd_X7_13 dX7_isShape_12 rfl rfl rfl rfl ?_
      refine e_iload_n dX7_isShape_15 rfl rfl ?_
      refine e_iaload dX7_isShape_16 rfl rfl rfl (by omega) (by decide) ?_
      refine e_aload_n dX7_isShape_17 rfl rfl ?_
      refine e_getfield fd_X7_9 dX7_isShape_18 rfl rfl rfl rfl ?_
      refine e_bipush dX7_isShape_21 rfl rfl ?_
      refine e_bipush dX7_isShape_23 rfl rfl ?_
      refine e_iload_n dX7_isShape_25 rfl rfl ?_
      refine e_imul dX7_isShape_26 rfl ?_
      refine e_iadd dX7_isShape_27 rfl ?_
      have ri := (hss i hi.1 hi.2 k (by omega) (by omega)).1
      have rj := hsh1 k (by omega) (by omega)
      refine e_iload_n dX7_isShape_28 rfl rfl ?_
      refine e_iadd dX7_isShape_29 rfl ?_
      refine e_iaload dX7_isShape_30 rfl rfl rfl (by omega) (by decide) ?_
      refine e_icmp_ne (t := 38) dX7_isShape_31 rfl rfl (by omega) (by omega) (fun h31 => ?_) (fun h31 => ?_)
      · refine e_iconst dX7_isShape_38 rfl ?_
        exact hJ39 _ ⟨by omega, by omega⟩
      · refine e_iconst dX7_isShape_34 rfl ?_
        refine e_goto (n := 39) dX7_isShape_35 rfl ?_
        exact hJ39 _ ⟨by omega, by omega⟩
  exact hL4 _ 0 1 rfl (by omega) eFl_0
theorem C_X7_stepsSinceShape {X : eXT} {a : Nat → Nat} {N : Int} {F M : eFs} (hF : okF N F) (hR : mR F (M.2 0))  :
    EM X mX7_stepsSinceShape (eRm 2) a [.ref (a 0)] (wM a M) (eRets (some (vi (if ((if ¬ sSince F = -1 then 0 else 1) : Int) = 0 then sSince F else 0))) a (fun cs1 => ∃ sh : Int → Int, cs1 = wM a (sR (sS M 0 (if ¬ sSince F = -1 then 0 else 1)) 1 sh))) := by
  refine EM.of (by decide +kernel) rfl (Nat.le_of_ble_eq_true rfl) ?_
  have hF0 := hF
  obtain ⟨hc, hld, hled, htn, hgo, hkp, hst, hwt, hcl, hsh, hnx, hN, rx, ry, rh, rm, rc, rw9⟩ := hF
  obtain ⟨⟨n0, n1, n2, n3, n4, n5, n6, n7, n8, n9⟩, hb, hcd, hss⟩ := id hR
  refine e_aload_n dX7_stepsSinceShape_0 rfl rfl ?_
  refine e_cV1 [0, 1, 2, 3, 4, 5] lk_X7_102 rfl dX7_stepsSinceShape_1 rfl (C_X7_shapes hF0 hR) rfl rfl (Nat.le_of_ble_eq_true rfl) (Nat.le_of_ble_eq_true rfl) (Nat.le_of_ble_eq_true rfl) ⟨rfl, rfl⟩ rfl rfl rfl rfl rfl rfl (fun cs1 hcs => by obtain ⟨sh, hcs, -⟩ := hcs; rw [hcs]; rfl) ?_
  intro cs1 hcs
  obtain ⟨sh, hcs, hs⟩ := hcs
  subst hcs
  have hsh1 : ∀ r, 0 ≤ r → r < 12 → 0 ≤ sh r ∧ sh r ≤ 4095 := fun r r0 r1 => by have := (hs r r0 r1).1; rw [show (0 : Int) + r = r by omega] at this; exact this
  refine e_iconst dX7_stepsSinceShape_4 rfl ?_
  refine f_istore_n dX7_stepsSinceShape_5 rfl (Nat.le_of_ble_eq_true rfl) rfl ?_
  have hL6 : ∀ (k6 : Nat) (k t : Int) (hk6 : (F.1 10 - k).toNat = k6) (g6 : 0 ≤ k ∧ k ≤ F.1 10) (e6 : eFB (fun k => sEq3 (F.2 5) ((F.1 11 - 1 - k) % 16) (sShp F) 0) (F.1 10) 0 = eFB (fun k => sEq3 (F.2 5) ((F.1 11 - 1 - k) % 16) (sShp F) 0) (F.1 10) k), EV (mX7_stepsSinceShape, (eRm 2), eRets (some (vi (if ((if ¬ sSince F = -1 then 0 else 1) : Int) = 0 then sSince F else 0))) a (fun cs1 => ∃ sh : Int → Int, cs1 = wM a (sR (sS M 0 (if ¬ sSince F = -1 then 0 else 1)) 1 sh)), X) a (0, 0) (wM a (sS (sR M 1 sh) 0 t)) 6 [some (.ref (a 0)), some (vi k)] [] := by
    intro k6
    induction k6 using Nat.strongRecOn with
    | _ k6 ih6 =>
    intro k t hk6 g6 e6
    refine e_iload_n dX7_stepsSinceShape_6 rfl rfl ?_
    refine e_aload_n dX7_stepsSinceShape_7 rfl rfl ?_
    refine e_getfield fd_X7_9 dX7_stepsSinceShape_8 rfl rfl rfl rfl ?_
    refine e_bipush dX7_stepsSinceShape_11 rfl rfl ?_
    refine e_iaload dX7_stepsSinceShape_13 rfl rfl rfl (by omega) (by decide) ?_
    refine EV.eq (st' := [vi (F.1 10), vi k]) (by show [vi (M.2 0 9), vi k] = _; rw [n9]) ?_
    refine e_icmp_ge (t := 37) dX7_stepsSinceShape_14 rfl rfl (by omega) (by omega) (fun h14 => ?_) (fun h14 => ?_)
    · refine e_aload_n dX7_stepsSinceShape_37 rfl rfl ?_
      refine e_iconst dX7_stepsSinceShape_38 rfl ?_
      refine e_putfield fd_X7_33 dX7_stepsSinceShape_39 rfl rfl rfl (Nat.le_of_ble_eq_true rfl) rfl rfl ?_
      refine EV.ceq (cs' := wM a (sS (sR M 1 sh) 0 1)) rfl ?_
      have hk : sSince F = -1 := e6.trans (eFB_end (by omega))
      refine e_iconst dX7_stepsSinceShape_42 rfl ?_
      exact e_iret dX7_stepsSinceShape_43 rfl rfl (msq_n (by rw [if_neg (by omega)]))
    · refine e_aload_n dX7_stepsSinceShape_17 rfl rfl ?_
      refine e_aload_n dX7_stepsSinceShape_18 rfl rfl ?_
      refine e_iload_n dX7_stepsSinceShape_19 rfl rfl ?_
      have ie : mIs (sS (sR M 1 sh) 0 t) k ↔ sEq3 (F.2 5) ((F.1 11 - 1 - k) % 16) (sShp F) 0 := mIs_eq (M := sS (sR M 1 sh) 0 t) hF0 hR hs rfl (by omega)
      refine e_cV0 [0, 1, 2, 3, 4, 5] lk_X7_196 rfl dX7_stepsSinceShape_20 rfl (C_X7_isShape (M := sS (sR M 1 sh) 0 t) hF0 hR (i := k) (by omega) hsh1) rfl rfl (Nat.le_of_ble_eq_true rfl) (Nat.le_of_ble_eq_true rfl) (Nat.le_of_ble_eq_true rfl) ⟨rfl, rfl⟩ rfl rfl rfl rfl rfl rfl  ?_
      refine e_cV2 [0, 1, 2, 3, 4, 5] lk_X7_78 rfl dX7_stepsSinceShape_23 rfl (C_X7_isFine (M := sS (sR M 1 sh) 0 t) (c := mIs (sS (sR M 1 sh) 0 t) k)) rfl rfl (Nat.le_of_ble_eq_true rfl) (Nat.le_of_ble_eq_true rfl) (Nat.le_of_ble_eq_true rfl) ⟨rfl, rfl⟩ rfl rfl rfl rfl rfl rfl rfl rfl ?_
      refine e_ifb_eq (t := 31) dX7_stepsSinceShape_26 rfl rfl (fun h26 => ?_) (fun h26 => ?_)
      · refine EV.ceq (cs' := wM a (sS (sR M 1 sh) 0 1)) (by rw [if_neg h26] <;> rfl) ?_
        refine f_iinc dX7_stepsSinceShape_31 rfl rfl (Nat.le_of_ble_eq_true rfl) rfl ?_
        refine e_goto (n := 6) dX7_stepsSinceShape_34 rfl ?_
        exact ih6 _ (by omega) (k + 1) 1 rfl (by omega) (e6.trans (eFB_go (by omega) (fun q => h26 (ie.mpr q))))
      · refine EV.ceq (cs' := wM a (sS (sR M 1 sh) 0 0)) (by rw [if_pos h26] <;> rfl) ?_
        have hk : sSince F = k := e6.trans (eFB_hit (by omega) (ie.mp h26))
        refine e_iload_n dX7_stepsSinceShape_29 rfl rfl ?_
        exact e_iret dX7_stepsSinceShape_30 rfl rfl (msq_y (by rw [if_pos (by omega)]) hk.symm)
  refine EV.ceq (cs' := wM a (sS (sR M 1 sh) 0 (M.1 0))) rfl ?_
  exact hL6 _ 0 (M.1 0) rfl (by omega) rfl
