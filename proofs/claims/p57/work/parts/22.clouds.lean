/-! ===== Clouds, Shapes ===== -/
theorem C_X0_inSky {X : eXT} {a : Nat → Nat} {x y : Int} (hx : -2147483648 ≤ x ∧ x ≤ 2147483647) (hy : -2147483648 ≤ y ∧ y ≤ 2147483647) :
    EM X mX0_inSky (eRm 0) a [vi x, vi y] ([]) (eRet (some (vb (sIn x y))) a []) := by
  refine EM.of (by decide +kernel) rfl (Nat.le_of_ble_eq_true rfl) ?_
  refine e_iload_n dX0_inSky_0 rfl rfl ?_
  refine e_if_lt (t := 24) dX0_inSky_1 rfl rfl (by omega) (fun h1 => ?_) (fun h1 => ?_)
  · refine e_iconst dX0_inSky_24 rfl ?_
    exact e_iret dX0_inSky_25 rfl (by decide) (eRet_f (by omega) rfl)
  · refine e_iload_n dX0_inSky_4 rfl rfl ?_
    refine e_bipush dX0_inSky_5 rfl rfl ?_
    refine e_icmp_ge (t := 24) dX0_inSky_7 rfl rfl (by omega) (by omega) (fun h7 => ?_) (fun h7 => ?_)
    · refine e_iconst dX0_inSky_24 rfl ?_
      exact e_iret dX0_inSky_25 rfl (by decide) (eRet_f (by omega) rfl)
    · refine e_iload_n dX0_inSky_10 rfl rfl ?_
      refine e_if_lt (t := 24) dX0_inSky_11 rfl rfl (by omega) (fun h11 => ?_) (fun h11 => ?_)
      · refine e_iconst dX0_inSky_24 rfl ?_
        exact e_iret dX0_inSky_25 rfl (by decide) (eRet_f (by omega) rfl)
      · refine e_iload_n dX0_inSky_14 rfl rfl ?_
        refine e_bipush dX0_inSky_15 rfl rfl ?_
        refine e_icmp_ge (t := 24) dX0_inSky_17 rfl rfl (by omega) (by omega) (fun h17 => ?_) (fun h17 => ?_)
        · refine e_iconst dX0_inSky_24 rfl ?_
          exact e_iret dX0_inSky_25 rfl (by decide) (eRet_f (by omega) rfl)
        · refine e_iconst dX0_inSky_20 rfl ?_
          refine e_goto (n := 25) dX0_inSky_21 rfl ?_
          exact e_iret dX0_inSky_25 rfl (by decide) (eRet_t (by omega) rfl)
theorem C_X0_covers {X : eXT} {a : Nat → Nat} {x y c : Int} {r : Int → Int} (hx : -2147483648 ≤ x ∧ x ≤ 2147483647) (hy : -2147483648 ≤ y ∧ y ≤ 2147483647) :
    EM X mX0_covers (eRm 1) a [.ref (a 0), vi x, vi y] (wCl a c r) (eRet (some (vb (sCov r x y))) a (wCl a c r)) := by
  refine EM.of (by decide +kernel) rfl (Nat.le_of_ble_eq_true rfl) ?_
  refine e_iload_n dX0_covers_0 rfl rfl ?_
  refine e_iload_n dX0_covers_1 rfl rfl ?_
  refine e_cS0 [] lk_X0_19 rfl dX0_covers_2 rfl (C_X0_inSky (by omega) (by omega)) rfl rfl (Nat.le_of_ble_eq_true rfl) (Nat.le_of_ble_eq_true rfl) (Nat.le_of_ble_eq_true rfl) ⟨rfl, rfl⟩ rfl rfl  ?_
  refine e_ifb_eq (t := 25) dX0_covers_5 rfl rfl (fun h5 => ?_) (fun h5 => ?_)
  · refine e_iconst dX0_covers_25 rfl ?_
    exact e_iret dX0_covers_26 rfl (by decide) (eRet_f (by omega) rfl)
  · refine e_aload_n dX0_covers_8 rfl rfl ?_
    refine e_getfield fd_X0_9 dX0_covers_9 rfl rfl rfl rfl ?_
    refine e_iload_n dX0_covers_12 rfl rfl ?_
    refine e_iaload dX0_covers_13 rfl rfl rfl (by first | omega | exact bAnd_rng) (by decide) ?_
    refine e_iconst dX0_covers_14 rfl ?_
    refine e_iload_n dX0_covers_15 rfl rfl ?_
    refine e_ishl dX0_covers_16 rfl ?_
    refine e_iand dX0_covers_17 rfl ?_
    refine e_if_eq (t := 25) dX0_covers_18 rfl rfl (by first | omega | exact bAnd_rng) (fun h18 => ?_) (fun h18 => ?_)
    · refine e_iconst dX0_covers_25 rfl ?_
      exact e_iret dX0_covers_26 rfl (by decide) (eRet_f (by omega) rfl)
    · refine e_iconst dX0_covers_21 rfl ?_
      refine e_goto (n := 26) dX0_covers_22 rfl ?_
      exact e_iret dX0_covers_26 rfl (by decide) (eRet_t (by omega) rfl)
theorem C_X0_put {X : eXT} {a : Nat → Nat} {x y c : Int} {r : Int → Int} (hin : sIn x y) (hnb : ¬ sBit (r y) x) :
    EM X mX0_put (eRm 2) a [.ref (a 0), vi x, vi y] (wCl a c r) (eRet (some (vi (c + 1))) a (wCl a (c + 1) (eU r y (bOr (r y) (bShl 1 x))))) := by
  refine EM.of (by decide +kernel) rfl (Nat.le_of_ble_eq_true rfl) ?_
  refine e_iload_n dX0_put_0 rfl rfl ?_
  refine e_iload_n dX0_put_1 rfl rfl ?_
  refine e_cS0 [] lk_X0_19 rfl dX0_put_2 rfl (C_X0_inSky (by omega) (by omega)) rfl rfl (Nat.le_of_ble_eq_true rfl) (Nat.le_of_ble_eq_true rfl) (Nat.le_of_ble_eq_true rfl) ⟨rfl, rfl⟩ rfl rfl  ?_
  refine e_ifb_eq (t := 39) dX0_put_5 rfl rfl (fun h5 => ?_) (fun h5 => ?_)
  · exact absurd hin h5
  · refine e_aload_n dX0_put_8 rfl rfl ?_
    refine e_iload_n dX0_put_9 rfl rfl ?_
    refine e_iload_n dX0_put_10 rfl rfl ?_
    refine e_cV0 [0, 1] lk_X0_23 rfl dX0_put_11 rfl (C_X0_covers (by omega) (by omega)) rfl rfl (Nat.le_of_ble_eq_true rfl) (Nat.le_of_ble_eq_true rfl) (Nat.le_of_ble_eq_true rfl) ⟨rfl, rfl⟩ rfl rfl rfl rfl rfl rfl  ?_
    refine e_ifb_ne (t := 39) dX0_put_14 rfl rfl (fun h14 => ?_) (fun h14 => ?_)
    · exact absurd h14.2 hnb
    · refine e_aload_n dX0_put_17 rfl rfl ?_
      refine e_getfield fd_X0_9 dX0_put_18 rfl rfl rfl rfl ?_
      refine e_iload_n dX0_put_21 rfl rfl ?_
      refine e_dup2 dX0_put_22 rfl rfl rfl ?_
      refine e_iaload dX0_put_23 rfl rfl rfl (by omega) (by decide) ?_
      refine e_iconst dX0_put_24 rfl ?_
      refine e_iload_n dX0_put_25 rfl rfl ?_
      refine e_ishl dX0_put_26 rfl ?_
      refine e_ior dX0_put_27 rfl ?_
      refine e_iastore dX0_put_28 rfl rfl rfl (by omega) (by decide) ?_
      refine e_aload_n dX0_put_29 rfl rfl ?_
      refine e_dup dX0_put_30 rfl rfl ?_
      refine e_getfield fd_X0_15 dX0_put_31 rfl rfl rfl rfl ?_
      refine e_iconst dX0_put_34 rfl ?_
      refine e_iadd dX0_put_35 rfl ?_
      refine e_putfield fd_X0_15 dX0_put_36 rfl rfl rfl (Nat.le_of_ble_eq_true rfl) rfl rfl ?_
      refine e_aload_n dX0_put_39 rfl rfl ?_
      refine e_getfield fd_X0_15 dX0_put_40 rfl rfl rfl rfl ?_
      exact e_iret dX0_put_43 rfl rfl (eRet_i (by omega) rfl)
theorem C_X0_remove {X : eXT} {a : Nat → Nat} {x y c : Int} {r : Int → Int} (hin : sCov r x y) :
    EM X mX0_remove (eRm 2) a [.ref (a 0), vi x, vi y] (wCl a c r) (eRet (some (vi (c - 1))) a (wCl a (c - 1) (eU r y (bAnd (r y) (bXor (bShl 1 x) (-1)))))) := by
  refine EM.of (by decide +kernel) rfl (Nat.le_of_ble_eq_true rfl) ?_
  refine e_aload_n dX0_remove_0 rfl rfl ?_
  refine e_iload_n dX0_remove_1 rfl rfl ?_
  refine e_iload_n dX0_remove_2 rfl rfl ?_
  refine e_cV0 [0, 1] lk_X0_23 rfl dX0_remove_3 rfl (C_X0_covers (by omega) (by omega)) rfl rfl (Nat.le_of_ble_eq_true rfl) (Nat.le_of_ble_eq_true rfl) (Nat.le_of_ble_eq_true rfl) ⟨rfl, rfl⟩ rfl rfl rfl rfl rfl rfl  ?_
  refine e_ifb_eq (t := 33) dX0_remove_6 rfl rfl (fun h6 => ?_) (fun h6 => ?_)
  · exact absurd hin h6
  · refine e_aload_n dX0_remove_9 rfl rfl ?_
    refine e_getfield fd_X0_9 dX0_remove_10 rfl rfl rfl rfl ?_
    refine e_iload_n dX0_remove_13 rfl rfl ?_
    refine e_dup2 dX0_remove_14 rfl rfl rfl ?_
    refine e_iaload dX0_remove_15 rfl rfl rfl (by omega) (by decide) ?_
    refine e_iconst dX0_remove_16 rfl ?_
    refine e_iload_n dX0_remove_17 rfl rfl ?_
    refine e_ishl dX0_remove_18 rfl ?_
    refine e_iconst dX0_remove_19 rfl ?_
    refine e_ixor dX0_remove_20 rfl ?_
    refine e_iand dX0_remove_21 rfl ?_
    refine e_iastore dX0_remove_22 rfl rfl rfl (by omega) (by decide) ?_
    refine e_aload_n dX0_remove_23 rfl rfl ?_
    refine e_dup dX0_remove_24 rfl rfl ?_
    refine e_getfield fd_X0_15 dX0_remove_25 rfl rfl rfl rfl ?_
    refine e_iconst dX0_remove_28 rfl ?_
    refine e_isub dX0_remove_29 rfl ?_
    refine e_putfield fd_X0_15 dX0_remove_30 rfl rfl rfl (Nat.le_of_ble_eq_true rfl) rfl rfl ?_
    refine e_aload_n dX0_remove_33 rfl rfl ?_
    refine e_getfield fd_X0_15 dX0_remove_34 rfl rfl rfl rfl ?_
    exact e_iret dX0_remove_37 rfl rfl (eRet_i (by omega) rfl)
theorem C_X0_copyFrom {X : eXT} {a : Nat → Nat} {c c2 : Int} {r r2 : Int → Int} :
    EM X mX0_copyFrom (eRm 1) a [.ref (a 0), .ref (a 2)] ([.inr (0, [.ref (a 1), vi c]), eI 0 12 r, .inr (0, [.ref (a 3), vi c2]), eI 0 12 r2]) (eRet none a [.inr (0, [.ref (a 1), vi c2]), eI 0 12 r2, .inr (0, [.ref (a 3), vi c2]), eI 0 12 r2]) := by
  refine EM.of (by decide +kernel) rfl (Nat.le_of_ble_eq_true rfl) ?_
  refine e_aload_n dX0_copyFrom_0 rfl rfl ?_
  refine e_getfield fd_X0_9 dX0_copyFrom_1 rfl rfl rfl rfl ?_
  refine e_iconst dX0_copyFrom_4 rfl ?_
  refine e_aload_n dX0_copyFrom_5 rfl rfl ?_
  refine e_getfield fd_X0_9 dX0_copyFrom_6 rfl rfl rfl rfl ?_
  refine e_iconst dX0_copyFrom_9 rfl ?_
  refine e_bipush dX0_copyFrom_10 rfl rfl ?_
  refine e_copyi cp_X0_26 dX0_copyFrom_12 rfl rfl rfl rfl rfl (by omega) (by omega) (by omega) (by decide) (Nat.le_of_ble_eq_true rfl) (Nat.le_of_ble_eq_true rfl) ?_
  refine EV.sim (i := 1) rfl (eI_sim (fun z h0 h1 => eCy_all z h0 h1)) ?_
  refine e_aload_n dX0_copyFrom_15 rfl rfl ?_
  refine e_aload_n dX0_copyFrom_16 rfl rfl ?_
  refine e_getfield fd_X0_15 dX0_copyFrom_17 rfl rfl rfl rfl ?_
  refine e_putfield fd_X0_15 dX0_copyFrom_20 rfl rfl rfl (Nat.le_of_ble_eq_true rfl) rfl rfl ?_
  exact e_vret dX0_copyFrom_23 rfl (eRet_v rfl)
theorem C_X5_copyFrom {X : eXT} {a : Nat → Nat} {c c2 n1 n2 : Int} {r r2 : Int → Int} :
    EM X mX5_copyFrom (eRm 1) a [.ref (a 0), .ref (a 2)] ([.inr (5, [.ref (a 1), vi c, vi n1]), eJ 1 48 r, .inr (5, [.ref (a 3), vi c2, vi n2]), eJ 1 48 r2]) (eRet none a [.inr (5, [.ref (a 1), vi c2, vi n2]), eJ 1 48 r2, .inr (5, [.ref (a 3), vi c2, vi n2]), eJ 1 48 r2]) := by
  refine EM.of (by decide +kernel) rfl (Nat.le_of_ble_eq_true rfl) ?_
  refine e_aload_n dX5_copyFrom_0 rfl rfl ?_
  refine e_getfield fd_X5_11 dX5_copyFrom_1 rfl rfl rfl rfl ?_
  refine e_iconst dX5_copyFrom_4 rfl ?_
  refine e_aload_n dX5_copyFrom_5 rfl rfl ?_
  refine e_getfield fd_X5_11 dX5_copyFrom_6 rfl rfl rfl rfl ?_
  refine e_iconst dX5_copyFrom_9 rfl ?_
  refine e_bipush dX5_copyFrom_10 rfl rfl ?_
  refine e_copyl cp_X5_22 dX5_copyFrom_12 rfl rfl rfl rfl rfl (by omega) (by omega) (by omega) (by decide) (Nat.le_of_ble_eq_true rfl) (Nat.le_of_ble_eq_true rfl) ?_
  refine EV.sim (i := 1) rfl (eJ_sim (fun z h0 h1 => eCy_all z h0 h1)) ?_
  refine e_aload_n dX5_copyFrom_15 rfl rfl ?_
  refine e_aload_n dX5_copyFrom_16 rfl rfl ?_
  refine e_getfield fd_X5_15 dX5_copyFrom_17 rfl rfl rfl rfl ?_
  refine e_putfield fd_X5_15 dX5_copyFrom_20 rfl rfl rfl (Nat.le_of_ble_eq_true rfl) rfl rfl ?_
  refine e_aload_n dX5_copyFrom_23 rfl rfl ?_
  refine e_aload_n dX5_copyFrom_24 rfl rfl ?_
  refine e_getfield fd_X5_19 dX5_copyFrom_25 rfl rfl rfl rfl ?_
  refine e_putfield fd_X5_19 dX5_copyFrom_28 rfl rfl rfl (Nat.le_of_ble_eq_true rfl) rfl rfl ?_
  exact e_vret dX5_copyFrom_31 rfl (eRet_v rfl)
/-- three words are alike -/
abbrev sEq3 (x : Int → Int) (s : Int) (y : Int → Int) (t : Int) : Prop := x (s * 3 + 0) = y (t * 3 + 0) ∧ x (s * 3 + (0 + 1)) = y (t * 3 + (0 + 1)) ∧ x (s * 3 + (0 + 1 + 1)) = y (t * 3 + (0 + 1 + 1))
abbrev sL48 (x : Int → Int) : Prop := ∀ j, 0 ≤ x j ∧ x j < 281474976710656

theorem C_X5_holds1 {X : eXT} {a : Nat → Nat} {c nx s : Int} {x y : Int → Int} (hx : sL48 x) (hy : sL48 y) (hs : 0 ≤ s ∧ s ≤ 15) :
    EM X mX5_holds (eRm 0) a [.ref (a 0), vi s, .ref (a 2), vi 0] (wSh a c nx x ++ [eJ 1 3 y]) (eRet (some (vb (sEq3 x s y 0))) a (wSh a c nx x ++ [eJ 1 3 y])) := by
  refine EM.of (by decide +kernel) rfl (Nat.le_of_ble_eq_true rfl) ?_
  refine e_iconst dX5_holds_0 rfl ?_
  refine f_istore dX5_holds_1 rfl (Nat.le_of_ble_eq_true rfl) rfl ?_
  refine e_iload dX5_holds_3 rfl rfl ?_
  refine e_iconst dX5_holds_5 rfl ?_
  refine e_icmp_ge (t := 40) dX5_holds_6 rfl rfl (by decide) (by decide) (fun h => absurd h (by decide)) (fun _ => ?_)
  refine e_aload_n dX5_holds_9 rfl rfl ?_
  refine e_getfield fd_X5_11 dX5_holds_10 rfl rfl rfl rfl ?_
  refine e_iload_n dX5_holds_13 rfl rfl ?_
  refine e_iconst dX5_holds_14 rfl ?_
  refine e_imul dX5_holds_15 rfl ?_
  refine e_iload dX5_holds_16 rfl rfl ?_
  refine e_iadd dX5_holds_18 rfl ?_
  refine e_laloadB dX5_holds_19 rfl rfl rfl (by omega) (by decide) hx ?_
  intro b19
  refine e_aload_n dX5_holds_20 rfl rfl ?_
  refine e_iload_n dX5_holds_21 rfl rfl ?_
  refine e_iconst dX5_holds_22 rfl ?_
  refine e_imul dX5_holds_23 rfl ?_
  refine e_iload dX5_holds_24 rfl rfl ?_
  refine e_iadd dX5_holds_26 rfl ?_
  refine e_laloadB dX5_holds_27 rfl rfl rfl (by omega) (by decide) hy ?_
  intro b27
  refine e_lcmp dX5_holds_28 rfl ?_
  refine e_ifl_eq (t := 34) dX5_holds_29 rfl rfl (by omega) (by omega) (fun h29 => ?_) (fun h29 => ?_)
  · refine f_iinc dX5_holds_34 rfl rfl (Nat.le_of_ble_eq_true rfl) rfl ?_
    refine e_goto (n := 3) dX5_holds_37 rfl ?_
    refine e_iload dX5_holds_3 rfl rfl ?_
    refine e_iconst dX5_holds_5 rfl ?_
    refine e_icmp_ge (t := 40) dX5_holds_6 rfl rfl (by decide) (by decide) (fun h => absurd h (by decide)) (fun _ => ?_)
    refine e_aload_n dX5_holds_9 rfl rfl ?_
    refine e_getfield fd_X5_11 dX5_holds_10 rfl rfl rfl rfl ?_
    refine e_iload_n dX5_holds_13 rfl rfl ?_
    refine e_iconst dX5_holds_14 rfl ?_
    refine e_imul dX5_holds_15 rfl ?_
    refine e_iload dX5_holds_16 rfl rfl ?_
    refine e_iadd dX5_holds_18 rfl ?_
    refine e_laloadB dX5_holds_19 rfl rfl rfl (by omega) (by decide) hx ?_
    intro b19
    refine e_aload_n dX5_holds_20 rfl rfl ?_
    refine e_iload_n dX5_holds_21 rfl rfl ?_
    refine e_iconst dX5_holds_22 rfl ?_
    refine e_imul dX5_holds_23 rfl ?_
    refine e_iload dX5_holds_24 rfl rfl ?_
    refine e_iadd dX5_holds_26 rfl ?_
    refine e_laloadB dX5_holds_27 rfl rfl rfl (by omega) (by decide) hy ?_
    intro b27
    refine e_lcmp dX5_holds_28 rfl ?_
    refine e_ifl_eq (t := 34) dX5_holds_29 rfl rfl (by omega) (by omega) (fun h29 => ?_) (fun h29 => ?_)
    · refine f_iinc dX5_holds_34 rfl rfl (Nat.le_of_ble_eq_true rfl) rfl ?_
      refine e_goto (n := 3) dX5_holds_37 rfl ?_
      refine e_iload dX5_holds_3 rfl rfl ?_
      refine e_iconst dX5_holds_5 rfl ?_
      refine e_icmp_ge (t := 40) dX5_holds_6 rfl rfl (by decide) (by decide) (fun h => absurd h (by decide)) (fun _ => ?_)
      refine e_aload_n dX5_holds_9 rfl rfl ?_
      refine e_getfield fd_X5_11 dX5_holds_10 rfl rfl rfl rfl ?_
      refine e_iload_n dX5_holds_13 rfl rfl ?_
      refine e_iconst dX5_holds_14 rfl ?_
      refine e_imul dX5_holds_15 rfl ?_
      refine e_iload dX5_holds_16 rfl rfl ?_
      refine e_iadd dX5_holds_18 rfl ?_
      refine e_laloadB dX5_holds_19 rfl rfl rfl (by omega) (by decide) hx ?_
      intro b19
      refine e_aload_n dX5_holds_20 rfl rfl ?_
      refine e_iload_n dX5_holds_21 rfl rfl ?_
      refine e_iconst dX5_holds_22 rfl ?_
      refine e_imul dX5_holds_23 rfl ?_
      refine e_iload dX5_holds_24 rfl rfl ?_
      refine e_iadd dX5_holds_26 rfl ?_
      refine e_laloadB dX5_holds_27 rfl rfl rfl (by omega) (by decide) hy ?_
      intro b27
      refine e_lcmp dX5_holds_28 rfl ?_
      refine e_ifl_eq (t := 34) dX5_holds_29 rfl rfl (by omega) (by omega) (fun h29 => ?_) (fun h29 => ?_)
      · refine f_iinc dX5_holds_34 rfl rfl (Nat.le_of_ble_eq_true rfl) rfl ?_
        refine e_goto (n := 3) dX5_holds_37 rfl ?_
        refine e_iload dX5_holds_3 rfl rfl ?_
        refine e_iconst dX5_holds_5 rfl ?_
        refine e_icmp_ge (t := 40) dX5_holds_6 rfl rfl (by decide) (by decide) (fun _ => ?_) (fun h => absurd h (by decide))
        refine e_iconst dX5_holds_40 rfl ?_
        exact e_iret dX5_holds_41 rfl (by decide) (eRet_t (by omega) rfl)
      · refine e_iconst dX5_holds_32 rfl ?_
        exact e_iret dX5_holds_33 rfl (by decide) (eRet_f (by omega) rfl)
    · refine e_iconst dX5_holds_32 rfl ?_
      exact e_iret dX5_holds_33 rfl (by decide) (eRet_f (by omega) rfl)
  · refine e_iconst dX5_holds_32 rfl ?_
    exact e_iret dX5_holds_33 rfl (by decide) (eRet_f (by omega) rfl)
theorem C_X5_holds2 {X : eXT} {a : Nat → Nat} {c nx s t : Int} {x : Int → Int} (hx : sL48 x) (hs : 0 ≤ s ∧ s ≤ 15) (ht : 0 ≤ t ∧ t ≤ 15) :
    EM X mX5_holds (eRm 0) a [.ref (a 0), vi s, .ref (a 1), vi t] (wSh a c nx x) (eRet (some (vb (sEq3 x s x t))) a (wSh a c nx x)) := by
  refine EM.of (by decide +kernel) rfl (Nat.le_of_ble_eq_true rfl) ?_
  refine e_iconst dX5_holds_0 rfl ?_
  refine f_istore dX5_holds_1 rfl (Nat.le_of_ble_eq_true rfl) rfl ?_
  refine e_iload dX5_holds_3 rfl rfl ?_
  refine e_iconst dX5_holds_5 rfl ?_
  refine e_icmp_ge (t := 40) dX5_holds_6 rfl rfl (by decide) (by decide) (fun h => absurd h (by decide)) (fun _ => ?_)
  refine e_aload_n dX5_holds_9 rfl rfl ?_
  refine e_getfield fd_X5_11 dX5_holds_10 rfl rfl rfl rfl ?_
  refine e_iload_n dX5_holds_13 rfl rfl ?_
  refine e_iconst dX5_holds_14 rfl ?_
  refine e_imul dX5_holds_15 rfl ?_
  refine e_iload dX5_holds_16 rfl rfl ?_
  refine e_iadd dX5_holds_18 rfl ?_
  refine e_laloadB dX5_holds_19 rfl rfl rfl (by omega) (by decide) hx ?_
  intro b19
  refine e_aload_n dX5_holds_20 rfl rfl ?_
  refine e_iload_n dX5_holds_21 rfl rfl ?_
  refine e_iconst dX5_holds_22 rfl ?_
  refine e_imul dX5_holds_23 rfl ?_
  refine e_iload dX5_holds_24 rfl rfl ?_
  refine e_iadd dX5_holds_26 rfl ?_
  refine e_laloadB dX5_holds_27 rfl rfl rfl (by omega) (by decide) hx ?_
  intro b27
  refine e_lcmp dX5_holds_28 rfl ?_
  refine e_ifl_eq (t := 34) dX5_holds_29 rfl rfl (by omega) (by omega) (fun h29 => ?_) (fun h29 => ?_)
  · refine f_iinc dX5_holds_34 rfl rfl (Nat.le_of_ble_eq_true rfl) rfl ?_
    refine e_goto (n := 3) dX5_holds_37 rfl ?_
    refine e_iload dX5_holds_3 rfl rfl ?_
    refine e_iconst dX5_holds_5 rfl ?_
    refine e_icmp_ge (t := 40) dX5_holds_6 rfl rfl (by decide) (by decide) (fun h => absurd h (by decide)) (fun _ => ?_)
    refine e_aload_n dX5_holds_9 rfl rfl ?_
    refine e_getfield fd_X5_11 dX5_holds_10 rfl rfl rfl rfl ?_
    refine e_iload_n dX5_holds_13 rfl rfl ?_
    refine e_iconst dX5_holds_14 rfl ?_
    refine e_imul dX5_holds_15 rfl ?_
    refine e_iload dX5_holds_16 rfl rfl ?_
    refine e_iadd dX5_holds_18 rfl ?_
    refine e_laloadB dX5_holds_19 rfl rfl rfl (by omega) (by decide) hx ?_
    intro b19
    refine e_aload_n dX5_holds_20 rfl rfl ?_
    refine e_iload_n dX5_holds_21 rfl rfl ?_
    refine e_iconst dX5_holds_22 rfl ?_
    refine e_imul dX5_holds_23 rfl ?_
    refine e_iload dX5_holds_24 rfl rfl ?_
    refine e_iadd dX5_holds_26 rfl ?_
    refine e_laloadB dX5_holds_27 rfl rfl rfl (by omega) (by decide) hx ?_
    intro b27
    refine e_lcmp dX5_holds_28 rfl ?_
    refine e_ifl_eq (t := 34) dX5_holds_29 rfl rfl (by omega) (by omega) (fun h29 => ?_) (fun h29 => ?_)
    · refine f_iinc dX5_holds_34 rfl rfl (Nat.le_of_ble_eq_true rfl) rfl ?_
      refine e_goto (n := 3) dX5_holds_37 rfl ?_
      refine e_iload dX5_holds_3 rfl rfl ?_
      refine e_iconst dX5_holds_5 rfl ?_
      refine e_icmp_ge (t := 40) dX5_holds_6 rfl rfl (by decide) (by decide) (fun h => absurd h (by decide)) (fun _ => ?_)
      refine e_aload_n dX5_holds_9 rfl rfl ?_
      refine e_getfield fd_X5_11 dX5_holds_10 rfl rfl rfl rfl ?_
      refine e_iload_n dX5_holds_13 rfl rfl ?_
      refine e_iconst dX5_holds_14 rfl ?_
      refine e_imul dX5_holds_15 rfl ?_
      refine e_iload dX5_holds_16 rfl rfl ?_
      refine e_iadd dX5_holds_18 rfl ?_
      refine e_laloadB dX5_holds_19 rfl rfl rfl (by omega) (by decide) hx ?_
      intro b19
      refine e_aload_n dX5_holds_20 rfl rfl ?_
      refine e_iload_n dX5_holds_21 rfl rfl ?_
      refine e_iconst dX5_holds_22 rfl ?_
      refine e_imul dX5_holds_23 rfl ?_
      refine e_iload dX5_holds_24 rfl rfl ?_
      refine e_iadd dX5_holds_26 rfl ?_
      refine e_laloadB dX5_holds_27 rfl rfl rfl (by omega) (by decide) hx ?_
      intro b27
      refine e_lcmp dX5_holds_28 rfl ?_
      refine e_ifl_eq (t := 34) dX5_holds_29 rfl rfl (by omega) (by omega) (fun h29 => ?_) (fun h29 => ?_)
      · refine f_iinc dX5_holds_34 rfl rfl (Nat.le_of_ble_eq_true rfl) rfl ?_
        refine e_goto (n := 3) dX5_holds_37 rfl ?_
        refine e_iload dX5_holds_3 rfl rfl ?_
        refine e_iconst dX5_holds_5 rfl ?_
        refine e_icmp_ge (t := 40) dX5_holds_6 rfl rfl (by decide) (by decide) (fun _ => ?_) (fun h => absurd h (by decide))
        refine e_iconst dX5_holds_40 rfl ?_
        exact e_iret dX5_holds_41 rfl (by decide) (eRet_t (by omega) rfl)
      · refine e_iconst dX5_holds_32 rfl ?_
        exact e_iret dX5_holds_33 rfl (by decide) (eRet_f (by omega) rfl)
    · refine e_iconst dX5_holds_32 rfl ?_
      exact e_iret dX5_holds_33 rfl (by decide) (eRet_f (by omega) rfl)
  · refine e_iconst dX5_holds_32 rfl ?_
    exact e_iret dX5_holds_33 rfl (by decide) (eRet_f (by omega) rfl)
theorem C_X5_remember {X : eXT} {a : Nat → Nat} {c nx : Int} {x p : Int → Int} (hc : 0 ≤ c ∧ c ≤ 16) (hn : 0 ≤ nx ∧ nx ≤ 15) :
    EM X mX5_remember (eRm 1) a [.ref (a 0), .ref (a 2)] (wSh a c nx x ++ [eJ 1 3 p]) (eRet none a (wSh a (if c + 1 < 16 then c + 1 else 16) (if nx + 1 < 16 then nx + 1 else 0) (eCy p x 0 (nx * 3) 3) ++ [eJ 1 3 p])) := by
  refine EM.of (by decide +kernel) rfl (Nat.le_of_ble_eq_true rfl) ?_
  refine e_aload_n dX5_remember_0 rfl rfl ?_
  refine e_iconst dX5_remember_1 rfl ?_
  refine e_aload_n dX5_remember_2 rfl rfl ?_
  refine e_getfield fd_X5_11 dX5_remember_3 rfl rfl rfl rfl ?_
  refine e_aload_n dX5_remember_6 rfl rfl ?_
  refine e_getfield fd_X5_19 dX5_remember_7 rfl rfl rfl rfl ?_
  refine e_iconst dX5_remember_10 rfl ?_
  refine e_imul dX5_remember_11 rfl ?_
  refine e_iconst dX5_remember_12 rfl ?_
  refine e_copyl cp_X5_22 dX5_remember_13 rfl rfl rfl rfl rfl (by omega) (by omega) (by omega) (by decide) (Nat.le_of_ble_eq_true rfl) (Nat.le_of_ble_eq_true rfl) ?_
  refine e_aload_n dX5_remember_16 rfl rfl ?_
  refine e_aload_n dX5_remember_17 rfl rfl ?_
  refine e_getfield fd_X5_19 dX5_remember_18 rfl rfl rfl rfl ?_
  refine e_iconst dX5_remember_21 rfl ?_
  refine e_iadd dX5_remember_22 rfl ?_
  refine e_bipush dX5_remember_23 rfl rfl ?_
  refine e_icmp_ge (t := 37) dX5_remember_25 rfl rfl (by omega) (by omega) (fun h25 => ?_) (fun h25 => ?_)
  · refine e_iconst dX5_remember_37 rfl ?_
    refine e_putfield fd_X5_19 dX5_remember_38 rfl rfl rfl (Nat.le_of_ble_eq_true rfl) rfl rfl ?_
    refine e_aload_n dX5_remember_41 rfl rfl ?_
    refine e_aload_n dX5_remember_42 rfl rfl ?_
    refine e_getfield fd_X5_15 dX5_remember_43 rfl rfl rfl rfl ?_
    refine e_iconst dX5_remember_46 rfl ?_
    refine e_iadd dX5_remember_47 rfl ?_
    refine e_bipush dX5_remember_48 rfl rfl ?_
    refine e_min ma_X5_28 dX5_remember_50 rfl (Nat.le_of_ble_eq_true rfl) (Nat.le_of_ble_eq_true rfl) (by omega) (by omega) ?_
    refine e_putfield fd_X5_15 dX5_remember_53 rfl rfl rfl (Nat.le_of_ble_eq_true rfl) rfl rfl ?_
    exact e_vret dX5_remember_56 rfl (eRet_v (by rw [show (if 16 < c + 1 then 16 else c + 1) = (if c + 1 < 16 then c + 1 else 16) by split <;> split <;> omega]; first | (rw [if_pos h25]; rfl) | (rw [if_neg h25]; rfl) | (rw [if_neg (show ¬ nx + 1 < 16 by omega)]; rfl) | (rw [if_pos (show nx + 1 < 16 by omega)]; rfl)))
  · refine e_aload_n dX5_remember_28 rfl rfl ?_
    refine e_getfield fd_X5_19 dX5_remember_29 rfl rfl rfl rfl ?_
    refine e_iconst dX5_remember_32 rfl ?_
    refine e_iadd dX5_remember_33 rfl ?_
    refine e_goto (n := 38) dX5_remember_34 rfl ?_
    refine e_putfield fd_X5_19 dX5_remember_38 rfl rfl rfl (Nat.le_of_ble_eq_true rfl) rfl rfl ?_
    refine e_aload_n dX5_remember_41 rfl rfl ?_
    refine e_aload_n dX5_remember_42 rfl rfl ?_
    refine e_getfield fd_X5_15 dX5_remember_43 rfl rfl rfl rfl ?_
    refine e_iconst dX5_remember_46 rfl ?_
    refine e_iadd dX5_remember_47 rfl ?_
    refine e_bipush dX5_remember_48 rfl rfl ?_
    refine e_min ma_X5_28 dX5_remember_50 rfl (Nat.le_of_ble_eq_true rfl) (Nat.le_of_ble_eq_true rfl) (by omega) (by omega) ?_
    refine e_putfield fd_X5_15 dX5_remember_53 rfl rfl rfl (Nat.le_of_ble_eq_true rfl) rfl rfl ?_
    exact e_vret dX5_remember_56 rfl (eRet_v (by rw [show (if 16 < c + 1 then 16 else c + 1) = (if c + 1 < 16 then c + 1 else 16) by split <;> split <;> omega]; first | (rw [if_pos h25]; rfl) | (rw [if_neg h25]; rfl) | (rw [if_neg (show ¬ nx + 1 < 16 by omega)]; rfl) | (rw [if_pos (show nx + 1 < 16 by omega)]; rfl)))
theorem C_X5_stepsSince {X : eXT} {a : Nat → Nat} {c nx : Int} {x p : Int → Int} (hx : sL48 x) (hp : sL48 p) (hc : 0 ≤ c ∧ c ≤ 16) (hn : 0 ≤ nx ∧ nx ≤ 15) :
    EM X mX5_stepsSince (eRm 1) a [.ref (a 0), .ref (a 2)] (wSh a c nx x ++ [eJ 1 3 p]) (eRet (some (vi (eFB (fun k => sEq3 x ((nx - 1 - k) % 16) p 0) c 0))) a (wSh a c nx x ++ [eJ 1 3 p])) := by
  refine EM.of (by decide +kernel) rfl (Nat.le_of_ble_eq_true rfl) ?_
  refine e_aload_n dX5_stepsSince_0 rfl rfl ?_
  refine e_getfield fd_X5_19 dX5_stepsSince_1 rfl rfl rfl rfl ?_
  refine f_istore_n dX5_stepsSince_4 rfl (Nat.le_of_ble_eq_true rfl) rfl ?_
  refine e_iconst dX5_stepsSince_5 rfl ?_
  refine f_istore_n dX5_stepsSince_6 rfl (Nat.le_of_ble_eq_true rfl) rfl ?_
  have hL7 : ∀ (k7 : Nat) (k sl : Int) (hk7 : ((c) - k).toNat = k7) (g7 : 0 ≤ k ∧ k ≤ c) (e7 : eFB (fun k => sEq3 x ((nx - 1 - k) % 16) p 0) (c) 0 = eFB (fun k => sEq3 x ((nx - 1 - k) % 16) p 0) (c) k) (hs : 0 ≤ sl ∧ sl ≤ 15) (hm : sl = (nx - k) % 16), EV (mX5_stepsSince, (eRm 1), eRet (some (vi (eFB (fun k => sEq3 x ((nx - 1 - k) % 16) p 0) c 0))) a (wSh a c nx x ++ [eJ 1 3 p]), X) a (0, 0) (wSh a c nx x ++ [eJ 1 3 p]) 7 [some (.ref (a 0)), some (.ref (a 2)), some (vi sl), some (vi k)] [] := by
    intro k7
    induction k7 using Nat.strongRecOn with
    | _ k7 ih7 =>
    intro k sl hk7 g7 e7 hs hm
    refine e_iload_n dX5_stepsSince_7 rfl rfl ?_
    refine e_aload_n dX5_stepsSince_8 rfl rfl ?_
    refine e_getfield fd_X5_15 dX5_stepsSince_9 rfl rfl rfl rfl ?_
    refine e_icmp_ge (t := 46) dX5_stepsSince_12 rfl rfl (by omega) (by omega) (fun h12 => ?_) (fun h12 => ?_)
    · refine e_iconst dX5_stepsSince_46 rfl ?_
      exact e_iret dX5_stepsSince_47 rfl rfl (eRet_i (e7.trans (eFB_end (by omega))).symm rfl)
    · have hJ27 : ∀ (z : Int) (hz : 0 ≤ z ∧ z ≤ 15) (hsl : z = (nx - 1 - k) % 16), EV (mX5_stepsSince, (eRm 1), eRet (some (vi (eFB (fun k => sEq3 x ((nx - 1 - k) % 16) p 0) c 0))) a (wSh a c nx x ++ [eJ 1 3 p]), X) a (0, 0) (wSh a c nx x ++ [eJ 1 3 p]) 27 [some (.ref (a 0)), some (.ref (a 2)), some (vi sl), some (vi k)] [vi z] := by
        intro z hz hsl
        refine f_istore_n dX5_stepsSince_27 rfl (Nat.le_of_ble_eq_true rfl) rfl ?_
        refine e_aload_n dX5_stepsSince_28 rfl rfl ?_
        refine e_iload_n dX5_stepsSince_29 rfl rfl ?_
        refine e_aload_n dX5_stepsSince_30 rfl rfl ?_
        refine e_iconst dX5_stepsSince_31 rfl ?_
        refine e_cV0 [0, 1, 2] lk_X5_34 rfl dX5_stepsSince_32 rfl (C_X5_holds1 hx hp hz) rfl rfl (Nat.le_of_ble_eq_true rfl) (Nat.le_of_ble_eq_true rfl) (Nat.le_of_ble_eq_true rfl) ⟨rfl, rfl⟩ rfl rfl rfl rfl rfl rfl  ?_
        refine e_ifb_eq (t := 40) dX5_stepsSince_35 rfl rfl (fun h35 => ?_) (fun h35 => ?_)
        · refine f_iinc dX5_stepsSince_40 rfl rfl (Nat.le_of_ble_eq_true rfl) rfl ?_
          refine e_goto (n := 7) dX5_stepsSince_43 rfl ?_
          exact ih7 _ (by omega) (k + 1) z rfl (by omega) (e7.trans (eFB_go (by omega) (by rw [← hsl]; exact h35))) hz (by omega)
        · refine e_iload_n dX5_stepsSince_38 rfl rfl ?_
          exact e_iret dX5_stepsSince_39 rfl rfl (eRet_i ((e7.trans (eFB_hit (by omega) (by rw [← hsl]; exact h35)))).symm rfl)
      refine e_iload_n dX5_stepsSince_15 rfl rfl ?_
      refine e_if_le (t := 25) dX5_stepsSince_16 rfl rfl (by omega) (fun h16 => ?_) (fun h16 => ?_)
      · refine e_bipush dX5_stepsSince_25 rfl rfl ?_
        exact hJ27 _ (by omega) (by omega)
      · refine e_iload_n dX5_stepsSince_19 rfl rfl ?_
        refine e_iconst dX5_stepsSince_20 rfl ?_
        refine e_isub dX5_stepsSince_21 rfl ?_
        refine e_goto (n := 27) dX5_stepsSince_22 rfl ?_
        exact hJ27 _ (by omega) (by omega)
  exact hL7 _ 0 nx rfl (by omega) rfl (by omega) (by omega)
abbrev sBef (x : Int → Int) (s : Int) : Prop := ¬ eFB (fun e => sEq3 x e x s) s 0 = -1

theorem C_X5_standsBefore {X : eXT} {a : Nat → Nat} {c nx s : Int} {x : Int → Int} (hx : sL48 x) (hs : 0 ≤ s ∧ s ≤ 15) :
    EM X mX5_standsBefore (eRm 1) a [.ref (a 0), vi s] (wSh a c nx x) (eRet (some (vb (sBef x s))) a (wSh a c nx x)) := by
  refine EM.of (by decide +kernel) rfl (Nat.le_of_ble_eq_true rfl) ?_
  refine e_iconst dX5_standsBefore_0 rfl ?_
  refine f_istore_n dX5_standsBefore_1 rfl (Nat.le_of_ble_eq_true rfl) rfl ?_
  have hL2 : ∀ (k2 : Nat) (e : Int) (hk2 : ((s) - e).toNat = k2) (g2 : 0 ≤ e ∧ e ≤ s) (e2 : eFB (fun e => sEq3 x e x s) (s) 0 = eFB (fun e => sEq3 x e x s) (s) e) , EV (mX5_standsBefore, (eRm 1), eRet (some (vb (sBef x s))) a (wSh a c nx x), X) a (0, 0) (wSh a c nx x) 2 [some (.ref (a 0)), some (vi s), some (vi e)] [] := by
    intro k2
    induction k2 using Nat.strongRecOn with
    | _ k2 ih2 =>
    intro e hk2 g2 e2
    refine e_iload_n dX5_standsBefore_2 rfl rfl ?_
    refine e_iload_n dX5_standsBefore_3 rfl rfl ?_
    refine e_icmp_ge (t := 28) dX5_standsBefore_4 rfl rfl (by omega) (by omega) (fun h4 => ?_) (fun h4 => ?_)
    · refine e_iconst dX5_standsBefore_28 rfl ?_
      exact e_iret dX5_standsBefore_29 rfl (by decide) (eRet_f (by have q := (e2.trans (eFB_end (by omega))); omega) rfl)
    · refine e_aload_n dX5_standsBefore_7 rfl rfl ?_
      refine e_iload_n dX5_standsBefore_8 rfl rfl ?_
      refine e_aload_n dX5_standsBefore_9 rfl rfl ?_
      refine e_getfield fd_X5_11 dX5_standsBefore_10 rfl rfl rfl rfl ?_
      refine e_iload_n dX5_standsBefore_13 rfl rfl ?_
      refine e_cV0 [0, 1] lk_X5_34 rfl dX5_standsBefore_14 rfl (C_X5_holds2 hx (by omega) hs) rfl rfl (Nat.le_of_ble_eq_true rfl) (Nat.le_of_ble_eq_true rfl) (Nat.le_of_ble_eq_true rfl) ⟨rfl, rfl⟩ rfl rfl rfl rfl rfl rfl  ?_
      refine e_ifb_eq (t := 22) dX5_standsBefore_17 rfl rfl (fun h17 => ?_) (fun h17 => ?_)
      · refine f_iinc dX5_standsBefore_22 rfl rfl (Nat.le_of_ble_eq_true rfl) rfl ?_
        refine e_goto (n := 2) dX5_standsBefore_25 rfl ?_
        exact ih2 _ (by omega) (e + 1) rfl (by omega) (e2.trans (eFB_go (by omega) h17)) 
      · refine e_iconst dX5_standsBefore_20 rfl ?_
        exact e_iret dX5_standsBefore_21 rfl (by decide) (eRet_t (by have q := (e2.trans (eFB_hit (by omega) h17)); omega) rfl)
  exact hL2 _ 0 rfl (by omega) rfl 
theorem C_X5_countDifferent {X : eXT} {a : Nat → Nat} {c nx : Int} {x : Int → Int} (hx : sL48 x) (hc : 0 ≤ c ∧ c ≤ 16) :
    EM X mX5_countDifferent (eRm 2) a [.ref (a 0)] (wSh a c nx x) (eRet (some (vi (eCB (fun s => ¬ sBef x s) c 0))) a (wSh a c nx x)) := by
  refine EM.of (by decide +kernel) rfl (Nat.le_of_ble_eq_true rfl) ?_
  refine e_iconst dX5_countDifferent_0 rfl ?_
  refine f_istore_n dX5_countDifferent_1 rfl (Nat.le_of_ble_eq_true rfl) rfl ?_
  refine e_iconst dX5_countDifferent_2 rfl ?_
  refine f_istore_n dX5_countDifferent_3 rfl (Nat.le_of_ble_eq_true rfl) rfl ?_
  have hL4 : ∀ (k4 : Nat) (s n : Int) (hk4 : ((c) - s).toNat = k4) (g4 : 0 ≤ s ∧ s ≤ c) (e4 : 0 + eCB (fun s => ¬ sBef x s) (c) 0 = n + eCB (fun s => ¬ sBef x s) (c) s) , EV (mX5_countDifferent, (eRm 2), eRet (some (vi (eCB (fun s => ¬ sBef x s) c 0))) a (wSh a c nx x), X) a (0, 0) (wSh a c nx x) 4 [some (.ref (a 0)), some (vi n), some (vi s)] [] := by
    intro k4
    induction k4 using Nat.strongRecOn with
    | _ k4 ih4 =>
    intro s n hk4 g4 e4
    refine e_iload_n dX5_countDifferent_4 rfl rfl ?_
    refine e_aload_n dX5_countDifferent_5 rfl rfl ?_
    refine e_getfield fd_X5_15 dX5_countDifferent_6 rfl rfl rfl rfl ?_
    refine e_icmp_ge (t := 34) dX5_countDifferent_9 rfl rfl (by omega) (by omega) (fun h9 => ?_) (fun h9 => ?_)
    · refine e_iload_n dX5_countDifferent_34 rfl rfl ?_
      exact e_iret dX5_countDifferent_35 rfl rfl (eRet_i (by have q := eCB_end (P := fun s => ¬ sBef x s) (n := c) (i := s) (by omega); omega) rfl)
    · have hJ26 : ∀ (z : Int) (hz : z = eI1 (¬ sBef x s)), EV (mX5_countDifferent, (eRm 2), eRet (some (vi (eCB (fun s => ¬ sBef x s) c 0))) a (wSh a c nx x), X) a (0, 0) (wSh a c nx x) 26 [some (.ref (a 0)), some (vi n), some (vi s)] [vi z, vi n] := by
        intro z hz
        refine e_iadd dX5_countDifferent_26 rfl ?_
        refine f_istore_n dX5_countDifferent_27 rfl (Nat.le_of_ble_eq_true rfl) rfl ?_
        refine f_iinc dX5_countDifferent_28 rfl rfl (Nat.le_of_ble_eq_true rfl) rfl ?_
        refine e_goto (n := 4) dX5_countDifferent_31 rfl ?_
        exact ih4 _ (by omega) (s + 1) (n + z) rfl (by omega) (by have q := eSB_go (f := fun s => eI1 (¬ sBef x s)) (n := c) (i := s) (by omega); simp only [eCB] at *; omega)
      refine e_iload_n dX5_countDifferent_12 rfl rfl ?_
      refine e_aload_n dX5_countDifferent_13 rfl rfl ?_
      refine e_iload_n dX5_countDifferent_14 rfl rfl ?_
      refine e_cV0 [0, 1] lk_X5_38 rfl dX5_countDifferent_15 rfl (C_X5_standsBefore hx (by omega)) rfl rfl (Nat.le_of_ble_eq_true rfl) (Nat.le_of_ble_eq_true rfl) (Nat.le_of_ble_eq_true rfl) ⟨rfl, rfl⟩ rfl rfl rfl rfl rfl rfl  ?_
      refine e_ifb_eq (t := 25) dX5_countDifferent_18 rfl rfl (fun h18 => ?_) (fun h18 => ?_)
      · refine e_iconst dX5_countDifferent_25 rfl ?_
        exact hJ26 _ (eI1_t h18).symm
      · refine e_iconst dX5_countDifferent_21 rfl ?_
        refine e_goto (n := 26) dX5_countDifferent_22 rfl ?_
        exact hJ26 _ (eI1_f (fun q => q h18)).symm
  exact hL4 _ 0 0 rfl (by omega) rfl 
