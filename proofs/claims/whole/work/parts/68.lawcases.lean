/-! ===== the law: one step of it ===== -/
def lR : Room := ⟨20, 603072, 7194730, 10868⟩
def lQ : ePo := fun o _ _ => o = .inl (some (.int 1))
abbrev lK (X : eXT) : eK := (mL_law, lR, lQ, X)
def lLs (a : Nat → Nat) (bb : Nat) (i : Int) : List (Option Value) := [some (.ref bb), some (.ref (a 0)), some (.ref (a 131)), some (.ref (a 137)), some (.ref (a 138)), some (vi i), none, none, none]
/-- from the end of a step on -/
def lG (X : eXT) (a : Nat → Nat) (bb : Nat) (N i : Int) (b : Nat × Nat) : Prop := ∀ (z : Nat → Int) (ln : Int → Int) (F : eFs) (P : Int → Int) (D : eFs) (DQ : Int → Int) (S : eFs) (SP : Int → Int) (c n : Int) (h : eHs) (g rc : Int → Int) (T : eFs) (Mt : Int → Int → Int) (M : eFs) (o : Int → Int) (od : Nat → UInt64), SIM N z ln F S c n h g rc T Mt M → EV (lK X) a b (wA a z ln F P D DQ S SP c n h g rc T Mt [] ++ (wM (fun k => a (131 + k)) M ++ [eJ 1 1 o, eDd 1 od])) 2629 (lLs a bb i) []
theorem wM_6 {a : Nat → Nat} {M : eFs} : (wM a M).length = 6 := rfl
theorem exK_s1 {e1 e2 e3 : String} : exK (some e1) e1 e2 e3 = 1 := if_pos rfl
theorem exK_s2 {e1 e2 e3 : String} (h : ¬ e2 = e1) : exK (some e2) e1 e2 e3 = 2 := (if_neg h).trans (if_pos rfl)
theorem exK_s3 {e e1 e2 e3 : String} (h : ¬ e = e1) (h2 : ¬ e = e2) : exK (some e) e1 e2 e3 = 3 := (if_neg h).trans (if_neg h2)
theorem sS_0 {M : eFs} {t : Int} : (sS M 0 t).1 0 = t := if_pos rfl
/-- a choice of one or two reasons: the law's number -/
theorem exK_i1 {c : Prop} [Decidable c] {e1 e2 e3 : String} : exK (if c then none else some e1) e1 e2 e3 = if c then 0 else 1 := by
  by_cases q : c
  · rw [if_pos q, if_pos q]; rfl
  · rw [if_neg q, if_neg q]; exact exK_s1
theorem exK_i2 {c d : Prop} [Decidable c] [Decidable d] {e1 e2 e3 : String} (h : ¬ e2 = e1) : exK (if c then (if d then none else some e2) else some e1) e1 e2 e3 = if c then (if d then 0 else 2) else 1 := by
  by_cases q : c
  · rw [if_pos q, if_pos q]
    by_cases r : d
    · rw [if_pos r, if_pos r]; rfl
    · rw [if_neg r, if_neg r]; exact exK_s2 h
  · rw [if_neg q, if_neg q]; exact exK_s1
section EVW2
variable {K : eK} {a : Nat → Nat} {b b' : Nat × Nat} {pc n : Nat} {ls : List (Option Value)} {st rest av : List Value} {M1 : mE} {R1 : Room} {v : Value}
theorem e_lawW {idx nA : Nat} {A A1 AX B : List eE} {o1 o2 n1 : eE} {E : Option String} (hw : eLkS K.1.1.cls idx M1 nA) (hh : M1.2.2.2.2 ≠ []) (d : decode K.1.2.1 pc = .ok (.invokestatic idx, 3)) (hn : pc + 3 = n)
    (hM : EM (K.2.2.2.1, none) M1 R1 (fun k => a (eR rhoL k)) av (A ++ [o1]) (eRets (some v) (fun k => a (eR rhoL k)) (fun cs1 => (E = none → cs1 = A1 ++ [n1]) ∧ (¬ E = none → cs1 = AX ++ [o1])))) (hst : st = av.reverse ++ rest) (hlen : av.length = nA) (hcat : (rest.map fun v => v.category).sum ≤ 8)
    (hfr : R1.frames + 1 ≤ K.2.1.frames) (hlo : 8 + (M1.2.2.1 + 11) + R1.locals ≤ K.2.1.locals) (hR : R1.cells + b'.1 ≤ b.1 ∧ R1.slots + b'.2 ≤ b.2)
    (hA : A.length = 131) (hA1 : A1.length = 131) (hAX : AX.length = 131) (hB : B.length = 6) (kn : E = none → EV K a b' (A1 ++ (B ++ [n1, o2])) n ls (v :: rest)) (kx : ¬ E = none → EV K a b' (AX ++ (B ++ [o1, o2])) n ls (v :: rest)) : EV K a b (A ++ (B ++ [o1, o2])) pc ls st := by
  refine e_lawL hw hh d hn hM hst hlen hcat hfr hlo hR hA hB (fun cs1 q => ?_) (fun A' o1' hA' q => ?_)
  · by_cases e : E = none
    · exact ⟨A1, n1, q.1 e, hA1⟩
    · exact ⟨AX, o1, q.2 e, hAX⟩
  · by_cases e : E = none
    · obtain ⟨q1, q2⟩ := List.append_inj (q.1 e) (by rw [hA', hA1])
      injection q2 with q3 q4
      rw [q1, q3]
      exact kn e
    · obtain ⟨q1, q2⟩ := List.append_inj (q.2 e) (by rw [hA', hAX])
      injection q2 with q3 q4
      rw [q1, q3]
      exact kx e
theorem e_lawD {idx nA : Nat} {A A1 AX B : List eE} {o1 o2 n2 : eE} {E : Option String} (hw : eLkS K.1.1.cls idx M1 nA) (hh : M1.2.2.2.2 ≠ []) (d : decode K.1.2.1 pc = .ok (.invokestatic idx, 3)) (hn : pc + 3 = n)
    (hM : EM (K.2.2.2.1, none) M1 R1 (fun k => a (eR rhoE k)) av (A ++ [o2]) (eRets (some v) (fun k => a (eR rhoE k)) (fun cs1 => (E = none → cs1 = A1 ++ [n2]) ∧ (¬ E = none → cs1 = AX ++ [o2])))) (hst : st = av.reverse ++ rest) (hlen : av.length = nA) (hcat : (rest.map fun v => v.category).sum ≤ 8)
    (hfr : R1.frames + 1 ≤ K.2.1.frames) (hlo : 8 + (M1.2.2.1 + 11) + R1.locals ≤ K.2.1.locals) (hR : R1.cells + b'.1 ≤ b.1 ∧ R1.slots + b'.2 ≤ b.2)
    (hA : A.length = 131) (hA1 : A1.length = 131) (hAX : AX.length = 131) (hB : B.length = 6) (kn : E = none → EV K a b' (A1 ++ (B ++ [o1, n2])) n ls (v :: rest)) (kx : ¬ E = none → EV K a b' (AX ++ (B ++ [o1, o2])) n ls (v :: rest)) : EV K a b (A ++ (B ++ [o1, o2])) pc ls st := by
  refine e_lawE hw hh d hn hM hst hlen hcat hfr hlo hR hA hB (fun cs1 q => ?_) (fun A' o1' hA' q => ?_)
  · by_cases e : E = none
    · exact ⟨A1, n2, q.1 e, hA1⟩
    · exact ⟨AX, o2, q.2 e, hAX⟩
  · by_cases e : E = none
    · obtain ⟨q1, q2⟩ := List.append_inj (q.1 e) (by rw [hA', hA1])
      injection q2 with q3 q4
      rw [q1, q3]
      exact kn e
    · obtain ⟨q1, q2⟩ := List.append_inj (q.2 e) (by rw [hA', hAX])
      injection q2 with q3 q4
      rw [q1, q3]
      exact kx e
end EVW2
section LAW
variable {X : eXT} {a : Nat → Nat} {b : Nat × Nat} {bb L : Nat} {xs : Nat → Int32} {i : Int} {ls : List (Option Value)} {st : List Value} {cs : List eE}
/-- one number of the script -/
theorem lArg {p : Nat} {k : Int} (d0 : decode cL_law p = .ok (.aload_n 0, 1)) (d1 : decode cL_law (p + 1) = .ok (.iload 5, 2)) (d3 : decode cL_law (p + 3) = .ok (.iconst k, 1)) (d4 : decode cL_law (p + 4) = .ok (.iadd, 1)) (d5 : decode cL_law (p + 5) = .ok (.iaload, 1))
    (hX : X.2 = some (bb, L, xs)) (hL : L ≤ 2147483647) (hl0 : ls[0]? = some (some (.ref bb))) (hl5 : ls[5]? = some (some (vi i))) (hz : 0 ≤ i + k ∧ i + k < L)
    (kk : EV (lK X) a b cs (p + 6) ls (vi (sc xs (i + k)) :: st)) : EV (lK X) a b cs p ls st := by
  refine e_aload_n (K := lK X) (i := 0) (n := p + 1) d0 rfl hl0 ?_
  refine e_iload (K := lK X) (n := p + 3) d1 rfl hl5 ?_
  refine e_iconst (K := lK X) (n := p + 4) d3 rfl ?_
  refine e_iadd (K := lK X) (n := p + 5) d4 rfl ?_
  exact e_slv (K := lK X) (n := p + 6) hX d5 rfl hz hL kk
/-- the end of a step that compares whole numbers -/
theorem lTail {A : List eE} {o : Int → Int} {od : eE} {M : eFs} {e v : Int} {p : Nat} {off : Int}
    (d0 : decode cL_law p = .ok (.aload_n 2, 1)) (d1 : decode cL_law (p + 1) = .ok (.invokevirtual 154, 3)) (d4 : decode cL_law (p + 4) = .ok (.iload 6, 2)) (d6 : decode cL_law (p + 6) = .ok (.if_icmp .eq 5, 3))
    (d11 : decode cL_law (p + 11) = .ok (.iload 6, 2)) (d13 : decode cL_law (p + 13) = .ok (.ifCond .ne 15, 3)) (d16 : decode cL_law (p + 16) = .ok (.aload_n 3, 1)) (d17 : decode cL_law (p + 17) = .ok (.iconst 0, 1)) (d18 : decode cL_law (p + 18) = .ok (.laload, 1)) (d19 : decode cL_law (p + 19) = .ok (.iload 7, 2)) (d21 : decode cL_law (p + 21) = .ok (.i2l, 1)) (d22 : decode cL_law (p + 22) = .ok (.lcmp, 1)) (d23 : decode cL_law (p + 23) = .ok (.ifCond .eq 5, 3)) (d28 : decode cL_law (p + 28) = .ok (.goto off, 3)) (ho : ((p + 28 : Nat) : Int) + off = ((2629 : Nat) : Int))
    (hA : A.length = 131) (he : 0 ≤ e ∧ e ≤ 3) (hT : M.1 0 = e) (hv : e = 0 → o 0 = v) (gv : -2147483648 ≤ v ∧ v ≤ 2147483647)
    (kk : EV (lK X) a b (A ++ (wM (fun k => a (131 + k)) M ++ [eJ 1 1 o, od])) 2629 (lLs a bb i) []) :
    EV (lK X) a b (A ++ (wM (fun k => a (131 + k)) M ++ [eJ 1 1 o, od])) p [some (.ref bb), some (.ref (a 0)), some (.ref (a 131)), some (.ref (a 137)), some (.ref (a 138)), some (vi i), some (vi e), some (vi v), none] [] := by
  have kend : EV (lK X) a b (A ++ (wM (fun k => a (131 + k)) M ++ [eJ 1 1 o, od])) (p + 28) [some (.ref bb), some (.ref (a 0)), some (.ref (a 131)), some (.ref (a 137)), some (.ref (a 138)), some (vi i), some (vi e), some (vi v), none] [] := by
    refine e_goto (K := lK X) (n := 2629) d28 ho ?_
    refine EV.fgt 6 ?_
    refine EV.fgt 7 ?_
    exact kk
  refine e_aload_n (K := lK X) (i := 2) (n := p + 1) d0 rfl rfl ?_
  refine e_lawQ (K := lK X) (n := p + 4) lk_L_154 rfl d1 rfl (C_X7_thrown (X := (X.1, none)) (a := fun k => a (eR rhoM k)) (M := M)) rfl rfl (Nat.le_of_ble_eq_true rfl) (Nat.le_of_ble_eq_true rfl) (Nat.le_of_ble_eq_true rfl) ⟨rfl, rfl⟩ hA rfl rfl ?_
  refine e_iload (K := lK X) (n := p + 6) d4 rfl rfl ?_
  refine e_icmp_eq (K := lK X) (t := p + 11) (n := p + 9) d6 (by omega) rfl (by omega) (by omega) (fun _ => ?_) (fun q => absurd hT q)
  refine e_iload (K := lK X) (n := p + 13) d11 rfl rfl ?_
  refine e_if_ne (K := lK X) (t := p + 28) (n := p + 16) d13 (by omega) rfl (by omega) (fun _ => kend) (fun q => ?_)
  have e0 : e = 0 := Decidable.not_not.mp q
  have w := hv e0
  refine e_aload_n (K := lK X) (i := 3) (n := p + 17) d16 rfl rfl ?_
  refine e_iconst (K := lK X) (n := p + 18) d17 rfl ?_
  refine e_laload (K := lK X) (n := p + 19) (i := 137) (N := 1) (x := o) d18 rfl rfl (by rw [show (137 : Nat) = 131 + 6 from rfl, get_B hA]; rfl) (by decide) (by decide) ?_
  refine e_iload (K := lK X) (n := p + 21) d19 rfl rfl ?_
  refine e_i2l (K := lK X) (n := p + 22) d21 rfl gv ?_
  refine e_lcmp (K := lK X) (n := p + 23) d22 rfl ?_
  exact e_ifl_eq (K := lK X) (t := p + 28) (n := p + 26) d23 (by omega) rfl (by rw [w]; omega) (by omega) (fun _ => kend) (fun q => absurd w q)
/-- the end of a step that compares one answer each -/
theorem lCmp {p : Nat} {off : Int} {x : Int} (d0 : decode cL_law p = .ok (.if_icmp .eq off, 3)) (ho : ((p : Nat) : Int) + off = ((2629 : Nat) : Int))
    (kk : EV (lK X) a b cs 2629 ls []) : EV (lK X) a b cs p ls [vi x, vi x] := by
  refine EV.eq (st' := [vi (w32 x), vi (w32 x)]) (congrArg (fun v => [v, v]) w32_v) ?_
  exact e_icmp_eq (K := lK X) (t := 2629) (n := p + 3) d0 ho rfl w32_in w32_in (fun _ => kk) (fun w => absurd rfl w)
theorem lCmpL {p : Nat} {off : Int} {x : Int} (d0 : decode cL_law p = .ok (.lcmp, 1)) (d1 : decode cL_law (p + 1) = .ok (.ifCond .eq off, 3)) (ho : ((p + 1 : Nat) : Int) + off = ((2629 : Nat) : Int))
    (kk : EV (lK X) a b cs 2629 ls []) : EV (lK X) a b cs p ls [vl x, vl x] := by
  have e : Int64.ofInt x = Int64.ofInt (Int64.ofInt x).toInt := (Int64.ofInt_toInt _).symm
  have r : -9223372036854775808 ≤ (Int64.ofInt x).toInt ∧ (Int64.ofInt x).toInt ≤ 9223372036854775807 := ⟨Int64.le_toInt _, by have := Int64.toInt_lt (Int64.ofInt x); omega⟩
  refine EV.eq (st' := [vl (Int64.ofInt x).toInt, vl (Int64.ofInt x).toInt]) (congrArg (fun v => [Value.long v, Value.long v]) e) ?_
  refine e_lcmp (K := lK X) (n := p + 1) d0 rfl ?_
  exact e_ifl_eq (K := lK X) (t := 2629) (n := p + 4) d1 ho rfl r r (fun _ => kk) (fun w => absurd rfl w)
/-- what every end of a step with reasons has first -/
theorem lFst {A C : List eE} {M : eFs} {e : Int} {v7 v8 : Option Value} {p t : Nat} {off : Int}
    (d0 : decode cL_law p = .ok (.aload_n 2, 1)) (d1 : decode cL_law (p + 1) = .ok (.invokevirtual 154, 3)) (d4 : decode cL_law (p + 4) = .ok (.iload 6, 2)) (d6 : decode cL_law (p + 6) = .ok (.if_icmp .eq 5, 3)) (d11 : decode cL_law (p + 11) = .ok (.iload 6, 2)) (d13 : decode cL_law (p + 13) = .ok (.ifCond .ne off, 3)) (ht : ((p + 13 : Nat) : Int) + off = ((t : Nat) : Int))
    (hA : A.length = 131) (he : 0 ≤ e ∧ e ≤ 3) (hT : M.1 0 = e)
    (kt : EV (lK X) a b (A ++ (wM (fun k => a (131 + k)) M ++ C)) t [some (.ref bb), some (.ref (a 0)), some (.ref (a 131)), some (.ref (a 137)), some (.ref (a 138)), some (vi i), some (vi e), v7, v8] [])
    (kf : e = 0 → EV (lK X) a b (A ++ (wM (fun k => a (131 + k)) M ++ C)) (p + 16) [some (.ref bb), some (.ref (a 0)), some (.ref (a 131)), some (.ref (a 137)), some (.ref (a 138)), some (vi i), some (vi e), v7, v8] []) :
    EV (lK X) a b (A ++ (wM (fun k => a (131 + k)) M ++ C)) p [some (.ref bb), some (.ref (a 0)), some (.ref (a 131)), some (.ref (a 137)), some (.ref (a 138)), some (vi i), some (vi e), v7, v8] [] := by
  refine e_aload_n (K := lK X) (i := 2) (n := p + 1) d0 rfl rfl ?_
  refine e_lawQ (K := lK X) (n := p + 4) lk_L_154 rfl d1 rfl (C_X7_thrown (M := M)) rfl rfl (Nat.le_of_ble_eq_true rfl) (Nat.le_of_ble_eq_true rfl) (Nat.le_of_ble_eq_true rfl) ⟨rfl, rfl⟩ hA rfl rfl ?_
  refine e_iload (K := lK X) (n := p + 6) d4 rfl rfl ?_
  refine e_icmp_eq (K := lK X) (t := p + 11) (n := p + 9) d6 (by omega) rfl (by omega) (by omega) (fun _ => ?_) (fun q => absurd hT q)
  refine e_iload (K := lK X) (n := p + 13) d11 rfl rfl ?_
  exact e_if_ne (K := lK X) (t := t) (n := p + 16) d13 ht rfl (by omega) (fun _ => kt) (fun q => kf (Decidable.not_not.mp q))
/-- the end of a step that compares truths -/
theorem lTailB {A : List eE} {o : Int → Int} {od : eE} {M : eFs} {e : Int} {c : Prop} [Decidable c] {p : Nat} {off : Int}
    (d0 : decode cL_law p = .ok (.aload_n 2, 1)) (d1 : decode cL_law (p + 1) = .ok (.invokevirtual 154, 3)) (d4 : decode cL_law (p + 4) = .ok (.iload 6, 2)) (d6 : decode cL_law (p + 6) = .ok (.if_icmp .eq 5, 3)) (d11 : decode cL_law (p + 11) = .ok (.iload 6, 2)) (d13 : decode cL_law (p + 13) = .ok (.ifCond .ne 22, 3))
    (d16 : decode cL_law (p + 16) = .ok (.aload_n 3, 1)) (d17 : decode cL_law (p + 17) = .ok (.iconst 0, 1)) (d18 : decode cL_law (p + 18) = .ok (.laload, 1)) (d19 : decode cL_law (p + 19) = .ok (.iload 7, 2)) (d21 : decode cL_law (p + 21) = .ok (.ifCond .eq 7, 3)) (d24 : decode cL_law (p + 24) = .ok (.lconst 1, 1)) (d25 : decode cL_law (p + 25) = .ok (.goto 4, 3)) (d28 : decode cL_law (p + 28) = .ok (.lconst 0, 1)) (d29 : decode cL_law (p + 29) = .ok (.lcmp, 1)) (d30 : decode cL_law (p + 30) = .ok (.ifCond .eq 5, 3)) (d35 : decode cL_law (p + 35) = .ok (.goto off, 3)) (ho : ((p + 35 : Nat) : Int) + off = ((2629 : Nat) : Int))
    (hA : A.length = 131) (he : 0 ≤ e ∧ e ≤ 3) (hT : M.1 0 = e) (hv : e = 0 → o 0 = if c then 1 else 0)
    (kk : EV (lK X) a b (A ++ (wM (fun k => a (131 + k)) M ++ [eJ 1 1 o, od])) 2629 (lLs a bb i) []) :
    EV (lK X) a b (A ++ (wM (fun k => a (131 + k)) M ++ [eJ 1 1 o, od])) p [some (.ref bb), some (.ref (a 0)), some (.ref (a 131)), some (.ref (a 137)), some (.ref (a 138)), some (vi i), some (vi e), some (vb c), none] [] := by
  have kend : EV (lK X) a b (A ++ (wM (fun k => a (131 + k)) M ++ [eJ 1 1 o, od])) (p + 35) [some (.ref bb), some (.ref (a 0)), some (.ref (a 131)), some (.ref (a 137)), some (.ref (a 138)), some (vi i), some (vi e), some (vb c), none] [] := by
    refine e_goto (K := lK X) (n := 2629) d35 ho ?_
    refine EV.fgt 6 ?_
    refine EV.fgt 7 ?_
    exact kk
  refine lFst (t := p + 35) d0 d1 d4 d6 d11 d13 (by omega) hA he hT kend (fun e0 => ?_)
  have w := hv e0
  refine e_aload_n (K := lK X) (i := 3) (n := p + 17) d16 rfl rfl ?_
  refine e_iconst (K := lK X) (n := p + 18) d17 rfl ?_
  refine e_laload (K := lK X) (n := p + 19) (i := 137) (N := 1) (x := o) d18 rfl rfl (by rw [show (137 : Nat) = 131 + 6 from rfl, get_B hA]; rfl) (by decide) (by decide) ?_
  refine e_iload (K := lK X) (n := p + 21) d19 rfl rfl ?_
  refine e_ifb_eq (K := lK X) (c := c) (t := p + 28) (n := p + 24) d21 (by omega) rfl (fun hc => ?_) (fun hc => ?_)
  · have w2 : o 0 = 0 := w.trans (if_neg hc)
    refine e_lconst (K := lK X) (n := p + 29) d28 rfl ?_
    refine e_lcmp (K := lK X) (n := p + 30) d29 rfl ?_
    exact e_ifl_eq (K := lK X) (x := o 0) (y := 0) (t := p + 35) (n := p + 33) d30 (by omega) rfl (by omega) (by omega) (fun _ => kend) (fun q => absurd w2 q)
  · have w2 : o 0 = 1 := w.trans (if_pos hc)
    refine e_lconst (K := lK X) (n := p + 25) d24 rfl ?_
    refine e_goto (K := lK X) (n := p + 29) d25 (by omega) ?_
    refine e_lcmp (K := lK X) (n := p + 30) d29 rfl ?_
    exact e_ifl_eq (K := lK X) (x := o 0) (y := 1) (t := p + 35) (n := p + 33) d30 (by omega) rfl (by omega) (by omega) (fun _ => kend) (fun q => absurd w2 q)
/-- the end of a step that compares doubles -/
theorem lTailD {A : List eE} {o : eE} {od : Nat → UInt64} {M : eFs} {e : Int} {v : UInt64} {p : Nat} {off : Int}
    (d0 : decode cL_law p = .ok (.aload_n 2, 1)) (d1 : decode cL_law (p + 1) = .ok (.invokevirtual 154, 3)) (d4 : decode cL_law (p + 4) = .ok (.iload 6, 2)) (d6 : decode cL_law (p + 6) = .ok (.if_icmp .eq 5, 3)) (d11 : decode cL_law (p + 11) = .ok (.iload 6, 2)) (d13 : decode cL_law (p + 13) = .ok (.ifCond .ne 35, 3))
    (d16 : decode cL_law (p + 16) = .ok (.aload 4, 2)) (d18 : decode cL_law (p + 18) = .ok (.iconst 0, 1)) (d19 : decode cL_law (p + 19) = .ok (.daload, 1)) (d20 : decode cL_law (p + 20) = .ok (.dload 7, 2)) (d22 : decode cL_law (p + 22) = .ok (.dcmp .l, 1)) (d23 : decode cL_law (p + 23) = .ok (.ifCond .eq 25, 3)) (d48 : decode cL_law (p + 48) = .ok (.goto off, 3)) (ho : ((p + 48 : Nat) : Int) + off = ((2629 : Nat) : Int))
    (hA : A.length = 131) (he : 0 ≤ e ∧ e ≤ 3) (hT : M.1 0 = e) (hv : e = 0 → od 0 = v ∧ Op.cmpValue (FP.dcmp v v) .l = 0)
    (kk : EV (lK X) a b (A ++ (wM (fun k => a (131 + k)) M ++ [o, eDd 1 od])) 2629 (lLs a bb i) []) :
    EV (lK X) a b (A ++ (wM (fun k => a (131 + k)) M ++ [o, eDd 1 od])) p [some (.ref bb), some (.ref (a 0)), some (.ref (a 131)), some (.ref (a 137)), some (.ref (a 138)), some (vi i), some (vi e), some (.double v), none] [] := by
  have kend : EV (lK X) a b (A ++ (wM (fun k => a (131 + k)) M ++ [o, eDd 1 od])) (p + 48) [some (.ref bb), some (.ref (a 0)), some (.ref (a 131)), some (.ref (a 137)), some (.ref (a 138)), some (vi i), some (vi e), some (.double v), none] [] := by
    refine e_goto (K := lK X) (n := 2629) d48 ho ?_
    refine EV.fgt 6 ?_
    refine EV.fgt 7 ?_
    exact kk
  refine lFst (t := p + 48) d0 d1 d4 d6 d11 d13 (by omega) hA he hT kend (fun e0 => ?_)
  have w := hv e0
  refine e_aload (K := lK X) (n := p + 18) d16 rfl rfl ?_
  refine e_iconst (K := lK X) (n := p + 19) d18 rfl ?_
  refine e_daload (K := lK X) (n := p + 20) (i := 138) (N := 1) (f := od) d19 rfl rfl (by rw [show (138 : Nat) = 131 + 7 from rfl, get_B hA]; rfl) (by decide) (by decide) ?_
  refine e_dload (K := lK X) (n := p + 22) d20 rfl rfl ?_
  refine e_dcmp (K := lK X) (n := p + 23) d22 rfl ?_
  refine EV.eq (st' := [vi 0]) (by show [Value.int (Op.cmpValue (FP.dcmp (od 0) v) .l)] = _; rw [w.1, w.2]; rfl) ?_
  exact e_if_eq (K := lK X) (t := p + 48) (n := p + 26) d23 (by omega) rfl (by decide) (fun _ => kend) (fun q => absurd rfl q)
/-- the end of a step that compares a float -/
theorem lTailF {A : List eE} {o : eE} {od : Nat → UInt64} {M : eFs} {e : Int} {v : UInt32} {p : Nat} {off : Int}
    (d0 : decode cL_law p = .ok (.aload_n 2, 1)) (d1 : decode cL_law (p + 1) = .ok (.invokevirtual 154, 3)) (d4 : decode cL_law (p + 4) = .ok (.iload 6, 2)) (d6 : decode cL_law (p + 6) = .ok (.if_icmp .eq 5, 3)) (d11 : decode cL_law (p + 11) = .ok (.iload 6, 2)) (d13 : decode cL_law (p + 13) = .ok (.ifCond .ne 36, 3))
    (d16 : decode cL_law (p + 16) = .ok (.aload 4, 2)) (d18 : decode cL_law (p + 18) = .ok (.iconst 0, 1)) (d19 : decode cL_law (p + 19) = .ok (.daload, 1)) (d20 : decode cL_law (p + 20) = .ok (.fload 7, 2)) (d22 : decode cL_law (p + 22) = .ok (.f2d, 1)) (d23 : decode cL_law (p + 23) = .ok (.dcmp .l, 1)) (d24 : decode cL_law (p + 24) = .ok (.ifCond .eq 25, 3)) (d49 : decode cL_law (p + 49) = .ok (.goto off, 3)) (ho : ((p + 49 : Nat) : Int) + off = ((2629 : Nat) : Int))
    (hA : A.length = 131) (he : 0 ≤ e ∧ e ≤ 3) (hT : M.1 0 = e) (hv : e = 0 → od 0 = FP.f2d v ∧ vf_n64 (FP.f2d v) ∧ Op.cmpValue (FP.dcmp (FP.f2d v) (FP.f2d v)) .l = 0)
    (kk : EV (lK X) a b (A ++ (wM (fun k => a (131 + k)) M ++ [o, eDd 1 od])) 2629 (lLs a bb i) []) :
    EV (lK X) a b (A ++ (wM (fun k => a (131 + k)) M ++ [o, eDd 1 od])) p [some (.ref bb), some (.ref (a 0)), some (.ref (a 131)), some (.ref (a 137)), some (.ref (a 138)), some (vi i), some (vi e), some (.float v), none] [] := by
  have kend : EV (lK X) a b (A ++ (wM (fun k => a (131 + k)) M ++ [o, eDd 1 od])) (p + 49) [some (.ref bb), some (.ref (a 0)), some (.ref (a 131)), some (.ref (a 137)), some (.ref (a 138)), some (vi i), some (vi e), some (.float v), none] [] := by
    refine e_goto (K := lK X) (n := 2629) d49 ho ?_
    refine EV.fgt 6 ?_
    refine EV.fgt 7 ?_
    exact kk
  refine lFst (t := p + 49) d0 d1 d4 d6 d11 d13 (by omega) hA he hT kend (fun e0 => ?_)
  have w := hv e0
  refine e_aload (K := lK X) (n := p + 18) d16 rfl rfl ?_
  refine e_iconst (K := lK X) (n := p + 19) d18 rfl ?_
  refine e_daload (K := lK X) (n := p + 20) (i := 138) (N := 1) (f := od) d19 rfl rfl (by rw [show (138 : Nat) = 131 + 7 from rfl, get_B hA]; rfl) (by decide) (by decide) ?_
  refine e_fload (K := lK X) (n := p + 22) d20 rfl rfl ?_
  refine e_f2d (K := lK X) (n := p + 23) d22 rfl w.2.1 ?_
  refine e_dcmp (K := lK X) (n := p + 24) d23 rfl ?_
  refine EV.eq (st' := [vi 0]) (by show [Value.int (Op.cmpValue (FP.dcmp (od 0) (FP.f2d v)) .l)] = _; rw [w.1, w.2.2]; rfl) ?_
  exact e_if_eq (K := lK X) (t := p + 49) (n := p + 27) d24 (by omega) rfl (by decide) (fun _ => kend) (fun q => absurd rfl q)
end LAW
def lowc (x : Int) : Int := (((Int32.ofInt x).toUInt32 % 65536).toInt32).toInt
theorem lowc_v {x : Int} : ((Int32.ofInt x).toUInt32 % 65536).toInt32 = Int32.ofInt (lowc x) := (oI_ofI _).symm
theorem lowc_in {x : Int} : 0 ≤ lowc x ∧ lowc x ≤ 65535 := by
  have h : ((Int32.ofInt x).toUInt32 % 65536).toNat < 65536 := by rw [UInt32.toNat_mod]; exact Nat.mod_lt _ (by decide)
  have e : lowc x = ((((Int32.ofInt x).toUInt32 % 65536).toNat : Nat) : Int) := BitVec.toInt_eq_toNat_of_lt (by show 2 * ((Int32.ofInt x).toUInt32 % 65536).toNat < 2 ^ 32; omega)
  omega
theorem wA_t1 {a : Nat → Nat} {z : Nat → Int} {ln : Int → Int} {F : eFs} {P : Int → Int} {D : eFs} {DQ : Int → Int} {S : eFs} {SP : Int → Int} {c n : Int} {h : eHs} {g rc : Int → Int} {T : eFs} {Mt : Int → Int → Int} {x : eE} : wA a z ln F P D DQ S SP c n h g rc T Mt [x] = wA a z ln F P D DQ S SP c n h g rc T Mt [] ++ [x] := wA_tl
theorem fp_mean {x n : Int} (hx : 0 ≤ x ∧ x ≤ 620) (hn : 1 ≤ n ∧ n ≤ 9) : Op.cmpValue (FP.dcmp (FP.ddiv (FP.i2d (Int32.ofInt x)) (FP.i2d (Int32.ofInt n))) (FP.ddiv (FP.i2d (Int32.ofInt x)) (FP.i2d (Int32.ofInt n)))) .l = 0 := by
  have h : ∀ i : Fin 621, ∀ j : Fin 10, 1 ≤ j.val → Op.cmpValue (FP.dcmp (FP.ddiv (FP.i2d (Int32.ofInt (i.val : Int))) (FP.i2d (Int32.ofInt (j.val : Int)))) (FP.ddiv (FP.i2d (Int32.ofInt (i.val : Int))) (FP.i2d (Int32.ofInt (j.val : Int))))) .l = 0 := by decide +kernel
  have := h ⟨x.toNat, by omega⟩ ⟨n.toNat, by omega⟩ (by show 1 ≤ n.toNat; omega)
  simpa [show ((x.toNat : Nat) : Int) = x by omega, show ((n.toNat : Nat) : Int) = n by omega] using this
theorem fp_share {x n : Int} (hx : 0 ≤ x ∧ x ≤ 100) (hn : 1 ≤ n ∧ n ≤ 100) : vf_n64 (FP.f2d (FP.fdiv (FP.i2f (Int32.ofInt x)) (FP.i2f (Int32.ofInt n)))) ∧ Op.cmpValue (FP.dcmp (FP.f2d (FP.fdiv (FP.i2f (Int32.ofInt x)) (FP.i2f (Int32.ofInt n)))) (FP.f2d (FP.fdiv (FP.i2f (Int32.ofInt x)) (FP.i2f (Int32.ofInt n))))) .l = 0 := by
  have h : ∀ i : Fin 101, ∀ j : Fin 101, 1 ≤ j.val → vf_n64 (FP.f2d (FP.fdiv (FP.i2f (Int32.ofInt (i.val : Int))) (FP.i2f (Int32.ofInt (j.val : Int))))) ∧ Op.cmpValue (FP.dcmp (FP.f2d (FP.fdiv (FP.i2f (Int32.ofInt (i.val : Int))) (FP.i2f (Int32.ofInt (j.val : Int))))) (FP.f2d (FP.fdiv (FP.i2f (Int32.ofInt (i.val : Int))) (FP.i2f (Int32.ofInt (j.val : Int)))))) .l = 0 := by
    unfold vf_n64
    decide +kernel
  have := h ⟨x.toNat, by omega⟩ ⟨n.toNat, by omega⟩ (by show 1 ≤ n.toNat; omega)
  simpa [show ((x.toNat : Nat) : Int) = x by omega, show ((n.toNat : Nat) : Int) = n by omega] using this
theorem hn64 (F : eFs) (hc : 0 ≤ F.1 0 ∧ F.1 0 ≤ 10) : vf_n64 (FP.f2d (FP.fdiv (FP.i2f (Int32.ofInt (sMix F))) (FP.i2f (Int32.ofInt (sPrs F))))) := by
  have up := sPrs_in hc
  have um := sMix_in hc
  by_cases e : 1 ≤ sPrs F
  · exact (fp_share um (by omega)).1
  · have e0 : sPrs F = 0 := by omega
    have m0 : ∀ i : Fin 101, vf_n64 (FP.f2d (FP.fdiv (FP.i2f (Int32.ofInt (i.val : Int))) (FP.i2f (Int32.ofInt 0)))) := by
      unfold vf_n64
      decide +kernel
    have := m0 ⟨(sMix F).toNat, by omega⟩
    rw [e0]
    simpa [show (((sMix F).toNat : Nat) : Int) = sMix F by omega] using this
theorem near_ex {f : Int → Int} {b : Int} : ∀ m : Nat, (∃ j : Int, 0 ≤ j ∧ j < (m : Int) ∧ ¬ j = b) → ∃ z : Int, 0 ≤ z ∧ z < (m : Int) ∧ ¬ z = b ∧ ∀ j, 0 ≤ j → j < (m : Int) → ¬ j = b → f z < f j ∨ (f z = f j ∧ z ≤ j) := by
  intro m
  induction m with
  | zero => intro ⟨j, h1, h2, _⟩; exact absurd h2 (by show ¬ j < ((0 : Nat) : Int); omega)
  | succ m ih =>
    intro ⟨j, h1, h2, h3⟩
    by_cases q : ∃ j : Int, 0 ≤ j ∧ j < (m : Int) ∧ ¬ j = b
    · obtain ⟨z, z1, z2, z3, z4⟩ := ih q
      by_cases e : (m : Int) = b
      · exact ⟨z, z1, by omega, z3, fun k k0 k1 k2 => z4 k k0 (by omega) k2⟩
      · by_cases l : f z ≤ f (m : Int)
        · refine ⟨z, z1, by omega, z3, fun k k0 k1 k2 => ?_⟩
          by_cases k3 : k < (m : Int)
          · exact z4 k k0 k3 k2
          · have k4 : k = (m : Int) := by omega
            rw [k4]
            omega
        · refine ⟨(m : Int), by omega, by omega, e, fun k k0 k1 k2 => ?_⟩
          by_cases k3 : k < (m : Int)
          · have := z4 k k0 k3 k2
            omega
          · have k4 : k = (m : Int) := by omega
            rw [k4]
            omega
    · have e : j = (m : Int) := by
        by_cases k3 : j < (m : Int)
        · exact absurd ⟨j, h1, k3, h3⟩ q
        · omega
      refine ⟨j, h1, h2, h3, fun k k0 k1 k2 => ?_⟩
      by_cases k3 : k < (m : Int)
      · exact absurd ⟨k, k0, k3, k2⟩ q
      · have k4 : k = j := by omega
        rw [k4]
        omega
theorem near_iff {N : Int} {F : eFs} {b : Int} (hF : okF N F) (hb : sHas F b) : ¬ sNear F b = -1 ↔ ¬ F.1 0 < 2 := by
  have hc := hF.1
  have hb' : 0 ≤ b ∧ b < F.1 0 := hb
  constructor
  · intro q w
    exact q (sNear_no (fun j j0 j1 => by omega))
  · intro q w
    obtain ⟨z, z1, z2, z3, z4⟩ := near_ex (f := fun j => sDD F b j) (b := b) (F.1 0).toNat (by
      by_cases e : b = 0
      · exact ⟨1, by omega, by omega, by omega⟩
      · exact ⟨0, by omega, by omega, by omega⟩)
    have := sNear_of z1 (by omega) z3 (fun j j0 j1 j2 => z4 j j0 (by omega) j2)
    omega
theorem W_addBasket {X : eXT} {a : Nat → Nat} {z : Nat → Int} {ln : Int → Int} {F : eFs} {P : Int → Int} {D : eFs} {DQ : Int → Int} {S : eFs} {SP : Int → Int} {c n : Int} {h : eHs} {g rc : Int → Int} {T : eFs} {Mt : Int → Int → Int} {o : Int → Int} {N : Int} (hF : okF N F) (hcc : 0 ≤ c ∧ c ≤ 8) (hnn : 0 ≤ n ∧ n ≤ 7) {x y w : Int} (gx : -2147483648 ≤ x ∧ x ≤ 2147483647) (gy : -2147483648 ≤ y ∧ y ≤ 2147483647) (gw : -2147483648 ≤ w ∧ w ≤ 2147483647) :
    EM X mL_addBasket (eRt 10 2) (fun k => a (eR rhoL k)) [.ref (a 0), vi x, vi y, vi w, .ref (a 137)] (wA a z ln F P D DQ S SP c n h g rc T Mt [] ++ [eJ 1 1 o]) (eRets (some (vi (exK (eEx (sHin F 0 x y w)) xAr xSt xUn))) (fun k => a (eR rhoL k)) (fun cs1 => (eEx (sHin F 0 x y w) = none → cs1 = wA a z ln (sDo F 0 x y w) P D DQ S SP (if 8 < c + 1 then 8 else c + 1) (if n + 1 < 8 then n + 1 else 0) (hU h n.toNat F) g rc T Mt [] ++ [eJ 1 1 (eU o 0 (w32 (sDoR F 0 x y w)))]) ∧ (¬ eEx (sHin F 0 x y w) = none → cs1 = wA a (zHi z F 0 x y w) ln F P D DQ S SP c n h g rc T Mt [] ++ [eJ 1 1 o]))) := by
  have q := C_L_addBasket (X := X) (a := fun k => a (eR rhoL k)) (z := z) (ln := ln) (F := F) (P := P) (D := D) (DQ := DQ) (S := S) (SP := SP) (c := c) (n := n) (h := h) (g := g) (rc := rc) (T := T) (Mt := Mt) (o := o) hF hcc hnn gx gy gw
  simp only [wA_rL (a := a), wA_t1] at q
  exact q
theorem W_jump {X : eXT} {a : Nat → Nat} {z : Nat → Int} {ln : Int → Int} {F : eFs} {P : Int → Int} {D : eFs} {DQ : Int → Int} {S : eFs} {SP : Int → Int} {c n : Int} {h : eHs} {g rc : Int → Int} {T : eFs} {Mt : Int → Int → Int} {o : Int → Int} {N : Int} (hF : okF N F) (hcc : 0 ≤ c ∧ c ≤ 8) (hnn : 0 ≤ n ∧ n ≤ 7) {b x y : Int} (gb : -2147483648 ≤ b ∧ b ≤ 2147483647) (gx : -2147483648 ≤ x ∧ x ≤ 2147483647) (gy : -2147483648 ≤ y ∧ y ≤ 2147483647) :
    EM X mL_jump (eRt 10 2) (fun k => a (eR rhoL k)) [.ref (a 0), vi b, vi x, vi y, .ref (a 137)] (wA a z ln F P D DQ S SP c n h g rc T Mt [] ++ [eJ 1 1 o]) (eRets (some (vi (exK (eEx (sHin F 1 b x y)) xIx xAr xUn))) (fun k => a (eR rhoL k)) (fun cs1 => (eEx (sHin F 1 b x y) = none → cs1 = wA a z ln (sDo F 1 b x y) P D DQ S SP (if 8 < c + 1 then 8 else c + 1) (if n + 1 < 8 then n + 1 else 0) (hU h n.toNat F) g rc T Mt [] ++ [eJ 1 1 (eU o 0 (w32 (sDoR F 1 b x y)))]) ∧ (¬ eEx (sHin F 1 b x y) = none → cs1 = wA a (zHi z F 1 b x y) ln F P D DQ S SP c n h g rc T Mt [] ++ [eJ 1 1 o]))) := by
  have q := C_L_jump (X := X) (a := fun k => a (eR rhoL k)) (z := z) (ln := ln) (F := F) (P := P) (D := D) (DQ := DQ) (S := S) (SP := SP) (c := c) (n := n) (h := h) (g := g) (rc := rc) (T := T) (Mt := Mt) (o := o) hF hcc hnn gb gx gy
  simp only [wA_rL (a := a), wA_t1] at q
  exact q
theorem W_setHandle {X : eXT} {a : Nat → Nat} {z : Nat → Int} {ln : Int → Int} {F : eFs} {P : Int → Int} {D : eFs} {DQ : Int → Int} {S : eFs} {SP : Int → Int} {c n : Int} {h : eHs} {g rc : Int → Int} {T : eFs} {Mt : Int → Int → Int} {o : Int → Int} {N : Int} (hF : okF N F) (hcc : 0 ≤ c ∧ c ≤ 8) (hnn : 0 ≤ n ∧ n ≤ 7) {b w : Int} (gb : -2147483648 ≤ b ∧ b ≤ 2147483647) (gw : -2147483648 ≤ w ∧ w ≤ 2147483647) :
    EM X mL_setHandle (eRt 10 2) (fun k => a (eR rhoL k)) [.ref (a 0), vi b, vi w, .ref (a 137)] (wA a z ln F P D DQ S SP c n h g rc T Mt [] ++ [eJ 1 1 o]) (eRets (some (vi (exK (eEx (sHin F 2 b w 0)) xIx xAr ""))) (fun k => a (eR rhoL k)) (fun cs1 => (eEx (sHin F 2 b w 0) = none → cs1 = wA a z ln (sDo F 2 b w 0) P D DQ S SP (if 8 < c + 1 then 8 else c + 1) (if n + 1 < 8 then n + 1 else 0) (hU h n.toNat F) g rc T Mt [] ++ [eJ 1 1 (eU o 0 (w32 (sDoR F 2 b w 0)))]) ∧ (¬ eEx (sHin F 2 b w 0) = none → cs1 = wA a (zHi z F 2 b w 0) ln F P D DQ S SP c n h g rc T Mt [] ++ [eJ 1 1 o]))) := by
  have q := C_L_setHandle (X := X) (a := fun k => a (eR rhoL k)) (z := z) (ln := ln) (F := F) (P := P) (D := D) (DQ := DQ) (S := S) (SP := SP) (c := c) (n := n) (h := h) (g := g) (rc := rc) (T := T) (Mt := Mt) (o := o) hF hcc hnn gb gw
  simp only [wA_rL (a := a), wA_t1] at q
  exact q
theorem W_addCloud {X : eXT} {a : Nat → Nat} {z : Nat → Int} {ln : Int → Int} {F : eFs} {P : Int → Int} {D : eFs} {DQ : Int → Int} {S : eFs} {SP : Int → Int} {c n : Int} {h : eHs} {g rc : Int → Int} {T : eFs} {Mt : Int → Int → Int} {o : Int → Int} {N : Int} (hF : okF N F) (hcc : 0 ≤ c ∧ c ≤ 8) (hnn : 0 ≤ n ∧ n ≤ 7) {x y : Int} (gx : -2147483648 ≤ x ∧ x ≤ 2147483647) (gy : -2147483648 ≤ y ∧ y ≤ 2147483647) :
    EM X mL_addCloud (eRt 10 2) (fun k => a (eR rhoL k)) [.ref (a 0), vi x, vi y, .ref (a 137)] (wA a z ln F P D DQ S SP c n h g rc T Mt [] ++ [eJ 1 1 o]) (eRets (some (vi (exK (eEx (sHin F 3 x y 0)) xAr xSt xUn))) (fun k => a (eR rhoL k)) (fun cs1 => (eEx (sHin F 3 x y 0) = none → cs1 = wA a z ln (sDo F 3 x y 0) P D DQ S SP (if 8 < c + 1 then 8 else c + 1) (if n + 1 < 8 then n + 1 else 0) (hU h n.toNat F) g rc T Mt [] ++ [eJ 1 1 (eU o 0 (w32 (sDoR F 3 x y 0)))]) ∧ (¬ eEx (sHin F 3 x y 0) = none → cs1 = wA a (zHi z F 3 x y 0) ln F P D DQ S SP c n h g rc T Mt [] ++ [eJ 1 1 o]))) := by
  have q := C_L_addCloud (X := X) (a := fun k => a (eR rhoL k)) (z := z) (ln := ln) (F := F) (P := P) (D := D) (DQ := DQ) (S := S) (SP := SP) (c := c) (n := n) (h := h) (g := g) (rc := rc) (T := T) (Mt := Mt) (o := o) hF hcc hnn gx gy
  simp only [wA_rL (a := a), wA_t1] at q
  exact q
theorem W_removeCloud {X : eXT} {a : Nat → Nat} {z : Nat → Int} {ln : Int → Int} {F : eFs} {P : Int → Int} {D : eFs} {DQ : Int → Int} {S : eFs} {SP : Int → Int} {c n : Int} {h : eHs} {g rc : Int → Int} {T : eFs} {Mt : Int → Int → Int} {o : Int → Int} {N : Int} (hF : okF N F) (hcc : 0 ≤ c ∧ c ≤ 8) (hnn : 0 ≤ n ∧ n ≤ 7) {x y : Int} (gx : -2147483648 ≤ x ∧ x ≤ 2147483647) (gy : -2147483648 ≤ y ∧ y ≤ 2147483647) :
    EM X mL_removeCloud (eRt 10 2) (fun k => a (eR rhoL k)) [.ref (a 0), vi x, vi y, .ref (a 137)] (wA a z ln F P D DQ S SP c n h g rc T Mt [] ++ [eJ 1 1 o]) (eRets (some (vi (exK (eEx (sHin F 4 x y 0)) xAr xNo ""))) (fun k => a (eR rhoL k)) (fun cs1 => (eEx (sHin F 4 x y 0) = none → cs1 = wA a z ln (sDo F 4 x y 0) P D DQ S SP (if 8 < c + 1 then 8 else c + 1) (if n + 1 < 8 then n + 1 else 0) (hU h n.toNat F) g rc T Mt [] ++ [eJ 1 1 (eU o 0 (w32 (sDoR F 4 x y 0)))]) ∧ (¬ eEx (sHin F 4 x y 0) = none → cs1 = wA a (zHi z F 4 x y 0) ln F P D DQ S SP c n h g rc T Mt [] ++ [eJ 1 1 o]))) := by
  have q := C_L_removeCloud (X := X) (a := fun k => a (eR rhoL k)) (z := z) (ln := ln) (F := F) (P := P) (D := D) (DQ := DQ) (S := S) (SP := SP) (c := c) (n := n) (h := h) (g := g) (rc := rc) (T := T) (Mt := Mt) (o := o) hF hcc hnn gx gy
  simp only [wA_rL (a := a), wA_t1] at q
  exact q
theorem W_setTurnLength {X : eXT} {a : Nat → Nat} {z : Nat → Int} {ln : Int → Int} {F : eFs} {P : Int → Int} {D : eFs} {DQ : Int → Int} {S : eFs} {SP : Int → Int} {c n : Int} {h : eHs} {g rc : Int → Int} {T : eFs} {Mt : Int → Int → Int} {o : Int → Int} {N : Int} (hF : okF N F) (hcc : 0 ≤ c ∧ c ≤ 8) (hnn : 0 ≤ n ∧ n ≤ 7) {s : Int} (gs : -2147483648 ≤ s ∧ s ≤ 2147483647) :
    EM X mL_setTurnLength (eRt 10 2) (fun k => a (eR rhoL k)) [.ref (a 0), vi s, .ref (a 137)] (wA a z ln F P D DQ S SP c n h g rc T Mt [] ++ [eJ 1 1 o]) (eRets (some (vi (exK (eEx (sHin F 5 s 0 0)) xAr "" ""))) (fun k => a (eR rhoL k)) (fun cs1 => (eEx (sHin F 5 s 0 0) = none → cs1 = wA a z ln (sDo F 5 s 0 0) P D DQ S SP (if 8 < c + 1 then 8 else c + 1) (if n + 1 < 8 then n + 1 else 0) (hU h n.toNat F) g rc T Mt [] ++ [eJ 1 1 (eU o 0 (w32 (sDoR F 5 s 0 0)))]) ∧ (¬ eEx (sHin F 5 s 0 0) = none → cs1 = wA a (zHi z F 5 s 0 0) ln F P D DQ S SP c n h g rc T Mt [] ++ [eJ 1 1 o]))) := by
  have q := C_L_setTurnLength (X := X) (a := fun k => a (eR rhoL k)) (z := z) (ln := ln) (F := F) (P := P) (D := D) (DQ := DQ) (S := S) (SP := SP) (c := c) (n := n) (h := h) (g := g) (rc := rc) (T := T) (Mt := Mt) (o := o) hF hcc hnn gs
  simp only [wA_rL (a := a), wA_t1] at q
  exact q
theorem W_setTarget {X : eXT} {a : Nat → Nat} {z : Nat → Int} {ln : Int → Int} {F : eFs} {P : Int → Int} {D : eFs} {DQ : Int → Int} {S : eFs} {SP : Int → Int} {c n : Int} {h : eHs} {g rc : Int → Int} {T : eFs} {Mt : Int → Int → Int} {o : Int → Int} {N : Int} (hF : okF N F) (hcc : 0 ≤ c ∧ c ≤ 8) (hnn : 0 ≤ n ∧ n ≤ 7) {x y : Int} (gx : -2147483648 ≤ x ∧ x ≤ 2147483647) (gy : -2147483648 ≤ y ∧ y ≤ 2147483647) :
    EM X mL_setTarget (eRt 10 2) (fun k => a (eR rhoL k)) [.ref (a 0), vi x, vi y, .ref (a 137)] (wA a z ln F P D DQ S SP c n h g rc T Mt [] ++ [eJ 1 1 o]) (eRets (some (vi (exK (eEx (sHin F 6 x y 0)) xAr xNo ""))) (fun k => a (eR rhoL k)) (fun cs1 => (eEx (sHin F 6 x y 0) = none → cs1 = wA a z ln (sDo F 6 x y 0) P D DQ S SP (if 8 < c + 1 then 8 else c + 1) (if n + 1 < 8 then n + 1 else 0) (hU h n.toNat F) g rc T Mt [] ++ [eJ 1 1 (eU o 0 (w32 (sDoR F 6 x y 0)))]) ∧ (¬ eEx (sHin F 6 x y 0) = none → cs1 = wA a (zHi z F 6 x y 0) ln F P D DQ S SP c n h g rc T Mt [] ++ [eJ 1 1 o]))) := by
  have q := C_L_setTarget (X := X) (a := fun k => a (eR rhoL k)) (z := z) (ln := ln) (F := F) (P := P) (D := D) (DQ := DQ) (S := S) (SP := SP) (c := c) (n := n) (h := h) (g := g) (rc := rc) (T := T) (Mt := Mt) (o := o) hF hcc hnn gx gy
  simp only [wA_rL (a := a), wA_t1] at q
  exact q
theorem W_setKeep {X : eXT} {a : Nat → Nat} {z : Nat → Int} {ln : Int → Int} {F : eFs} {P : Int → Int} {D : eFs} {DQ : Int → Int} {S : eFs} {SP : Int → Int} {c n : Int} {h : eHs} {g rc : Int → Int} {T : eFs} {Mt : Int → Int → Int} {o : Int → Int} {N : Int} (hF : okF N F) (hcc : 0 ≤ c ∧ c ≤ 8) (hnn : 0 ≤ n ∧ n ≤ 7) {s : Int} (gs : -2147483648 ≤ s ∧ s ≤ 2147483647) :
    EM X mL_setKeep (eRt 10 2) (fun k => a (eR rhoL k)) [.ref (a 0), vi s, .ref (a 137)] (wA a z ln F P D DQ S SP c n h g rc T Mt [] ++ [eJ 1 1 o]) (eRets (some (vi (exK (eEx (sHin F 7 s 0 0)) xAr "" ""))) (fun k => a (eR rhoL k)) (fun cs1 => (eEx (sHin F 7 s 0 0) = none → cs1 = wA a z ln (sDo F 7 s 0 0) P D DQ S SP (if 8 < c + 1 then 8 else c + 1) (if n + 1 < 8 then n + 1 else 0) (hU h n.toNat F) g rc T Mt [] ++ [eJ 1 1 (eU o 0 (w32 (sDoR F 7 s 0 0)))]) ∧ (¬ eEx (sHin F 7 s 0 0) = none → cs1 = wA a (zHi z F 7 s 0 0) ln F P D DQ S SP c n h g rc T Mt [] ++ [eJ 1 1 o]))) := by
  have q := C_L_setKeep (X := X) (a := fun k => a (eR rhoL k)) (z := z) (ln := ln) (F := F) (P := P) (D := D) (DQ := DQ) (S := S) (SP := SP) (c := c) (n := n) (h := h) (g := g) (rc := rc) (T := T) (Mt := Mt) (o := o) hF hcc hnn gs
  simp only [wA_rL (a := a), wA_t1] at q
  exact q
theorem W_advance {X : eXT} {a : Nat → Nat} {z : Nat → Int} {ln : Int → Int} {F : eFs} {P : Int → Int} {D : eFs} {DQ : Int → Int} {S : eFs} {SP : Int → Int} {c n : Int} {h : eHs} {g rc : Int → Int} {T : eFs} {Mt : Int → Int → Int} {o : Int → Int} {N : Int} (hF : okF N F) (hcc : 0 ≤ c ∧ c ≤ 8) (hnn : 0 ≤ n ∧ n ≤ 7) (hNs : N + 20000 ≤ 100000000) {s : Int} (gs : -2147483648 ≤ s ∧ s ≤ 2147483647) :
    EM X mL_advance (eRt 10 2) (fun k => a (eR rhoL k)) [.ref (a 0), vi s, .ref (a 137)] (wA a z ln F P D DQ S SP c n h g rc T Mt [] ++ [eJ 1 1 o]) (eRets (some (vi (exK (eEx (sHin F 8 s 0 0)) xAr "" ""))) (fun k => a (eR rhoL k)) (fun cs1 => (eEx (sHin F 8 s 0 0) = none → cs1 = wA a z ln (sDo F 8 s 0 0) (sStsP (s - 0).toNat F P) D DQ S SP (if 8 < c + 1 then 8 else c + 1) (if n + 1 < 8 then n + 1 else 0) (hU h n.toNat F) g rc T Mt [] ++ [eJ 1 1 (eU o 0 (w32 (sDoR F 8 s 0 0)))]) ∧ (¬ eEx (sHin F 8 s 0 0) = none → cs1 = wA a (zHi z F 8 s 0 0) ln F P D DQ S SP c n h g rc T Mt [] ++ [eJ 1 1 o]))) := by
  have q := C_L_advance (X := X) (a := fun k => a (eR rhoL k)) (z := z) (ln := ln) (F := F) (P := P) (D := D) (DQ := DQ) (S := S) (SP := SP) (c := c) (n := n) (h := h) (g := g) (rc := rc) (T := T) (Mt := Mt) (o := o) hF hcc hnn hNs gs
  simp only [wA_rL (a := a), wA_t1] at q
  exact q
theorem W_xOf {X : eXT} {a : Nat → Nat} {z : Nat → Int} {ln : Int → Int} {F : eFs} {P : Int → Int} {D : eFs} {DQ : Int → Int} {S : eFs} {SP : Int → Int} {c n : Int} {h : eHs} {g rc : Int → Int} {T : eFs} {Mt : Int → Int → Int} {o : Int → Int} {N : Int} (hF : okF N F) {b : Int} (gb : -2147483648 ≤ b ∧ b ≤ 2147483647) :
    EM X mL_xOf (eRt 10 2) (fun k => a (eR rhoL k)) [.ref (a 0), vi b, .ref (a 137)] (wA a z ln F P D DQ S SP c n h g rc T Mt [] ++ [eJ 1 1 o]) (eRets (some (vi (exK ((if sHas F b then none else some xIx)) xIx "" ""))) (fun k => a (eR rhoL k)) (fun cs1 => ((if sHas F b then none else some xIx) = none → cs1 = wA a z ln F P D DQ S SP c n h g rc T Mt [] ++ [eJ 1 1 (eU o 0 (w32 (F.2 0 b)))]) ∧ (¬ (if sHas F b then none else some xIx) = none → cs1 = wA a z ln F P D DQ S SP c n h g rc T Mt [] ++ [eJ 1 1 o]))) := by
  have q := C_L_xOf (X := X) (a := fun k => a (eR rhoL k)) (z := z) (ln := ln) (F := F) (P := P) (D := D) (DQ := DQ) (S := S) (SP := SP) (c := c) (n := n) (h := h) (g := g) (rc := rc) (T := T) (Mt := Mt) (o := o) hF gb
  simp only [wA_rL (a := a), wA_t1] at q
  exact q
theorem W_yOf {X : eXT} {a : Nat → Nat} {z : Nat → Int} {ln : Int → Int} {F : eFs} {P : Int → Int} {D : eFs} {DQ : Int → Int} {S : eFs} {SP : Int → Int} {c n : Int} {h : eHs} {g rc : Int → Int} {T : eFs} {Mt : Int → Int → Int} {o : Int → Int} {N : Int} (hF : okF N F) {b : Int} (gb : -2147483648 ≤ b ∧ b ≤ 2147483647) :
    EM X mL_yOf (eRt 10 2) (fun k => a (eR rhoL k)) [.ref (a 0), vi b, .ref (a 137)] (wA a z ln F P D DQ S SP c n h g rc T Mt [] ++ [eJ 1 1 o]) (eRets (some (vi (exK ((if sHas F b then none else some xIx)) xIx "" ""))) (fun k => a (eR rhoL k)) (fun cs1 => ((if sHas F b then none else some xIx) = none → cs1 = wA a z ln F P D DQ S SP c n h g rc T Mt [] ++ [eJ 1 1 (eU o 0 (w32 (F.2 1 b)))]) ∧ (¬ (if sHas F b then none else some xIx) = none → cs1 = wA a z ln F P D DQ S SP c n h g rc T Mt [] ++ [eJ 1 1 o]))) := by
  have q := C_L_yOf (X := X) (a := fun k => a (eR rhoL k)) (z := z) (ln := ln) (F := F) (P := P) (D := D) (DQ := DQ) (S := S) (SP := SP) (c := c) (n := n) (h := h) (g := g) (rc := rc) (T := T) (Mt := Mt) (o := o) hF gb
  simp only [wA_rL (a := a), wA_t1] at q
  exact q
theorem W_handleOf {X : eXT} {a : Nat → Nat} {z : Nat → Int} {ln : Int → Int} {F : eFs} {P : Int → Int} {D : eFs} {DQ : Int → Int} {S : eFs} {SP : Int → Int} {c n : Int} {h : eHs} {g rc : Int → Int} {T : eFs} {Mt : Int → Int → Int} {o : Int → Int} {N : Int} (hF : okF N F) {b : Int} (gb : -2147483648 ≤ b ∧ b ≤ 2147483647) :
    EM X mL_handleOf (eRt 10 2) (fun k => a (eR rhoL k)) [.ref (a 0), vi b, .ref (a 137)] (wA a z ln F P D DQ S SP c n h g rc T Mt [] ++ [eJ 1 1 o]) (eRets (some (vi (exK ((if sHas F b then none else some xIx)) xIx "" ""))) (fun k => a (eR rhoL k)) (fun cs1 => ((if sHas F b then none else some xIx) = none → cs1 = wA a z ln F P D DQ S SP c n h g rc T Mt [] ++ [eJ 1 1 (eU o 0 (w32 (F.2 2 b)))]) ∧ (¬ (if sHas F b then none else some xIx) = none → cs1 = wA a z ln F P D DQ S SP c n h g rc T Mt [] ++ [eJ 1 1 o]))) := by
  have q := C_L_handleOf (X := X) (a := fun k => a (eR rhoL k)) (z := z) (ln := ln) (F := F) (P := P) (D := D) (DQ := DQ) (S := S) (SP := SP) (c := c) (n := n) (h := h) (g := g) (rc := rc) (T := T) (Mt := Mt) (o := o) hF gb
  simp only [wA_rL (a := a), wA_t1] at q
  exact q
theorem W_movesOf {X : eXT} {a : Nat → Nat} {z : Nat → Int} {ln : Int → Int} {F : eFs} {P : Int → Int} {D : eFs} {DQ : Int → Int} {S : eFs} {SP : Int → Int} {c n : Int} {h : eHs} {g rc : Int → Int} {T : eFs} {Mt : Int → Int → Int} {o : Int → Int} {N : Int} (hF : okF N F) {b : Int} (gb : -2147483648 ≤ b ∧ b ≤ 2147483647) :
    EM X mL_movesOf (eRt 10 2) (fun k => a (eR rhoL k)) [.ref (a 0), vi b, .ref (a 137)] (wA a z ln F P D DQ S SP c n h g rc T Mt [] ++ [eJ 1 1 o]) (eRets (some (vi (exK ((if sHas F b then none else some xIx)) xIx "" ""))) (fun k => a (eR rhoL k)) (fun cs1 => ((if sHas F b then none else some xIx) = none → cs1 = wA a z ln F P D DQ S SP c n h g rc T Mt [] ++ [eJ 1 1 (eU o 0 (w32 (F.2 3 b)))]) ∧ (¬ (if sHas F b then none else some xIx) = none → cs1 = wA a z ln F P D DQ S SP c n h g rc T Mt [] ++ [eJ 1 1 o]))) := by
  have q := C_L_movesOf (X := X) (a := fun k => a (eR rhoL k)) (z := z) (ln := ln) (F := F) (P := P) (D := D) (DQ := DQ) (S := S) (SP := SP) (c := c) (n := n) (h := h) (g := g) (rc := rc) (T := T) (Mt := Mt) (o := o) hF gb
  simp only [wA_rL (a := a), wA_t1] at q
  exact q
theorem W_distance {X : eXT} {a : Nat → Nat} {z : Nat → Int} {ln : Int → Int} {F : eFs} {P : Int → Int} {D : eFs} {DQ : Int → Int} {S : eFs} {SP : Int → Int} {c n : Int} {h : eHs} {g rc : Int → Int} {T : eFs} {Mt : Int → Int → Int} {o : Int → Int} {N : Int} (hF : okF N F) {b w : Int} (gb : -2147483648 ≤ b ∧ b ≤ 2147483647) (gw : -2147483648 ≤ w ∧ w ≤ 2147483647) :
    EM X mL_distance (eRt 10 2) (fun k => a (eR rhoL k)) [.ref (a 0), vi b, vi w, .ref (a 137)] (wA a z ln F P D DQ S SP c n h g rc T Mt [] ++ [eJ 1 1 o]) (eRets (some (vi (exK ((if sHas F b then (if sHas F w then none else some xIx) else some xIx)) xIx "" ""))) (fun k => a (eR rhoL k)) (fun cs1 => ((if sHas F b then (if sHas F w then none else some xIx) else some xIx) = none → cs1 = wA a z ln F P D DQ S SP c n h g rc T Mt [] ++ [eJ 1 1 (eU o 0 (w32 (sDD F b w)))]) ∧ (¬ (if sHas F b then (if sHas F w then none else some xIx) else some xIx) = none → cs1 = wA a z ln F P D DQ S SP c n h g rc T Mt [] ++ [eJ 1 1 o]))) := by
  have q := C_L_distance (X := X) (a := fun k => a (eR rhoL k)) (z := z) (ln := ln) (F := F) (P := P) (D := D) (DQ := DQ) (S := S) (SP := SP) (c := c) (n := n) (h := h) (g := g) (rc := rc) (T := T) (Mt := Mt) (o := o) hF gb gw
  simp only [wA_rL (a := a), wA_t1] at q
  exact q
theorem W_nearestTo {X : eXT} {a : Nat → Nat} {z : Nat → Int} {ln : Int → Int} {F : eFs} {P : Int → Int} {D : eFs} {DQ : Int → Int} {S : eFs} {SP : Int → Int} {c n : Int} {h : eHs} {g rc : Int → Int} {T : eFs} {Mt : Int → Int → Int} {o : Int → Int} {N : Int} (hF : okF N F) {b : Int} (gb : -2147483648 ≤ b ∧ b ≤ 2147483647) :
    EM X mL_nearestTo (eRt 10 2) (fun k => a (eR rhoL k)) [.ref (a 0), vi b, .ref (a 137)] (wA a z ln F P D DQ S SP c n h g rc T Mt [] ++ [eJ 1 1 o]) (eRets (some (vi (exK ((if sHas F b then (if ¬ sNear F b = -1 then none else some xNo) else some xIx)) xIx xNo ""))) (fun k => a (eR rhoL k)) (fun cs1 => ((if sHas F b then (if ¬ sNear F b = -1 then none else some xNo) else some xIx) = none → cs1 = wA a z ln F P D DQ S SP c n h g rc T Mt [] ++ [eJ 1 1 (eU o 0 (w32 (sNear F b)))]) ∧ (¬ (if sHas F b then (if ¬ sNear F b = -1 then none else some xNo) else some xIx) = none → cs1 = wA a z ln F P D DQ S SP c n h g rc T Mt [] ++ [eJ 1 1 o]))) := by
  have q := C_L_nearestTo (X := X) (a := fun k => a (eR rhoL k)) (z := z) (ln := ln) (F := F) (P := P) (D := D) (DQ := DQ) (S := S) (SP := SP) (c := c) (n := n) (h := h) (g := g) (rc := rc) (T := T) (Mt := Mt) (o := o) hF gb
  simp only [wA_rL (a := a), wA_t1] at q
  exact q
theorem W_basketAt {X : eXT} {a : Nat → Nat} {z : Nat → Int} {ln : Int → Int} {F : eFs} {P : Int → Int} {D : eFs} {DQ : Int → Int} {S : eFs} {SP : Int → Int} {c n : Int} {h : eHs} {g rc : Int → Int} {T : eFs} {Mt : Int → Int → Int} {o : Int → Int} {N : Int} (hF : okF N F) {x y : Int} (gx : -2147483648 ≤ x ∧ x ≤ 2147483647) (gy : -2147483648 ≤ y ∧ y ≤ 2147483647) :
    EM X mL_basketAt (eRt 10 2) (fun k => a (eR rhoL k)) [.ref (a 0), vi x, vi y, .ref (a 137)] (wA a z ln F P D DQ S SP c n h g rc T Mt [] ++ [eJ 1 1 o]) (eRets (some (vi (exK ((if sIn x y then (if ¬ sAt F x y = -1 then none else some xNo) else some xAr)) xAr xNo ""))) (fun k => a (eR rhoL k)) (fun cs1 => ((if sIn x y then (if ¬ sAt F x y = -1 then none else some xNo) else some xAr) = none → cs1 = wA a z ln F P D DQ S SP c n h g rc T Mt [] ++ [eJ 1 1 (eU o 0 (w32 (sAt F x y)))]) ∧ (¬ (if sIn x y then (if ¬ sAt F x y = -1 then none else some xNo) else some xAr) = none → cs1 = wA a z ln F P D DQ S SP c n h g rc T Mt [] ++ [eJ 1 1 o]))) := by
  have q := C_L_basketAt (X := X) (a := fun k => a (eR rhoL k)) (z := z) (ln := ln) (F := F) (P := P) (D := D) (DQ := DQ) (S := S) (SP := SP) (c := c) (n := n) (h := h) (g := g) (rc := rc) (T := T) (Mt := Mt) (o := o) hF gx gy
  simp only [wA_rL (a := a), wA_t1] at q
  exact q
theorem W_refusalReason {X : eXT} {a : Nat → Nat} {z : Nat → Int} {ln : Int → Int} {F : eFs} {P : Int → Int} {D : eFs} {DQ : Int → Int} {S : eFs} {SP : Int → Int} {c n : Int} {h : eHs} {g rc : Int → Int} {T : eFs} {Mt : Int → Int → Int} {o : Int → Int} {N : Int} (hF : okF N F) (hz : okZ z) :
    EM X mL_refusalReason (eRt 10 2) (fun k => a (eR rhoL k)) [.ref (a 0), .ref (a 137)] (wA a z ln F P D DQ S SP c n h g rc T Mt [] ++ [eJ 1 1 o]) (eRets (some (vi (exK ((if ¬ z 2 = -1 then none else some xNo)) xNo "" ""))) (fun k => a (eR rhoL k)) (fun cs1 => ((if ¬ z 2 = -1 then none else some xNo) = none → cs1 = wA a z ln F P D DQ S SP c n h g rc T Mt [] ++ [eJ 1 1 (eU o 0 (w32 (z 2)))]) ∧ (¬ (if ¬ z 2 = -1 then none else some xNo) = none → cs1 = wA a z ln F P D DQ S SP c n h g rc T Mt [] ++ [eJ 1 1 o]))) := by
  have q := C_L_refusalReason (X := X) (a := fun k => a (eR rhoL k)) (z := z) (ln := ln) (F := F) (P := P) (D := D) (DQ := DQ) (S := S) (SP := SP) (c := c) (n := n) (h := h) (g := g) (rc := rc) (T := T) (Mt := Mt) (o := o) hF hz
  simp only [wA_rL (a := a), wA_t1] at q
  exact q
theorem W_refusalDetail {X : eXT} {a : Nat → Nat} {z : Nat → Int} {ln : Int → Int} {F : eFs} {P : Int → Int} {D : eFs} {DQ : Int → Int} {S : eFs} {SP : Int → Int} {c n : Int} {h : eHs} {g rc : Int → Int} {T : eFs} {Mt : Int → Int → Int} {o : Int → Int} {N : Int} (hF : okF N F) (hz : okZ z) :
    EM X mL_refusalDetail (eRt 10 2) (fun k => a (eR rhoL k)) [.ref (a 0), .ref (a 137)] (wA a z ln F P D DQ S SP c n h g rc T Mt [] ++ [eJ 1 1 o]) (eRets (some (vi (exK ((if ¬ z 2 = -1 then none else some xNo)) xNo "" ""))) (fun k => a (eR rhoL k)) (fun cs1 => ((if ¬ z 2 = -1 then none else some xNo) = none → cs1 = wA a z ln F P D DQ S SP c n h g rc T Mt [] ++ [eJ 1 1 (eU o 0 (w32 (z 3)))]) ∧ (¬ (if ¬ z 2 = -1 then none else some xNo) = none → cs1 = wA a z ln F P D DQ S SP c n h g rc T Mt [] ++ [eJ 1 1 o]))) := by
  have q := C_L_refusalDetail (X := X) (a := fun k => a (eR rhoL k)) (z := z) (ln := ln) (F := F) (P := P) (D := D) (DQ := DQ) (S := S) (SP := SP) (c := c) (n := n) (h := h) (g := g) (rc := rc) (T := T) (Mt := Mt) (o := o) hF hz
  simp only [wA_rL (a := a), wA_t1] at q
  exact q
theorem W_isCloud {X : eXT} {a : Nat → Nat} {z : Nat → Int} {ln : Int → Int} {F : eFs} {P : Int → Int} {D : eFs} {DQ : Int → Int} {S : eFs} {SP : Int → Int} {c n : Int} {h : eHs} {g rc : Int → Int} {T : eFs} {Mt : Int → Int → Int} {o : Int → Int} {N : Int} (hF : okF N F) {x y : Int} (gx : -2147483648 ≤ x ∧ x ≤ 2147483647) (gy : -2147483648 ≤ y ∧ y ≤ 2147483647) :
    EM X mL_isCloud (eRt 10 2) (fun k => a (eR rhoL k)) [.ref (a 0), vi x, vi y, .ref (a 137)] (wA a z ln F P D DQ S SP c n h g rc T Mt [] ++ [eJ 1 1 o]) (eRets (some (vi (exK ((if sIn x y then none else some xAr)) xAr "" ""))) (fun k => a (eR rhoL k)) (fun cs1 => ((if sIn x y then none else some xAr) = none → cs1 = wA a z ln F P D DQ S SP c n h g rc T Mt [] ++ [eJ 1 1 (eU o 0 (if sCov (F.2 4) x y then 1 else 0))]) ∧ (¬ (if sIn x y then none else some xAr) = none → cs1 = wA a z ln F P D DQ S SP c n h g rc T Mt [] ++ [eJ 1 1 o]))) := by
  have q := C_L_isCloud (X := X) (a := fun k => a (eR rhoL k)) (z := z) (ln := ln) (F := F) (P := P) (D := D) (DQ := DQ) (S := S) (SP := SP) (c := c) (n := n) (h := h) (g := g) (rc := rc) (T := T) (Mt := Mt) (o := o) hF gx gy
  simp only [wA_rL (a := a), wA_t1] at q
  exact q
theorem W_leader {X : eXT} {a : Nat → Nat} {z : Nat → Int} {ln : Int → Int} {F : eFs} {P : Int → Int} {D : eFs} {DQ : Int → Int} {S : eFs} {SP : Int → Int} {c n : Int} {h : eHs} {g rc : Int → Int} {T : eFs} {Mt : Int → Int → Int} {o : Int → Int} {N : Int} (hF : okF N F) :
    EM X mL_leader (eRt 10 2) (fun k => a (eR rhoL k)) [.ref (a 0), .ref (a 137)] (wA a z ln F P D DQ S SP c n h g rc T Mt [] ++ [eJ 1 1 o]) (eRets (some (vi (exK ((if 1 ≤ F.1 0 then none else some xNo)) xNo "" ""))) (fun k => a (eR rhoL k)) (fun cs1 => ((if 1 ≤ F.1 0 then none else some xNo) = none → cs1 = wA a z ln F P D DQ S SP c n h g rc T Mt [] ++ [eJ 1 1 (eU o 0 (w32 (F.1 1)))]) ∧ (¬ (if 1 ≤ F.1 0 then none else some xNo) = none → cs1 = wA a z ln F P D DQ S SP c n h g rc T Mt [] ++ [eJ 1 1 o]))) := by
  have q := C_L_leader (X := X) (a := fun k => a (eR rhoL k)) (z := z) (ln := ln) (F := F) (P := P) (D := D) (DQ := DQ) (S := S) (SP := SP) (c := c) (n := n) (h := h) (g := g) (rc := rc) (T := T) (Mt := Mt) (o := o) hF
  simp only [wA_rL (a := a), wA_t1] at q
  exact q
theorem W_leaderAfter {X : eXT} {a : Nat → Nat} {z : Nat → Int} {ln : Int → Int} {F : eFs} {P : Int → Int} {D : eFs} {DQ : Int → Int} {S : eFs} {SP : Int → Int} {c n : Int} {h : eHs} {g rc : Int → Int} {T : eFs} {Mt : Int → Int → Int} {o : Int → Int} {N : Int} (hF : okF N F) {s : Int} (gs : -2147483648 ≤ s ∧ s ≤ 2147483647) :
    EM X mL_leaderAfter (eRt 10 2) (fun k => a (eR rhoL k)) [.ref (a 0), vi s, .ref (a 137)] (wA a z ln F P D DQ S SP c n h g rc T Mt [] ++ [eJ 1 1 o]) (eRets (some (vi (exK ((if 0 ≤ s ∧ s ≤ 99 then (if 1 ≤ F.1 0 then none else some xNo) else some xAr)) xAr xNo ""))) (fun k => a (eR rhoL k)) (fun cs1 => ((if 0 ≤ s ∧ s ≤ 99 then (if 1 ≤ F.1 0 then none else some xNo) else some xAr) = none → cs1 = wA a z ln F P D DQ S SP c n h g rc T Mt [] ++ [eJ 1 1 (eU o 0 (w32 (sLead F s)))]) ∧ (¬ (if 0 ≤ s ∧ s ≤ 99 then (if 1 ≤ F.1 0 then none else some xNo) else some xAr) = none → cs1 = wA a z ln F P D DQ S SP c n h g rc T Mt [] ++ [eJ 1 1 o]))) := by
  have q := C_L_leaderAfter (X := X) (a := fun k => a (eR rhoL k)) (z := z) (ln := ln) (F := F) (P := P) (D := D) (DQ := DQ) (S := S) (SP := SP) (c := c) (n := n) (h := h) (g := g) (rc := rc) (T := T) (Mt := Mt) (o := o) hF gs
  simp only [wA_rL (a := a), wA_t1] at q
  exact q
theorem W_leaderAfterByCounting {X : eXT} {a : Nat → Nat} {z : Nat → Int} {ln : Int → Int} {F : eFs} {P : Int → Int} {D : eFs} {DQ : Int → Int} {S : eFs} {SP : Int → Int} {c n : Int} {h : eHs} {g rc : Int → Int} {T : eFs} {Mt : Int → Int → Int} {o : Int → Int} {N : Int} (hF : okF N F) {s : Int} (gs : -2147483648 ≤ s ∧ s ≤ 2147483647) :
    EM X mL_leaderAfterByCounting (eRt 10 2) (fun k => a (eR rhoL k)) [.ref (a 0), vi s, .ref (a 137)] (wA a z ln F P D DQ S SP c n h g rc T Mt [] ++ [eJ 1 1 o]) (eRets (some (vi (exK ((if 0 ≤ s ∧ s ≤ 99 then (if 1 ≤ F.1 0 then none else some xNo) else some xAr)) xAr xNo ""))) (fun k => a (eR rhoL k)) (fun cs1 => ((if 0 ≤ s ∧ s ≤ 99 then (if 1 ≤ F.1 0 then none else some xNo) else some xAr) = none → cs1 = wA a z ln F P D DQ S SP c n h g rc T Mt [] ++ [eJ 1 1 (eU o 0 (w32 (sLead F s)))]) ∧ (¬ (if 0 ≤ s ∧ s ≤ 99 then (if 1 ≤ F.1 0 then none else some xNo) else some xAr) = none → cs1 = wA a z ln F P D DQ S SP c n h g rc T Mt [] ++ [eJ 1 1 o]))) := by
  have q := C_L_leaderAfterByCounting (X := X) (a := fun k => a (eR rhoL k)) (z := z) (ln := ln) (F := F) (P := P) (D := D) (DQ := DQ) (S := S) (SP := SP) (c := c) (n := n) (h := h) (g := g) (rc := rc) (T := T) (Mt := Mt) (o := o) hF gs
  simp only [wA_rL (a := a), wA_t1] at q
  exact q
theorem W_targetX {X : eXT} {a : Nat → Nat} {z : Nat → Int} {ln : Int → Int} {F : eFs} {P : Int → Int} {D : eFs} {DQ : Int → Int} {S : eFs} {SP : Int → Int} {c n : Int} {h : eHs} {g rc : Int → Int} {T : eFs} {Mt : Int → Int → Int} {o : Int → Int} {N : Int} (hF : okF N F) :
    EM X mL_targetX (eRt 10 2) (fun k => a (eR rhoL k)) [.ref (a 0), .ref (a 137)] (wA a z ln F P D DQ S SP c n h g rc T Mt [] ++ [eJ 1 1 o]) (eRets (some (vi (exK ((if ¬ F.1 4 = -1 then none else some xNo)) xNo "" ""))) (fun k => a (eR rhoL k)) (fun cs1 => ((if ¬ F.1 4 = -1 then none else some xNo) = none → cs1 = wA a z ln F P D DQ S SP c n h g rc T Mt [] ++ [eJ 1 1 (eU o 0 (w32 (F.1 4)))]) ∧ (¬ (if ¬ F.1 4 = -1 then none else some xNo) = none → cs1 = wA a z ln F P D DQ S SP c n h g rc T Mt [] ++ [eJ 1 1 o]))) := by
  have q := C_L_targetX (X := X) (a := fun k => a (eR rhoL k)) (z := z) (ln := ln) (F := F) (P := P) (D := D) (DQ := DQ) (S := S) (SP := SP) (c := c) (n := n) (h := h) (g := g) (rc := rc) (T := T) (Mt := Mt) (o := o) hF
  simp only [wA_rL (a := a), wA_t1] at q
  exact q
theorem W_targetY {X : eXT} {a : Nat → Nat} {z : Nat → Int} {ln : Int → Int} {F : eFs} {P : Int → Int} {D : eFs} {DQ : Int → Int} {S : eFs} {SP : Int → Int} {c n : Int} {h : eHs} {g rc : Int → Int} {T : eFs} {Mt : Int → Int → Int} {o : Int → Int} {N : Int} (hF : okF N F) :
    EM X mL_targetY (eRt 10 2) (fun k => a (eR rhoL k)) [.ref (a 0), .ref (a 137)] (wA a z ln F P D DQ S SP c n h g rc T Mt [] ++ [eJ 1 1 o]) (eRets (some (vi (exK ((if ¬ F.1 4 = -1 then none else some xNo)) xNo "" ""))) (fun k => a (eR rhoL k)) (fun cs1 => ((if ¬ F.1 4 = -1 then none else some xNo) = none → cs1 = wA a z ln F P D DQ S SP c n h g rc T Mt [] ++ [eJ 1 1 (eU o 0 (w32 (F.1 5)))]) ∧ (¬ (if ¬ F.1 4 = -1 then none else some xNo) = none → cs1 = wA a z ln F P D DQ S SP c n h g rc T Mt [] ++ [eJ 1 1 o]))) := by
  have q := C_L_targetY (X := X) (a := fun k => a (eR rhoL k)) (z := z) (ln := ln) (F := F) (P := P) (D := D) (DQ := DQ) (S := S) (SP := SP) (c := c) (n := n) (h := h) (g := g) (rc := rc) (T := T) (Mt := Mt) (o := o) hF
  simp only [wA_rL (a := a), wA_t1] at q
  exact q
theorem W_stepsSinceShape {X : eXT} {a : Nat → Nat} {z : Nat → Int} {ln : Int → Int} {F : eFs} {P : Int → Int} {D : eFs} {DQ : Int → Int} {S : eFs} {SP : Int → Int} {c n : Int} {h : eHs} {g rc : Int → Int} {T : eFs} {Mt : Int → Int → Int} {o : Int → Int} {N : Int} (hF : okF N F) :
    EM X mL_stepsSinceShape (eRt 10 2) (fun k => a (eR rhoL k)) [.ref (a 0), .ref (a 137)] (wA a z ln F P D DQ S SP c n h g rc T Mt [] ++ [eJ 1 1 o]) (eRets (some (vi (exK ((if ¬ sSince F = -1 then none else some xNo)) xNo "" ""))) (fun k => a (eR rhoL k)) (fun cs1 => ((if ¬ sSince F = -1 then none else some xNo) = none → cs1 = wA a z ln F (sShp F) D DQ S SP c n h g rc T Mt [] ++ [eJ 1 1 (eU o 0 (w32 (sSince F)))]) ∧ (¬ (if ¬ sSince F = -1 then none else some xNo) = none → cs1 = wA a z ln F (sShp F) D DQ S SP c n h g rc T Mt [] ++ [eJ 1 1 o]))) := by
  have q := C_L_stepsSinceShape (X := X) (a := fun k => a (eR rhoL k)) (z := z) (ln := ln) (F := F) (P := P) (D := D) (DQ := DQ) (S := S) (SP := SP) (c := c) (n := n) (h := h) (g := g) (rc := rc) (T := T) (Mt := Mt) (o := o) hF
  simp only [wA_rL (a := a), wA_t1] at q
  exact q
theorem W_basketAtRank {X : eXT} {a : Nat → Nat} {z : Nat → Int} {ln : Int → Int} {F : eFs} {P : Int → Int} {D : eFs} {DQ : Int → Int} {S : eFs} {SP : Int → Int} {c n : Int} {h : eHs} {g rc : Int → Int} {T : eFs} {Mt : Int → Int → Int} {o : Int → Int} {N : Int} (hF : okF N F) {r : Int} (gr : -2147483648 ≤ r ∧ r ≤ 2147483647) :
    EM X mL_basketAtRank (eRt 10 2) (fun k => a (eR rhoL k)) [.ref (a 0), vi r, .ref (a 137)] (wA a z ln F P D DQ S SP c n h g rc T Mt [] ++ [eJ 1 1 o]) (eRets (some (vi (exK ((if ¬ sWithRk F r = -1 then none else some xNo)) xNo "" ""))) (fun k => a (eR rhoL k)) (fun cs1 => ((if ¬ sWithRk F r = -1 then none else some xNo) = none → cs1 = wA a z ln F P D DQ S SP c n h g rc T Mt [] ++ [eJ 1 1 (eU o 0 (w32 (sWithRk F r)))]) ∧ (¬ (if ¬ sWithRk F r = -1 then none else some xNo) = none → cs1 = wA a z ln F P D DQ S SP c n h g rc T Mt [] ++ [eJ 1 1 o]))) := by
  have q := C_L_basketAtRank (X := X) (a := fun k => a (eR rhoL k)) (z := z) (ln := ln) (F := F) (P := P) (D := D) (DQ := DQ) (S := S) (SP := SP) (c := c) (n := n) (h := h) (g := g) (rc := rc) (T := T) (Mt := Mt) (o := o) hF gr
  simp only [wA_rL (a := a), wA_t1] at q
  exact q
theorem W_errorPosition {X : eXT} {a : Nat → Nat} {z : Nat → Int} {ln : Int → Int} {F : eFs} {P : Int → Int} {D : eFs} {DQ : Int → Int} {S : eFs} {SP : Int → Int} {c n : Int} {h : eHs} {g rc : Int → Int} {T : eFs} {Mt : Int → Int → Int} {o : Int → Int} {N : Int} (hF : okF N F) (hz : okZ z) :
    EM X mL_errorPosition (eRt 10 2) (fun k => a (eR rhoL k)) [.ref (a 0), .ref (a 137)] (wA a z ln F P D DQ S SP c n h g rc T Mt [] ++ [eJ 1 1 o]) (eRets (some (vi (exK ((if ¬ z 0 = -1 then none else some xNo)) xNo "" ""))) (fun k => a (eR rhoL k)) (fun cs1 => ((if ¬ z 0 = -1 then none else some xNo) = none → cs1 = wA a z ln F P D DQ S SP c n h g rc T Mt [] ++ [eJ 1 1 (eU o 0 (w32 (z 0)))]) ∧ (¬ (if ¬ z 0 = -1 then none else some xNo) = none → cs1 = wA a z ln F P D DQ S SP c n h g rc T Mt [] ++ [eJ 1 1 o]))) := by
  have q := C_L_errorPosition (X := X) (a := fun k => a (eR rhoL k)) (z := z) (ln := ln) (F := F) (P := P) (D := D) (DQ := DQ) (S := S) (SP := SP) (c := c) (n := n) (h := h) (g := g) (rc := rc) (T := T) (Mt := Mt) (o := o) hF hz
  simp only [wA_rL (a := a), wA_t1] at q
  exact q
theorem W_failedCommand {X : eXT} {a : Nat → Nat} {z : Nat → Int} {ln : Int → Int} {F : eFs} {P : Int → Int} {D : eFs} {DQ : Int → Int} {S : eFs} {SP : Int → Int} {c n : Int} {h : eHs} {g rc : Int → Int} {T : eFs} {Mt : Int → Int → Int} {o : Int → Int} {N : Int} (hF : okF N F) (hz : okZ z) :
    EM X mL_failedCommand (eRt 10 2) (fun k => a (eR rhoL k)) [.ref (a 0), .ref (a 137)] (wA a z ln F P D DQ S SP c n h g rc T Mt [] ++ [eJ 1 1 o]) (eRets (some (vi (exK ((if ¬ z 1 = -1 then none else some xNo)) xNo "" ""))) (fun k => a (eR rhoL k)) (fun cs1 => ((if ¬ z 1 = -1 then none else some xNo) = none → cs1 = wA a z ln F P D DQ S SP c n h g rc T Mt [] ++ [eJ 1 1 (eU o 0 (w32 (z 1)))]) ∧ (¬ (if ¬ z 1 = -1 then none else some xNo) = none → cs1 = wA a z ln F P D DQ S SP c n h g rc T Mt [] ++ [eJ 1 1 o]))) := by
  have q := C_L_failedCommand (X := X) (a := fun k => a (eR rhoL k)) (z := z) (ln := ln) (F := F) (P := P) (D := D) (DQ := DQ) (S := S) (SP := SP) (c := c) (n := n) (h := h) (g := g) (rc := rc) (T := T) (Mt := Mt) (o := o) hF hz
  simp only [wA_rL (a := a), wA_t1] at q
  exact q
theorem W_meanDistance {X : eXT} {a : Nat → Nat} {z : Nat → Int} {ln : Int → Int} {F : eFs} {P : Int → Int} {D : eFs} {DQ : Int → Int} {S : eFs} {SP : Int → Int} {c n : Int} {h : eHs} {g rc : Int → Int} {T : eFs} {Mt : Int → Int → Int} {o : Nat → UInt64} {N : Int} (hF : okF N F) :
    EM X mL_meanDistance (eRt 10 2) (fun k => a (eR rhoE k)) [.ref (a 0), .ref (a 138)] (wA a z ln F P D DQ S SP c n h g rc T Mt [] ++ [eDd 1 o]) (eRets (some (vi (exK ((if 2 ≤ F.1 0 then none else some xMa)) xMa "" ""))) (fun k => a (eR rhoE k)) (fun cs1 => ((if 2 ≤ F.1 0 then none else some xMa) = none → cs1 = wA a z ln F P D DQ S SP c n h g rc T Mt [] ++ [eDd 1 (vf_upd o 0 (FP.ddiv (FP.i2d (Int32.ofInt (sSumD F))) (FP.i2d (Int32.ofInt (F.1 0 - 1)))))]) ∧ (¬ (if 2 ≤ F.1 0 then none else some xMa) = none → cs1 = wA a z ln F P D DQ S SP c n h g rc T Mt [] ++ [eDd 1 o]))) := by
  have q := C_L_meanDistance (X := X) (a := fun k => a (eR rhoE k)) (z := z) (ln := ln) (F := F) (P := P) (D := D) (DQ := DQ) (S := S) (SP := SP) (c := c) (n := n) (h := h) (g := g) (rc := rc) (T := T) (Mt := Mt) (o := o) hF
  simp only [wA_rE (a := a), wA_t1] at q
  exact q
theorem W_mixedShare {X : eXT} {a : Nat → Nat} {z : Nat → Int} {ln : Int → Int} {F : eFs} {P : Int → Int} {D : eFs} {DQ : Int → Int} {S : eFs} {SP : Int → Int} {c n : Int} {h : eHs} {g rc : Int → Int} {T : eFs} {Mt : Int → Int → Int} {o : Nat → UInt64} {N : Int} (hF : okF N F) (hn64 : vf_n64 (FP.f2d (FP.fdiv (FP.i2f (Int32.ofInt (sMix F))) (FP.i2f (Int32.ofInt (sPrs F)))))) :
    EM X mL_mixedShare (eRt 10 2) (fun k => a (eR rhoE k)) [.ref (a 0), .ref (a 138)] (wA a z ln F P D DQ S SP c n h g rc T Mt [] ++ [eDd 1 o]) (eRets (some (vi (exK ((if 1 ≤ sPrs F then none else some xMa)) xMa "" ""))) (fun k => a (eR rhoE k)) (fun cs1 => ((if 1 ≤ sPrs F then none else some xMa) = none → cs1 = wA a z ln F P D DQ S SP c n h g rc T Mt [] ++ [eDd 1 (vf_upd o 0 (FP.f2d (FP.fdiv (FP.i2f (Int32.ofInt (sMix F))) (FP.i2f (Int32.ofInt (sPrs F))))))]) ∧ (¬ (if 1 ≤ sPrs F then none else some xMa) = none → cs1 = wA a z ln F P D DQ S SP c n h g rc T Mt [] ++ [eDd 1 o]))) := by
  have q := C_L_mixedShare (X := X) (a := fun k => a (eR rhoE k)) (z := z) (ln := ln) (F := F) (P := P) (D := D) (DQ := DQ) (S := S) (SP := SP) (c := c) (n := n) (h := h) (g := g) (rc := rc) (T := T) (Mt := Mt) (o := o) hF hn64
  simp only [wA_rE (a := a), wA_t1] at q
  exact q
theorem W_lineAt {X : eXT} {a : Nat → Nat} {z : Nat → Int} {ln : Int → Int} {F : eFs} {P : Int → Int} {D : eFs} {DQ : Int → Int} {S : eFs} {SP : Int → Int} {c n : Int} {h : eHs} {g rc : Int → Int} {T : eFs} {Mt : Int → Int → Int} {o : Int → Int} (hz : okZ z) (hln : ∀ j, 0 ≤ ln j ∧ ln j ≤ 65535) {i : Int} (gi : -2147483648 ≤ i ∧ i ≤ 2147483647) :
    EM X mL_lineAt (eRt 10 2) (fun k => a (eR rhoL k)) [.ref (a 0), vi i, .ref (a 137)] (wA a z ln F P D DQ S SP c n h g rc T Mt [] ++ [eJ 1 1 o]) (eRets (some (vi (exK ((if 0 ≤ i ∧ i < z 4 then none else some xIx)) xIx "" ""))) (fun k => a (eR rhoL k)) (fun cs1 => ((if 0 ≤ i ∧ i < z 4 then none else some xIx) = none → cs1 = wA a z ln F P D DQ S SP c n h g rc T Mt [] ++ [eJ 1 1 (eU o 0 (w32 (ln i)))]) ∧ (¬ (if 0 ≤ i ∧ i < z 4 then none else some xIx) = none → cs1 = wA a z ln F P D DQ S SP c n h g rc T Mt [] ++ [eJ 1 1 o]))) := by
  have q := C_L_lineAt (X := X) (a := fun k => a (eR rhoL k)) (z := z) (ln := ln) (F := F) (P := P) (D := D) (DQ := DQ) (S := S) (SP := SP) (c := c) (n := n) (h := h) (g := g) (rc := rc) (T := T) (Mt := Mt) (o := o) hz hln gi
  simp only [wA_rL (a := a), wA_t1] at q
  exact q
theorem W_describeRow {X : eXT} {a : Nat → Nat} {z : Nat → Int} {ln : Int → Int} {F : eFs} {P : Int → Int} {D : eFs} {DQ : Int → Int} {S : eFs} {SP : Int → Int} {c n : Int} {h : eHs} {g rc : Int → Int} {T : eFs} {Mt : Int → Int → Int} {o : Int → Int} {N : Int} (hF : okF N F) {y : Int} (gy : -2147483648 ≤ y ∧ y ≤ 2147483647) :
    EM X mL_describeRow (eRt 10 2) (fun k => a (eR rhoL k)) [.ref (a 0), vi y, .ref (a 137)] (wA a z ln F P D DQ S SP c n h g rc T Mt [] ++ [eJ 1 1 o]) (eRets (some (vi (exK ((if 0 ≤ y ∧ y ≤ 11 then none else some xAr)) xAr "" ""))) (fun k => a (eR rhoL k)) (fun cs1 => ((if 0 ≤ y ∧ y ≤ 11 then none else some xAr) = none → cs1 = wA a (zS z 4 12) (fun x => sSgn F x y) F P D DQ S SP c n h g rc T Mt [] ++ [eJ 1 1 (eU o 0 (w32 (12)))]) ∧ (¬ (if 0 ≤ y ∧ y ≤ 11 then none else some xAr) = none → cs1 = wA a z ln F P D DQ S SP c n h g rc T Mt [] ++ [eJ 1 1 o]))) := by
  have q := C_L_describeRow (X := X) (a := fun k => a (eR rhoL k)) (z := z) (ln := ln) (F := F) (P := P) (D := D) (DQ := DQ) (S := S) (SP := SP) (c := c) (n := n) (h := h) (g := g) (rc := rc) (T := T) (Mt := Mt) (o := o) hF gy
  simp only [wA_rL (a := a), wA_t1] at q
  exact q
theorem W_append {X : eXT} {a : Nat → Nat} {z : Nat → Int} {ln : Int → Int} {F : eFs} {P : Int → Int} {D : eFs} {DQ : Int → Int} {S : eFs} {SP : Int → Int} {c n : Int} {h : eHs} {g rc : Int → Int} {T : eFs} {Mt : Int → Int → Int} {o : Int → Int} (hT : okT T Mt) {cc : Int} (gcc : 0 ≤ cc ∧ cc ≤ 65535) :
    EM X mL_append (eRt 10 2) (fun k => a (eR rhoL k)) [.ref (a 0), vi cc, .ref (a 137)] (wA a z ln F P D DQ S SP c n h g rc T Mt [] ++ [eJ 1 1 o]) (eRets (some (vi (exK ((if 32 ≤ cc ∧ cc ≤ 126 then (if T.1 0 < 60 then none else some xSt) else some xAr)) xAr xSt ""))) (fun k => a (eR rhoL k)) (fun cs1 => ((if 32 ≤ cc ∧ cc ≤ 126 then (if T.1 0 < 60 then none else some xSt) else some xAr) = none → cs1 = wA a z ln F P D DQ S SP c n h g rc (sS (sA T 0 (T.1 0) cc) 0 (T.1 0 + 1)) Mt [] ++ [eJ 1 1 (eU o 0 (w32 (T.1 0 + 1)))]) ∧ (¬ (if 32 ≤ cc ∧ cc ≤ 126 then (if T.1 0 < 60 then none else some xSt) else some xAr) = none → cs1 = wA a z ln F P D DQ S SP c n h g rc T Mt [] ++ [eJ 1 1 o]))) := by
  have q := C_L_append (X := X) (a := fun k => a (eR rhoL k)) (z := z) (ln := ln) (F := F) (P := P) (D := D) (DQ := DQ) (S := S) (SP := SP) (c := c) (n := n) (h := h) (g := g) (rc := rc) (T := T) (Mt := Mt) (o := o) hT gcc
  simp only [wA_rL (a := a), wA_t1] at q
  exact q
theorem W_undo {X : eXT} {a : Nat → Nat} {z : Nat → Int} {ln : Int → Int} {F : eFs} {P : Int → Int} {D : eFs} {DQ : Int → Int} {S : eFs} {SP : Int → Int} {c n : Int} {h : eHs} {g rc : Int → Int} {T : eFs} {Mt : Int → Int → Int} {o : Int → Int} (hcc : 0 ≤ c ∧ c ≤ 8) (hnn : 0 ≤ n ∧ n ≤ 7) :
    EM X mL_undo (eRt 10 2) (fun k => a (eR rhoL k)) [.ref (a 0), .ref (a 137)] (wA a z ln F P D DQ S SP c n h g rc T Mt [] ++ [eJ 1 1 o]) (eRets (some (vi (exK ((if 1 ≤ c then none else some xSt)) xSt "" ""))) (fun k => a (eR rhoL k)) (fun cs1 => ((if 1 ≤ c then none else some xSt) = none → cs1 = wA a z ln ((h (if 0 < n then n - 1 else 7).toNat).1) P D DQ S SP (c - 1) (if 0 < n then n - 1 else 7) h g rc T Mt [] ++ [eJ 1 1 (eU o 0 (w32 (c - 1)))]) ∧ (¬ (if 1 ≤ c then none else some xSt) = none → cs1 = wA a z ln F P D DQ S SP c n h g rc T Mt [] ++ [eJ 1 1 o]))) := by
  have q := C_L_undo (X := X) (a := fun k => a (eR rhoL k)) (z := z) (ln := ln) (F := F) (P := P) (D := D) (DQ := DQ) (S := S) (SP := SP) (c := c) (n := n) (h := h) (g := g) (rc := rc) (T := T) (Mt := Mt) (o := o) hcc hnn
  simp only [wA_rL (a := a), wA_t1] at q
  exact q
theorem W_restore {X : eXT} {a : Nat → Nat} {z : Nat → Int} {ln : Int → Int} {F : eFs} {P : Int → Int} {D : eFs} {DQ : Int → Int} {S : eFs} {SP : Int → Int} {c n : Int} {h : eHs} {g rc : Int → Int} {T : eFs} {Mt : Int → Int → Int} {o : Int → Int}  :
    EM X mL_restore (eRt 10 2) (fun k => a (eR rhoL k)) [.ref (a 0), .ref (a 137)] (wA a z ln F P D DQ S SP c n h g rc T Mt [] ++ [eJ 1 1 o]) (eRets (some (vi (exK ((if z 5 = 1 then none else some xSt)) xSt "" ""))) (fun k => a (eR rhoL k)) (fun cs1 => ((if z 5 = 1 then none else some xSt) = none → cs1 = wA a z ln (S) P D DQ S SP (0) (0) h g rc T Mt [] ++ [eJ 1 1 (eU o 0 (w32 (S.1 0)))]) ∧ (¬ (if z 5 = 1 then none else some xSt) = none → cs1 = wA a z ln F P D DQ S SP c n h g rc T Mt [] ++ [eJ 1 1 o]))) := by
  have q := C_L_restore (X := X) (a := fun k => a (eR rhoL k)) (z := z) (ln := ln) (F := F) (P := P) (D := D) (DQ := DQ) (S := S) (SP := SP) (c := c) (n := n) (h := h) (g := g) (rc := rc) (T := T) (Mt := Mt) (o := o) 
  simp only [wA_rL (a := a), wA_t1] at q
  exact q
theorem W_stepsToTarget {X : eXT} {a : Nat → Nat} {z : Nat → Int} {ln : Int → Int} {F : eFs} {P : Int → Int} {D : eFs} {DQ : Int → Int} {S : eFs} {SP : Int → Int} {c n : Int} {h : eHs} {g rc : Int → Int} {T : eFs} {Mt : Int → Int → Int} {o : Int → Int} {N : Int} (hF : okF N F) (hNs : N + 40000 ≤ 100000000) :
    EM X mL_stepsToTarget (eRt 10 2) (fun k => a (eR rhoL k)) [.ref (a 0), .ref (a 137)] (wA a z ln F P D DQ S SP c n h g rc T Mt [] ++ [eJ 1 1 o]) (eRets (some (vi (exK ((if ¬ F.1 4 = -1 then (if sHit (sTT F DQ).2.1 then none else some xNo) else some xNo)) xNo "" ""))) (fun k => a (eR rhoL k)) (fun cs1 => ((if ¬ F.1 4 = -1 then (if sHit (sTT F DQ).2.1 then none else some xNo) else some xNo) = none → cs1 = wA a z ln F P ((sTT F DQ).2.1) ((sTT F DQ).2.2) S SP c n h g rc T Mt [] ++ [eJ 1 1 (eU o 0 (w32 ((sTT F DQ).1)))]) ∧ (¬ (if ¬ F.1 4 = -1 then (if sHit (sTT F DQ).2.1 then none else some xNo) else some xNo) = none → cs1 = wA a z ln F P (if ¬ F.1 4 = -1 then (sTT F DQ).2.1 else D) (if ¬ F.1 4 = -1 then (sTT F DQ).2.2 else DQ) S SP c n h g rc T Mt [] ++ [eJ 1 1 o]))) := by
  have q := C_L_stepsToTarget (X := X) (a := fun k => a (eR rhoL k)) (z := z) (ln := ln) (F := F) (P := P) (D := D) (DQ := DQ) (S := S) (SP := SP) (c := c) (n := n) (h := h) (g := g) (rc := rc) (T := T) (Mt := Mt) (o := o) hF hNs
  simp only [wA_rL (a := a), wA_t1] at q
  exact q
theorem W_run {X : eXT} {a : Nat → Nat} {z : Nat → Int} {ln : Int → Int} {F : eFs} {P : Int → Int} {D : eFs} {DQ : Int → Int} {S : eFs} {SP : Int → Int} {c n : Int} {h : eHs} {g rc : Int → Int} {T : eFs} {Mt : Int → Int → Int} {o : Int → Int} {N : Int} (hF : okF N F) (hT : okT T Mt) (hz : okZ z) (hcc : 0 ≤ c ∧ c ≤ 8) (hnn : 0 ≤ n ∧ n ≤ 7) (hC : okC F) (hNs : N + 40000 ≤ 100000000) :
    EM X mL_run (eRt 10 2) (fun k => a (eR rhoL k)) [.ref (a 0), .ref (a 137)] (wA a z ln F P D DQ S SP c n h g rc T Mt [] ++ [eJ 1 1 o]) (eRets (some (vi (exK ((if (tPR T Mt).1 = -1 then (if (sRn ((tPR T Mt).2.2.2.1) ((tPR T Mt).2.2.2.2) ((tPR T Mt).2.1 - 0).toNat 0 F DQ).1 = -1 then none else some xSt) else some xAr)) xAr xSt ""))) (fun k => a (eR rhoL k)) (fun cs1 => ((if (tPR T Mt).1 = -1 then (if (sRn ((tPR T Mt).2.2.2.1) ((tPR T Mt).2.2.2.2) ((tPR T Mt).2.1 - 0).toNat 0 F DQ).1 = -1 then none else some xSt) else some xAr) = none → cs1 = wA a z ln ((sRn ((tPR T Mt).2.2.2.1) ((tPR T Mt).2.2.2.2) ((tPR T Mt).2.1 - 0).toNat 0 F DQ).2.1) P ((sRn ((tPR T Mt).2.2.2.1) ((tPR T Mt).2.2.2.2) ((tPR T Mt).2.1 - 0).toNat 0 F DQ).2.1) ((sRn ((tPR T Mt).2.2.2.1) ((tPR T Mt).2.2.2.2) ((tPR T Mt).2.1 - 0).toNat 0 F DQ).2.2) S SP (if 8 < c + 1 then 8 else c + 1) (if n + 1 < 8 then n + 1 else 0) (hU h n.toNat F) g rc (tRun T Mt) ((tPR T Mt).2.2.2.2) [] ++ [eJ 1 1 (eU o 0 (w32 ((tPR T Mt).2.1)))]) ∧ (¬ (if (tPR T Mt).1 = -1 then (if (sRn ((tPR T Mt).2.2.2.1) ((tPR T Mt).2.2.2.2) ((tPR T Mt).2.1 - 0).toNat 0 F DQ).1 = -1 then none else some xSt) else some xAr) = none → cs1 = wA a (if (tPR T Mt).1 = -1 then zS (zHi z (sRn ((tPR T Mt).2.2.2.1) ((tPR T Mt).2.2.2.2) ((tPR T Mt).2.1 - 0).toNat 0 F DQ).2.1 ((tPR T Mt).2.2.2.1 (sRn ((tPR T Mt).2.2.2.1) ((tPR T Mt).2.2.2.2) ((tPR T Mt).2.1 - 0).toNat 0 F DQ).1) ((tPR T Mt).2.2.2.2 (sRn ((tPR T Mt).2.2.2.1) ((tPR T Mt).2.2.2.2) ((tPR T Mt).2.1 - 0).toNat 0 F DQ).1 0) ((tPR T Mt).2.2.2.2 (sRn ((tPR T Mt).2.2.2.1) ((tPR T Mt).2.2.2.2) ((tPR T Mt).2.1 - 0).toNat 0 F DQ).1 1) ((tPR T Mt).2.2.2.2 (sRn ((tPR T Mt).2.2.2.1) ((tPR T Mt).2.2.2.2) ((tPR T Mt).2.1 - 0).toNat 0 F DQ).1 2)) 1 (sRn ((tPR T Mt).2.2.2.1) ((tPR T Mt).2.2.2.2) ((tPR T Mt).2.1 - 0).toNat 0 F DQ).1 else zS z 0 (tPR T Mt).1) ln F P (if (tPR T Mt).1 = -1 then (sRn ((tPR T Mt).2.2.2.1) ((tPR T Mt).2.2.2.2) ((tPR T Mt).2.1 - 0).toNat 0 F DQ).2.1 else D) (if (tPR T Mt).1 = -1 then (sRn ((tPR T Mt).2.2.2.1) ((tPR T Mt).2.2.2.2) ((tPR T Mt).2.1 - 0).toNat 0 F DQ).2.2 else DQ) S SP c n h g rc (tRun T Mt) ((tPR T Mt).2.2.2.2) [] ++ [eJ 1 1 o]))) := by
  have q := C_L_run (X := X) (a := fun k => a (eR rhoL k)) (z := z) (ln := ln) (F := F) (P := P) (D := D) (DQ := DQ) (S := S) (SP := SP) (c := c) (n := n) (h := h) (g := g) (rc := rc) (T := T) (Mt := Mt) (o := o) hF hT hz hcc hnn hC hNs
  simp only [wA_rL (a := a), wA_t1] at q
  exact q
set_option maxHeartbeats 1600000 in
theorem LC_addBasket {X : eXT} {a : Nat → Nat} {b b' : Nat × Nat} {bb L : Nat} {xs : Nat → Int32} {i N : Int} {z : Nat → Int} {ln : Int → Int} {F : eFs} {P : Int → Int} {D : eFs} {DQ : Int → Int} {S : eFs} {SP : Int → Int} {c n : Int} {h : eHs} {g rc : Int → Int} {T : eFs} {Mt : Int → Int → Int} {M : eFs} {o : Int → Int} {od : Nat → UInt64} (hX : X.2 = some (bb, L, xs)) (hL : L ≤ 2147483647) (hi : 0 ≤ i ∧ i + 4 ≤ L) (hb : 2 + b'.1 ≤ b.1 ∧ 12 + b'.2 ≤ b.2) (hN : N + 2400 ≤ 90000000) (hs : SIM N z ln F S c n h g rc T Mt M) (kk : lG X a bb (N + 2400) i b') :
    EV (lK X) a b (wA a z ln F P D DQ S SP c n h g rc T Mt [] ++ (wM (fun k => a (131 + k)) M ++ [eJ 1 1 o, eDd 1 od])) 276 (lLs a bb i) [] := by
  have hs0 := hs
  obtain ⟨⟨hF, hC, hA, hR⟩, -, -, ⟨n1, n2, n3, n4, n5, n6, n7, n8, n9, n10⟩, ⟨l1, l2, l3⟩, ⟨hg, hr⟩, hT, hz, ⟨hw, hw4⟩, hN0⟩ := hs
  have hc9 := hF.1
  have g1 := sc_in (xs := xs) (z := i + 1)
  have g2 := sc_in (xs := xs) (z := i + 2)
  have g3 := sc_in (xs := xs) (z := i + 3)
  have hTE : mTh (mHC (sHin F 0 (sc xs (i + 1)) (sc xs (i + 2)) (sc xs (i + 3)))) 0 1 2 3 0 = exK (eEx (sHin F 0 (sc xs (i + 1)) (sc xs (i + 2)) (sc xs (i + 3)))) xAr xSt xUn := by
    rcases hk_0 (F := F) (p := (sc xs (i + 1))) (q := (sc xs (i + 2))) (r := (sc xs (i + 3))) with w | w | w | w
      · rw [w]; show (0 : Int) = exK none _ _ _; rfl
      · rw [w]; show (1 : Int) = exK (some xAr) _ _ _; exact exK_s1.symm
      · rw [w]; show (2 : Int) = exK (some xSt) _ _ _; exact exK_s2 (by decide).symm
      · rw [w]; show (3 : Int) = exK (some xUn) _ _ _; exact exK_s3 (by decide) (by decide).symm
  have hV : mTh (mHC (sHin F 0 (sc xs (i + 1)) (sc xs (i + 2)) (sc xs (i + 3)))) 0 1 2 3 0 = 0 → (if mTh (mHC (sHin F 0 (sc xs (i + 1)) (sc xs (i + 2)) (sc xs (i + 3)))) 0 1 2 3 0 = 0 then sDoR F 0 (sc xs (i + 1)) (sc xs (i + 2)) (sc xs (i + 3)) else 0 : Int) = sDoR F 0 (sc xs (i + 1)) (sc xs (i + 2)) (sc xs (i + 3)) := fun q => if_pos q
  have e0 : eEx (sHin F 0 (sc xs (i + 1)) (sc xs (i + 2)) (sc xs (i + 3))) = none ↔ (sHin F 0 (sc xs (i + 1)) (sc xs (i + 2)) (sc xs (i + 3))) = 0 := by
    rcases hk_0 (F := F) (p := (sc xs (i + 1))) (q := (sc xs (i + 2))) (r := (sc xs (i + 3))) with w | w | w | w <;> rw [w] <;> decide
  refine e_aload_n (K := lK X) (i := 1) (n := 277) dL_law_276 rfl rfl ?_
  refine lArg (k := 1) dL_law_277 dL_law_278 dL_law_280 dL_law_281 dL_law_282 hX hL rfl rfl (by omega) ?_
  refine lArg (k := 2) dL_law_283 dL_law_284 dL_law_286 dL_law_287 dL_law_288 hX hL rfl rfl (by omega) ?_
  refine lArg (k := 3) dL_law_289 dL_law_290 dL_law_292 dL_law_293 dL_law_294 hX hL rfl rfl (by omega) ?_
  refine e_aload_n (K := lK X) (i := 3) (n := 296) dL_law_295 rfl rfl ?_
  refine e_lawW (K := lK X) (b' := b') (n := 299) lk_L_148 (by decide) dL_law_296 rfl (W_addBasket hF n1 n2 g1 g2 g3) rfl rfl (Nat.le_of_ble_eq_true rfl) (Nat.le_of_ble_eq_true rfl) (Nat.le_of_ble_eq_true rfl) ⟨hb.1, hb.2⟩ wA_len wA_len wA_len wM_6 (fun he => ?_) (fun he => ?_)
  · refine EV.eq (st' := [vi 0]) (by show [vi (exK (eEx (sHin F 0 (sc xs (i + 1)) (sc xs (i + 2)) (sc xs (i + 3)))) xAr xSt xUn)] = _; rw [exK_n he]) ?_
    refine f_istore (K := lK X) (n := 301) dL_law_299 rfl (Nat.le_of_ble_eq_true rfl) rfl ?_
    refine e_aload_n (K := lK X) (i := 2) (n := 302) dL_law_301 rfl rfl ?_
    refine lArg (k := 1) dL_law_302 dL_law_303 dL_law_305 dL_law_306 dL_law_307 hX hL rfl rfl (by omega) ?_
    refine lArg (k := 2) dL_law_308 dL_law_309 dL_law_311 dL_law_312 dL_law_313 hX hL rfl rfl (by omega) ?_
    refine lArg (k := 3) dL_law_314 dL_law_315 dL_law_317 dL_law_318 dL_law_319 hX hL rfl rfl (by omega) ?_
    refine e_lawP (K := lK X) (n := 323) (Pr := fun M2 => mPo M M2 F 0 (sc xs (i + 1)) (sc xs (i + 2)) (sc xs (i + 3)) (mTh (mHC (sHin F 0 (sc xs (i + 1)) (sc xs (i + 2)) (sc xs (i + 3)))) 0 1 2 3 0)) lk_L_153 rfl dL_law_320 rfl (C_X7_addBasket (M := M) hF hR (by omega) (by omega) g1 g2 g3) (fun _ q => q) rfl rfl (Nat.le_of_ble_eq_true rfl) (Nat.le_of_ble_eq_true rfl) (Nat.le_of_ble_eq_true rfl) ⟨rfl, rfl⟩ wA_len rfl rfl (fun M2 m => ?_)
    refine EV.eq (st' := [vi (w32 (sDoR F 0 (sc xs (i + 1)) (sc xs (i + 2)) (sc xs (i + 3))))]) (by show [vi (if mTh (mHC (sHin F 0 (sc xs (i + 1)) (sc xs (i + 2)) (sc xs (i + 3)))) 0 1 2 3 0 = 0 then sDoR F 0 (sc xs (i + 1)) (sc xs (i + 2)) (sc xs (i + 3)) else 0)] = _; rw [hV (hTE.trans (exK_n he))]; exact congrArg (fun v => [v]) w32_v) ?_
    refine f_istore (K := lK X) (n := 325) dL_law_323 rfl (Nat.le_of_ble_eq_true rfl) rfl ?_
    exact lTail (bb := bb) (i := i) (e := 0) (v := (w32 (sDoR F 0 (sc xs (i + 1)) (sc xs (i + 2)) (sc xs (i + 3))))) (off := 2276) dL_law_325 dL_law_326 dL_law_329 dL_law_331 dL_law_336 dL_law_338 dL_law_341 dL_law_342 dL_law_343 dL_law_344 dL_law_346 dL_law_347 dL_law_348 dL_law_353 (by decide) wA_len (by decide) (m.1.trans (hTE.trans (exK_n he))) (fun _ => eU_self) w32_in (kk _ _ _ _ _ _ _ _ _ _ _ _ _ _ _ _ _ _ (SIM_up ((SIM_chg (by decide) hs0 (by omega) m).1 (e0.mp he)) (by omega) hN))
  · have hx3 := exK_in (e1 := xAr) (e2 := xSt) (e3 := xUn) he
    refine f_istore (K := lK X) (n := 301) dL_law_299 rfl (Nat.le_of_ble_eq_true rfl) rfl ?_
    refine e_aload_n (K := lK X) (i := 2) (n := 302) dL_law_301 rfl rfl ?_
    refine lArg (k := 1) dL_law_302 dL_law_303 dL_law_305 dL_law_306 dL_law_307 hX hL rfl rfl (by omega) ?_
    refine lArg (k := 2) dL_law_308 dL_law_309 dL_law_311 dL_law_312 dL_law_313 hX hL rfl rfl (by omega) ?_
    refine lArg (k := 3) dL_law_314 dL_law_315 dL_law_317 dL_law_318 dL_law_319 hX hL rfl rfl (by omega) ?_
    refine e_lawP (K := lK X) (n := 323) (Pr := fun M2 => mPo M M2 F 0 (sc xs (i + 1)) (sc xs (i + 2)) (sc xs (i + 3)) (mTh (mHC (sHin F 0 (sc xs (i + 1)) (sc xs (i + 2)) (sc xs (i + 3)))) 0 1 2 3 0)) lk_L_153 rfl dL_law_320 rfl (C_X7_addBasket (M := M) hF hR (by omega) (by omega) g1 g2 g3) (fun _ q => q) rfl rfl (Nat.le_of_ble_eq_true rfl) (Nat.le_of_ble_eq_true rfl) (Nat.le_of_ble_eq_true rfl) ⟨rfl, rfl⟩ wA_len rfl rfl (fun M2 m => ?_)
    refine EV.eq (st' := [vi (w32 (if mTh (mHC (sHin F 0 (sc xs (i + 1)) (sc xs (i + 2)) (sc xs (i + 3)))) 0 1 2 3 0 = 0 then sDoR F 0 (sc xs (i + 1)) (sc xs (i + 2)) (sc xs (i + 3)) else 0))]) (congrArg (fun v => [v]) w32_v) ?_
    refine f_istore (K := lK X) (n := 325) dL_law_323 rfl (Nat.le_of_ble_eq_true rfl) rfl ?_
    exact lTail (bb := bb) (i := i) (e := (exK (eEx (sHin F 0 (sc xs (i + 1)) (sc xs (i + 2)) (sc xs (i + 3)))) xAr xSt xUn)) (v := (w32 (if mTh (mHC (sHin F 0 (sc xs (i + 1)) (sc xs (i + 2)) (sc xs (i + 3)))) 0 1 2 3 0 = 0 then sDoR F 0 (sc xs (i + 1)) (sc xs (i + 2)) (sc xs (i + 3)) else 0))) (off := 2276) dL_law_325 dL_law_326 dL_law_329 dL_law_331 dL_law_336 dL_law_338 dL_law_341 dL_law_342 dL_law_343 dL_law_344 dL_law_346 dL_law_347 dL_law_348 dL_law_353 (by decide) wA_len (by omega) (Eq.trans m.1 hTE) (fun q => by exfalso; omega) w32_in (kk _ _ _ _ _ _ _ _ _ _ _ _ _ _ _ _ _ _ (SIM_up ((SIM_chg (by decide) hs0 (by omega) m).2 (fun q => he (e0.mpr q))) (by omega) hN))
set_option maxHeartbeats 1600000 in
theorem LC_jump {X : eXT} {a : Nat → Nat} {b b' : Nat × Nat} {bb L : Nat} {xs : Nat → Int32} {i N : Int} {z : Nat → Int} {ln : Int → Int} {F : eFs} {P : Int → Int} {D : eFs} {DQ : Int → Int} {S : eFs} {SP : Int → Int} {c n : Int} {h : eHs} {g rc : Int → Int} {T : eFs} {Mt : Int → Int → Int} {M : eFs} {o : Int → Int} {od : Nat → UInt64} (hX : X.2 = some (bb, L, xs)) (hL : L ≤ 2147483647) (hi : 0 ≤ i ∧ i + 4 ≤ L) (hb : 2 + b'.1 ≤ b.1 ∧ 12 + b'.2 ≤ b.2) (hN : N + 2400 ≤ 90000000) (hs : SIM N z ln F S c n h g rc T Mt M) (kk : lG X a bb (N + 2400) i b') :
    EV (lK X) a b (wA a z ln F P D DQ S SP c n h g rc T Mt [] ++ (wM (fun k => a (131 + k)) M ++ [eJ 1 1 o, eDd 1 od])) 356 (lLs a bb i) [] := by
  have hs0 := hs
  obtain ⟨⟨hF, hC, hA, hR⟩, -, -, ⟨n1, n2, n3, n4, n5, n6, n7, n8, n9, n10⟩, ⟨l1, l2, l3⟩, ⟨hg, hr⟩, hT, hz, ⟨hw, hw4⟩, hN0⟩ := hs
  have hc9 := hF.1
  have g1 := sc_in (xs := xs) (z := i + 1)
  have g2 := sc_in (xs := xs) (z := i + 2)
  have g3 := sc_in (xs := xs) (z := i + 3)
  have hTE : mTh (mHC (sHin F 1 (sc xs (i + 1)) (sc xs (i + 2)) (sc xs (i + 3)))) 1 2 0 3 0 = exK (eEx (sHin F 1 (sc xs (i + 1)) (sc xs (i + 2)) (sc xs (i + 3)))) xIx xAr xUn := by
    rcases hk_1 (F := F) (p := (sc xs (i + 1))) (q := (sc xs (i + 2))) (r := (sc xs (i + 3))) with w | w | w | w
      · rw [w]; show (0 : Int) = exK none _ _ _; rfl
      · rw [w]; show (1 : Int) = exK (some xIx) _ _ _; exact exK_s1.symm
      · rw [w]; show (2 : Int) = exK (some xAr) _ _ _; exact exK_s2 (by decide).symm
      · rw [w]; show (3 : Int) = exK (some xUn) _ _ _; exact exK_s3 (by decide) (by decide).symm
  have hV : mTh (mHC (sHin F 1 (sc xs (i + 1)) (sc xs (i + 2)) (sc xs (i + 3)))) 1 2 0 3 0 = 0 → (if mTh (mHC (sHin F 1 (sc xs (i + 1)) (sc xs (i + 2)) (sc xs (i + 3)))) 1 2 0 3 0 = 0 then sDoR F 1 (sc xs (i + 1)) (sc xs (i + 2)) (sc xs (i + 3)) else 0 : Int) = sDoR F 1 (sc xs (i + 1)) (sc xs (i + 2)) (sc xs (i + 3)) := fun q => if_pos q
  have e0 : eEx (sHin F 1 (sc xs (i + 1)) (sc xs (i + 2)) (sc xs (i + 3))) = none ↔ (sHin F 1 (sc xs (i + 1)) (sc xs (i + 2)) (sc xs (i + 3))) = 0 := by
    rcases hk_1 (F := F) (p := (sc xs (i + 1))) (q := (sc xs (i + 2))) (r := (sc xs (i + 3))) with w | w | w | w <;> rw [w] <;> decide
  refine e_aload_n (K := lK X) (i := 1) (n := 357) dL_law_356 rfl rfl ?_
  refine lArg (k := 1) dL_law_357 dL_law_358 dL_law_360 dL_law_361 dL_law_362 hX hL rfl rfl (by omega) ?_
  refine lArg (k := 2) dL_law_363 dL_law_364 dL_law_366 dL_law_367 dL_law_368 hX hL rfl rfl (by omega) ?_
  refine lArg (k := 3) dL_law_369 dL_law_370 dL_law_372 dL_law_373 dL_law_374 hX hL rfl rfl (by omega) ?_
  refine e_aload_n (K := lK X) (i := 3) (n := 376) dL_law_375 rfl rfl ?_
  refine e_lawW (K := lK X) (b' := b') (n := 379) lk_L_157 (by decide) dL_law_376 rfl (W_jump hF n1 n2 g1 g2 g3) rfl rfl (Nat.le_of_ble_eq_true rfl) (Nat.le_of_ble_eq_true rfl) (Nat.le_of_ble_eq_true rfl) ⟨hb.1, hb.2⟩ wA_len wA_len wA_len wM_6 (fun he => ?_) (fun he => ?_)
  · refine EV.eq (st' := [vi 0]) (by show [vi (exK (eEx (sHin F 1 (sc xs (i + 1)) (sc xs (i + 2)) (sc xs (i + 3)))) xIx xAr xUn)] = _; rw [exK_n he]) ?_
    refine f_istore (K := lK X) (n := 381) dL_law_379 rfl (Nat.le_of_ble_eq_true rfl) rfl ?_
    refine e_aload_n (K := lK X) (i := 2) (n := 382) dL_law_381 rfl rfl ?_
    refine lArg (k := 1) dL_law_382 dL_law_383 dL_law_385 dL_law_386 dL_law_387 hX hL rfl rfl (by omega) ?_
    refine lArg (k := 2) dL_law_388 dL_law_389 dL_law_391 dL_law_392 dL_law_393 hX hL rfl rfl (by omega) ?_
    refine lArg (k := 3) dL_law_394 dL_law_395 dL_law_397 dL_law_398 dL_law_399 hX hL rfl rfl (by omega) ?_
    refine e_lawP (K := lK X) (n := 403) (Pr := fun M2 => mPo M M2 F 1 (sc xs (i + 1)) (sc xs (i + 2)) (sc xs (i + 3)) (mTh (mHC (sHin F 1 (sc xs (i + 1)) (sc xs (i + 2)) (sc xs (i + 3)))) 1 2 0 3 0)) lk_L_159 rfl dL_law_400 rfl (C_X7_jump (M := M) hF hR (by omega) (by omega) g1 g2 g3) (fun _ q => q) rfl rfl (Nat.le_of_ble_eq_true rfl) (Nat.le_of_ble_eq_true rfl) (Nat.le_of_ble_eq_true rfl) ⟨rfl, rfl⟩ wA_len rfl rfl (fun M2 m => ?_)
    refine EV.eq (st' := [vi (w32 (sDoR F 1 (sc xs (i + 1)) (sc xs (i + 2)) (sc xs (i + 3))))]) (by show [vi (if mTh (mHC (sHin F 1 (sc xs (i + 1)) (sc xs (i + 2)) (sc xs (i + 3)))) 1 2 0 3 0 = 0 then sDoR F 1 (sc xs (i + 1)) (sc xs (i + 2)) (sc xs (i + 3)) else 0)] = _; rw [hV (hTE.trans (exK_n he))]; exact congrArg (fun v => [v]) w32_v) ?_
    refine f_istore (K := lK X) (n := 405) dL_law_403 rfl (Nat.le_of_ble_eq_true rfl) rfl ?_
    exact lTail (bb := bb) (i := i) (e := 0) (v := (w32 (sDoR F 1 (sc xs (i + 1)) (sc xs (i + 2)) (sc xs (i + 3))))) (off := 2196) dL_law_405 dL_law_406 dL_law_409 dL_law_411 dL_law_416 dL_law_418 dL_law_421 dL_law_422 dL_law_423 dL_law_424 dL_law_426 dL_law_427 dL_law_428 dL_law_433 (by decide) wA_len (by decide) (m.1.trans (hTE.trans (exK_n he))) (fun _ => eU_self) w32_in (kk _ _ _ _ _ _ _ _ _ _ _ _ _ _ _ _ _ _ (SIM_up ((SIM_chg (by decide) hs0 (by omega) m).1 (e0.mp he)) (by omega) hN))
  · have hx3 := exK_in (e1 := xIx) (e2 := xAr) (e3 := xUn) he
    refine f_istore (K := lK X) (n := 381) dL_law_379 rfl (Nat.le_of_ble_eq_true rfl) rfl ?_
    refine e_aload_n (K := lK X) (i := 2) (n := 382) dL_law_381 rfl rfl ?_
    refine lArg (k := 1) dL_law_382 dL_law_383 dL_law_385 dL_law_386 dL_law_387 hX hL rfl rfl (by omega) ?_
    refine lArg (k := 2) dL_law_388 dL_law_389 dL_law_391 dL_law_392 dL_law_393 hX hL rfl rfl (by omega) ?_
    refine lArg (k := 3) dL_law_394 dL_law_395 dL_law_397 dL_law_398 dL_law_399 hX hL rfl rfl (by omega) ?_
    refine e_lawP (K := lK X) (n := 403) (Pr := fun M2 => mPo M M2 F 1 (sc xs (i + 1)) (sc xs (i + 2)) (sc xs (i + 3)) (mTh (mHC (sHin F 1 (sc xs (i + 1)) (sc xs (i + 2)) (sc xs (i + 3)))) 1 2 0 3 0)) lk_L_159 rfl dL_law_400 rfl (C_X7_jump (M := M) hF hR (by omega) (by omega) g1 g2 g3) (fun _ q => q) rfl rfl (Nat.le_of_ble_eq_true rfl) (Nat.le_of_ble_eq_true rfl) (Nat.le_of_ble_eq_true rfl) ⟨rfl, rfl⟩ wA_len rfl rfl (fun M2 m => ?_)
    refine EV.eq (st' := [vi (w32 (if mTh (mHC (sHin F 1 (sc xs (i + 1)) (sc xs (i + 2)) (sc xs (i + 3)))) 1 2 0 3 0 = 0 then sDoR F 1 (sc xs (i + 1)) (sc xs (i + 2)) (sc xs (i + 3)) else 0))]) (congrArg (fun v => [v]) w32_v) ?_
    refine f_istore (K := lK X) (n := 405) dL_law_403 rfl (Nat.le_of_ble_eq_true rfl) rfl ?_
    exact lTail (bb := bb) (i := i) (e := (exK (eEx (sHin F 1 (sc xs (i + 1)) (sc xs (i + 2)) (sc xs (i + 3)))) xIx xAr xUn)) (v := (w32 (if mTh (mHC (sHin F 1 (sc xs (i + 1)) (sc xs (i + 2)) (sc xs (i + 3)))) 1 2 0 3 0 = 0 then sDoR F 1 (sc xs (i + 1)) (sc xs (i + 2)) (sc xs (i + 3)) else 0))) (off := 2196) dL_law_405 dL_law_406 dL_law_409 dL_law_411 dL_law_416 dL_law_418 dL_law_421 dL_law_422 dL_law_423 dL_law_424 dL_law_426 dL_law_427 dL_law_428 dL_law_433 (by decide) wA_len (by omega) (Eq.trans m.1 hTE) (fun q => by exfalso; omega) w32_in (kk _ _ _ _ _ _ _ _ _ _ _ _ _ _ _ _ _ _ (SIM_up ((SIM_chg (by decide) hs0 (by omega) m).2 (fun q => he (e0.mpr q))) (by omega) hN))
set_option maxHeartbeats 1600000 in
theorem LC_setHandle {X : eXT} {a : Nat → Nat} {b b' : Nat × Nat} {bb L : Nat} {xs : Nat → Int32} {i N : Int} {z : Nat → Int} {ln : Int → Int} {F : eFs} {P : Int → Int} {D : eFs} {DQ : Int → Int} {S : eFs} {SP : Int → Int} {c n : Int} {h : eHs} {g rc : Int → Int} {T : eFs} {Mt : Int → Int → Int} {M : eFs} {o : Int → Int} {od : Nat → UInt64} (hX : X.2 = some (bb, L, xs)) (hL : L ≤ 2147483647) (hi : 0 ≤ i ∧ i + 4 ≤ L) (hb : 2 + b'.1 ≤ b.1 ∧ 12 + b'.2 ≤ b.2) (hN : N + 2400 ≤ 90000000) (hs : SIM N z ln F S c n h g rc T Mt M) (kk : lG X a bb (N + 2400) i b') :
    EV (lK X) a b (wA a z ln F P D DQ S SP c n h g rc T Mt [] ++ (wM (fun k => a (131 + k)) M ++ [eJ 1 1 o, eDd 1 od])) 436 (lLs a bb i) [] := by
  have hs0 := hs
  obtain ⟨⟨hF, hC, hA, hR⟩, -, -, ⟨n1, n2, n3, n4, n5, n6, n7, n8, n9, n10⟩, ⟨l1, l2, l3⟩, ⟨hg, hr⟩, hT, hz, ⟨hw, hw4⟩, hN0⟩ := hs
  have hc9 := hF.1
  have g1 := sc_in (xs := xs) (z := i + 1)
  have g2 := sc_in (xs := xs) (z := i + 2)
  have hTE : mTh (mHC (sHin F 2 (sc xs (i + 1)) (sc xs (i + 2)) 0)) 1 2 0 0 0 = exK (eEx (sHin F 2 (sc xs (i + 1)) (sc xs (i + 2)) 0)) xIx xAr "" := by
    rcases hk_2 (F := F) (p := (sc xs (i + 1))) (q := (sc xs (i + 2))) (r := 0) with w | w | w
      · rw [w]; show (0 : Int) = exK none _ _ _; rfl
      · rw [w]; show (1 : Int) = exK (some xIx) _ _ _; exact exK_s1.symm
      · rw [w]; show (2 : Int) = exK (some xAr) _ _ _; exact exK_s2 (by decide).symm
  have hV : mTh (mHC (sHin F 2 (sc xs (i + 1)) (sc xs (i + 2)) 0)) 1 2 0 0 0 = 0 → (if mTh (mHC (sHin F 2 (sc xs (i + 1)) (sc xs (i + 2)) 0)) 1 2 0 0 0 = 0 then sDoR F 2 (sc xs (i + 1)) (sc xs (i + 2)) 0 else 0 : Int) = sDoR F 2 (sc xs (i + 1)) (sc xs (i + 2)) 0 := fun q => if_pos q
  have e0 : eEx (sHin F 2 (sc xs (i + 1)) (sc xs (i + 2)) 0) = none ↔ (sHin F 2 (sc xs (i + 1)) (sc xs (i + 2)) 0) = 0 := by
    rcases hk_2 (F := F) (p := (sc xs (i + 1))) (q := (sc xs (i + 2))) (r := 0) with w | w | w <;> rw [w] <;> decide
  refine e_aload_n (K := lK X) (i := 1) (n := 437) dL_law_436 rfl rfl ?_
  refine lArg (k := 1) dL_law_437 dL_law_438 dL_law_440 dL_law_441 dL_law_442 hX hL rfl rfl (by omega) ?_
  refine lArg (k := 2) dL_law_443 dL_law_444 dL_law_446 dL_law_447 dL_law_448 hX hL rfl rfl (by omega) ?_
  refine e_aload_n (K := lK X) (i := 3) (n := 450) dL_law_449 rfl rfl ?_
  refine e_lawW (K := lK X) (b' := b') (n := 453) lk_L_160 (by decide) dL_law_450 rfl (W_setHandle hF n1 n2 g1 g2) rfl rfl (Nat.le_of_ble_eq_true rfl) (Nat.le_of_ble_eq_true rfl) (Nat.le_of_ble_eq_true rfl) ⟨hb.1, hb.2⟩ wA_len wA_len wA_len wM_6 (fun he => ?_) (fun he => ?_)
  · refine EV.eq (st' := [vi 0]) (by show [vi (exK (eEx (sHin F 2 (sc xs (i + 1)) (sc xs (i + 2)) 0)) xIx xAr "")] = _; rw [exK_n he]) ?_
    refine f_istore (K := lK X) (n := 455) dL_law_453 rfl (Nat.le_of_ble_eq_true rfl) rfl ?_
    refine e_aload_n (K := lK X) (i := 2) (n := 456) dL_law_455 rfl rfl ?_
    refine lArg (k := 1) dL_law_456 dL_law_457 dL_law_459 dL_law_460 dL_law_461 hX hL rfl rfl (by omega) ?_
    refine lArg (k := 2) dL_law_462 dL_law_463 dL_law_465 dL_law_466 dL_law_467 hX hL rfl rfl (by omega) ?_
    refine e_lawP (K := lK X) (n := 471) (Pr := fun M2 => mPo M M2 F 2 (sc xs (i + 1)) (sc xs (i + 2)) 0 (mTh (mHC (sHin F 2 (sc xs (i + 1)) (sc xs (i + 2)) 0)) 1 2 0 0 0)) lk_L_163 rfl dL_law_468 rfl (C_X7_setHandle (M := M) hF hR (by omega) (by omega) g1 g2) (fun _ q => q) rfl rfl (Nat.le_of_ble_eq_true rfl) (Nat.le_of_ble_eq_true rfl) (Nat.le_of_ble_eq_true rfl) ⟨rfl, rfl⟩ wA_len rfl rfl (fun M2 m => ?_)
    refine EV.eq (st' := [vi (w32 (sDoR F 2 (sc xs (i + 1)) (sc xs (i + 2)) 0))]) (by show [vi (if mTh (mHC (sHin F 2 (sc xs (i + 1)) (sc xs (i + 2)) 0)) 1 2 0 0 0 = 0 then sDoR F 2 (sc xs (i + 1)) (sc xs (i + 2)) 0 else 0)] = _; rw [hV (hTE.trans (exK_n he))]; exact congrArg (fun v => [v]) w32_v) ?_
    refine f_istore (K := lK X) (n := 473) dL_law_471 rfl (Nat.le_of_ble_eq_true rfl) rfl ?_
    exact lTail (bb := bb) (i := i) (e := 0) (v := (w32 (sDoR F 2 (sc xs (i + 1)) (sc xs (i + 2)) 0))) (off := 2128) dL_law_473 dL_law_474 dL_law_477 dL_law_479 dL_law_484 dL_law_486 dL_law_489 dL_law_490 dL_law_491 dL_law_492 dL_law_494 dL_law_495 dL_law_496 dL_law_501 (by decide) wA_len (by decide) (m.1.trans (hTE.trans (exK_n he))) (fun _ => eU_self) w32_in (kk _ _ _ _ _ _ _ _ _ _ _ _ _ _ _ _ _ _ (SIM_up ((SIM_chg (by decide) hs0 (by omega) m).1 (e0.mp he)) (by omega) hN))
  · have hx3 := exK_in (e1 := xIx) (e2 := xAr) (e3 := "") he
    refine f_istore (K := lK X) (n := 455) dL_law_453 rfl (Nat.le_of_ble_eq_true rfl) rfl ?_
    refine e_aload_n (K := lK X) (i := 2) (n := 456) dL_law_455 rfl rfl ?_
    refine lArg (k := 1) dL_law_456 dL_law_457 dL_law_459 dL_law_460 dL_law_461 hX hL rfl rfl (by omega) ?_
    refine lArg (k := 2) dL_law_462 dL_law_463 dL_law_465 dL_law_466 dL_law_467 hX hL rfl rfl (by omega) ?_
    refine e_lawP (K := lK X) (n := 471) (Pr := fun M2 => mPo M M2 F 2 (sc xs (i + 1)) (sc xs (i + 2)) 0 (mTh (mHC (sHin F 2 (sc xs (i + 1)) (sc xs (i + 2)) 0)) 1 2 0 0 0)) lk_L_163 rfl dL_law_468 rfl (C_X7_setHandle (M := M) hF hR (by omega) (by omega) g1 g2) (fun _ q => q) rfl rfl (Nat.le_of_ble_eq_true rfl) (Nat.le_of_ble_eq_true rfl) (Nat.le_of_ble_eq_true rfl) ⟨rfl, rfl⟩ wA_len rfl rfl (fun M2 m => ?_)
    refine EV.eq (st' := [vi (w32 (if mTh (mHC (sHin F 2 (sc xs (i + 1)) (sc xs (i + 2)) 0)) 1 2 0 0 0 = 0 then sDoR F 2 (sc xs (i + 1)) (sc xs (i + 2)) 0 else 0))]) (congrArg (fun v => [v]) w32_v) ?_
    refine f_istore (K := lK X) (n := 473) dL_law_471 rfl (Nat.le_of_ble_eq_true rfl) rfl ?_
    exact lTail (bb := bb) (i := i) (e := (exK (eEx (sHin F 2 (sc xs (i + 1)) (sc xs (i + 2)) 0)) xIx xAr "")) (v := (w32 (if mTh (mHC (sHin F 2 (sc xs (i + 1)) (sc xs (i + 2)) 0)) 1 2 0 0 0 = 0 then sDoR F 2 (sc xs (i + 1)) (sc xs (i + 2)) 0 else 0))) (off := 2128) dL_law_473 dL_law_474 dL_law_477 dL_law_479 dL_law_484 dL_law_486 dL_law_489 dL_law_490 dL_law_491 dL_law_492 dL_law_494 dL_law_495 dL_law_496 dL_law_501 (by decide) wA_len (by omega) (Eq.trans m.1 hTE) (fun q => by exfalso; omega) w32_in (kk _ _ _ _ _ _ _ _ _ _ _ _ _ _ _ _ _ _ (SIM_up ((SIM_chg (by decide) hs0 (by omega) m).2 (fun q => he (e0.mpr q))) (by omega) hN))
set_option maxHeartbeats 1600000 in
theorem LC_xOf {X : eXT} {a : Nat → Nat} {b b' : Nat × Nat} {bb L : Nat} {xs : Nat → Int32} {i N : Int} {z : Nat → Int} {ln : Int → Int} {F : eFs} {P : Int → Int} {D : eFs} {DQ : Int → Int} {S : eFs} {SP : Int → Int} {c n : Int} {h : eHs} {g rc : Int → Int} {T : eFs} {Mt : Int → Int → Int} {M : eFs} {o : Int → Int} {od : Nat → UInt64} (hX : X.2 = some (bb, L, xs)) (hL : L ≤ 2147483647) (hi : 0 ≤ i ∧ i + 4 ≤ L) (hb : 2 + b'.1 ≤ b.1 ∧ 12 + b'.2 ≤ b.2) (hN : N + 2400 ≤ 90000000) (hs : SIM N z ln F S c n h g rc T Mt M) (kk : lG X a bb (N + 2400) i b') :
    EV (lK X) a b (wA a z ln F P D DQ S SP c n h g rc T Mt [] ++ (wM (fun k => a (131 + k)) M ++ [eJ 1 1 o, eDd 1 od])) 517 (lLs a bb i) [] := by
  have hs0 := hs
  obtain ⟨⟨hF, hC, hA, hR⟩, -, -, ⟨n1, n2, n3, n4, n5, n6, n7, n8, n9, n10⟩, ⟨l1, l2, l3⟩, ⟨hg, hr⟩, hT, hz, ⟨hw, hw4⟩, hN0⟩ := hs
  have hc9 := hF.1
  have g1 := sc_in (xs := xs) (z := i + 1)
  have hTE : (if sHas F (sc xs (i + 1)) then (0 : Int) else 1) = exK ((if sHas F (sc xs (i + 1)) then none else some xIx)) xIx "" "" := by
    exact exK_i1.symm
  have hV : (if sHas F (sc xs (i + 1)) then (0 : Int) else 1) = 0 → (if (if sHas F (sc xs (i + 1)) then (0 : Int) else 1) = 0 then F.2 0 (sc xs (i + 1)) else 0 : Int) = F.2 0 (sc xs (i + 1)) := fun q => if_pos q
  refine e_aload_n (K := lK X) (i := 1) (n := 518) dL_law_517 rfl rfl ?_
  refine lArg (k := 1) dL_law_518 dL_law_519 dL_law_521 dL_law_522 dL_law_523 hX hL rfl rfl (by omega) ?_
  refine e_aload_n (K := lK X) (i := 3) (n := 525) dL_law_524 rfl rfl ?_
  refine e_lawW (K := lK X) (b' := b') (n := 528) lk_L_168 (by decide) dL_law_525 rfl (W_xOf hF g1) rfl rfl (Nat.le_of_ble_eq_true rfl) (Nat.le_of_ble_eq_true rfl) (Nat.le_of_ble_eq_true rfl) ⟨hb.1, hb.2⟩ wA_len wA_len wA_len wM_6 (fun he => ?_) (fun he => ?_)
  · refine EV.eq (st' := [vi 0]) (by show [vi (exK ((if sHas F (sc xs (i + 1)) then none else some xIx)) xIx "" "")] = _; rw [exK_n he]) ?_
    refine f_istore (K := lK X) (n := 530) dL_law_528 rfl (Nat.le_of_ble_eq_true rfl) rfl ?_
    refine e_aload_n (K := lK X) (i := 2) (n := 531) dL_law_530 rfl rfl ?_
    refine lArg (k := 1) dL_law_531 dL_law_532 dL_law_534 dL_law_535 dL_law_536 hX hL rfl rfl (by omega) ?_
    refine e_lawQ (K := lK X) (n := 540) (M2 := sS M 0 (if sHas F (sc xs (i + 1)) then (0 : Int) else 1)) lk_L_171 rfl dL_law_537 rfl (C_X7_xOf (M := M) hF hR g1) rfl rfl (Nat.le_of_ble_eq_true rfl) (Nat.le_of_ble_eq_true rfl) (Nat.le_of_ble_eq_true rfl) ⟨rfl, rfl⟩ wA_len rfl rfl ?_
    refine EV.eq (st' := [vi (w32 (F.2 0 (sc xs (i + 1))))]) (by show [vi (if (if sHas F (sc xs (i + 1)) then (0 : Int) else 1) = 0 then F.2 0 (sc xs (i + 1)) else 0)] = _; rw [hV (hTE.trans (exK_n he))]; exact congrArg (fun v => [v]) w32_v) ?_
    refine f_istore (K := lK X) (n := 542) dL_law_540 rfl (Nat.le_of_ble_eq_true rfl) rfl ?_
    exact lTail (bb := bb) (i := i) (e := 0) (v := (w32 (F.2 0 (sc xs (i + 1))))) (off := 2059) dL_law_542 dL_law_543 dL_law_546 dL_law_548 dL_law_553 dL_law_555 dL_law_558 dL_law_559 dL_law_560 dL_law_561 dL_law_563 dL_law_564 dL_law_565 dL_law_570 (by decide) wA_len (by decide) (sS_0.trans (hTE.trans (exK_n he))) (fun _ => eU_self) w32_in (kk _ _ _ _ _ _ _ _ _ _ _ _ _ _ _ _ _ _ (SIM_up (SIM_eq hs0 mEq_0) (by omega) hN))
  · have hx3 := exK_in (e1 := xIx) (e2 := "") (e3 := "") he
    refine f_istore (K := lK X) (n := 530) dL_law_528 rfl (Nat.le_of_ble_eq_true rfl) rfl ?_
    refine e_aload_n (K := lK X) (i := 2) (n := 531) dL_law_530 rfl rfl ?_
    refine lArg (k := 1) dL_law_531 dL_law_532 dL_law_534 dL_law_535 dL_law_536 hX hL rfl rfl (by omega) ?_
    refine e_lawQ (K := lK X) (n := 540) (M2 := sS M 0 (if sHas F (sc xs (i + 1)) then (0 : Int) else 1)) lk_L_171 rfl dL_law_537 rfl (C_X7_xOf (M := M) hF hR g1) rfl rfl (Nat.le_of_ble_eq_true rfl) (Nat.le_of_ble_eq_true rfl) (Nat.le_of_ble_eq_true rfl) ⟨rfl, rfl⟩ wA_len rfl rfl ?_
    refine EV.eq (st' := [vi (w32 (if (if sHas F (sc xs (i + 1)) then (0 : Int) else 1) = 0 then F.2 0 (sc xs (i + 1)) else 0))]) (congrArg (fun v => [v]) w32_v) ?_
    refine f_istore (K := lK X) (n := 542) dL_law_540 rfl (Nat.le_of_ble_eq_true rfl) rfl ?_
    exact lTail (bb := bb) (i := i) (e := (exK ((if sHas F (sc xs (i + 1)) then none else some xIx)) xIx "" "")) (v := (w32 (if (if sHas F (sc xs (i + 1)) then (0 : Int) else 1) = 0 then F.2 0 (sc xs (i + 1)) else 0))) (off := 2059) dL_law_542 dL_law_543 dL_law_546 dL_law_548 dL_law_553 dL_law_555 dL_law_558 dL_law_559 dL_law_560 dL_law_561 dL_law_563 dL_law_564 dL_law_565 dL_law_570 (by decide) wA_len (by omega) (Eq.trans sS_0 hTE) (fun q => by exfalso; omega) w32_in (kk _ _ _ _ _ _ _ _ _ _ _ _ _ _ _ _ _ _ (SIM_up (SIM_eq hs0 mEq_0) (by omega) hN))
set_option maxHeartbeats 1600000 in
theorem LC_yOf {X : eXT} {a : Nat → Nat} {b b' : Nat × Nat} {bb L : Nat} {xs : Nat → Int32} {i N : Int} {z : Nat → Int} {ln : Int → Int} {F : eFs} {P : Int → Int} {D : eFs} {DQ : Int → Int} {S : eFs} {SP : Int → Int} {c n : Int} {h : eHs} {g rc : Int → Int} {T : eFs} {Mt : Int → Int → Int} {M : eFs} {o : Int → Int} {od : Nat → UInt64} (hX : X.2 = some (bb, L, xs)) (hL : L ≤ 2147483647) (hi : 0 ≤ i ∧ i + 4 ≤ L) (hb : 2 + b'.1 ≤ b.1 ∧ 12 + b'.2 ≤ b.2) (hN : N + 2400 ≤ 90000000) (hs : SIM N z ln F S c n h g rc T Mt M) (kk : lG X a bb (N + 2400) i b') :
    EV (lK X) a b (wA a z ln F P D DQ S SP c n h g rc T Mt [] ++ (wM (fun k => a (131 + k)) M ++ [eJ 1 1 o, eDd 1 od])) 573 (lLs a bb i) [] := by
  have hs0 := hs
  obtain ⟨⟨hF, hC, hA, hR⟩, -, -, ⟨n1, n2, n3, n4, n5, n6, n7, n8, n9, n10⟩, ⟨l1, l2, l3⟩, ⟨hg, hr⟩, hT, hz, ⟨hw, hw4⟩, hN0⟩ := hs
  have hc9 := hF.1
  have g1 := sc_in (xs := xs) (z := i + 1)
  have hTE : (if sHas F (sc xs (i + 1)) then (0 : Int) else 1) = exK ((if sHas F (sc xs (i + 1)) then none else some xIx)) xIx "" "" := by
    exact exK_i1.symm
  have hV : (if sHas F (sc xs (i + 1)) then (0 : Int) else 1) = 0 → (if (if sHas F (sc xs (i + 1)) then (0 : Int) else 1) = 0 then F.2 1 (sc xs (i + 1)) else 0 : Int) = F.2 1 (sc xs (i + 1)) := fun q => if_pos q
  refine e_aload_n (K := lK X) (i := 1) (n := 574) dL_law_573 rfl rfl ?_
  refine lArg (k := 1) dL_law_574 dL_law_575 dL_law_577 dL_law_578 dL_law_579 hX hL rfl rfl (by omega) ?_
  refine e_aload_n (K := lK X) (i := 3) (n := 581) dL_law_580 rfl rfl ?_
  refine e_lawW (K := lK X) (b' := b') (n := 584) lk_L_172 (by decide) dL_law_581 rfl (W_yOf hF g1) rfl rfl (Nat.le_of_ble_eq_true rfl) (Nat.le_of_ble_eq_true rfl) (Nat.le_of_ble_eq_true rfl) ⟨hb.1, hb.2⟩ wA_len wA_len wA_len wM_6 (fun he => ?_) (fun he => ?_)
  · refine EV.eq (st' := [vi 0]) (by show [vi (exK ((if sHas F (sc xs (i + 1)) then none else some xIx)) xIx "" "")] = _; rw [exK_n he]) ?_
    refine f_istore (K := lK X) (n := 586) dL_law_584 rfl (Nat.le_of_ble_eq_true rfl) rfl ?_
    refine e_aload_n (K := lK X) (i := 2) (n := 587) dL_law_586 rfl rfl ?_
    refine lArg (k := 1) dL_law_587 dL_law_588 dL_law_590 dL_law_591 dL_law_592 hX hL rfl rfl (by omega) ?_
    refine e_lawQ (K := lK X) (n := 596) (M2 := sS M 0 (if sHas F (sc xs (i + 1)) then (0 : Int) else 1)) lk_L_174 rfl dL_law_593 rfl (C_X7_yOf (M := M) hF hR g1) rfl rfl (Nat.le_of_ble_eq_true rfl) (Nat.le_of_ble_eq_true rfl) (Nat.le_of_ble_eq_true rfl) ⟨rfl, rfl⟩ wA_len rfl rfl ?_
    refine EV.eq (st' := [vi (w32 (F.2 1 (sc xs (i + 1))))]) (by show [vi (if (if sHas F (sc xs (i + 1)) then (0 : Int) else 1) = 0 then F.2 1 (sc xs (i + 1)) else 0)] = _; rw [hV (hTE.trans (exK_n he))]; exact congrArg (fun v => [v]) w32_v) ?_
    refine f_istore (K := lK X) (n := 598) dL_law_596 rfl (Nat.le_of_ble_eq_true rfl) rfl ?_
    exact lTail (bb := bb) (i := i) (e := 0) (v := (w32 (F.2 1 (sc xs (i + 1))))) (off := 2003) dL_law_598 dL_law_599 dL_law_602 dL_law_604 dL_law_609 dL_law_611 dL_law_614 dL_law_615 dL_law_616 dL_law_617 dL_law_619 dL_law_620 dL_law_621 dL_law_626 (by decide) wA_len (by decide) (sS_0.trans (hTE.trans (exK_n he))) (fun _ => eU_self) w32_in (kk _ _ _ _ _ _ _ _ _ _ _ _ _ _ _ _ _ _ (SIM_up (SIM_eq hs0 mEq_0) (by omega) hN))
  · have hx3 := exK_in (e1 := xIx) (e2 := "") (e3 := "") he
    refine f_istore (K := lK X) (n := 586) dL_law_584 rfl (Nat.le_of_ble_eq_true rfl) rfl ?_
    refine e_aload_n (K := lK X) (i := 2) (n := 587) dL_law_586 rfl rfl ?_
    refine lArg (k := 1) dL_law_587 dL_law_588 dL_law_590 dL_law_591 dL_law_592 hX hL rfl rfl (by omega) ?_
    refine e_lawQ (K := lK X) (n := 596) (M2 := sS M 0 (if sHas F (sc xs (i + 1)) then (0 : Int) else 1)) lk_L_174 rfl dL_law_593 rfl (C_X7_yOf (M := M) hF hR g1) rfl rfl (Nat.le_of_ble_eq_true rfl) (Nat.le_of_ble_eq_true rfl) (Nat.le_of_ble_eq_true rfl) ⟨rfl, rfl⟩ wA_len rfl rfl ?_
    refine EV.eq (st' := [vi (w32 (if (if sHas F (sc xs (i + 1)) then (0 : Int) else 1) = 0 then F.2 1 (sc xs (i + 1)) else 0))]) (congrArg (fun v => [v]) w32_v) ?_
    refine f_istore (K := lK X) (n := 598) dL_law_596 rfl (Nat.le_of_ble_eq_true rfl) rfl ?_
    exact lTail (bb := bb) (i := i) (e := (exK ((if sHas F (sc xs (i + 1)) then none else some xIx)) xIx "" "")) (v := (w32 (if (if sHas F (sc xs (i + 1)) then (0 : Int) else 1) = 0 then F.2 1 (sc xs (i + 1)) else 0))) (off := 2003) dL_law_598 dL_law_599 dL_law_602 dL_law_604 dL_law_609 dL_law_611 dL_law_614 dL_law_615 dL_law_616 dL_law_617 dL_law_619 dL_law_620 dL_law_621 dL_law_626 (by decide) wA_len (by omega) (Eq.trans sS_0 hTE) (fun q => by exfalso; omega) w32_in (kk _ _ _ _ _ _ _ _ _ _ _ _ _ _ _ _ _ _ (SIM_up (SIM_eq hs0 mEq_0) (by omega) hN))
set_option maxHeartbeats 1600000 in
theorem LC_handleOf {X : eXT} {a : Nat → Nat} {b b' : Nat × Nat} {bb L : Nat} {xs : Nat → Int32} {i N : Int} {z : Nat → Int} {ln : Int → Int} {F : eFs} {P : Int → Int} {D : eFs} {DQ : Int → Int} {S : eFs} {SP : Int → Int} {c n : Int} {h : eHs} {g rc : Int → Int} {T : eFs} {Mt : Int → Int → Int} {M : eFs} {o : Int → Int} {od : Nat → UInt64} (hX : X.2 = some (bb, L, xs)) (hL : L ≤ 2147483647) (hi : 0 ≤ i ∧ i + 4 ≤ L) (hb : 2 + b'.1 ≤ b.1 ∧ 12 + b'.2 ≤ b.2) (hN : N + 2400 ≤ 90000000) (hs : SIM N z ln F S c n h g rc T Mt M) (kk : lG X a bb (N + 2400) i b') :
    EV (lK X) a b (wA a z ln F P D DQ S SP c n h g rc T Mt [] ++ (wM (fun k => a (131 + k)) M ++ [eJ 1 1 o, eDd 1 od])) 629 (lLs a bb i) [] := by
  have hs0 := hs
  obtain ⟨⟨hF, hC, hA, hR⟩, -, -, ⟨n1, n2, n3, n4, n5, n6, n7, n8, n9, n10⟩, ⟨l1, l2, l3⟩, ⟨hg, hr⟩, hT, hz, ⟨hw, hw4⟩, hN0⟩ := hs
  have hc9 := hF.1
  have g1 := sc_in (xs := xs) (z := i + 1)
  have hTE : (if sHas F (sc xs (i + 1)) then (0 : Int) else 1) = exK ((if sHas F (sc xs (i + 1)) then none else some xIx)) xIx "" "" := by
    exact exK_i1.symm
  have hV : (if sHas F (sc xs (i + 1)) then (0 : Int) else 1) = 0 → (if (if sHas F (sc xs (i + 1)) then (0 : Int) else 1) = 0 then F.2 2 (sc xs (i + 1)) else 0 : Int) = F.2 2 (sc xs (i + 1)) := fun q => if_pos q
  refine e_aload_n (K := lK X) (i := 1) (n := 630) dL_law_629 rfl rfl ?_
  refine lArg (k := 1) dL_law_630 dL_law_631 dL_law_633 dL_law_634 dL_law_635 hX hL rfl rfl (by omega) ?_
  refine e_aload_n (K := lK X) (i := 3) (n := 637) dL_law_636 rfl rfl ?_
  refine e_lawW (K := lK X) (b' := b') (n := 640) lk_L_175 (by decide) dL_law_637 rfl (W_handleOf hF g1) rfl rfl (Nat.le_of_ble_eq_true rfl) (Nat.le_of_ble_eq_true rfl) (Nat.le_of_ble_eq_true rfl) ⟨hb.1, hb.2⟩ wA_len wA_len wA_len wM_6 (fun he => ?_) (fun he => ?_)
  · refine EV.eq (st' := [vi 0]) (by show [vi (exK ((if sHas F (sc xs (i + 1)) then none else some xIx)) xIx "" "")] = _; rw [exK_n he]) ?_
    refine f_istore (K := lK X) (n := 642) dL_law_640 rfl (Nat.le_of_ble_eq_true rfl) rfl ?_
    refine e_aload_n (K := lK X) (i := 2) (n := 643) dL_law_642 rfl rfl ?_
    refine lArg (k := 1) dL_law_643 dL_law_644 dL_law_646 dL_law_647 dL_law_648 hX hL rfl rfl (by omega) ?_
    refine e_lawQ (K := lK X) (n := 652) (M2 := sS M 0 (if sHas F (sc xs (i + 1)) then (0 : Int) else 1)) lk_L_177 rfl dL_law_649 rfl (C_X7_handleOf (M := M) hF hR g1) rfl rfl (Nat.le_of_ble_eq_true rfl) (Nat.le_of_ble_eq_true rfl) (Nat.le_of_ble_eq_true rfl) ⟨rfl, rfl⟩ wA_len rfl rfl ?_
    refine EV.eq (st' := [vi (w32 (F.2 2 (sc xs (i + 1))))]) (by show [vi (if (if sHas F (sc xs (i + 1)) then (0 : Int) else 1) = 0 then F.2 2 (sc xs (i + 1)) else 0)] = _; rw [hV (hTE.trans (exK_n he))]; exact congrArg (fun v => [v]) w32_v) ?_
    refine f_istore (K := lK X) (n := 654) dL_law_652 rfl (Nat.le_of_ble_eq_true rfl) rfl ?_
    exact lTail (bb := bb) (i := i) (e := 0) (v := (w32 (F.2 2 (sc xs (i + 1))))) (off := 1947) dL_law_654 dL_law_655 dL_law_658 dL_law_660 dL_law_665 dL_law_667 dL_law_670 dL_law_671 dL_law_672 dL_law_673 dL_law_675 dL_law_676 dL_law_677 dL_law_682 (by decide) wA_len (by decide) (sS_0.trans (hTE.trans (exK_n he))) (fun _ => eU_self) w32_in (kk _ _ _ _ _ _ _ _ _ _ _ _ _ _ _ _ _ _ (SIM_up (SIM_eq hs0 mEq_0) (by omega) hN))
  · have hx3 := exK_in (e1 := xIx) (e2 := "") (e3 := "") he
    refine f_istore (K := lK X) (n := 642) dL_law_640 rfl (Nat.le_of_ble_eq_true rfl) rfl ?_
    refine e_aload_n (K := lK X) (i := 2) (n := 643) dL_law_642 rfl rfl ?_
    refine lArg (k := 1) dL_law_643 dL_law_644 dL_law_646 dL_law_647 dL_law_648 hX hL rfl rfl (by omega) ?_
    refine e_lawQ (K := lK X) (n := 652) (M2 := sS M 0 (if sHas F (sc xs (i + 1)) then (0 : Int) else 1)) lk_L_177 rfl dL_law_649 rfl (C_X7_handleOf (M := M) hF hR g1) rfl rfl (Nat.le_of_ble_eq_true rfl) (Nat.le_of_ble_eq_true rfl) (Nat.le_of_ble_eq_true rfl) ⟨rfl, rfl⟩ wA_len rfl rfl ?_
    refine EV.eq (st' := [vi (w32 (if (if sHas F (sc xs (i + 1)) then (0 : Int) else 1) = 0 then F.2 2 (sc xs (i + 1)) else 0))]) (congrArg (fun v => [v]) w32_v) ?_
    refine f_istore (K := lK X) (n := 654) dL_law_652 rfl (Nat.le_of_ble_eq_true rfl) rfl ?_
    exact lTail (bb := bb) (i := i) (e := (exK ((if sHas F (sc xs (i + 1)) then none else some xIx)) xIx "" "")) (v := (w32 (if (if sHas F (sc xs (i + 1)) then (0 : Int) else 1) = 0 then F.2 2 (sc xs (i + 1)) else 0))) (off := 1947) dL_law_654 dL_law_655 dL_law_658 dL_law_660 dL_law_665 dL_law_667 dL_law_670 dL_law_671 dL_law_672 dL_law_673 dL_law_675 dL_law_676 dL_law_677 dL_law_682 (by decide) wA_len (by omega) (Eq.trans sS_0 hTE) (fun q => by exfalso; omega) w32_in (kk _ _ _ _ _ _ _ _ _ _ _ _ _ _ _ _ _ _ (SIM_up (SIM_eq hs0 mEq_0) (by omega) hN))
set_option maxHeartbeats 1600000 in
theorem LC_basketAt {X : eXT} {a : Nat → Nat} {b b' : Nat × Nat} {bb L : Nat} {xs : Nat → Int32} {i N : Int} {z : Nat → Int} {ln : Int → Int} {F : eFs} {P : Int → Int} {D : eFs} {DQ : Int → Int} {S : eFs} {SP : Int → Int} {c n : Int} {h : eHs} {g rc : Int → Int} {T : eFs} {Mt : Int → Int → Int} {M : eFs} {o : Int → Int} {od : Nat → UInt64} (hX : X.2 = some (bb, L, xs)) (hL : L ≤ 2147483647) (hi : 0 ≤ i ∧ i + 4 ≤ L) (hb : 2 + b'.1 ≤ b.1 ∧ 12 + b'.2 ≤ b.2) (hN : N + 2400 ≤ 90000000) (hs : SIM N z ln F S c n h g rc T Mt M) (kk : lG X a bb (N + 2400) i b') :
    EV (lK X) a b (wA a z ln F P D DQ S SP c n h g rc T Mt [] ++ (wM (fun k => a (131 + k)) M ++ [eJ 1 1 o, eDd 1 od])) 685 (lLs a bb i) [] := by
  have hs0 := hs
  obtain ⟨⟨hF, hC, hA, hR⟩, -, -, ⟨n1, n2, n3, n4, n5, n6, n7, n8, n9, n10⟩, ⟨l1, l2, l3⟩, ⟨hg, hr⟩, hT, hz, ⟨hw, hw4⟩, hN0⟩ := hs
  have hc9 := hF.1
  have g1 := sc_in (xs := xs) (z := i + 1)
  have g2 := sc_in (xs := xs) (z := i + 2)
  have hTE : (if ¬ sIn (sc xs (i + 1)) (sc xs (i + 2)) then (1 : Int) else if sAt F (sc xs (i + 1)) (sc xs (i + 2)) = -1 then 2 else 0) = exK ((if sIn (sc xs (i + 1)) (sc xs (i + 2)) then (if ¬ sAt F (sc xs (i + 1)) (sc xs (i + 2)) = -1 then none else some xNo) else some xAr)) xAr xNo "" := by
    rw [exK_i2 (by decide)]
    (repeat' split) <;> first | rfl | contradiction | (exfalso; omega)
  have hV : (if ¬ sIn (sc xs (i + 1)) (sc xs (i + 2)) then (1 : Int) else if sAt F (sc xs (i + 1)) (sc xs (i + 2)) = -1 then 2 else 0) = 0 → (if (if ¬ sIn (sc xs (i + 1)) (sc xs (i + 2)) then (1 : Int) else if sAt F (sc xs (i + 1)) (sc xs (i + 2)) = -1 then 2 else 0) = 0 then sAt F (sc xs (i + 1)) (sc xs (i + 2)) else 0 : Int) = sAt F (sc xs (i + 1)) (sc xs (i + 2)) := fun q => if_pos q
  refine e_aload_n (K := lK X) (i := 1) (n := 686) dL_law_685 rfl rfl ?_
  refine lArg (k := 1) dL_law_686 dL_law_687 dL_law_689 dL_law_690 dL_law_691 hX hL rfl rfl (by omega) ?_
  refine lArg (k := 2) dL_law_692 dL_law_693 dL_law_695 dL_law_696 dL_law_697 hX hL rfl rfl (by omega) ?_
  refine e_aload_n (K := lK X) (i := 3) (n := 699) dL_law_698 rfl rfl ?_
  refine e_lawW (K := lK X) (b' := b') (n := 702) lk_L_178 (by decide) dL_law_699 rfl (W_basketAt hF g1 g2) rfl rfl (Nat.le_of_ble_eq_true rfl) (Nat.le_of_ble_eq_true rfl) (Nat.le_of_ble_eq_true rfl) ⟨hb.1, hb.2⟩ wA_len wA_len wA_len wM_6 (fun he => ?_) (fun he => ?_)
  · refine EV.eq (st' := [vi 0]) (by show [vi (exK ((if sIn (sc xs (i + 1)) (sc xs (i + 2)) then (if ¬ sAt F (sc xs (i + 1)) (sc xs (i + 2)) = -1 then none else some xNo) else some xAr)) xAr xNo "")] = _; rw [exK_n he]) ?_
    refine f_istore (K := lK X) (n := 704) dL_law_702 rfl (Nat.le_of_ble_eq_true rfl) rfl ?_
    refine e_aload_n (K := lK X) (i := 2) (n := 705) dL_law_704 rfl rfl ?_
    refine lArg (k := 1) dL_law_705 dL_law_706 dL_law_708 dL_law_709 dL_law_710 hX hL rfl rfl (by omega) ?_
    refine lArg (k := 2) dL_law_711 dL_law_712 dL_law_714 dL_law_715 dL_law_716 hX hL rfl rfl (by omega) ?_
    refine e_lawQ (K := lK X) (n := 720) (M2 := sS M 0 (if ¬ sIn (sc xs (i + 1)) (sc xs (i + 2)) then (1 : Int) else if sAt F (sc xs (i + 1)) (sc xs (i + 2)) = -1 then 2 else 0)) lk_L_180 rfl dL_law_717 rfl (C_X7_basketAt (M := M) hF hR g1 g2) rfl rfl (Nat.le_of_ble_eq_true rfl) (Nat.le_of_ble_eq_true rfl) (Nat.le_of_ble_eq_true rfl) ⟨rfl, rfl⟩ wA_len rfl rfl ?_
    refine EV.eq (st' := [vi (w32 (sAt F (sc xs (i + 1)) (sc xs (i + 2))))]) (by show [vi (if (if ¬ sIn (sc xs (i + 1)) (sc xs (i + 2)) then (1 : Int) else if sAt F (sc xs (i + 1)) (sc xs (i + 2)) = -1 then 2 else 0) = 0 then sAt F (sc xs (i + 1)) (sc xs (i + 2)) else 0)] = _; rw [hV (hTE.trans (exK_n he))]; exact congrArg (fun v => [v]) w32_v) ?_
    refine f_istore (K := lK X) (n := 722) dL_law_720 rfl (Nat.le_of_ble_eq_true rfl) rfl ?_
    exact lTail (bb := bb) (i := i) (e := 0) (v := (w32 (sAt F (sc xs (i + 1)) (sc xs (i + 2))))) (off := 1879) dL_law_722 dL_law_723 dL_law_726 dL_law_728 dL_law_733 dL_law_735 dL_law_738 dL_law_739 dL_law_740 dL_law_741 dL_law_743 dL_law_744 dL_law_745 dL_law_750 (by decide) wA_len (by decide) (sS_0.trans (hTE.trans (exK_n he))) (fun _ => eU_self) w32_in (kk _ _ _ _ _ _ _ _ _ _ _ _ _ _ _ _ _ _ (SIM_up (SIM_eq hs0 mEq_0) (by omega) hN))
  · have hx3 := exK_in (e1 := xAr) (e2 := xNo) (e3 := "") he
    refine f_istore (K := lK X) (n := 704) dL_law_702 rfl (Nat.le_of_ble_eq_true rfl) rfl ?_
    refine e_aload_n (K := lK X) (i := 2) (n := 705) dL_law_704 rfl rfl ?_
    refine lArg (k := 1) dL_law_705 dL_law_706 dL_law_708 dL_law_709 dL_law_710 hX hL rfl rfl (by omega) ?_
    refine lArg (k := 2) dL_law_711 dL_law_712 dL_law_714 dL_law_715 dL_law_716 hX hL rfl rfl (by omega) ?_
    refine e_lawQ (K := lK X) (n := 720) (M2 := sS M 0 (if ¬ sIn (sc xs (i + 1)) (sc xs (i + 2)) then (1 : Int) else if sAt F (sc xs (i + 1)) (sc xs (i + 2)) = -1 then 2 else 0)) lk_L_180 rfl dL_law_717 rfl (C_X7_basketAt (M := M) hF hR g1 g2) rfl rfl (Nat.le_of_ble_eq_true rfl) (Nat.le_of_ble_eq_true rfl) (Nat.le_of_ble_eq_true rfl) ⟨rfl, rfl⟩ wA_len rfl rfl ?_
    refine EV.eq (st' := [vi (w32 (if (if ¬ sIn (sc xs (i + 1)) (sc xs (i + 2)) then (1 : Int) else if sAt F (sc xs (i + 1)) (sc xs (i + 2)) = -1 then 2 else 0) = 0 then sAt F (sc xs (i + 1)) (sc xs (i + 2)) else 0))]) (congrArg (fun v => [v]) w32_v) ?_
    refine f_istore (K := lK X) (n := 722) dL_law_720 rfl (Nat.le_of_ble_eq_true rfl) rfl ?_
    exact lTail (bb := bb) (i := i) (e := (exK ((if sIn (sc xs (i + 1)) (sc xs (i + 2)) then (if ¬ sAt F (sc xs (i + 1)) (sc xs (i + 2)) = -1 then none else some xNo) else some xAr)) xAr xNo "")) (v := (w32 (if (if ¬ sIn (sc xs (i + 1)) (sc xs (i + 2)) then (1 : Int) else if sAt F (sc xs (i + 1)) (sc xs (i + 2)) = -1 then 2 else 0) = 0 then sAt F (sc xs (i + 1)) (sc xs (i + 2)) else 0))) (off := 1879) dL_law_722 dL_law_723 dL_law_726 dL_law_728 dL_law_733 dL_law_735 dL_law_738 dL_law_739 dL_law_740 dL_law_741 dL_law_743 dL_law_744 dL_law_745 dL_law_750 (by decide) wA_len (by omega) (Eq.trans sS_0 hTE) (fun q => by exfalso; omega) w32_in (kk _ _ _ _ _ _ _ _ _ _ _ _ _ _ _ _ _ _ (SIM_up (SIM_eq hs0 mEq_0) (by omega) hN))
set_option maxHeartbeats 1600000 in
theorem LC_distance {X : eXT} {a : Nat → Nat} {b b' : Nat × Nat} {bb L : Nat} {xs : Nat → Int32} {i N : Int} {z : Nat → Int} {ln : Int → Int} {F : eFs} {P : Int → Int} {D : eFs} {DQ : Int → Int} {S : eFs} {SP : Int → Int} {c n : Int} {h : eHs} {g rc : Int → Int} {T : eFs} {Mt : Int → Int → Int} {M : eFs} {o : Int → Int} {od : Nat → UInt64} (hX : X.2 = some (bb, L, xs)) (hL : L ≤ 2147483647) (hi : 0 ≤ i ∧ i + 4 ≤ L) (hb : 2 + b'.1 ≤ b.1 ∧ 12 + b'.2 ≤ b.2) (hN : N + 2400 ≤ 90000000) (hs : SIM N z ln F S c n h g rc T Mt M) (kk : lG X a bb (N + 2400) i b') :
    EV (lK X) a b (wA a z ln F P D DQ S SP c n h g rc T Mt [] ++ (wM (fun k => a (131 + k)) M ++ [eJ 1 1 o, eDd 1 od])) 753 (lLs a bb i) [] := by
  have hs0 := hs
  obtain ⟨⟨hF, hC, hA, hR⟩, -, -, ⟨n1, n2, n3, n4, n5, n6, n7, n8, n9, n10⟩, ⟨l1, l2, l3⟩, ⟨hg, hr⟩, hT, hz, ⟨hw, hw4⟩, hN0⟩ := hs
  have hc9 := hF.1
  have g1 := sc_in (xs := xs) (z := i + 1)
  have g2 := sc_in (xs := xs) (z := i + 2)
  have hTE : (if sHas F (sc xs (i + 1)) ∧ sHas F (sc xs (i + 2)) then (0 : Int) else 1) = exK ((if sHas F (sc xs (i + 1)) then (if sHas F (sc xs (i + 2)) then none else some xIx) else some xIx)) xIx "" "" := by
    by_cases q : sHas F (sc xs (i + 1))
    · rw [if_pos q]
      by_cases r : sHas F (sc xs (i + 2))
      · rw [if_pos r, if_pos ⟨q, r⟩]; rfl
      · rw [if_neg r, if_neg (fun w => r w.2)]; exact exK_s1.symm
    · rw [if_neg q, if_neg (fun w => q w.1)]; exact exK_s1.symm
  have hV : (if sHas F (sc xs (i + 1)) ∧ sHas F (sc xs (i + 2)) then (0 : Int) else 1) = 0 → (if (if sHas F (sc xs (i + 1)) ∧ sHas F (sc xs (i + 2)) then (0 : Int) else 1) = 0 then sDD F (sc xs (i + 1)) (sc xs (i + 2)) else 0 : Int) = sDD F (sc xs (i + 1)) (sc xs (i + 2)) := fun q => if_pos q
  refine e_aload_n (K := lK X) (i := 1) (n := 754) dL_law_753 rfl rfl ?_
  refine lArg (k := 1) dL_law_754 dL_law_755 dL_law_757 dL_law_758 dL_law_759 hX hL rfl rfl (by omega) ?_
  refine lArg (k := 2) dL_law_760 dL_law_761 dL_law_763 dL_law_764 dL_law_765 hX hL rfl rfl (by omega) ?_
  refine e_aload_n (K := lK X) (i := 3) (n := 767) dL_law_766 rfl rfl ?_
  refine e_lawW (K := lK X) (b' := b') (n := 770) lk_L_181 (by decide) dL_law_767 rfl (W_distance hF g1 g2) rfl rfl (Nat.le_of_ble_eq_true rfl) (Nat.le_of_ble_eq_true rfl) (Nat.le_of_ble_eq_true rfl) ⟨hb.1, hb.2⟩ wA_len wA_len wA_len wM_6 (fun he => ?_) (fun he => ?_)
  · refine EV.eq (st' := [vi 0]) (by show [vi (exK ((if sHas F (sc xs (i + 1)) then (if sHas F (sc xs (i + 2)) then none else some xIx) else some xIx)) xIx "" "")] = _; rw [exK_n he]) ?_
    refine f_istore (K := lK X) (n := 772) dL_law_770 rfl (Nat.le_of_ble_eq_true rfl) rfl ?_
    refine e_aload_n (K := lK X) (i := 2) (n := 773) dL_law_772 rfl rfl ?_
    refine lArg (k := 1) dL_law_773 dL_law_774 dL_law_776 dL_law_777 dL_law_778 hX hL rfl rfl (by omega) ?_
    refine lArg (k := 2) dL_law_779 dL_law_780 dL_law_782 dL_law_783 dL_law_784 hX hL rfl rfl (by omega) ?_
    refine e_lawQ (K := lK X) (n := 788) (M2 := sS M 0 (if sHas F (sc xs (i + 1)) ∧ sHas F (sc xs (i + 2)) then (0 : Int) else 1)) lk_L_183 rfl dL_law_785 rfl (C_X7_distance (M := M) hF hR g1 g2) rfl rfl (Nat.le_of_ble_eq_true rfl) (Nat.le_of_ble_eq_true rfl) (Nat.le_of_ble_eq_true rfl) ⟨rfl, rfl⟩ wA_len rfl rfl ?_
    refine EV.eq (st' := [vi (w32 (sDD F (sc xs (i + 1)) (sc xs (i + 2))))]) (by show [vi (if (if sHas F (sc xs (i + 1)) ∧ sHas F (sc xs (i + 2)) then (0 : Int) else 1) = 0 then sDD F (sc xs (i + 1)) (sc xs (i + 2)) else 0)] = _; rw [hV (hTE.trans (exK_n he))]; exact congrArg (fun v => [v]) w32_v) ?_
    refine f_istore (K := lK X) (n := 790) dL_law_788 rfl (Nat.le_of_ble_eq_true rfl) rfl ?_
    exact lTail (bb := bb) (i := i) (e := 0) (v := (w32 (sDD F (sc xs (i + 1)) (sc xs (i + 2))))) (off := 1811) dL_law_790 dL_law_791 dL_law_794 dL_law_796 dL_law_801 dL_law_803 dL_law_806 dL_law_807 dL_law_808 dL_law_809 dL_law_811 dL_law_812 dL_law_813 dL_law_818 (by decide) wA_len (by decide) (sS_0.trans (hTE.trans (exK_n he))) (fun _ => eU_self) w32_in (kk _ _ _ _ _ _ _ _ _ _ _ _ _ _ _ _ _ _ (SIM_up (SIM_eq hs0 mEq_0) (by omega) hN))
  · have hx3 := exK_in (e1 := xIx) (e2 := "") (e3 := "") he
    refine f_istore (K := lK X) (n := 772) dL_law_770 rfl (Nat.le_of_ble_eq_true rfl) rfl ?_
    refine e_aload_n (K := lK X) (i := 2) (n := 773) dL_law_772 rfl rfl ?_
    refine lArg (k := 1) dL_law_773 dL_law_774 dL_law_776 dL_law_777 dL_law_778 hX hL rfl rfl (by omega) ?_
    refine lArg (k := 2) dL_law_779 dL_law_780 dL_law_782 dL_law_783 dL_law_784 hX hL rfl rfl (by omega) ?_
    refine e_lawQ (K := lK X) (n := 788) (M2 := sS M 0 (if sHas F (sc xs (i + 1)) ∧ sHas F (sc xs (i + 2)) then (0 : Int) else 1)) lk_L_183 rfl dL_law_785 rfl (C_X7_distance (M := M) hF hR g1 g2) rfl rfl (Nat.le_of_ble_eq_true rfl) (Nat.le_of_ble_eq_true rfl) (Nat.le_of_ble_eq_true rfl) ⟨rfl, rfl⟩ wA_len rfl rfl ?_
    refine EV.eq (st' := [vi (w32 (if (if sHas F (sc xs (i + 1)) ∧ sHas F (sc xs (i + 2)) then (0 : Int) else 1) = 0 then sDD F (sc xs (i + 1)) (sc xs (i + 2)) else 0))]) (congrArg (fun v => [v]) w32_v) ?_
    refine f_istore (K := lK X) (n := 790) dL_law_788 rfl (Nat.le_of_ble_eq_true rfl) rfl ?_
    exact lTail (bb := bb) (i := i) (e := (exK ((if sHas F (sc xs (i + 1)) then (if sHas F (sc xs (i + 2)) then none else some xIx) else some xIx)) xIx "" "")) (v := (w32 (if (if sHas F (sc xs (i + 1)) ∧ sHas F (sc xs (i + 2)) then (0 : Int) else 1) = 0 then sDD F (sc xs (i + 1)) (sc xs (i + 2)) else 0))) (off := 1811) dL_law_790 dL_law_791 dL_law_794 dL_law_796 dL_law_801 dL_law_803 dL_law_806 dL_law_807 dL_law_808 dL_law_809 dL_law_811 dL_law_812 dL_law_813 dL_law_818 (by decide) wA_len (by omega) (Eq.trans sS_0 hTE) (fun q => by exfalso; omega) w32_in (kk _ _ _ _ _ _ _ _ _ _ _ _ _ _ _ _ _ _ (SIM_up (SIM_eq hs0 mEq_0) (by omega) hN))
set_option maxHeartbeats 1600000 in
theorem LC_nearestTo {X : eXT} {a : Nat → Nat} {b b' : Nat × Nat} {bb L : Nat} {xs : Nat → Int32} {i N : Int} {z : Nat → Int} {ln : Int → Int} {F : eFs} {P : Int → Int} {D : eFs} {DQ : Int → Int} {S : eFs} {SP : Int → Int} {c n : Int} {h : eHs} {g rc : Int → Int} {T : eFs} {Mt : Int → Int → Int} {M : eFs} {o : Int → Int} {od : Nat → UInt64} (hX : X.2 = some (bb, L, xs)) (hL : L ≤ 2147483647) (hi : 0 ≤ i ∧ i + 4 ≤ L) (hb : 2 + b'.1 ≤ b.1 ∧ 12 + b'.2 ≤ b.2) (hN : N + 2400 ≤ 90000000) (hs : SIM N z ln F S c n h g rc T Mt M) (kk : lG X a bb (N + 2400) i b') :
    EV (lK X) a b (wA a z ln F P D DQ S SP c n h g rc T Mt [] ++ (wM (fun k => a (131 + k)) M ++ [eJ 1 1 o, eDd 1 od])) 821 (lLs a bb i) [] := by
  have hs0 := hs
  obtain ⟨⟨hF, hC, hA, hR⟩, -, -, ⟨n1, n2, n3, n4, n5, n6, n7, n8, n9, n10⟩, ⟨l1, l2, l3⟩, ⟨hg, hr⟩, hT, hz, ⟨hw, hw4⟩, hN0⟩ := hs
  have hc9 := hF.1
  have g1 := sc_in (xs := xs) (z := i + 1)
  have hTE : (if ¬ sHas F (sc xs (i + 1)) then (1 : Int) else if F.1 0 < 2 then 2 else 0) = exK ((if sHas F (sc xs (i + 1)) then (if ¬ sNear F (sc xs (i + 1)) = -1 then none else some xNo) else some xIx)) xIx xNo "" := by
    rw [exK_i2 (by decide)]
    by_cases q : sHas F (sc xs (i + 1))
    · have w := near_iff hF q
      rw [if_pos q, if_neg (fun r => r q)]
      by_cases r : F.1 0 < 2
      · rw [if_pos r, if_neg (fun v => w.mp v r)]
      · rw [if_neg r, if_pos (w.mpr r)]
    · rw [if_neg q, if_pos q]
  have hV : (if ¬ sHas F (sc xs (i + 1)) then (1 : Int) else if F.1 0 < 2 then 2 else 0) = 0 → (if (if ¬ sHas F (sc xs (i + 1)) then (1 : Int) else if F.1 0 < 2 then 2 else 0) = 0 then sNear F (sc xs (i + 1)) else 0 : Int) = sNear F (sc xs (i + 1)) := fun q => if_pos q
  refine e_aload_n (K := lK X) (i := 1) (n := 822) dL_law_821 rfl rfl ?_
  refine lArg (k := 1) dL_law_822 dL_law_823 dL_law_825 dL_law_826 dL_law_827 hX hL rfl rfl (by omega) ?_
  refine e_aload_n (K := lK X) (i := 3) (n := 829) dL_law_828 rfl rfl ?_
  refine e_lawW (K := lK X) (b' := b') (n := 832) lk_L_184 (by decide) dL_law_829 rfl (W_nearestTo hF g1) rfl rfl (Nat.le_of_ble_eq_true rfl) (Nat.le_of_ble_eq_true rfl) (Nat.le_of_ble_eq_true rfl) ⟨hb.1, hb.2⟩ wA_len wA_len wA_len wM_6 (fun he => ?_) (fun he => ?_)
  · refine EV.eq (st' := [vi 0]) (by show [vi (exK ((if sHas F (sc xs (i + 1)) then (if ¬ sNear F (sc xs (i + 1)) = -1 then none else some xNo) else some xIx)) xIx xNo "")] = _; rw [exK_n he]) ?_
    refine f_istore (K := lK X) (n := 834) dL_law_832 rfl (Nat.le_of_ble_eq_true rfl) rfl ?_
    refine e_aload_n (K := lK X) (i := 2) (n := 835) dL_law_834 rfl rfl ?_
    refine lArg (k := 1) dL_law_835 dL_law_836 dL_law_838 dL_law_839 dL_law_840 hX hL rfl rfl (by omega) ?_
    refine e_lawQ (K := lK X) (n := 844) (M2 := sS M 0 (if ¬ sHas F (sc xs (i + 1)) then (1 : Int) else if F.1 0 < 2 then 2 else 0)) lk_L_186 rfl dL_law_841 rfl (C_X7_nearestTo (M := M) hF hR g1) rfl rfl (Nat.le_of_ble_eq_true rfl) (Nat.le_of_ble_eq_true rfl) (Nat.le_of_ble_eq_true rfl) ⟨rfl, rfl⟩ wA_len rfl rfl ?_
    refine EV.eq (st' := [vi (w32 (sNear F (sc xs (i + 1))))]) (by show [vi (if (if ¬ sHas F (sc xs (i + 1)) then (1 : Int) else if F.1 0 < 2 then 2 else 0) = 0 then sNear F (sc xs (i + 1)) else 0)] = _; rw [hV (hTE.trans (exK_n he))]; exact congrArg (fun v => [v]) w32_v) ?_
    refine f_istore (K := lK X) (n := 846) dL_law_844 rfl (Nat.le_of_ble_eq_true rfl) rfl ?_
    exact lTail (bb := bb) (i := i) (e := 0) (v := (w32 (sNear F (sc xs (i + 1))))) (off := 1755) dL_law_846 dL_law_847 dL_law_850 dL_law_852 dL_law_857 dL_law_859 dL_law_862 dL_law_863 dL_law_864 dL_law_865 dL_law_867 dL_law_868 dL_law_869 dL_law_874 (by decide) wA_len (by decide) (sS_0.trans (hTE.trans (exK_n he))) (fun _ => eU_self) w32_in (kk _ _ _ _ _ _ _ _ _ _ _ _ _ _ _ _ _ _ (SIM_up (SIM_eq hs0 mEq_0) (by omega) hN))
  · have hx3 := exK_in (e1 := xIx) (e2 := xNo) (e3 := "") he
    refine f_istore (K := lK X) (n := 834) dL_law_832 rfl (Nat.le_of_ble_eq_true rfl) rfl ?_
    refine e_aload_n (K := lK X) (i := 2) (n := 835) dL_law_834 rfl rfl ?_
    refine lArg (k := 1) dL_law_835 dL_law_836 dL_law_838 dL_law_839 dL_law_840 hX hL rfl rfl (by omega) ?_
    refine e_lawQ (K := lK X) (n := 844) (M2 := sS M 0 (if ¬ sHas F (sc xs (i + 1)) then (1 : Int) else if F.1 0 < 2 then 2 else 0)) lk_L_186 rfl dL_law_841 rfl (C_X7_nearestTo (M := M) hF hR g1) rfl rfl (Nat.le_of_ble_eq_true rfl) (Nat.le_of_ble_eq_true rfl) (Nat.le_of_ble_eq_true rfl) ⟨rfl, rfl⟩ wA_len rfl rfl ?_
    refine EV.eq (st' := [vi (w32 (if (if ¬ sHas F (sc xs (i + 1)) then (1 : Int) else if F.1 0 < 2 then 2 else 0) = 0 then sNear F (sc xs (i + 1)) else 0))]) (congrArg (fun v => [v]) w32_v) ?_
    refine f_istore (K := lK X) (n := 846) dL_law_844 rfl (Nat.le_of_ble_eq_true rfl) rfl ?_
    exact lTail (bb := bb) (i := i) (e := (exK ((if sHas F (sc xs (i + 1)) then (if ¬ sNear F (sc xs (i + 1)) = -1 then none else some xNo) else some xIx)) xIx xNo "")) (v := (w32 (if (if ¬ sHas F (sc xs (i + 1)) then (1 : Int) else if F.1 0 < 2 then 2 else 0) = 0 then sNear F (sc xs (i + 1)) else 0))) (off := 1755) dL_law_846 dL_law_847 dL_law_850 dL_law_852 dL_law_857 dL_law_859 dL_law_862 dL_law_863 dL_law_864 dL_law_865 dL_law_867 dL_law_868 dL_law_869 dL_law_874 (by decide) wA_len (by omega) (Eq.trans sS_0 hTE) (fun q => by exfalso; omega) w32_in (kk _ _ _ _ _ _ _ _ _ _ _ _ _ _ _ _ _ _ (SIM_up (SIM_eq hs0 mEq_0) (by omega) hN))
set_option maxHeartbeats 1600000 in
theorem LC_refusalReason {X : eXT} {a : Nat → Nat} {b b' : Nat × Nat} {bb L : Nat} {xs : Nat → Int32} {i N : Int} {z : Nat → Int} {ln : Int → Int} {F : eFs} {P : Int → Int} {D : eFs} {DQ : Int → Int} {S : eFs} {SP : Int → Int} {c n : Int} {h : eHs} {g rc : Int → Int} {T : eFs} {Mt : Int → Int → Int} {M : eFs} {o : Int → Int} {od : Nat → UInt64} (hX : X.2 = some (bb, L, xs)) (hL : L ≤ 2147483647) (hi : 0 ≤ i ∧ i + 4 ≤ L) (hb : 2 + b'.1 ≤ b.1 ∧ 12 + b'.2 ≤ b.2) (hN : N + 2400 ≤ 90000000) (hs : SIM N z ln F S c n h g rc T Mt M) (kk : lG X a bb (N + 2400) i b') :
    EV (lK X) a b (wA a z ln F P D DQ S SP c n h g rc T Mt [] ++ (wM (fun k => a (131 + k)) M ++ [eJ 1 1 o, eDd 1 od])) 877 (lLs a bb i) [] := by
  have hs0 := hs
  obtain ⟨⟨hF, hC, hA, hR⟩, -, -, ⟨n1, n2, n3, n4, n5, n6, n7, n8, n9, n10⟩, ⟨l1, l2, l3⟩, ⟨hg, hr⟩, hT, hz, ⟨hw, hw4⟩, hN0⟩ := hs
  have hc9 := hF.1
  have hTE : (if ¬ M.1 4 = 0 then (0 : Int) else 1) = exK ((if ¬ z 2 = -1 then none else some xNo)) xNo "" "" := by
    rw [exK_i1]
    rcases hw with ⟨w1, w2⟩ | ⟨w1, w2, w3⟩
    · rw [if_neg (by omega), if_neg (by omega)]
    · rw [if_pos (by omega), if_pos (by omega)]
  have hV : (if ¬ M.1 4 = 0 then (0 : Int) else 1) = 0 → (if (if ¬ M.1 4 = 0 then (0 : Int) else 1) = 0 then M.1 4 else 0 : Int) = z 2 := fun q => by
    rw [if_pos q]
    have q1 : ¬ M.1 4 = 0 := fun w => absurd (q.symm.trans (if_neg (fun r => r w))) (by decide)
    rcases hw with ⟨w1, w2⟩ | ⟨w1, w2, w3⟩
    · exact absurd w2 q1
    · exact w2.symm
  refine e_aload_n (K := lK X) (i := 1) (n := 878) dL_law_877 rfl rfl ?_
  refine e_aload_n (K := lK X) (i := 3) (n := 879) dL_law_878 rfl rfl ?_
  refine e_lawW (K := lK X) (b' := b') (n := 882) lk_L_187 (by decide) dL_law_879 rfl (W_refusalReason hF hz) rfl rfl (Nat.le_of_ble_eq_true rfl) (Nat.le_of_ble_eq_true rfl) (Nat.le_of_ble_eq_true rfl) ⟨hb.1, hb.2⟩ wA_len wA_len wA_len wM_6 (fun he => ?_) (fun he => ?_)
  · refine EV.eq (st' := [vi 0]) (by show [vi (exK ((if ¬ z 2 = -1 then none else some xNo)) xNo "" "")] = _; rw [exK_n he]) ?_
    refine f_istore (K := lK X) (n := 884) dL_law_882 rfl (Nat.le_of_ble_eq_true rfl) rfl ?_
    refine e_aload_n (K := lK X) (i := 2) (n := 885) dL_law_884 rfl rfl ?_
    refine e_lawQ (K := lK X) (n := 888) (M2 := sS M 0 (if ¬ M.1 4 = 0 then (0 : Int) else 1)) lk_L_190 rfl dL_law_885 rfl (C_X7_refusalReason (M := M) hw4) rfl rfl (Nat.le_of_ble_eq_true rfl) (Nat.le_of_ble_eq_true rfl) (Nat.le_of_ble_eq_true rfl) ⟨rfl, rfl⟩ wA_len rfl rfl ?_
    refine EV.eq (st' := [vi (w32 (z 2))]) (by show [vi (if (if ¬ M.1 4 = 0 then (0 : Int) else 1) = 0 then M.1 4 else 0)] = _; rw [hV (hTE.trans (exK_n he))]; exact congrArg (fun v => [v]) w32_v) ?_
    refine f_istore (K := lK X) (n := 890) dL_law_888 rfl (Nat.le_of_ble_eq_true rfl) rfl ?_
    exact lTail (bb := bb) (i := i) (e := 0) (v := (w32 (z 2))) (off := 1711) dL_law_890 dL_law_891 dL_law_894 dL_law_896 dL_law_901 dL_law_903 dL_law_906 dL_law_907 dL_law_908 dL_law_909 dL_law_911 dL_law_912 dL_law_913 dL_law_918 (by decide) wA_len (by decide) (sS_0.trans (hTE.trans (exK_n he))) (fun _ => eU_self) w32_in (kk _ _ _ _ _ _ _ _ _ _ _ _ _ _ _ _ _ _ (SIM_up (SIM_eq hs0 mEq_0) (by omega) hN))
  · have hx3 := exK_in (e1 := xNo) (e2 := "") (e3 := "") he
    refine f_istore (K := lK X) (n := 884) dL_law_882 rfl (Nat.le_of_ble_eq_true rfl) rfl ?_
    refine e_aload_n (K := lK X) (i := 2) (n := 885) dL_law_884 rfl rfl ?_
    refine e_lawQ (K := lK X) (n := 888) (M2 := sS M 0 (if ¬ M.1 4 = 0 then (0 : Int) else 1)) lk_L_190 rfl dL_law_885 rfl (C_X7_refusalReason (M := M) hw4) rfl rfl (Nat.le_of_ble_eq_true rfl) (Nat.le_of_ble_eq_true rfl) (Nat.le_of_ble_eq_true rfl) ⟨rfl, rfl⟩ wA_len rfl rfl ?_
    refine EV.eq (st' := [vi (w32 (if (if ¬ M.1 4 = 0 then (0 : Int) else 1) = 0 then M.1 4 else 0))]) (congrArg (fun v => [v]) w32_v) ?_
    refine f_istore (K := lK X) (n := 890) dL_law_888 rfl (Nat.le_of_ble_eq_true rfl) rfl ?_
    exact lTail (bb := bb) (i := i) (e := (exK ((if ¬ z 2 = -1 then none else some xNo)) xNo "" "")) (v := (w32 (if (if ¬ M.1 4 = 0 then (0 : Int) else 1) = 0 then M.1 4 else 0))) (off := 1711) dL_law_890 dL_law_891 dL_law_894 dL_law_896 dL_law_901 dL_law_903 dL_law_906 dL_law_907 dL_law_908 dL_law_909 dL_law_911 dL_law_912 dL_law_913 dL_law_918 (by decide) wA_len (by omega) (Eq.trans sS_0 hTE) (fun q => by exfalso; omega) w32_in (kk _ _ _ _ _ _ _ _ _ _ _ _ _ _ _ _ _ _ (SIM_up (SIM_eq hs0 mEq_0) (by omega) hN))
set_option maxHeartbeats 1600000 in
theorem LC_refusalDetail {X : eXT} {a : Nat → Nat} {b b' : Nat × Nat} {bb L : Nat} {xs : Nat → Int32} {i N : Int} {z : Nat → Int} {ln : Int → Int} {F : eFs} {P : Int → Int} {D : eFs} {DQ : Int → Int} {S : eFs} {SP : Int → Int} {c n : Int} {h : eHs} {g rc : Int → Int} {T : eFs} {Mt : Int → Int → Int} {M : eFs} {o : Int → Int} {od : Nat → UInt64} (hX : X.2 = some (bb, L, xs)) (hL : L ≤ 2147483647) (hi : 0 ≤ i ∧ i + 4 ≤ L) (hb : 2 + b'.1 ≤ b.1 ∧ 12 + b'.2 ≤ b.2) (hN : N + 2400 ≤ 90000000) (hs : SIM N z ln F S c n h g rc T Mt M) (kk : lG X a bb (N + 2400) i b') :
    EV (lK X) a b (wA a z ln F P D DQ S SP c n h g rc T Mt [] ++ (wM (fun k => a (131 + k)) M ++ [eJ 1 1 o, eDd 1 od])) 921 (lLs a bb i) [] := by
  have hs0 := hs
  obtain ⟨⟨hF, hC, hA, hR⟩, -, -, ⟨n1, n2, n3, n4, n5, n6, n7, n8, n9, n10⟩, ⟨l1, l2, l3⟩, ⟨hg, hr⟩, hT, hz, ⟨hw, hw4⟩, hN0⟩ := hs
  have hc9 := hF.1
  have hTE : (if ¬ M.1 4 = 0 then (0 : Int) else 1) = exK ((if ¬ z 2 = -1 then none else some xNo)) xNo "" "" := by
    rw [exK_i1]
    rcases hw with ⟨w1, w2⟩ | ⟨w1, w2, w3⟩
    · rw [if_neg (by omega), if_neg (by omega)]
    · rw [if_pos (by omega), if_pos (by omega)]
  have hV : (if ¬ M.1 4 = 0 then (0 : Int) else 1) = 0 → (if (if ¬ M.1 4 = 0 then (0 : Int) else 1) = 0 then M.1 5 else 0 : Int) = z 3 := fun q => by
    rw [if_pos q]
    have q1 : ¬ M.1 4 = 0 := fun w => absurd (q.symm.trans (if_neg (fun r => r w))) (by decide)
    rcases hw with ⟨w1, w2⟩ | ⟨w1, w2, w3⟩
    · exact absurd w2 q1
    · exact w3.symm
  refine e_aload_n (K := lK X) (i := 1) (n := 922) dL_law_921 rfl rfl ?_
  refine e_aload_n (K := lK X) (i := 3) (n := 923) dL_law_922 rfl rfl ?_
  refine e_lawW (K := lK X) (b' := b') (n := 926) lk_L_191 (by decide) dL_law_923 rfl (W_refusalDetail hF hz) rfl rfl (Nat.le_of_ble_eq_true rfl) (Nat.le_of_ble_eq_true rfl) (Nat.le_of_ble_eq_true rfl) ⟨hb.1, hb.2⟩ wA_len wA_len wA_len wM_6 (fun he => ?_) (fun he => ?_)
  · refine EV.eq (st' := [vi 0]) (by show [vi (exK ((if ¬ z 2 = -1 then none else some xNo)) xNo "" "")] = _; rw [exK_n he]) ?_
    refine f_istore (K := lK X) (n := 928) dL_law_926 rfl (Nat.le_of_ble_eq_true rfl) rfl ?_
    refine e_aload_n (K := lK X) (i := 2) (n := 929) dL_law_928 rfl rfl ?_
    refine e_lawQ (K := lK X) (n := 932) (M2 := sS M 0 (if ¬ M.1 4 = 0 then (0 : Int) else 1)) lk_L_193 rfl dL_law_929 rfl (C_X7_refusalDetail (M := M) hw4) rfl rfl (Nat.le_of_ble_eq_true rfl) (Nat.le_of_ble_eq_true rfl) (Nat.le_of_ble_eq_true rfl) ⟨rfl, rfl⟩ wA_len rfl rfl ?_
    refine EV.eq (st' := [vi (w32 (z 3))]) (by show [vi (if (if ¬ M.1 4 = 0 then (0 : Int) else 1) = 0 then M.1 5 else 0)] = _; rw [hV (hTE.trans (exK_n he))]; exact congrArg (fun v => [v]) w32_v) ?_
    refine f_istore (K := lK X) (n := 934) dL_law_932 rfl (Nat.le_of_ble_eq_true rfl) rfl ?_
    exact lTail (bb := bb) (i := i) (e := 0) (v := (w32 (z 3))) (off := 1667) dL_law_934 dL_law_935 dL_law_938 dL_law_940 dL_law_945 dL_law_947 dL_law_950 dL_law_951 dL_law_952 dL_law_953 dL_law_955 dL_law_956 dL_law_957 dL_law_962 (by decide) wA_len (by decide) (sS_0.trans (hTE.trans (exK_n he))) (fun _ => eU_self) w32_in (kk _ _ _ _ _ _ _ _ _ _ _ _ _ _ _ _ _ _ (SIM_up (SIM_eq hs0 mEq_0) (by omega) hN))
  · have hx3 := exK_in (e1 := xNo) (e2 := "") (e3 := "") he
    refine f_istore (K := lK X) (n := 928) dL_law_926 rfl (Nat.le_of_ble_eq_true rfl) rfl ?_
    refine e_aload_n (K := lK X) (i := 2) (n := 929) dL_law_928 rfl rfl ?_
    refine e_lawQ (K := lK X) (n := 932) (M2 := sS M 0 (if ¬ M.1 4 = 0 then (0 : Int) else 1)) lk_L_193 rfl dL_law_929 rfl (C_X7_refusalDetail (M := M) hw4) rfl rfl (Nat.le_of_ble_eq_true rfl) (Nat.le_of_ble_eq_true rfl) (Nat.le_of_ble_eq_true rfl) ⟨rfl, rfl⟩ wA_len rfl rfl ?_
    refine EV.eq (st' := [vi (w32 (if (if ¬ M.1 4 = 0 then (0 : Int) else 1) = 0 then M.1 5 else 0))]) (congrArg (fun v => [v]) w32_v) ?_
    refine f_istore (K := lK X) (n := 934) dL_law_932 rfl (Nat.le_of_ble_eq_true rfl) rfl ?_
    exact lTail (bb := bb) (i := i) (e := (exK ((if ¬ z 2 = -1 then none else some xNo)) xNo "" "")) (v := (w32 (if (if ¬ M.1 4 = 0 then (0 : Int) else 1) = 0 then M.1 5 else 0))) (off := 1667) dL_law_934 dL_law_935 dL_law_938 dL_law_940 dL_law_945 dL_law_947 dL_law_950 dL_law_951 dL_law_952 dL_law_953 dL_law_955 dL_law_956 dL_law_957 dL_law_962 (by decide) wA_len (by omega) (Eq.trans sS_0 hTE) (fun q => by exfalso; omega) w32_in (kk _ _ _ _ _ _ _ _ _ _ _ _ _ _ _ _ _ _ (SIM_up (SIM_eq hs0 mEq_0) (by omega) hN))
set_option maxHeartbeats 1600000 in
theorem LC_addCloud {X : eXT} {a : Nat → Nat} {b b' : Nat × Nat} {bb L : Nat} {xs : Nat → Int32} {i N : Int} {z : Nat → Int} {ln : Int → Int} {F : eFs} {P : Int → Int} {D : eFs} {DQ : Int → Int} {S : eFs} {SP : Int → Int} {c n : Int} {h : eHs} {g rc : Int → Int} {T : eFs} {Mt : Int → Int → Int} {M : eFs} {o : Int → Int} {od : Nat → UInt64} (hX : X.2 = some (bb, L, xs)) (hL : L ≤ 2147483647) (hi : 0 ≤ i ∧ i + 4 ≤ L) (hb : 2 + b'.1 ≤ b.1 ∧ 12 + b'.2 ≤ b.2) (hN : N + 2400 ≤ 90000000) (hs : SIM N z ln F S c n h g rc T Mt M) (kk : lG X a bb (N + 2400) i b') :
    EV (lK X) a b (wA a z ln F P D DQ S SP c n h g rc T Mt [] ++ (wM (fun k => a (131 + k)) M ++ [eJ 1 1 o, eDd 1 od])) 965 (lLs a bb i) [] := by
  have hs0 := hs
  obtain ⟨⟨hF, hC, hA, hR⟩, -, -, ⟨n1, n2, n3, n4, n5, n6, n7, n8, n9, n10⟩, ⟨l1, l2, l3⟩, ⟨hg, hr⟩, hT, hz, ⟨hw, hw4⟩, hN0⟩ := hs
  have hc9 := hF.1
  have g1 := sc_in (xs := xs) (z := i + 1)
  have g2 := sc_in (xs := xs) (z := i + 2)
  have hTE : mTh (mHC (sHin F 3 (sc xs (i + 1)) (sc xs (i + 2)) 0)) 0 1 2 3 0 = exK (eEx (sHin F 3 (sc xs (i + 1)) (sc xs (i + 2)) 0)) xAr xSt xUn := by
    rcases hk_3 (F := F) (p := (sc xs (i + 1))) (q := (sc xs (i + 2))) (r := 0) with w | w | w | w
      · rw [w]; show (0 : Int) = exK none _ _ _; rfl
      · rw [w]; show (1 : Int) = exK (some xAr) _ _ _; exact exK_s1.symm
      · rw [w]; show (2 : Int) = exK (some xSt) _ _ _; exact exK_s2 (by decide).symm
      · rw [w]; show (3 : Int) = exK (some xUn) _ _ _; exact exK_s3 (by decide) (by decide).symm
  have hV : mTh (mHC (sHin F 3 (sc xs (i + 1)) (sc xs (i + 2)) 0)) 0 1 2 3 0 = 0 → (if mTh (mHC (sHin F 3 (sc xs (i + 1)) (sc xs (i + 2)) 0)) 0 1 2 3 0 = 0 then sDoR F 3 (sc xs (i + 1)) (sc xs (i + 2)) 0 else 0 : Int) = sDoR F 3 (sc xs (i + 1)) (sc xs (i + 2)) 0 := fun q => if_pos q
  have e0 : eEx (sHin F 3 (sc xs (i + 1)) (sc xs (i + 2)) 0) = none ↔ (sHin F 3 (sc xs (i + 1)) (sc xs (i + 2)) 0) = 0 := by
    rcases hk_3 (F := F) (p := (sc xs (i + 1))) (q := (sc xs (i + 2))) (r := 0) with w | w | w | w <;> rw [w] <;> decide
  refine e_aload_n (K := lK X) (i := 1) (n := 966) dL_law_965 rfl rfl ?_
  refine lArg (k := 1) dL_law_966 dL_law_967 dL_law_969 dL_law_970 dL_law_971 hX hL rfl rfl (by omega) ?_
  refine lArg (k := 2) dL_law_972 dL_law_973 dL_law_975 dL_law_976 dL_law_977 hX hL rfl rfl (by omega) ?_
  refine e_aload_n (K := lK X) (i := 3) (n := 979) dL_law_978 rfl rfl ?_
  refine e_lawW (K := lK X) (b' := b') (n := 982) lk_L_194 (by decide) dL_law_979 rfl (W_addCloud hF n1 n2 g1 g2) rfl rfl (Nat.le_of_ble_eq_true rfl) (Nat.le_of_ble_eq_true rfl) (Nat.le_of_ble_eq_true rfl) ⟨hb.1, hb.2⟩ wA_len wA_len wA_len wM_6 (fun he => ?_) (fun he => ?_)
  · refine EV.eq (st' := [vi 0]) (by show [vi (exK (eEx (sHin F 3 (sc xs (i + 1)) (sc xs (i + 2)) 0)) xAr xSt xUn)] = _; rw [exK_n he]) ?_
    refine f_istore (K := lK X) (n := 984) dL_law_982 rfl (Nat.le_of_ble_eq_true rfl) rfl ?_
    refine e_aload_n (K := lK X) (i := 2) (n := 985) dL_law_984 rfl rfl ?_
    refine lArg (k := 1) dL_law_985 dL_law_986 dL_law_988 dL_law_989 dL_law_990 hX hL rfl rfl (by omega) ?_
    refine lArg (k := 2) dL_law_991 dL_law_992 dL_law_994 dL_law_995 dL_law_996 hX hL rfl rfl (by omega) ?_
    refine e_lawP (K := lK X) (n := 1000) (Pr := fun M2 => mPo M M2 F 3 (sc xs (i + 1)) (sc xs (i + 2)) 0 (mTh (mHC (sHin F 3 (sc xs (i + 1)) (sc xs (i + 2)) 0)) 0 1 2 3 0)) lk_L_196 rfl dL_law_997 rfl (C_X7_addCloud (M := M) hF hR (by omega) (by omega) g1 g2) (fun _ q => q) rfl rfl (Nat.le_of_ble_eq_true rfl) (Nat.le_of_ble_eq_true rfl) (Nat.le_of_ble_eq_true rfl) ⟨rfl, rfl⟩ wA_len rfl rfl (fun M2 m => ?_)
    refine EV.eq (st' := [vi (w32 (sDoR F 3 (sc xs (i + 1)) (sc xs (i + 2)) 0))]) (by show [vi (if mTh (mHC (sHin F 3 (sc xs (i + 1)) (sc xs (i + 2)) 0)) 0 1 2 3 0 = 0 then sDoR F 3 (sc xs (i + 1)) (sc xs (i + 2)) 0 else 0)] = _; rw [hV (hTE.trans (exK_n he))]; exact congrArg (fun v => [v]) w32_v) ?_
    refine f_istore (K := lK X) (n := 1002) dL_law_1000 rfl (Nat.le_of_ble_eq_true rfl) rfl ?_
    exact lTail (bb := bb) (i := i) (e := 0) (v := (w32 (sDoR F 3 (sc xs (i + 1)) (sc xs (i + 2)) 0))) (off := 1599) dL_law_1002 dL_law_1003 dL_law_1006 dL_law_1008 dL_law_1013 dL_law_1015 dL_law_1018 dL_law_1019 dL_law_1020 dL_law_1021 dL_law_1023 dL_law_1024 dL_law_1025 dL_law_1030 (by decide) wA_len (by decide) (m.1.trans (hTE.trans (exK_n he))) (fun _ => eU_self) w32_in (kk _ _ _ _ _ _ _ _ _ _ _ _ _ _ _ _ _ _ (SIM_up ((SIM_chg (by decide) hs0 (by omega) m).1 (e0.mp he)) (by omega) hN))
  · have hx3 := exK_in (e1 := xAr) (e2 := xSt) (e3 := xUn) he
    refine f_istore (K := lK X) (n := 984) dL_law_982 rfl (Nat.le_of_ble_eq_true rfl) rfl ?_
    refine e_aload_n (K := lK X) (i := 2) (n := 985) dL_law_984 rfl rfl ?_
    refine lArg (k := 1) dL_law_985 dL_law_986 dL_law_988 dL_law_989 dL_law_990 hX hL rfl rfl (by omega) ?_
    refine lArg (k := 2) dL_law_991 dL_law_992 dL_law_994 dL_law_995 dL_law_996 hX hL rfl rfl (by omega) ?_
    refine e_lawP (K := lK X) (n := 1000) (Pr := fun M2 => mPo M M2 F 3 (sc xs (i + 1)) (sc xs (i + 2)) 0 (mTh (mHC (sHin F 3 (sc xs (i + 1)) (sc xs (i + 2)) 0)) 0 1 2 3 0)) lk_L_196 rfl dL_law_997 rfl (C_X7_addCloud (M := M) hF hR (by omega) (by omega) g1 g2) (fun _ q => q) rfl rfl (Nat.le_of_ble_eq_true rfl) (Nat.le_of_ble_eq_true rfl) (Nat.le_of_ble_eq_true rfl) ⟨rfl, rfl⟩ wA_len rfl rfl (fun M2 m => ?_)
    refine EV.eq (st' := [vi (w32 (if mTh (mHC (sHin F 3 (sc xs (i + 1)) (sc xs (i + 2)) 0)) 0 1 2 3 0 = 0 then sDoR F 3 (sc xs (i + 1)) (sc xs (i + 2)) 0 else 0))]) (congrArg (fun v => [v]) w32_v) ?_
    refine f_istore (K := lK X) (n := 1002) dL_law_1000 rfl (Nat.le_of_ble_eq_true rfl) rfl ?_
    exact lTail (bb := bb) (i := i) (e := (exK (eEx (sHin F 3 (sc xs (i + 1)) (sc xs (i + 2)) 0)) xAr xSt xUn)) (v := (w32 (if mTh (mHC (sHin F 3 (sc xs (i + 1)) (sc xs (i + 2)) 0)) 0 1 2 3 0 = 0 then sDoR F 3 (sc xs (i + 1)) (sc xs (i + 2)) 0 else 0))) (off := 1599) dL_law_1002 dL_law_1003 dL_law_1006 dL_law_1008 dL_law_1013 dL_law_1015 dL_law_1018 dL_law_1019 dL_law_1020 dL_law_1021 dL_law_1023 dL_law_1024 dL_law_1025 dL_law_1030 (by decide) wA_len (by omega) (Eq.trans m.1 hTE) (fun q => by exfalso; omega) w32_in (kk _ _ _ _ _ _ _ _ _ _ _ _ _ _ _ _ _ _ (SIM_up ((SIM_chg (by decide) hs0 (by omega) m).2 (fun q => he (e0.mpr q))) (by omega) hN))
set_option maxHeartbeats 1600000 in
theorem LC_removeCloud {X : eXT} {a : Nat → Nat} {b b' : Nat × Nat} {bb L : Nat} {xs : Nat → Int32} {i N : Int} {z : Nat → Int} {ln : Int → Int} {F : eFs} {P : Int → Int} {D : eFs} {DQ : Int → Int} {S : eFs} {SP : Int → Int} {c n : Int} {h : eHs} {g rc : Int → Int} {T : eFs} {Mt : Int → Int → Int} {M : eFs} {o : Int → Int} {od : Nat → UInt64} (hX : X.2 = some (bb, L, xs)) (hL : L ≤ 2147483647) (hi : 0 ≤ i ∧ i + 4 ≤ L) (hb : 2 + b'.1 ≤ b.1 ∧ 12 + b'.2 ≤ b.2) (hN : N + 2400 ≤ 90000000) (hs : SIM N z ln F S c n h g rc T Mt M) (kk : lG X a bb (N + 2400) i b') :
    EV (lK X) a b (wA a z ln F P D DQ S SP c n h g rc T Mt [] ++ (wM (fun k => a (131 + k)) M ++ [eJ 1 1 o, eDd 1 od])) 1033 (lLs a bb i) [] := by
  have hs0 := hs
  obtain ⟨⟨hF, hC, hA, hR⟩, -, -, ⟨n1, n2, n3, n4, n5, n6, n7, n8, n9, n10⟩, ⟨l1, l2, l3⟩, ⟨hg, hr⟩, hT, hz, ⟨hw, hw4⟩, hN0⟩ := hs
  have hc9 := hF.1
  have g1 := sc_in (xs := xs) (z := i + 1)
  have g2 := sc_in (xs := xs) (z := i + 2)
  have hTE : mTh (mHC (sHin F 4 (sc xs (i + 1)) (sc xs (i + 2)) 0)) 0 1 0 0 2 = exK (eEx (sHin F 4 (sc xs (i + 1)) (sc xs (i + 2)) 0)) xAr xNo "" := by
    rcases hk_4 (F := F) (p := (sc xs (i + 1))) (q := (sc xs (i + 2))) (r := 0) with w | w | w
      · rw [w]; show (0 : Int) = exK none _ _ _; rfl
      · rw [w]; show (1 : Int) = exK (some xAr) _ _ _; exact exK_s1.symm
      · rw [w]; show (2 : Int) = exK (some xNo) _ _ _; exact exK_s2 (by decide).symm
  have hV : mTh (mHC (sHin F 4 (sc xs (i + 1)) (sc xs (i + 2)) 0)) 0 1 0 0 2 = 0 → (if mTh (mHC (sHin F 4 (sc xs (i + 1)) (sc xs (i + 2)) 0)) 0 1 0 0 2 = 0 then sDoR F 4 (sc xs (i + 1)) (sc xs (i + 2)) 0 else 0 : Int) = sDoR F 4 (sc xs (i + 1)) (sc xs (i + 2)) 0 := fun q => if_pos q
  have e0 : eEx (sHin F 4 (sc xs (i + 1)) (sc xs (i + 2)) 0) = none ↔ (sHin F 4 (sc xs (i + 1)) (sc xs (i + 2)) 0) = 0 := by
    rcases hk_4 (F := F) (p := (sc xs (i + 1))) (q := (sc xs (i + 2))) (r := 0) with w | w | w <;> rw [w] <;> decide
  refine e_aload_n (K := lK X) (i := 1) (n := 1034) dL_law_1033 rfl rfl ?_
  refine lArg (k := 1) dL_law_1034 dL_law_1035 dL_law_1037 dL_law_1038 dL_law_1039 hX hL rfl rfl (by omega) ?_
  refine lArg (k := 2) dL_law_1040 dL_law_1041 dL_law_1043 dL_law_1044 dL_law_1045 hX hL rfl rfl (by omega) ?_
  refine e_aload_n (K := lK X) (i := 3) (n := 1047) dL_law_1046 rfl rfl ?_
  refine e_lawW (K := lK X) (b' := b') (n := 1050) lk_L_197 (by decide) dL_law_1047 rfl (W_removeCloud hF n1 n2 g1 g2) rfl rfl (Nat.le_of_ble_eq_true rfl) (Nat.le_of_ble_eq_true rfl) (Nat.le_of_ble_eq_true rfl) ⟨hb.1, hb.2⟩ wA_len wA_len wA_len wM_6 (fun he => ?_) (fun he => ?_)
  · refine EV.eq (st' := [vi 0]) (by show [vi (exK (eEx (sHin F 4 (sc xs (i + 1)) (sc xs (i + 2)) 0)) xAr xNo "")] = _; rw [exK_n he]) ?_
    refine f_istore (K := lK X) (n := 1052) dL_law_1050 rfl (Nat.le_of_ble_eq_true rfl) rfl ?_
    refine e_aload_n (K := lK X) (i := 2) (n := 1053) dL_law_1052 rfl rfl ?_
    refine lArg (k := 1) dL_law_1053 dL_law_1054 dL_law_1056 dL_law_1057 dL_law_1058 hX hL rfl rfl (by omega) ?_
    refine lArg (k := 2) dL_law_1059 dL_law_1060 dL_law_1062 dL_law_1063 dL_law_1064 hX hL rfl rfl (by omega) ?_
    refine e_lawP (K := lK X) (n := 1068) (Pr := fun M2 => mPo M M2 F 4 (sc xs (i + 1)) (sc xs (i + 2)) 0 (mTh (mHC (sHin F 4 (sc xs (i + 1)) (sc xs (i + 2)) 0)) 0 1 0 0 2)) lk_L_199 rfl dL_law_1065 rfl (C_X7_removeCloud (M := M) hF hR (by omega) (by omega) g1 g2) (fun _ q => q) rfl rfl (Nat.le_of_ble_eq_true rfl) (Nat.le_of_ble_eq_true rfl) (Nat.le_of_ble_eq_true rfl) ⟨rfl, rfl⟩ wA_len rfl rfl (fun M2 m => ?_)
    refine EV.eq (st' := [vi (w32 (sDoR F 4 (sc xs (i + 1)) (sc xs (i + 2)) 0))]) (by show [vi (if mTh (mHC (sHin F 4 (sc xs (i + 1)) (sc xs (i + 2)) 0)) 0 1 0 0 2 = 0 then sDoR F 4 (sc xs (i + 1)) (sc xs (i + 2)) 0 else 0)] = _; rw [hV (hTE.trans (exK_n he))]; exact congrArg (fun v => [v]) w32_v) ?_
    refine f_istore (K := lK X) (n := 1070) dL_law_1068 rfl (Nat.le_of_ble_eq_true rfl) rfl ?_
    exact lTail (bb := bb) (i := i) (e := 0) (v := (w32 (sDoR F 4 (sc xs (i + 1)) (sc xs (i + 2)) 0))) (off := 1531) dL_law_1070 dL_law_1071 dL_law_1074 dL_law_1076 dL_law_1081 dL_law_1083 dL_law_1086 dL_law_1087 dL_law_1088 dL_law_1089 dL_law_1091 dL_law_1092 dL_law_1093 dL_law_1098 (by decide) wA_len (by decide) (m.1.trans (hTE.trans (exK_n he))) (fun _ => eU_self) w32_in (kk _ _ _ _ _ _ _ _ _ _ _ _ _ _ _ _ _ _ (SIM_up ((SIM_chg (by decide) hs0 (by omega) m).1 (e0.mp he)) (by omega) hN))
  · have hx3 := exK_in (e1 := xAr) (e2 := xNo) (e3 := "") he
    refine f_istore (K := lK X) (n := 1052) dL_law_1050 rfl (Nat.le_of_ble_eq_true rfl) rfl ?_
    refine e_aload_n (K := lK X) (i := 2) (n := 1053) dL_law_1052 rfl rfl ?_
    refine lArg (k := 1) dL_law_1053 dL_law_1054 dL_law_1056 dL_law_1057 dL_law_1058 hX hL rfl rfl (by omega) ?_
    refine lArg (k := 2) dL_law_1059 dL_law_1060 dL_law_1062 dL_law_1063 dL_law_1064 hX hL rfl rfl (by omega) ?_
    refine e_lawP (K := lK X) (n := 1068) (Pr := fun M2 => mPo M M2 F 4 (sc xs (i + 1)) (sc xs (i + 2)) 0 (mTh (mHC (sHin F 4 (sc xs (i + 1)) (sc xs (i + 2)) 0)) 0 1 0 0 2)) lk_L_199 rfl dL_law_1065 rfl (C_X7_removeCloud (M := M) hF hR (by omega) (by omega) g1 g2) (fun _ q => q) rfl rfl (Nat.le_of_ble_eq_true rfl) (Nat.le_of_ble_eq_true rfl) (Nat.le_of_ble_eq_true rfl) ⟨rfl, rfl⟩ wA_len rfl rfl (fun M2 m => ?_)
    refine EV.eq (st' := [vi (w32 (if mTh (mHC (sHin F 4 (sc xs (i + 1)) (sc xs (i + 2)) 0)) 0 1 0 0 2 = 0 then sDoR F 4 (sc xs (i + 1)) (sc xs (i + 2)) 0 else 0))]) (congrArg (fun v => [v]) w32_v) ?_
    refine f_istore (K := lK X) (n := 1070) dL_law_1068 rfl (Nat.le_of_ble_eq_true rfl) rfl ?_
    exact lTail (bb := bb) (i := i) (e := (exK (eEx (sHin F 4 (sc xs (i + 1)) (sc xs (i + 2)) 0)) xAr xNo "")) (v := (w32 (if mTh (mHC (sHin F 4 (sc xs (i + 1)) (sc xs (i + 2)) 0)) 0 1 0 0 2 = 0 then sDoR F 4 (sc xs (i + 1)) (sc xs (i + 2)) 0 else 0))) (off := 1531) dL_law_1070 dL_law_1071 dL_law_1074 dL_law_1076 dL_law_1081 dL_law_1083 dL_law_1086 dL_law_1087 dL_law_1088 dL_law_1089 dL_law_1091 dL_law_1092 dL_law_1093 dL_law_1098 (by decide) wA_len (by omega) (Eq.trans m.1 hTE) (fun q => by exfalso; omega) w32_in (kk _ _ _ _ _ _ _ _ _ _ _ _ _ _ _ _ _ _ (SIM_up ((SIM_chg (by decide) hs0 (by omega) m).2 (fun q => he (e0.mpr q))) (by omega) hN))
set_option maxHeartbeats 1600000 in
theorem LC_isCloud {X : eXT} {a : Nat → Nat} {b b' : Nat × Nat} {bb L : Nat} {xs : Nat → Int32} {i N : Int} {z : Nat → Int} {ln : Int → Int} {F : eFs} {P : Int → Int} {D : eFs} {DQ : Int → Int} {S : eFs} {SP : Int → Int} {c n : Int} {h : eHs} {g rc : Int → Int} {T : eFs} {Mt : Int → Int → Int} {M : eFs} {o : Int → Int} {od : Nat → UInt64} (hX : X.2 = some (bb, L, xs)) (hL : L ≤ 2147483647) (hi : 0 ≤ i ∧ i + 4 ≤ L) (hb : 2 + b'.1 ≤ b.1 ∧ 12 + b'.2 ≤ b.2) (hN : N + 2400 ≤ 90000000) (hs : SIM N z ln F S c n h g rc T Mt M) (kk : lG X a bb (N + 2400) i b') :
    EV (lK X) a b (wA a z ln F P D DQ S SP c n h g rc T Mt [] ++ (wM (fun k => a (131 + k)) M ++ [eJ 1 1 o, eDd 1 od])) 1101 (lLs a bb i) [] := by
  have hs0 := hs
  obtain ⟨⟨hF, hC, hA, hR⟩, -, -, ⟨n1, n2, n3, n4, n5, n6, n7, n8, n9, n10⟩, ⟨l1, l2, l3⟩, ⟨hg, hr⟩, hT, hz, ⟨hw, hw4⟩, hN0⟩ := hs
  have hc9 := hF.1
  have g1 := sc_in (xs := xs) (z := i + 1)
  have g2 := sc_in (xs := xs) (z := i + 2)
  have hTE : (if sIn (sc xs (i + 1)) (sc xs (i + 2)) then (0 : Int) else 1) = exK ((if sIn (sc xs (i + 1)) (sc xs (i + 2)) then none else some xAr)) xAr "" "" := by
    exact exK_i1.symm
  refine e_aload_n (K := lK X) (i := 1) (n := 1102) dL_law_1101 rfl rfl ?_
  refine lArg (k := 1) dL_law_1102 dL_law_1103 dL_law_1105 dL_law_1106 dL_law_1107 hX hL rfl rfl (by omega) ?_
  refine lArg (k := 2) dL_law_1108 dL_law_1109 dL_law_1111 dL_law_1112 dL_law_1113 hX hL rfl rfl (by omega) ?_
  refine e_aload_n (K := lK X) (i := 3) (n := 1115) dL_law_1114 rfl rfl ?_
  refine e_lawW (K := lK X) (b' := b') (n := 1118) lk_L_200 (by decide) dL_law_1115 rfl (W_isCloud hF g1 g2) rfl rfl (Nat.le_of_ble_eq_true rfl) (Nat.le_of_ble_eq_true rfl) (Nat.le_of_ble_eq_true rfl) ⟨hb.1, hb.2⟩ wA_len wA_len wA_len wM_6 (fun he => ?_) (fun he => ?_)
  · refine EV.eq (st' := [vi 0]) (by show [vi (exK ((if sIn (sc xs (i + 1)) (sc xs (i + 2)) then none else some xAr)) xAr "" "")] = _; rw [exK_n he]) ?_
    refine f_istore (K := lK X) (n := 1120) dL_law_1118 rfl (Nat.le_of_ble_eq_true rfl) rfl ?_
    refine e_aload_n (K := lK X) (i := 2) (n := 1121) dL_law_1120 rfl rfl ?_
    refine lArg (k := 1) dL_law_1121 dL_law_1122 dL_law_1124 dL_law_1125 dL_law_1126 hX hL rfl rfl (by omega) ?_
    refine lArg (k := 2) dL_law_1127 dL_law_1128 dL_law_1130 dL_law_1131 dL_law_1132 hX hL rfl rfl (by omega) ?_
    refine e_lawQ (K := lK X) (n := 1136) (M2 := sS M 0 (if sIn (sc xs (i + 1)) (sc xs (i + 2)) then (0 : Int) else 1)) lk_L_202 rfl dL_law_1133 rfl (C_X7_isCloud (M := M) hF hR g1 g2) rfl rfl (Nat.le_of_ble_eq_true rfl) (Nat.le_of_ble_eq_true rfl) (Nat.le_of_ble_eq_true rfl) ⟨rfl, rfl⟩ wA_len rfl rfl ?_
    refine f_istore (K := lK X) (n := 1138) dL_law_1136 rfl (Nat.le_of_ble_eq_true rfl) rfl ?_
    exact lTailB (bb := bb) (i := i) (e := 0) (off := 1456) dL_law_1138 dL_law_1139 dL_law_1142 dL_law_1144 dL_law_1149 dL_law_1151 dL_law_1154 dL_law_1155 dL_law_1156 dL_law_1157 dL_law_1159 dL_law_1162 dL_law_1163 dL_law_1166 dL_law_1167 dL_law_1168 dL_law_1173 (by decide) wA_len (by decide) (Eq.trans sS_0 (hTE.trans (exK_n he))) (fun _ => eU_self) (kk _ _ _ _ _ _ _ _ _ _ _ _ _ _ _ _ _ _ (SIM_up (SIM_eq hs0 mEq_0) (by omega) hN))
  · have hx3 := exK_in (e1 := xAr) (e2 := "") (e3 := "") he
    refine f_istore (K := lK X) (n := 1120) dL_law_1118 rfl (Nat.le_of_ble_eq_true rfl) rfl ?_
    refine e_aload_n (K := lK X) (i := 2) (n := 1121) dL_law_1120 rfl rfl ?_
    refine lArg (k := 1) dL_law_1121 dL_law_1122 dL_law_1124 dL_law_1125 dL_law_1126 hX hL rfl rfl (by omega) ?_
    refine lArg (k := 2) dL_law_1127 dL_law_1128 dL_law_1130 dL_law_1131 dL_law_1132 hX hL rfl rfl (by omega) ?_
    refine e_lawQ (K := lK X) (n := 1136) (M2 := sS M 0 (if sIn (sc xs (i + 1)) (sc xs (i + 2)) then (0 : Int) else 1)) lk_L_202 rfl dL_law_1133 rfl (C_X7_isCloud (M := M) hF hR g1 g2) rfl rfl (Nat.le_of_ble_eq_true rfl) (Nat.le_of_ble_eq_true rfl) (Nat.le_of_ble_eq_true rfl) ⟨rfl, rfl⟩ wA_len rfl rfl ?_
    refine f_istore (K := lK X) (n := 1138) dL_law_1136 rfl (Nat.le_of_ble_eq_true rfl) rfl ?_
    exact lTailB (bb := bb) (i := i) (e := (exK ((if sIn (sc xs (i + 1)) (sc xs (i + 2)) then none else some xAr)) xAr "" "")) (off := 1456) dL_law_1138 dL_law_1139 dL_law_1142 dL_law_1144 dL_law_1149 dL_law_1151 dL_law_1154 dL_law_1155 dL_law_1156 dL_law_1157 dL_law_1159 dL_law_1162 dL_law_1163 dL_law_1166 dL_law_1167 dL_law_1168 dL_law_1173 (by decide) wA_len (by omega) (Eq.trans sS_0 hTE) (fun q => by exfalso; omega) (kk _ _ _ _ _ _ _ _ _ _ _ _ _ _ _ _ _ _ (SIM_up (SIM_eq hs0 mEq_0) (by omega) hN))
set_option maxHeartbeats 1600000 in
theorem LC_setTurnLength {X : eXT} {a : Nat → Nat} {b b' : Nat × Nat} {bb L : Nat} {xs : Nat → Int32} {i N : Int} {z : Nat → Int} {ln : Int → Int} {F : eFs} {P : Int → Int} {D : eFs} {DQ : Int → Int} {S : eFs} {SP : Int → Int} {c n : Int} {h : eHs} {g rc : Int → Int} {T : eFs} {Mt : Int → Int → Int} {M : eFs} {o : Int → Int} {od : Nat → UInt64} (hX : X.2 = some (bb, L, xs)) (hL : L ≤ 2147483647) (hi : 0 ≤ i ∧ i + 4 ≤ L) (hb : 2 + b'.1 ≤ b.1 ∧ 12 + b'.2 ≤ b.2) (hN : N + 2400 ≤ 90000000) (hs : SIM N z ln F S c n h g rc T Mt M) (kk : lG X a bb (N + 2400) i b') :
    EV (lK X) a b (wA a z ln F P D DQ S SP c n h g rc T Mt [] ++ (wM (fun k => a (131 + k)) M ++ [eJ 1 1 o, eDd 1 od])) 1189 (lLs a bb i) [] := by
  have hs0 := hs
  obtain ⟨⟨hF, hC, hA, hR⟩, -, -, ⟨n1, n2, n3, n4, n5, n6, n7, n8, n9, n10⟩, ⟨l1, l2, l3⟩, ⟨hg, hr⟩, hT, hz, ⟨hw, hw4⟩, hN0⟩ := hs
  have hc9 := hF.1
  have g1 := sc_in (xs := xs) (z := i + 1)
  have hTE : mTh (mHC (sHin F 5 (sc xs (i + 1)) 0 0)) 0 1 0 0 0 = exK (eEx (sHin F 5 (sc xs (i + 1)) 0 0)) xAr "" "" := by
    rcases hk_5 (F := F) (p := (sc xs (i + 1))) (q := 0) (r := 0) with w | w
      · rw [w]; show (0 : Int) = exK none _ _ _; rfl
      · rw [w]; show (1 : Int) = exK (some xAr) _ _ _; exact exK_s1.symm
  have hV : mTh (mHC (sHin F 5 (sc xs (i + 1)) 0 0)) 0 1 0 0 0 = 0 → (if mTh (mHC (sHin F 5 (sc xs (i + 1)) 0 0)) 0 1 0 0 0 = 0 then sDoR F 5 (sc xs (i + 1)) 0 0 else 0 : Int) = sDoR F 5 (sc xs (i + 1)) 0 0 := fun q => if_pos q
  have e0 : eEx (sHin F 5 (sc xs (i + 1)) 0 0) = none ↔ (sHin F 5 (sc xs (i + 1)) 0 0) = 0 := by
    rcases hk_5 (F := F) (p := (sc xs (i + 1))) (q := 0) (r := 0) with w | w <;> rw [w] <;> decide
  refine e_aload_n (K := lK X) (i := 1) (n := 1190) dL_law_1189 rfl rfl ?_
  refine lArg (k := 1) dL_law_1190 dL_law_1191 dL_law_1193 dL_law_1194 dL_law_1195 hX hL rfl rfl (by omega) ?_
  refine e_aload_n (K := lK X) (i := 3) (n := 1197) dL_law_1196 rfl rfl ?_
  refine e_lawW (K := lK X) (b' := b') (n := 1200) lk_L_207 (by decide) dL_law_1197 rfl (W_setTurnLength hF n1 n2 g1) rfl rfl (Nat.le_of_ble_eq_true rfl) (Nat.le_of_ble_eq_true rfl) (Nat.le_of_ble_eq_true rfl) ⟨hb.1, hb.2⟩ wA_len wA_len wA_len wM_6 (fun he => ?_) (fun he => ?_)
  · refine EV.eq (st' := [vi 0]) (by show [vi (exK (eEx (sHin F 5 (sc xs (i + 1)) 0 0)) xAr "" "")] = _; rw [exK_n he]) ?_
    refine f_istore (K := lK X) (n := 1202) dL_law_1200 rfl (Nat.le_of_ble_eq_true rfl) rfl ?_
    refine e_aload_n (K := lK X) (i := 2) (n := 1203) dL_law_1202 rfl rfl ?_
    refine lArg (k := 1) dL_law_1203 dL_law_1204 dL_law_1206 dL_law_1207 dL_law_1208 hX hL rfl rfl (by omega) ?_
    refine e_lawP (K := lK X) (n := 1212) (Pr := fun M2 => mPo M M2 F 5 (sc xs (i + 1)) 0 0 (mTh (mHC (sHin F 5 (sc xs (i + 1)) 0 0)) 0 1 0 0 0)) lk_L_209 rfl dL_law_1209 rfl (C_X7_setTurnLength (M := M) hF hR (by omega) (by omega) g1) (fun _ q => q) rfl rfl (Nat.le_of_ble_eq_true rfl) (Nat.le_of_ble_eq_true rfl) (Nat.le_of_ble_eq_true rfl) ⟨rfl, rfl⟩ wA_len rfl rfl (fun M2 m => ?_)
    refine EV.eq (st' := [vi (w32 (sDoR F 5 (sc xs (i + 1)) 0 0))]) (by show [vi (if mTh (mHC (sHin F 5 (sc xs (i + 1)) 0 0)) 0 1 0 0 0 = 0 then sDoR F 5 (sc xs (i + 1)) 0 0 else 0)] = _; rw [hV (hTE.trans (exK_n he))]; exact congrArg (fun v => [v]) w32_v) ?_
    refine f_istore (K := lK X) (n := 1214) dL_law_1212 rfl (Nat.le_of_ble_eq_true rfl) rfl ?_
    exact lTail (bb := bb) (i := i) (e := 0) (v := (w32 (sDoR F 5 (sc xs (i + 1)) 0 0))) (off := 1387) dL_law_1214 dL_law_1215 dL_law_1218 dL_law_1220 dL_law_1225 dL_law_1227 dL_law_1230 dL_law_1231 dL_law_1232 dL_law_1233 dL_law_1235 dL_law_1236 dL_law_1237 dL_law_1242 (by decide) wA_len (by decide) (m.1.trans (hTE.trans (exK_n he))) (fun _ => eU_self) w32_in (kk _ _ _ _ _ _ _ _ _ _ _ _ _ _ _ _ _ _ (SIM_up ((SIM_chg (by decide) hs0 (by omega) m).1 (e0.mp he)) (by omega) hN))
  · have hx3 := exK_in (e1 := xAr) (e2 := "") (e3 := "") he
    refine f_istore (K := lK X) (n := 1202) dL_law_1200 rfl (Nat.le_of_ble_eq_true rfl) rfl ?_
    refine e_aload_n (K := lK X) (i := 2) (n := 1203) dL_law_1202 rfl rfl ?_
    refine lArg (k := 1) dL_law_1203 dL_law_1204 dL_law_1206 dL_law_1207 dL_law_1208 hX hL rfl rfl (by omega) ?_
    refine e_lawP (K := lK X) (n := 1212) (Pr := fun M2 => mPo M M2 F 5 (sc xs (i + 1)) 0 0 (mTh (mHC (sHin F 5 (sc xs (i + 1)) 0 0)) 0 1 0 0 0)) lk_L_209 rfl dL_law_1209 rfl (C_X7_setTurnLength (M := M) hF hR (by omega) (by omega) g1) (fun _ q => q) rfl rfl (Nat.le_of_ble_eq_true rfl) (Nat.le_of_ble_eq_true rfl) (Nat.le_of_ble_eq_true rfl) ⟨rfl, rfl⟩ wA_len rfl rfl (fun M2 m => ?_)
    refine EV.eq (st' := [vi (w32 (if mTh (mHC (sHin F 5 (sc xs (i + 1)) 0 0)) 0 1 0 0 0 = 0 then sDoR F 5 (sc xs (i + 1)) 0 0 else 0))]) (congrArg (fun v => [v]) w32_v) ?_
    refine f_istore (K := lK X) (n := 1214) dL_law_1212 rfl (Nat.le_of_ble_eq_true rfl) rfl ?_
    exact lTail (bb := bb) (i := i) (e := (exK (eEx (sHin F 5 (sc xs (i + 1)) 0 0)) xAr "" "")) (v := (w32 (if mTh (mHC (sHin F 5 (sc xs (i + 1)) 0 0)) 0 1 0 0 0 = 0 then sDoR F 5 (sc xs (i + 1)) 0 0 else 0))) (off := 1387) dL_law_1214 dL_law_1215 dL_law_1218 dL_law_1220 dL_law_1225 dL_law_1227 dL_law_1230 dL_law_1231 dL_law_1232 dL_law_1233 dL_law_1235 dL_law_1236 dL_law_1237 dL_law_1242 (by decide) wA_len (by omega) (Eq.trans m.1 hTE) (fun q => by exfalso; omega) w32_in (kk _ _ _ _ _ _ _ _ _ _ _ _ _ _ _ _ _ _ (SIM_up ((SIM_chg (by decide) hs0 (by omega) m).2 (fun q => he (e0.mpr q))) (by omega) hN))
set_option maxHeartbeats 1600000 in
theorem LC_leader {X : eXT} {a : Nat → Nat} {b b' : Nat × Nat} {bb L : Nat} {xs : Nat → Int32} {i N : Int} {z : Nat → Int} {ln : Int → Int} {F : eFs} {P : Int → Int} {D : eFs} {DQ : Int → Int} {S : eFs} {SP : Int → Int} {c n : Int} {h : eHs} {g rc : Int → Int} {T : eFs} {Mt : Int → Int → Int} {M : eFs} {o : Int → Int} {od : Nat → UInt64} (hX : X.2 = some (bb, L, xs)) (hL : L ≤ 2147483647) (hi : 0 ≤ i ∧ i + 4 ≤ L) (hb : 2 + b'.1 ≤ b.1 ∧ 12 + b'.2 ≤ b.2) (hN : N + 2400 ≤ 90000000) (hs : SIM N z ln F S c n h g rc T Mt M) (kk : lG X a bb (N + 2400) i b') :
    EV (lK X) a b (wA a z ln F P D DQ S SP c n h g rc T Mt [] ++ (wM (fun k => a (131 + k)) M ++ [eJ 1 1 o, eDd 1 od])) 1258 (lLs a bb i) [] := by
  have hs0 := hs
  obtain ⟨⟨hF, hC, hA, hR⟩, -, -, ⟨n1, n2, n3, n4, n5, n6, n7, n8, n9, n10⟩, ⟨l1, l2, l3⟩, ⟨hg, hr⟩, hT, hz, ⟨hw, hw4⟩, hN0⟩ := hs
  have hc9 := hF.1
  have hTE : (if 1 ≤ F.1 0 then (0 : Int) else 1) = exK ((if 1 ≤ F.1 0 then none else some xNo)) xNo "" "" := by
    exact exK_i1.symm
  have hV : (if 1 ≤ F.1 0 then (0 : Int) else 1) = 0 → (if (if 1 ≤ F.1 0 then (0 : Int) else 1) = 0 then F.1 1 else 0 : Int) = F.1 1 := fun q => if_pos q
  refine e_aload_n (K := lK X) (i := 1) (n := 1259) dL_law_1258 rfl rfl ?_
  refine e_aload_n (K := lK X) (i := 3) (n := 1260) dL_law_1259 rfl rfl ?_
  refine e_lawW (K := lK X) (b' := b') (n := 1263) lk_L_214 (by decide) dL_law_1260 rfl (W_leader hF) rfl rfl (Nat.le_of_ble_eq_true rfl) (Nat.le_of_ble_eq_true rfl) (Nat.le_of_ble_eq_true rfl) ⟨hb.1, hb.2⟩ wA_len wA_len wA_len wM_6 (fun he => ?_) (fun he => ?_)
  · refine EV.eq (st' := [vi 0]) (by show [vi (exK ((if 1 ≤ F.1 0 then none else some xNo)) xNo "" "")] = _; rw [exK_n he]) ?_
    refine f_istore (K := lK X) (n := 1265) dL_law_1263 rfl (Nat.le_of_ble_eq_true rfl) rfl ?_
    refine e_aload_n (K := lK X) (i := 2) (n := 1266) dL_law_1265 rfl rfl ?_
    refine e_lawQ (K := lK X) (n := 1269) (M2 := sS M 0 (if 1 ≤ F.1 0 then (0 : Int) else 1)) lk_L_216 rfl dL_law_1266 rfl (C_X7_leader (M := M) hF hR ) rfl rfl (Nat.le_of_ble_eq_true rfl) (Nat.le_of_ble_eq_true rfl) (Nat.le_of_ble_eq_true rfl) ⟨rfl, rfl⟩ wA_len rfl rfl ?_
    refine EV.eq (st' := [vi (w32 (F.1 1))]) (by show [vi (if (if 1 ≤ F.1 0 then (0 : Int) else 1) = 0 then F.1 1 else 0)] = _; rw [hV (hTE.trans (exK_n he))]; exact congrArg (fun v => [v]) w32_v) ?_
    refine f_istore (K := lK X) (n := 1271) dL_law_1269 rfl (Nat.le_of_ble_eq_true rfl) rfl ?_
    exact lTail (bb := bb) (i := i) (e := 0) (v := (w32 (F.1 1))) (off := 1330) dL_law_1271 dL_law_1272 dL_law_1275 dL_law_1277 dL_law_1282 dL_law_1284 dL_law_1287 dL_law_1288 dL_law_1289 dL_law_1290 dL_law_1292 dL_law_1293 dL_law_1294 dL_law_1299 (by decide) wA_len (by decide) (sS_0.trans (hTE.trans (exK_n he))) (fun _ => eU_self) w32_in (kk _ _ _ _ _ _ _ _ _ _ _ _ _ _ _ _ _ _ (SIM_up (SIM_eq hs0 mEq_0) (by omega) hN))
  · have hx3 := exK_in (e1 := xNo) (e2 := "") (e3 := "") he
    refine f_istore (K := lK X) (n := 1265) dL_law_1263 rfl (Nat.le_of_ble_eq_true rfl) rfl ?_
    refine e_aload_n (K := lK X) (i := 2) (n := 1266) dL_law_1265 rfl rfl ?_
    refine e_lawQ (K := lK X) (n := 1269) (M2 := sS M 0 (if 1 ≤ F.1 0 then (0 : Int) else 1)) lk_L_216 rfl dL_law_1266 rfl (C_X7_leader (M := M) hF hR ) rfl rfl (Nat.le_of_ble_eq_true rfl) (Nat.le_of_ble_eq_true rfl) (Nat.le_of_ble_eq_true rfl) ⟨rfl, rfl⟩ wA_len rfl rfl ?_
    refine EV.eq (st' := [vi (w32 (if (if 1 ≤ F.1 0 then (0 : Int) else 1) = 0 then F.1 1 else 0))]) (congrArg (fun v => [v]) w32_v) ?_
    refine f_istore (K := lK X) (n := 1271) dL_law_1269 rfl (Nat.le_of_ble_eq_true rfl) rfl ?_
    exact lTail (bb := bb) (i := i) (e := (exK ((if 1 ≤ F.1 0 then none else some xNo)) xNo "" "")) (v := (w32 (if (if 1 ≤ F.1 0 then (0 : Int) else 1) = 0 then F.1 1 else 0))) (off := 1330) dL_law_1271 dL_law_1272 dL_law_1275 dL_law_1277 dL_law_1282 dL_law_1284 dL_law_1287 dL_law_1288 dL_law_1289 dL_law_1290 dL_law_1292 dL_law_1293 dL_law_1294 dL_law_1299 (by decide) wA_len (by omega) (Eq.trans sS_0 hTE) (fun q => by exfalso; omega) w32_in (kk _ _ _ _ _ _ _ _ _ _ _ _ _ _ _ _ _ _ (SIM_up (SIM_eq hs0 mEq_0) (by omega) hN))
set_option maxHeartbeats 1600000 in
theorem LC_leaderAfter {X : eXT} {a : Nat → Nat} {b b' : Nat × Nat} {bb L : Nat} {xs : Nat → Int32} {i N : Int} {z : Nat → Int} {ln : Int → Int} {F : eFs} {P : Int → Int} {D : eFs} {DQ : Int → Int} {S : eFs} {SP : Int → Int} {c n : Int} {h : eHs} {g rc : Int → Int} {T : eFs} {Mt : Int → Int → Int} {M : eFs} {o : Int → Int} {od : Nat → UInt64} (hX : X.2 = some (bb, L, xs)) (hL : L ≤ 2147483647) (hi : 0 ≤ i ∧ i + 4 ≤ L) (hb : 2 + b'.1 ≤ b.1 ∧ 12 + b'.2 ≤ b.2) (hN : N + 2400 ≤ 90000000) (hs : SIM N z ln F S c n h g rc T Mt M) (kk : lG X a bb (N + 2400) i b') :
    EV (lK X) a b (wA a z ln F P D DQ S SP c n h g rc T Mt [] ++ (wM (fun k => a (131 + k)) M ++ [eJ 1 1 o, eDd 1 od])) 1302 (lLs a bb i) [] := by
  have hs0 := hs
  obtain ⟨⟨hF, hC, hA, hR⟩, -, -, ⟨n1, n2, n3, n4, n5, n6, n7, n8, n9, n10⟩, ⟨l1, l2, l3⟩, ⟨hg, hr⟩, hT, hz, ⟨hw, hw4⟩, hN0⟩ := hs
  have hc9 := hF.1
  have g1 := sc_in (xs := xs) (z := i + 1)
  have hTE : (if ¬ (0 ≤ (sc xs (i + 1)) ∧ (sc xs (i + 1)) ≤ 99) then (1 : Int) else if F.1 0 = 0 then 2 else 0) = exK ((if 0 ≤ (sc xs (i + 1)) ∧ (sc xs (i + 1)) ≤ 99 then (if 1 ≤ F.1 0 then none else some xNo) else some xAr)) xAr xNo "" := by
    rw [exK_i2 (by decide)]
    (repeat' split) <;> first | rfl | contradiction | (exfalso; omega)
  have hV : (if ¬ (0 ≤ (sc xs (i + 1)) ∧ (sc xs (i + 1)) ≤ 99) then (1 : Int) else if F.1 0 = 0 then 2 else 0) = 0 → (if (if ¬ (0 ≤ (sc xs (i + 1)) ∧ (sc xs (i + 1)) ≤ 99) then (1 : Int) else if F.1 0 = 0 then 2 else 0) = 0 then sLead F (sc xs (i + 1)) else 0 : Int) = sLead F (sc xs (i + 1)) := fun q => if_pos q
  refine e_aload_n (K := lK X) (i := 1) (n := 1303) dL_law_1302 rfl rfl ?_
  refine lArg (k := 1) dL_law_1303 dL_law_1304 dL_law_1306 dL_law_1307 dL_law_1308 hX hL rfl rfl (by omega) ?_
  refine e_aload_n (K := lK X) (i := 3) (n := 1310) dL_law_1309 rfl rfl ?_
  refine e_lawW (K := lK X) (b' := b') (n := 1313) lk_L_217 (by decide) dL_law_1310 rfl (W_leaderAfter hF g1) rfl rfl (Nat.le_of_ble_eq_true rfl) (Nat.le_of_ble_eq_true rfl) (Nat.le_of_ble_eq_true rfl) ⟨hb.1, hb.2⟩ wA_len wA_len wA_len wM_6 (fun he => ?_) (fun he => ?_)
  · refine EV.eq (st' := [vi 0]) (by show [vi (exK ((if 0 ≤ (sc xs (i + 1)) ∧ (sc xs (i + 1)) ≤ 99 then (if 1 ≤ F.1 0 then none else some xNo) else some xAr)) xAr xNo "")] = _; rw [exK_n he]) ?_
    refine f_istore (K := lK X) (n := 1315) dL_law_1313 rfl (Nat.le_of_ble_eq_true rfl) rfl ?_
    refine e_aload_n (K := lK X) (i := 2) (n := 1316) dL_law_1315 rfl rfl ?_
    refine lArg (k := 1) dL_law_1316 dL_law_1317 dL_law_1319 dL_law_1320 dL_law_1321 hX hL rfl rfl (by omega) ?_
    refine e_lawQ (K := lK X) (n := 1325) (M2 := sS M 0 (if ¬ (0 ≤ (sc xs (i + 1)) ∧ (sc xs (i + 1)) ≤ 99) then (1 : Int) else if F.1 0 = 0 then 2 else 0)) lk_L_219 rfl dL_law_1322 rfl (C_X7_leaderAfter (M := M) hF hR g1) rfl rfl (Nat.le_of_ble_eq_true rfl) (Nat.le_of_ble_eq_true rfl) (Nat.le_of_ble_eq_true rfl) ⟨rfl, rfl⟩ wA_len rfl rfl ?_
    refine EV.eq (st' := [vi (w32 (sLead F (sc xs (i + 1))))]) (by show [vi (if (if ¬ (0 ≤ (sc xs (i + 1)) ∧ (sc xs (i + 1)) ≤ 99) then (1 : Int) else if F.1 0 = 0 then 2 else 0) = 0 then sLead F (sc xs (i + 1)) else 0)] = _; rw [hV (hTE.trans (exK_n he))]; exact congrArg (fun v => [v]) w32_v) ?_
    refine f_istore (K := lK X) (n := 1327) dL_law_1325 rfl (Nat.le_of_ble_eq_true rfl) rfl ?_
    exact lTail (bb := bb) (i := i) (e := 0) (v := (w32 (sLead F (sc xs (i + 1))))) (off := 1274) dL_law_1327 dL_law_1328 dL_law_1331 dL_law_1333 dL_law_1338 dL_law_1340 dL_law_1343 dL_law_1344 dL_law_1345 dL_law_1346 dL_law_1348 dL_law_1349 dL_law_1350 dL_law_1355 (by decide) wA_len (by decide) (sS_0.trans (hTE.trans (exK_n he))) (fun _ => eU_self) w32_in (kk _ _ _ _ _ _ _ _ _ _ _ _ _ _ _ _ _ _ (SIM_up (SIM_eq hs0 mEq_0) (by omega) hN))
  · have hx3 := exK_in (e1 := xAr) (e2 := xNo) (e3 := "") he
    refine f_istore (K := lK X) (n := 1315) dL_law_1313 rfl (Nat.le_of_ble_eq_true rfl) rfl ?_
    refine e_aload_n (K := lK X) (i := 2) (n := 1316) dL_law_1315 rfl rfl ?_
    refine lArg (k := 1) dL_law_1316 dL_law_1317 dL_law_1319 dL_law_1320 dL_law_1321 hX hL rfl rfl (by omega) ?_
    refine e_lawQ (K := lK X) (n := 1325) (M2 := sS M 0 (if ¬ (0 ≤ (sc xs (i + 1)) ∧ (sc xs (i + 1)) ≤ 99) then (1 : Int) else if F.1 0 = 0 then 2 else 0)) lk_L_219 rfl dL_law_1322 rfl (C_X7_leaderAfter (M := M) hF hR g1) rfl rfl (Nat.le_of_ble_eq_true rfl) (Nat.le_of_ble_eq_true rfl) (Nat.le_of_ble_eq_true rfl) ⟨rfl, rfl⟩ wA_len rfl rfl ?_
    refine EV.eq (st' := [vi (w32 (if (if ¬ (0 ≤ (sc xs (i + 1)) ∧ (sc xs (i + 1)) ≤ 99) then (1 : Int) else if F.1 0 = 0 then 2 else 0) = 0 then sLead F (sc xs (i + 1)) else 0))]) (congrArg (fun v => [v]) w32_v) ?_
    refine f_istore (K := lK X) (n := 1327) dL_law_1325 rfl (Nat.le_of_ble_eq_true rfl) rfl ?_
    exact lTail (bb := bb) (i := i) (e := (exK ((if 0 ≤ (sc xs (i + 1)) ∧ (sc xs (i + 1)) ≤ 99 then (if 1 ≤ F.1 0 then none else some xNo) else some xAr)) xAr xNo "")) (v := (w32 (if (if ¬ (0 ≤ (sc xs (i + 1)) ∧ (sc xs (i + 1)) ≤ 99) then (1 : Int) else if F.1 0 = 0 then 2 else 0) = 0 then sLead F (sc xs (i + 1)) else 0))) (off := 1274) dL_law_1327 dL_law_1328 dL_law_1331 dL_law_1333 dL_law_1338 dL_law_1340 dL_law_1343 dL_law_1344 dL_law_1345 dL_law_1346 dL_law_1348 dL_law_1349 dL_law_1350 dL_law_1355 (by decide) wA_len (by omega) (Eq.trans sS_0 hTE) (fun q => by exfalso; omega) w32_in (kk _ _ _ _ _ _ _ _ _ _ _ _ _ _ _ _ _ _ (SIM_up (SIM_eq hs0 mEq_0) (by omega) hN))
set_option maxHeartbeats 1600000 in
theorem LC_leaderAfterByCounting {X : eXT} {a : Nat → Nat} {b b' : Nat × Nat} {bb L : Nat} {xs : Nat → Int32} {i N : Int} {z : Nat → Int} {ln : Int → Int} {F : eFs} {P : Int → Int} {D : eFs} {DQ : Int → Int} {S : eFs} {SP : Int → Int} {c n : Int} {h : eHs} {g rc : Int → Int} {T : eFs} {Mt : Int → Int → Int} {M : eFs} {o : Int → Int} {od : Nat → UInt64} (hX : X.2 = some (bb, L, xs)) (hL : L ≤ 2147483647) (hi : 0 ≤ i ∧ i + 4 ≤ L) (hb : 2 + b'.1 ≤ b.1 ∧ 12 + b'.2 ≤ b.2) (hN : N + 2400 ≤ 90000000) (hs : SIM N z ln F S c n h g rc T Mt M) (kk : lG X a bb (N + 2400) i b') :
    EV (lK X) a b (wA a z ln F P D DQ S SP c n h g rc T Mt [] ++ (wM (fun k => a (131 + k)) M ++ [eJ 1 1 o, eDd 1 od])) 1358 (lLs a bb i) [] := by
  have hs0 := hs
  obtain ⟨⟨hF, hC, hA, hR⟩, -, -, ⟨n1, n2, n3, n4, n5, n6, n7, n8, n9, n10⟩, ⟨l1, l2, l3⟩, ⟨hg, hr⟩, hT, hz, ⟨hw, hw4⟩, hN0⟩ := hs
  have hc9 := hF.1
  have g1 := sc_in (xs := xs) (z := i + 1)
  have hTE : (if ¬ (0 ≤ (sc xs (i + 1)) ∧ (sc xs (i + 1)) ≤ 99) then (1 : Int) else if F.1 0 = 0 then 2 else 0) = exK ((if 0 ≤ (sc xs (i + 1)) ∧ (sc xs (i + 1)) ≤ 99 then (if 1 ≤ F.1 0 then none else some xNo) else some xAr)) xAr xNo "" := by
    rw [exK_i2 (by decide)]
    (repeat' split) <;> first | rfl | contradiction | (exfalso; omega)
  have hV : (if ¬ (0 ≤ (sc xs (i + 1)) ∧ (sc xs (i + 1)) ≤ 99) then (1 : Int) else if F.1 0 = 0 then 2 else 0) = 0 → (if (if ¬ (0 ≤ (sc xs (i + 1)) ∧ (sc xs (i + 1)) ≤ 99) then (1 : Int) else if F.1 0 = 0 then 2 else 0) = 0 then sLead F (sc xs (i + 1)) else 0 : Int) = sLead F (sc xs (i + 1)) := fun q => if_pos q
  refine e_aload_n (K := lK X) (i := 1) (n := 1359) dL_law_1358 rfl rfl ?_
  refine lArg (k := 1) dL_law_1359 dL_law_1360 dL_law_1362 dL_law_1363 dL_law_1364 hX hL rfl rfl (by omega) ?_
  refine e_aload_n (K := lK X) (i := 3) (n := 1366) dL_law_1365 rfl rfl ?_
  refine e_lawW (K := lK X) (b' := b') (n := 1369) lk_L_220 (by decide) dL_law_1366 rfl (W_leaderAfterByCounting hF g1) rfl rfl (Nat.le_of_ble_eq_true rfl) (Nat.le_of_ble_eq_true rfl) (Nat.le_of_ble_eq_true rfl) ⟨hb.1, hb.2⟩ wA_len wA_len wA_len wM_6 (fun he => ?_) (fun he => ?_)
  · refine EV.eq (st' := [vi 0]) (by show [vi (exK ((if 0 ≤ (sc xs (i + 1)) ∧ (sc xs (i + 1)) ≤ 99 then (if 1 ≤ F.1 0 then none else some xNo) else some xAr)) xAr xNo "")] = _; rw [exK_n he]) ?_
    refine f_istore (K := lK X) (n := 1371) dL_law_1369 rfl (Nat.le_of_ble_eq_true rfl) rfl ?_
    refine e_aload_n (K := lK X) (i := 2) (n := 1372) dL_law_1371 rfl rfl ?_
    refine lArg (k := 1) dL_law_1372 dL_law_1373 dL_law_1375 dL_law_1376 dL_law_1377 hX hL rfl rfl (by omega) ?_
    refine e_lawQ (K := lK X) (n := 1381) (M2 := sS M 0 (if ¬ (0 ≤ (sc xs (i + 1)) ∧ (sc xs (i + 1)) ≤ 99) then (1 : Int) else if F.1 0 = 0 then 2 else 0)) lk_L_222 rfl dL_law_1378 rfl (C_X7_leaderAfterByCounting (M := M) hF hR g1) rfl rfl (Nat.le_of_ble_eq_true rfl) (Nat.le_of_ble_eq_true rfl) (Nat.le_of_ble_eq_true rfl) ⟨rfl, rfl⟩ wA_len rfl rfl ?_
    refine EV.eq (st' := [vi (w32 (sLead F (sc xs (i + 1))))]) (by show [vi (if (if ¬ (0 ≤ (sc xs (i + 1)) ∧ (sc xs (i + 1)) ≤ 99) then (1 : Int) else if F.1 0 = 0 then 2 else 0) = 0 then sLead F (sc xs (i + 1)) else 0)] = _; rw [hV (hTE.trans (exK_n he))]; exact congrArg (fun v => [v]) w32_v) ?_
    refine f_istore (K := lK X) (n := 1383) dL_law_1381 rfl (Nat.le_of_ble_eq_true rfl) rfl ?_
    exact lTail (bb := bb) (i := i) (e := 0) (v := (w32 (sLead F (sc xs (i + 1))))) (off := 1218) dL_law_1383 dL_law_1384 dL_law_1387 dL_law_1389 dL_law_1394 dL_law_1396 dL_law_1399 dL_law_1400 dL_law_1401 dL_law_1402 dL_law_1404 dL_law_1405 dL_law_1406 dL_law_1411 (by decide) wA_len (by decide) (sS_0.trans (hTE.trans (exK_n he))) (fun _ => eU_self) w32_in (kk _ _ _ _ _ _ _ _ _ _ _ _ _ _ _ _ _ _ (SIM_up (SIM_eq hs0 mEq_0) (by omega) hN))
  · have hx3 := exK_in (e1 := xAr) (e2 := xNo) (e3 := "") he
    refine f_istore (K := lK X) (n := 1371) dL_law_1369 rfl (Nat.le_of_ble_eq_true rfl) rfl ?_
    refine e_aload_n (K := lK X) (i := 2) (n := 1372) dL_law_1371 rfl rfl ?_
    refine lArg (k := 1) dL_law_1372 dL_law_1373 dL_law_1375 dL_law_1376 dL_law_1377 hX hL rfl rfl (by omega) ?_
    refine e_lawQ (K := lK X) (n := 1381) (M2 := sS M 0 (if ¬ (0 ≤ (sc xs (i + 1)) ∧ (sc xs (i + 1)) ≤ 99) then (1 : Int) else if F.1 0 = 0 then 2 else 0)) lk_L_222 rfl dL_law_1378 rfl (C_X7_leaderAfterByCounting (M := M) hF hR g1) rfl rfl (Nat.le_of_ble_eq_true rfl) (Nat.le_of_ble_eq_true rfl) (Nat.le_of_ble_eq_true rfl) ⟨rfl, rfl⟩ wA_len rfl rfl ?_
    refine EV.eq (st' := [vi (w32 (if (if ¬ (0 ≤ (sc xs (i + 1)) ∧ (sc xs (i + 1)) ≤ 99) then (1 : Int) else if F.1 0 = 0 then 2 else 0) = 0 then sLead F (sc xs (i + 1)) else 0))]) (congrArg (fun v => [v]) w32_v) ?_
    refine f_istore (K := lK X) (n := 1383) dL_law_1381 rfl (Nat.le_of_ble_eq_true rfl) rfl ?_
    exact lTail (bb := bb) (i := i) (e := (exK ((if 0 ≤ (sc xs (i + 1)) ∧ (sc xs (i + 1)) ≤ 99 then (if 1 ≤ F.1 0 then none else some xNo) else some xAr)) xAr xNo "")) (v := (w32 (if (if ¬ (0 ≤ (sc xs (i + 1)) ∧ (sc xs (i + 1)) ≤ 99) then (1 : Int) else if F.1 0 = 0 then 2 else 0) = 0 then sLead F (sc xs (i + 1)) else 0))) (off := 1218) dL_law_1383 dL_law_1384 dL_law_1387 dL_law_1389 dL_law_1394 dL_law_1396 dL_law_1399 dL_law_1400 dL_law_1401 dL_law_1402 dL_law_1404 dL_law_1405 dL_law_1406 dL_law_1411 (by decide) wA_len (by omega) (Eq.trans sS_0 hTE) (fun q => by exfalso; omega) w32_in (kk _ _ _ _ _ _ _ _ _ _ _ _ _ _ _ _ _ _ (SIM_up (SIM_eq hs0 mEq_0) (by omega) hN))
set_option maxHeartbeats 1600000 in
theorem LC_setTarget {X : eXT} {a : Nat → Nat} {b b' : Nat × Nat} {bb L : Nat} {xs : Nat → Int32} {i N : Int} {z : Nat → Int} {ln : Int → Int} {F : eFs} {P : Int → Int} {D : eFs} {DQ : Int → Int} {S : eFs} {SP : Int → Int} {c n : Int} {h : eHs} {g rc : Int → Int} {T : eFs} {Mt : Int → Int → Int} {M : eFs} {o : Int → Int} {od : Nat → UInt64} (hX : X.2 = some (bb, L, xs)) (hL : L ≤ 2147483647) (hi : 0 ≤ i ∧ i + 4 ≤ L) (hb : 2 + b'.1 ≤ b.1 ∧ 12 + b'.2 ≤ b.2) (hN : N + 2400 ≤ 90000000) (hs : SIM N z ln F S c n h g rc T Mt M) (kk : lG X a bb (N + 2400) i b') :
    EV (lK X) a b (wA a z ln F P D DQ S SP c n h g rc T Mt [] ++ (wM (fun k => a (131 + k)) M ++ [eJ 1 1 o, eDd 1 od])) 1414 (lLs a bb i) [] := by
  have hs0 := hs
  obtain ⟨⟨hF, hC, hA, hR⟩, -, -, ⟨n1, n2, n3, n4, n5, n6, n7, n8, n9, n10⟩, ⟨l1, l2, l3⟩, ⟨hg, hr⟩, hT, hz, ⟨hw, hw4⟩, hN0⟩ := hs
  have hc9 := hF.1
  have g1 := sc_in (xs := xs) (z := i + 1)
  have g2 := sc_in (xs := xs) (z := i + 2)
  have hTE : mTh (mHC (sHin F 6 (sc xs (i + 1)) (sc xs (i + 2)) 0)) 0 1 0 0 2 = exK (eEx (sHin F 6 (sc xs (i + 1)) (sc xs (i + 2)) 0)) xAr xNo "" := by
    rcases hk_6 (F := F) (p := (sc xs (i + 1))) (q := (sc xs (i + 2))) (r := 0) with w | w | w
      · rw [w]; show (0 : Int) = exK none _ _ _; rfl
      · rw [w]; show (1 : Int) = exK (some xAr) _ _ _; exact exK_s1.symm
      · rw [w]; show (2 : Int) = exK (some xNo) _ _ _; exact exK_s2 (by decide).symm
  have hV : mTh (mHC (sHin F 6 (sc xs (i + 1)) (sc xs (i + 2)) 0)) 0 1 0 0 2 = 0 → (if mTh (mHC (sHin F 6 (sc xs (i + 1)) (sc xs (i + 2)) 0)) 0 1 0 0 2 = 0 then sDoR F 6 (sc xs (i + 1)) (sc xs (i + 2)) 0 else 0 : Int) = sDoR F 6 (sc xs (i + 1)) (sc xs (i + 2)) 0 := fun q => if_pos q
  have e0 : eEx (sHin F 6 (sc xs (i + 1)) (sc xs (i + 2)) 0) = none ↔ (sHin F 6 (sc xs (i + 1)) (sc xs (i + 2)) 0) = 0 := by
    rcases hk_6 (F := F) (p := (sc xs (i + 1))) (q := (sc xs (i + 2))) (r := 0) with w | w | w <;> rw [w] <;> decide
  refine e_aload_n (K := lK X) (i := 1) (n := 1415) dL_law_1414 rfl rfl ?_
  refine lArg (k := 1) dL_law_1415 dL_law_1416 dL_law_1418 dL_law_1419 dL_law_1420 hX hL rfl rfl (by omega) ?_
  refine lArg (k := 2) dL_law_1421 dL_law_1422 dL_law_1424 dL_law_1425 dL_law_1426 hX hL rfl rfl (by omega) ?_
  refine e_aload_n (K := lK X) (i := 3) (n := 1428) dL_law_1427 rfl rfl ?_
  refine e_lawW (K := lK X) (b' := b') (n := 1431) lk_L_223 (by decide) dL_law_1428 rfl (W_setTarget hF n1 n2 g1 g2) rfl rfl (Nat.le_of_ble_eq_true rfl) (Nat.le_of_ble_eq_true rfl) (Nat.le_of_ble_eq_true rfl) ⟨hb.1, hb.2⟩ wA_len wA_len wA_len wM_6 (fun he => ?_) (fun he => ?_)
  · refine EV.eq (st' := [vi 0]) (by show [vi (exK (eEx (sHin F 6 (sc xs (i + 1)) (sc xs (i + 2)) 0)) xAr xNo "")] = _; rw [exK_n he]) ?_
    refine f_istore (K := lK X) (n := 1433) dL_law_1431 rfl (Nat.le_of_ble_eq_true rfl) rfl ?_
    refine e_aload_n (K := lK X) (i := 2) (n := 1434) dL_law_1433 rfl rfl ?_
    refine lArg (k := 1) dL_law_1434 dL_law_1435 dL_law_1437 dL_law_1438 dL_law_1439 hX hL rfl rfl (by omega) ?_
    refine lArg (k := 2) dL_law_1440 dL_law_1441 dL_law_1443 dL_law_1444 dL_law_1445 hX hL rfl rfl (by omega) ?_
    refine e_lawP (K := lK X) (n := 1449) (Pr := fun M2 => mPo M M2 F 6 (sc xs (i + 1)) (sc xs (i + 2)) 0 (mTh (mHC (sHin F 6 (sc xs (i + 1)) (sc xs (i + 2)) 0)) 0 1 0 0 2)) lk_L_225 rfl dL_law_1446 rfl (C_X7_setTarget (M := M) hF hR (by omega) (by omega) g1 g2) (fun _ q => q) rfl rfl (Nat.le_of_ble_eq_true rfl) (Nat.le_of_ble_eq_true rfl) (Nat.le_of_ble_eq_true rfl) ⟨rfl, rfl⟩ wA_len rfl rfl (fun M2 m => ?_)
    refine EV.eq (st' := [vi (w32 (sDoR F 6 (sc xs (i + 1)) (sc xs (i + 2)) 0))]) (by show [vi (if mTh (mHC (sHin F 6 (sc xs (i + 1)) (sc xs (i + 2)) 0)) 0 1 0 0 2 = 0 then sDoR F 6 (sc xs (i + 1)) (sc xs (i + 2)) 0 else 0)] = _; rw [hV (hTE.trans (exK_n he))]; exact congrArg (fun v => [v]) w32_v) ?_
    refine f_istore (K := lK X) (n := 1451) dL_law_1449 rfl (Nat.le_of_ble_eq_true rfl) rfl ?_
    exact lTail (bb := bb) (i := i) (e := 0) (v := (w32 (sDoR F 6 (sc xs (i + 1)) (sc xs (i + 2)) 0))) (off := 1150) dL_law_1451 dL_law_1452 dL_law_1455 dL_law_1457 dL_law_1462 dL_law_1464 dL_law_1467 dL_law_1468 dL_law_1469 dL_law_1470 dL_law_1472 dL_law_1473 dL_law_1474 dL_law_1479 (by decide) wA_len (by decide) (m.1.trans (hTE.trans (exK_n he))) (fun _ => eU_self) w32_in (kk _ _ _ _ _ _ _ _ _ _ _ _ _ _ _ _ _ _ (SIM_up ((SIM_chg (by decide) hs0 (by omega) m).1 (e0.mp he)) (by omega) hN))
  · have hx3 := exK_in (e1 := xAr) (e2 := xNo) (e3 := "") he
    refine f_istore (K := lK X) (n := 1433) dL_law_1431 rfl (Nat.le_of_ble_eq_true rfl) rfl ?_
    refine e_aload_n (K := lK X) (i := 2) (n := 1434) dL_law_1433 rfl rfl ?_
    refine lArg (k := 1) dL_law_1434 dL_law_1435 dL_law_1437 dL_law_1438 dL_law_1439 hX hL rfl rfl (by omega) ?_
    refine lArg (k := 2) dL_law_1440 dL_law_1441 dL_law_1443 dL_law_1444 dL_law_1445 hX hL rfl rfl (by omega) ?_
    refine e_lawP (K := lK X) (n := 1449) (Pr := fun M2 => mPo M M2 F 6 (sc xs (i + 1)) (sc xs (i + 2)) 0 (mTh (mHC (sHin F 6 (sc xs (i + 1)) (sc xs (i + 2)) 0)) 0 1 0 0 2)) lk_L_225 rfl dL_law_1446 rfl (C_X7_setTarget (M := M) hF hR (by omega) (by omega) g1 g2) (fun _ q => q) rfl rfl (Nat.le_of_ble_eq_true rfl) (Nat.le_of_ble_eq_true rfl) (Nat.le_of_ble_eq_true rfl) ⟨rfl, rfl⟩ wA_len rfl rfl (fun M2 m => ?_)
    refine EV.eq (st' := [vi (w32 (if mTh (mHC (sHin F 6 (sc xs (i + 1)) (sc xs (i + 2)) 0)) 0 1 0 0 2 = 0 then sDoR F 6 (sc xs (i + 1)) (sc xs (i + 2)) 0 else 0))]) (congrArg (fun v => [v]) w32_v) ?_
    refine f_istore (K := lK X) (n := 1451) dL_law_1449 rfl (Nat.le_of_ble_eq_true rfl) rfl ?_
    exact lTail (bb := bb) (i := i) (e := (exK (eEx (sHin F 6 (sc xs (i + 1)) (sc xs (i + 2)) 0)) xAr xNo "")) (v := (w32 (if mTh (mHC (sHin F 6 (sc xs (i + 1)) (sc xs (i + 2)) 0)) 0 1 0 0 2 = 0 then sDoR F 6 (sc xs (i + 1)) (sc xs (i + 2)) 0 else 0))) (off := 1150) dL_law_1451 dL_law_1452 dL_law_1455 dL_law_1457 dL_law_1462 dL_law_1464 dL_law_1467 dL_law_1468 dL_law_1469 dL_law_1470 dL_law_1472 dL_law_1473 dL_law_1474 dL_law_1479 (by decide) wA_len (by omega) (Eq.trans m.1 hTE) (fun q => by exfalso; omega) w32_in (kk _ _ _ _ _ _ _ _ _ _ _ _ _ _ _ _ _ _ (SIM_up ((SIM_chg (by decide) hs0 (by omega) m).2 (fun q => he (e0.mpr q))) (by omega) hN))
set_option maxHeartbeats 1600000 in
theorem LC_targetX {X : eXT} {a : Nat → Nat} {b b' : Nat × Nat} {bb L : Nat} {xs : Nat → Int32} {i N : Int} {z : Nat → Int} {ln : Int → Int} {F : eFs} {P : Int → Int} {D : eFs} {DQ : Int → Int} {S : eFs} {SP : Int → Int} {c n : Int} {h : eHs} {g rc : Int → Int} {T : eFs} {Mt : Int → Int → Int} {M : eFs} {o : Int → Int} {od : Nat → UInt64} (hX : X.2 = some (bb, L, xs)) (hL : L ≤ 2147483647) (hi : 0 ≤ i ∧ i + 4 ≤ L) (hb : 2 + b'.1 ≤ b.1 ∧ 12 + b'.2 ≤ b.2) (hN : N + 2400 ≤ 90000000) (hs : SIM N z ln F S c n h g rc T Mt M) (kk : lG X a bb (N + 2400) i b') :
    EV (lK X) a b (wA a z ln F P D DQ S SP c n h g rc T Mt [] ++ (wM (fun k => a (131 + k)) M ++ [eJ 1 1 o, eDd 1 od])) 1482 (lLs a bb i) [] := by
  have hs0 := hs
  obtain ⟨⟨hF, hC, hA, hR⟩, -, -, ⟨n1, n2, n3, n4, n5, n6, n7, n8, n9, n10⟩, ⟨l1, l2, l3⟩, ⟨hg, hr⟩, hT, hz, ⟨hw, hw4⟩, hN0⟩ := hs
  have hc9 := hF.1
  have hTE : (if ¬ F.1 4 = -1 then (0 : Int) else 1) = exK ((if ¬ F.1 4 = -1 then none else some xNo)) xNo "" "" := by
    exact exK_i1.symm
  have hV : (if ¬ F.1 4 = -1 then (0 : Int) else 1) = 0 → (if (if ¬ F.1 4 = -1 then (0 : Int) else 1) = 0 then F.1 4 else 0 : Int) = F.1 4 := fun q => if_pos q
  refine e_aload_n (K := lK X) (i := 1) (n := 1483) dL_law_1482 rfl rfl ?_
  refine e_aload_n (K := lK X) (i := 3) (n := 1484) dL_law_1483 rfl rfl ?_
  refine e_lawW (K := lK X) (b' := b') (n := 1487) lk_L_226 (by decide) dL_law_1484 rfl (W_targetX hF) rfl rfl (Nat.le_of_ble_eq_true rfl) (Nat.le_of_ble_eq_true rfl) (Nat.le_of_ble_eq_true rfl) ⟨hb.1, hb.2⟩ wA_len wA_len wA_len wM_6 (fun he => ?_) (fun he => ?_)
  · refine EV.eq (st' := [vi 0]) (by show [vi (exK ((if ¬ F.1 4 = -1 then none else some xNo)) xNo "" "")] = _; rw [exK_n he]) ?_
    refine f_istore (K := lK X) (n := 1489) dL_law_1487 rfl (Nat.le_of_ble_eq_true rfl) rfl ?_
    refine e_aload_n (K := lK X) (i := 2) (n := 1490) dL_law_1489 rfl rfl ?_
    refine e_lawQ (K := lK X) (n := 1493) (M2 := sS M 0 (if ¬ F.1 4 = -1 then (0 : Int) else 1)) lk_L_228 rfl dL_law_1490 rfl (C_X7_targetX (M := M) hF hR ) rfl rfl (Nat.le_of_ble_eq_true rfl) (Nat.le_of_ble_eq_true rfl) (Nat.le_of_ble_eq_true rfl) ⟨rfl, rfl⟩ wA_len rfl rfl ?_
    refine EV.eq (st' := [vi (w32 (F.1 4))]) (by show [vi (if (if ¬ F.1 4 = -1 then (0 : Int) else 1) = 0 then F.1 4 else 0)] = _; rw [hV (hTE.trans (exK_n he))]; exact congrArg (fun v => [v]) w32_v) ?_
    refine f_istore (K := lK X) (n := 1495) dL_law_1493 rfl (Nat.le_of_ble_eq_true rfl) rfl ?_
    exact lTail (bb := bb) (i := i) (e := 0) (v := (w32 (F.1 4))) (off := 1106) dL_law_1495 dL_law_1496 dL_law_1499 dL_law_1501 dL_law_1506 dL_law_1508 dL_law_1511 dL_law_1512 dL_law_1513 dL_law_1514 dL_law_1516 dL_law_1517 dL_law_1518 dL_law_1523 (by decide) wA_len (by decide) (sS_0.trans (hTE.trans (exK_n he))) (fun _ => eU_self) w32_in (kk _ _ _ _ _ _ _ _ _ _ _ _ _ _ _ _ _ _ (SIM_up (SIM_eq hs0 mEq_0) (by omega) hN))
  · have hx3 := exK_in (e1 := xNo) (e2 := "") (e3 := "") he
    refine f_istore (K := lK X) (n := 1489) dL_law_1487 rfl (Nat.le_of_ble_eq_true rfl) rfl ?_
    refine e_aload_n (K := lK X) (i := 2) (n := 1490) dL_law_1489 rfl rfl ?_
    refine e_lawQ (K := lK X) (n := 1493) (M2 := sS M 0 (if ¬ F.1 4 = -1 then (0 : Int) else 1)) lk_L_228 rfl dL_law_1490 rfl (C_X7_targetX (M := M) hF hR ) rfl rfl (Nat.le_of_ble_eq_true rfl) (Nat.le_of_ble_eq_true rfl) (Nat.le_of_ble_eq_true rfl) ⟨rfl, rfl⟩ wA_len rfl rfl ?_
    refine EV.eq (st' := [vi (w32 (if (if ¬ F.1 4 = -1 then (0 : Int) else 1) = 0 then F.1 4 else 0))]) (congrArg (fun v => [v]) w32_v) ?_
    refine f_istore (K := lK X) (n := 1495) dL_law_1493 rfl (Nat.le_of_ble_eq_true rfl) rfl ?_
    exact lTail (bb := bb) (i := i) (e := (exK ((if ¬ F.1 4 = -1 then none else some xNo)) xNo "" "")) (v := (w32 (if (if ¬ F.1 4 = -1 then (0 : Int) else 1) = 0 then F.1 4 else 0))) (off := 1106) dL_law_1495 dL_law_1496 dL_law_1499 dL_law_1501 dL_law_1506 dL_law_1508 dL_law_1511 dL_law_1512 dL_law_1513 dL_law_1514 dL_law_1516 dL_law_1517 dL_law_1518 dL_law_1523 (by decide) wA_len (by omega) (Eq.trans sS_0 hTE) (fun q => by exfalso; omega) w32_in (kk _ _ _ _ _ _ _ _ _ _ _ _ _ _ _ _ _ _ (SIM_up (SIM_eq hs0 mEq_0) (by omega) hN))
set_option maxHeartbeats 1600000 in
theorem LC_targetY {X : eXT} {a : Nat → Nat} {b b' : Nat × Nat} {bb L : Nat} {xs : Nat → Int32} {i N : Int} {z : Nat → Int} {ln : Int → Int} {F : eFs} {P : Int → Int} {D : eFs} {DQ : Int → Int} {S : eFs} {SP : Int → Int} {c n : Int} {h : eHs} {g rc : Int → Int} {T : eFs} {Mt : Int → Int → Int} {M : eFs} {o : Int → Int} {od : Nat → UInt64} (hX : X.2 = some (bb, L, xs)) (hL : L ≤ 2147483647) (hi : 0 ≤ i ∧ i + 4 ≤ L) (hb : 2 + b'.1 ≤ b.1 ∧ 12 + b'.2 ≤ b.2) (hN : N + 2400 ≤ 90000000) (hs : SIM N z ln F S c n h g rc T Mt M) (kk : lG X a bb (N + 2400) i b') :
    EV (lK X) a b (wA a z ln F P D DQ S SP c n h g rc T Mt [] ++ (wM (fun k => a (131 + k)) M ++ [eJ 1 1 o, eDd 1 od])) 1526 (lLs a bb i) [] := by
  have hs0 := hs
  obtain ⟨⟨hF, hC, hA, hR⟩, -, -, ⟨n1, n2, n3, n4, n5, n6, n7, n8, n9, n10⟩, ⟨l1, l2, l3⟩, ⟨hg, hr⟩, hT, hz, ⟨hw, hw4⟩, hN0⟩ := hs
  have hc9 := hF.1
  have hTE : (if ¬ F.1 4 = -1 then (0 : Int) else 1) = exK ((if ¬ F.1 4 = -1 then none else some xNo)) xNo "" "" := by
    exact exK_i1.symm
  have hV : (if ¬ F.1 4 = -1 then (0 : Int) else 1) = 0 → (if (if ¬ F.1 4 = -1 then (0 : Int) else 1) = 0 then F.1 5 else 0 : Int) = F.1 5 := fun q => if_pos q
  refine e_aload_n (K := lK X) (i := 1) (n := 1527) dL_law_1526 rfl rfl ?_
  refine e_aload_n (K := lK X) (i := 3) (n := 1528) dL_law_1527 rfl rfl ?_
  refine e_lawW (K := lK X) (b' := b') (n := 1531) lk_L_229 (by decide) dL_law_1528 rfl (W_targetY hF) rfl rfl (Nat.le_of_ble_eq_true rfl) (Nat.le_of_ble_eq_true rfl) (Nat.le_of_ble_eq_true rfl) ⟨hb.1, hb.2⟩ wA_len wA_len wA_len wM_6 (fun he => ?_) (fun he => ?_)
  · refine EV.eq (st' := [vi 0]) (by show [vi (exK ((if ¬ F.1 4 = -1 then none else some xNo)) xNo "" "")] = _; rw [exK_n he]) ?_
    refine f_istore (K := lK X) (n := 1533) dL_law_1531 rfl (Nat.le_of_ble_eq_true rfl) rfl ?_
    refine e_aload_n (K := lK X) (i := 2) (n := 1534) dL_law_1533 rfl rfl ?_
    refine e_lawQ (K := lK X) (n := 1537) (M2 := sS M 0 (if ¬ F.1 4 = -1 then (0 : Int) else 1)) lk_L_231 rfl dL_law_1534 rfl (C_X7_targetY (M := M) hF hR ) rfl rfl (Nat.le_of_ble_eq_true rfl) (Nat.le_of_ble_eq_true rfl) (Nat.le_of_ble_eq_true rfl) ⟨rfl, rfl⟩ wA_len rfl rfl ?_
    refine EV.eq (st' := [vi (w32 (F.1 5))]) (by show [vi (if (if ¬ F.1 4 = -1 then (0 : Int) else 1) = 0 then F.1 5 else 0)] = _; rw [hV (hTE.trans (exK_n he))]; exact congrArg (fun v => [v]) w32_v) ?_
    refine f_istore (K := lK X) (n := 1539) dL_law_1537 rfl (Nat.le_of_ble_eq_true rfl) rfl ?_
    exact lTail (bb := bb) (i := i) (e := 0) (v := (w32 (F.1 5))) (off := 1062) dL_law_1539 dL_law_1540 dL_law_1543 dL_law_1545 dL_law_1550 dL_law_1552 dL_law_1555 dL_law_1556 dL_law_1557 dL_law_1558 dL_law_1560 dL_law_1561 dL_law_1562 dL_law_1567 (by decide) wA_len (by decide) (sS_0.trans (hTE.trans (exK_n he))) (fun _ => eU_self) w32_in (kk _ _ _ _ _ _ _ _ _ _ _ _ _ _ _ _ _ _ (SIM_up (SIM_eq hs0 mEq_0) (by omega) hN))
  · have hx3 := exK_in (e1 := xNo) (e2 := "") (e3 := "") he
    refine f_istore (K := lK X) (n := 1533) dL_law_1531 rfl (Nat.le_of_ble_eq_true rfl) rfl ?_
    refine e_aload_n (K := lK X) (i := 2) (n := 1534) dL_law_1533 rfl rfl ?_
    refine e_lawQ (K := lK X) (n := 1537) (M2 := sS M 0 (if ¬ F.1 4 = -1 then (0 : Int) else 1)) lk_L_231 rfl dL_law_1534 rfl (C_X7_targetY (M := M) hF hR ) rfl rfl (Nat.le_of_ble_eq_true rfl) (Nat.le_of_ble_eq_true rfl) (Nat.le_of_ble_eq_true rfl) ⟨rfl, rfl⟩ wA_len rfl rfl ?_
    refine EV.eq (st' := [vi (w32 (if (if ¬ F.1 4 = -1 then (0 : Int) else 1) = 0 then F.1 5 else 0))]) (congrArg (fun v => [v]) w32_v) ?_
    refine f_istore (K := lK X) (n := 1539) dL_law_1537 rfl (Nat.le_of_ble_eq_true rfl) rfl ?_
    exact lTail (bb := bb) (i := i) (e := (exK ((if ¬ F.1 4 = -1 then none else some xNo)) xNo "" "")) (v := (w32 (if (if ¬ F.1 4 = -1 then (0 : Int) else 1) = 0 then F.1 5 else 0))) (off := 1062) dL_law_1539 dL_law_1540 dL_law_1543 dL_law_1545 dL_law_1550 dL_law_1552 dL_law_1555 dL_law_1556 dL_law_1557 dL_law_1558 dL_law_1560 dL_law_1561 dL_law_1562 dL_law_1567 (by decide) wA_len (by omega) (Eq.trans sS_0 hTE) (fun q => by exfalso; omega) w32_in (kk _ _ _ _ _ _ _ _ _ _ _ _ _ _ _ _ _ _ (SIM_up (SIM_eq hs0 mEq_0) (by omega) hN))
set_option maxHeartbeats 1600000 in
theorem LC_stepsToTarget {X : eXT} {a : Nat → Nat} {b b' : Nat × Nat} {bb L : Nat} {xs : Nat → Int32} {i N : Int} {z : Nat → Int} {ln : Int → Int} {F : eFs} {P : Int → Int} {D : eFs} {DQ : Int → Int} {S : eFs} {SP : Int → Int} {c n : Int} {h : eHs} {g rc : Int → Int} {T : eFs} {Mt : Int → Int → Int} {M : eFs} {o : Int → Int} {od : Nat → UInt64} (hX : X.2 = some (bb, L, xs)) (hL : L ≤ 2147483647) (hi : 0 ≤ i ∧ i + 4 ≤ L) (hb : 2 + b'.1 ≤ b.1 ∧ 12 + b'.2 ≤ b.2) (hN : N + 2400 ≤ 90000000) (hs : SIM N z ln F S c n h g rc T Mt M) (kk : lG X a bb (N + 2400) i b') :
    EV (lK X) a b (wA a z ln F P D DQ S SP c n h g rc T Mt [] ++ (wM (fun k => a (131 + k)) M ++ [eJ 1 1 o, eDd 1 od])) 1570 (lLs a bb i) [] := by
  have hs0 := hs
  obtain ⟨⟨hF, hC, hA, hR⟩, -, -, ⟨n1, n2, n3, n4, n5, n6, n7, n8, n9, n10⟩, ⟨l1, l2, l3⟩, ⟨hg, hr⟩, hT, hz, ⟨hw, hw4⟩, hN0⟩ := hs
  have hc9 := hF.1
  have hTE : (mTT F : Int) = exK ((if ¬ F.1 4 = -1 then (if sHit (sTT F DQ).2.1 then none else some xNo) else some xNo)) xNo "" "" := by
    have w := sTT_P F P0 DQ
    unfold mTT
    by_cases q : ¬ F.1 4 = -1
    · rw [if_pos q, if_pos q]
      by_cases r : sHit (sTT F P0).2.1
      · rw [if_pos r, if_pos (by rw [← w.2]; exact r)]; rfl
      · rw [if_neg r, if_neg (by rw [← w.2]; exact r)]; exact exK_s1.symm
    · rw [if_neg q, if_neg q]; exact exK_s1.symm
  have hV : (mTT F : Int) = 0 → (if (mTT F : Int) = 0 then (sTT F P0).1 else 0 : Int) = (sTT F DQ).1 := fun q => (if_pos q).trans (sTT_P F P0 DQ).1
  refine e_aload_n (K := lK X) (i := 1) (n := 1571) dL_law_1570 rfl rfl ?_
  refine e_aload_n (K := lK X) (i := 3) (n := 1572) dL_law_1571 rfl rfl ?_
  refine e_lawW (K := lK X) (b' := b') (n := 1575) lk_L_232 (by decide) dL_law_1572 rfl (W_stepsToTarget hF (by omega)) rfl rfl (Nat.le_of_ble_eq_true rfl) (Nat.le_of_ble_eq_true rfl) (Nat.le_of_ble_eq_true rfl) ⟨hb.1, hb.2⟩ wA_len wA_len wA_len wM_6 (fun he => ?_) (fun he => ?_)
  · refine EV.eq (st' := [vi 0]) (by show [vi (exK ((if ¬ F.1 4 = -1 then (if sHit (sTT F DQ).2.1 then none else some xNo) else some xNo)) xNo "" "")] = _; rw [exK_n he]) ?_
    refine f_istore (K := lK X) (n := 1577) dL_law_1575 rfl (Nat.le_of_ble_eq_true rfl) rfl ?_
    refine e_aload_n (K := lK X) (i := 2) (n := 1578) dL_law_1577 rfl rfl ?_
    refine e_lawP (K := lK X) (n := 1581) (Pr := fun M2 => mSp M M2 (mTT F : Int)) lk_L_234 rfl dL_law_1578 rfl (C_X7_stepsToTarget (M := M) hF hR (by omega)) (fun _ q => q) rfl rfl (Nat.le_of_ble_eq_true rfl) (Nat.le_of_ble_eq_true rfl) (Nat.le_of_ble_eq_true rfl) ⟨rfl, rfl⟩ wA_len rfl rfl (fun M2 m => ?_)
    refine EV.eq (st' := [vi (w32 ((sTT F DQ).1))]) (by show [vi (if (mTT F : Int) = 0 then (sTT F P0).1 else 0)] = _; rw [hV (hTE.trans (exK_n he))]; exact congrArg (fun v => [v]) w32_v) ?_
    refine f_istore (K := lK X) (n := 1583) dL_law_1581 rfl (Nat.le_of_ble_eq_true rfl) rfl ?_
    exact lTail (bb := bb) (i := i) (e := 0) (v := (w32 ((sTT F DQ).1))) (off := 1018) dL_law_1583 dL_law_1584 dL_law_1587 dL_law_1589 dL_law_1594 dL_law_1596 dL_law_1599 dL_law_1600 dL_law_1601 dL_law_1602 dL_law_1604 dL_law_1605 dL_law_1606 dL_law_1611 (by decide) wA_len (by decide) (m.1.trans (hTE.trans (exK_n he))) (fun _ => eU_self) w32_in (kk _ _ _ _ _ _ _ _ _ _ _ _ _ _ _ _ _ _ (SIM_up (SIM_eq hs0 ⟨fun j h0 _ _ _ _ => m.2.1 j h0, m.2.2.1.1, m.2.2.1.2.2, fun j j0 j1 => m.2.2.2 j j0 (by omega)⟩) (by omega) hN))
  · have hx3 := exK_in (e1 := xNo) (e2 := "") (e3 := "") he
    refine f_istore (K := lK X) (n := 1577) dL_law_1575 rfl (Nat.le_of_ble_eq_true rfl) rfl ?_
    refine e_aload_n (K := lK X) (i := 2) (n := 1578) dL_law_1577 rfl rfl ?_
    refine e_lawP (K := lK X) (n := 1581) (Pr := fun M2 => mSp M M2 (mTT F : Int)) lk_L_234 rfl dL_law_1578 rfl (C_X7_stepsToTarget (M := M) hF hR (by omega)) (fun _ q => q) rfl rfl (Nat.le_of_ble_eq_true rfl) (Nat.le_of_ble_eq_true rfl) (Nat.le_of_ble_eq_true rfl) ⟨rfl, rfl⟩ wA_len rfl rfl (fun M2 m => ?_)
    refine EV.eq (st' := [vi (w32 (if (mTT F : Int) = 0 then (sTT F P0).1 else 0))]) (congrArg (fun v => [v]) w32_v) ?_
    refine f_istore (K := lK X) (n := 1583) dL_law_1581 rfl (Nat.le_of_ble_eq_true rfl) rfl ?_
    exact lTail (bb := bb) (i := i) (e := (exK ((if ¬ F.1 4 = -1 then (if sHit (sTT F DQ).2.1 then none else some xNo) else some xNo)) xNo "" "")) (v := (w32 (if (mTT F : Int) = 0 then (sTT F P0).1 else 0))) (off := 1018) dL_law_1583 dL_law_1584 dL_law_1587 dL_law_1589 dL_law_1594 dL_law_1596 dL_law_1599 dL_law_1600 dL_law_1601 dL_law_1602 dL_law_1604 dL_law_1605 dL_law_1606 dL_law_1611 (by decide) wA_len (by omega) (Eq.trans m.1 hTE) (fun q => by exfalso; omega) w32_in (kk _ _ _ _ _ _ _ _ _ _ _ _ _ _ _ _ _ _ (SIM_up (SIM_eq hs0 ⟨fun j h0 _ _ _ _ => m.2.1 j h0, m.2.2.1.1, m.2.2.1.2.2, fun j j0 j1 => m.2.2.2 j j0 (by omega)⟩) (by omega) hN))
set_option maxHeartbeats 1600000 in
theorem LC_setKeep {X : eXT} {a : Nat → Nat} {b b' : Nat × Nat} {bb L : Nat} {xs : Nat → Int32} {i N : Int} {z : Nat → Int} {ln : Int → Int} {F : eFs} {P : Int → Int} {D : eFs} {DQ : Int → Int} {S : eFs} {SP : Int → Int} {c n : Int} {h : eHs} {g rc : Int → Int} {T : eFs} {Mt : Int → Int → Int} {M : eFs} {o : Int → Int} {od : Nat → UInt64} (hX : X.2 = some (bb, L, xs)) (hL : L ≤ 2147483647) (hi : 0 ≤ i ∧ i + 4 ≤ L) (hb : 2 + b'.1 ≤ b.1 ∧ 12 + b'.2 ≤ b.2) (hN : N + 2400 ≤ 90000000) (hs : SIM N z ln F S c n h g rc T Mt M) (kk : lG X a bb (N + 2400) i b') :
    EV (lK X) a b (wA a z ln F P D DQ S SP c n h g rc T Mt [] ++ (wM (fun k => a (131 + k)) M ++ [eJ 1 1 o, eDd 1 od])) 1614 (lLs a bb i) [] := by
  have hs0 := hs
  obtain ⟨⟨hF, hC, hA, hR⟩, -, -, ⟨n1, n2, n3, n4, n5, n6, n7, n8, n9, n10⟩, ⟨l1, l2, l3⟩, ⟨hg, hr⟩, hT, hz, ⟨hw, hw4⟩, hN0⟩ := hs
  have hc9 := hF.1
  have g1 := sc_in (xs := xs) (z := i + 1)
  have hTE : mTh (mHC (sHin F 7 (sc xs (i + 1)) 0 0)) 0 1 0 0 0 = exK (eEx (sHin F 7 (sc xs (i + 1)) 0 0)) xAr "" "" := by
    rcases hk_7 (F := F) (p := (sc xs (i + 1))) (q := 0) (r := 0) with w | w
      · rw [w]; show (0 : Int) = exK none _ _ _; rfl
      · rw [w]; show (1 : Int) = exK (some xAr) _ _ _; exact exK_s1.symm
  have hV : mTh (mHC (sHin F 7 (sc xs (i + 1)) 0 0)) 0 1 0 0 0 = 0 → (if mTh (mHC (sHin F 7 (sc xs (i + 1)) 0 0)) 0 1 0 0 0 = 0 then sDoR F 7 (sc xs (i + 1)) 0 0 else 0 : Int) = sDoR F 7 (sc xs (i + 1)) 0 0 := fun q => if_pos q
  have e0 : eEx (sHin F 7 (sc xs (i + 1)) 0 0) = none ↔ (sHin F 7 (sc xs (i + 1)) 0 0) = 0 := by
    rcases hk_7 (F := F) (p := (sc xs (i + 1))) (q := 0) (r := 0) with w | w <;> rw [w] <;> decide
  refine e_aload_n (K := lK X) (i := 1) (n := 1615) dL_law_1614 rfl rfl ?_
  refine lArg (k := 1) dL_law_1615 dL_law_1616 dL_law_1618 dL_law_1619 dL_law_1620 hX hL rfl rfl (by omega) ?_
  refine e_aload_n (K := lK X) (i := 3) (n := 1622) dL_law_1621 rfl rfl ?_
  refine e_lawW (K := lK X) (b' := b') (n := 1625) lk_L_235 (by decide) dL_law_1622 rfl (W_setKeep hF n1 n2 g1) rfl rfl (Nat.le_of_ble_eq_true rfl) (Nat.le_of_ble_eq_true rfl) (Nat.le_of_ble_eq_true rfl) ⟨hb.1, hb.2⟩ wA_len wA_len wA_len wM_6 (fun he => ?_) (fun he => ?_)
  · refine EV.eq (st' := [vi 0]) (by show [vi (exK (eEx (sHin F 7 (sc xs (i + 1)) 0 0)) xAr "" "")] = _; rw [exK_n he]) ?_
    refine f_istore (K := lK X) (n := 1627) dL_law_1625 rfl (Nat.le_of_ble_eq_true rfl) rfl ?_
    refine e_aload_n (K := lK X) (i := 2) (n := 1628) dL_law_1627 rfl rfl ?_
    refine lArg (k := 1) dL_law_1628 dL_law_1629 dL_law_1631 dL_law_1632 dL_law_1633 hX hL rfl rfl (by omega) ?_
    refine e_lawP (K := lK X) (n := 1637) (Pr := fun M2 => mPo M M2 F 7 (sc xs (i + 1)) 0 0 (mTh (mHC (sHin F 7 (sc xs (i + 1)) 0 0)) 0 1 0 0 0)) lk_L_237 rfl dL_law_1634 rfl (C_X7_setKeep (M := M) hF hR (by omega) (by omega) g1) (fun _ q => q) rfl rfl (Nat.le_of_ble_eq_true rfl) (Nat.le_of_ble_eq_true rfl) (Nat.le_of_ble_eq_true rfl) ⟨rfl, rfl⟩ wA_len rfl rfl (fun M2 m => ?_)
    refine EV.eq (st' := [vi (w32 (sDoR F 7 (sc xs (i + 1)) 0 0))]) (by show [vi (if mTh (mHC (sHin F 7 (sc xs (i + 1)) 0 0)) 0 1 0 0 0 = 0 then sDoR F 7 (sc xs (i + 1)) 0 0 else 0)] = _; rw [hV (hTE.trans (exK_n he))]; exact congrArg (fun v => [v]) w32_v) ?_
    refine f_istore (K := lK X) (n := 1639) dL_law_1637 rfl (Nat.le_of_ble_eq_true rfl) rfl ?_
    exact lTail (bb := bb) (i := i) (e := 0) (v := (w32 (sDoR F 7 (sc xs (i + 1)) 0 0))) (off := 962) dL_law_1639 dL_law_1640 dL_law_1643 dL_law_1645 dL_law_1650 dL_law_1652 dL_law_1655 dL_law_1656 dL_law_1657 dL_law_1658 dL_law_1660 dL_law_1661 dL_law_1662 dL_law_1667 (by decide) wA_len (by decide) (m.1.trans (hTE.trans (exK_n he))) (fun _ => eU_self) w32_in (kk _ _ _ _ _ _ _ _ _ _ _ _ _ _ _ _ _ _ (SIM_up ((SIM_chg (by decide) hs0 (by omega) m).1 (e0.mp he)) (by omega) hN))
  · have hx3 := exK_in (e1 := xAr) (e2 := "") (e3 := "") he
    refine f_istore (K := lK X) (n := 1627) dL_law_1625 rfl (Nat.le_of_ble_eq_true rfl) rfl ?_
    refine e_aload_n (K := lK X) (i := 2) (n := 1628) dL_law_1627 rfl rfl ?_
    refine lArg (k := 1) dL_law_1628 dL_law_1629 dL_law_1631 dL_law_1632 dL_law_1633 hX hL rfl rfl (by omega) ?_
    refine e_lawP (K := lK X) (n := 1637) (Pr := fun M2 => mPo M M2 F 7 (sc xs (i + 1)) 0 0 (mTh (mHC (sHin F 7 (sc xs (i + 1)) 0 0)) 0 1 0 0 0)) lk_L_237 rfl dL_law_1634 rfl (C_X7_setKeep (M := M) hF hR (by omega) (by omega) g1) (fun _ q => q) rfl rfl (Nat.le_of_ble_eq_true rfl) (Nat.le_of_ble_eq_true rfl) (Nat.le_of_ble_eq_true rfl) ⟨rfl, rfl⟩ wA_len rfl rfl (fun M2 m => ?_)
    refine EV.eq (st' := [vi (w32 (if mTh (mHC (sHin F 7 (sc xs (i + 1)) 0 0)) 0 1 0 0 0 = 0 then sDoR F 7 (sc xs (i + 1)) 0 0 else 0))]) (congrArg (fun v => [v]) w32_v) ?_
    refine f_istore (K := lK X) (n := 1639) dL_law_1637 rfl (Nat.le_of_ble_eq_true rfl) rfl ?_
    exact lTail (bb := bb) (i := i) (e := (exK (eEx (sHin F 7 (sc xs (i + 1)) 0 0)) xAr "" "")) (v := (w32 (if mTh (mHC (sHin F 7 (sc xs (i + 1)) 0 0)) 0 1 0 0 0 = 0 then sDoR F 7 (sc xs (i + 1)) 0 0 else 0))) (off := 962) dL_law_1639 dL_law_1640 dL_law_1643 dL_law_1645 dL_law_1650 dL_law_1652 dL_law_1655 dL_law_1656 dL_law_1657 dL_law_1658 dL_law_1660 dL_law_1661 dL_law_1662 dL_law_1667 (by decide) wA_len (by omega) (Eq.trans m.1 hTE) (fun q => by exfalso; omega) w32_in (kk _ _ _ _ _ _ _ _ _ _ _ _ _ _ _ _ _ _ (SIM_up ((SIM_chg (by decide) hs0 (by omega) m).2 (fun q => he (e0.mpr q))) (by omega) hN))
set_option maxHeartbeats 1600000 in
theorem LC_advance {X : eXT} {a : Nat → Nat} {b b' : Nat × Nat} {bb L : Nat} {xs : Nat → Int32} {i N : Int} {z : Nat → Int} {ln : Int → Int} {F : eFs} {P : Int → Int} {D : eFs} {DQ : Int → Int} {S : eFs} {SP : Int → Int} {c n : Int} {h : eHs} {g rc : Int → Int} {T : eFs} {Mt : Int → Int → Int} {M : eFs} {o : Int → Int} {od : Nat → UInt64} (hX : X.2 = some (bb, L, xs)) (hL : L ≤ 2147483647) (hi : 0 ≤ i ∧ i + 4 ≤ L) (hb : 2 + b'.1 ≤ b.1 ∧ 12 + b'.2 ≤ b.2) (hN : N + 2400 ≤ 90000000) (hs : SIM N z ln F S c n h g rc T Mt M) (kk : lG X a bb (N + 2400) i b') :
    EV (lK X) a b (wA a z ln F P D DQ S SP c n h g rc T Mt [] ++ (wM (fun k => a (131 + k)) M ++ [eJ 1 1 o, eDd 1 od])) 1683 (lLs a bb i) [] := by
  have hs0 := hs
  obtain ⟨⟨hF, hC, hA, hR⟩, -, -, ⟨n1, n2, n3, n4, n5, n6, n7, n8, n9, n10⟩, ⟨l1, l2, l3⟩, ⟨hg, hr⟩, hT, hz, ⟨hw, hw4⟩, hN0⟩ := hs
  have hc9 := hF.1
  have g1 := sc_in (xs := xs) (z := i + 1)
  have hTE : mTh (mHC (sHin F 8 (sc xs (i + 1)) 0 0)) 0 1 0 0 0 = exK (eEx (sHin F 8 (sc xs (i + 1)) 0 0)) xAr "" "" := by
    rcases hk_8 (F := F) (p := (sc xs (i + 1))) (q := 0) (r := 0) with w | w
      · rw [w]; show (0 : Int) = exK none _ _ _; rfl
      · rw [w]; show (1 : Int) = exK (some xAr) _ _ _; exact exK_s1.symm
  have hV : mTh (mHC (sHin F 8 (sc xs (i + 1)) 0 0)) 0 1 0 0 0 = 0 → (if mTh (mHC (sHin F 8 (sc xs (i + 1)) 0 0)) 0 1 0 0 0 = 0 then sDoR F 8 (sc xs (i + 1)) 0 0 else 0 : Int) = sDoR F 8 (sc xs (i + 1)) 0 0 := fun q => if_pos q
  have e0 : eEx (sHin F 8 (sc xs (i + 1)) 0 0) = none ↔ (sHin F 8 (sc xs (i + 1)) 0 0) = 0 := by
    rcases hk_8 (F := F) (p := (sc xs (i + 1))) (q := 0) (r := 0) with w | w <;> rw [w] <;> decide
  refine e_aload_n (K := lK X) (i := 1) (n := 1684) dL_law_1683 rfl rfl ?_
  refine lArg (k := 1) dL_law_1684 dL_law_1685 dL_law_1687 dL_law_1688 dL_law_1689 hX hL rfl rfl (by omega) ?_
  refine e_aload_n (K := lK X) (i := 3) (n := 1691) dL_law_1690 rfl rfl ?_
  refine e_lawW (K := lK X) (b' := b') (n := 1694) lk_L_242 (by decide) dL_law_1691 rfl (W_advance hF n1 n2 (by omega) g1) rfl rfl (Nat.le_of_ble_eq_true rfl) (Nat.le_of_ble_eq_true rfl) (Nat.le_of_ble_eq_true rfl) ⟨hb.1, hb.2⟩ wA_len wA_len wA_len wM_6 (fun he => ?_) (fun he => ?_)
  · refine EV.eq (st' := [vi 0]) (by show [vi (exK (eEx (sHin F 8 (sc xs (i + 1)) 0 0)) xAr "" "")] = _; rw [exK_n he]) ?_
    refine f_istore (K := lK X) (n := 1696) dL_law_1694 rfl (Nat.le_of_ble_eq_true rfl) rfl ?_
    refine e_aload_n (K := lK X) (i := 2) (n := 1697) dL_law_1696 rfl rfl ?_
    refine lArg (k := 1) dL_law_1697 dL_law_1698 dL_law_1700 dL_law_1701 dL_law_1702 hX hL rfl rfl (by omega) ?_
    refine e_lawP (K := lK X) (n := 1706) (Pr := fun M2 => mPo M M2 F 8 (sc xs (i + 1)) 0 0 (mTh (mHC (sHin F 8 (sc xs (i + 1)) 0 0)) 0 1 0 0 0)) lk_L_244 rfl dL_law_1703 rfl (C_X7_advance (M := M) hF hR (by omega) (by omega) g1) (fun _ q => q) rfl rfl (Nat.le_of_ble_eq_true rfl) (Nat.le_of_ble_eq_true rfl) (Nat.le_of_ble_eq_true rfl) ⟨rfl, rfl⟩ wA_len rfl rfl (fun M2 m => ?_)
    refine EV.eq (st' := [vi (w32 (sDoR F 8 (sc xs (i + 1)) 0 0))]) (by show [vi (if mTh (mHC (sHin F 8 (sc xs (i + 1)) 0 0)) 0 1 0 0 0 = 0 then sDoR F 8 (sc xs (i + 1)) 0 0 else 0)] = _; rw [hV (hTE.trans (exK_n he))]; exact congrArg (fun v => [v]) w32_v) ?_
    refine f_istore (K := lK X) (n := 1708) dL_law_1706 rfl (Nat.le_of_ble_eq_true rfl) rfl ?_
    exact lTail (bb := bb) (i := i) (e := 0) (v := (w32 (sDoR F 8 (sc xs (i + 1)) 0 0))) (off := 893) dL_law_1708 dL_law_1709 dL_law_1712 dL_law_1714 dL_law_1719 dL_law_1721 dL_law_1724 dL_law_1725 dL_law_1726 dL_law_1727 dL_law_1729 dL_law_1730 dL_law_1731 dL_law_1736 (by decide) wA_len (by decide) (m.1.trans (hTE.trans (exK_n he))) (fun _ => eU_self) w32_in (kk _ _ _ _ _ _ _ _ _ _ _ _ _ _ _ _ _ _ (SIM_up ((SIM_chg (by decide) hs0 (by omega) m).1 (e0.mp he)) (by omega) hN))
  · have hx3 := exK_in (e1 := xAr) (e2 := "") (e3 := "") he
    refine f_istore (K := lK X) (n := 1696) dL_law_1694 rfl (Nat.le_of_ble_eq_true rfl) rfl ?_
    refine e_aload_n (K := lK X) (i := 2) (n := 1697) dL_law_1696 rfl rfl ?_
    refine lArg (k := 1) dL_law_1697 dL_law_1698 dL_law_1700 dL_law_1701 dL_law_1702 hX hL rfl rfl (by omega) ?_
    refine e_lawP (K := lK X) (n := 1706) (Pr := fun M2 => mPo M M2 F 8 (sc xs (i + 1)) 0 0 (mTh (mHC (sHin F 8 (sc xs (i + 1)) 0 0)) 0 1 0 0 0)) lk_L_244 rfl dL_law_1703 rfl (C_X7_advance (M := M) hF hR (by omega) (by omega) g1) (fun _ q => q) rfl rfl (Nat.le_of_ble_eq_true rfl) (Nat.le_of_ble_eq_true rfl) (Nat.le_of_ble_eq_true rfl) ⟨rfl, rfl⟩ wA_len rfl rfl (fun M2 m => ?_)
    refine EV.eq (st' := [vi (w32 (if mTh (mHC (sHin F 8 (sc xs (i + 1)) 0 0)) 0 1 0 0 0 = 0 then sDoR F 8 (sc xs (i + 1)) 0 0 else 0))]) (congrArg (fun v => [v]) w32_v) ?_
    refine f_istore (K := lK X) (n := 1708) dL_law_1706 rfl (Nat.le_of_ble_eq_true rfl) rfl ?_
    exact lTail (bb := bb) (i := i) (e := (exK (eEx (sHin F 8 (sc xs (i + 1)) 0 0)) xAr "" "")) (v := (w32 (if mTh (mHC (sHin F 8 (sc xs (i + 1)) 0 0)) 0 1 0 0 0 = 0 then sDoR F 8 (sc xs (i + 1)) 0 0 else 0))) (off := 893) dL_law_1708 dL_law_1709 dL_law_1712 dL_law_1714 dL_law_1719 dL_law_1721 dL_law_1724 dL_law_1725 dL_law_1726 dL_law_1727 dL_law_1729 dL_law_1730 dL_law_1731 dL_law_1736 (by decide) wA_len (by omega) (Eq.trans m.1 hTE) (fun q => by exfalso; omega) w32_in (kk _ _ _ _ _ _ _ _ _ _ _ _ _ _ _ _ _ _ (SIM_up ((SIM_chg (by decide) hs0 (by omega) m).2 (fun q => he (e0.mpr q))) (by omega) hN))
set_option maxHeartbeats 1600000 in
theorem LC_movesOf {X : eXT} {a : Nat → Nat} {b b' : Nat × Nat} {bb L : Nat} {xs : Nat → Int32} {i N : Int} {z : Nat → Int} {ln : Int → Int} {F : eFs} {P : Int → Int} {D : eFs} {DQ : Int → Int} {S : eFs} {SP : Int → Int} {c n : Int} {h : eHs} {g rc : Int → Int} {T : eFs} {Mt : Int → Int → Int} {M : eFs} {o : Int → Int} {od : Nat → UInt64} (hX : X.2 = some (bb, L, xs)) (hL : L ≤ 2147483647) (hi : 0 ≤ i ∧ i + 4 ≤ L) (hb : 2 + b'.1 ≤ b.1 ∧ 12 + b'.2 ≤ b.2) (hN : N + 2400 ≤ 90000000) (hs : SIM N z ln F S c n h g rc T Mt M) (kk : lG X a bb (N + 2400) i b') :
    EV (lK X) a b (wA a z ln F P D DQ S SP c n h g rc T Mt [] ++ (wM (fun k => a (131 + k)) M ++ [eJ 1 1 o, eDd 1 od])) 1752 (lLs a bb i) [] := by
  have hs0 := hs
  obtain ⟨⟨hF, hC, hA, hR⟩, -, -, ⟨n1, n2, n3, n4, n5, n6, n7, n8, n9, n10⟩, ⟨l1, l2, l3⟩, ⟨hg, hr⟩, hT, hz, ⟨hw, hw4⟩, hN0⟩ := hs
  have hc9 := hF.1
  have g1 := sc_in (xs := xs) (z := i + 1)
  have hTE : (if sHas F (sc xs (i + 1)) then (0 : Int) else 1) = exK ((if sHas F (sc xs (i + 1)) then none else some xIx)) xIx "" "" := by
    exact exK_i1.symm
  have hV : (if sHas F (sc xs (i + 1)) then (0 : Int) else 1) = 0 → (if (if sHas F (sc xs (i + 1)) then (0 : Int) else 1) = 0 then F.2 3 (sc xs (i + 1)) else 0 : Int) = F.2 3 (sc xs (i + 1)) := fun q => if_pos q
  refine e_aload_n (K := lK X) (i := 1) (n := 1753) dL_law_1752 rfl rfl ?_
  refine lArg (k := 1) dL_law_1753 dL_law_1754 dL_law_1756 dL_law_1757 dL_law_1758 hX hL rfl rfl (by omega) ?_
  refine e_aload_n (K := lK X) (i := 3) (n := 1760) dL_law_1759 rfl rfl ?_
  refine e_lawW (K := lK X) (b' := b') (n := 1763) lk_L_249 (by decide) dL_law_1760 rfl (W_movesOf hF g1) rfl rfl (Nat.le_of_ble_eq_true rfl) (Nat.le_of_ble_eq_true rfl) (Nat.le_of_ble_eq_true rfl) ⟨hb.1, hb.2⟩ wA_len wA_len wA_len wM_6 (fun he => ?_) (fun he => ?_)
  · refine EV.eq (st' := [vi 0]) (by show [vi (exK ((if sHas F (sc xs (i + 1)) then none else some xIx)) xIx "" "")] = _; rw [exK_n he]) ?_
    refine f_istore (K := lK X) (n := 1765) dL_law_1763 rfl (Nat.le_of_ble_eq_true rfl) rfl ?_
    refine e_aload_n (K := lK X) (i := 2) (n := 1766) dL_law_1765 rfl rfl ?_
    refine lArg (k := 1) dL_law_1766 dL_law_1767 dL_law_1769 dL_law_1770 dL_law_1771 hX hL rfl rfl (by omega) ?_
    refine e_lawQ (K := lK X) (n := 1775) (M2 := sS M 0 (if sHas F (sc xs (i + 1)) then (0 : Int) else 1)) lk_L_251 rfl dL_law_1772 rfl (C_X7_movesOf (M := M) hF hR g1) rfl rfl (Nat.le_of_ble_eq_true rfl) (Nat.le_of_ble_eq_true rfl) (Nat.le_of_ble_eq_true rfl) ⟨rfl, rfl⟩ wA_len rfl rfl ?_
    refine EV.eq (st' := [vi (w32 (F.2 3 (sc xs (i + 1))))]) (by show [vi (if (if sHas F (sc xs (i + 1)) then (0 : Int) else 1) = 0 then F.2 3 (sc xs (i + 1)) else 0)] = _; rw [hV (hTE.trans (exK_n he))]; exact congrArg (fun v => [v]) w32_v) ?_
    refine f_istore (K := lK X) (n := 1777) dL_law_1775 rfl (Nat.le_of_ble_eq_true rfl) rfl ?_
    exact lTail (bb := bb) (i := i) (e := 0) (v := (w32 (F.2 3 (sc xs (i + 1))))) (off := 824) dL_law_1777 dL_law_1778 dL_law_1781 dL_law_1783 dL_law_1788 dL_law_1790 dL_law_1793 dL_law_1794 dL_law_1795 dL_law_1796 dL_law_1798 dL_law_1799 dL_law_1800 dL_law_1805 (by decide) wA_len (by decide) (sS_0.trans (hTE.trans (exK_n he))) (fun _ => eU_self) w32_in (kk _ _ _ _ _ _ _ _ _ _ _ _ _ _ _ _ _ _ (SIM_up (SIM_eq hs0 mEq_0) (by omega) hN))
  · have hx3 := exK_in (e1 := xIx) (e2 := "") (e3 := "") he
    refine f_istore (K := lK X) (n := 1765) dL_law_1763 rfl (Nat.le_of_ble_eq_true rfl) rfl ?_
    refine e_aload_n (K := lK X) (i := 2) (n := 1766) dL_law_1765 rfl rfl ?_
    refine lArg (k := 1) dL_law_1766 dL_law_1767 dL_law_1769 dL_law_1770 dL_law_1771 hX hL rfl rfl (by omega) ?_
    refine e_lawQ (K := lK X) (n := 1775) (M2 := sS M 0 (if sHas F (sc xs (i + 1)) then (0 : Int) else 1)) lk_L_251 rfl dL_law_1772 rfl (C_X7_movesOf (M := M) hF hR g1) rfl rfl (Nat.le_of_ble_eq_true rfl) (Nat.le_of_ble_eq_true rfl) (Nat.le_of_ble_eq_true rfl) ⟨rfl, rfl⟩ wA_len rfl rfl ?_
    refine EV.eq (st' := [vi (w32 (if (if sHas F (sc xs (i + 1)) then (0 : Int) else 1) = 0 then F.2 3 (sc xs (i + 1)) else 0))]) (congrArg (fun v => [v]) w32_v) ?_
    refine f_istore (K := lK X) (n := 1777) dL_law_1775 rfl (Nat.le_of_ble_eq_true rfl) rfl ?_
    exact lTail (bb := bb) (i := i) (e := (exK ((if sHas F (sc xs (i + 1)) then none else some xIx)) xIx "" "")) (v := (w32 (if (if sHas F (sc xs (i + 1)) then (0 : Int) else 1) = 0 then F.2 3 (sc xs (i + 1)) else 0))) (off := 824) dL_law_1777 dL_law_1778 dL_law_1781 dL_law_1783 dL_law_1788 dL_law_1790 dL_law_1793 dL_law_1794 dL_law_1795 dL_law_1796 dL_law_1798 dL_law_1799 dL_law_1800 dL_law_1805 (by decide) wA_len (by omega) (Eq.trans sS_0 hTE) (fun q => by exfalso; omega) w32_in (kk _ _ _ _ _ _ _ _ _ _ _ _ _ _ _ _ _ _ (SIM_up (SIM_eq hs0 mEq_0) (by omega) hN))
set_option maxHeartbeats 1600000 in
theorem LC_stepsSinceShape {X : eXT} {a : Nat → Nat} {b b' : Nat × Nat} {bb L : Nat} {xs : Nat → Int32} {i N : Int} {z : Nat → Int} {ln : Int → Int} {F : eFs} {P : Int → Int} {D : eFs} {DQ : Int → Int} {S : eFs} {SP : Int → Int} {c n : Int} {h : eHs} {g rc : Int → Int} {T : eFs} {Mt : Int → Int → Int} {M : eFs} {o : Int → Int} {od : Nat → UInt64} (hX : X.2 = some (bb, L, xs)) (hL : L ≤ 2147483647) (hi : 0 ≤ i ∧ i + 4 ≤ L) (hb : 2 + b'.1 ≤ b.1 ∧ 12 + b'.2 ≤ b.2) (hN : N + 2400 ≤ 90000000) (hs : SIM N z ln F S c n h g rc T Mt M) (kk : lG X a bb (N + 2400) i b') :
    EV (lK X) a b (wA a z ln F P D DQ S SP c n h g rc T Mt [] ++ (wM (fun k => a (131 + k)) M ++ [eJ 1 1 o, eDd 1 od])) 1982 (lLs a bb i) [] := by
  have hs0 := hs
  obtain ⟨⟨hF, hC, hA, hR⟩, -, -, ⟨n1, n2, n3, n4, n5, n6, n7, n8, n9, n10⟩, ⟨l1, l2, l3⟩, ⟨hg, hr⟩, hT, hz, ⟨hw, hw4⟩, hN0⟩ := hs
  have hc9 := hF.1
  have hTE : (if ¬ sSince F = -1 then (0 : Int) else 1) = exK ((if ¬ sSince F = -1 then none else some xNo)) xNo "" "" := by
    exact exK_i1.symm
  have hV : (if ¬ sSince F = -1 then (0 : Int) else 1) = 0 → (if (if ¬ sSince F = -1 then (0 : Int) else 1) = 0 then sSince F else 0 : Int) = sSince F := fun q => if_pos q
  refine e_aload_n (K := lK X) (i := 1) (n := 1983) dL_law_1982 rfl rfl ?_
  refine e_aload_n (K := lK X) (i := 3) (n := 1984) dL_law_1983 rfl rfl ?_
  refine e_lawW (K := lK X) (b' := b') (n := 1987) lk_L_292 (by decide) dL_law_1984 rfl (W_stepsSinceShape hF) rfl rfl (Nat.le_of_ble_eq_true rfl) (Nat.le_of_ble_eq_true rfl) (Nat.le_of_ble_eq_true rfl) ⟨hb.1, hb.2⟩ wA_len wA_len wA_len wM_6 (fun he => ?_) (fun he => ?_)
  · refine EV.eq (st' := [vi 0]) (by show [vi (exK ((if ¬ sSince F = -1 then none else some xNo)) xNo "" "")] = _; rw [exK_n he]) ?_
    refine f_istore (K := lK X) (n := 1989) dL_law_1987 rfl (Nat.le_of_ble_eq_true rfl) rfl ?_
    refine e_aload_n (K := lK X) (i := 2) (n := 1990) dL_law_1989 rfl rfl ?_
    refine e_lawP (K := lK X) (n := 1993) (Pr := fun M2 => ∃ sh : Int → Int, M2 = sR (sS M 0 (if ¬ sSince F = -1 then (0 : Int) else 1)) 1 sh) lk_L_294 rfl dL_law_1990 rfl (C_X7_stepsSinceShape (M := M) hF hR) (fun cs1 q => by obtain ⟨sh, q⟩ := q; exact ⟨_, q, sh, rfl⟩) rfl rfl (Nat.le_of_ble_eq_true rfl) (Nat.le_of_ble_eq_true rfl) (Nat.le_of_ble_eq_true rfl) ⟨rfl, rfl⟩ wA_len rfl rfl (fun M2 m => ?_)
    refine EV.eq (st' := [vi (w32 (sSince F))]) (by show [vi (if (if ¬ sSince F = -1 then (0 : Int) else 1) = 0 then sSince F else 0)] = _; rw [hV (hTE.trans (exK_n he))]; exact congrArg (fun v => [v]) w32_v) ?_
    refine f_istore (K := lK X) (n := 1995) dL_law_1993 rfl (Nat.le_of_ble_eq_true rfl) rfl ?_
    exact lTail (bb := bb) (i := i) (e := 0) (v := (w32 (sSince F))) (off := 606) dL_law_1995 dL_law_1996 dL_law_1999 dL_law_2001 dL_law_2006 dL_law_2008 dL_law_2011 dL_law_2012 dL_law_2013 dL_law_2014 dL_law_2016 dL_law_2017 dL_law_2018 dL_law_2023 (by decide) wA_len (by decide) (Eq.trans (by obtain ⟨sh, e⟩ := m; rw [e]; exact sS_0) (hTE.trans (exK_n he))) (fun _ => eU_self) w32_in (kk _ _ _ _ _ _ _ _ _ _ _ _ _ _ _ _ _ _ (by obtain ⟨sh, e⟩ := m; rw [e]; exact SIM_up (SIM_eq hs0 mEq_sh) (by omega) hN))
  · have hx3 := exK_in (e1 := xNo) (e2 := "") (e3 := "") he
    refine f_istore (K := lK X) (n := 1989) dL_law_1987 rfl (Nat.le_of_ble_eq_true rfl) rfl ?_
    refine e_aload_n (K := lK X) (i := 2) (n := 1990) dL_law_1989 rfl rfl ?_
    refine e_lawP (K := lK X) (n := 1993) (Pr := fun M2 => ∃ sh : Int → Int, M2 = sR (sS M 0 (if ¬ sSince F = -1 then (0 : Int) else 1)) 1 sh) lk_L_294 rfl dL_law_1990 rfl (C_X7_stepsSinceShape (M := M) hF hR) (fun cs1 q => by obtain ⟨sh, q⟩ := q; exact ⟨_, q, sh, rfl⟩) rfl rfl (Nat.le_of_ble_eq_true rfl) (Nat.le_of_ble_eq_true rfl) (Nat.le_of_ble_eq_true rfl) ⟨rfl, rfl⟩ wA_len rfl rfl (fun M2 m => ?_)
    refine EV.eq (st' := [vi (w32 (if (if ¬ sSince F = -1 then (0 : Int) else 1) = 0 then sSince F else 0))]) (congrArg (fun v => [v]) w32_v) ?_
    refine f_istore (K := lK X) (n := 1995) dL_law_1993 rfl (Nat.le_of_ble_eq_true rfl) rfl ?_
    exact lTail (bb := bb) (i := i) (e := (exK ((if ¬ sSince F = -1 then none else some xNo)) xNo "" "")) (v := (w32 (if (if ¬ sSince F = -1 then (0 : Int) else 1) = 0 then sSince F else 0))) (off := 606) dL_law_1995 dL_law_1996 dL_law_1999 dL_law_2001 dL_law_2006 dL_law_2008 dL_law_2011 dL_law_2012 dL_law_2013 dL_law_2014 dL_law_2016 dL_law_2017 dL_law_2018 dL_law_2023 (by decide) wA_len (by omega) (Eq.trans (by obtain ⟨sh, e⟩ := m; rw [e]; exact sS_0) hTE) (fun q => by exfalso; omega) w32_in (kk _ _ _ _ _ _ _ _ _ _ _ _ _ _ _ _ _ _ (by obtain ⟨sh, e⟩ := m; rw [e]; exact SIM_up (SIM_eq hs0 mEq_sh) (by omega) hN))
set_option maxHeartbeats 1600000 in
theorem LC_basketAtRank {X : eXT} {a : Nat → Nat} {b b' : Nat × Nat} {bb L : Nat} {xs : Nat → Int32} {i N : Int} {z : Nat → Int} {ln : Int → Int} {F : eFs} {P : Int → Int} {D : eFs} {DQ : Int → Int} {S : eFs} {SP : Int → Int} {c n : Int} {h : eHs} {g rc : Int → Int} {T : eFs} {Mt : Int → Int → Int} {M : eFs} {o : Int → Int} {od : Nat → UInt64} (hX : X.2 = some (bb, L, xs)) (hL : L ≤ 2147483647) (hi : 0 ≤ i ∧ i + 4 ≤ L) (hb : 2 + b'.1 ≤ b.1 ∧ 12 + b'.2 ≤ b.2) (hN : N + 2400 ≤ 90000000) (hs : SIM N z ln F S c n h g rc T Mt M) (kk : lG X a bb (N + 2400) i b') :
    EV (lK X) a b (wA a z ln F P D DQ S SP c n h g rc T Mt [] ++ (wM (fun k => a (131 + k)) M ++ [eJ 1 1 o, eDd 1 od])) 2026 (lLs a bb i) [] := by
  have hs0 := hs
  obtain ⟨⟨hF, hC, hA, hR⟩, -, -, ⟨n1, n2, n3, n4, n5, n6, n7, n8, n9, n10⟩, ⟨l1, l2, l3⟩, ⟨hg, hr⟩, hT, hz, ⟨hw, hw4⟩, hN0⟩ := hs
  have hc9 := hF.1
  have g1 := sc_in (xs := xs) (z := i + 1)
  have hTE : (if ¬ sWithRk F (sc xs (i + 1)) = -1 then (0 : Int) else 1) = exK ((if ¬ sWithRk F (sc xs (i + 1)) = -1 then none else some xNo)) xNo "" "" := by
    exact exK_i1.symm
  have hV : (if ¬ sWithRk F (sc xs (i + 1)) = -1 then (0 : Int) else 1) = 0 → (if (if ¬ sWithRk F (sc xs (i + 1)) = -1 then (0 : Int) else 1) = 0 then sWithRk F (sc xs (i + 1)) else 0 : Int) = sWithRk F (sc xs (i + 1)) := fun q => if_pos q
  refine e_aload_n (K := lK X) (i := 1) (n := 2027) dL_law_2026 rfl rfl ?_
  refine lArg (k := 1) dL_law_2027 dL_law_2028 dL_law_2030 dL_law_2031 dL_law_2032 hX hL rfl rfl (by omega) ?_
  refine e_aload_n (K := lK X) (i := 3) (n := 2034) dL_law_2033 rfl rfl ?_
  refine e_lawW (K := lK X) (b' := b') (n := 2037) lk_L_295 (by decide) dL_law_2034 rfl (W_basketAtRank hF g1) rfl rfl (Nat.le_of_ble_eq_true rfl) (Nat.le_of_ble_eq_true rfl) (Nat.le_of_ble_eq_true rfl) ⟨hb.1, hb.2⟩ wA_len wA_len wA_len wM_6 (fun he => ?_) (fun he => ?_)
  · refine EV.eq (st' := [vi 0]) (by show [vi (exK ((if ¬ sWithRk F (sc xs (i + 1)) = -1 then none else some xNo)) xNo "" "")] = _; rw [exK_n he]) ?_
    refine f_istore (K := lK X) (n := 2039) dL_law_2037 rfl (Nat.le_of_ble_eq_true rfl) rfl ?_
    refine e_aload_n (K := lK X) (i := 2) (n := 2040) dL_law_2039 rfl rfl ?_
    refine lArg (k := 1) dL_law_2040 dL_law_2041 dL_law_2043 dL_law_2044 dL_law_2045 hX hL rfl rfl (by omega) ?_
    refine e_lawQ (K := lK X) (n := 2049) (M2 := sS M 0 (if ¬ sWithRk F (sc xs (i + 1)) = -1 then (0 : Int) else 1)) lk_L_297 rfl dL_law_2046 rfl (C_X7_basketAtRank (M := M) hF hR g1) rfl rfl (Nat.le_of_ble_eq_true rfl) (Nat.le_of_ble_eq_true rfl) (Nat.le_of_ble_eq_true rfl) ⟨rfl, rfl⟩ wA_len rfl rfl ?_
    refine EV.eq (st' := [vi (w32 (sWithRk F (sc xs (i + 1))))]) (by show [vi (if (if ¬ sWithRk F (sc xs (i + 1)) = -1 then (0 : Int) else 1) = 0 then sWithRk F (sc xs (i + 1)) else 0)] = _; rw [hV (hTE.trans (exK_n he))]; exact congrArg (fun v => [v]) w32_v) ?_
    refine f_istore (K := lK X) (n := 2051) dL_law_2049 rfl (Nat.le_of_ble_eq_true rfl) rfl ?_
    exact lTail (bb := bb) (i := i) (e := 0) (v := (w32 (sWithRk F (sc xs (i + 1))))) (off := 550) dL_law_2051 dL_law_2052 dL_law_2055 dL_law_2057 dL_law_2062 dL_law_2064 dL_law_2067 dL_law_2068 dL_law_2069 dL_law_2070 dL_law_2072 dL_law_2073 dL_law_2074 dL_law_2079 (by decide) wA_len (by decide) (sS_0.trans (hTE.trans (exK_n he))) (fun _ => eU_self) w32_in (kk _ _ _ _ _ _ _ _ _ _ _ _ _ _ _ _ _ _ (SIM_up (SIM_eq hs0 mEq_0) (by omega) hN))
  · have hx3 := exK_in (e1 := xNo) (e2 := "") (e3 := "") he
    refine f_istore (K := lK X) (n := 2039) dL_law_2037 rfl (Nat.le_of_ble_eq_true rfl) rfl ?_
    refine e_aload_n (K := lK X) (i := 2) (n := 2040) dL_law_2039 rfl rfl ?_
    refine lArg (k := 1) dL_law_2040 dL_law_2041 dL_law_2043 dL_law_2044 dL_law_2045 hX hL rfl rfl (by omega) ?_
    refine e_lawQ (K := lK X) (n := 2049) (M2 := sS M 0 (if ¬ sWithRk F (sc xs (i + 1)) = -1 then (0 : Int) else 1)) lk_L_297 rfl dL_law_2046 rfl (C_X7_basketAtRank (M := M) hF hR g1) rfl rfl (Nat.le_of_ble_eq_true rfl) (Nat.le_of_ble_eq_true rfl) (Nat.le_of_ble_eq_true rfl) ⟨rfl, rfl⟩ wA_len rfl rfl ?_
    refine EV.eq (st' := [vi (w32 (if (if ¬ sWithRk F (sc xs (i + 1)) = -1 then (0 : Int) else 1) = 0 then sWithRk F (sc xs (i + 1)) else 0))]) (congrArg (fun v => [v]) w32_v) ?_
    refine f_istore (K := lK X) (n := 2051) dL_law_2049 rfl (Nat.le_of_ble_eq_true rfl) rfl ?_
    exact lTail (bb := bb) (i := i) (e := (exK ((if ¬ sWithRk F (sc xs (i + 1)) = -1 then none else some xNo)) xNo "" "")) (v := (w32 (if (if ¬ sWithRk F (sc xs (i + 1)) = -1 then (0 : Int) else 1) = 0 then sWithRk F (sc xs (i + 1)) else 0))) (off := 550) dL_law_2051 dL_law_2052 dL_law_2055 dL_law_2057 dL_law_2062 dL_law_2064 dL_law_2067 dL_law_2068 dL_law_2069 dL_law_2070 dL_law_2072 dL_law_2073 dL_law_2074 dL_law_2079 (by decide) wA_len (by omega) (Eq.trans sS_0 hTE) (fun q => by exfalso; omega) w32_in (kk _ _ _ _ _ _ _ _ _ _ _ _ _ _ _ _ _ _ (SIM_up (SIM_eq hs0 mEq_0) (by omega) hN))
set_option maxHeartbeats 1600000 in
theorem LC_append {X : eXT} {a : Nat → Nat} {b b' : Nat × Nat} {bb L : Nat} {xs : Nat → Int32} {i N : Int} {z : Nat → Int} {ln : Int → Int} {F : eFs} {P : Int → Int} {D : eFs} {DQ : Int → Int} {S : eFs} {SP : Int → Int} {c n : Int} {h : eHs} {g rc : Int → Int} {T : eFs} {Mt : Int → Int → Int} {M : eFs} {o : Int → Int} {od : Nat → UInt64} (hX : X.2 = some (bb, L, xs)) (hL : L ≤ 2147483647) (hi : 0 ≤ i ∧ i + 4 ≤ L) (hb : 2 + b'.1 ≤ b.1 ∧ 12 + b'.2 ≤ b.2) (hN : N + 2400 ≤ 90000000) (hs : SIM N z ln F S c n h g rc T Mt M) (kk : lG X a bb (N + 2400) i b') :
    EV (lK X) a b (wA a z ln F P D DQ S SP c n h g rc T Mt [] ++ (wM (fun k => a (131 + k)) M ++ [eJ 1 1 o, eDd 1 od])) 2082 (lLs a bb i) [] := by
  have hs0 := hs
  obtain ⟨⟨hF, hC, hA, hR⟩, -, -, ⟨n1, n2, n3, n4, n5, n6, n7, n8, n9, n10⟩, ⟨l1, l2, l3⟩, ⟨hg, hr⟩, hT, hz, ⟨hw, hw4⟩, hN0⟩ := hs
  have hc9 := hF.1
  have g1 := sc_in (xs := xs) (z := i + 1)
  have gc := lowc_in (x := sc xs (i + 1))
  have hTE : (if 32 ≤ (lowc (sc xs (i + 1))) ∧ (lowc (sc xs (i + 1))) ≤ 126 then (if M.1 6 = 60 then (2 : Int) else 0) else 1) = exK ((if 32 ≤ (lowc (sc xs (i + 1))) ∧ (lowc (sc xs (i + 1))) ≤ 126 then (if T.1 0 < 60 then none else some xSt) else some xAr)) xAr xSt "" := by
    have t1 := hT.1
    rw [exK_i2 (by decide)]
    (repeat' split) <;> first | rfl | contradiction | (exfalso; omega)
  have hV : (if 32 ≤ (lowc (sc xs (i + 1))) ∧ (lowc (sc xs (i + 1))) ≤ 126 then (if M.1 6 = 60 then (2 : Int) else 0) else 1) = 0 → (if (if 32 ≤ (lowc (sc xs (i + 1))) ∧ (lowc (sc xs (i + 1))) ≤ 126 then (if M.1 6 = 60 then (2 : Int) else 0) else 1) = 0 then M.1 6 + 1 else 0 : Int) = T.1 0 + 1 := fun q => (if_pos q).trans (by rw [n6])
  have e0 : (if 32 ≤ (lowc (sc xs (i + 1))) ∧ (lowc (sc xs (i + 1))) ≤ 126 then (if T.1 0 < 60 then none else some xSt) else some xAr : Option String) = none ↔ ((32 ≤ (lowc (sc xs (i + 1))) ∧ (lowc (sc xs (i + 1))) ≤ 126) ∧ T.1 0 < 60) := by (repeat' split) <;> simp_all
  refine e_aload_n (K := lK X) (i := 1) (n := 2083) dL_law_2082 rfl rfl ?_
  refine lArg (k := 1) dL_law_2083 dL_law_2084 dL_law_2086 dL_law_2087 dL_law_2088 hX hL rfl rfl (by omega) ?_
  refine e_i2cr (K := lK X) (n := 2090) (y := lowc (sc xs (i + 1))) dL_law_2089 rfl lowc_v ?_
  refine e_aload_n (K := lK X) (i := 3) (n := 2091) dL_law_2090 rfl rfl ?_
  refine e_lawW (K := lK X) (b' := b') (n := 2094) lk_L_298 (by decide) dL_law_2091 rfl (W_append hT gc) rfl rfl (Nat.le_of_ble_eq_true rfl) (Nat.le_of_ble_eq_true rfl) (Nat.le_of_ble_eq_true rfl) ⟨hb.1, hb.2⟩ wA_len wA_len wA_len wM_6 (fun he => ?_) (fun he => ?_)
  · refine EV.eq (st' := [vi 0]) (by show [vi (exK ((if 32 ≤ (lowc (sc xs (i + 1))) ∧ (lowc (sc xs (i + 1))) ≤ 126 then (if T.1 0 < 60 then none else some xSt) else some xAr)) xAr xSt "")] = _; rw [exK_n he]) ?_
    refine f_istore (K := lK X) (n := 2096) dL_law_2094 rfl (Nat.le_of_ble_eq_true rfl) rfl ?_
    refine e_aload_n (K := lK X) (i := 2) (n := 2097) dL_law_2096 rfl rfl ?_
    refine lArg (k := 1) dL_law_2097 dL_law_2098 dL_law_2100 dL_law_2101 dL_law_2102 hX hL rfl rfl (by omega) ?_
    refine e_i2cr (K := lK X) (n := 2104) (y := lowc (sc xs (i + 1))) dL_law_2103 rfl lowc_v ?_
    refine e_lawQ (K := lK X) (n := 2107) (M2 := mApp M (lowc (sc xs (i + 1)))) lk_L_301 rfl dL_law_2104 rfl (C_X7_append (M := M) gc (by have := hT.1; omega)) rfl rfl (Nat.le_of_ble_eq_true rfl) (Nat.le_of_ble_eq_true rfl) (Nat.le_of_ble_eq_true rfl) ⟨rfl, rfl⟩ wA_len rfl rfl ?_
    refine EV.eq (st' := [vi (w32 (T.1 0 + 1))]) (by show [vi (if (if 32 ≤ (lowc (sc xs (i + 1))) ∧ (lowc (sc xs (i + 1))) ≤ 126 then (if M.1 6 = 60 then (2 : Int) else 0) else 1) = 0 then M.1 6 + 1 else 0)] = _; rw [hV (hTE.trans (exK_n he))]; exact congrArg (fun v => [v]) w32_v) ?_
    refine f_istore (K := lK X) (n := 2109) dL_law_2107 rfl (Nat.le_of_ble_eq_true rfl) rfl ?_
    exact lTail (bb := bb) (i := i) (e := 0) (v := (w32 (T.1 0 + 1))) (off := 492) dL_law_2109 dL_law_2110 dL_law_2113 dL_law_2115 dL_law_2120 dL_law_2122 dL_law_2125 dL_law_2126 dL_law_2127 dL_law_2128 dL_law_2130 dL_law_2131 dL_law_2132 dL_law_2137 (by decide) wA_len (by decide) (Eq.trans (by unfold mApp; (repeat' split) <;> rfl) (hTE.trans (exK_n he))) (fun _ => eU_self) w32_in (kk _ _ _ _ _ _ _ _ _ _ _ _ _ _ _ _ _ _ (SIM_up ((SIM_app hs0).1 (e0.mp he)) (by omega) hN))
  · have hx3 := exK_in (e1 := xAr) (e2 := xSt) (e3 := "") he
    refine f_istore (K := lK X) (n := 2096) dL_law_2094 rfl (Nat.le_of_ble_eq_true rfl) rfl ?_
    refine e_aload_n (K := lK X) (i := 2) (n := 2097) dL_law_2096 rfl rfl ?_
    refine lArg (k := 1) dL_law_2097 dL_law_2098 dL_law_2100 dL_law_2101 dL_law_2102 hX hL rfl rfl (by omega) ?_
    refine e_i2cr (K := lK X) (n := 2104) (y := lowc (sc xs (i + 1))) dL_law_2103 rfl lowc_v ?_
    refine e_lawQ (K := lK X) (n := 2107) (M2 := mApp M (lowc (sc xs (i + 1)))) lk_L_301 rfl dL_law_2104 rfl (C_X7_append (M := M) gc (by have := hT.1; omega)) rfl rfl (Nat.le_of_ble_eq_true rfl) (Nat.le_of_ble_eq_true rfl) (Nat.le_of_ble_eq_true rfl) ⟨rfl, rfl⟩ wA_len rfl rfl ?_
    refine EV.eq (st' := [vi (w32 (if (if 32 ≤ (lowc (sc xs (i + 1))) ∧ (lowc (sc xs (i + 1))) ≤ 126 then (if M.1 6 = 60 then (2 : Int) else 0) else 1) = 0 then M.1 6 + 1 else 0))]) (congrArg (fun v => [v]) w32_v) ?_
    refine f_istore (K := lK X) (n := 2109) dL_law_2107 rfl (Nat.le_of_ble_eq_true rfl) rfl ?_
    exact lTail (bb := bb) (i := i) (e := (exK ((if 32 ≤ (lowc (sc xs (i + 1))) ∧ (lowc (sc xs (i + 1))) ≤ 126 then (if T.1 0 < 60 then none else some xSt) else some xAr)) xAr xSt "")) (v := (w32 (if (if 32 ≤ (lowc (sc xs (i + 1))) ∧ (lowc (sc xs (i + 1))) ≤ 126 then (if M.1 6 = 60 then (2 : Int) else 0) else 1) = 0 then M.1 6 + 1 else 0))) (off := 492) dL_law_2109 dL_law_2110 dL_law_2113 dL_law_2115 dL_law_2120 dL_law_2122 dL_law_2125 dL_law_2126 dL_law_2127 dL_law_2128 dL_law_2130 dL_law_2131 dL_law_2132 dL_law_2137 (by decide) wA_len (by omega) (Eq.trans (by unfold mApp; (repeat' split) <;> rfl) hTE) (fun q => by exfalso; omega) w32_in (kk _ _ _ _ _ _ _ _ _ _ _ _ _ _ _ _ _ _ (SIM_up ((SIM_app hs0).2 (fun q => he (e0.mpr q))) (by omega) hN))
set_option maxHeartbeats 1600000 in
theorem LC_run {X : eXT} {a : Nat → Nat} {b b' : Nat × Nat} {bb L : Nat} {xs : Nat → Int32} {i N : Int} {z : Nat → Int} {ln : Int → Int} {F : eFs} {P : Int → Int} {D : eFs} {DQ : Int → Int} {S : eFs} {SP : Int → Int} {c n : Int} {h : eHs} {g rc : Int → Int} {T : eFs} {Mt : Int → Int → Int} {M : eFs} {o : Int → Int} {od : Nat → UInt64} (hX : X.2 = some (bb, L, xs)) (hL : L ≤ 2147483647) (hi : 0 ≤ i ∧ i + 4 ≤ L) (hb : 2 + b'.1 ≤ b.1 ∧ 12 + b'.2 ≤ b.2) (hN : N + 2400 ≤ 90000000) (hs : SIM N z ln F S c n h g rc T Mt M) (kk : lG X a bb (N + 2400) i b') :
    EV (lK X) a b (wA a z ln F P D DQ S SP c n h g rc T Mt [] ++ (wM (fun k => a (131 + k)) M ++ [eJ 1 1 o, eDd 1 od])) 2140 (lLs a bb i) [] := by
  have hs0 := hs
  obtain ⟨⟨hF, hC, hA, hR⟩, -, -, ⟨n1, n2, n3, n4, n5, n6, n7, n8, n9, n10⟩, ⟨l1, l2, l3⟩, ⟨hg, hr⟩, hT, hz, ⟨hw, hw4⟩, hN0⟩ := hs
  have hc9 := hF.1
  have hTE : mRT M F (T.2 1) Mt = exK ((if (tPR T Mt).1 = -1 then (if (sRn ((tPR T Mt).2.2.2.1) ((tPR T Mt).2.2.2.2) ((tPR T Mt).2.1 - 0).toNat 0 F DQ).1 = -1 then none else some xSt) else some xAr)) xAr xSt "" := by
    rw [exK_i2 (by decide)]
    unfold mRT mRN
    rw [← mPR_t n6 n7, (sRn_P (tPR T Mt).2.2.2.1 (tPR T Mt).2.2.2.2 ((tPR T Mt).2.1 - 0).toNat 0 F P0 DQ).1]
  have hV : mRT M F (T.2 1) Mt = 0 → (if mRT M F (T.2 1) Mt = 0 then (mPR M (T.2 1) Mt).2.1 else 0 : Int) = (tPR T Mt).2.1 := fun q => (if_pos q).trans (by rw [← mPR_t n6 n7])
  have e0 : (if (tPR T Mt).1 = -1 then (if (sRn (tPR T Mt).2.2.2.1 (tPR T Mt).2.2.2.2 ((tPR T Mt).2.1 - 0).toNat 0 F DQ).1 = -1 then none else some xSt) else some xAr : Option String) = none ↔ ((tPR T Mt).1 = -1 ∧ (sRn (tPR T Mt).2.2.2.1 (tPR T Mt).2.2.2.2 ((tPR T Mt).2.1 - 0).toNat 0 F DQ).1 = -1) := by (repeat' split) <;> simp_all
  refine e_aload_n (K := lK X) (i := 1) (n := 2141) dL_law_2140 rfl rfl ?_
  refine e_aload_n (K := lK X) (i := 3) (n := 2142) dL_law_2141 rfl rfl ?_
  refine e_lawW (K := lK X) (b' := b') (n := 2145) lk_L_302 (by decide) dL_law_2142 rfl (W_run hF hT hz n1 n2 hC (by omega)) rfl rfl (Nat.le_of_ble_eq_true rfl) (Nat.le_of_ble_eq_true rfl) (Nat.le_of_ble_eq_true rfl) ⟨hb.1, hb.2⟩ wA_len wA_len wA_len wM_6 (fun he => ?_) (fun he => ?_)
  · refine EV.eq (st' := [vi 0]) (by show [vi (exK ((if (tPR T Mt).1 = -1 then (if (sRn ((tPR T Mt).2.2.2.1) ((tPR T Mt).2.2.2.2) ((tPR T Mt).2.1 - 0).toNat 0 F DQ).1 = -1 then none else some xSt) else some xAr)) xAr xSt "")] = _; rw [exK_n he]) ?_
    refine f_istore (K := lK X) (n := 2147) dL_law_2145 rfl (Nat.le_of_ble_eq_true rfl) rfl ?_
    refine e_aload_n (K := lK X) (i := 2) (n := 2148) dL_law_2147 rfl rfl ?_
    refine e_lawP (K := lK X) (n := 2151) (Pr := fun M2 => mRu M M2 F (T.2 1) Mt) lk_L_304 rfl dL_law_2148 rfl (C_X7_run (M := M) (Kc := T.2 1) (Mc := Mt) hF hR ⟨by have := hT.1; omega, by rw [← n7]; exact hT.2.2.2.1⟩ (by omega) (by omega) (by rw [← mPR_t n6 n7]; exact (tPR_in hT).2.2.2.1) (by rw [← mPR_t n6 n7]; exact (tPR_in hT).2.2.2.2)) (fun _ q => q) rfl rfl (Nat.le_of_ble_eq_true rfl) (Nat.le_of_ble_eq_true rfl) (Nat.le_of_ble_eq_true rfl) ⟨rfl, rfl⟩ wA_len rfl rfl (fun M2 m => ?_)
    refine EV.eq (st' := [vi (w32 ((tPR T Mt).2.1))]) (by show [vi (if mRT M F (T.2 1) Mt = 0 then (mPR M (T.2 1) Mt).2.1 else 0)] = _; rw [hV (hTE.trans (exK_n he))]; exact congrArg (fun v => [v]) w32_v) ?_
    refine f_istore (K := lK X) (n := 2153) dL_law_2151 rfl (Nat.le_of_ble_eq_true rfl) rfl ?_
    exact lTail (bb := bb) (i := i) (e := 0) (v := (w32 ((tPR T Mt).2.1))) (off := 448) dL_law_2153 dL_law_2154 dL_law_2157 dL_law_2159 dL_law_2164 dL_law_2166 dL_law_2169 dL_law_2170 dL_law_2171 dL_law_2172 dL_law_2174 dL_law_2175 dL_law_2176 dL_law_2181 (by decide) wA_len (by decide) (m.1.trans (hTE.trans (exK_n he))) (fun _ => eU_self) w32_in (kk _ _ _ _ _ _ _ _ _ _ _ _ _ _ _ _ _ _ ((SIM_run (DQ := DQ) hs0 hN m).2.1 (e0.mp he).1 (e0.mp he).2))
  · have hx3 := exK_in (e1 := xAr) (e2 := xSt) (e3 := "") he
    refine f_istore (K := lK X) (n := 2147) dL_law_2145 rfl (Nat.le_of_ble_eq_true rfl) rfl ?_
    refine e_aload_n (K := lK X) (i := 2) (n := 2148) dL_law_2147 rfl rfl ?_
    refine e_lawP (K := lK X) (n := 2151) (Pr := fun M2 => mRu M M2 F (T.2 1) Mt) lk_L_304 rfl dL_law_2148 rfl (C_X7_run (M := M) (Kc := T.2 1) (Mc := Mt) hF hR ⟨by have := hT.1; omega, by rw [← n7]; exact hT.2.2.2.1⟩ (by omega) (by omega) (by rw [← mPR_t n6 n7]; exact (tPR_in hT).2.2.2.1) (by rw [← mPR_t n6 n7]; exact (tPR_in hT).2.2.2.2)) (fun _ q => q) rfl rfl (Nat.le_of_ble_eq_true rfl) (Nat.le_of_ble_eq_true rfl) (Nat.le_of_ble_eq_true rfl) ⟨rfl, rfl⟩ wA_len rfl rfl (fun M2 m => ?_)
    refine EV.eq (st' := [vi (w32 (if mRT M F (T.2 1) Mt = 0 then (mPR M (T.2 1) Mt).2.1 else 0))]) (congrArg (fun v => [v]) w32_v) ?_
    refine f_istore (K := lK X) (n := 2153) dL_law_2151 rfl (Nat.le_of_ble_eq_true rfl) rfl ?_
    exact lTail (bb := bb) (i := i) (e := (exK ((if (tPR T Mt).1 = -1 then (if (sRn ((tPR T Mt).2.2.2.1) ((tPR T Mt).2.2.2.2) ((tPR T Mt).2.1 - 0).toNat 0 F DQ).1 = -1 then none else some xSt) else some xAr)) xAr xSt "")) (v := (w32 (if mRT M F (T.2 1) Mt = 0 then (mPR M (T.2 1) Mt).2.1 else 0))) (off := 448) dL_law_2153 dL_law_2154 dL_law_2157 dL_law_2159 dL_law_2164 dL_law_2166 dL_law_2169 dL_law_2170 dL_law_2171 dL_law_2172 dL_law_2174 dL_law_2175 dL_law_2176 dL_law_2181 (by decide) wA_len (by omega) (Eq.trans m.1 hTE) (fun q => by exfalso; omega) w32_in (kk _ _ _ _ _ _ _ _ _ _ _ _ _ _ _ _ _ _ (by
          by_cases q1 : (tPR T Mt).1 = -1
          · have w := (SIM_run (DQ := DQ) hs0 hN m).2.2.1 q1 (fun q2 => he (e0.mpr ⟨q1, q2⟩))
            simp only [if_pos q1]
            exact w
          · have w := (SIM_run (DQ := DQ) hs0 hN m).2.2.2 q1
            simp only [if_neg q1]
            exact w))
set_option maxHeartbeats 1600000 in
theorem LC_errorPosition {X : eXT} {a : Nat → Nat} {b b' : Nat × Nat} {bb L : Nat} {xs : Nat → Int32} {i N : Int} {z : Nat → Int} {ln : Int → Int} {F : eFs} {P : Int → Int} {D : eFs} {DQ : Int → Int} {S : eFs} {SP : Int → Int} {c n : Int} {h : eHs} {g rc : Int → Int} {T : eFs} {Mt : Int → Int → Int} {M : eFs} {o : Int → Int} {od : Nat → UInt64} (hX : X.2 = some (bb, L, xs)) (hL : L ≤ 2147483647) (hi : 0 ≤ i ∧ i + 4 ≤ L) (hb : 2 + b'.1 ≤ b.1 ∧ 12 + b'.2 ≤ b.2) (hN : N + 2400 ≤ 90000000) (hs : SIM N z ln F S c n h g rc T Mt M) (kk : lG X a bb (N + 2400) i b') :
    EV (lK X) a b (wA a z ln F P D DQ S SP c n h g rc T Mt [] ++ (wM (fun k => a (131 + k)) M ++ [eJ 1 1 o, eDd 1 od])) 2184 (lLs a bb i) [] := by
  have hs0 := hs
  obtain ⟨⟨hF, hC, hA, hR⟩, -, -, ⟨n1, n2, n3, n4, n5, n6, n7, n8, n9, n10⟩, ⟨l1, l2, l3⟩, ⟨hg, hr⟩, hT, hz, ⟨hw, hw4⟩, hN0⟩ := hs
  have hc9 := hF.1
  have hTE : (if ¬ M.1 9 = -1 then (0 : Int) else 1) = exK ((if ¬ z 0 = -1 then none else some xNo)) xNo "" "" := by
    rw [exK_i1, n8]
  have hV : (if ¬ M.1 9 = -1 then (0 : Int) else 1) = 0 → (if (if ¬ M.1 9 = -1 then (0 : Int) else 1) = 0 then M.1 9 else 0 : Int) = z 0 := fun q => (if_pos q).trans n8.symm
  refine e_aload_n (K := lK X) (i := 1) (n := 2185) dL_law_2184 rfl rfl ?_
  refine e_aload_n (K := lK X) (i := 3) (n := 2186) dL_law_2185 rfl rfl ?_
  refine e_lawW (K := lK X) (b' := b') (n := 2189) lk_L_305 (by decide) dL_law_2186 rfl (W_errorPosition hF hz) rfl rfl (Nat.le_of_ble_eq_true rfl) (Nat.le_of_ble_eq_true rfl) (Nat.le_of_ble_eq_true rfl) ⟨hb.1, hb.2⟩ wA_len wA_len wA_len wM_6 (fun he => ?_) (fun he => ?_)
  · refine EV.eq (st' := [vi 0]) (by show [vi (exK ((if ¬ z 0 = -1 then none else some xNo)) xNo "" "")] = _; rw [exK_n he]) ?_
    refine f_istore (K := lK X) (n := 2191) dL_law_2189 rfl (Nat.le_of_ble_eq_true rfl) rfl ?_
    refine e_aload_n (K := lK X) (i := 2) (n := 2192) dL_law_2191 rfl rfl ?_
    refine e_lawQ (K := lK X) (n := 2195) (M2 := sS M 0 (if ¬ M.1 9 = -1 then (0 : Int) else 1)) lk_L_307 rfl dL_law_2192 rfl (C_X7_errorPosition (M := M) (by have := hz.1; omega)) rfl rfl (Nat.le_of_ble_eq_true rfl) (Nat.le_of_ble_eq_true rfl) (Nat.le_of_ble_eq_true rfl) ⟨rfl, rfl⟩ wA_len rfl rfl ?_
    refine EV.eq (st' := [vi (w32 (z 0))]) (by show [vi (if (if ¬ M.1 9 = -1 then (0 : Int) else 1) = 0 then M.1 9 else 0)] = _; rw [hV (hTE.trans (exK_n he))]; exact congrArg (fun v => [v]) w32_v) ?_
    refine f_istore (K := lK X) (n := 2197) dL_law_2195 rfl (Nat.le_of_ble_eq_true rfl) rfl ?_
    exact lTail (bb := bb) (i := i) (e := 0) (v := (w32 (z 0))) (off := 404) dL_law_2197 dL_law_2198 dL_law_2201 dL_law_2203 dL_law_2208 dL_law_2210 dL_law_2213 dL_law_2214 dL_law_2215 dL_law_2216 dL_law_2218 dL_law_2219 dL_law_2220 dL_law_2225 (by decide) wA_len (by decide) (sS_0.trans (hTE.trans (exK_n he))) (fun _ => eU_self) w32_in (kk _ _ _ _ _ _ _ _ _ _ _ _ _ _ _ _ _ _ (SIM_up (SIM_eq hs0 mEq_0) (by omega) hN))
  · have hx3 := exK_in (e1 := xNo) (e2 := "") (e3 := "") he
    refine f_istore (K := lK X) (n := 2191) dL_law_2189 rfl (Nat.le_of_ble_eq_true rfl) rfl ?_
    refine e_aload_n (K := lK X) (i := 2) (n := 2192) dL_law_2191 rfl rfl ?_
    refine e_lawQ (K := lK X) (n := 2195) (M2 := sS M 0 (if ¬ M.1 9 = -1 then (0 : Int) else 1)) lk_L_307 rfl dL_law_2192 rfl (C_X7_errorPosition (M := M) (by have := hz.1; omega)) rfl rfl (Nat.le_of_ble_eq_true rfl) (Nat.le_of_ble_eq_true rfl) (Nat.le_of_ble_eq_true rfl) ⟨rfl, rfl⟩ wA_len rfl rfl ?_
    refine EV.eq (st' := [vi (w32 (if (if ¬ M.1 9 = -1 then (0 : Int) else 1) = 0 then M.1 9 else 0))]) (congrArg (fun v => [v]) w32_v) ?_
    refine f_istore (K := lK X) (n := 2197) dL_law_2195 rfl (Nat.le_of_ble_eq_true rfl) rfl ?_
    exact lTail (bb := bb) (i := i) (e := (exK ((if ¬ z 0 = -1 then none else some xNo)) xNo "" "")) (v := (w32 (if (if ¬ M.1 9 = -1 then (0 : Int) else 1) = 0 then M.1 9 else 0))) (off := 404) dL_law_2197 dL_law_2198 dL_law_2201 dL_law_2203 dL_law_2208 dL_law_2210 dL_law_2213 dL_law_2214 dL_law_2215 dL_law_2216 dL_law_2218 dL_law_2219 dL_law_2220 dL_law_2225 (by decide) wA_len (by omega) (Eq.trans sS_0 hTE) (fun q => by exfalso; omega) w32_in (kk _ _ _ _ _ _ _ _ _ _ _ _ _ _ _ _ _ _ (SIM_up (SIM_eq hs0 mEq_0) (by omega) hN))
set_option maxHeartbeats 1600000 in
theorem LC_failedCommand {X : eXT} {a : Nat → Nat} {b b' : Nat × Nat} {bb L : Nat} {xs : Nat → Int32} {i N : Int} {z : Nat → Int} {ln : Int → Int} {F : eFs} {P : Int → Int} {D : eFs} {DQ : Int → Int} {S : eFs} {SP : Int → Int} {c n : Int} {h : eHs} {g rc : Int → Int} {T : eFs} {Mt : Int → Int → Int} {M : eFs} {o : Int → Int} {od : Nat → UInt64} (hX : X.2 = some (bb, L, xs)) (hL : L ≤ 2147483647) (hi : 0 ≤ i ∧ i + 4 ≤ L) (hb : 2 + b'.1 ≤ b.1 ∧ 12 + b'.2 ≤ b.2) (hN : N + 2400 ≤ 90000000) (hs : SIM N z ln F S c n h g rc T Mt M) (kk : lG X a bb (N + 2400) i b') :
    EV (lK X) a b (wA a z ln F P D DQ S SP c n h g rc T Mt [] ++ (wM (fun k => a (131 + k)) M ++ [eJ 1 1 o, eDd 1 od])) 2228 (lLs a bb i) [] := by
  have hs0 := hs
  obtain ⟨⟨hF, hC, hA, hR⟩, -, -, ⟨n1, n2, n3, n4, n5, n6, n7, n8, n9, n10⟩, ⟨l1, l2, l3⟩, ⟨hg, hr⟩, hT, hz, ⟨hw, hw4⟩, hN0⟩ := hs
  have hc9 := hF.1
  have hTE : (if ¬ M.1 10 = -1 then (0 : Int) else 1) = exK ((if ¬ z 1 = -1 then none else some xNo)) xNo "" "" := by
    rw [exK_i1, n9]
  have hV : (if ¬ M.1 10 = -1 then (0 : Int) else 1) = 0 → (if (if ¬ M.1 10 = -1 then (0 : Int) else 1) = 0 then M.1 10 else 0 : Int) = z 1 := fun q => (if_pos q).trans n9.symm
  refine e_aload_n (K := lK X) (i := 1) (n := 2229) dL_law_2228 rfl rfl ?_
  refine e_aload_n (K := lK X) (i := 3) (n := 2230) dL_law_2229 rfl rfl ?_
  refine e_lawW (K := lK X) (b' := b') (n := 2233) lk_L_308 (by decide) dL_law_2230 rfl (W_failedCommand hF hz) rfl rfl (Nat.le_of_ble_eq_true rfl) (Nat.le_of_ble_eq_true rfl) (Nat.le_of_ble_eq_true rfl) ⟨hb.1, hb.2⟩ wA_len wA_len wA_len wM_6 (fun he => ?_) (fun he => ?_)
  · refine EV.eq (st' := [vi 0]) (by show [vi (exK ((if ¬ z 1 = -1 then none else some xNo)) xNo "" "")] = _; rw [exK_n he]) ?_
    refine f_istore (K := lK X) (n := 2235) dL_law_2233 rfl (Nat.le_of_ble_eq_true rfl) rfl ?_
    refine e_aload_n (K := lK X) (i := 2) (n := 2236) dL_law_2235 rfl rfl ?_
    refine e_lawQ (K := lK X) (n := 2239) (M2 := sS M 0 (if ¬ M.1 10 = -1 then (0 : Int) else 1)) lk_L_310 rfl dL_law_2236 rfl (C_X7_failedCommand (M := M) (by have := hz.2.1; omega)) rfl rfl (Nat.le_of_ble_eq_true rfl) (Nat.le_of_ble_eq_true rfl) (Nat.le_of_ble_eq_true rfl) ⟨rfl, rfl⟩ wA_len rfl rfl ?_
    refine EV.eq (st' := [vi (w32 (z 1))]) (by show [vi (if (if ¬ M.1 10 = -1 then (0 : Int) else 1) = 0 then M.1 10 else 0)] = _; rw [hV (hTE.trans (exK_n he))]; exact congrArg (fun v => [v]) w32_v) ?_
    refine f_istore (K := lK X) (n := 2241) dL_law_2239 rfl (Nat.le_of_ble_eq_true rfl) rfl ?_
    exact lTail (bb := bb) (i := i) (e := 0) (v := (w32 (z 1))) (off := 360) dL_law_2241 dL_law_2242 dL_law_2245 dL_law_2247 dL_law_2252 dL_law_2254 dL_law_2257 dL_law_2258 dL_law_2259 dL_law_2260 dL_law_2262 dL_law_2263 dL_law_2264 dL_law_2269 (by decide) wA_len (by decide) (sS_0.trans (hTE.trans (exK_n he))) (fun _ => eU_self) w32_in (kk _ _ _ _ _ _ _ _ _ _ _ _ _ _ _ _ _ _ (SIM_up (SIM_eq hs0 mEq_0) (by omega) hN))
  · have hx3 := exK_in (e1 := xNo) (e2 := "") (e3 := "") he
    refine f_istore (K := lK X) (n := 2235) dL_law_2233 rfl (Nat.le_of_ble_eq_true rfl) rfl ?_
    refine e_aload_n (K := lK X) (i := 2) (n := 2236) dL_law_2235 rfl rfl ?_
    refine e_lawQ (K := lK X) (n := 2239) (M2 := sS M 0 (if ¬ M.1 10 = -1 then (0 : Int) else 1)) lk_L_310 rfl dL_law_2236 rfl (C_X7_failedCommand (M := M) (by have := hz.2.1; omega)) rfl rfl (Nat.le_of_ble_eq_true rfl) (Nat.le_of_ble_eq_true rfl) (Nat.le_of_ble_eq_true rfl) ⟨rfl, rfl⟩ wA_len rfl rfl ?_
    refine EV.eq (st' := [vi (w32 (if (if ¬ M.1 10 = -1 then (0 : Int) else 1) = 0 then M.1 10 else 0))]) (congrArg (fun v => [v]) w32_v) ?_
    refine f_istore (K := lK X) (n := 2241) dL_law_2239 rfl (Nat.le_of_ble_eq_true rfl) rfl ?_
    exact lTail (bb := bb) (i := i) (e := (exK ((if ¬ z 1 = -1 then none else some xNo)) xNo "" "")) (v := (w32 (if (if ¬ M.1 10 = -1 then (0 : Int) else 1) = 0 then M.1 10 else 0))) (off := 360) dL_law_2241 dL_law_2242 dL_law_2245 dL_law_2247 dL_law_2252 dL_law_2254 dL_law_2257 dL_law_2258 dL_law_2259 dL_law_2260 dL_law_2262 dL_law_2263 dL_law_2264 dL_law_2269 (by decide) wA_len (by omega) (Eq.trans sS_0 hTE) (fun q => by exfalso; omega) w32_in (kk _ _ _ _ _ _ _ _ _ _ _ _ _ _ _ _ _ _ (SIM_up (SIM_eq hs0 mEq_0) (by omega) hN))
set_option maxHeartbeats 1600000 in
theorem LC_describeRow {X : eXT} {a : Nat → Nat} {b b' : Nat × Nat} {bb L : Nat} {xs : Nat → Int32} {i N : Int} {z : Nat → Int} {ln : Int → Int} {F : eFs} {P : Int → Int} {D : eFs} {DQ : Int → Int} {S : eFs} {SP : Int → Int} {c n : Int} {h : eHs} {g rc : Int → Int} {T : eFs} {Mt : Int → Int → Int} {M : eFs} {o : Int → Int} {od : Nat → UInt64} (hX : X.2 = some (bb, L, xs)) (hL : L ≤ 2147483647) (hi : 0 ≤ i ∧ i + 4 ≤ L) (hb : 2 + b'.1 ≤ b.1 ∧ 12 + b'.2 ≤ b.2) (hN : N + 2400 ≤ 90000000) (hs : SIM N z ln F S c n h g rc T Mt M) (kk : lG X a bb (N + 2400) i b') :
    EV (lK X) a b (wA a z ln F P D DQ S SP c n h g rc T Mt [] ++ (wM (fun k => a (131 + k)) M ++ [eJ 1 1 o, eDd 1 od])) 2272 (lLs a bb i) [] := by
  have hs0 := hs
  obtain ⟨⟨hF, hC, hA, hR⟩, -, -, ⟨n1, n2, n3, n4, n5, n6, n7, n8, n9, n10⟩, ⟨l1, l2, l3⟩, ⟨hg, hr⟩, hT, hz, ⟨hw, hw4⟩, hN0⟩ := hs
  have hc9 := hF.1
  have g1 := sc_in (xs := xs) (z := i + 1)
  have hTE : (if 0 ≤ (sc xs (i + 1)) ∧ (sc xs (i + 1)) ≤ 11 then (0 : Int) else 1) = exK ((if 0 ≤ (sc xs (i + 1)) ∧ (sc xs (i + 1)) ≤ 11 then none else some xAr)) xAr "" "" := by
    exact exK_i1.symm
  have hV : (if 0 ≤ (sc xs (i + 1)) ∧ (sc xs (i + 1)) ≤ 11 then (0 : Int) else 1) = 0 → (if 0 ≤ (sc xs (i + 1)) ∧ (sc xs (i + 1)) ≤ 11 then 12 else 0 : Int) = 12 := fun q => by
    by_cases r : 0 ≤ (sc xs (i + 1)) ∧ (sc xs (i + 1)) ≤ 11
    · exact if_pos r
    · exact absurd (q.symm.trans (if_neg r)) (by decide)
  have e0 : (if 0 ≤ (sc xs (i + 1)) ∧ (sc xs (i + 1)) ≤ 11 then none else some xAr : Option String) = none ↔ (0 ≤ (sc xs (i + 1)) ∧ (sc xs (i + 1)) ≤ 11) := by split <;> simp_all
  refine e_aload_n (K := lK X) (i := 1) (n := 2273) dL_law_2272 rfl rfl ?_
  refine lArg (k := 1) dL_law_2273 dL_law_2274 dL_law_2276 dL_law_2277 dL_law_2278 hX hL rfl rfl (by omega) ?_
  refine e_aload_n (K := lK X) (i := 3) (n := 2280) dL_law_2279 rfl rfl ?_
  refine e_lawW (K := lK X) (b' := b') (n := 2283) lk_L_311 (by decide) dL_law_2280 rfl (W_describeRow hF g1) rfl rfl (Nat.le_of_ble_eq_true rfl) (Nat.le_of_ble_eq_true rfl) (Nat.le_of_ble_eq_true rfl) ⟨hb.1, hb.2⟩ wA_len wA_len wA_len wM_6 (fun he => ?_) (fun he => ?_)
  · refine EV.eq (st' := [vi 0]) (by show [vi (exK ((if 0 ≤ (sc xs (i + 1)) ∧ (sc xs (i + 1)) ≤ 11 then none else some xAr)) xAr "" "")] = _; rw [exK_n he]) ?_
    refine f_istore (K := lK X) (n := 2285) dL_law_2283 rfl (Nat.le_of_ble_eq_true rfl) rfl ?_
    refine e_aload_n (K := lK X) (i := 2) (n := 2286) dL_law_2285 rfl rfl ?_
    refine lArg (k := 1) dL_law_2286 dL_law_2287 dL_law_2289 dL_law_2290 dL_law_2291 hX hL rfl rfl (by omega) ?_
    refine e_lawQ (K := lK X) (n := 2295) (M2 := mDsc M F (sc xs (i + 1))) lk_L_313 rfl dL_law_2292 rfl (C_X7_describeRow (M := M) hF hR g1) rfl rfl (Nat.le_of_ble_eq_true rfl) (Nat.le_of_ble_eq_true rfl) (Nat.le_of_ble_eq_true rfl) ⟨rfl, rfl⟩ wA_len rfl rfl ?_
    refine EV.eq (st' := [vi (w32 (12))]) (by show [vi (if 0 ≤ (sc xs (i + 1)) ∧ (sc xs (i + 1)) ≤ 11 then 12 else 0)] = _; rw [hV (hTE.trans (exK_n he))]; exact congrArg (fun v => [v]) w32_v) ?_
    refine f_istore (K := lK X) (n := 2297) dL_law_2295 rfl (Nat.le_of_ble_eq_true rfl) rfl ?_
    exact lTail (bb := bb) (i := i) (e := 0) (v := (w32 (12))) (off := 304) dL_law_2297 dL_law_2298 dL_law_2301 dL_law_2303 dL_law_2308 dL_law_2310 dL_law_2313 dL_law_2314 dL_law_2315 dL_law_2316 dL_law_2318 dL_law_2319 dL_law_2320 dL_law_2325 (by decide) wA_len (by decide) (Eq.trans (by unfold mDsc; split <;> rfl) (hTE.trans (exK_n he))) (fun _ => eU_self) w32_in (kk _ _ _ _ _ _ _ _ _ _ _ _ _ _ _ _ _ _ (SIM_up ((SIM_desc hs0).1 (e0.mp he)) (by omega) hN))
  · have hx3 := exK_in (e1 := xAr) (e2 := "") (e3 := "") he
    refine f_istore (K := lK X) (n := 2285) dL_law_2283 rfl (Nat.le_of_ble_eq_true rfl) rfl ?_
    refine e_aload_n (K := lK X) (i := 2) (n := 2286) dL_law_2285 rfl rfl ?_
    refine lArg (k := 1) dL_law_2286 dL_law_2287 dL_law_2289 dL_law_2290 dL_law_2291 hX hL rfl rfl (by omega) ?_
    refine e_lawQ (K := lK X) (n := 2295) (M2 := mDsc M F (sc xs (i + 1))) lk_L_313 rfl dL_law_2292 rfl (C_X7_describeRow (M := M) hF hR g1) rfl rfl (Nat.le_of_ble_eq_true rfl) (Nat.le_of_ble_eq_true rfl) (Nat.le_of_ble_eq_true rfl) ⟨rfl, rfl⟩ wA_len rfl rfl ?_
    refine EV.eq (st' := [vi (w32 (if 0 ≤ (sc xs (i + 1)) ∧ (sc xs (i + 1)) ≤ 11 then 12 else 0))]) (congrArg (fun v => [v]) w32_v) ?_
    refine f_istore (K := lK X) (n := 2297) dL_law_2295 rfl (Nat.le_of_ble_eq_true rfl) rfl ?_
    exact lTail (bb := bb) (i := i) (e := (exK ((if 0 ≤ (sc xs (i + 1)) ∧ (sc xs (i + 1)) ≤ 11 then none else some xAr)) xAr "" "")) (v := (w32 (if 0 ≤ (sc xs (i + 1)) ∧ (sc xs (i + 1)) ≤ 11 then 12 else 0))) (off := 304) dL_law_2297 dL_law_2298 dL_law_2301 dL_law_2303 dL_law_2308 dL_law_2310 dL_law_2313 dL_law_2314 dL_law_2315 dL_law_2316 dL_law_2318 dL_law_2319 dL_law_2320 dL_law_2325 (by decide) wA_len (by omega) (Eq.trans (by unfold mDsc; split <;> rfl) hTE) (fun q => by exfalso; omega) w32_in (kk _ _ _ _ _ _ _ _ _ _ _ _ _ _ _ _ _ _ (SIM_up ((SIM_desc hs0).2 (fun q => he (e0.mpr q))) (by omega) hN))
set_option maxHeartbeats 1600000 in
theorem LC_lineAt {X : eXT} {a : Nat → Nat} {b b' : Nat × Nat} {bb L : Nat} {xs : Nat → Int32} {i N : Int} {z : Nat → Int} {ln : Int → Int} {F : eFs} {P : Int → Int} {D : eFs} {DQ : Int → Int} {S : eFs} {SP : Int → Int} {c n : Int} {h : eHs} {g rc : Int → Int} {T : eFs} {Mt : Int → Int → Int} {M : eFs} {o : Int → Int} {od : Nat → UInt64} (hX : X.2 = some (bb, L, xs)) (hL : L ≤ 2147483647) (hi : 0 ≤ i ∧ i + 4 ≤ L) (hb : 2 + b'.1 ≤ b.1 ∧ 12 + b'.2 ≤ b.2) (hN : N + 2400 ≤ 90000000) (hs : SIM N z ln F S c n h g rc T Mt M) (kk : lG X a bb (N + 2400) i b') :
    EV (lK X) a b (wA a z ln F P D DQ S SP c n h g rc T Mt [] ++ (wM (fun k => a (131 + k)) M ++ [eJ 1 1 o, eDd 1 od])) 2328 (lLs a bb i) [] := by
  have hs0 := hs
  obtain ⟨⟨hF, hC, hA, hR⟩, -, -, ⟨n1, n2, n3, n4, n5, n6, n7, n8, n9, n10⟩, ⟨l1, l2, l3⟩, ⟨hg, hr⟩, hT, hz, ⟨hw, hw4⟩, hN0⟩ := hs
  have hc9 := hF.1
  have g1 := sc_in (xs := xs) (z := i + 1)
  have hTE : (if 0 ≤ (sc xs (i + 1)) ∧ (sc xs (i + 1)) ≤ M.1 12 - 1 then (0 : Int) else 1) = exK ((if 0 ≤ (sc xs (i + 1)) ∧ (sc xs (i + 1)) < z 4 then none else some xIx)) xIx "" "" := by
    rw [exK_i1]
    (repeat' split) <;> first | rfl | contradiction | (exfalso; omega)
  have hV : (if 0 ≤ (sc xs (i + 1)) ∧ (sc xs (i + 1)) ≤ M.1 12 - 1 then (0 : Int) else 1) = 0 → (if (if 0 ≤ (sc xs (i + 1)) ∧ (sc xs (i + 1)) ≤ M.1 12 - 1 then (0 : Int) else 1) = 0 then M.2 4 (sc xs (i + 1)) else 0 : Int) = ln (sc xs (i + 1)) := fun q => by
    rw [if_pos q]
    have q1 : 0 ≤ (sc xs (i + 1)) ∧ (sc xs (i + 1)) ≤ M.1 12 - 1 := by
      by_cases r : 0 ≤ (sc xs (i + 1)) ∧ (sc xs (i + 1)) ≤ M.1 12 - 1
      · exact r
      · exact absurd (q.symm.trans (if_neg r)) (by decide)
    have q2 := hz.2.2.2.2
    exact (l3 (by omega) _ q1.1 (by omega)).symm
  refine e_aload_n (K := lK X) (i := 1) (n := 2329) dL_law_2328 rfl rfl ?_
  refine lArg (k := 1) dL_law_2329 dL_law_2330 dL_law_2332 dL_law_2333 dL_law_2334 hX hL rfl rfl (by omega) ?_
  refine e_aload_n (K := lK X) (i := 3) (n := 2336) dL_law_2335 rfl rfl ?_
  refine e_lawW (K := lK X) (b' := b') (n := 2339) lk_L_314 (by decide) dL_law_2336 rfl (W_lineAt hz l1 g1) rfl rfl (Nat.le_of_ble_eq_true rfl) (Nat.le_of_ble_eq_true rfl) (Nat.le_of_ble_eq_true rfl) ⟨hb.1, hb.2⟩ wA_len wA_len wA_len wM_6 (fun he => ?_) (fun he => ?_)
  · refine EV.eq (st' := [vi 0]) (by show [vi (exK ((if 0 ≤ (sc xs (i + 1)) ∧ (sc xs (i + 1)) < z 4 then none else some xIx)) xIx "" "")] = _; rw [exK_n he]) ?_
    refine f_istore (K := lK X) (n := 2341) dL_law_2339 rfl (Nat.le_of_ble_eq_true rfl) rfl ?_
    refine e_aload_n (K := lK X) (i := 2) (n := 2342) dL_law_2341 rfl rfl ?_
    refine lArg (k := 1) dL_law_2342 dL_law_2343 dL_law_2345 dL_law_2346 dL_law_2347 hX hL rfl rfl (by omega) ?_
    refine e_lawQ (K := lK X) (n := 2351) (M2 := sS M 0 (if 0 ≤ (sc xs (i + 1)) ∧ (sc xs (i + 1)) ≤ M.1 12 - 1 then (0 : Int) else 1)) lk_L_316 rfl dL_law_2348 rfl (C_X7_lineAt (M := M) g1 (by have := hz.2.2.2.2; omega) l2) rfl rfl (Nat.le_of_ble_eq_true rfl) (Nat.le_of_ble_eq_true rfl) (Nat.le_of_ble_eq_true rfl) ⟨rfl, rfl⟩ wA_len rfl rfl ?_
    refine EV.eq (st' := [vi (w32 (ln (sc xs (i + 1))))]) (by show [vi (if (if 0 ≤ (sc xs (i + 1)) ∧ (sc xs (i + 1)) ≤ M.1 12 - 1 then (0 : Int) else 1) = 0 then M.2 4 (sc xs (i + 1)) else 0)] = _; rw [hV (hTE.trans (exK_n he))]; exact congrArg (fun v => [v]) w32_v) ?_
    refine f_istore (K := lK X) (n := 2353) dL_law_2351 rfl (Nat.le_of_ble_eq_true rfl) rfl ?_
    exact lTail (bb := bb) (i := i) (e := 0) (v := (w32 (ln (sc xs (i + 1))))) (off := 248) dL_law_2353 dL_law_2354 dL_law_2357 dL_law_2359 dL_law_2364 dL_law_2366 dL_law_2369 dL_law_2370 dL_law_2371 dL_law_2372 dL_law_2374 dL_law_2375 dL_law_2376 dL_law_2381 (by decide) wA_len (by decide) (sS_0.trans (hTE.trans (exK_n he))) (fun _ => eU_self) w32_in (kk _ _ _ _ _ _ _ _ _ _ _ _ _ _ _ _ _ _ (SIM_up (SIM_eq hs0 mEq_0) (by omega) hN))
  · have hx3 := exK_in (e1 := xIx) (e2 := "") (e3 := "") he
    refine f_istore (K := lK X) (n := 2341) dL_law_2339 rfl (Nat.le_of_ble_eq_true rfl) rfl ?_
    refine e_aload_n (K := lK X) (i := 2) (n := 2342) dL_law_2341 rfl rfl ?_
    refine lArg (k := 1) dL_law_2342 dL_law_2343 dL_law_2345 dL_law_2346 dL_law_2347 hX hL rfl rfl (by omega) ?_
    refine e_lawQ (K := lK X) (n := 2351) (M2 := sS M 0 (if 0 ≤ (sc xs (i + 1)) ∧ (sc xs (i + 1)) ≤ M.1 12 - 1 then (0 : Int) else 1)) lk_L_316 rfl dL_law_2348 rfl (C_X7_lineAt (M := M) g1 (by have := hz.2.2.2.2; omega) l2) rfl rfl (Nat.le_of_ble_eq_true rfl) (Nat.le_of_ble_eq_true rfl) (Nat.le_of_ble_eq_true rfl) ⟨rfl, rfl⟩ wA_len rfl rfl ?_
    refine EV.eq (st' := [vi (w32 (if (if 0 ≤ (sc xs (i + 1)) ∧ (sc xs (i + 1)) ≤ M.1 12 - 1 then (0 : Int) else 1) = 0 then M.2 4 (sc xs (i + 1)) else 0))]) (congrArg (fun v => [v]) w32_v) ?_
    refine f_istore (K := lK X) (n := 2353) dL_law_2351 rfl (Nat.le_of_ble_eq_true rfl) rfl ?_
    exact lTail (bb := bb) (i := i) (e := (exK ((if 0 ≤ (sc xs (i + 1)) ∧ (sc xs (i + 1)) < z 4 then none else some xIx)) xIx "" "")) (v := (w32 (if (if 0 ≤ (sc xs (i + 1)) ∧ (sc xs (i + 1)) ≤ M.1 12 - 1 then (0 : Int) else 1) = 0 then M.2 4 (sc xs (i + 1)) else 0))) (off := 248) dL_law_2353 dL_law_2354 dL_law_2357 dL_law_2359 dL_law_2364 dL_law_2366 dL_law_2369 dL_law_2370 dL_law_2371 dL_law_2372 dL_law_2374 dL_law_2375 dL_law_2376 dL_law_2381 (by decide) wA_len (by omega) (Eq.trans sS_0 hTE) (fun q => by exfalso; omega) w32_in (kk _ _ _ _ _ _ _ _ _ _ _ _ _ _ _ _ _ _ (SIM_up (SIM_eq hs0 mEq_0) (by omega) hN))
set_option maxHeartbeats 1600000 in
theorem LC_meanDistance {X : eXT} {a : Nat → Nat} {b b' : Nat × Nat} {bb L : Nat} {xs : Nat → Int32} {i N : Int} {z : Nat → Int} {ln : Int → Int} {F : eFs} {P : Int → Int} {D : eFs} {DQ : Int → Int} {S : eFs} {SP : Int → Int} {c n : Int} {h : eHs} {g rc : Int → Int} {T : eFs} {Mt : Int → Int → Int} {M : eFs} {o : Int → Int} {od : Nat → UInt64} (hX : X.2 = some (bb, L, xs)) (hL : L ≤ 2147483647) (hi : 0 ≤ i ∧ i + 4 ≤ L) (hb : 2 + b'.1 ≤ b.1 ∧ 12 + b'.2 ≤ b.2) (hN : N + 2400 ≤ 90000000) (hs : SIM N z ln F S c n h g rc T Mt M) (kk : lG X a bb (N + 2400) i b') :
    EV (lK X) a b (wA a z ln F P D DQ S SP c n h g rc T Mt [] ++ (wM (fun k => a (131 + k)) M ++ [eJ 1 1 o, eDd 1 od])) 2384 (lLs a bb i) [] := by
  have hs0 := hs
  obtain ⟨⟨hF, hC, hA, hR⟩, -, -, ⟨n1, n2, n3, n4, n5, n6, n7, n8, n9, n10⟩, ⟨l1, l2, l3⟩, ⟨hg, hr⟩, hT, hz, ⟨hw, hw4⟩, hN0⟩ := hs
  have hc9 := hF.1
  have hTE : (if 2 ≤ F.1 0 then (0 : Int) else 1) = exK ((if 2 ≤ F.1 0 then none else some xMa)) xMa "" "" := by
    exact exK_i1.symm
  have e0 : (if 2 ≤ F.1 0 then none else some xMa : Option String) = none ↔ 2 ≤ F.1 0 := by split <;> simp_all
  have us := sSumD_in hF
  refine e_aload_n (K := lK X) (i := 1) (n := 2385) dL_law_2384 rfl rfl ?_
  refine e_aload (K := lK X) (i := 4) (n := 2387) dL_law_2385 rfl rfl ?_
  refine e_lawD (K := lK X) (b' := b') (n := 2390) lk_L_317 (by decide) dL_law_2387 rfl (W_meanDistance hF) rfl rfl (Nat.le_of_ble_eq_true rfl) (Nat.le_of_ble_eq_true rfl) (Nat.le_of_ble_eq_true rfl) ⟨hb.1, hb.2⟩ wA_len wA_len wA_len wM_6 (fun he => ?_) (fun he => ?_)
  · refine EV.eq (st' := [vi 0]) (by show [vi (exK ((if 2 ≤ F.1 0 then none else some xMa)) xMa "" "")] = _; rw [exK_n he]) ?_
    refine f_istore (K := lK X) (n := 2392) dL_law_2390 rfl (Nat.le_of_ble_eq_true rfl) rfl ?_
    refine e_aload_n (K := lK X) (i := 2) (n := 2393) dL_law_2392 rfl rfl ?_
    refine e_lawQ (K := lK X) (n := 2396) (M2 := sS M 0 (if 2 ≤ F.1 0 then (0 : Int) else 1)) lk_L_320 rfl dL_law_2393 rfl (C_X7_meanDistance (M := M) hF hR) rfl rfl (Nat.le_of_ble_eq_true rfl) (Nat.le_of_ble_eq_true rfl) (Nat.le_of_ble_eq_true rfl) ⟨rfl, rfl⟩ wA_len rfl rfl ?_
    refine EV.eq (st' := [.double (FP.ddiv (FP.i2d (Int32.ofInt (sSumD F))) (FP.i2d (Int32.ofInt (F.1 0 - 1))))]) (congrArg (fun v => [v]) (if_pos (e0.mp he))) ?_
    refine f_dstore (K := lK X) (n := 2398) dL_law_2396 rfl (Nat.le_of_ble_eq_true rfl) rfl ?_
    exact lTailD (bb := bb) (i := i) (e := 0) (v := (FP.ddiv (FP.i2d (Int32.ofInt (sSumD F))) (FP.i2d (Int32.ofInt (F.1 0 - 1))))) (off := 183) dL_law_2398 dL_law_2399 dL_law_2402 dL_law_2404 dL_law_2409 dL_law_2411 dL_law_2414 dL_law_2416 dL_law_2417 dL_law_2418 dL_law_2420 dL_law_2421 dL_law_2446 (by decide) wA_len (by decide) (Eq.trans sS_0 (hTE.trans (exK_n he))) (fun _ => ⟨by simp [vf_upd], fp_mean us (by have := e0.mp he; omega)⟩) (kk _ _ _ _ _ _ _ _ _ _ _ _ _ _ _ _ _ _ (SIM_up (SIM_eq hs0 mEq_0) (by omega) hN))
  · have hx3 := exK_in (e1 := xMa) (e2 := "") (e3 := "") he
    refine f_istore (K := lK X) (n := 2392) dL_law_2390 rfl (Nat.le_of_ble_eq_true rfl) rfl ?_
    refine e_aload_n (K := lK X) (i := 2) (n := 2393) dL_law_2392 rfl rfl ?_
    refine e_lawQ (K := lK X) (n := 2396) (M2 := sS M 0 (if 2 ≤ F.1 0 then (0 : Int) else 1)) lk_L_320 rfl dL_law_2393 rfl (C_X7_meanDistance (M := M) hF hR) rfl rfl (Nat.le_of_ble_eq_true rfl) (Nat.le_of_ble_eq_true rfl) (Nat.le_of_ble_eq_true rfl) ⟨rfl, rfl⟩ wA_len rfl rfl ?_
    refine EV.eq (st' := [.double 0]) (congrArg (fun v => [v]) (if_neg (fun q => he (e0.mpr q)))) ?_
    refine f_dstore (K := lK X) (n := 2398) dL_law_2396 rfl (Nat.le_of_ble_eq_true rfl) rfl ?_
    exact lTailD (bb := bb) (i := i) (e := (exK ((if 2 ≤ F.1 0 then none else some xMa)) xMa "" "")) (v := 0) (off := 183) dL_law_2398 dL_law_2399 dL_law_2402 dL_law_2404 dL_law_2409 dL_law_2411 dL_law_2414 dL_law_2416 dL_law_2417 dL_law_2418 dL_law_2420 dL_law_2421 dL_law_2446 (by decide) wA_len (by omega) (Eq.trans sS_0 hTE) (fun q => by exfalso; omega) (kk _ _ _ _ _ _ _ _ _ _ _ _ _ _ _ _ _ _ (SIM_up (SIM_eq hs0 mEq_0) (by omega) hN))
set_option maxHeartbeats 1600000 in
theorem LC_mixedShare {X : eXT} {a : Nat → Nat} {b b' : Nat × Nat} {bb L : Nat} {xs : Nat → Int32} {i N : Int} {z : Nat → Int} {ln : Int → Int} {F : eFs} {P : Int → Int} {D : eFs} {DQ : Int → Int} {S : eFs} {SP : Int → Int} {c n : Int} {h : eHs} {g rc : Int → Int} {T : eFs} {Mt : Int → Int → Int} {M : eFs} {o : Int → Int} {od : Nat → UInt64} (hX : X.2 = some (bb, L, xs)) (hL : L ≤ 2147483647) (hi : 0 ≤ i ∧ i + 4 ≤ L) (hb : 2 + b'.1 ≤ b.1 ∧ 12 + b'.2 ≤ b.2) (hN : N + 2400 ≤ 90000000) (hs : SIM N z ln F S c n h g rc T Mt M) (kk : lG X a bb (N + 2400) i b') :
    EV (lK X) a b (wA a z ln F P D DQ S SP c n h g rc T Mt [] ++ (wM (fun k => a (131 + k)) M ++ [eJ 1 1 o, eDd 1 od])) 2449 (lLs a bb i) [] := by
  have hs0 := hs
  obtain ⟨⟨hF, hC, hA, hR⟩, -, -, ⟨n1, n2, n3, n4, n5, n6, n7, n8, n9, n10⟩, ⟨l1, l2, l3⟩, ⟨hg, hr⟩, hT, hz, ⟨hw, hw4⟩, hN0⟩ := hs
  have hc9 := hF.1
  have hTE : (if 1 ≤ sPrs F then (0 : Int) else 1) = exK ((if 1 ≤ sPrs F then none else some xMa)) xMa "" "" := by
    exact exK_i1.symm
  have e0 : (if 1 ≤ sPrs F then none else some xMa : Option String) = none ↔ 1 ≤ sPrs F := by split <;> simp_all
  have up := sPrs_in hc9
  have um := sMix_in hc9
  refine e_aload_n (K := lK X) (i := 1) (n := 2450) dL_law_2449 rfl rfl ?_
  refine e_aload (K := lK X) (i := 4) (n := 2452) dL_law_2450 rfl rfl ?_
  refine e_lawD (K := lK X) (b' := b') (n := 2455) lk_L_321 (by decide) dL_law_2452 rfl (W_mixedShare hF (hn64 F hc9)) rfl rfl (Nat.le_of_ble_eq_true rfl) (Nat.le_of_ble_eq_true rfl) (Nat.le_of_ble_eq_true rfl) ⟨hb.1, hb.2⟩ wA_len wA_len wA_len wM_6 (fun he => ?_) (fun he => ?_)
  · refine EV.eq (st' := [vi 0]) (by show [vi (exK ((if 1 ≤ sPrs F then none else some xMa)) xMa "" "")] = _; rw [exK_n he]) ?_
    refine f_istore (K := lK X) (n := 2457) dL_law_2455 rfl (Nat.le_of_ble_eq_true rfl) rfl ?_
    refine e_aload_n (K := lK X) (i := 2) (n := 2458) dL_law_2457 rfl rfl ?_
    refine e_lawQ (K := lK X) (n := 2461) (M2 := sS M 0 (if 1 ≤ sPrs F then (0 : Int) else 1)) lk_L_323 rfl dL_law_2458 rfl (C_X7_mixedShare (M := M) hF hR) rfl rfl (Nat.le_of_ble_eq_true rfl) (Nat.le_of_ble_eq_true rfl) (Nat.le_of_ble_eq_true rfl) ⟨rfl, rfl⟩ wA_len rfl rfl ?_
    refine EV.eq (st' := [.float (FP.fdiv (FP.i2f (Int32.ofInt (sMix F))) (FP.i2f (Int32.ofInt (sPrs F))))]) (congrArg (fun v => [v]) (if_pos (e0.mp he))) ?_
    refine f_fstore (K := lK X) (n := 2463) dL_law_2461 rfl (Nat.le_of_ble_eq_true rfl) rfl ?_
    exact lTailF (bb := bb) (i := i) (e := 0) (v := (FP.fdiv (FP.i2f (Int32.ofInt (sMix F))) (FP.i2f (Int32.ofInt (sPrs F))))) (off := 117) dL_law_2463 dL_law_2464 dL_law_2467 dL_law_2469 dL_law_2474 dL_law_2476 dL_law_2479 dL_law_2481 dL_law_2482 dL_law_2483 dL_law_2485 dL_law_2486 dL_law_2487 dL_law_2512 (by decide) wA_len (by decide) (Eq.trans sS_0 (hTE.trans (exK_n he))) (fun _ => ⟨by simp [vf_upd], fp_share um (by have := e0.mp he; omega)⟩) (kk _ _ _ _ _ _ _ _ _ _ _ _ _ _ _ _ _ _ (SIM_up (SIM_eq hs0 mEq_0) (by omega) hN))
  · have hx3 := exK_in (e1 := xMa) (e2 := "") (e3 := "") he
    refine f_istore (K := lK X) (n := 2457) dL_law_2455 rfl (Nat.le_of_ble_eq_true rfl) rfl ?_
    refine e_aload_n (K := lK X) (i := 2) (n := 2458) dL_law_2457 rfl rfl ?_
    refine e_lawQ (K := lK X) (n := 2461) (M2 := sS M 0 (if 1 ≤ sPrs F then (0 : Int) else 1)) lk_L_323 rfl dL_law_2458 rfl (C_X7_mixedShare (M := M) hF hR) rfl rfl (Nat.le_of_ble_eq_true rfl) (Nat.le_of_ble_eq_true rfl) (Nat.le_of_ble_eq_true rfl) ⟨rfl, rfl⟩ wA_len rfl rfl ?_
    refine EV.eq (st' := [.float 0]) (congrArg (fun v => [v]) (if_neg (fun q => he (e0.mpr q)))) ?_
    refine f_fstore (K := lK X) (n := 2463) dL_law_2461 rfl (Nat.le_of_ble_eq_true rfl) rfl ?_
    exact lTailF (bb := bb) (i := i) (e := (exK ((if 1 ≤ sPrs F then none else some xMa)) xMa "" "")) (v := 0) (off := 117) dL_law_2463 dL_law_2464 dL_law_2467 dL_law_2469 dL_law_2474 dL_law_2476 dL_law_2479 dL_law_2481 dL_law_2482 dL_law_2483 dL_law_2485 dL_law_2486 dL_law_2487 dL_law_2512 (by decide) wA_len (by omega) (Eq.trans sS_0 hTE) (fun q => by exfalso; omega) (kk _ _ _ _ _ _ _ _ _ _ _ _ _ _ _ _ _ _ (SIM_up (SIM_eq hs0 mEq_0) (by omega) hN))
set_option maxHeartbeats 1600000 in
theorem LC_undo {X : eXT} {a : Nat → Nat} {b b' : Nat × Nat} {bb L : Nat} {xs : Nat → Int32} {i N : Int} {z : Nat → Int} {ln : Int → Int} {F : eFs} {P : Int → Int} {D : eFs} {DQ : Int → Int} {S : eFs} {SP : Int → Int} {c n : Int} {h : eHs} {g rc : Int → Int} {T : eFs} {Mt : Int → Int → Int} {M : eFs} {o : Int → Int} {od : Nat → UInt64} (hX : X.2 = some (bb, L, xs)) (hL : L ≤ 2147483647) (hi : 0 ≤ i ∧ i + 4 ≤ L) (hb : 2 + b'.1 ≤ b.1 ∧ 12 + b'.2 ≤ b.2) (hN : N + 2400 ≤ 90000000) (hs : SIM N z ln F S c n h g rc T Mt M) (kk : lG X a bb (N + 2400) i b') :
    EV (lK X) a b (wA a z ln F P D DQ S SP c n h g rc T Mt [] ++ (wM (fun k => a (131 + k)) M ++ [eJ 1 1 o, eDd 1 od])) 2528 (lLs a bb i) [] := by
  have hs0 := hs
  obtain ⟨⟨hF, hC, hA, hR⟩, -, -, ⟨n1, n2, n3, n4, n5, n6, n7, n8, n9, n10⟩, ⟨l1, l2, l3⟩, ⟨hg, hr⟩, hT, hz, ⟨hw, hw4⟩, hN0⟩ := hs
  have hc9 := hF.1
  have hTE : (if 0 < M.1 1 then (0 : Int) else 1) = exK ((if 1 ≤ c then none else some xSt)) xSt "" "" := by
    rw [exK_i1]
    (repeat' split) <;> first | rfl | (exfalso; omega)
  have hV : (if 0 < M.1 1 then (0 : Int) else 1) = 0 → (if 0 < M.1 1 then M.1 1 - 1 else 0 : Int) = c - 1 := fun q => by
    by_cases r : 0 < M.1 1
    · rw [if_pos r, n3]
    · exact absurd (q.symm.trans (if_neg r)) (by decide)
  have e0 : (if 1 ≤ c then none else some xSt : Option String) = none ↔ 1 ≤ c := by split <;> simp_all
  refine e_aload_n (K := lK X) (i := 1) (n := 2529) dL_law_2528 rfl rfl ?_
  refine e_aload_n (K := lK X) (i := 3) (n := 2530) dL_law_2529 rfl rfl ?_
  refine e_lawW (K := lK X) (b' := b') (n := 2533) lk_L_329 (by decide) dL_law_2530 rfl (W_undo n1 n2) rfl rfl (Nat.le_of_ble_eq_true rfl) (Nat.le_of_ble_eq_true rfl) (Nat.le_of_ble_eq_true rfl) ⟨hb.1, hb.2⟩ wA_len wA_len wA_len wM_6 (fun he => ?_) (fun he => ?_)
  · refine EV.eq (st' := [vi 0]) (by show [vi (exK ((if 1 ≤ c then none else some xSt)) xSt "" "")] = _; rw [exK_n he]) ?_
    refine f_istore (K := lK X) (n := 2535) dL_law_2533 rfl (Nat.le_of_ble_eq_true rfl) rfl ?_
    refine e_aload_n (K := lK X) (i := 2) (n := 2536) dL_law_2535 rfl rfl ?_
    refine e_lawQ (K := lK X) (n := 2539) (M2 := mUn M) lk_L_331 rfl dL_law_2536 rfl (C_X7_undo (M := M) (by omega)) rfl rfl (Nat.le_of_ble_eq_true rfl) (Nat.le_of_ble_eq_true rfl) (Nat.le_of_ble_eq_true rfl) ⟨rfl, rfl⟩ wA_len rfl rfl ?_
    refine EV.eq (st' := [vi (w32 (c - 1))]) (by show [vi (if 0 < M.1 1 then M.1 1 - 1 else 0)] = _; rw [hV (hTE.trans (exK_n he))]; exact congrArg (fun v => [v]) w32_v) ?_
    refine f_istore (K := lK X) (n := 2541) dL_law_2539 rfl (Nat.le_of_ble_eq_true rfl) rfl ?_
    exact lTail (bb := bb) (i := i) (e := 0) (v := (w32 (c - 1))) (off := 60) dL_law_2541 dL_law_2542 dL_law_2545 dL_law_2547 dL_law_2552 dL_law_2554 dL_law_2557 dL_law_2558 dL_law_2559 dL_law_2560 dL_law_2562 dL_law_2563 dL_law_2564 dL_law_2569 (by decide) wA_len (by decide) (Eq.trans (by unfold mUn; split <;> rfl) (hTE.trans (exK_n he))) (fun _ => eU_self) w32_in (kk _ _ _ _ _ _ _ _ _ _ _ _ _ _ _ _ _ _ (SIM_up ((SIM_undo hs0).1 (e0.mp he)) (by omega) hN))
  · have hx3 := exK_in (e1 := xSt) (e2 := "") (e3 := "") he
    refine f_istore (K := lK X) (n := 2535) dL_law_2533 rfl (Nat.le_of_ble_eq_true rfl) rfl ?_
    refine e_aload_n (K := lK X) (i := 2) (n := 2536) dL_law_2535 rfl rfl ?_
    refine e_lawQ (K := lK X) (n := 2539) (M2 := mUn M) lk_L_331 rfl dL_law_2536 rfl (C_X7_undo (M := M) (by omega)) rfl rfl (Nat.le_of_ble_eq_true rfl) (Nat.le_of_ble_eq_true rfl) (Nat.le_of_ble_eq_true rfl) ⟨rfl, rfl⟩ wA_len rfl rfl ?_
    refine EV.eq (st' := [vi (w32 (if 0 < M.1 1 then M.1 1 - 1 else 0))]) (congrArg (fun v => [v]) w32_v) ?_
    refine f_istore (K := lK X) (n := 2541) dL_law_2539 rfl (Nat.le_of_ble_eq_true rfl) rfl ?_
    exact lTail (bb := bb) (i := i) (e := (exK ((if 1 ≤ c then none else some xSt)) xSt "" "")) (v := (w32 (if 0 < M.1 1 then M.1 1 - 1 else 0))) (off := 60) dL_law_2541 dL_law_2542 dL_law_2545 dL_law_2547 dL_law_2552 dL_law_2554 dL_law_2557 dL_law_2558 dL_law_2559 dL_law_2560 dL_law_2562 dL_law_2563 dL_law_2564 dL_law_2569 (by decide) wA_len (by omega) (Eq.trans (by unfold mUn; split <;> rfl) hTE) (fun q => by exfalso; omega) w32_in (kk _ _ _ _ _ _ _ _ _ _ _ _ _ _ _ _ _ _ (SIM_up ((SIM_undo hs0).2 (fun q => he (e0.mpr q))) (by omega) hN))
set_option maxHeartbeats 1600000 in
theorem LC_restore {X : eXT} {a : Nat → Nat} {b b' : Nat × Nat} {bb L : Nat} {xs : Nat → Int32} {i N : Int} {z : Nat → Int} {ln : Int → Int} {F : eFs} {P : Int → Int} {D : eFs} {DQ : Int → Int} {S : eFs} {SP : Int → Int} {c n : Int} {h : eHs} {g rc : Int → Int} {T : eFs} {Mt : Int → Int → Int} {M : eFs} {o : Int → Int} {od : Nat → UInt64} (hX : X.2 = some (bb, L, xs)) (hL : L ≤ 2147483647) (hi : 0 ≤ i ∧ i + 4 ≤ L) (hb : 2 + b'.1 ≤ b.1 ∧ 12 + b'.2 ≤ b.2) (hN : N + 2400 ≤ 90000000) (hs : SIM N z ln F S c n h g rc T Mt M) (kk : lG X a bb (N + 2400) i b') :
    EV (lK X) a b (wA a z ln F P D DQ S SP c n h g rc T Mt [] ++ (wM (fun k => a (131 + k)) M ++ [eJ 1 1 o, eDd 1 od])) 2585 (lLs a bb i) [] := by
  have hs0 := hs
  obtain ⟨⟨hF, hC, hA, hR⟩, -, -, ⟨n1, n2, n3, n4, n5, n6, n7, n8, n9, n10⟩, ⟨l1, l2, l3⟩, ⟨hg, hr⟩, hT, hz, ⟨hw, hw4⟩, hN0⟩ := hs
  have hc9 := hF.1
  have hTE : (if M.1 2 = 1 then (0 : Int) else 1) = exK ((if z 5 = 1 then none else some xSt)) xSt "" "" := by
    rw [exK_i1, n4]
  have hV : (if M.1 2 = 1 then (0 : Int) else 1) = 0 → (if M.1 2 = 1 then M.2 0 2250 else 0 : Int) = S.1 0 := fun q => by
    by_cases r : M.1 2 = 1
    · rw [if_pos r]; exact ((SIM_rest hs0).1 (n4.trans r)).2
    · exact absurd (q.symm.trans (if_neg r)) (by decide)
  have e0 : (if z 5 = 1 then none else some xSt : Option String) = none ↔ z 5 = 1 := by split <;> simp_all
  refine e_aload_n (K := lK X) (i := 1) (n := 2586) dL_law_2585 rfl rfl ?_
  refine e_aload_n (K := lK X) (i := 3) (n := 2587) dL_law_2586 rfl rfl ?_
  refine e_lawW (K := lK X) (b' := b') (n := 2590) lk_L_336 (by decide) dL_law_2587 rfl (W_restore ) rfl rfl (Nat.le_of_ble_eq_true rfl) (Nat.le_of_ble_eq_true rfl) (Nat.le_of_ble_eq_true rfl) ⟨hb.1, hb.2⟩ wA_len wA_len wA_len wM_6 (fun he => ?_) (fun he => ?_)
  · refine EV.eq (st' := [vi 0]) (by show [vi (exK ((if z 5 = 1 then none else some xSt)) xSt "" "")] = _; rw [exK_n he]) ?_
    refine f_istore (K := lK X) (n := 2592) dL_law_2590 rfl (Nat.le_of_ble_eq_true rfl) rfl ?_
    refine e_aload_n (K := lK X) (i := 2) (n := 2593) dL_law_2592 rfl rfl ?_
    refine e_lawQ (K := lK X) (n := 2596) (M2 := mRe M) lk_L_338 rfl dL_law_2593 rfl (C_X7_restore (M := M)) rfl rfl (Nat.le_of_ble_eq_true rfl) (Nat.le_of_ble_eq_true rfl) (Nat.le_of_ble_eq_true rfl) ⟨rfl, rfl⟩ wA_len rfl rfl ?_
    refine EV.eq (st' := [vi (w32 (S.1 0))]) (by show [vi (if M.1 2 = 1 then M.2 0 2250 else 0)] = _; rw [hV (hTE.trans (exK_n he))]; exact congrArg (fun v => [v]) w32_v) ?_
    refine f_istore (K := lK X) (n := 2598) dL_law_2596 rfl (Nat.le_of_ble_eq_true rfl) rfl ?_
    exact lTail (bb := bb) (i := i) (e := 0) (v := (w32 (S.1 0))) (off := 3) dL_law_2598 dL_law_2599 dL_law_2602 dL_law_2604 dL_law_2609 dL_law_2611 dL_law_2614 dL_law_2615 dL_law_2616 dL_law_2617 dL_law_2619 dL_law_2620 dL_law_2621 dL_law_2626 (by decide) wA_len (by decide) (Eq.trans (by unfold mRe; split <;> rfl) (hTE.trans (exK_n he))) (fun _ => eU_self) w32_in (kk _ _ _ _ _ _ _ _ _ _ _ _ _ _ _ _ _ _ (SIM_up ((SIM_rest hs0).1 (e0.mp he)).1 (by omega) hN))
  · have hx3 := exK_in (e1 := xSt) (e2 := "") (e3 := "") he
    refine f_istore (K := lK X) (n := 2592) dL_law_2590 rfl (Nat.le_of_ble_eq_true rfl) rfl ?_
    refine e_aload_n (K := lK X) (i := 2) (n := 2593) dL_law_2592 rfl rfl ?_
    refine e_lawQ (K := lK X) (n := 2596) (M2 := mRe M) lk_L_338 rfl dL_law_2593 rfl (C_X7_restore (M := M)) rfl rfl (Nat.le_of_ble_eq_true rfl) (Nat.le_of_ble_eq_true rfl) (Nat.le_of_ble_eq_true rfl) ⟨rfl, rfl⟩ wA_len rfl rfl ?_
    refine EV.eq (st' := [vi (w32 (if M.1 2 = 1 then M.2 0 2250 else 0))]) (congrArg (fun v => [v]) w32_v) ?_
    refine f_istore (K := lK X) (n := 2598) dL_law_2596 rfl (Nat.le_of_ble_eq_true rfl) rfl ?_
    exact lTail (bb := bb) (i := i) (e := (exK ((if z 5 = 1 then none else some xSt)) xSt "" "")) (v := (w32 (if M.1 2 = 1 then M.2 0 2250 else 0))) (off := 3) dL_law_2598 dL_law_2599 dL_law_2602 dL_law_2604 dL_law_2609 dL_law_2611 dL_law_2614 dL_law_2615 dL_law_2616 dL_law_2617 dL_law_2619 dL_law_2620 dL_law_2621 dL_law_2626 (by decide) wA_len (by omega) (Eq.trans (by unfold mRe; split <;> rfl) hTE) (fun q => by exfalso; omega) w32_in (kk _ _ _ _ _ _ _ _ _ _ _ _ _ _ _ _ _ _ (SIM_up ((SIM_rest hs0).2 (fun q => he (e0.mpr q))) (by omega) hN))
theorem W_formationOf {X : eXT} {a : Nat → Nat} {z : Nat → Int} {ln : Int → Int} {F : eFs} {P : Int → Int} {D : eFs} {DQ : Int → Int} {S : eFs} {SP : Int → Int} {c n : Int} {h : eHs} {g rc : Int → Int} {T : eFs} {Mt : Int → Int → Int} {o : Int → Int} {N : Int} (hF : okF N F) (hg : okG g) (hr : ∀ j, 0 ≤ rc j ∧ rc j ≤ 9) {b : Int} (gb : -2147483648 ≤ b ∧ b ≤ 2147483647) :
    EM X mL_formationOf (eRt 10 2) (fun k => a (eR rhoL k)) [.ref (a 0), vi b, .ref (a 137)] (wA a z ln F P D DQ S SP c n h g rc T Mt [] ++ [eJ 1 1 o]) (eRets (some (vi (exK (if sHas F b then none else some xIx) xIx "" ""))) (fun k => a (eR rhoL k)) (fun cs1 => ∃ g1 rc1 : Int → Int, (∀ j, 0 ≤ rc1 j ∧ rc1 j ≤ 9) ∧ okG g1 ∧ ((if sHas F b then none else some xIx) = none → cs1 = wA a z ln F P D DQ S SP c n h g1 rc1 T Mt [] ++ [eJ 1 1 (eU o 0 (w32 (sGr F b)))]) ∧ (¬ (if sHas F b then none else some xIx) = none → cs1 = wA a z ln F P D DQ S SP c n h g1 rc1 T Mt [] ++ [eJ 1 1 o]))) := by
  have q := C_L_formationOf (X := X) (a := fun k => a (eR rhoL k)) (z := z) (ln := ln) (F := F) (P := P) (D := D) (DQ := DQ) (S := S) (SP := SP) (c := c) (n := n) (h := h) (g := g) (rc := rc) (T := T) (Mt := Mt) (o := o) hF hg hr gb
  simp only [wA_rL (a := a), wA_t1] at q
  exact q
set_option maxHeartbeats 1600000 in
theorem LC_basketCount {X : eXT} {a : Nat → Nat} {b b' : Nat × Nat} {bb L : Nat} {xs : Nat → Int32} {i N : Int} {z : Nat → Int} {ln : Int → Int} {F : eFs} {P : Int → Int} {D : eFs} {DQ : Int → Int} {S : eFs} {SP : Int → Int} {c n : Int} {h : eHs} {g rc : Int → Int} {T : eFs} {Mt : Int → Int → Int} {M : eFs} {o : Int → Int} {od : Nat → UInt64} (hX : X.2 = some (bb, L, xs)) (hL : L ≤ 2147483647) (hi : 0 ≤ i ∧ i + 4 ≤ L) (hb : 2 + b'.1 ≤ b.1 ∧ 12 + b'.2 ≤ b.2) (hN : N + 2400 ≤ 90000000) (hs : SIM N z ln F S c n h g rc T Mt M) (kk : lG X a bb (N + 2400) i b') :
    EV (lK X) a b (wA a z ln F P D DQ S SP c n h g rc T Mt [] ++ (wM (fun k => a (131 + k)) M ++ [eJ 1 1 o, eDd 1 od])) 504 (lLs a bb i) [] := by
  have hs0 := hs
  obtain ⟨⟨hF, hC, hA, hR⟩, -, -, ⟨n1, n2, n3, n4, n5, n6, n7, n8, n9, n10⟩, ⟨l1, l2, l3⟩, ⟨hg, hr⟩, hT, hz, ⟨hw, hw4⟩, hN0⟩ := hs
  have hc9 := hF.1
  refine EV.bud (b' := b') (by omega) ?_
  refine e_aload_n (K := lK X) (i := 1) (n := 505) dL_law_504 rfl rfl ?_
  refine e_cV0 (K := lK X) (n := 508) [0, 1, 2, 3, 4, 5, 6, 7, 8, 9, 10] lk_L_164 rfl dL_law_505 rfl (C_X6_basketCount (z := z) (F := F) (P := P) hF) rfl rfl (Nat.le_of_ble_eq_true rfl) (Nat.le_of_ble_eq_true rfl) (Nat.le_of_ble_eq_true rfl) ⟨rfl, rfl⟩ rfl rfl rfl rfl rfl rfl ?_
  refine e_aload_n (K := lK X) (i := 2) (n := 509) dL_law_508 rfl rfl ?_
  refine e_lawQ (K := lK X) (n := 512) (M2 := sS M 0 0) lk_L_167 rfl dL_law_509 rfl (C_X7_basketCount (M := M) hF hR) rfl rfl (Nat.le_of_ble_eq_true rfl) (Nat.le_of_ble_eq_true rfl) (Nat.le_of_ble_eq_true rfl) ⟨rfl, rfl⟩ wA_len rfl rfl ?_
  exact lCmp (x := F.1 0) (off := 2117) dL_law_512 (by decide) (kk _ _ _ _ _ _ _ _ _ _ _ _ _ _ _ _ _ _ (SIM_up (SIM_eq hs0 mEq_0) (by omega) hN))
set_option maxHeartbeats 1600000 in
theorem LC_cloudCount {X : eXT} {a : Nat → Nat} {b b' : Nat × Nat} {bb L : Nat} {xs : Nat → Int32} {i N : Int} {z : Nat → Int} {ln : Int → Int} {F : eFs} {P : Int → Int} {D : eFs} {DQ : Int → Int} {S : eFs} {SP : Int → Int} {c n : Int} {h : eHs} {g rc : Int → Int} {T : eFs} {Mt : Int → Int → Int} {M : eFs} {o : Int → Int} {od : Nat → UInt64} (hX : X.2 = some (bb, L, xs)) (hL : L ≤ 2147483647) (hi : 0 ≤ i ∧ i + 4 ≤ L) (hb : 2 + b'.1 ≤ b.1 ∧ 12 + b'.2 ≤ b.2) (hN : N + 2400 ≤ 90000000) (hs : SIM N z ln F S c n h g rc T Mt M) (kk : lG X a bb (N + 2400) i b') :
    EV (lK X) a b (wA a z ln F P D DQ S SP c n h g rc T Mt [] ++ (wM (fun k => a (131 + k)) M ++ [eJ 1 1 o, eDd 1 od])) 1176 (lLs a bb i) [] := by
  have hs0 := hs
  obtain ⟨⟨hF, hC, hA, hR⟩, -, -, ⟨n1, n2, n3, n4, n5, n6, n7, n8, n9, n10⟩, ⟨l1, l2, l3⟩, ⟨hg, hr⟩, hT, hz, ⟨hw, hw4⟩, hN0⟩ := hs
  have hc9 := hF.1
  refine EV.bud (b' := b') (by omega) ?_
  refine e_aload_n (K := lK X) (i := 1) (n := 1177) dL_law_1176 rfl rfl ?_
  refine e_cV0 (K := lK X) (n := 1180) [0, 1, 2, 3, 4, 5, 6, 7, 8, 9, 10] lk_L_203 rfl dL_law_1177 rfl (C_X6_cloudCount (z := z) (F := F) (P := P) hF) rfl rfl (Nat.le_of_ble_eq_true rfl) (Nat.le_of_ble_eq_true rfl) (Nat.le_of_ble_eq_true rfl) ⟨rfl, rfl⟩ rfl rfl rfl rfl rfl rfl ?_
  refine e_aload_n (K := lK X) (i := 2) (n := 1181) dL_law_1180 rfl rfl ?_
  refine e_lawQ (K := lK X) (n := 1184) (M2 := sS M 0 0) lk_L_206 rfl dL_law_1181 rfl (C_X7_cloudCount (M := M) hF hR) rfl rfl (Nat.le_of_ble_eq_true rfl) (Nat.le_of_ble_eq_true rfl) (Nat.le_of_ble_eq_true rfl) ⟨rfl, rfl⟩ wA_len rfl rfl ?_
  exact lCmp (x := F.1 9) (off := 1445) dL_law_1184 (by decide) (kk _ _ _ _ _ _ _ _ _ _ _ _ _ _ _ _ _ _ (SIM_up (SIM_eq hs0 mEq_0) (by omega) hN))
set_option maxHeartbeats 1600000 in
theorem LC_turnLength {X : eXT} {a : Nat → Nat} {b b' : Nat × Nat} {bb L : Nat} {xs : Nat → Int32} {i N : Int} {z : Nat → Int} {ln : Int → Int} {F : eFs} {P : Int → Int} {D : eFs} {DQ : Int → Int} {S : eFs} {SP : Int → Int} {c n : Int} {h : eHs} {g rc : Int → Int} {T : eFs} {Mt : Int → Int → Int} {M : eFs} {o : Int → Int} {od : Nat → UInt64} (hX : X.2 = some (bb, L, xs)) (hL : L ≤ 2147483647) (hi : 0 ≤ i ∧ i + 4 ≤ L) (hb : 2 + b'.1 ≤ b.1 ∧ 12 + b'.2 ≤ b.2) (hN : N + 2400 ≤ 90000000) (hs : SIM N z ln F S c n h g rc T Mt M) (kk : lG X a bb (N + 2400) i b') :
    EV (lK X) a b (wA a z ln F P D DQ S SP c n h g rc T Mt [] ++ (wM (fun k => a (131 + k)) M ++ [eJ 1 1 o, eDd 1 od])) 1245 (lLs a bb i) [] := by
  have hs0 := hs
  obtain ⟨⟨hF, hC, hA, hR⟩, -, -, ⟨n1, n2, n3, n4, n5, n6, n7, n8, n9, n10⟩, ⟨l1, l2, l3⟩, ⟨hg, hr⟩, hT, hz, ⟨hw, hw4⟩, hN0⟩ := hs
  have hc9 := hF.1
  refine EV.bud (b' := b') (by omega) ?_
  refine e_aload_n (K := lK X) (i := 1) (n := 1246) dL_law_1245 rfl rfl ?_
  refine e_cV0 (K := lK X) (n := 1249) [0, 1, 2, 3, 4, 5, 6, 7, 8, 9, 10] lk_L_210 rfl dL_law_1246 rfl (C_X6_turnLength (z := z) (F := F) (P := P) hF) rfl rfl (Nat.le_of_ble_eq_true rfl) (Nat.le_of_ble_eq_true rfl) (Nat.le_of_ble_eq_true rfl) ⟨rfl, rfl⟩ rfl rfl rfl rfl rfl rfl ?_
  refine e_aload_n (K := lK X) (i := 2) (n := 1250) dL_law_1249 rfl rfl ?_
  refine e_lawQ (K := lK X) (n := 1253) (M2 := sS M 0 0) lk_L_213 rfl dL_law_1250 rfl (C_X7_turnLength (M := M) hF hR) rfl rfl (Nat.le_of_ble_eq_true rfl) (Nat.le_of_ble_eq_true rfl) (Nat.le_of_ble_eq_true rfl) ⟨rfl, rfl⟩ wA_len rfl rfl ?_
  exact lCmp (x := F.1 3) (off := 1376) dL_law_1253 (by decide) (kk _ _ _ _ _ _ _ _ _ _ _ _ _ _ _ _ _ _ (SIM_up (SIM_eq hs0 mEq_0) (by omega) hN))
set_option maxHeartbeats 1600000 in
theorem LC_keep {X : eXT} {a : Nat → Nat} {b b' : Nat × Nat} {bb L : Nat} {xs : Nat → Int32} {i N : Int} {z : Nat → Int} {ln : Int → Int} {F : eFs} {P : Int → Int} {D : eFs} {DQ : Int → Int} {S : eFs} {SP : Int → Int} {c n : Int} {h : eHs} {g rc : Int → Int} {T : eFs} {Mt : Int → Int → Int} {M : eFs} {o : Int → Int} {od : Nat → UInt64} (hX : X.2 = some (bb, L, xs)) (hL : L ≤ 2147483647) (hi : 0 ≤ i ∧ i + 4 ≤ L) (hb : 2 + b'.1 ≤ b.1 ∧ 12 + b'.2 ≤ b.2) (hN : N + 2400 ≤ 90000000) (hs : SIM N z ln F S c n h g rc T Mt M) (kk : lG X a bb (N + 2400) i b') :
    EV (lK X) a b (wA a z ln F P D DQ S SP c n h g rc T Mt [] ++ (wM (fun k => a (131 + k)) M ++ [eJ 1 1 o, eDd 1 od])) 1670 (lLs a bb i) [] := by
  have hs0 := hs
  obtain ⟨⟨hF, hC, hA, hR⟩, -, -, ⟨n1, n2, n3, n4, n5, n6, n7, n8, n9, n10⟩, ⟨l1, l2, l3⟩, ⟨hg, hr⟩, hT, hz, ⟨hw, hw4⟩, hN0⟩ := hs
  have hc9 := hF.1
  refine EV.bud (b' := b') (by omega) ?_
  refine e_aload_n (K := lK X) (i := 1) (n := 1671) dL_law_1670 rfl rfl ?_
  refine e_cV0 (K := lK X) (n := 1674) [0, 1, 2, 3, 4, 5, 6, 7, 8, 9, 10] lk_L_238 rfl dL_law_1671 rfl (C_X6_keep (z := z) (F := F) (P := P) hF) rfl rfl (Nat.le_of_ble_eq_true rfl) (Nat.le_of_ble_eq_true rfl) (Nat.le_of_ble_eq_true rfl) ⟨rfl, rfl⟩ rfl rfl rfl rfl rfl rfl ?_
  refine e_aload_n (K := lK X) (i := 2) (n := 1675) dL_law_1674 rfl rfl ?_
  refine e_lawQ (K := lK X) (n := 1678) (M2 := sS M 0 0) lk_L_241 rfl dL_law_1675 rfl (C_X7_keep (M := M) hF hR) rfl rfl (Nat.le_of_ble_eq_true rfl) (Nat.le_of_ble_eq_true rfl) (Nat.le_of_ble_eq_true rfl) ⟨rfl, rfl⟩ wA_len rfl rfl ?_
  exact lCmp (x := F.1 6) (off := 951) dL_law_1678 (by decide) (kk _ _ _ _ _ _ _ _ _ _ _ _ _ _ _ _ _ _ (SIM_up (SIM_eq hs0 mEq_0) (by omega) hN))
set_option maxHeartbeats 1600000 in
theorem LC_stepCount {X : eXT} {a : Nat → Nat} {b b' : Nat × Nat} {bb L : Nat} {xs : Nat → Int32} {i N : Int} {z : Nat → Int} {ln : Int → Int} {F : eFs} {P : Int → Int} {D : eFs} {DQ : Int → Int} {S : eFs} {SP : Int → Int} {c n : Int} {h : eHs} {g rc : Int → Int} {T : eFs} {Mt : Int → Int → Int} {M : eFs} {o : Int → Int} {od : Nat → UInt64} (hX : X.2 = some (bb, L, xs)) (hL : L ≤ 2147483647) (hi : 0 ≤ i ∧ i + 4 ≤ L) (hb : 2 + b'.1 ≤ b.1 ∧ 12 + b'.2 ≤ b.2) (hN : N + 2400 ≤ 90000000) (hs : SIM N z ln F S c n h g rc T Mt M) (kk : lG X a bb (N + 2400) i b') :
    EV (lK X) a b (wA a z ln F P D DQ S SP c n h g rc T Mt [] ++ (wM (fun k => a (131 + k)) M ++ [eJ 1 1 o, eDd 1 od])) 1739 (lLs a bb i) [] := by
  have hs0 := hs
  obtain ⟨⟨hF, hC, hA, hR⟩, -, -, ⟨n1, n2, n3, n4, n5, n6, n7, n8, n9, n10⟩, ⟨l1, l2, l3⟩, ⟨hg, hr⟩, hT, hz, ⟨hw, hw4⟩, hN0⟩ := hs
  have hc9 := hF.1
  refine EV.bud (b' := b') (by omega) ?_
  refine e_aload_n (K := lK X) (i := 1) (n := 1740) dL_law_1739 rfl rfl ?_
  refine e_cV0 (K := lK X) (n := 1743) [0, 1, 2, 3, 4, 5, 6, 7, 8, 9, 10] lk_L_245 rfl dL_law_1740 rfl (C_X6_stepCount (z := z) (F := F) (P := P) hF) rfl rfl (Nat.le_of_ble_eq_true rfl) (Nat.le_of_ble_eq_true rfl) (Nat.le_of_ble_eq_true rfl) ⟨rfl, rfl⟩ rfl rfl rfl rfl rfl rfl ?_
  refine e_aload_n (K := lK X) (i := 2) (n := 1744) dL_law_1743 rfl rfl ?_
  refine e_lawQ (K := lK X) (n := 1747) (M2 := sS M 0 0) lk_L_248 rfl dL_law_1744 rfl (C_X7_stepCount (M := M) hF hR) rfl rfl (Nat.le_of_ble_eq_true rfl) (Nat.le_of_ble_eq_true rfl) (Nat.le_of_ble_eq_true rfl) ⟨rfl, rfl⟩ wA_len rfl rfl ?_
  exact lCmp (x := F.1 7) (off := 882) dL_law_1747 (by decide) (kk _ _ _ _ _ _ _ _ _ _ _ _ _ _ _ _ _ _ (SIM_up (SIM_eq hs0 mEq_0) (by omega) hN))
set_option maxHeartbeats 1600000 in
theorem LC_moveTotal {X : eXT} {a : Nat → Nat} {b b' : Nat × Nat} {bb L : Nat} {xs : Nat → Int32} {i N : Int} {z : Nat → Int} {ln : Int → Int} {F : eFs} {P : Int → Int} {D : eFs} {DQ : Int → Int} {S : eFs} {SP : Int → Int} {c n : Int} {h : eHs} {g rc : Int → Int} {T : eFs} {Mt : Int → Int → Int} {M : eFs} {o : Int → Int} {od : Nat → UInt64} (hX : X.2 = some (bb, L, xs)) (hL : L ≤ 2147483647) (hi : 0 ≤ i ∧ i + 4 ≤ L) (hb : 2 + b'.1 ≤ b.1 ∧ 12 + b'.2 ≤ b.2) (hN : N + 2400 ≤ 90000000) (hs : SIM N z ln F S c n h g rc T Mt M) (kk : lG X a bb (N + 2400) i b') :
    EV (lK X) a b (wA a z ln F P D DQ S SP c n h g rc T Mt [] ++ (wM (fun k => a (131 + k)) M ++ [eJ 1 1 o, eDd 1 od])) 1808 (lLs a bb i) [] := by
  have hs0 := hs
  obtain ⟨⟨hF, hC, hA, hR⟩, -, -, ⟨n1, n2, n3, n4, n5, n6, n7, n8, n9, n10⟩, ⟨l1, l2, l3⟩, ⟨hg, hr⟩, hT, hz, ⟨hw, hw4⟩, hN0⟩ := hs
  have hc9 := hF.1
  refine EV.bud (b' := b') (by omega) ?_
  refine e_aload_n (K := lK X) (i := 1) (n := 1809) dL_law_1808 rfl rfl ?_
  refine e_cV0 (K := lK X) (n := 1812) [0, 1, 2, 3, 4, 5, 6, 7, 8, 9, 10] lk_L_252 rfl dL_law_1809 rfl (C_X6_moveTotal (z := z) (F := F) (P := P) hF) rfl rfl (Nat.le_of_ble_eq_true rfl) (Nat.le_of_ble_eq_true rfl) (Nat.le_of_ble_eq_true rfl) ⟨rfl, rfl⟩ rfl rfl rfl rfl rfl rfl ?_
  refine e_aload_n (K := lK X) (i := 2) (n := 1813) dL_law_1812 rfl rfl ?_
  refine e_lawQ (K := lK X) (n := 1816) (M2 := sS M 0 0) lk_L_256 rfl dL_law_1813 rfl (C_X7_moveTotal (M := M) hF hR) rfl rfl (Nat.le_of_ble_eq_true rfl) (Nat.le_of_ble_eq_true rfl) (Nat.le_of_ble_eq_true rfl) ⟨rfl, rfl⟩ wA_len rfl rfl ?_
  exact lCmpL (x := sSumM F) (off := 812) dL_law_1816 dL_law_1817 (by decide) (kk _ _ _ _ _ _ _ _ _ _ _ _ _ _ _ _ _ _ (SIM_up (SIM_eq hs0 mEq_0) (by omega) hN))
set_option maxHeartbeats 1600000 in
theorem LC_waitTotal {X : eXT} {a : Nat → Nat} {b b' : Nat × Nat} {bb L : Nat} {xs : Nat → Int32} {i N : Int} {z : Nat → Int} {ln : Int → Int} {F : eFs} {P : Int → Int} {D : eFs} {DQ : Int → Int} {S : eFs} {SP : Int → Int} {c n : Int} {h : eHs} {g rc : Int → Int} {T : eFs} {Mt : Int → Int → Int} {M : eFs} {o : Int → Int} {od : Nat → UInt64} (hX : X.2 = some (bb, L, xs)) (hL : L ≤ 2147483647) (hi : 0 ≤ i ∧ i + 4 ≤ L) (hb : 2 + b'.1 ≤ b.1 ∧ 12 + b'.2 ≤ b.2) (hN : N + 2400 ≤ 90000000) (hs : SIM N z ln F S c n h g rc T Mt M) (kk : lG X a bb (N + 2400) i b') :
    EV (lK X) a b (wA a z ln F P D DQ S SP c n h g rc T Mt [] ++ (wM (fun k => a (131 + k)) M ++ [eJ 1 1 o, eDd 1 od])) 1822 (lLs a bb i) [] := by
  have hs0 := hs
  obtain ⟨⟨hF, hC, hA, hR⟩, -, -, ⟨n1, n2, n3, n4, n5, n6, n7, n8, n9, n10⟩, ⟨l1, l2, l3⟩, ⟨hg, hr⟩, hT, hz, ⟨hw, hw4⟩, hN0⟩ := hs
  have hc9 := hF.1
  refine EV.bud (b' := b') (by omega) ?_
  refine e_aload_n (K := lK X) (i := 1) (n := 1823) dL_law_1822 rfl rfl ?_
  refine e_cV0 (K := lK X) (n := 1826) [0, 1, 2, 3, 4, 5, 6, 7, 8, 9, 10] lk_L_257 rfl dL_law_1823 rfl (C_X6_waitTotal (z := z) (F := F) (P := P) hF) rfl rfl (Nat.le_of_ble_eq_true rfl) (Nat.le_of_ble_eq_true rfl) (Nat.le_of_ble_eq_true rfl) ⟨rfl, rfl⟩ rfl rfl rfl rfl rfl rfl ?_
  refine e_aload_n (K := lK X) (i := 2) (n := 1827) dL_law_1826 rfl rfl ?_
  refine e_lawQ (K := lK X) (n := 1830) (M2 := sS M 0 0) lk_L_260 rfl dL_law_1827 rfl (C_X7_waitTotal (M := M) hF hR) rfl rfl (Nat.le_of_ble_eq_true rfl) (Nat.le_of_ble_eq_true rfl) (Nat.le_of_ble_eq_true rfl) ⟨rfl, rfl⟩ wA_len rfl rfl ?_
  exact lCmp (x := F.1 8) (off := 799) dL_law_1830 (by decide) (kk _ _ _ _ _ _ _ _ _ _ _ _ _ _ _ _ _ _ (SIM_up (SIM_eq hs0 mEq_0) (by omega) hN))
set_option maxHeartbeats 1600000 in
theorem LC_formationCount {X : eXT} {a : Nat → Nat} {b b' : Nat × Nat} {bb L : Nat} {xs : Nat → Int32} {i N : Int} {z : Nat → Int} {ln : Int → Int} {F : eFs} {P : Int → Int} {D : eFs} {DQ : Int → Int} {S : eFs} {SP : Int → Int} {c n : Int} {h : eHs} {g rc : Int → Int} {T : eFs} {Mt : Int → Int → Int} {M : eFs} {o : Int → Int} {od : Nat → UInt64} (hX : X.2 = some (bb, L, xs)) (hL : L ≤ 2147483647) (hi : 0 ≤ i ∧ i + 4 ≤ L) (hb : 2 + b'.1 ≤ b.1 ∧ 12 + b'.2 ≤ b.2) (hN : N + 2400 ≤ 90000000) (hs : SIM N z ln F S c n h g rc T Mt M) (kk : lG X a bb (N + 2400) i b') :
    EV (lK X) a b (wA a z ln F P D DQ S SP c n h g rc T Mt [] ++ (wM (fun k => a (131 + k)) M ++ [eJ 1 1 o, eDd 1 od])) 1835 (lLs a bb i) [] := by
  have hs0 := hs
  obtain ⟨⟨hF, hC, hA, hR⟩, -, -, ⟨n1, n2, n3, n4, n5, n6, n7, n8, n9, n10⟩, ⟨l1, l2, l3⟩, ⟨hg, hr⟩, hT, hz, ⟨hw, hw4⟩, hN0⟩ := hs
  have hc9 := hF.1
  refine EV.bud (b' := b') (by omega) ?_
  refine e_aload_n (K := lK X) (i := 1) (n := 1836) dL_law_1835 rfl rfl ?_
  refine e_cV1 (K := lK X) (n := 1839) [0, 1, 2, 3, 4, 5, 6, 7, 8, 9, 10, 113, 114, 115] lk_L_261 rfl dL_law_1836 rfl (C_X6_formationCount (z := z) (F := F) (P := P) (g := g) (rc := rc) hF hg hr) rfl rfl (Nat.le_of_ble_eq_true rfl) (Nat.le_of_ble_eq_true rfl) (Nat.le_of_ble_eq_true rfl) ⟨rfl, rfl⟩ rfl rfl rfl rfl rfl rfl (fun cs1 q => by obtain ⟨g1, rc1, q, -⟩ := q; rw [q]; rfl) (fun cs1 q => ?_)
  obtain ⟨g2, rc2, q1, hr2, hg2⟩ := q
  subst q1
  refine EV.ceq (cs' := wA a z ln F P D DQ S SP c n h g2 rc2 T Mt [] ++ (wM (fun k => a (131 + k)) M ++ [eJ 1 1 o, eDd 1 od])) (by rw [← wA_tl, ← wA_tl]; exact gOFG (t := (wM (fun k => a (131 + k)) M ++ [eJ 1 1 o, eDd 1 od])) (O' := [wO (a 1) (a 11) (a 21) (a 31) (a 113) (a 116) (a 130) (z)]) (F' := wFl (fun k => a (1 + k)) (F) (P)) (G' := [.inr (3, [.ref (a 114), .ref (a 115)]), eI 0 10 g2, eI 0 10 rc2]) rfl rfl rfl rfl rfl rfl rfl rfl rfl rfl rfl) ?_
  refine e_aload_n (K := lK X) (i := 2) (n := 1840) dL_law_1839 rfl rfl ?_
  refine e_lawQ (K := lK X) (n := 1843) (M2 := sS M 0 0) lk_L_264 rfl dL_law_1840 rfl (C_X7_formationCount (M := M) hF hR) rfl rfl (Nat.le_of_ble_eq_true rfl) (Nat.le_of_ble_eq_true rfl) (Nat.le_of_ble_eq_true rfl) ⟨rfl, rfl⟩ wA_len rfl rfl ?_
  exact lCmp (x := sFor F) (off := 786) dL_law_1843 (by decide) (kk _ _ _ _ _ _ _ _ _ _ _ _ _ _ _ _ _ _ (SIM_up (SIM_eq (SIM_g hs0 hg2 hr2) mEq_0) (by omega) hN))
set_option maxHeartbeats 1600000 in
theorem LC_formationCountByMerging {X : eXT} {a : Nat → Nat} {b b' : Nat × Nat} {bb L : Nat} {xs : Nat → Int32} {i N : Int} {z : Nat → Int} {ln : Int → Int} {F : eFs} {P : Int → Int} {D : eFs} {DQ : Int → Int} {S : eFs} {SP : Int → Int} {c n : Int} {h : eHs} {g rc : Int → Int} {T : eFs} {Mt : Int → Int → Int} {M : eFs} {o : Int → Int} {od : Nat → UInt64} (hX : X.2 = some (bb, L, xs)) (hL : L ≤ 2147483647) (hi : 0 ≤ i ∧ i + 4 ≤ L) (hb : 2 + b'.1 ≤ b.1 ∧ 12 + b'.2 ≤ b.2) (hN : N + 2400 ≤ 90000000) (hs : SIM N z ln F S c n h g rc T Mt M) (kk : lG X a bb (N + 2400) i b') :
    EV (lK X) a b (wA a z ln F P D DQ S SP c n h g rc T Mt [] ++ (wM (fun k => a (131 + k)) M ++ [eJ 1 1 o, eDd 1 od])) 1848 (lLs a bb i) [] := by
  have hs0 := hs
  obtain ⟨⟨hF, hC, hA, hR⟩, -, -, ⟨n1, n2, n3, n4, n5, n6, n7, n8, n9, n10⟩, ⟨l1, l2, l3⟩, ⟨hg, hr⟩, hT, hz, ⟨hw, hw4⟩, hN0⟩ := hs
  have hc9 := hF.1
  refine EV.bud (b' := b') (by omega) ?_
  refine e_aload_n (K := lK X) (i := 1) (n := 1849) dL_law_1848 rfl rfl ?_
  refine e_cV1 (K := lK X) (n := 1852) [0, 1, 2, 3, 4, 5, 6, 7, 8, 9, 10, 113, 114, 115] lk_L_265 rfl dL_law_1849 rfl (C_X6_formationCountByMerging (z := z) (F := F) (P := P) (g := g) (rc := rc) hF hg hr) rfl rfl (Nat.le_of_ble_eq_true rfl) (Nat.le_of_ble_eq_true rfl) (Nat.le_of_ble_eq_true rfl) ⟨rfl, rfl⟩ rfl rfl rfl rfl rfl rfl (fun cs1 q => by obtain ⟨g1, rc1, q, -⟩ := q; rw [q]; rfl) (fun cs1 q => ?_)
  obtain ⟨g2, rc2, q1, hr2, hg2⟩ := q
  subst q1
  refine EV.ceq (cs' := wA a z ln F P D DQ S SP c n h g2 rc2 T Mt [] ++ (wM (fun k => a (131 + k)) M ++ [eJ 1 1 o, eDd 1 od])) (by rw [← wA_tl, ← wA_tl]; exact gOFG (t := (wM (fun k => a (131 + k)) M ++ [eJ 1 1 o, eDd 1 od])) (O' := [wO (a 1) (a 11) (a 21) (a 31) (a 113) (a 116) (a 130) (z)]) (F' := wFl (fun k => a (1 + k)) (F) (P)) (G' := [.inr (3, [.ref (a 114), .ref (a 115)]), eI 0 10 g2, eI 0 10 rc2]) rfl rfl rfl rfl rfl rfl rfl rfl rfl rfl rfl) ?_
  refine e_aload_n (K := lK X) (i := 2) (n := 1853) dL_law_1852 rfl rfl ?_
  refine e_lawQ (K := lK X) (n := 1856) (M2 := sS M 0 0) lk_L_268 rfl dL_law_1853 rfl (C_X7_formationCountByMerging (M := M) hF hR) rfl rfl (Nat.le_of_ble_eq_true rfl) (Nat.le_of_ble_eq_true rfl) (Nat.le_of_ble_eq_true rfl) ⟨rfl, rfl⟩ wA_len rfl rfl ?_
  exact lCmp (x := sFor F) (off := 773) dL_law_1856 (by decide) (kk _ _ _ _ _ _ _ _ _ _ _ _ _ _ _ _ _ _ (SIM_up (SIM_eq (SIM_g hs0 hg2 hr2) mEq_0) (by omega) hN))
set_option maxHeartbeats 1600000 in
theorem LC_largestFormation {X : eXT} {a : Nat → Nat} {b b' : Nat × Nat} {bb L : Nat} {xs : Nat → Int32} {i N : Int} {z : Nat → Int} {ln : Int → Int} {F : eFs} {P : Int → Int} {D : eFs} {DQ : Int → Int} {S : eFs} {SP : Int → Int} {c n : Int} {h : eHs} {g rc : Int → Int} {T : eFs} {Mt : Int → Int → Int} {M : eFs} {o : Int → Int} {od : Nat → UInt64} (hX : X.2 = some (bb, L, xs)) (hL : L ≤ 2147483647) (hi : 0 ≤ i ∧ i + 4 ≤ L) (hb : 2 + b'.1 ≤ b.1 ∧ 12 + b'.2 ≤ b.2) (hN : N + 2400 ≤ 90000000) (hs : SIM N z ln F S c n h g rc T Mt M) (kk : lG X a bb (N + 2400) i b') :
    EV (lK X) a b (wA a z ln F P D DQ S SP c n h g rc T Mt [] ++ (wM (fun k => a (131 + k)) M ++ [eJ 1 1 o, eDd 1 od])) 1861 (lLs a bb i) [] := by
  have hs0 := hs
  obtain ⟨⟨hF, hC, hA, hR⟩, -, -, ⟨n1, n2, n3, n4, n5, n6, n7, n8, n9, n10⟩, ⟨l1, l2, l3⟩, ⟨hg, hr⟩, hT, hz, ⟨hw, hw4⟩, hN0⟩ := hs
  have hc9 := hF.1
  refine EV.bud (b' := b') (by omega) ?_
  refine e_aload_n (K := lK X) (i := 1) (n := 1862) dL_law_1861 rfl rfl ?_
  refine e_cV1 (K := lK X) (n := 1865) [0, 1, 2, 3, 4, 5, 6, 7, 8, 9, 10, 113, 114, 115] lk_L_269 rfl dL_law_1862 rfl (C_X6_largestFormation (z := z) (F := F) (P := P) (g := g) (rc := rc) hF hg hr) rfl rfl (Nat.le_of_ble_eq_true rfl) (Nat.le_of_ble_eq_true rfl) (Nat.le_of_ble_eq_true rfl) ⟨rfl, rfl⟩ rfl rfl rfl rfl rfl rfl (fun cs1 q => by obtain ⟨g1, rc1, q, -⟩ := q; rw [q]; rfl) (fun cs1 q => ?_)
  obtain ⟨g2, rc2, q1, hr2, hg2⟩ := q
  subst q1
  refine EV.ceq (cs' := wA a z ln F P D DQ S SP c n h g2 rc2 T Mt [] ++ (wM (fun k => a (131 + k)) M ++ [eJ 1 1 o, eDd 1 od])) (by rw [← wA_tl, ← wA_tl]; exact gOFG (t := (wM (fun k => a (131 + k)) M ++ [eJ 1 1 o, eDd 1 od])) (O' := [wO (a 1) (a 11) (a 21) (a 31) (a 113) (a 116) (a 130) (z)]) (F' := wFl (fun k => a (1 + k)) (F) (P)) (G' := [.inr (3, [.ref (a 114), .ref (a 115)]), eI 0 10 g2, eI 0 10 rc2]) rfl rfl rfl rfl rfl rfl rfl rfl rfl rfl rfl) ?_
  refine e_aload_n (K := lK X) (i := 2) (n := 1866) dL_law_1865 rfl rfl ?_
  refine e_lawQ (K := lK X) (n := 1869) (M2 := sS M 0 0) lk_L_272 rfl dL_law_1866 rfl (C_X7_largestFormation (M := M) hF hR) rfl rfl (Nat.le_of_ble_eq_true rfl) (Nat.le_of_ble_eq_true rfl) (Nat.le_of_ble_eq_true rfl) ⟨rfl, rfl⟩ wA_len rfl rfl ?_
  exact lCmp (x := sLrg F) (off := 760) dL_law_1869 (by decide) (kk _ _ _ _ _ _ _ _ _ _ _ _ _ _ _ _ _ _ (SIM_up (SIM_eq (SIM_g hs0 hg2 hr2) mEq_0) (by omega) hN))
set_option maxHeartbeats 1600000 in
theorem LC_formationOf {X : eXT} {a : Nat → Nat} {b b' : Nat × Nat} {bb L : Nat} {xs : Nat → Int32} {i N : Int} {z : Nat → Int} {ln : Int → Int} {F : eFs} {P : Int → Int} {D : eFs} {DQ : Int → Int} {S : eFs} {SP : Int → Int} {c n : Int} {h : eHs} {g rc : Int → Int} {T : eFs} {Mt : Int → Int → Int} {M : eFs} {o : Int → Int} {od : Nat → UInt64} (hX : X.2 = some (bb, L, xs)) (hL : L ≤ 2147483647) (hi : 0 ≤ i ∧ i + 4 ≤ L) (hb : 2 + b'.1 ≤ b.1 ∧ 12 + b'.2 ≤ b.2) (hN : N + 2400 ≤ 90000000) (hs : SIM N z ln F S c n h g rc T Mt M) (kk : lG X a bb (N + 2400) i b') :
    EV (lK X) a b (wA a z ln F P D DQ S SP c n h g rc T Mt [] ++ (wM (fun k => a (131 + k)) M ++ [eJ 1 1 o, eDd 1 od])) 1874 (lLs a bb i) [] := by
  have hs0 := hs
  obtain ⟨⟨hF, hC, hA, hR⟩, -, -, ⟨n1, n2, n3, n4, n5, n6, n7, n8, n9, n10⟩, ⟨l1, l2, l3⟩, ⟨hg, hr⟩, hT, hz, ⟨hw, hw4⟩, hN0⟩ := hs
  have hc9 := hF.1
  have g1 := sc_in (xs := xs) (z := i + 1)
  have hTE : (if sHas F (sc xs (i + 1)) then (0 : Int) else 1) = exK (if sHas F (sc xs (i + 1)) then none else some xIx) xIx "" "" := exK_i1.symm
  have hV : (if sHas F (sc xs (i + 1)) then (0 : Int) else 1) = 0 → (if (if sHas F (sc xs (i + 1)) then (0 : Int) else 1) = 0 then sGr F (sc xs (i + 1)) else 0 : Int) = sGr F (sc xs (i + 1)) := fun q => if_pos q
  refine e_aload_n (K := lK X) (i := 1) (n := 1875) dL_law_1874 rfl rfl ?_
  refine lArg (k := 1) dL_law_1875 dL_law_1876 dL_law_1878 dL_law_1879 dL_law_1880 hX hL rfl rfl (by omega) ?_
  refine e_aload_n (K := lK X) (i := 3) (n := 1882) dL_law_1881 rfl rfl ?_
  refine e_lawL (K := lK X) (b' := b') (n := 1885) lk_L_273 (by decide) dL_law_1882 rfl (W_formationOf hF hg hr g1) rfl rfl (Nat.le_of_ble_eq_true rfl) (Nat.le_of_ble_eq_true rfl) (Nat.le_of_ble_eq_true rfl) ⟨hb.1, hb.2⟩ wA_len wM_6 (fun cs1 q => ?_) (fun A' o1' hA' q => ?_)
  · obtain ⟨g1, rc1, -, -, q1, q2⟩ := q
    by_cases he : (if sHas F (sc xs (i + 1)) then none else some xIx : Option String) = none
    · exact ⟨_, _, q1 he, wA_len⟩
    · exact ⟨_, _, q2 he, wA_len⟩
  · obtain ⟨g2, rc2, hr2, hg2, q1, q2⟩ := q
    have hs2 := SIM_g hs0 hg2 hr2
    by_cases he : (if sHas F (sc xs (i + 1)) then none else some xIx : Option String) = none
    · obtain ⟨w1, w2⟩ := List.append_inj (q1 he) (by rw [hA', wA_len])
      injection w2 with w3 w4
      rw [w1, w3]
      refine EV.eq (st' := [vi 0]) (by show [vi (exK (if sHas F (sc xs (i + 1)) then none else some xIx) xIx "" "")] = _; rw [exK_n he]) ?_
      refine f_istore (K := lK X) (n := 1887) dL_law_1885 rfl (Nat.le_of_ble_eq_true rfl) rfl ?_
      refine e_aload_n (K := lK X) (i := 2) (n := 1888) dL_law_1887 rfl rfl ?_
      refine lArg (k := 1) dL_law_1888 dL_law_1889 dL_law_1891 dL_law_1892 dL_law_1893 hX hL rfl rfl (by omega) ?_
      refine e_lawQ (K := lK X) (n := 1897) (M2 := sS M 0 (if sHas F (sc xs (i + 1)) then (0 : Int) else 1)) lk_L_275 rfl dL_law_1894 rfl (C_X7_formationOf (M := M) hF hR g1) rfl rfl (Nat.le_of_ble_eq_true rfl) (Nat.le_of_ble_eq_true rfl) (Nat.le_of_ble_eq_true rfl) ⟨rfl, rfl⟩ wA_len rfl rfl ?_
      refine EV.eq (st' := [vi (w32 (sGr F (sc xs (i + 1))))]) (by show [vi (if (if sHas F (sc xs (i + 1)) then (0 : Int) else 1) = 0 then sGr F (sc xs (i + 1)) else 0)] = _; rw [hV (hTE.trans (exK_n he))]; exact congrArg (fun v => [v]) w32_v) ?_
      refine f_istore (K := lK X) (n := 1899) dL_law_1897 rfl (Nat.le_of_ble_eq_true rfl) rfl ?_
      exact lTail (bb := bb) (i := i) (e := 0) (v := (w32 (sGr F (sc xs (i + 1))))) (off := 702) dL_law_1899 dL_law_1900 dL_law_1903 dL_law_1905 dL_law_1910 dL_law_1912 dL_law_1915 dL_law_1916 dL_law_1917 dL_law_1918 dL_law_1920 dL_law_1921 dL_law_1922 dL_law_1927 (by decide) wA_len (by decide) (Eq.trans sS_0 (hTE.trans (exK_n he))) (fun _ => eU_self) w32_in (kk _ _ _ _ _ _ _ _ _ _ _ _ _ _ _ _ _ _ (SIM_up (SIM_eq hs2 mEq_0) (by omega) hN))
    · obtain ⟨w1, w2⟩ := List.append_inj (q2 he) (by rw [hA', wA_len])
      injection w2 with w3 w4
      rw [w1, w3]
      have hx3 := exK_in (e1 := xIx) (e2 := "") (e3 := "") he
      refine f_istore (K := lK X) (n := 1887) dL_law_1885 rfl (Nat.le_of_ble_eq_true rfl) rfl ?_
      refine e_aload_n (K := lK X) (i := 2) (n := 1888) dL_law_1887 rfl rfl ?_
      refine lArg (k := 1) dL_law_1888 dL_law_1889 dL_law_1891 dL_law_1892 dL_law_1893 hX hL rfl rfl (by omega) ?_
      refine e_lawQ (K := lK X) (n := 1897) (M2 := sS M 0 (if sHas F (sc xs (i + 1)) then (0 : Int) else 1)) lk_L_275 rfl dL_law_1894 rfl (C_X7_formationOf (M := M) hF hR g1) rfl rfl (Nat.le_of_ble_eq_true rfl) (Nat.le_of_ble_eq_true rfl) (Nat.le_of_ble_eq_true rfl) ⟨rfl, rfl⟩ wA_len rfl rfl ?_
      refine EV.eq (st' := [vi (w32 (if (if sHas F (sc xs (i + 1)) then (0 : Int) else 1) = 0 then sGr F (sc xs (i + 1)) else 0))]) (congrArg (fun v => [v]) w32_v) ?_
      refine f_istore (K := lK X) (n := 1899) dL_law_1897 rfl (Nat.le_of_ble_eq_true rfl) rfl ?_
      exact lTail (bb := bb) (i := i) (e := (exK (if sHas F (sc xs (i + 1)) then none else some xIx) xIx "" "")) (v := (w32 (if (if sHas F (sc xs (i + 1)) then (0 : Int) else 1) = 0 then sGr F (sc xs (i + 1)) else 0))) (off := 702) dL_law_1899 dL_law_1900 dL_law_1903 dL_law_1905 dL_law_1910 dL_law_1912 dL_law_1915 dL_law_1916 dL_law_1917 dL_law_1918 dL_law_1920 dL_law_1921 dL_law_1922 dL_law_1927 (by decide) wA_len (by omega) (Eq.trans sS_0 hTE) (fun q => by exfalso; omega) w32_in (kk _ _ _ _ _ _ _ _ _ _ _ _ _ _ _ _ _ _ (SIM_up (SIM_eq hs2 mEq_0) (by omega) hN))
set_option maxHeartbeats 1600000 in
theorem LC_mixedPairs {X : eXT} {a : Nat → Nat} {b b' : Nat × Nat} {bb L : Nat} {xs : Nat → Int32} {i N : Int} {z : Nat → Int} {ln : Int → Int} {F : eFs} {P : Int → Int} {D : eFs} {DQ : Int → Int} {S : eFs} {SP : Int → Int} {c n : Int} {h : eHs} {g rc : Int → Int} {T : eFs} {Mt : Int → Int → Int} {M : eFs} {o : Int → Int} {od : Nat → UInt64} (hX : X.2 = some (bb, L, xs)) (hL : L ≤ 2147483647) (hi : 0 ≤ i ∧ i + 4 ≤ L) (hb : 2 + b'.1 ≤ b.1 ∧ 12 + b'.2 ≤ b.2) (hN : N + 2400 ≤ 90000000) (hs : SIM N z ln F S c n h g rc T Mt M) (kk : lG X a bb (N + 2400) i b') :
    EV (lK X) a b (wA a z ln F P D DQ S SP c n h g rc T Mt [] ++ (wM (fun k => a (131 + k)) M ++ [eJ 1 1 o, eDd 1 od])) 1930 (lLs a bb i) [] := by
  have hs0 := hs
  obtain ⟨⟨hF, hC, hA, hR⟩, -, -, ⟨n1, n2, n3, n4, n5, n6, n7, n8, n9, n10⟩, ⟨l1, l2, l3⟩, ⟨hg, hr⟩, hT, hz, ⟨hw, hw4⟩, hN0⟩ := hs
  have hc9 := hF.1
  refine EV.bud (b' := b') (by omega) ?_
  refine e_aload_n (K := lK X) (i := 1) (n := 1931) dL_law_1930 rfl rfl ?_
  refine e_cV0 (K := lK X) (n := 1934) [0, 1, 2, 3, 4, 5, 6, 7, 8, 9, 10] lk_L_276 rfl dL_law_1931 rfl (C_X6_mixedPairs (z := z) (F := F) (P := P) hF) rfl rfl (Nat.le_of_ble_eq_true rfl) (Nat.le_of_ble_eq_true rfl) (Nat.le_of_ble_eq_true rfl) ⟨rfl, rfl⟩ rfl rfl rfl rfl rfl rfl ?_
  refine e_aload_n (K := lK X) (i := 2) (n := 1935) dL_law_1934 rfl rfl ?_
  refine e_lawQ (K := lK X) (n := 1938) (M2 := sS M 0 0) lk_L_279 rfl dL_law_1935 rfl (C_X7_mixedPairs (M := M) hF hR) rfl rfl (Nat.le_of_ble_eq_true rfl) (Nat.le_of_ble_eq_true rfl) (Nat.le_of_ble_eq_true rfl) ⟨rfl, rfl⟩ wA_len rfl rfl ?_
  exact lCmp (x := sMix F) (off := 691) dL_law_1938 (by decide) (kk _ _ _ _ _ _ _ _ _ _ _ _ _ _ _ _ _ _ (SIM_up (SIM_eq hs0 mEq_0) (by omega) hN))
set_option maxHeartbeats 1600000 in
theorem LC_mixedPairsByHandles {X : eXT} {a : Nat → Nat} {b b' : Nat × Nat} {bb L : Nat} {xs : Nat → Int32} {i N : Int} {z : Nat → Int} {ln : Int → Int} {F : eFs} {P : Int → Int} {D : eFs} {DQ : Int → Int} {S : eFs} {SP : Int → Int} {c n : Int} {h : eHs} {g rc : Int → Int} {T : eFs} {Mt : Int → Int → Int} {M : eFs} {o : Int → Int} {od : Nat → UInt64} (hX : X.2 = some (bb, L, xs)) (hL : L ≤ 2147483647) (hi : 0 ≤ i ∧ i + 4 ≤ L) (hb : 2 + b'.1 ≤ b.1 ∧ 12 + b'.2 ≤ b.2) (hN : N + 2400 ≤ 90000000) (hs : SIM N z ln F S c n h g rc T Mt M) (kk : lG X a bb (N + 2400) i b') :
    EV (lK X) a b (wA a z ln F P D DQ S SP c n h g rc T Mt [] ++ (wM (fun k => a (131 + k)) M ++ [eJ 1 1 o, eDd 1 od])) 1943 (lLs a bb i) [] := by
  have hs0 := hs
  obtain ⟨⟨hF, hC, hA, hR⟩, -, -, ⟨n1, n2, n3, n4, n5, n6, n7, n8, n9, n10⟩, ⟨l1, l2, l3⟩, ⟨hg, hr⟩, hT, hz, ⟨hw, hw4⟩, hN0⟩ := hs
  have hc9 := hF.1
  refine EV.bud (b' := b') (by omega) ?_
  refine e_aload_n (K := lK X) (i := 1) (n := 1944) dL_law_1943 rfl rfl ?_
  refine e_cV0 (K := lK X) (n := 1947) [0, 1, 2, 3, 4, 5, 6, 7, 8, 9, 10] lk_L_280 rfl dL_law_1944 rfl (C_X6_mixedPairsByHandles (z := z) (F := F) (P := P) hF) rfl rfl (Nat.le_of_ble_eq_true rfl) (Nat.le_of_ble_eq_true rfl) (Nat.le_of_ble_eq_true rfl) ⟨rfl, rfl⟩ rfl rfl rfl rfl rfl rfl ?_
  refine e_aload_n (K := lK X) (i := 2) (n := 1948) dL_law_1947 rfl rfl ?_
  refine e_lawQ (K := lK X) (n := 1951) (M2 := sS M 0 0) lk_L_283 rfl dL_law_1948 rfl (C_X7_mixedPairsByHandles (M := M) hF hR) rfl rfl (Nat.le_of_ble_eq_true rfl) (Nat.le_of_ble_eq_true rfl) (Nat.le_of_ble_eq_true rfl) ⟨rfl, rfl⟩ wA_len rfl rfl ?_
  exact lCmp (x := sMix F) (off := 678) dL_law_1951 (by decide) (kk _ _ _ _ _ _ _ _ _ _ _ _ _ _ _ _ _ _ (SIM_up (SIM_eq hs0 mEq_0) (by omega) hN))
set_option maxHeartbeats 1600000 in
theorem LC_shapeCount {X : eXT} {a : Nat → Nat} {b b' : Nat × Nat} {bb L : Nat} {xs : Nat → Int32} {i N : Int} {z : Nat → Int} {ln : Int → Int} {F : eFs} {P : Int → Int} {D : eFs} {DQ : Int → Int} {S : eFs} {SP : Int → Int} {c n : Int} {h : eHs} {g rc : Int → Int} {T : eFs} {Mt : Int → Int → Int} {M : eFs} {o : Int → Int} {od : Nat → UInt64} (hX : X.2 = some (bb, L, xs)) (hL : L ≤ 2147483647) (hi : 0 ≤ i ∧ i + 4 ≤ L) (hb : 2 + b'.1 ≤ b.1 ∧ 12 + b'.2 ≤ b.2) (hN : N + 2400 ≤ 90000000) (hs : SIM N z ln F S c n h g rc T Mt M) (kk : lG X a bb (N + 2400) i b') :
    EV (lK X) a b (wA a z ln F P D DQ S SP c n h g rc T Mt [] ++ (wM (fun k => a (131 + k)) M ++ [eJ 1 1 o, eDd 1 od])) 1956 (lLs a bb i) [] := by
  have hs0 := hs
  obtain ⟨⟨hF, hC, hA, hR⟩, -, -, ⟨n1, n2, n3, n4, n5, n6, n7, n8, n9, n10⟩, ⟨l1, l2, l3⟩, ⟨hg, hr⟩, hT, hz, ⟨hw, hw4⟩, hN0⟩ := hs
  have hc9 := hF.1
  refine EV.bud (b' := b') (by omega) ?_
  refine e_aload_n (K := lK X) (i := 1) (n := 1957) dL_law_1956 rfl rfl ?_
  refine e_cV0 (K := lK X) (n := 1960) [0, 1, 2, 3, 4, 5, 6, 7, 8, 9, 10] lk_L_284 rfl dL_law_1957 rfl (C_X6_shapeCount (z := z) (F := F) (P := P) hF) rfl rfl (Nat.le_of_ble_eq_true rfl) (Nat.le_of_ble_eq_true rfl) (Nat.le_of_ble_eq_true rfl) ⟨rfl, rfl⟩ rfl rfl rfl rfl rfl rfl ?_
  refine e_aload_n (K := lK X) (i := 2) (n := 1961) dL_law_1960 rfl rfl ?_
  refine e_lawQ (K := lK X) (n := 1964) (M2 := sS M 0 0) lk_L_287 rfl dL_law_1961 rfl (C_X7_shapeCount (M := M) hF hR) rfl rfl (Nat.le_of_ble_eq_true rfl) (Nat.le_of_ble_eq_true rfl) (Nat.le_of_ble_eq_true rfl) ⟨rfl, rfl⟩ wA_len rfl rfl ?_
  exact lCmp (x := F.1 10) (off := 665) dL_law_1964 (by decide) (kk _ _ _ _ _ _ _ _ _ _ _ _ _ _ _ _ _ _ (SIM_up (SIM_eq hs0 mEq_0) (by omega) hN))
set_option maxHeartbeats 1600000 in
theorem LC_differentShapes {X : eXT} {a : Nat → Nat} {b b' : Nat × Nat} {bb L : Nat} {xs : Nat → Int32} {i N : Int} {z : Nat → Int} {ln : Int → Int} {F : eFs} {P : Int → Int} {D : eFs} {DQ : Int → Int} {S : eFs} {SP : Int → Int} {c n : Int} {h : eHs} {g rc : Int → Int} {T : eFs} {Mt : Int → Int → Int} {M : eFs} {o : Int → Int} {od : Nat → UInt64} (hX : X.2 = some (bb, L, xs)) (hL : L ≤ 2147483647) (hi : 0 ≤ i ∧ i + 4 ≤ L) (hb : 2 + b'.1 ≤ b.1 ∧ 12 + b'.2 ≤ b.2) (hN : N + 2400 ≤ 90000000) (hs : SIM N z ln F S c n h g rc T Mt M) (kk : lG X a bb (N + 2400) i b') :
    EV (lK X) a b (wA a z ln F P D DQ S SP c n h g rc T Mt [] ++ (wM (fun k => a (131 + k)) M ++ [eJ 1 1 o, eDd 1 od])) 1969 (lLs a bb i) [] := by
  have hs0 := hs
  obtain ⟨⟨hF, hC, hA, hR⟩, -, -, ⟨n1, n2, n3, n4, n5, n6, n7, n8, n9, n10⟩, ⟨l1, l2, l3⟩, ⟨hg, hr⟩, hT, hz, ⟨hw, hw4⟩, hN0⟩ := hs
  have hc9 := hF.1
  refine EV.bud (b' := b') (by omega) ?_
  refine e_aload_n (K := lK X) (i := 1) (n := 1970) dL_law_1969 rfl rfl ?_
  refine e_cV0 (K := lK X) (n := 1973) [0, 1, 2, 3, 4, 5, 6, 7, 8, 9, 10] lk_L_288 rfl dL_law_1970 rfl (C_X6_differentShapes (z := z) (F := F) (P := P) hF) rfl rfl (Nat.le_of_ble_eq_true rfl) (Nat.le_of_ble_eq_true rfl) (Nat.le_of_ble_eq_true rfl) ⟨rfl, rfl⟩ rfl rfl rfl rfl rfl rfl ?_
  refine e_aload_n (K := lK X) (i := 2) (n := 1974) dL_law_1973 rfl rfl ?_
  refine e_lawQ (K := lK X) (n := 1977) (M2 := sS M 0 0) lk_L_291 rfl dL_law_1974 rfl (C_X7_differentShapes (M := M) hF hR) rfl rfl (Nat.le_of_ble_eq_true rfl) (Nat.le_of_ble_eq_true rfl) (Nat.le_of_ble_eq_true rfl) ⟨rfl, rfl⟩ wA_len rfl rfl ?_
  exact lCmp (x := sDif F) (off := 652) dL_law_1977 (by decide) (kk _ _ _ _ _ _ _ _ _ _ _ _ _ _ _ _ _ _ (SIM_up (SIM_eq hs0 mEq_0) (by omega) hN))
set_option maxHeartbeats 1600000 in
theorem LC_isConsistent {X : eXT} {a : Nat → Nat} {b b' : Nat × Nat} {bb L : Nat} {xs : Nat → Int32} {i N : Int} {z : Nat → Int} {ln : Int → Int} {F : eFs} {P : Int → Int} {D : eFs} {DQ : Int → Int} {S : eFs} {SP : Int → Int} {c n : Int} {h : eHs} {g rc : Int → Int} {T : eFs} {Mt : Int → Int → Int} {M : eFs} {o : Int → Int} {od : Nat → UInt64} (hX : X.2 = some (bb, L, xs)) (hL : L ≤ 2147483647) (hi : 0 ≤ i ∧ i + 4 ≤ L) (hb : 2 + b'.1 ≤ b.1 ∧ 12 + b'.2 ≤ b.2) (hN : N + 2400 ≤ 90000000) (hs : SIM N z ln F S c n h g rc T Mt M) (kk : lG X a bb (N + 2400) i b') :
    EV (lK X) a b (wA a z ln F P D DQ S SP c n h g rc T Mt [] ++ (wM (fun k => a (131 + k)) M ++ [eJ 1 1 o, eDd 1 od])) 2515 (lLs a bb i) [] := by
  have hs0 := hs
  obtain ⟨⟨hF, hC, hA, hR⟩, -, -, ⟨n1, n2, n3, n4, n5, n6, n7, n8, n9, n10⟩, ⟨l1, l2, l3⟩, ⟨hg, hr⟩, hT, hz, ⟨hw, hw4⟩, hN0⟩ := hs
  have hc9 := hF.1
  refine EV.bud (b' := b') (by omega) ?_
  refine e_aload_n (K := lK X) (i := 1) (n := 2516) dL_law_2515 rfl rfl ?_
  refine e_cV1 (K := lK X) (n := 2519) [0, 1, 2, 3, 4, 5, 6, 7, 8, 9, 10, 113, 114, 115] lk_L_324 rfl dL_law_2516 rfl (C_X6_isConsistent (z := z) (F := F) (P := P) (g := g) (rc := rc) hF hg hr (okA_clr hF hA)) rfl rfl (Nat.le_of_ble_eq_true rfl) (Nat.le_of_ble_eq_true rfl) (Nat.le_of_ble_eq_true rfl) ⟨rfl, rfl⟩ rfl rfl rfl rfl rfl rfl (fun cs1 q => by obtain ⟨g1, rc1, q, -⟩ := q; rw [q]; rfl) (fun cs1 q => ?_)
  obtain ⟨g2, rc2, q1, hr2, hg2⟩ := q
  subst q1
  refine EV.ceq (cs' := wA a z ln F P D DQ S SP c n h g2 rc2 T Mt [] ++ (wM (fun k => a (131 + k)) M ++ [eJ 1 1 o, eDd 1 od])) (by rw [← wA_tl, ← wA_tl]; exact gOFG (t := (wM (fun k => a (131 + k)) M ++ [eJ 1 1 o, eDd 1 od])) (O' := [wO (a 1) (a 11) (a 21) (a 31) (a 113) (a 116) (a 130) (z)]) (F' := wFl (fun k => a (1 + k)) (F) (P)) (G' := [.inr (3, [.ref (a 114), .ref (a 115)]), eI 0 10 g2, eI 0 10 rc2]) rfl rfl rfl rfl rfl rfl rfl rfl rfl rfl rfl) ?_
  refine e_aload_n (K := lK X) (i := 2) (n := 2520) dL_law_2519 rfl rfl ?_
  refine e_lawQ (K := lK X) (n := 2523) (M2 := sS M 0 0) lk_L_328 rfl dL_law_2520 rfl (C_X7_isConsistent (M := M)) rfl rfl (Nat.le_of_ble_eq_true rfl) (Nat.le_of_ble_eq_true rfl) (Nat.le_of_ble_eq_true rfl) ⟨rfl, rfl⟩ wA_len rfl rfl ?_
  refine EV.eq (st' := [vi 1, vi 1]) rfl ?_
  exact lCmp (x := 1) (off := 106) dL_law_2523 (by decide) (kk _ _ _ _ _ _ _ _ _ _ _ _ _ _ _ _ _ _ (SIM_up (SIM_eq (SIM_g hs0 hg2 hr2) mEq_0) (by omega) hN))
set_option maxHeartbeats 1600000 in
theorem LC_save {X : eXT} {a : Nat → Nat} {b b' : Nat × Nat} {bb L : Nat} {xs : Nat → Int32} {i N : Int} {z : Nat → Int} {ln : Int → Int} {F : eFs} {P : Int → Int} {D : eFs} {DQ : Int → Int} {S : eFs} {SP : Int → Int} {c n : Int} {h : eHs} {g rc : Int → Int} {T : eFs} {Mt : Int → Int → Int} {M : eFs} {o : Int → Int} {od : Nat → UInt64} (hX : X.2 = some (bb, L, xs)) (hL : L ≤ 2147483647) (hi : 0 ≤ i ∧ i + 4 ≤ L) (hb : 2 + b'.1 ≤ b.1 ∧ 12 + b'.2 ≤ b.2) (hN : N + 2400 ≤ 90000000) (hs : SIM N z ln F S c n h g rc T Mt M) (kk : lG X a bb (N + 2400) i b') :
    EV (lK X) a b (wA a z ln F P D DQ S SP c n h g rc T Mt [] ++ (wM (fun k => a (131 + k)) M ++ [eJ 1 1 o, eDd 1 od])) 2572 (lLs a bb i) [] := by
  have hs0 := hs
  obtain ⟨⟨hF, hC, hA, hR⟩, -, -, ⟨n1, n2, n3, n4, n5, n6, n7, n8, n9, n10⟩, ⟨l1, l2, l3⟩, ⟨hg, hr⟩, hT, hz, ⟨hw, hw4⟩, hN0⟩ := hs
  have hc9 := hF.1
  refine EV.bud (b' := b') (by omega) ?_
  refine e_aload_n (K := lK X) (i := 1) (n := 2573) dL_law_2572 rfl rfl ?_
  refine e_cV2 (K := lK X) (n := 2576) (cs' := wA a (zS z 5 1) ln F P D DQ F SP c n h g rc T Mt [] ++ (wM (fun k => a (131 + k)) M ++ [eJ 1 1 o, eDd 1 od])) [0, 1, 2, 3, 4, 5, 6, 7, 8, 9, 10, 21, 22, 23, 24, 25, 26, 27, 28, 29, 30] lk_L_332 rfl dL_law_2573 rfl (C_X6_save (z := z) (F := F) (P := P) (F2 := S) (P2 := SP)) rfl rfl (Nat.le_of_ble_eq_true rfl) (Nat.le_of_ble_eq_true rfl) (Nat.le_of_ble_eq_true rfl) ⟨rfl, rfl⟩ rfl rfl rfl rfl rfl rfl rfl (by rw [← wA_tl, ← wA_tl]; exact gOFS (t := (wM (fun k => a (131 + k)) M ++ [eJ 1 1 o, eDd 1 od])) (O' := [wO (a 1) (a 11) (a 21) (a 31) (a 113) (a 116) (a 130) (zS z 5 1)]) (F' := wFl (fun k => a (1 + k)) (F) (P)) (S' := wFl (fun k => a (21 + k)) (F) (SP)) rfl rfl rfl rfl rfl rfl rfl rfl rfl rfl rfl) ?_
  refine e_aload_n (K := lK X) (i := 2) (n := 2577) dL_law_2576 rfl rfl ?_
  refine e_lawQ (K := lK X) (n := 2580) (M2 := sR (sS (sS M 0 0) 2 1) 0 (eCy (M.2 0) (M.2 0) (250 * 0) (250 * 9) 250)) lk_L_335 rfl dL_law_2577 rfl (C_X7_save (M := M) hF hR) rfl rfl (Nat.le_of_ble_eq_true rfl) (Nat.le_of_ble_eq_true rfl) (Nat.le_of_ble_eq_true rfl) ⟨rfl, rfl⟩ wA_len rfl rfl ?_
  exact lCmp (x := F.1 0) (off := 49) dL_law_2580 (by decide) (kk _ _ _ _ _ _ _ _ _ _ _ _ _ _ _ _ _ _ (SIM_up (SIM_save hs0) (by omega) hN))
