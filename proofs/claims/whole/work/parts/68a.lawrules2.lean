/-! ===== the law: one step of it ===== -/
def lR : Room := ⟨20, 603072, 7194730, 10868⟩
def lQ : ePo := fun o _ _ => o = .inl (some (.int 1))
abbrev lK (X : eXT) : eK := (mL_law, lR, lQ, X)
def lLs (a : Nat → Nat) (bb : Nat) (i : Int) : List (Option Value) := [some (.ref bb), some (.ref (a 0)), some (.ref (a 131)), some (.ref (a 137)), some (.ref (a 138)), some (vi i), none, none, none]
/-- from the end of a step on -/
def lG (X : eXT) (a : Nat → Nat) (bb : Nat) (N i : Int) (b : Nat × Nat) : Prop := ∀ (z : Nat → Int) (ln : Int → Int) (F : eFs) (P : Int → Int) (D : eFs) (DQ : Int → Int) (S : eFs) (SP : Int → Int) (c n : Int) (h : eHs) (g rc : Int → Int) (T : eFs) (Mt : Int → Int → Int) (M : eFs) (o : Int → Int) (od : Nat → UInt64), SIM N z ln F S c n h g rc T Mt M → EV (lK X) a b (wA a z ln F P D DQ S SP c n h g rc T Mt [] ++ (wM (fun k => a (131 + k)) M ++ [eJ 1 1 o, eDd 1 od])) 2629 (lLs a bb i) []
theorem wM_6 {a : Nat → Nat} {M : eFs} : (wM a M).length = 6 := rfl
theorem exK_s1 {e1 e2 e3 : String} : exK (some e1) e1 e2 e3 = 1 := if_pos rfl
theorem exK_s2 {e1 e2 e3 : String} (h : ¬ e2 = e1) : exK (some e2) e1 e2 e3 = 2 := (if_neg h).trans (if_pos rfl)
theorem exK_s3 {e e1 e2 e3 : String} (h : ¬ e = e1) (h2 : ¬ e = e2) : exK (some e) e1 e2 e3 = 3 := (if_neg h).trans (if_neg h2)
theorem sS_0 {M : eFs} {t : Int} : (sS M 0 t).1 0 = t := by
  show (if (0 : Nat) = 0 then t else M.1 0) = t
  exact if_pos rfl
/-- a choice of one or two reasons: the law's number -/
theorem exK_i1 {c : Prop} [Decidable c] {e1 e2 e3 : String} : exK (if c then none else some e1) e1 e2 e3 = if c then 0 else 1 := by
  by_cases q : c
  · rw [if_pos q, if_pos q]; rfl
  · rw [if_neg q, if_neg q]; exact exK_s1
theorem exK_i2 {c d : Prop} [Decidable c] [Decidable d] {e1 e2 e3 : String} (h : ¬ e2 = e1) : exK (if c then (if d then none else some e2) else some e1) e1 e2 e3 = if c then (if d then 0 else 2) else 1 := by
  by_cases q : c
  · rw [if_pos q, if_pos q]
    by_cases r : d
    · rw [if_pos r, if_pos r]; rfl
    · rw [if_neg r, if_neg r]; exact exK_s2 h
  · rw [if_neg q, if_neg q]; exact exK_s1
theorem ite_n1 {c : Prop} [Decidable c] {e : String} : (if c then none else some e : Option String) = none ↔ c := by
  by_cases h : c
  · rw [if_pos h]; exact ⟨fun _ => h, fun _ => rfl⟩
  · rw [if_neg h]; exact ⟨fun q => (by cases q), fun q => absurd q h⟩
theorem ite_n2 {c d : Prop} [Decidable c] [Decidable d] {e1 e2 : String} : (if c then (if d then none else some e2) else some e1 : Option String) = none ↔ (c ∧ d) := by
  by_cases h : c
  · rw [if_pos h]
    exact ite_n1.trans ⟨fun q => ⟨h, q⟩, fun q => q.2⟩
  · rw [if_neg h]; exact ⟨fun q => (by cases q), fun q => absurd q.1 h⟩
section EVW2
variable {K : eK} {a : Nat → Nat} {b b' : Nat × Nat} {pc n : Nat} {ls : List (Option Value)} {st rest av : List Value} {M1 : mE} {R1 : Room} {v : Value}
theorem e_lawW {idx nA : Nat} {A A1 AX B : List eE} {o1 o2 n1 : eE} {E : Option String} (hw : eLkS K.1.1.cls idx M1 nA) (hh : M1.2.2.2.2 ≠ []) (d : decode K.1.2.1 pc = .ok (.invokestatic idx, 3)) (hn : pc + 3 = n)
    (hM : EM (K.2.2.2.1, none) M1 R1 (fun k => a (eR rhoL k)) av (A ++ [o1]) (eRets (some v) (fun k => a (eR rhoL k)) (fun cs1 => (E = none → cs1 = A1 ++ [n1]) ∧ (¬ E = none → cs1 = AX ++ [o1])))) (hst : st = av.reverse ++ rest) (hlen : av.length = nA) (hcat : (rest.map fun v => v.category).sum ≤ 8)
    (hfr : R1.frames + 1 ≤ K.2.1.frames) (hlo : 8 + (M1.2.2.1 + 11) + R1.locals ≤ K.2.1.locals) (hR : R1.cells + b'.1 ≤ b.1 ∧ R1.slots + b'.2 ≤ b.2)
    (hA : A.length = 131) (hA1 : A1.length = 131) (hAX : AX.length = 131) (hB : B.length = 6) (kn : E = none → EV K a b' (A1 ++ (B ++ [n1, o2])) n ls (v :: rest)) (kx : ¬ E = none → EV K a b' (AX ++ (B ++ [o1, o2])) n ls (v :: rest)) : EV K a b (A ++ (B ++ [o1, o2])) pc ls st := by
  refine e_lawL hw hh d hn hM hst hlen hcat hfr hlo hR hA hB (fun cs1 q => ?_) (fun A' o1' hA' q => ?_)
  · by_cases e : E = none
    · exact ⟨A1, n1, q.1 e, hA1⟩
    · exact ⟨AX, o1, q.2 e, hAX⟩
  · by_cases e : E = none
    · obtain ⟨q1, q2⟩ := List.append_inj (q.1 e) (by rw [hA', hA1])
      injection q2 with q3 q4
      rw [q1, q3]
      exact kn e
    · obtain ⟨q1, q2⟩ := List.append_inj (q.2 e) (by rw [hA', hAX])
      injection q2 with q3 q4
      rw [q1, q3]
      exact kx e
theorem e_lawD {idx nA : Nat} {A A1 AX B : List eE} {o1 o2 n2 : eE} {E : Option String} (hw : eLkS K.1.1.cls idx M1 nA) (hh : M1.2.2.2.2 ≠ []) (d : decode K.1.2.1 pc = .ok (.invokestatic idx, 3)) (hn : pc + 3 = n)
    (hM : EM (K.2.2.2.1, none) M1 R1 (fun k => a (eR rhoE k)) av (A ++ [o2]) (eRets (some v) (fun k => a (eR rhoE k)) (fun cs1 => (E = none → cs1 = A1 ++ [n2]) ∧ (¬ E = none → cs1 = AX ++ [o2])))) (hst : st = av.reverse ++ rest) (hlen : av.length = nA) (hcat : (rest.map fun v => v.category).sum ≤ 8)
    (hfr : R1.frames + 1 ≤ K.2.1.frames) (hlo : 8 + (M1.2.2.1 + 11) + R1.locals ≤ K.2.1.locals) (hR : R1.cells + b'.1 ≤ b.1 ∧ R1.slots + b'.2 ≤ b.2)
    (hA : A.length = 131) (hA1 : A1.length = 131) (hAX : AX.length = 131) (hB : B.length = 6) (kn : E = none → EV K a b' (A1 ++ (B ++ [o1, n2])) n ls (v :: rest)) (kx : ¬ E = none → EV K a b' (AX ++ (B ++ [o1, o2])) n ls (v :: rest)) : EV K a b (A ++ (B ++ [o1, o2])) pc ls st := by
  refine e_lawE hw hh d hn hM hst hlen hcat hfr hlo hR hA hB (fun cs1 q => ?_) (fun A' o1' hA' q => ?_)
  · by_cases e : E = none
    · exact ⟨A1, n2, q.1 e, hA1⟩
    · exact ⟨AX, o2, q.2 e, hAX⟩
  · by_cases e : E = none
    · obtain ⟨q1, q2⟩ := List.append_inj (q.1 e) (by rw [hA', hA1])
      injection q2 with q3 q4
      rw [q1, q3]
      exact kn e
    · obtain ⟨q1, q2⟩ := List.append_inj (q.2 e) (by rw [hA', hAX])
      injection q2 with q3 q4
      rw [q1, q3]
      exact kx e
end EVW2
section LAW
variable {X : eXT} {a : Nat → Nat} {b : Nat × Nat} {bb L : Nat} {xs : Nat → Int32} {i : Int} {ls : List (Option Value)} {st : List Value} {cs : List eE}
/-- one number of the script -/
theorem lArg {p : Nat} {k : Int} (d0 : decode cL_law p = .ok (.aload_n 0, 1)) (d1 : decode cL_law (p + 1) = .ok (.iload 5, 2)) (d3 : decode cL_law (p + 3) = .ok (.iconst k, 1)) (d4 : decode cL_law (p + 4) = .ok (.iadd, 1)) (d5 : decode cL_law (p + 5) = .ok (.iaload, 1))
    (hX : X.2 = some (bb, L, xs)) (hL : L ≤ 2147483647) (hl0 : ls[0]? = some (some (.ref bb))) (hl5 : ls[5]? = some (some (vi i))) (hz : 0 ≤ i + k ∧ i + k < L)
    (kk : EV (lK X) a b cs (p + 6) ls (vi (sc xs (i + k)) :: st)) : EV (lK X) a b cs p ls st := by
  refine e_aload_n (K := lK X) (i := 0) (n := p + 1) d0 rfl hl0 ?_
  refine e_iload (K := lK X) (n := p + 3) d1 rfl hl5 ?_
  refine e_iconst (K := lK X) (n := p + 4) d3 rfl ?_
  refine e_iadd (K := lK X) (n := p + 5) d4 rfl ?_
  exact e_slv (K := lK X) (n := p + 6) hX d5 rfl hz hL kk
/-- the end of a step that compares whole numbers -/
theorem lTail {A : List eE} {o : Int → Int} {od : eE} {M : eFs} {e v : Int} {p : Nat} {off : Int}
    (d0 : decode cL_law p = .ok (.aload_n 2, 1)) (d1 : decode cL_law (p + 1) = .ok (.invokevirtual 154, 3)) (d4 : decode cL_law (p + 4) = .ok (.iload 6, 2)) (d6 : decode cL_law (p + 6) = .ok (.if_icmp .eq 5, 3))
    (d11 : decode cL_law (p + 11) = .ok (.iload 6, 2)) (d13 : decode cL_law (p + 13) = .ok (.ifCond .ne 15, 3)) (d16 : decode cL_law (p + 16) = .ok (.aload_n 3, 1)) (d17 : decode cL_law (p + 17) = .ok (.iconst 0, 1)) (d18 : decode cL_law (p + 18) = .ok (.laload, 1)) (d19 : decode cL_law (p + 19) = .ok (.iload 7, 2)) (d21 : decode cL_law (p + 21) = .ok (.i2l, 1)) (d22 : decode cL_law (p + 22) = .ok (.lcmp, 1)) (d23 : decode cL_law (p + 23) = .ok (.ifCond .eq 5, 3)) (d28 : decode cL_law (p + 28) = .ok (.goto off, 3)) (ho : ((p + 28 : Nat) : Int) + off = ((2629 : Nat) : Int))
    (hA : A.length = 131) (he : 0 ≤ e ∧ e ≤ 3) (hT : M.1 0 = e) (hv : e = 0 → o 0 = v) (gv : -2147483648 ≤ v ∧ v ≤ 2147483647)
    (kk : EV (lK X) a b (A ++ (wM (fun k => a (131 + k)) M ++ [eJ 1 1 o, od])) 2629 (lLs a bb i) []) :
    EV (lK X) a b (A ++ (wM (fun k => a (131 + k)) M ++ [eJ 1 1 o, od])) p [some (.ref bb), some (.ref (a 0)), some (.ref (a 131)), some (.ref (a 137)), some (.ref (a 138)), some (vi i), some (vi e), some (vi v), none] [] := by
  have kend : EV (lK X) a b (A ++ (wM (fun k => a (131 + k)) M ++ [eJ 1 1 o, od])) (p + 28) [some (.ref bb), some (.ref (a 0)), some (.ref (a 131)), some (.ref (a 137)), some (.ref (a 138)), some (vi i), some (vi e), some (vi v), none] [] := by
    refine e_goto (K := lK X) (n := 2629) d28 ho ?_
    refine EV.fgt 6 ?_
    refine EV.fgt 7 ?_
    exact kk
  refine e_aload_n (K := lK X) (i := 2) (n := p + 1) d0 rfl rfl ?_
  refine e_lawQ (K := lK X) (n := p + 4) lk_L_154 rfl d1 rfl (C_X7_thrown (X := (X.1, none)) (a := fun k => a (eR rhoM k)) (M := M)) rfl rfl (Nat.le_of_ble_eq_true rfl) (Nat.le_of_ble_eq_true rfl) (Nat.le_of_ble_eq_true rfl) ⟨rfl, rfl⟩ hA rfl rfl ?_
  refine e_iload (K := lK X) (n := p + 6) d4 rfl rfl ?_
  refine e_icmp_eq (K := lK X) (t := p + 11) (n := p + 9) d6 (by omega) rfl (by omega) (by omega) (fun _ => ?_) (fun q => absurd hT q)
  refine e_iload (K := lK X) (n := p + 13) d11 rfl rfl ?_
  refine e_if_ne (K := lK X) (t := p + 28) (n := p + 16) d13 (by omega) rfl (by omega) (fun _ => kend) (fun q => ?_)
  have e0 : e = 0 := Decidable.not_not.mp q
  have w := hv e0
  refine e_aload_n (K := lK X) (i := 3) (n := p + 17) d16 rfl rfl ?_
  refine e_iconst (K := lK X) (n := p + 18) d17 rfl ?_
  refine e_laload (K := lK X) (n := p + 19) (i := 137) (N := 1) (x := o) d18 rfl rfl (by rw [show (137 : Nat) = 131 + 6 from rfl, get_B hA]; rfl) (by decide) (by decide) ?_
  refine e_iload (K := lK X) (n := p + 21) d19 rfl rfl ?_
  refine e_i2l (K := lK X) (n := p + 22) d21 rfl gv ?_
  refine e_lcmp (K := lK X) (n := p + 23) d22 rfl ?_
  exact e_ifl_eq (K := lK X) (t := p + 28) (n := p + 26) d23 (by omega) rfl (by rw [w]; omega) (by omega) (fun _ => kend) (fun q => absurd w q)
/-- the end of a step that compares one answer each -/
theorem lCmp {p : Nat} {off : Int} {x : Int} (d0 : decode cL_law p = .ok (.if_icmp .eq off, 3)) (ho : ((p : Nat) : Int) + off = ((2629 : Nat) : Int))
    (kk : EV (lK X) a b cs 2629 ls []) : EV (lK X) a b cs p ls [vi x, vi x] := by
  refine EV.eq (st' := [vi (w32 x), vi (w32 x)]) (congrArg (fun v => [v, v]) w32_v) ?_
  exact e_icmp_eq (K := lK X) (t := 2629) (n := p + 3) d0 ho rfl w32_in w32_in (fun _ => kk) (fun w => absurd rfl w)
theorem lCmpL {p : Nat} {off : Int} {x : Int} (d0 : decode cL_law p = .ok (.lcmp, 1)) (d1 : decode cL_law (p + 1) = .ok (.ifCond .eq off, 3)) (ho : ((p + 1 : Nat) : Int) + off = ((2629 : Nat) : Int))
    (kk : EV (lK X) a b cs 2629 ls []) : EV (lK X) a b cs p ls [vl x, vl x] := by
  have e : Int64.ofInt x = Int64.ofInt (Int64.ofInt x).toInt := (Int64.ofInt_toInt _).symm
  have r : -9223372036854775808 ≤ (Int64.ofInt x).toInt ∧ (Int64.ofInt x).toInt ≤ 9223372036854775807 := ⟨Int64.le_toInt _, by have := Int64.toInt_lt (Int64.ofInt x); omega⟩
  refine EV.eq (st' := [vl (Int64.ofInt x).toInt, vl (Int64.ofInt x).toInt]) (congrArg (fun v => [Value.long v, Value.long v]) e) ?_
  refine e_lcmp (K := lK X) (n := p + 1) d0 rfl ?_
  exact e_ifl_eq (K := lK X) (t := 2629) (n := p + 4) d1 ho rfl r r (fun _ => kk) (fun w => absurd rfl w)
/-- what every end of a step with reasons has first -/
theorem lFst {A C : List eE} {M : eFs} {e : Int} {v7 v8 : Option Value} {p t : Nat} {off : Int}
    (d0 : decode cL_law p = .ok (.aload_n 2, 1)) (d1 : decode cL_law (p + 1) = .ok (.invokevirtual 154, 3)) (d4 : decode cL_law (p + 4) = .ok (.iload 6, 2)) (d6 : decode cL_law (p + 6) = .ok (.if_icmp .eq 5, 3)) (d11 : decode cL_law (p + 11) = .ok (.iload 6, 2)) (d13 : decode cL_law (p + 13) = .ok (.ifCond .ne off, 3)) (ht : ((p + 13 : Nat) : Int) + off = ((t : Nat) : Int))
    (hA : A.length = 131) (he : 0 ≤ e ∧ e ≤ 3) (hT : M.1 0 = e)
    (kt : EV (lK X) a b (A ++ (wM (fun k => a (131 + k)) M ++ C)) t [some (.ref bb), some (.ref (a 0)), some (.ref (a 131)), some (.ref (a 137)), some (.ref (a 138)), some (vi i), some (vi e), v7, v8] [])
    (kf : e = 0 → EV (lK X) a b (A ++ (wM (fun k => a (131 + k)) M ++ C)) (p + 16) [some (.ref bb), some (.ref (a 0)), some (.ref (a 131)), some (.ref (a 137)), some (.ref (a 138)), some (vi i), some (vi e), v7, v8] []) :
    EV (lK X) a b (A ++ (wM (fun k => a (131 + k)) M ++ C)) p [some (.ref bb), some (.ref (a 0)), some (.ref (a 131)), some (.ref (a 137)), some (.ref (a 138)), some (vi i), some (vi e), v7, v8] [] := by
  refine e_aload_n (K := lK X) (i := 2) (n := p + 1) d0 rfl rfl ?_
  refine e_lawQ (K := lK X) (n := p + 4) lk_L_154 rfl d1 rfl (C_X7_thrown (M := M)) rfl rfl (Nat.le_of_ble_eq_true rfl) (Nat.le_of_ble_eq_true rfl) (Nat.le_of_ble_eq_true rfl) ⟨rfl, rfl⟩ hA rfl rfl ?_
  refine e_iload (K := lK X) (n := p + 6) d4 rfl rfl ?_
  refine e_icmp_eq (K := lK X) (t := p + 11) (n := p + 9) d6 (by omega) rfl (by omega) (by omega) (fun _ => ?_) (fun q => absurd hT q)
  refine e_iload (K := lK X) (n := p + 13) d11 rfl rfl ?_
  exact e_if_ne (K := lK X) (t := t) (n := p + 16) d13 ht rfl (by omega) (fun _ => kt) (fun q => kf (Decidable.not_not.mp q))
/-- the end of a step that compares truths -/
theorem lTailB {A : List eE} {o : Int → Int} {od : eE} {M : eFs} {e : Int} {c : Prop} [Decidable c] {p : Nat} {off : Int}
    (d0 : decode cL_law p = .ok (.aload_n 2, 1)) (d1 : decode cL_law (p + 1) = .ok (.invokevirtual 154, 3)) (d4 : decode cL_law (p + 4) = .ok (.iload 6, 2)) (d6 : decode cL_law (p + 6) = .ok (.if_icmp .eq 5, 3)) (d11 : decode cL_law (p + 11) = .ok (.iload 6, 2)) (d13 : decode cL_law (p + 13) = .ok (.ifCond .ne 22, 3))
    (d16 : decode cL_law (p + 16) = .ok (.aload_n 3, 1)) (d17 : decode cL_law (p + 17) = .ok (.iconst 0, 1)) (d18 : decode cL_law (p + 18) = .ok (.laload, 1)) (d19 : decode cL_law (p + 19) = .ok (.iload 7, 2)) (d21 : decode cL_law (p + 21) = .ok (.ifCond .eq 7, 3)) (d24 : decode cL_law (p + 24) = .ok (.lconst 1, 1)) (d25 : decode cL_law (p + 25) = .ok (.goto 4, 3)) (d28 : decode cL_law (p + 28) = .ok (.lconst 0, 1)) (d29 : decode cL_law (p + 29) = .ok (.lcmp, 1)) (d30 : decode cL_law (p + 30) = .ok (.ifCond .eq 5, 3)) (d35 : decode cL_law (p + 35) = .ok (.goto off, 3)) (ho : ((p + 35 : Nat) : Int) + off = ((2629 : Nat) : Int))
    (hA : A.length = 131) (he : 0 ≤ e ∧ e ≤ 3) (hT : M.1 0 = e) (hv : e = 0 → o 0 = if c then 1 else 0)
    (kk : EV (lK X) a b (A ++ (wM (fun k => a (131 + k)) M ++ [eJ 1 1 o, od])) 2629 (lLs a bb i) []) :
    EV (lK X) a b (A ++ (wM (fun k => a (131 + k)) M ++ [eJ 1 1 o, od])) p [some (.ref bb), some (.ref (a 0)), some (.ref (a 131)), some (.ref (a 137)), some (.ref (a 138)), some (vi i), some (vi e), some (vb c), none] [] := by
  have kend : EV (lK X) a b (A ++ (wM (fun k => a (131 + k)) M ++ [eJ 1 1 o, od])) (p + 35) [some (.ref bb), some (.ref (a 0)), some (.ref (a 131)), some (.ref (a 137)), some (.ref (a 138)), some (vi i), some (vi e), some (vb c), none] [] := by
    refine e_goto (K := lK X) (n := 2629) d35 ho ?_
    refine EV.fgt 6 ?_
    refine EV.fgt 7 ?_
    exact kk
  refine lFst (t := p + 35) d0 d1 d4 d6 d11 d13 (by omega) hA he hT kend (fun e0 => ?_)
  have w := hv e0
  refine e_aload_n (K := lK X) (i := 3) (n := p + 17) d16 rfl rfl ?_
  refine e_iconst (K := lK X) (n := p + 18) d17 rfl ?_
  refine e_laload (K := lK X) (n := p + 19) (i := 137) (N := 1) (x := o) d18 rfl rfl (by rw [show (137 : Nat) = 131 + 6 from rfl, get_B hA]; rfl) (by decide) (by decide) ?_
  refine e_iload (K := lK X) (n := p + 21) d19 rfl rfl ?_
  refine e_ifb_eq (K := lK X) (c := c) (t := p + 28) (n := p + 24) d21 (by omega) rfl (fun hc => ?_) (fun hc => ?_)
  · have w2 : o 0 = 0 := w.trans (if_neg hc)
    refine e_lconst (K := lK X) (n := p + 29) d28 rfl ?_
    refine e_lcmp (K := lK X) (n := p + 30) d29 rfl ?_
    exact e_ifl_eq (K := lK X) (x := o 0) (y := 0) (t := p + 35) (n := p + 33) d30 (by omega) rfl (by omega) (by omega) (fun _ => kend) (fun q => absurd w2 q)
  · have w2 : o 0 = 1 := w.trans (if_pos hc)
    refine e_lconst (K := lK X) (n := p + 25) d24 rfl ?_
    refine e_goto (K := lK X) (n := p + 29) d25 (by omega) ?_
    refine e_lcmp (K := lK X) (n := p + 30) d29 rfl ?_
    exact e_ifl_eq (K := lK X) (x := o 0) (y := 1) (t := p + 35) (n := p + 33) d30 (by omega) rfl (by omega) (by omega) (fun _ => kend) (fun q => absurd w2 q)
/-- the end of a step that compares doubles -/
theorem lTailD {A : List eE} {o : eE} {od : Nat → UInt64} {M : eFs} {e : Int} {v : UInt64} {p : Nat} {off : Int}
    (d0 : decode cL_law p = .ok (.aload_n 2, 1)) (d1 : decode cL_law (p + 1) = .ok (.invokevirtual 154, 3)) (d4 : decode cL_law (p + 4) = .ok (.iload 6, 2)) (d6 : decode cL_law (p + 6) = .ok (.if_icmp .eq 5, 3)) (d11 : decode cL_law (p + 11) = .ok (.iload 6, 2)) (d13 : decode cL_law (p + 13) = .ok (.ifCond .ne 35, 3))
    (d16 : decode cL_law (p + 16) = .ok (.aload 4, 2)) (d18 : decode cL_law (p + 18) = .ok (.iconst 0, 1)) (d19 : decode cL_law (p + 19) = .ok (.daload, 1)) (d20 : decode cL_law (p + 20) = .ok (.dload 7, 2)) (d22 : decode cL_law (p + 22) = .ok (.dcmp .l, 1)) (d23 : decode cL_law (p + 23) = .ok (.ifCond .eq 25, 3)) (d48 : decode cL_law (p + 48) = .ok (.goto off, 3)) (ho : ((p + 48 : Nat) : Int) + off = ((2629 : Nat) : Int))
    (hA : A.length = 131) (he : 0 ≤ e ∧ e ≤ 3) (hT : M.1 0 = e) (hv : e = 0 → od 0 = v ∧ Op.cmpValue (FP.dcmp v v) .l = 0)
    (kk : EV (lK X) a b (A ++ (wM (fun k => a (131 + k)) M ++ [o, eDd 1 od])) 2629 (lLs a bb i) []) :
    EV (lK X) a b (A ++ (wM (fun k => a (131 + k)) M ++ [o, eDd 1 od])) p [some (.ref bb), some (.ref (a 0)), some (.ref (a 131)), some (.ref (a 137)), some (.ref (a 138)), some (vi i), some (vi e), some (.double v), none] [] := by
  have kend : EV (lK X) a b (A ++ (wM (fun k => a (131 + k)) M ++ [o, eDd 1 od])) (p + 48) [some (.ref bb), some (.ref (a 0)), some (.ref (a 131)), some (.ref (a 137)), some (.ref (a 138)), some (vi i), some (vi e), some (.double v), none] [] := by
    refine e_goto (K := lK X) (n := 2629) d48 ho ?_
    refine EV.fgt 6 ?_
    refine EV.fgt 7 ?_
    exact kk
  refine lFst (t := p + 48) d0 d1 d4 d6 d11 d13 (by omega) hA he hT kend (fun e0 => ?_)
  have w := hv e0
  refine e_aload (K := lK X) (n := p + 18) d16 rfl rfl ?_
  refine e_iconst (K := lK X) (n := p + 19) d18 rfl ?_
  refine e_daload (K := lK X) (n := p + 20) (i := 138) (N := 1) (f := od) d19 rfl rfl (by rw [show (138 : Nat) = 131 + 7 from rfl, get_B hA]; rfl) (by decide) (by decide) ?_
  refine e_dload (K := lK X) (n := p + 22) d20 rfl rfl ?_
  refine e_dcmp (K := lK X) (n := p + 23) d22 rfl ?_
  refine EV.eq (st' := [vi 0]) (by show [Value.int (Op.cmpValue (FP.dcmp (od 0) v) .l)] = _; rw [w.1, w.2]; rfl) ?_
  exact e_if_eq (K := lK X) (t := p + 48) (n := p + 26) d23 (by omega) rfl (by decide) (fun _ => kend) (fun q => absurd rfl q)
/-- the end of a step that compares a float -/
theorem lTailF {A : List eE} {o : eE} {od : Nat → UInt64} {M : eFs} {e : Int} {v : UInt32} {p : Nat} {off : Int}
    (d0 : decode cL_law p = .ok (.aload_n 2, 1)) (d1 : decode cL_law (p + 1) = .ok (.invokevirtual 154, 3)) (d4 : decode cL_law (p + 4) = .ok (.iload 6, 2)) (d6 : decode cL_law (p + 6) = .ok (.if_icmp .eq 5, 3)) (d11 : decode cL_law (p + 11) = .ok (.iload 6, 2)) (d13 : decode cL_law (p + 13) = .ok (.ifCond .ne 36, 3))
    (d16 : decode cL_law (p + 16) = .ok (.aload 4, 2)) (d18 : decode cL_law (p + 18) = .ok (.iconst 0, 1)) (d19 : decode cL_law (p + 19) = .ok (.daload, 1)) (d20 : decode cL_law (p + 20) = .ok (.fload 7, 2)) (d22 : decode cL_law (p + 22) = .ok (.f2d, 1)) (d23 : decode cL_law (p + 23) = .ok (.dcmp .l, 1)) (d24 : decode cL_law (p + 24) = .ok (.ifCond .eq 25, 3)) (d49 : decode cL_law (p + 49) = .ok (.goto off, 3)) (ho : ((p + 49 : Nat) : Int) + off = ((2629 : Nat) : Int))
    (hA : A.length = 131) (he : 0 ≤ e ∧ e ≤ 3) (hT : M.1 0 = e) (hv : e = 0 → od 0 = FP.f2d v ∧ vf_n64 (FP.f2d v) ∧ Op.cmpValue (FP.dcmp (FP.f2d v) (FP.f2d v)) .l = 0)
    (kk : EV (lK X) a b (A ++ (wM (fun k => a (131 + k)) M ++ [o, eDd 1 od])) 2629 (lLs a bb i) []) :
    EV (lK X) a b (A ++ (wM (fun k => a (131 + k)) M ++ [o, eDd 1 od])) p [some (.ref bb), some (.ref (a 0)), some (.ref (a 131)), some (.ref (a 137)), some (.ref (a 138)), some (vi i), some (vi e), some (.float v), none] [] := by
  have kend : EV (lK X) a b (A ++ (wM (fun k => a (131 + k)) M ++ [o, eDd 1 od])) (p + 49) [some (.ref bb), some (.ref (a 0)), some (.ref (a 131)), some (.ref (a 137)), some (.ref (a 138)), some (vi i), some (vi e), some (.float v), none] [] := by
    refine e_goto (K := lK X) (n := 2629) d49 ho ?_
    refine EV.fgt 6 ?_
    refine EV.fgt 7 ?_
    exact kk
  refine lFst (t := p + 49) d0 d1 d4 d6 d11 d13 (by omega) hA he hT kend (fun e0 => ?_)
  have w := hv e0
  refine e_aload (K := lK X) (n := p + 18) d16 rfl rfl ?_
  refine e_iconst (K := lK X) (n := p + 19) d18 rfl ?_
  refine e_daload (K := lK X) (n := p + 20) (i := 138) (N := 1) (f := od) d19 rfl rfl (by rw [show (138 : Nat) = 131 + 7 from rfl, get_B hA]; rfl) (by decide) (by decide) ?_
  refine e_fload (K := lK X) (n := p + 22) d20 rfl rfl ?_
  refine e_f2d (K := lK X) (n := p + 23) d22 rfl w.2.1 ?_
  refine e_dcmp (K := lK X) (n := p + 24) d23 rfl ?_
  refine EV.eq (st' := [vi 0]) (by show [Value.int (Op.cmpValue (FP.dcmp (od 0) (FP.f2d v)) .l)] = _; rw [w.1, w.2.2]; rfl) ?_
  exact e_if_eq (K := lK X) (t := p + 49) (n := p + 27) d24 (by omega) rfl (by decide) (fun _ => kend) (fun q => absurd rfl q)
end LAW
def lowc (x : Int) : Int := (((Int32.ofInt x).toUInt32 % 65536).toInt32).toInt
theorem lowc_v {x : Int} : ((Int32.ofInt x).toUInt32 % 65536).toInt32 = Int32.ofInt (lowc x) := (oI_ofI _).symm
theorem lowc_in {x : Int} : 0 ≤ lowc x ∧ lowc x ≤ 65535 := by
  have h : ((Int32.ofInt x).toUInt32 % 65536).toNat < 65536 := by rw [UInt32.toNat_mod]; exact Nat.mod_lt _ (by decide)
  have e : lowc x = ((((Int32.ofInt x).toUInt32 % 65536).toNat : Nat) : Int) := BitVec.toInt_eq_toNat_of_lt (by show 2 * ((Int32.ofInt x).toUInt32 % 65536).toNat < 2 ^ 32; omega)
  omega
theorem wA_t1 {a : Nat → Nat} {z : Nat → Int} {ln : Int → Int} {F : eFs} {P : Int → Int} {D : eFs} {DQ : Int → Int} {S : eFs} {SP : Int → Int} {c n : Int} {h : eHs} {g rc : Int → Int} {T : eFs} {Mt : Int → Int → Int} {x : eE} : wA a z ln F P D DQ S SP c n h g rc T Mt [x] = wA a z ln F P D DQ S SP c n h g rc T Mt [] ++ [x] := wA_tl
theorem fp_mean {x n : Int} (hx : 0 ≤ x ∧ x ≤ 620) (hn : 1 ≤ n ∧ n ≤ 9) : Op.cmpValue (FP.dcmp (FP.ddiv (FP.i2d (Int32.ofInt x)) (FP.i2d (Int32.ofInt n))) (FP.ddiv (FP.i2d (Int32.ofInt x)) (FP.i2d (Int32.ofInt n)))) .l = 0 := by
  have h : ∀ i : Fin 621, ∀ j : Fin 10, 1 ≤ j.val → Op.cmpValue (FP.dcmp (FP.ddiv (FP.i2d (Int32.ofInt (i.val : Int))) (FP.i2d (Int32.ofInt (j.val : Int)))) (FP.ddiv (FP.i2d (Int32.ofInt (i.val : Int))) (FP.i2d (Int32.ofInt (j.val : Int))))) .l = 0 := by decide +kernel
  have := h ⟨x.toNat, by omega⟩ ⟨n.toNat, by omega⟩ (by show 1 ≤ n.toNat; omega)
  simpa [show ((x.toNat : Nat) : Int) = x by omega, show ((n.toNat : Nat) : Int) = n by omega] using this
theorem fp_share {x n : Int} (hx : 0 ≤ x ∧ x ≤ 100) (hn : 1 ≤ n ∧ n ≤ 100) : vf_n64 (FP.f2d (FP.fdiv (FP.i2f (Int32.ofInt x)) (FP.i2f (Int32.ofInt n)))) ∧ Op.cmpValue (FP.dcmp (FP.f2d (FP.fdiv (FP.i2f (Int32.ofInt x)) (FP.i2f (Int32.ofInt n)))) (FP.f2d (FP.fdiv (FP.i2f (Int32.ofInt x)) (FP.i2f (Int32.ofInt n))))) .l = 0 := by
  have h : ∀ i : Fin 101, ∀ j : Fin 101, 1 ≤ j.val → vf_n64 (FP.f2d (FP.fdiv (FP.i2f (Int32.ofInt (i.val : Int))) (FP.i2f (Int32.ofInt (j.val : Int))))) ∧ Op.cmpValue (FP.dcmp (FP.f2d (FP.fdiv (FP.i2f (Int32.ofInt (i.val : Int))) (FP.i2f (Int32.ofInt (j.val : Int))))) (FP.f2d (FP.fdiv (FP.i2f (Int32.ofInt (i.val : Int))) (FP.i2f (Int32.ofInt (j.val : Int)))))) .l = 0 := by
    unfold vf_n64
    decide +kernel
  have := h ⟨x.toNat, by omega⟩ ⟨n.toNat, by omega⟩ (by show 1 ≤ n.toNat; omega)
  simpa [show ((x.toNat : Nat) : Int) = x by omega, show ((n.toNat : Nat) : Int) = n by omega] using this
theorem hn64 (F : eFs) (hc : 0 ≤ F.1 0 ∧ F.1 0 ≤ 10) (e : 1 ≤ sPrs F) : vf_n64 (FP.f2d (FP.fdiv (FP.i2f (Int32.ofInt (sMix F))) (FP.i2f (Int32.ofInt (sPrs F))))) := by
  have up := sPrs_in hc
  have um := sMix_in hc
  exact (fp_share um (by omega)).1
theorem near_ex {f : Int → Int} {b : Int} : ∀ m : Nat, (∃ j : Int, 0 ≤ j ∧ j < (m : Int) ∧ ¬ j = b) → ∃ z : Int, 0 ≤ z ∧ z < (m : Int) ∧ ¬ z = b ∧ ∀ j, 0 ≤ j → j < (m : Int) → ¬ j = b → f z < f j ∨ (f z = f j ∧ z ≤ j) := by
  intro m
  induction m with
  | zero => intro ⟨j, h1, h2, _⟩; exact absurd h2 (by show ¬ j < ((0 : Nat) : Int); omega)
  | succ m ih =>
    intro ⟨j, h1, h2, h3⟩
    by_cases q : ∃ j : Int, 0 ≤ j ∧ j < (m : Int) ∧ ¬ j = b
    · obtain ⟨z, z1, z2, z3, z4⟩ := ih q
      by_cases e : (m : Int) = b
      · exact ⟨z, z1, by omega, z3, fun k k0 k1 k2 => z4 k k0 (by omega) k2⟩
      · by_cases l : f z ≤ f (m : Int)
        · refine ⟨z, z1, by omega, z3, fun k k0 k1 k2 => ?_⟩
          by_cases k3 : k < (m : Int)
          · exact z4 k k0 k3 k2
          · have k4 : k = (m : Int) := by omega
            rw [k4]
            omega
        · refine ⟨(m : Int), by omega, by omega, e, fun k k0 k1 k2 => ?_⟩
          by_cases k3 : k < (m : Int)
          · have := z4 k k0 k3 k2
            omega
          · have k4 : k = (m : Int) := by omega
            rw [k4]
            omega
    · have e : j = (m : Int) := by
        by_cases k3 : j < (m : Int)
        · exact absurd ⟨j, h1, k3, h3⟩ q
        · omega
      refine ⟨j, h1, h2, h3, fun k k0 k1 k2 => ?_⟩
      by_cases k3 : k < (m : Int)
      · exact absurd ⟨k, k0, k3, k2⟩ q
      · have k4 : k = j := by omega
        rw [k4]
        omega
theorem near_iff {N : Int} {F : eFs} {b : Int} (hF : okF N F) (hb : sHas F b) : ¬ sNear F b = -1 ↔ ¬ F.1 0 < 2 := by
  have hc := hF.1
  have hb' : 0 ≤ b ∧ b < F.1 0 := hb
  constructor
  · intro q w
    exact q (sNear_no (fun j j0 j1 => by omega))
  · intro q w
    obtain ⟨z, z1, z2, z3, z4⟩ := near_ex (f := fun j => sDD F b j) (b := b) (F.1 0).toNat (by
      by_cases e : b = 0
      · exact ⟨1, by omega, by omega, by omega⟩
      · exact ⟨0, by omega, by omega, by omega⟩)
    have := sNear_of z1 (by omega) z3 (fun j j0 j1 j2 => z4 j j0 (by omega) j2)
    omega
theorem W_addBasket {X : eXT} {a : Nat → Nat} {z : Nat → Int} {ln : Int → Int} {F : eFs} {P : Int → Int} {D : eFs} {DQ : Int → Int} {S : eFs} {SP : Int → Int} {c n : Int} {h : eHs} {g rc : Int → Int} {T : eFs} {Mt : Int → Int → Int} {o : Int → Int} {N : Int} (hF : okF N F) (hcc : 0 ≤ c ∧ c ≤ 8) (hnn : 0 ≤ n ∧ n ≤ 7) {x y w : Int} (gx : -2147483648 ≤ x ∧ x ≤ 2147483647) (gy : -2147483648 ≤ y ∧ y ≤ 2147483647) (gw : -2147483648 ≤ w ∧ w ≤ 2147483647) :
    EM X mL_addBasket (eRt 10 2) (fun k => a (eR rhoL k)) [.ref (a 0), vi x, vi y, vi w, .ref (a 137)] (wA a z ln F P D DQ S SP c n h g rc T Mt [] ++ [eJ 1 1 o]) (eRets (some (vi (exK (eEx (sHin F 0 x y w)) xAr xSt xUn))) (fun k => a (eR rhoL k)) (fun cs1 => (eEx (sHin F 0 x y w) = none → cs1 = wA a z ln (sDo F 0 x y w) P D DQ S SP (if 8 < c + 1 then 8 else c + 1) (if n + 1 < 8 then n + 1 else 0) (hU h n.toNat F) g rc T Mt [] ++ [eJ 1 1 (eU o 0 (w32 (sDoR F 0 x y w)))]) ∧ (¬ eEx (sHin F 0 x y w) = none → cs1 = wA a (zHi z F 0 x y w) ln F P D DQ S SP c n h g rc T Mt [] ++ [eJ 1 1 o]))) := by
  have q := C_L_addBasket (X := X) (a := fun k => a (eR rhoL k)) (z := z) (ln := ln) (F := F) (P := P) (D := D) (DQ := DQ) (S := S) (SP := SP) (c := c) (n := n) (h := h) (g := g) (rc := rc) (T := T) (Mt := Mt) (o := o) hF hcc hnn gx gy gw
  simp only [wA_rL (a := a), wA_t1] at q
  exact q
theorem W_jump {X : eXT} {a : Nat → Nat} {z : Nat → Int} {ln : Int → Int} {F : eFs} {P : Int → Int} {D : eFs} {DQ : Int → Int} {S : eFs} {SP : Int → Int} {c n : Int} {h : eHs} {g rc : Int → Int} {T : eFs} {Mt : Int → Int → Int} {o : Int → Int} {N : Int} (hF : okF N F) (hcc : 0 ≤ c ∧ c ≤ 8) (hnn : 0 ≤ n ∧ n ≤ 7) {b x y : Int} (gb : -2147483648 ≤ b ∧ b ≤ 2147483647) (gx : -2147483648 ≤ x ∧ x ≤ 2147483647) (gy : -2147483648 ≤ y ∧ y ≤ 2147483647) :
    EM X mL_jump (eRt 10 2) (fun k => a (eR rhoL k)) [.ref (a 0), vi b, vi x, vi y, .ref (a 137)] (wA a z ln F P D DQ S SP c n h g rc T Mt [] ++ [eJ 1 1 o]) (eRets (some (vi (exK (eEx (sHin F 1 b x y)) xIx xAr xUn))) (fun k => a (eR rhoL k)) (fun cs1 => (eEx (sHin F 1 b x y) = none → cs1 = wA a z ln (sDo F 1 b x y) P D DQ S SP (if 8 < c + 1 then 8 else c + 1) (if n + 1 < 8 then n + 1 else 0) (hU h n.toNat F) g rc T Mt [] ++ [eJ 1 1 (eU o 0 (w32 (sDoR F 1 b x y)))]) ∧ (¬ eEx (sHin F 1 b x y) = none → cs1 = wA a (zHi z F 1 b x y) ln F P D DQ S SP c n h g rc T Mt [] ++ [eJ 1 1 o]))) := by
  have q := C_L_jump (X := X) (a := fun k => a (eR rhoL k)) (z := z) (ln := ln) (F := F) (P := P) (D := D) (DQ := DQ) (S := S) (SP := SP) (c := c) (n := n) (h := h) (g := g) (rc := rc) (T := T) (Mt := Mt) (o := o) hF hcc hnn gb gx gy
  simp only [wA_rL (a := a), wA_t1] at q
  exact q
theorem W_setHandle {X : eXT} {a : Nat → Nat} {z : Nat → Int} {ln : Int → Int} {F : eFs} {P : Int → Int} {D : eFs} {DQ : Int → Int} {S : eFs} {SP : Int → Int} {c n : Int} {h : eHs} {g rc : Int → Int} {T : eFs} {Mt : Int → Int → Int} {o : Int → Int} {N : Int} (hF : okF N F) (hcc : 0 ≤ c ∧ c ≤ 8) (hnn : 0 ≤ n ∧ n ≤ 7) {b w : Int} (gb : -2147483648 ≤ b ∧ b ≤ 2147483647) (gw : -2147483648 ≤ w ∧ w ≤ 2147483647) :
    EM X mL_setHandle (eRt 10 2) (fun k => a (eR rhoL k)) [.ref (a 0), vi b, vi w, .ref (a 137)] (wA a z ln F P D DQ S SP c n h g rc T Mt [] ++ [eJ 1 1 o]) (eRets (some (vi (exK (eEx (sHin F 2 b w 0)) xIx xAr ""))) (fun k => a (eR rhoL k)) (fun cs1 => (eEx (sHin F 2 b w 0) = none → cs1 = wA a z ln (sDo F 2 b w 0) P D DQ S SP (if 8 < c + 1 then 8 else c + 1) (if n + 1 < 8 then n + 1 else 0) (hU h n.toNat F) g rc T Mt [] ++ [eJ 1 1 (eU o 0 (w32 (sDoR F 2 b w 0)))]) ∧ (¬ eEx (sHin F 2 b w 0) = none → cs1 = wA a (zHi z F 2 b w 0) ln F P D DQ S SP c n h g rc T Mt [] ++ [eJ 1 1 o]))) := by
  have q := C_L_setHandle (X := X) (a := fun k => a (eR rhoL k)) (z := z) (ln := ln) (F := F) (P := P) (D := D) (DQ := DQ) (S := S) (SP := SP) (c := c) (n := n) (h := h) (g := g) (rc := rc) (T := T) (Mt := Mt) (o := o) hF hcc hnn gb gw
  simp only [wA_rL (a := a), wA_t1] at q
  exact q
theorem W_addCloud {X : eXT} {a : Nat → Nat} {z : Nat → Int} {ln : Int → Int} {F : eFs} {P : Int → Int} {D : eFs} {DQ : Int → Int} {S : eFs} {SP : Int → Int} {c n : Int} {h : eHs} {g rc : Int → Int} {T : eFs} {Mt : Int → Int → Int} {o : Int → Int} {N : Int} (hF : okF N F) (hcc : 0 ≤ c ∧ c ≤ 8) (hnn : 0 ≤ n ∧ n ≤ 7) {x y : Int} (gx : -2147483648 ≤ x ∧ x ≤ 2147483647) (gy : -2147483648 ≤ y ∧ y ≤ 2147483647) :
    EM X mL_addCloud (eRt 10 2) (fun k => a (eR rhoL k)) [.ref (a 0), vi x, vi y, .ref (a 137)] (wA a z ln F P D DQ S SP c n h g rc T Mt [] ++ [eJ 1 1 o]) (eRets (some (vi (exK (eEx (sHin F 3 x y 0)) xAr xSt xUn))) (fun k => a (eR rhoL k)) (fun cs1 => (eEx (sHin F 3 x y 0) = none → cs1 = wA a z ln (sDo F 3 x y 0) P D DQ S SP (if 8 < c + 1 then 8 else c + 1) (if n + 1 < 8 then n + 1 else 0) (hU h n.toNat F) g rc T Mt [] ++ [eJ 1 1 (eU o 0 (w32 (sDoR F 3 x y 0)))]) ∧ (¬ eEx (sHin F 3 x y 0) = none → cs1 = wA a (zHi z F 3 x y 0) ln F P D DQ S SP c n h g rc T Mt [] ++ [eJ 1 1 o]))) := by
  have q := C_L_addCloud (X := X) (a := fun k => a (eR rhoL k)) (z := z) (ln := ln) (F := F) (P := P) (D := D) (DQ := DQ) (S := S) (SP := SP) (c := c) (n := n) (h := h) (g := g) (rc := rc) (T := T) (Mt := Mt) (o := o) hF hcc hnn gx gy
  simp only [wA_rL (a := a), wA_t1] at q
  exact q
theorem W_removeCloud {X : eXT} {a : Nat → Nat} {z : Nat → Int} {ln : Int → Int} {F : eFs} {P : Int → Int} {D : eFs} {DQ : Int → Int} {S : eFs} {SP : Int → Int} {c n : Int} {h : eHs} {g rc : Int → Int} {T : eFs} {Mt : Int → Int → Int} {o : Int → Int} {N : Int} (hF : okF N F) (hcc : 0 ≤ c ∧ c ≤ 8) (hnn : 0 ≤ n ∧ n ≤ 7) {x y : Int} (gx : -2147483648 ≤ x ∧ x ≤ 2147483647) (gy : -2147483648 ≤ y ∧ y ≤ 2147483647) :
    EM X mL_removeCloud (eRt 10 2) (fun k => a (eR rhoL k)) [.ref (a 0), vi x, vi y, .ref (a 137)] (wA a z ln F P D DQ S SP c n h g rc T Mt [] ++ [eJ 1 1 o]) (eRets (some (vi (exK (eEx (sHin F 4 x y 0)) xAr xNo ""))) (fun k => a (eR rhoL k)) (fun cs1 => (eEx (sHin F 4 x y 0) = none → cs1 = wA a z ln (sDo F 4 x y 0) P D DQ S SP (if 8 < c + 1 then 8 else c + 1) (if n + 1 < 8 then n + 1 else 0) (hU h n.toNat F) g rc T Mt [] ++ [eJ 1 1 (eU o 0 (w32 (sDoR F 4 x y 0)))]) ∧ (¬ eEx (sHin F 4 x y 0) = none → cs1 = wA a (zHi z F 4 x y 0) ln F P D DQ S SP c n h g rc T Mt [] ++ [eJ 1 1 o]))) := by
  have q := C_L_removeCloud (X := X) (a := fun k => a (eR rhoL k)) (z := z) (ln := ln) (F := F) (P := P) (D := D) (DQ := DQ) (S := S) (SP := SP) (c := c) (n := n) (h := h) (g := g) (rc := rc) (T := T) (Mt := Mt) (o := o) hF hcc hnn gx gy
  simp only [wA_rL (a := a), wA_t1] at q
  exact q
theorem W_setTurnLength {X : eXT} {a : Nat → Nat} {z : Nat → Int} {ln : Int → Int} {F : eFs} {P : Int → Int} {D : eFs} {DQ : Int → Int} {S : eFs} {SP : Int → Int} {c n : Int} {h : eHs} {g rc : Int → Int} {T : eFs} {Mt : Int → Int → Int} {o : Int → Int} {N : Int} (hF : okF N F) (hcc : 0 ≤ c ∧ c ≤ 8) (hnn : 0 ≤ n ∧ n ≤ 7) {s : Int} (gs : -2147483648 ≤ s ∧ s ≤ 2147483647) :
    EM X mL_setTurnLength (eRt 10 2) (fun k => a (eR rhoL k)) [.ref (a 0), vi s, .ref (a 137)] (wA a z ln F P D DQ S SP c n h g rc T Mt [] ++ [eJ 1 1 o]) (eRets (some (vi (exK (eEx (sHin F 5 s 0 0)) xAr "" ""))) (fun k => a (eR rhoL k)) (fun cs1 => (eEx (sHin F 5 s 0 0) = none → cs1 = wA a z ln (sDo F 5 s 0 0) P D DQ S SP (if 8 < c + 1 then 8 else c + 1) (if n + 1 < 8 then n + 1 else 0) (hU h n.toNat F) g rc T Mt [] ++ [eJ 1 1 (eU o 0 (w32 (sDoR F 5 s 0 0)))]) ∧ (¬ eEx (sHin F 5 s 0 0) = none → cs1 = wA a (zHi z F 5 s 0 0) ln F P D DQ S SP c n h g rc T Mt [] ++ [eJ 1 1 o]))) := by
  have q := C_L_setTurnLength (X := X) (a := fun k => a (eR rhoL k)) (z := z) (ln := ln) (F := F) (P := P) (D := D) (DQ := DQ) (S := S) (SP := SP) (c := c) (n := n) (h := h) (g := g) (rc := rc) (T := T) (Mt := Mt) (o := o) hF hcc hnn gs
  simp only [wA_rL (a := a), wA_t1] at q
  exact q
theorem W_setTarget {X : eXT} {a : Nat → Nat} {z : Nat → Int} {ln : Int → Int} {F : eFs} {P : Int → Int} {D : eFs} {DQ : Int → Int} {S : eFs} {SP : Int → Int} {c n : Int} {h : eHs} {g rc : Int → Int} {T : eFs} {Mt : Int → Int → Int} {o : Int → Int} {N : Int} (hF : okF N F) (hcc : 0 ≤ c ∧ c ≤ 8) (hnn : 0 ≤ n ∧ n ≤ 7) {x y : Int} (gx : -2147483648 ≤ x ∧ x ≤ 2147483647) (gy : -2147483648 ≤ y ∧ y ≤ 2147483647) :
    EM X mL_setTarget (eRt 10 2) (fun k => a (eR rhoL k)) [.ref (a 0), vi x, vi y, .ref (a 137)] (wA a z ln F P D DQ S SP c n h g rc T Mt [] ++ [eJ 1 1 o]) (eRets (some (vi (exK (eEx (sHin F 6 x y 0)) xAr xNo ""))) (fun k => a (eR rhoL k)) (fun cs1 => (eEx (sHin F 6 x y 0) = none → cs1 = wA a z ln (sDo F 6 x y 0) P D DQ S SP (if 8 < c + 1 then 8 else c + 1) (if n + 1 < 8 then n + 1 else 0) (hU h n.toNat F) g rc T Mt [] ++ [eJ 1 1 (eU o 0 (w32 (sDoR F 6 x y 0)))]) ∧ (¬ eEx (sHin F 6 x y 0) = none → cs1 = wA a (zHi z F 6 x y 0) ln F P D DQ S SP c n h g rc T Mt [] ++ [eJ 1 1 o]))) := by
  have q := C_L_setTarget (X := X) (a := fun k => a (eR rhoL k)) (z := z) (ln := ln) (F := F) (P := P) (D := D) (DQ := DQ) (S := S) (SP := SP) (c := c) (n := n) (h := h) (g := g) (rc := rc) (T := T) (Mt := Mt) (o := o) hF hcc hnn gx gy
  simp only [wA_rL (a := a), wA_t1] at q
  exact q
theorem W_setKeep {X : eXT} {a : Nat → Nat} {z : Nat → Int} {ln : Int → Int} {F : eFs} {P : Int → Int} {D : eFs} {DQ : Int → Int} {S : eFs} {SP : Int → Int} {c n : Int} {h : eHs} {g rc : Int → Int} {T : eFs} {Mt : Int → Int → Int} {o : Int → Int} {N : Int} (hF : okF N F) (hcc : 0 ≤ c ∧ c ≤ 8) (hnn : 0 ≤ n ∧ n ≤ 7) {s : Int} (gs : -2147483648 ≤ s ∧ s ≤ 2147483647) :
    EM X mL_setKeep (eRt 10 2) (fun k => a (eR rhoL k)) [.ref (a 0), vi s, .ref (a 137)] (wA a z ln F P D DQ S SP c n h g rc T Mt [] ++ [eJ 1 1 o]) (eRets (some (vi (exK (eEx (sHin F 7 s 0 0)) xAr "" ""))) (fun k => a (eR rhoL k)) (fun cs1 => (eEx (sHin F 7 s 0 0) = none → cs1 = wA a z ln (sDo F 7 s 0 0) P D DQ S SP (if 8 < c + 1 then 8 else c + 1) (if n + 1 < 8 then n + 1 else 0) (hU h n.toNat F) g rc T Mt [] ++ [eJ 1 1 (eU o 0 (w32 (sDoR F 7 s 0 0)))]) ∧ (¬ eEx (sHin F 7 s 0 0) = none → cs1 = wA a (zHi z F 7 s 0 0) ln F P D DQ S SP c n h g rc T Mt [] ++ [eJ 1 1 o]))) := by
  have q := C_L_setKeep (X := X) (a := fun k => a (eR rhoL k)) (z := z) (ln := ln) (F := F) (P := P) (D := D) (DQ := DQ) (S := S) (SP := SP) (c := c) (n := n) (h := h) (g := g) (rc := rc) (T := T) (Mt := Mt) (o := o) hF hcc hnn gs
  simp only [wA_rL (a := a), wA_t1] at q
  exact q
theorem W_advance {X : eXT} {a : Nat → Nat} {z : Nat → Int} {ln : Int → Int} {F : eFs} {P : Int → Int} {D : eFs} {DQ : Int → Int} {S : eFs} {SP : Int → Int} {c n : Int} {h : eHs} {g rc : Int → Int} {T : eFs} {Mt : Int → Int → Int} {o : Int → Int} {N : Int} (hF : okF N F) (hcc : 0 ≤ c ∧ c ≤ 8) (hnn : 0 ≤ n ∧ n ≤ 7) (hNs : N + 20000 ≤ 100000000) {s : Int} (gs : -2147483648 ≤ s ∧ s ≤ 2147483647) :
    EM X mL_advance (eRt 10 2) (fun k => a (eR rhoL k)) [.ref (a 0), vi s, .ref (a 137)] (wA a z ln F P D DQ S SP c n h g rc T Mt [] ++ [eJ 1 1 o]) (eRets (some (vi (exK (eEx (sHin F 8 s 0 0)) xAr "" ""))) (fun k => a (eR rhoL k)) (fun cs1 => (eEx (sHin F 8 s 0 0) = none → cs1 = wA a z ln (sDo F 8 s 0 0) (sStsP (s - 0).toNat F P) D DQ S SP (if 8 < c + 1 then 8 else c + 1) (if n + 1 < 8 then n + 1 else 0) (hU h n.toNat F) g rc T Mt [] ++ [eJ 1 1 (eU o 0 (w32 (sDoR F 8 s 0 0)))]) ∧ (¬ eEx (sHin F 8 s 0 0) = none → cs1 = wA a (zHi z F 8 s 0 0) ln F P D DQ S SP c n h g rc T Mt [] ++ [eJ 1 1 o]))) := by
  have q := C_L_advance (X := X) (a := fun k => a (eR rhoL k)) (z := z) (ln := ln) (F := F) (P := P) (D := D) (DQ := DQ) (S := S) (SP := SP) (c := c) (n := n) (h := h) (g := g) (rc := rc) (T := T) (Mt := Mt) (o := o) hF hcc hnn hNs gs
  simp only [wA_rL (a := a), wA_t1] at q
  exact q
theorem W_xOf {X : eXT} {a : Nat → Nat} {z : Nat → Int} {ln : Int → Int} {F : eFs} {P : Int → Int} {D : eFs} {DQ : Int → Int} {S : eFs} {SP : Int → Int} {c n : Int} {h : eHs} {g rc : Int → Int} {T : eFs} {Mt : Int → Int → Int} {o : Int → Int} {N : Int} (hF : okF N F) {b : Int} (gb : -2147483648 ≤ b ∧ b ≤ 2147483647) :
    EM X mL_xOf (eRt 10 2) (fun k => a (eR rhoL k)) [.ref (a 0), vi b, .ref (a 137)] (wA a z ln F P D DQ S SP c n h g rc T Mt [] ++ [eJ 1 1 o]) (eRets (some (vi (exK ((if sHas F b then none else some xIx)) xIx "" ""))) (fun k => a (eR rhoL k)) (fun cs1 => ((if sHas F b then none else some xIx) = none → cs1 = wA a z ln F P D DQ S SP c n h g rc T Mt [] ++ [eJ 1 1 (eU o 0 (w32 (F.2 0 b)))]) ∧ (¬ (if sHas F b then none else some xIx) = none → cs1 = wA a z ln F P D DQ S SP c n h g rc T Mt [] ++ [eJ 1 1 o]))) := by
  have q := C_L_xOf (X := X) (a := fun k => a (eR rhoL k)) (z := z) (ln := ln) (F := F) (P := P) (D := D) (DQ := DQ) (S := S) (SP := SP) (c := c) (n := n) (h := h) (g := g) (rc := rc) (T := T) (Mt := Mt) (o := o) hF gb
  simp only [wA_rL (a := a), wA_t1] at q
  exact q
theorem W_yOf {X : eXT} {a : Nat → Nat} {z : Nat → Int} {ln : Int → Int} {F : eFs} {P : Int → Int} {D : eFs} {DQ : Int → Int} {S : eFs} {SP : Int → Int} {c n : Int} {h : eHs} {g rc : Int → Int} {T : eFs} {Mt : Int → Int → Int} {o : Int → Int} {N : Int} (hF : okF N F) {b : Int} (gb : -2147483648 ≤ b ∧ b ≤ 2147483647) :
    EM X mL_yOf (eRt 10 2) (fun k => a (eR rhoL k)) [.ref (a 0), vi b, .ref (a 137)] (wA a z ln F P D DQ S SP c n h g rc T Mt [] ++ [eJ 1 1 o]) (eRets (some (vi (exK ((if sHas F b then none else some xIx)) xIx "" ""))) (fun k => a (eR rhoL k)) (fun cs1 => ((if sHas F b then none else some xIx) = none → cs1 = wA a z ln F P D DQ S SP c n h g rc T Mt [] ++ [eJ 1 1 (eU o 0 (w32 (F.2 1 b)))]) ∧ (¬ (if sHas F b then none else some xIx) = none → cs1 = wA a z ln F P D DQ S SP c n h g rc T Mt [] ++ [eJ 1 1 o]))) := by
  have q := C_L_yOf (X := X) (a := fun k => a (eR rhoL k)) (z := z) (ln := ln) (F := F) (P := P) (D := D) (DQ := DQ) (S := S) (SP := SP) (c := c) (n := n) (h := h) (g := g) (rc := rc) (T := T) (Mt := Mt) (o := o) hF gb
  simp only [wA_rL (a := a), wA_t1] at q
  exact q
theorem W_handleOf {X : eXT} {a : Nat → Nat} {z : Nat → Int} {ln : Int → Int} {F : eFs} {P : Int → Int} {D : eFs} {DQ : Int → Int} {S : eFs} {SP : Int → Int} {c n : Int} {h : eHs} {g rc : Int → Int} {T : eFs} {Mt : Int → Int → Int} {o : Int → Int} {N : Int} (hF : okF N F) {b : Int} (gb : -2147483648 ≤ b ∧ b ≤ 2147483647) :
    EM X mL_handleOf (eRt 10 2) (fun k => a (eR rhoL k)) [.ref (a 0), vi b, .ref (a 137)] (wA a z ln F P D DQ S SP c n h g rc T Mt [] ++ [eJ 1 1 o]) (eRets (some (vi (exK ((if sHas F b then none else some xIx)) xIx "" ""))) (fun k => a (eR rhoL k)) (fun cs1 => ((if sHas F b then none else some xIx) = none → cs1 = wA a z ln F P D DQ S SP c n h g rc T Mt [] ++ [eJ 1 1 (eU o 0 (w32 (F.2 2 b)))]) ∧ (¬ (if sHas F b then none else some xIx) = none → cs1 = wA a z ln F P D DQ S SP c n h g rc T Mt [] ++ [eJ 1 1 o]))) := by
  have q := C_L_handleOf (X := X) (a := fun k => a (eR rhoL k)) (z := z) (ln := ln) (F := F) (P := P) (D := D) (DQ := DQ) (S := S) (SP := SP) (c := c) (n := n) (h := h) (g := g) (rc := rc) (T := T) (Mt := Mt) (o := o) hF gb
  simp only [wA_rL (a := a), wA_t1] at q
  exact q
theorem W_movesOf {X : eXT} {a : Nat → Nat} {z : Nat → Int} {ln : Int → Int} {F : eFs} {P : Int → Int} {D : eFs} {DQ : Int → Int} {S : eFs} {SP : Int → Int} {c n : Int} {h : eHs} {g rc : Int → Int} {T : eFs} {Mt : Int → Int → Int} {o : Int → Int} {N : Int} (hF : okF N F) {b : Int} (gb : -2147483648 ≤ b ∧ b ≤ 2147483647) :
    EM X mL_movesOf (eRt 10 2) (fun k => a (eR rhoL k)) [.ref (a 0), vi b, .ref (a 137)] (wA a z ln F P D DQ S SP c n h g rc T Mt [] ++ [eJ 1 1 o]) (eRets (some (vi (exK ((if sHas F b then none else some xIx)) xIx "" ""))) (fun k => a (eR rhoL k)) (fun cs1 => ((if sHas F b then none else some xIx) = none → cs1 = wA a z ln F P D DQ S SP c n h g rc T Mt [] ++ [eJ 1 1 (eU o 0 (w32 (F.2 3 b)))]) ∧ (¬ (if sHas F b then none else some xIx) = none → cs1 = wA a z ln F P D DQ S SP c n h g rc T Mt [] ++ [eJ 1 1 o]))) := by
  have q := C_L_movesOf (X := X) (a := fun k => a (eR rhoL k)) (z := z) (ln := ln) (F := F) (P := P) (D := D) (DQ := DQ) (S := S) (SP := SP) (c := c) (n := n) (h := h) (g := g) (rc := rc) (T := T) (Mt := Mt) (o := o) hF gb
  simp only [wA_rL (a := a), wA_t1] at q
  exact q
theorem W_distance {X : eXT} {a : Nat → Nat} {z : Nat → Int} {ln : Int → Int} {F : eFs} {P : Int → Int} {D : eFs} {DQ : Int → Int} {S : eFs} {SP : Int → Int} {c n : Int} {h : eHs} {g rc : Int → Int} {T : eFs} {Mt : Int → Int → Int} {o : Int → Int} {N : Int} (hF : okF N F) {b w : Int} (gb : -2147483648 ≤ b ∧ b ≤ 2147483647) (gw : -2147483648 ≤ w ∧ w ≤ 2147483647) :
    EM X mL_distance (eRt 10 2) (fun k => a (eR rhoL k)) [.ref (a 0), vi b, vi w, .ref (a 137)] (wA a z ln F P D DQ S SP c n h g rc T Mt [] ++ [eJ 1 1 o]) (eRets (some (vi (exK ((if sHas F b then (if sHas F w then none else some xIx) else some xIx)) xIx "" ""))) (fun k => a (eR rhoL k)) (fun cs1 => ((if sHas F b then (if sHas F w then none else some xIx) else some xIx) = none → cs1 = wA a z ln F P D DQ S SP c n h g rc T Mt [] ++ [eJ 1 1 (eU o 0 (w32 (sDD F b w)))]) ∧ (¬ (if sHas F b then (if sHas F w then none else some xIx) else some xIx) = none → cs1 = wA a z ln F P D DQ S SP c n h g rc T Mt [] ++ [eJ 1 1 o]))) := by
  have q := C_L_distance (X := X) (a := fun k => a (eR rhoL k)) (z := z) (ln := ln) (F := F) (P := P) (D := D) (DQ := DQ) (S := S) (SP := SP) (c := c) (n := n) (h := h) (g := g) (rc := rc) (T := T) (Mt := Mt) (o := o) hF gb gw
  simp only [wA_rL (a := a), wA_t1] at q
  exact q
theorem W_nearestTo {X : eXT} {a : Nat → Nat} {z : Nat → Int} {ln : Int → Int} {F : eFs} {P : Int → Int} {D : eFs} {DQ : Int → Int} {S : eFs} {SP : Int → Int} {c n : Int} {h : eHs} {g rc : Int → Int} {T : eFs} {Mt : Int → Int → Int} {o : Int → Int} {N : Int} (hF : okF N F) {b : Int} (gb : -2147483648 ≤ b ∧ b ≤ 2147483647) :
    EM X mL_nearestTo (eRt 10 2) (fun k => a (eR rhoL k)) [.ref (a 0), vi b, .ref (a 137)] (wA a z ln F P D DQ S SP c n h g rc T Mt [] ++ [eJ 1 1 o]) (eRets (some (vi (exK ((if sHas F b then (if ¬ sNear F b = -1 then none else some xNo) else some xIx)) xIx xNo ""))) (fun k => a (eR rhoL k)) (fun cs1 => ((if sHas F b then (if ¬ sNear F b = -1 then none else some xNo) else some xIx) = none → cs1 = wA a z ln F P D DQ S SP c n h g rc T Mt [] ++ [eJ 1 1 (eU o 0 (w32 (sNear F b)))]) ∧ (¬ (if sHas F b then (if ¬ sNear F b = -1 then none else some xNo) else some xIx) = none → cs1 = wA a z ln F P D DQ S SP c n h g rc T Mt [] ++ [eJ 1 1 o]))) := by
  have q := C_L_nearestTo (X := X) (a := fun k => a (eR rhoL k)) (z := z) (ln := ln) (F := F) (P := P) (D := D) (DQ := DQ) (S := S) (SP := SP) (c := c) (n := n) (h := h) (g := g) (rc := rc) (T := T) (Mt := Mt) (o := o) hF gb
  simp only [wA_rL (a := a), wA_t1] at q
  exact q
theorem W_basketAt {X : eXT} {a : Nat → Nat} {z : Nat → Int} {ln : Int → Int} {F : eFs} {P : Int → Int} {D : eFs} {DQ : Int → Int} {S : eFs} {SP : Int → Int} {c n : Int} {h : eHs} {g rc : Int → Int} {T : eFs} {Mt : Int → Int → Int} {o : Int → Int} {N : Int} (hF : okF N F) {x y : Int} (gx : -2147483648 ≤ x ∧ x ≤ 2147483647) (gy : -2147483648 ≤ y ∧ y ≤ 2147483647) :
    EM X mL_basketAt (eRt 10 2) (fun k => a (eR rhoL k)) [.ref (a 0), vi x, vi y, .ref (a 137)] (wA a z ln F P D DQ S SP c n h g rc T Mt [] ++ [eJ 1 1 o]) (eRets (some (vi (exK ((if sIn x y then (if ¬ sAt F x y = -1 then none else some xNo) else some xAr)) xAr xNo ""))) (fun k => a (eR rhoL k)) (fun cs1 => ((if sIn x y then (if ¬ sAt F x y = -1 then none else some xNo) else some xAr) = none → cs1 = wA a z ln F P D DQ S SP c n h g rc T Mt [] ++ [eJ 1 1 (eU o 0 (w32 (sAt F x y)))]) ∧ (¬ (if sIn x y then (if ¬ sAt F x y = -1 then none else some xNo) else some xAr) = none → cs1 = wA a z ln F P D DQ S SP c n h g rc T Mt [] ++ [eJ 1 1 o]))) := by
  have q := C_L_basketAt (X := X) (a := fun k => a (eR rhoL k)) (z := z) (ln := ln) (F := F) (P := P) (D := D) (DQ := DQ) (S := S) (SP := SP) (c := c) (n := n) (h := h) (g := g) (rc := rc) (T := T) (Mt := Mt) (o := o) hF gx gy
  simp only [wA_rL (a := a), wA_t1] at q
  exact q
theorem W_refusalReason {X : eXT} {a : Nat → Nat} {z : Nat → Int} {ln : Int → Int} {F : eFs} {P : Int → Int} {D : eFs} {DQ : Int → Int} {S : eFs} {SP : Int → Int} {c n : Int} {h : eHs} {g rc : Int → Int} {T : eFs} {Mt : Int → Int → Int} {o : Int → Int} {N : Int} (hF : okF N F) (hz : okZ z) :
    EM X mL_refusalReason (eRt 10 2) (fun k => a (eR rhoL k)) [.ref (a 0), .ref (a 137)] (wA a z ln F P D DQ S SP c n h g rc T Mt [] ++ [eJ 1 1 o]) (eRets (some (vi (exK ((if ¬ z 2 = -1 then none else some xNo)) xNo "" ""))) (fun k => a (eR rhoL k)) (fun cs1 => ((if ¬ z 2 = -1 then none else some xNo) = none → cs1 = wA a z ln F P D DQ S SP c n h g rc T Mt [] ++ [eJ 1 1 (eU o 0 (w32 (z 2)))]) ∧ (¬ (if ¬ z 2 = -1 then none else some xNo) = none → cs1 = wA a z ln F P D DQ S SP c n h g rc T Mt [] ++ [eJ 1 1 o]))) := by
  have q := C_L_refusalReason (X := X) (a := fun k => a (eR rhoL k)) (z := z) (ln := ln) (F := F) (P := P) (D := D) (DQ := DQ) (S := S) (SP := SP) (c := c) (n := n) (h := h) (g := g) (rc := rc) (T := T) (Mt := Mt) (o := o) hF hz
  simp only [wA_rL (a := a), wA_t1] at q
  exact q
theorem W_refusalDetail {X : eXT} {a : Nat → Nat} {z : Nat → Int} {ln : Int → Int} {F : eFs} {P : Int → Int} {D : eFs} {DQ : Int → Int} {S : eFs} {SP : Int → Int} {c n : Int} {h : eHs} {g rc : Int → Int} {T : eFs} {Mt : Int → Int → Int} {o : Int → Int} {N : Int} (hF : okF N F) (hz : okZ z) :
    EM X mL_refusalDetail (eRt 10 2) (fun k => a (eR rhoL k)) [.ref (a 0), .ref (a 137)] (wA a z ln F P D DQ S SP c n h g rc T Mt [] ++ [eJ 1 1 o]) (eRets (some (vi (exK ((if ¬ z 2 = -1 then none else some xNo)) xNo "" ""))) (fun k => a (eR rhoL k)) (fun cs1 => ((if ¬ z 2 = -1 then none else some xNo) = none → cs1 = wA a z ln F P D DQ S SP c n h g rc T Mt [] ++ [eJ 1 1 (eU o 0 (w32 (z 3)))]) ∧ (¬ (if ¬ z 2 = -1 then none else some xNo) = none → cs1 = wA a z ln F P D DQ S SP c n h g rc T Mt [] ++ [eJ 1 1 o]))) := by
  have q := C_L_refusalDetail (X := X) (a := fun k => a (eR rhoL k)) (z := z) (ln := ln) (F := F) (P := P) (D := D) (DQ := DQ) (S := S) (SP := SP) (c := c) (n := n) (h := h) (g := g) (rc := rc) (T := T) (Mt := Mt) (o := o) hF hz
  simp only [wA_rL (a := a), wA_t1] at q
  exact q
theorem W_isCloud {X : eXT} {a : Nat → Nat} {z : Nat → Int} {ln : Int → Int} {F : eFs} {P : Int → Int} {D : eFs} {DQ : Int → Int} {S : eFs} {SP : Int → Int} {c n : Int} {h : eHs} {g rc : Int → Int} {T : eFs} {Mt : Int → Int → Int} {o : Int → Int} {N : Int} (hF : okF N F) {x y : Int} (gx : -2147483648 ≤ x ∧ x ≤ 2147483647) (gy : -2147483648 ≤ y ∧ y ≤ 2147483647) :
    EM X mL_isCloud (eRt 10 2) (fun k => a (eR rhoL k)) [.ref (a 0), vi x, vi y, .ref (a 137)] (wA a z ln F P D DQ S SP c n h g rc T Mt [] ++ [eJ 1 1 o]) (eRets (some (vi (exK ((if sIn x y then none else some xAr)) xAr "" ""))) (fun k => a (eR rhoL k)) (fun cs1 => ((if sIn x y then none else some xAr) = none → cs1 = wA a z ln F P D DQ S SP c n h g rc T Mt [] ++ [eJ 1 1 (eU o 0 (if sCov (F.2 4) x y then 1 else 0))]) ∧ (¬ (if sIn x y then none else some xAr) = none → cs1 = wA a z ln F P D DQ S SP c n h g rc T Mt [] ++ [eJ 1 1 o]))) := by
  have q := C_L_isCloud (X := X) (a := fun k => a (eR rhoL k)) (z := z) (ln := ln) (F := F) (P := P) (D := D) (DQ := DQ) (S := S) (SP := SP) (c := c) (n := n) (h := h) (g := g) (rc := rc) (T := T) (Mt := Mt) (o := o) hF gx gy
  simp only [wA_rL (a := a), wA_t1] at q
  exact q
theorem W_leader {X : eXT} {a : Nat → Nat} {z : Nat → Int} {ln : Int → Int} {F : eFs} {P : Int → Int} {D : eFs} {DQ : Int → Int} {S : eFs} {SP : Int → Int} {c n : Int} {h : eHs} {g rc : Int → Int} {T : eFs} {Mt : Int → Int → Int} {o : Int → Int} {N : Int} (hF : okF N F) :
    EM X mL_leader (eRt 10 2) (fun k => a (eR rhoL k)) [.ref (a 0), .ref (a 137)] (wA a z ln F P D DQ S SP c n h g rc T Mt [] ++ [eJ 1 1 o]) (eRets (some (vi (exK ((if 1 ≤ F.1 0 then none else some xNo)) xNo "" ""))) (fun k => a (eR rhoL k)) (fun cs1 => ((if 1 ≤ F.1 0 then none else some xNo) = none → cs1 = wA a z ln F P D DQ S SP c n h g rc T Mt [] ++ [eJ 1 1 (eU o 0 (w32 (F.1 1)))]) ∧ (¬ (if 1 ≤ F.1 0 then none else some xNo) = none → cs1 = wA a z ln F P D DQ S SP c n h g rc T Mt [] ++ [eJ 1 1 o]))) := by
  have q := C_L_leader (X := X) (a := fun k => a (eR rhoL k)) (z := z) (ln := ln) (F := F) (P := P) (D := D) (DQ := DQ) (S := S) (SP := SP) (c := c) (n := n) (h := h) (g := g) (rc := rc) (T := T) (Mt := Mt) (o := o) hF
  simp only [wA_rL (a := a), wA_t1] at q
  exact q
theorem W_leaderAfter {X : eXT} {a : Nat → Nat} {z : Nat → Int} {ln : Int → Int} {F : eFs} {P : Int → Int} {D : eFs} {DQ : Int → Int} {S : eFs} {SP : Int → Int} {c n : Int} {h : eHs} {g rc : Int → Int} {T : eFs} {Mt : Int → Int → Int} {o : Int → Int} {N : Int} (hF : okF N F) {s : Int} (gs : -2147483648 ≤ s ∧ s ≤ 2147483647) :
    EM X mL_leaderAfter (eRt 10 2) (fun k => a (eR rhoL k)) [.ref (a 0), vi s, .ref (a 137)] (wA a z ln F P D DQ S SP c n h g rc T Mt [] ++ [eJ 1 1 o]) (eRets (some (vi (exK ((if 0 ≤ s ∧ s ≤ 99 then (if 1 ≤ F.1 0 then none else some xNo) else some xAr)) xAr xNo ""))) (fun k => a (eR rhoL k)) (fun cs1 => ((if 0 ≤ s ∧ s ≤ 99 then (if 1 ≤ F.1 0 then none else some xNo) else some xAr) = none → cs1 = wA a z ln F P D DQ S SP c n h g rc T Mt [] ++ [eJ 1 1 (eU o 0 (w32 (sLead F s)))]) ∧ (¬ (if 0 ≤ s ∧ s ≤ 99 then (if 1 ≤ F.1 0 then none else some xNo) else some xAr) = none → cs1 = wA a z ln F P D DQ S SP c n h g rc T Mt [] ++ [eJ 1 1 o]))) := by
  have q := C_L_leaderAfter (X := X) (a := fun k => a (eR rhoL k)) (z := z) (ln := ln) (F := F) (P := P) (D := D) (DQ := DQ) (S := S) (SP := SP) (c := c) (n := n) (h := h) (g := g) (rc := rc) (T := T) (Mt := Mt) (o := o) hF gs
  simp only [wA_rL (a := a), wA_t1] at q
  exact q
theorem W_leaderAfterByCounting {X : eXT} {a : Nat → Nat} {z : Nat → Int} {ln : Int → Int} {F : eFs} {P : Int → Int} {D : eFs} {DQ : Int → Int} {S : eFs} {SP : Int → Int} {c n : Int} {h : eHs} {g rc : Int → Int} {T : eFs} {Mt : Int → Int → Int} {o : Int → Int} {N : Int} (hF : okF N F) {s : Int} (gs : -2147483648 ≤ s ∧ s ≤ 2147483647) :
    EM X mL_leaderAfterByCounting (eRt 10 2) (fun k => a (eR rhoL k)) [.ref (a 0), vi s, .ref (a 137)] (wA a z ln F P D DQ S SP c n h g rc T Mt [] ++ [eJ 1 1 o]) (eRets (some (vi (exK ((if 0 ≤ s ∧ s ≤ 99 then (if 1 ≤ F.1 0 then none else some xNo) else some xAr)) xAr xNo ""))) (fun k => a (eR rhoL k)) (fun cs1 => ((if 0 ≤ s ∧ s ≤ 99 then (if 1 ≤ F.1 0 then none else some xNo) else some xAr) = none → cs1 = wA a z ln F P D DQ S SP c n h g rc T Mt [] ++ [eJ 1 1 (eU o 0 (w32 (sLead F s)))]) ∧ (¬ (if 0 ≤ s ∧ s ≤ 99 then (if 1 ≤ F.1 0 then none else some xNo) else some xAr) = none → cs1 = wA a z ln F P D DQ S SP c n h g rc T Mt [] ++ [eJ 1 1 o]))) := by
  have q := C_L_leaderAfterByCounting (X := X) (a := fun k => a (eR rhoL k)) (z := z) (ln := ln) (F := F) (P := P) (D := D) (DQ := DQ) (S := S) (SP := SP) (c := c) (n := n) (h := h) (g := g) (rc := rc) (T := T) (Mt := Mt) (o := o) hF gs
  simp only [wA_rL (a := a), wA_t1] at q
  exact q
theorem W_targetX {X : eXT} {a : Nat → Nat} {z : Nat → Int} {ln : Int → Int} {F : eFs} {P : Int → Int} {D : eFs} {DQ : Int → Int} {S : eFs} {SP : Int → Int} {c n : Int} {h : eHs} {g rc : Int → Int} {T : eFs} {Mt : Int → Int → Int} {o : Int → Int} {N : Int} (hF : okF N F) :
    EM X mL_targetX (eRt 10 2) (fun k => a (eR rhoL k)) [.ref (a 0), .ref (a 137)] (wA a z ln F P D DQ S SP c n h g rc T Mt [] ++ [eJ 1 1 o]) (eRets (some (vi (exK ((if ¬ F.1 4 = -1 then none else some xNo)) xNo "" ""))) (fun k => a (eR rhoL k)) (fun cs1 => ((if ¬ F.1 4 = -1 then none else some xNo) = none → cs1 = wA a z ln F P D DQ S SP c n h g rc T Mt [] ++ [eJ 1 1 (eU o 0 (w32 (F.1 4)))]) ∧ (¬ (if ¬ F.1 4 = -1 then none else some xNo) = none → cs1 = wA a z ln F P D DQ S SP c n h g rc T Mt [] ++ [eJ 1 1 o]))) := by
  have q := C_L_targetX (X := X) (a := fun k => a (eR rhoL k)) (z := z) (ln := ln) (F := F) (P := P) (D := D) (DQ := DQ) (S := S) (SP := SP) (c := c) (n := n) (h := h) (g := g) (rc := rc) (T := T) (Mt := Mt) (o := o) hF
  simp only [wA_rL (a := a), wA_t1] at q
  exact q
theorem W_targetY {X : eXT} {a : Nat → Nat} {z : Nat → Int} {ln : Int → Int} {F : eFs} {P : Int → Int} {D : eFs} {DQ : Int → Int} {S : eFs} {SP : Int → Int} {c n : Int} {h : eHs} {g rc : Int → Int} {T : eFs} {Mt : Int → Int → Int} {o : Int → Int} {N : Int} (hF : okF N F) :
    EM X mL_targetY (eRt 10 2) (fun k => a (eR rhoL k)) [.ref (a 0), .ref (a 137)] (wA a z ln F P D DQ S SP c n h g rc T Mt [] ++ [eJ 1 1 o]) (eRets (some (vi (exK ((if ¬ F.1 4 = -1 then none else some xNo)) xNo "" ""))) (fun k => a (eR rhoL k)) (fun cs1 => ((if ¬ F.1 4 = -1 then none else some xNo) = none → cs1 = wA a z ln F P D DQ S SP c n h g rc T Mt [] ++ [eJ 1 1 (eU o 0 (w32 (F.1 5)))]) ∧ (¬ (if ¬ F.1 4 = -1 then none else some xNo) = none → cs1 = wA a z ln F P D DQ S SP c n h g rc T Mt [] ++ [eJ 1 1 o]))) := by
  have q := C_L_targetY (X := X) (a := fun k => a (eR rhoL k)) (z := z) (ln := ln) (F := F) (P := P) (D := D) (DQ := DQ) (S := S) (SP := SP) (c := c) (n := n) (h := h) (g := g) (rc := rc) (T := T) (Mt := Mt) (o := o) hF
  simp only [wA_rL (a := a), wA_t1] at q
  exact q
theorem W_stepsSinceShape {X : eXT} {a : Nat → Nat} {z : Nat → Int} {ln : Int → Int} {F : eFs} {P : Int → Int} {D : eFs} {DQ : Int → Int} {S : eFs} {SP : Int → Int} {c n : Int} {h : eHs} {g rc : Int → Int} {T : eFs} {Mt : Int → Int → Int} {o : Int → Int} {N : Int} (hF : okF N F) :
    EM X mL_stepsSinceShape (eRt 10 2) (fun k => a (eR rhoL k)) [.ref (a 0), .ref (a 137)] (wA a z ln F P D DQ S SP c n h g rc T Mt [] ++ [eJ 1 1 o]) (eRets (some (vi (exK ((if ¬ sSince F = -1 then none else some xNo)) xNo "" ""))) (fun k => a (eR rhoL k)) (fun cs1 => ((if ¬ sSince F = -1 then none else some xNo) = none → cs1 = wA a z ln F (sShp F) D DQ S SP c n h g rc T Mt [] ++ [eJ 1 1 (eU o 0 (w32 (sSince F)))]) ∧ (¬ (if ¬ sSince F = -1 then none else some xNo) = none → cs1 = wA a z ln F (sShp F) D DQ S SP c n h g rc T Mt [] ++ [eJ 1 1 o]))) := by
  have q := C_L_stepsSinceShape (X := X) (a := fun k => a (eR rhoL k)) (z := z) (ln := ln) (F := F) (P := P) (D := D) (DQ := DQ) (S := S) (SP := SP) (c := c) (n := n) (h := h) (g := g) (rc := rc) (T := T) (Mt := Mt) (o := o) hF
  simp only [wA_rL (a := a), wA_t1] at q
  exact q
theorem W_basketAtRank {X : eXT} {a : Nat → Nat} {z : Nat → Int} {ln : Int → Int} {F : eFs} {P : Int → Int} {D : eFs} {DQ : Int → Int} {S : eFs} {SP : Int → Int} {c n : Int} {h : eHs} {g rc : Int → Int} {T : eFs} {Mt : Int → Int → Int} {o : Int → Int} {N : Int} (hF : okF N F) {r : Int} (gr : -2147483648 ≤ r ∧ r ≤ 2147483647) :
    EM X mL_basketAtRank (eRt 10 2) (fun k => a (eR rhoL k)) [.ref (a 0), vi r, .ref (a 137)] (wA a z ln F P D DQ S SP c n h g rc T Mt [] ++ [eJ 1 1 o]) (eRets (some (vi (exK ((if ¬ sWithRk F r = -1 then none else some xNo)) xNo "" ""))) (fun k => a (eR rhoL k)) (fun cs1 => ((if ¬ sWithRk F r = -1 then none else some xNo) = none → cs1 = wA a z ln F P D DQ S SP c n h g rc T Mt [] ++ [eJ 1 1 (eU o 0 (w32 (sWithRk F r)))]) ∧ (¬ (if ¬ sWithRk F r = -1 then none else some xNo) = none → cs1 = wA a z ln F P D DQ S SP c n h g rc T Mt [] ++ [eJ 1 1 o]))) := by
  have q := C_L_basketAtRank (X := X) (a := fun k => a (eR rhoL k)) (z := z) (ln := ln) (F := F) (P := P) (D := D) (DQ := DQ) (S := S) (SP := SP) (c := c) (n := n) (h := h) (g := g) (rc := rc) (T := T) (Mt := Mt) (o := o) hF gr
  simp only [wA_rL (a := a), wA_t1] at q
  exact q
theorem W_errorPosition {X : eXT} {a : Nat → Nat} {z : Nat → Int} {ln : Int → Int} {F : eFs} {P : Int → Int} {D : eFs} {DQ : Int → Int} {S : eFs} {SP : Int → Int} {c n : Int} {h : eHs} {g rc : Int → Int} {T : eFs} {Mt : Int → Int → Int} {o : Int → Int} {N : Int} (hF : okF N F) (hz : okZ z) :
    EM X mL_errorPosition (eRt 10 2) (fun k => a (eR rhoL k)) [.ref (a 0), .ref (a 137)] (wA a z ln F P D DQ S SP c n h g rc T Mt [] ++ [eJ 1 1 o]) (eRets (some (vi (exK ((if ¬ z 0 = -1 then none else some xNo)) xNo "" ""))) (fun k => a (eR rhoL k)) (fun cs1 => ((if ¬ z 0 = -1 then none else some xNo) = none → cs1 = wA a z ln F P D DQ S SP c n h g rc T Mt [] ++ [eJ 1 1 (eU o 0 (w32 (z 0)))]) ∧ (¬ (if ¬ z 0 = -1 then none else some xNo) = none → cs1 = wA a z ln F P D DQ S SP c n h g rc T Mt [] ++ [eJ 1 1 o]))) := by
  have q := C_L_errorPosition (X := X) (a := fun k => a (eR rhoL k)) (z := z) (ln := ln) (F := F) (P := P) (D := D) (DQ := DQ) (S := S) (SP := SP) (c := c) (n := n) (h := h) (g := g) (rc := rc) (T := T) (Mt := Mt) (o := o) hF hz
  simp only [wA_rL (a := a), wA_t1] at q
  exact q
theorem W_failedCommand {X : eXT} {a : Nat → Nat} {z : Nat → Int} {ln : Int → Int} {F : eFs} {P : Int → Int} {D : eFs} {DQ : Int → Int} {S : eFs} {SP : Int → Int} {c n : Int} {h : eHs} {g rc : Int → Int} {T : eFs} {Mt : Int → Int → Int} {o : Int → Int} {N : Int} (hF : okF N F) (hz : okZ z) :
    EM X mL_failedCommand (eRt 10 2) (fun k => a (eR rhoL k)) [.ref (a 0), .ref (a 137)] (wA a z ln F P D DQ S SP c n h g rc T Mt [] ++ [eJ 1 1 o]) (eRets (some (vi (exK ((if ¬ z 1 = -1 then none else some xNo)) xNo "" ""))) (fun k => a (eR rhoL k)) (fun cs1 => ((if ¬ z 1 = -1 then none else some xNo) = none → cs1 = wA a z ln F P D DQ S SP c n h g rc T Mt [] ++ [eJ 1 1 (eU o 0 (w32 (z 1)))]) ∧ (¬ (if ¬ z 1 = -1 then none else some xNo) = none → cs1 = wA a z ln F P D DQ S SP c n h g rc T Mt [] ++ [eJ 1 1 o]))) := by
  have q := C_L_failedCommand (X := X) (a := fun k => a (eR rhoL k)) (z := z) (ln := ln) (F := F) (P := P) (D := D) (DQ := DQ) (S := S) (SP := SP) (c := c) (n := n) (h := h) (g := g) (rc := rc) (T := T) (Mt := Mt) (o := o) hF hz
  simp only [wA_rL (a := a), wA_t1] at q
  exact q
theorem W_meanDistance {X : eXT} {a : Nat → Nat} {z : Nat → Int} {ln : Int → Int} {F : eFs} {P : Int → Int} {D : eFs} {DQ : Int → Int} {S : eFs} {SP : Int → Int} {c n : Int} {h : eHs} {g rc : Int → Int} {T : eFs} {Mt : Int → Int → Int} {o : Nat → UInt64} {N : Int} (hF : okF N F) :
    EM X mL_meanDistance (eRt 10 2) (fun k => a (eR rhoE k)) [.ref (a 0), .ref (a 138)] (wA a z ln F P D DQ S SP c n h g rc T Mt [] ++ [eDd 1 o]) (eRets (some (vi (exK ((if 2 ≤ F.1 0 then none else some xMa)) xMa "" ""))) (fun k => a (eR rhoE k)) (fun cs1 => ((if 2 ≤ F.1 0 then none else some xMa) = none → cs1 = wA a z ln F P D DQ S SP c n h g rc T Mt [] ++ [eDd 1 (vf_upd o 0 (FP.ddiv (FP.i2d (Int32.ofInt (sSumD F))) (FP.i2d (Int32.ofInt (F.1 0 - 1)))))]) ∧ (¬ (if 2 ≤ F.1 0 then none else some xMa) = none → cs1 = wA a z ln F P D DQ S SP c n h g rc T Mt [] ++ [eDd 1 o]))) := by
  have q := C_L_meanDistance (X := X) (a := fun k => a (eR rhoE k)) (z := z) (ln := ln) (F := F) (P := P) (D := D) (DQ := DQ) (S := S) (SP := SP) (c := c) (n := n) (h := h) (g := g) (rc := rc) (T := T) (Mt := Mt) (o := o) hF
  simp only [wA_rE (a := a), wA_t1] at q
  exact q
theorem W_mixedShare {X : eXT} {a : Nat → Nat} {z : Nat → Int} {ln : Int → Int} {F : eFs} {P : Int → Int} {D : eFs} {DQ : Int → Int} {S : eFs} {SP : Int → Int} {c n : Int} {h : eHs} {g rc : Int → Int} {T : eFs} {Mt : Int → Int → Int} {o : Nat → UInt64} {N : Int} (hF : okF N F) (hn64 : 1 ≤ sPrs F → vf_n64 (FP.f2d (FP.fdiv (FP.i2f (Int32.ofInt (sMix F))) (FP.i2f (Int32.ofInt (sPrs F)))))) :
    EM X mL_mixedShare (eRt 10 2) (fun k => a (eR rhoE k)) [.ref (a 0), .ref (a 138)] (wA a z ln F P D DQ S SP c n h g rc T Mt [] ++ [eDd 1 o]) (eRets (some (vi (exK ((if 1 ≤ sPrs F then none else some xMa)) xMa "" ""))) (fun k => a (eR rhoE k)) (fun cs1 => ((if 1 ≤ sPrs F then none else some xMa) = none → cs1 = wA a z ln F P D DQ S SP c n h g rc T Mt [] ++ [eDd 1 (vf_upd o 0 (FP.f2d (FP.fdiv (FP.i2f (Int32.ofInt (sMix F))) (FP.i2f (Int32.ofInt (sPrs F))))))]) ∧ (¬ (if 1 ≤ sPrs F then none else some xMa) = none → cs1 = wA a z ln F P D DQ S SP c n h g rc T Mt [] ++ [eDd 1 o]))) := by
  have q := C_L_mixedShare (X := X) (a := fun k => a (eR rhoE k)) (z := z) (ln := ln) (F := F) (P := P) (D := D) (DQ := DQ) (S := S) (SP := SP) (c := c) (n := n) (h := h) (g := g) (rc := rc) (T := T) (Mt := Mt) (o := o) hF hn64
  simp only [wA_rE (a := a), wA_t1] at q
  exact q
theorem W_lineAt {X : eXT} {a : Nat → Nat} {z : Nat → Int} {ln : Int → Int} {F : eFs} {P : Int → Int} {D : eFs} {DQ : Int → Int} {S : eFs} {SP : Int → Int} {c n : Int} {h : eHs} {g rc : Int → Int} {T : eFs} {Mt : Int → Int → Int} {o : Int → Int} (hz : okZ z) (hln : ∀ j, 0 ≤ ln j ∧ ln j ≤ 65535) {i : Int} (gi : -2147483648 ≤ i ∧ i ≤ 2147483647) :
    EM X mL_lineAt (eRt 10 2) (fun k => a (eR rhoL k)) [.ref (a 0), vi i, .ref (a 137)] (wA a z ln F P D DQ S SP c n h g rc T Mt [] ++ [eJ 1 1 o]) (eRets (some (vi (exK ((if 0 ≤ i ∧ i < z 4 then none else some xIx)) xIx "" ""))) (fun k => a (eR rhoL k)) (fun cs1 => ((if 0 ≤ i ∧ i < z 4 then none else some xIx) = none → cs1 = wA a z ln F P D DQ S SP c n h g rc T Mt [] ++ [eJ 1 1 (eU o 0 (w32 (ln i)))]) ∧ (¬ (if 0 ≤ i ∧ i < z 4 then none else some xIx) = none → cs1 = wA a z ln F P D DQ S SP c n h g rc T Mt [] ++ [eJ 1 1 o]))) := by
  have q := C_L_lineAt (X := X) (a := fun k => a (eR rhoL k)) (z := z) (ln := ln) (F := F) (P := P) (D := D) (DQ := DQ) (S := S) (SP := SP) (c := c) (n := n) (h := h) (g := g) (rc := rc) (T := T) (Mt := Mt) (o := o) hz hln gi
  simp only [wA_rL (a := a), wA_t1] at q
  exact q
theorem W_describeRow {X : eXT} {a : Nat → Nat} {z : Nat → Int} {ln : Int → Int} {F : eFs} {P : Int → Int} {D : eFs} {DQ : Int → Int} {S : eFs} {SP : Int → Int} {c n : Int} {h : eHs} {g rc : Int → Int} {T : eFs} {Mt : Int → Int → Int} {o : Int → Int} {N : Int} (hF : okF N F) {y : Int} (gy : -2147483648 ≤ y ∧ y ≤ 2147483647) :
    EM X mL_describeRow (eRt 10 2) (fun k => a (eR rhoL k)) [.ref (a 0), vi y, .ref (a 137)] (wA a z ln F P D DQ S SP c n h g rc T Mt [] ++ [eJ 1 1 o]) (eRets (some (vi (exK ((if 0 ≤ y ∧ y ≤ 11 then none else some xAr)) xAr "" ""))) (fun k => a (eR rhoL k)) (fun cs1 => ((if 0 ≤ y ∧ y ≤ 11 then none else some xAr) = none → cs1 = wA a (zS z 4 12) (fun x => sSgn F x y) F P D DQ S SP c n h g rc T Mt [] ++ [eJ 1 1 (eU o 0 (w32 (12)))]) ∧ (¬ (if 0 ≤ y ∧ y ≤ 11 then none else some xAr) = none → cs1 = wA a z ln F P D DQ S SP c n h g rc T Mt [] ++ [eJ 1 1 o]))) := by
  have q := C_L_describeRow (X := X) (a := fun k => a (eR rhoL k)) (z := z) (ln := ln) (F := F) (P := P) (D := D) (DQ := DQ) (S := S) (SP := SP) (c := c) (n := n) (h := h) (g := g) (rc := rc) (T := T) (Mt := Mt) (o := o) hF gy
  simp only [wA_rL (a := a), wA_t1] at q
  exact q
theorem W_append {X : eXT} {a : Nat → Nat} {z : Nat → Int} {ln : Int → Int} {F : eFs} {P : Int → Int} {D : eFs} {DQ : Int → Int} {S : eFs} {SP : Int → Int} {c n : Int} {h : eHs} {g rc : Int → Int} {T : eFs} {Mt : Int → Int → Int} {o : Int → Int} (hT : okT T Mt) {cc : Int} (gcc : 0 ≤ cc ∧ cc ≤ 65535) :
    EM X mL_append (eRt 10 2) (fun k => a (eR rhoL k)) [.ref (a 0), vi cc, .ref (a 137)] (wA a z ln F P D DQ S SP c n h g rc T Mt [] ++ [eJ 1 1 o]) (eRets (some (vi (exK ((if 32 ≤ cc ∧ cc ≤ 126 then (if T.1 0 < 60 then none else some xSt) else some xAr)) xAr xSt ""))) (fun k => a (eR rhoL k)) (fun cs1 => ((if 32 ≤ cc ∧ cc ≤ 126 then (if T.1 0 < 60 then none else some xSt) else some xAr) = none → cs1 = wA a z ln F P D DQ S SP c n h g rc (sS (sA T 0 (T.1 0) cc) 0 (T.1 0 + 1)) Mt [] ++ [eJ 1 1 (eU o 0 (w32 (T.1 0 + 1)))]) ∧ (¬ (if 32 ≤ cc ∧ cc ≤ 126 then (if T.1 0 < 60 then none else some xSt) else some xAr) = none → cs1 = wA a z ln F P D DQ S SP c n h g rc T Mt [] ++ [eJ 1 1 o]))) := by
  have q := C_L_append (X := X) (a := fun k => a (eR rhoL k)) (z := z) (ln := ln) (F := F) (P := P) (D := D) (DQ := DQ) (S := S) (SP := SP) (c := c) (n := n) (h := h) (g := g) (rc := rc) (T := T) (Mt := Mt) (o := o) hT gcc
  simp only [wA_rL (a := a), wA_t1] at q
  exact q
theorem W_undo {X : eXT} {a : Nat → Nat} {z : Nat → Int} {ln : Int → Int} {F : eFs} {P : Int → Int} {D : eFs} {DQ : Int → Int} {S : eFs} {SP : Int → Int} {c n : Int} {h : eHs} {g rc : Int → Int} {T : eFs} {Mt : Int → Int → Int} {o : Int → Int} (hcc : 0 ≤ c ∧ c ≤ 8) (hnn : 0 ≤ n ∧ n ≤ 7) :
    EM X mL_undo (eRt 10 2) (fun k => a (eR rhoL k)) [.ref (a 0), .ref (a 137)] (wA a z ln F P D DQ S SP c n h g rc T Mt [] ++ [eJ 1 1 o]) (eRets (some (vi (exK ((if 1 ≤ c then none else some xSt)) xSt "" ""))) (fun k => a (eR rhoL k)) (fun cs1 => ((if 1 ≤ c then none else some xSt) = none → cs1 = wA a z ln ((h (if 0 < n then n - 1 else 7).toNat).1) P D DQ S SP (c - 1) (if 0 < n then n - 1 else 7) h g rc T Mt [] ++ [eJ 1 1 (eU o 0 (w32 (c - 1)))]) ∧ (¬ (if 1 ≤ c then none else some xSt) = none → cs1 = wA a z ln F P D DQ S SP c n h g rc T Mt [] ++ [eJ 1 1 o]))) := by
  have q := C_L_undo (X := X) (a := fun k => a (eR rhoL k)) (z := z) (ln := ln) (F := F) (P := P) (D := D) (DQ := DQ) (S := S) (SP := SP) (c := c) (n := n) (h := h) (g := g) (rc := rc) (T := T) (Mt := Mt) (o := o) hcc hnn
  simp only [wA_rL (a := a), wA_t1] at q
  exact q
theorem W_restore {X : eXT} {a : Nat → Nat} {z : Nat → Int} {ln : Int → Int} {F : eFs} {P : Int → Int} {D : eFs} {DQ : Int → Int} {S : eFs} {SP : Int → Int} {c n : Int} {h : eHs} {g rc : Int → Int} {T : eFs} {Mt : Int → Int → Int} {o : Int → Int}  :
    EM X mL_restore (eRt 10 2) (fun k => a (eR rhoL k)) [.ref (a 0), .ref (a 137)] (wA a z ln F P D DQ S SP c n h g rc T Mt [] ++ [eJ 1 1 o]) (eRets (some (vi (exK ((if z 5 = 1 then none else some xSt)) xSt "" ""))) (fun k => a (eR rhoL k)) (fun cs1 => ((if z 5 = 1 then none else some xSt) = none → cs1 = wA a z ln (S) P D DQ S SP (0) (0) h g rc T Mt [] ++ [eJ 1 1 (eU o 0 (w32 (S.1 0)))]) ∧ (¬ (if z 5 = 1 then none else some xSt) = none → cs1 = wA a z ln F P D DQ S SP c n h g rc T Mt [] ++ [eJ 1 1 o]))) := by
  have q := C_L_restore (X := X) (a := fun k => a (eR rhoL k)) (z := z) (ln := ln) (F := F) (P := P) (D := D) (DQ := DQ) (S := S) (SP := SP) (c := c) (n := n) (h := h) (g := g) (rc := rc) (T := T) (Mt := Mt) (o := o) 
  simp only [wA_rL (a := a), wA_t1] at q
  exact q
theorem W_stepsToTarget {X : eXT} {a : Nat → Nat} {z : Nat → Int} {ln : Int → Int} {F : eFs} {P : Int → Int} {D : eFs} {DQ : Int → Int} {S : eFs} {SP : Int → Int} {c n : Int} {h : eHs} {g rc : Int → Int} {T : eFs} {Mt : Int → Int → Int} {o : Int → Int} {N : Int} (hF : okF N F) (hNs : N + 40000 ≤ 100000000) :
    EM X mL_stepsToTarget (eRt 10 2) (fun k => a (eR rhoL k)) [.ref (a 0), .ref (a 137)] (wA a z ln F P D DQ S SP c n h g rc T Mt [] ++ [eJ 1 1 o]) (eRets (some (vi (exK ((if ¬ F.1 4 = -1 then (if sHit (sTT F DQ).2.1 then none else some xNo) else some xNo)) xNo "" ""))) (fun k => a (eR rhoL k)) (fun cs1 => ((if ¬ F.1 4 = -1 then (if sHit (sTT F DQ).2.1 then none else some xNo) else some xNo) = none → cs1 = wA a z ln F P ((sTT F DQ).2.1) ((sTT F DQ).2.2) S SP c n h g rc T Mt [] ++ [eJ 1 1 (eU o 0 (w32 ((sTT F DQ).1)))]) ∧ (¬ (if ¬ F.1 4 = -1 then (if sHit (sTT F DQ).2.1 then none else some xNo) else some xNo) = none → cs1 = wA a z ln F P (if ¬ F.1 4 = -1 then (sTT F DQ).2.1 else D) (if ¬ F.1 4 = -1 then (sTT F DQ).2.2 else DQ) S SP c n h g rc T Mt [] ++ [eJ 1 1 o]))) := by
  have q := C_L_stepsToTarget (X := X) (a := fun k => a (eR rhoL k)) (z := z) (ln := ln) (F := F) (P := P) (D := D) (DQ := DQ) (S := S) (SP := SP) (c := c) (n := n) (h := h) (g := g) (rc := rc) (T := T) (Mt := Mt) (o := o) hF hNs
  simp only [wA_rL (a := a), wA_t1] at q
  exact q
theorem W_run {X : eXT} {a : Nat → Nat} {z : Nat → Int} {ln : Int → Int} {F : eFs} {P : Int → Int} {D : eFs} {DQ : Int → Int} {S : eFs} {SP : Int → Int} {c n : Int} {h : eHs} {g rc : Int → Int} {T : eFs} {Mt : Int → Int → Int} {o : Int → Int} {N : Int} (hF : okF N F) (hT : okT T Mt) (hz : okZ z) (hcc : 0 ≤ c ∧ c ≤ 8) (hnn : 0 ≤ n ∧ n ≤ 7) (hC : okC F) (hNs : N + 40000 ≤ 100000000) :
    EM X mL_run (eRt 10 2) (fun k => a (eR rhoL k)) [.ref (a 0), .ref (a 137)] (wA a z ln F P D DQ S SP c n h g rc T Mt [] ++ [eJ 1 1 o]) (eRets (some (vi (exK ((if (tPR T Mt).1 = -1 then (if (sRn ((tPR T Mt).2.2.2.1) ((tPR T Mt).2.2.2.2) ((tPR T Mt).2.1 - 0).toNat 0 F DQ).1 = -1 then none else some xSt) else some xAr)) xAr xSt ""))) (fun k => a (eR rhoL k)) (fun cs1 => ((if (tPR T Mt).1 = -1 then (if (sRn ((tPR T Mt).2.2.2.1) ((tPR T Mt).2.2.2.2) ((tPR T Mt).2.1 - 0).toNat 0 F DQ).1 = -1 then none else some xSt) else some xAr) = none → cs1 = wA a z ln ((sRn ((tPR T Mt).2.2.2.1) ((tPR T Mt).2.2.2.2) ((tPR T Mt).2.1 - 0).toNat 0 F DQ).2.1) P ((sRn ((tPR T Mt).2.2.2.1) ((tPR T Mt).2.2.2.2) ((tPR T Mt).2.1 - 0).toNat 0 F DQ).2.1) ((sRn ((tPR T Mt).2.2.2.1) ((tPR T Mt).2.2.2.2) ((tPR T Mt).2.1 - 0).toNat 0 F DQ).2.2) S SP (if 8 < c + 1 then 8 else c + 1) (if n + 1 < 8 then n + 1 else 0) (hU h n.toNat F) g rc (tRun T Mt) ((tPR T Mt).2.2.2.2) [] ++ [eJ 1 1 (eU o 0 (w32 ((tPR T Mt).2.1)))]) ∧ (¬ (if (tPR T Mt).1 = -1 then (if (sRn ((tPR T Mt).2.2.2.1) ((tPR T Mt).2.2.2.2) ((tPR T Mt).2.1 - 0).toNat 0 F DQ).1 = -1 then none else some xSt) else some xAr) = none → cs1 = wA a (if (tPR T Mt).1 = -1 then zS (zHi z (sRn ((tPR T Mt).2.2.2.1) ((tPR T Mt).2.2.2.2) ((tPR T Mt).2.1 - 0).toNat 0 F DQ).2.1 ((tPR T Mt).2.2.2.1 (sRn ((tPR T Mt).2.2.2.1) ((tPR T Mt).2.2.2.2) ((tPR T Mt).2.1 - 0).toNat 0 F DQ).1) ((tPR T Mt).2.2.2.2 (sRn ((tPR T Mt).2.2.2.1) ((tPR T Mt).2.2.2.2) ((tPR T Mt).2.1 - 0).toNat 0 F DQ).1 0) ((tPR T Mt).2.2.2.2 (sRn ((tPR T Mt).2.2.2.1) ((tPR T Mt).2.2.2.2) ((tPR T Mt).2.1 - 0).toNat 0 F DQ).1 1) ((tPR T Mt).2.2.2.2 (sRn ((tPR T Mt).2.2.2.1) ((tPR T Mt).2.2.2.2) ((tPR T Mt).2.1 - 0).toNat 0 F DQ).1 2)) 1 (sRn ((tPR T Mt).2.2.2.1) ((tPR T Mt).2.2.2.2) ((tPR T Mt).2.1 - 0).toNat 0 F DQ).1 else zS z 0 (tPR T Mt).1) ln F P (if (tPR T Mt).1 = -1 then (sRn ((tPR T Mt).2.2.2.1) ((tPR T Mt).2.2.2.2) ((tPR T Mt).2.1 - 0).toNat 0 F DQ).2.1 else D) (if (tPR T Mt).1 = -1 then (sRn ((tPR T Mt).2.2.2.1) ((tPR T Mt).2.2.2.2) ((tPR T Mt).2.1 - 0).toNat 0 F DQ).2.2 else DQ) S SP c n h g rc (tRun T Mt) ((tPR T Mt).2.2.2.2) [] ++ [eJ 1 1 o]))) := by
  have q := C_L_run (X := X) (a := fun k => a (eR rhoL k)) (z := z) (ln := ln) (F := F) (P := P) (D := D) (DQ := DQ) (S := S) (SP := SP) (c := c) (n := n) (h := h) (g := g) (rc := rc) (T := T) (Mt := Mt) (o := o) hF hT hz hcc hnn hC hNs
  simp only [wA_rL (a := a), wA_t1] at q
  exact q
theorem W_formationOf {X : eXT} {a : Nat → Nat} {z : Nat → Int} {ln : Int → Int} {F : eFs} {P : Int → Int} {D : eFs} {DQ : Int → Int} {S : eFs} {SP : Int → Int} {c n : Int} {h : eHs} {g rc : Int → Int} {T : eFs} {Mt : Int → Int → Int} {o : Int → Int} {N : Int} (hF : okF N F) (hg : okG g) (hr : ∀ j, 0 ≤ rc j ∧ rc j ≤ 9) {b : Int} (gb : -2147483648 ≤ b ∧ b ≤ 2147483647) :
    EM X mL_formationOf (eRt 10 2) (fun k => a (eR rhoL k)) [.ref (a 0), vi b, .ref (a 137)] (wA a z ln F P D DQ S SP c n h g rc T Mt [] ++ [eJ 1 1 o]) (eRets (some (vi (exK (if sHas F b then none else some xIx) xIx "" ""))) (fun k => a (eR rhoL k)) (fun cs1 => ∃ g1 rc1 : Int → Int, (∀ j, 0 ≤ rc1 j ∧ rc1 j ≤ 9) ∧ okG g1 ∧ ((if sHas F b then none else some xIx) = none → cs1 = wA a z ln F P D DQ S SP c n h g1 rc1 T Mt [] ++ [eJ 1 1 (eU o 0 (w32 (sGr F b)))]) ∧ (¬ (if sHas F b then none else some xIx) = none → cs1 = wA a z ln F P D DQ S SP c n h g1 rc1 T Mt [] ++ [eJ 1 1 o]))) := by
  have q := C_L_formationOf (X := X) (a := fun k => a (eR rhoL k)) (z := z) (ln := ln) (F := F) (P := P) (D := D) (DQ := DQ) (S := S) (SP := SP) (c := c) (n := n) (h := h) (g := g) (rc := rc) (T := T) (Mt := Mt) (o := o) hF hg hr gb
  simp only [wA_rL (a := a), wA_t1] at q
  exact q
