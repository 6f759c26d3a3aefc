/-! ===== the law: rules of its own ===== -/
def rhoL : List Nat := [0, 1, 2, 3, 4, 5, 6, 7, 8, 9, 10, 11, 12, 13, 14, 15, 16, 17, 18, 19, 20, 21, 22, 23, 24, 25, 26, 27, 28, 29, 30, 31, 32, 33, 34, 35, 36, 37, 38, 39, 40, 41, 42, 43, 44, 45, 46, 47, 48, 49, 50, 51, 52, 53, 54, 55, 56, 57, 58, 59, 60, 61, 62, 63, 64, 65, 66, 67, 68, 69, 70, 71, 72, 73, 74, 75, 76, 77, 78, 79, 80, 81, 82, 83, 84, 85, 86, 87, 88, 89, 90, 91, 92, 93, 94, 95, 96, 97, 98, 99, 100, 101, 102, 103, 104, 105, 106, 107, 108, 109, 110, 111, 112, 113, 114, 115, 116, 117, 118, 119, 120, 121, 122, 123, 124, 125, 126, 127, 128, 129, 130, 137]
def rhoE : List Nat := [0, 1, 2, 3, 4, 5, 6, 7, 8, 9, 10, 11, 12, 13, 14, 15, 16, 17, 18, 19, 20, 21, 22, 23, 24, 25, 26, 27, 28, 29, 30, 31, 32, 33, 34, 35, 36, 37, 38, 39, 40, 41, 42, 43, 44, 45, 46, 47, 48, 49, 50, 51, 52, 53, 54, 55, 56, 57, 58, 59, 60, 61, 62, 63, 64, 65, 66, 67, 68, 69, 70, 71, 72, 73, 74, 75, 76, 77, 78, 79, 80, 81, 82, 83, 84, 85, 86, 87, 88, 89, 90, 91, 92, 93, 94, 95, 96, 97, 98, 99, 100, 101, 102, 103, 104, 105, 106, 107, 108, 109, 110, 111, 112, 113, 114, 115, 116, 117, 118, 119, 120, 121, 122, 123, 124, 125, 126, 127, 128, 129, 130, 138]
def rhoM : List Nat := [131, 132, 133, 134, 135, 136]
theorem wA_len {a : Nat → Nat} {z : Nat → Int} {ln : Int → Int} {F : eFs} {P : Int → Int} {D : eFs} {DQ : Int → Int} {S : eFs} {SP : Int → Int} {c n : Int} {h : eHs} {g rc : Int → Int} {T : eFs} {Mt : Int → Int → Int} : (wA a z ln F P D DQ S SP c n h g rc T Mt []).length = 131 := by
  have f1 : ∀ (q : Nat → Nat) (G : eFs) (V : Int → Int), (wFl q G V).length = 10 := fun q G V => rfl
  have f2 : (wHi (fun k => a (31 + k)) c n h).length = 82 := rfl
  have f3 : (wTx (fun k => a (116 + k)) T Mt).length = 14 := rfl
  unfold wA
  simp only [List.length_append, f1, f2, f3, List.length_cons, List.length_nil]
theorem rhoL_len : rhoL.length = 132 := by decide +kernel
theorem rhoE_len : rhoE.length = 132 := by decide +kernel
theorem wA_tl {a : Nat → Nat} {z : Nat → Int} {ln : Int → Int} {F : eFs} {P : Int → Int} {D : eFs} {DQ : Int → Int} {S : eFs} {SP : Int → Int} {c n : Int} {h : eHs} {g rc : Int → Int} {T : eFs} {Mt : Int → Int → Int} {t : List eE} : wA a z ln F P D DQ S SP c n h g rc T Mt t = wA a z ln F P D DQ S SP c n h g rc T Mt [] ++ t := by
  unfold wA
  simp only [List.append_assoc, List.append_nil, List.nil_append]
theorem wA_rL {a : Nat → Nat} {z : Nat → Int} {ln : Int → Int} {F : eFs} {P : Int → Int} {D : eFs} {DQ : Int → Int} {S : eFs} {SP : Int → Int} {c n : Int} {h : eHs} {g rc : Int → Int} {T : eFs} {Mt : Int → Int → Int} {t : List eE} : wA (fun k => a (eR rhoL k)) z ln F P D DQ S SP c n h g rc T Mt t = wA a z ln F P D DQ S SP c n h g rc T Mt t := rfl
theorem wA_rE {a : Nat → Nat} {z : Nat → Int} {ln : Int → Int} {F : eFs} {P : Int → Int} {D : eFs} {DQ : Int → Int} {S : eFs} {SP : Int → Int} {c n : Int} {h : eHs} {g rc : Int → Int} {T : eFs} {Mt : Int → Int → Int} {t : List eE} : wA (fun k => a (eR rhoE k)) z ln F P D DQ S SP c n h g rc T Mt t = wA a z ln F P D DQ S SP c n h g rc T Mt t := rfl
theorem wM_rM {a : Nat → Nat} {M : eFs} : wM (fun k => a (eR rhoM k)) M = wM (fun k => a (131 + k)) M := rfl
theorem get_A {A B : List eE} {i : Nat} (h : i < A.length) : (A ++ B)[i]? = A[i]? := List.getElem?_append_left h
theorem get_B {A B : List eE} {i j : Nat} (h : A.length = j) : (A ++ B)[j + i]? = B[i]? := by
  subst h
  rw [List.getElem?_append_right (by omega)]
  congr 1
  omega
theorem sel_pre {A B : List eE} {n : Nat} (h : A.length = n) : (List.range n).map (fun i => (A ++ B)[i]?) = A.map some := by
  apply List.ext_getElem?
  intro k
  rw [List.getElem?_map, List.getElem?_map]
  by_cases hk : k < n
  · rw [List.getElem?_range hk, List.getElem?_eq_getElem (by omega)]
    show some ((A ++ B)[k]?) = _
    rw [get_A (by omega), List.getElem?_eq_getElem (by omega)]
    rfl
  · rw [List.getElem?_eq_none (by simp; omega), List.getElem?_eq_none (by omega)]
    rfl
theorem selL {A B : List eE} {o1 o2 : eE} (hA : A.length = 131) (hB : B.length = 6) : rhoL.map (fun i => (A ++ (B ++ [o1, o2]))[i]?) = (A ++ [o1]).map some := by
  have e : rhoL = List.range 131 ++ [137] := rfl
  rw [e, List.map_append, sel_pre hA, List.map_append]
  congr 1
  show [(A ++ (B ++ [o1, o2]))[131 + 6]?] = [some o1]
  rw [get_B hA, show (6 : Nat) = 6 + 0 from rfl, get_B hB]
  rfl
theorem selE {A B : List eE} {o1 o2 : eE} (hA : A.length = 131) (hB : B.length = 6) : rhoE.map (fun i => (A ++ (B ++ [o1, o2]))[i]?) = (A ++ [o2]).map some := by
  have e : rhoE = List.range 131 ++ [138] := rfl
  rw [e, List.map_append, sel_pre hA, List.map_append]
  congr 1
  show [(A ++ (B ++ [o1, o2]))[131 + 7]?] = [some o2]
  rw [get_B hA, show (7 : Nat) = 6 + 1 from rfl, get_B hB]
  rfl
theorem mrgL {A A' B : List eE} {o1 o2 o1' : eE} (hA : A.length = 131) (hA' : A'.length = 131) (hB : B.length = 6) : eMrg (A ++ (B ++ [o1, o2])) rhoL (A' ++ [o1']) = A' ++ (B ++ [o1', o2]) := by
  have e : rhoL = List.range' 0 131 ++ [137] := rfl
  rw [e, eMrg_app _ _ _ _ (by rw [List.length_range', hA'])]
  rw [show eMrg (A ++ (B ++ [o1, o2])) [137] [o1'] = A ++ (B ++ [o1', o2]) from eMrg_oneE (A := A ++ B) (S := [o1]) (B := [o2]) (by simp only [List.append_assoc]; rfl) (by simp only [List.append_assoc]; rfl) rfl (by rw [List.length_append, hA, hB]; rfl) rfl]
  exact eMrg_oneE (A := []) (S := A) (B := B ++ [o1', o2]) rfl rfl (by decide +kernel) (by rw [hA]; rfl) (by rw [hA, hA'])
theorem mrgE {A A' B : List eE} {o1 o2 o2' : eE} (hA : A.length = 131) (hA' : A'.length = 131) (hB : B.length = 6) : eMrg (A ++ (B ++ [o1, o2])) rhoE (A' ++ [o2']) = A' ++ (B ++ [o1, o2']) := by
  have e : rhoE = List.range' 0 131 ++ [138] := rfl
  rw [e, eMrg_app _ _ _ _ (by rw [List.length_range', hA'])]
  rw [show eMrg (A ++ (B ++ [o1, o2])) [138] [o2'] = A ++ (B ++ [o1, o2']) from eMrg_oneE (A := A ++ (B ++ [o1])) (S := [o2]) (B := []) (by simp only [List.append_assoc]; rfl) (by simp only [List.append_assoc]; rfl) rfl (by rw [List.length_append, List.length_append, hA, hB]; rfl) rfl]
  exact eMrg_oneE (A := []) (S := A) (B := B ++ [o1, o2']) rfl rfl (by decide +kernel) (by rw [hA]; rfl) (by rw [hA, hA'])
theorem mrgM {A B B' C : List eE} (hA : A.length = 131) (hB : B.length = 6) (hB' : B'.length = 6) : eMrg (A ++ (B ++ C)) rhoM B' = A ++ (B' ++ C) := eMrg_oneE (A := A) (S := B) (B := C) rfl rfl rfl (by rw [hA, hB]; rfl) (by rw [hB, hB'])
theorem selM {A B C : List eE} (hA : A.length = 131) (hB : B.length = 6) : rhoM.map (fun i => (A ++ (B ++ C))[i]?) = B.map some := by
  have e : rhoM = (List.range 6).map (fun i => 131 + i) := rfl
  rw [e, List.map_map]
  rw [← sel_pre (A := B) (B := C) hB]
  apply List.map_congr_left
  intro i _
  show (A ++ (B ++ C))[131 + i]? = _
  rw [get_B hA]
section EVL
variable {K : eK} {a : Nat → Nat} {b b' : Nat × Nat} {cs : List eE} {pc n : Nat} {ls : List (Option Value)} {st rest av : List Value} {M1 : mE} {R1 : Room} {v : Value}
theorem EV.bud (h : b'.1 ≤ b.1 ∧ b'.2 ≤ b.2) (k : EV K a b' cs pc ls st) : EV K a b cs pc ls st := by
  intro G A p l e s m args below meth c H locs cells slots lsA hX hL hP hD hS hcl hsl
  exact k G A p l e s m args below meth c H locs cells slots lsA hX hL hP hD hS (by omega) (by omega)
/-- a wrapper, with the row of longs -/
theorem e_lawL {idx nA : Nat} {A B : List eE} {o1 o2 : eE} {S1 : List eE → Prop} (hw : eLkS K.1.1.cls idx M1 nA) (hh : M1.2.2.2.2 ≠ []) (d : decode K.1.2.1 pc = .ok (.invokestatic idx, 3)) (hn : pc + 3 = n)
    (hM : EM (K.2.2.2.1, none) M1 R1 (fun k => a (eR rhoL k)) av (A ++ [o1]) (eRets (some v) (fun k => a (eR rhoL k)) S1)) (hst : st = av.reverse ++ rest) (hlen : av.length = nA) (hcat : (rest.map fun v => v.category).sum ≤ 8)
    (hfr : R1.frames + 1 ≤ K.2.1.frames) (hlo : 8 + (M1.2.2.1 + 11) + R1.locals ≤ K.2.1.locals) (hR : R1.cells + b'.1 ≤ b.1 ∧ R1.slots + b'.2 ≤ b.2)
    (hA : A.length = 131) (hB : B.length = 6) (hS : ∀ cs1, S1 cs1 → ∃ A' o1', cs1 = A' ++ [o1'] ∧ A'.length = 131) (k : ∀ A' o1', A'.length = 131 → S1 (A' ++ [o1']) → EV K a b' (A' ++ (B ++ [o1', o2])) n ls (v :: rest)) : EV K a b (A ++ (B ++ [o1, o2])) pc ls st :=
  e_invSH (ρ := rhoL) hw hh d hn hM hst hlen hcat hfr hlo b' hR (selL hA hB) (by decide +kernel)
    (fun o a1 cs1 h => by obtain ⟨h1, h2, h3⟩ := h; subst h2; obtain ⟨A', o1', e, hA'⟩ := hS cs1 h3; exact ⟨fun k _ => rfl, by rw [e, List.length_append, hA', rhoL_len]; exact Nat.le_refl _⟩)
    (fun w a1 cs1 h => by
      obtain ⟨h1, h2, h3⟩ := h
      cases h1
      subst h2
      obtain ⟨A', o1', e, hA'⟩ := hS cs1 h3
      subst e
      exact EV.drop (a1 := fun k => a (eR rhoL k)) (by rw [List.length_append, hA', rhoL_len]; exact Nat.le_refl _) (by rw [mrgL hA hA' hB]; exact k A' o1' hA' h3))
    (fun E a1 cs1 h => by cases h.1)
/-- a wrapper, with the row of doubles -/
theorem e_lawE {idx nA : Nat} {A B : List eE} {o1 o2 : eE} {S1 : List eE → Prop} (hw : eLkS K.1.1.cls idx M1 nA) (hh : M1.2.2.2.2 ≠ []) (d : decode K.1.2.1 pc = .ok (.invokestatic idx, 3)) (hn : pc + 3 = n)
    (hM : EM (K.2.2.2.1, none) M1 R1 (fun k => a (eR rhoE k)) av (A ++ [o2]) (eRets (some v) (fun k => a (eR rhoE k)) S1)) (hst : st = av.reverse ++ rest) (hlen : av.length = nA) (hcat : (rest.map fun v => v.category).sum ≤ 8)
    (hfr : R1.frames + 1 ≤ K.2.1.frames) (hlo : 8 + (M1.2.2.1 + 11) + R1.locals ≤ K.2.1.locals) (hR : R1.cells + b'.1 ≤ b.1 ∧ R1.slots + b'.2 ≤ b.2)
    (hA : A.length = 131) (hB : B.length = 6) (hS : ∀ cs1, S1 cs1 → ∃ A' o1', cs1 = A' ++ [o1'] ∧ A'.length = 131) (k : ∀ A' o1', A'.length = 131 → S1 (A' ++ [o1']) → EV K a b' (A' ++ (B ++ [o1, o1'])) n ls (v :: rest)) : EV K a b (A ++ (B ++ [o1, o2])) pc ls st :=
  e_invSH (ρ := rhoE) hw hh d hn hM hst hlen hcat hfr hlo b' hR (selE hA hB) (by decide +kernel)
    (fun o a1 cs1 h => by obtain ⟨h1, h2, h3⟩ := h; subst h2; obtain ⟨A', o1', e, hA'⟩ := hS cs1 h3; exact ⟨fun k _ => rfl, by rw [e, List.length_append, hA', rhoE_len]; exact Nat.le_refl _⟩)
    (fun w a1 cs1 h => by
      obtain ⟨h1, h2, h3⟩ := h
      cases h1
      subst h2
      obtain ⟨A', o1', e, hA'⟩ := hS cs1 h3
      subst e
      exact EV.drop (a1 := fun k => a (eR rhoE k)) (by rw [List.length_append, hA', rhoE_len]; exact Nat.le_refl _) (by rw [mrgE hA hA' hB]; exact k A' o1' hA' h3))
    (fun E a1 cs1 h => by cases h.1)
/-- a call of the reference -/
theorem e_lawP {idx nA : Nat} {A C : List eE} {M : eFs} {r : vw_C} {S1 : List eE → Prop} {Pr : eFs → Prop} (hw : eLkV K.1.1.cls idx M1 nA) (hh : M1.2.2.2.2 = []) (d : decode K.1.2.1 pc = .ok (.invokevirtual idx, 3)) (hn : pc + 3 = n)
    (hM : EM (K.2.2.2.1, none) M1 R1 (fun k => a (eR rhoM k)) (.ref (a 131) :: av) (wM (fun k => a (eR rhoM k)) M) (eRets (some v) (fun k => a (eR rhoM k)) S1)) (hS1 : ∀ cs1, S1 cs1 → ∃ M2 : eFs, cs1 = wM (fun k => a (eR rhoM k)) M2 ∧ Pr M2) (hst : st = av.reverse ++ .ref (a 131) :: rest) (hlen : av.length = nA) (hcat : (rest.map fun v => v.category).sum ≤ 8)
    (hfr : R1.frames + 1 ≤ K.2.1.frames) (hlo : 8 + (M1.2.2.1 + 11) + R1.locals ≤ K.2.1.locals) (hR : R1.cells = 0 ∧ R1.slots = 0) (hA : A.length = 131) (hcl : eCl[7]? = some r) (hcn : r.1 = M1.1.cls)
    (k : ∀ M2 : eFs, Pr M2 → EV K a b (A ++ (wM (fun k => a (131 + k)) M2 ++ C)) n ls (v :: rest)) : EV K a b (A ++ (wM (fun k => a (131 + k)) M ++ C)) pc ls st := by
  have hB : ∀ M2 : eFs, (wM (fun k => a (131 + k)) M2).length = 6 := fun M2 => rfl
  refine e_cV1 rhoM (i := 131) (ci := 7) (r := r) (cs0 := wM (fun k => a (eR rhoM k)) M) hw hh d hn hM hst hlen hcat hfr hlo hR (by rw [wM_rM]; exact selM hA (hB M)) (by decide +kernel) rfl (fs := [vi (M.1 0), .ref (a 132), vi (M.1 1), vb (M.1 2 = 1), vi (M.1 3), vi (M.1 4), vi (M.1 5), .ref (a 133), .ref (a 134), vi (M.1 6), vi (M.1 7), vi (M.1 8), vi (M.1 9), vi (M.1 10), .ref (a 135), vi (M.1 11), .ref (a 136), vi (M.1 12)]) (by rw [show (131 : Nat) = 131 + 0 from rfl, get_B hA]; rfl) hcl hcn (fun cs1 h => ?_) (fun cs1 h => ?_)
  · obtain ⟨M2, e, -⟩ := hS1 cs1 h
    rw [e]; rfl
  · obtain ⟨M2, e, hp⟩ := hS1 cs1 h
    rw [e, wM_rM, mrgM hA (hB M) (hB M2)]
    exact k M2 hp
theorem e_lawQ {idx nA : Nat} {A C : List eE} {M M2 : eFs} {r : vw_C} (hw : eLkV K.1.1.cls idx M1 nA) (hh : M1.2.2.2.2 = []) (d : decode K.1.2.1 pc = .ok (.invokevirtual idx, 3)) (hn : pc + 3 = n)
    (hM : EM (K.2.2.2.1, none) M1 R1 (fun k => a (eR rhoM k)) (.ref (a 131) :: av) (wM (fun k => a (eR rhoM k)) M) (eRet (some v) (fun k => a (eR rhoM k)) (wM (fun k => a (eR rhoM k)) M2))) (hst : st = av.reverse ++ .ref (a 131) :: rest) (hlen : av.length = nA) (hcat : (rest.map fun v => v.category).sum ≤ 8)
    (hfr : R1.frames + 1 ≤ K.2.1.frames) (hlo : 8 + (M1.2.2.1 + 11) + R1.locals ≤ K.2.1.locals) (hR : R1.cells = 0 ∧ R1.slots = 0) (hA : A.length = 131) (hcl : eCl[7]? = some r) (hcn : r.1 = M1.1.cls)
    (k : EV K a b (A ++ (wM (fun k => a (131 + k)) M2 ++ C)) n ls (v :: rest)) : EV K a b (A ++ (wM (fun k => a (131 + k)) M ++ C)) pc ls st := by
  have hB : ∀ M2 : eFs, (wM (fun k => a (131 + k)) M2).length = 6 := fun M2 => rfl
  refine e_cV2 rhoM (i := 131) (ci := 7) (r := r) (cs0 := wM (fun k => a (eR rhoM k)) M) (cs1 := wM (fun k => a (eR rhoM k)) M2) hw hh d hn hM hst hlen hcat hfr hlo hR (by rw [wM_rM]; exact selM hA (hB M)) (by decide +kernel) rfl (fs := [vi (M.1 0), .ref (a 132), vi (M.1 1), vb (M.1 2 = 1), vi (M.1 3), vi (M.1 4), vi (M.1 5), .ref (a 133), .ref (a 134), vi (M.1 6), vi (M.1 7), vi (M.1 8), vi (M.1 9), vi (M.1 10), .ref (a 135), vi (M.1 11), .ref (a 136), vi (M.1 12)]) (by rw [show (131 : Nat) = 131 + 0 from rfl, get_B hA]; rfl) hcl hcn rfl (by rw [wM_rM]; exact mrgM hA (hB M) (hB M2)) k
/-- the script's ints -/
def sc (xs : Nat → Int32) (z : Int) : Int := (xs z.toNat).toInt
theorem sc_in {xs : Nat → Int32} {z : Int} : -2147483648 ≤ sc xs z ∧ sc xs z ≤ 2147483647 := ⟨Int32.le_toInt _, by have := Int32.toInt_lt (xs z.toNat); unfold sc; omega⟩
theorem e_slv {bb L : Nat} {xs : Nat → Int32} {z : Int} (hsc : K.2.2.2.2 = some (bb, L, xs)) (d : decode K.1.2.1 pc = .ok (.iaload, 1)) (hn : pc + 1 = n) (hz : 0 ≤ z ∧ z < L) (hL2 : L ≤ 2147483647) (k : EV K a b cs n ls (vi (sc xs z) :: st)) : EV K a b cs pc ls (vi z :: .ref bb :: st) := by
  refine e_sld hsc d hn hz hL2 ?_
  have e : Value.int (xs z.toNat) = vi (sc xs z) := by unfold sc vi; rw [oI_ofI]
  rw [e]
  exact k
end EVL
theorem exK_in {E : Option String} {e1 e2 e3 : String} (h : ¬ E = none) : 1 ≤ exK E e1 e2 e3 ∧ exK E e1 e2 e3 ≤ 3 := by
  cases E with
  | none => exact absurd rfl h
  | some e =>
    show 1 ≤ (if e = e1 then (1 : Int) else if e = e2 then 2 else 3) ∧ (if e = e1 then (1 : Int) else if e = e2 then 2 else 3) ≤ 3
    (repeat' split) <;> omega
theorem xNe : (¬ xAr = xIx ∧ ¬ xSt = xAr ∧ ¬ xUn = xAr ∧ ¬ xUn = xSt ∧ ¬ xUn = xIx ∧ ¬ xNo = xAr ∧ ¬ xNo = xIx) := by first | decide | simp [xAr, xIx, xSt, xUn, xNo]
