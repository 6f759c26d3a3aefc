/-! ===== the law's world: the object, all that it is made of, and what the law has beside it ===== -/
/-- what may be anything: 0 numbers, line, drawn shape, (count and next of the history), the history, the rows of the formations -/
abbrev eUs : Type := (Nat → Int) × (Int → Int) × (Int → Int) × (Int × Int) × eHs × (Int → Int) × (Int → Int)
def wB (a : Nat → Nat) (F : eFs) (u : eUs) (t : List eE) : List eE := wA a u.1 u.2.1 F u.2.2.1 sF0 (fun _ => 0) sF0 (fun _ => 0) u.2.2.2.1.1 u.2.2.2.1.2 u.2.2.2.2.1 u.2.2.2.2.2.1 u.2.2.2.2.2.2 tT0 (fun _ _ => 0) t
def okU (u : eUs) : Prop := okZ u.1 ∧ (∀ j, 0 ≤ u.2.1 j ∧ u.2.1 j ≤ 65535) ∧ ((0 ≤ u.2.2.2.1.1 ∧ u.2.2.2.1.1 ≤ 8) ∧ (0 ≤ u.2.2.2.1.2 ∧ u.2.2.2.1.2 ≤ 7)) ∧ okG u.2.2.2.2.2.1 ∧ (∀ j, 0 ≤ u.2.2.2.2.2.2 j ∧ u.2.2.2.2.2.2 j ≤ 9)
theorem wB_app {a : Nat → Nat} {F : eFs} {u : eUs} {t s : List eE} : wB a F u (t ++ s) = wB a F u t ++ s := by unfold wB wA; simp only [List.append_assoc]
theorem wB_len {a : Nat → Nat} {F : eFs} {u : eUs} {t : List eE} : (wB a F u t).length = 131 + t.length := by
  have e : wB a F u t = wB a F u [] ++ t := by rw [← wB_app, List.nil_append]
  have e2 : (wB a F u []).length = 131 := rfl
  rw [e, List.length_append, e2]
abbrev r11 : List Nat := [0, 1, 2, 3, 4, 5, 6, 7, 8, 9, 10]
abbrev rFm : List Nat := [0, 1, 2, 3, 4, 5, 6, 7, 8, 9, 10, 113, 114, 115]
abbrev rLn : List Nat := [0, 1, 2, 3, 4, 5, 6, 7, 8, 9, 10, 130]
abbrev rMu : List Nat := [0, 1, 2, 3, 4, 5, 6, 7, 8, 9, 10, 31, 32, 33, 34, 35, 36, 37, 38, 39, 40, 41, 42, 43, 44, 45, 46, 47, 48, 49, 50, 51, 52, 53, 54, 55, 56, 57, 58, 59, 60, 61, 62, 63, 64, 65, 66, 67, 68, 69, 70, 71, 72, 73, 74, 75, 76, 77, 78, 79, 80, 81, 82, 83, 84, 85, 86, 87, 88, 89, 90, 91, 92, 93, 94, 95, 96, 97, 98, 99, 100, 101, 102, 103, 104, 105, 106, 107, 108, 109, 110, 111, 112]
section EVL
variable {K : eK} {a : Nat → Nat} {b b' : Nat × Nat} {pc n : Nat} {ls : List (Option Value)} {st rest av : List Value} {M1 : mE} {R1 : Room} {v : Value} {F : eFs} {u : eUs} {t : List eE}
/-- the object and its flock, as a callee sees them -/
abbrev cO (a : Nat → Nat) (q1 q2 q3 q4 q5 q6 : Nat) (z : Nat → Int) (F : eFs) (P : Int → Int) : List eE := wO (a 1) q1 q2 q3 q4 q5 q6 z :: wFl (fun k => a (1 + k)) F P
theorem e_obs {idx nA q : Nat} (hw : eLkV K.1.1.cls idx M1 nA) (hh : M1.2.2.2.2 = []) (d : decode K.1.2.1 pc = .ok (.invokevirtual idx, 3)) (hn : pc + 3 = n)
    (hM : EM (K.2.2.2.1, none) M1 R1 (fun k => a (eR r11 k)) (.ref (a 0) :: av) (cO (fun k => a (eR r11 k)) (a 11) (a 21) (a 31) (a 113) (a 116) (a 130) u.1 F u.2.2.1) (eRet (some v) (fun k => a (eR r11 k)) (cO (fun k => a (eR r11 k)) (a 11) (a 21) (a 31) (a 113) (a 116) (a 130) u.1 F u.2.2.1))) (hq : q = a 0) (hst : st = av.reverse ++ .ref q :: rest) (hlen : av.length = nA) (hcat : (rest.map fun v => v.category).sum ≤ 8)
    (hfr : R1.frames + 1 ≤ K.2.1.frames) (hlo : 8 + (M1.2.2.1 + 11) + R1.locals ≤ K.2.1.locals) (hR : R1.cells = 0 ∧ R1.slots = 0) (hcn : RX6 = M1.1.cls)
    (k : EV K a b (wB a F u t) n ls (v :: rest)) : EV K a b (wB a F u t) pc ls st := by
  subst hq
  exact e_cV0 r11 hw hh d hn hM hst hlen hcat hfr hlo hR rfl rfl (i := 0) rfl rfl rfl hcn k
/-- the law's own methods that only ask, with handlers -/
theorem e_obsH {idx nA : Nat} (hw : eLkS K.1.1.cls idx M1 nA) (hh : M1.2.2.2.2 ≠ []) (d : decode K.1.2.1 pc = .ok (.invokestatic idx, 3)) (hn : pc + 3 = n)
    (hM : EM (K.2.2.2.1, none) M1 R1 (fun k => a (eR r11 k)) av (cO (fun k => a (eR r11 k)) (a 11) (a 21) (a 31) (a 113) (a 116) (a 130) u.1 F u.2.2.1) (eRet (some v) (fun k => a (eR r11 k)) (cO (fun k => a (eR r11 k)) (a 11) (a 21) (a 31) (a 113) (a 116) (a 130) u.1 F u.2.2.1))) (hst : st = av.reverse ++ rest) (hlen : av.length = nA) (hcat : (rest.map fun v => v.category).sum ≤ 8)
    (hfr : R1.frames + 1 ≤ K.2.1.frames) (hlo : 8 + (M1.2.2.1 + 11) + R1.locals ≤ K.2.1.locals) (b' : Nat × Nat) (hR : R1.cells + b'.1 ≤ b.1 ∧ R1.slots + b'.2 ≤ b.2)
    (k : EV K a b' (wB a F u t) n ls (v :: rest)) : EV K a b (wB a F u t) pc ls st := by
  have hsel : r11.map (fun i => (wB a F u t)[i]?) = (cO (fun k => a (eR r11 k)) (a 11) (a 21) (a 31) (a 113) (a 116) (a 130) u.1 F u.2.2.1).map some := rfl
  exact e_invSH hw hh d hn hM hst hlen hcat hfr hlo b' hR hsel rfl (fun o a1 cs1 h => by obtain ⟨-, h2, h3⟩ := h; subst h2; subst h3; exact ⟨fun k _ => rfl, Nat.le_refl 11⟩)
    (fun w a1 cs1 h => by
      obtain ⟨h1, h2, h3⟩ := h; cases h1; subst h2; subst h3
      exact EV.drop (a1 := fun k => a (eR r11 k)) (Nat.le_refl 11) (by rw [eMrg_same r11 _ hsel]; exact k))
    (fun E a1 cs1 h => by cases h.1)
/-- the shape of now is drawn on the way -/
theorem e_obsP {idx nA : Nat} {P' : Int → Int} (hw : eLkS K.1.1.cls idx M1 nA) (hh : M1.2.2.2.2 ≠ []) (d : decode K.1.2.1 pc = .ok (.invokestatic idx, 3)) (hn : pc + 3 = n)
    (hM : EM (K.2.2.2.1, none) M1 R1 (fun k => a (eR r11 k)) av (cO (fun k => a (eR r11 k)) (a 11) (a 21) (a 31) (a 113) (a 116) (a 130) u.1 F u.2.2.1) (eRet (some v) (fun k => a (eR r11 k)) (cO (fun k => a (eR r11 k)) (a 11) (a 21) (a 31) (a 113) (a 116) (a 130) u.1 F P'))) (hst : st = av.reverse ++ rest) (hlen : av.length = nA) (hcat : (rest.map fun v => v.category).sum ≤ 8)
    (hfr : R1.frames + 1 ≤ K.2.1.frames) (hlo : 8 + (M1.2.2.1 + 11) + R1.locals ≤ K.2.1.locals) (b' : Nat × Nat) (hR : R1.cells + b'.1 ≤ b.1 ∧ R1.slots + b'.2 ≤ b.2)
    (hu : okU u) (k : ∀ u', okU u' → EV K a b' (wB a F u' t) n ls (v :: rest)) : EV K a b (wB a F u t) pc ls st := by
  have hsel : r11.map (fun i => (wB a F u t)[i]?) = (cO (fun k => a (eR r11 k)) (a 11) (a 21) (a 31) (a 113) (a 116) (a 130) u.1 F u.2.2.1).map some := rfl
  exact e_invSH hw hh d hn hM hst hlen hcat hfr hlo b' hR hsel rfl (fun o a1 cs1 h => by obtain ⟨-, h2, h3⟩ := h; subst h2; subst h3; exact ⟨fun k _ => rfl, Nat.le_refl 11⟩)
    (fun w a1 cs1 h => by
      obtain ⟨h1, h2, h3⟩ := h; cases h1; subst h2; subst h3
      refine EV.drop (a1 := fun k => a (eR r11 k)) (Nat.le_refl 11) (EV.ceq ?_ (k (u.1, u.2.1, P', u.2.2.2) ⟨hu.1, hu.2.1, hu.2.2⟩))
      exact gOF (t := t) (O' := [wO (a 1) (a 11) (a 21) (a 31) (a 113) (a 116) (a 130) u.1]) (F' := wFl (fun k => a (1 + k)) F P') rfl rfl rfl rfl rfl rfl rfl rfl rfl rfl)
    (fun E a1 cs1 h => by cases h.1)
/-- the formations are gone through on the way -/
theorem e_frm {idx nA q : Nat} (hw : eLkV K.1.1.cls idx M1 nA) (hh : M1.2.2.2.2 = []) (d : decode K.1.2.1 pc = .ok (.invokevirtual idx, 3)) (hn : pc + 3 = n)
    (hM : EM (K.2.2.2.1, none) M1 R1 (fun k => a (eR rFm k)) (.ref (a 0) :: av) (wFF (fun k => a (eR rFm k)) (a 11) (a 21) (a 31) (a 116) (a 130) u.1 u.2.2.2.2.2.1 u.2.2.2.2.2.2 F u.2.2.1) (eRets (some v) (fun k => a (eR rFm k)) (fun cs1 => ∃ g1 rc1 : Int → Int, cs1 = wFF (fun k => a (eR rFm k)) (a 11) (a 21) (a 31) (a 116) (a 130) u.1 g1 rc1 F u.2.2.1 ∧ (∀ j, 0 ≤ rc1 j ∧ rc1 j ≤ 9) ∧ okG g1))) (hq : q = a 0) (hst : st = av.reverse ++ .ref q :: rest) (hlen : av.length = nA) (hcat : (rest.map fun v => v.category).sum ≤ 8)
    (hfr : R1.frames + 1 ≤ K.2.1.frames) (hlo : 8 + (M1.2.2.1 + 11) + R1.locals ≤ K.2.1.locals) (hR : R1.cells = 0 ∧ R1.slots = 0) (hcn : RX6 = M1.1.cls)
    (hu : okU u) (k : ∀ u', okU u' → EV K a b (wB a F u' t) n ls (v :: rest)) : EV K a b (wB a F u t) pc ls st := by
  subst hq
  refine e_cV1 rFm hw hh d hn hM hst hlen hcat hfr hlo hR rfl rfl (i := 0) rfl rfl rfl hcn (fun cs1 h => ?_) (fun cs1 h => ?_)
  · obtain ⟨g1, rc1, h1, -⟩ := h
    rw [h1]; rfl
  · obtain ⟨g1, rc1, h1, h2, h3⟩ := h
    subst h1
    refine EV.ceq ?_ (k (u.1, u.2.1, u.2.2.1, u.2.2.2.1, u.2.2.2.2.1, g1, rc1) ⟨hu.1, hu.2.1, hu.2.2.1, h3, h2⟩)
    exact gOFG (t := t) (O' := [wO (a 1) (a 11) (a 21) (a 31) (a 113) (a 116) (a 130) u.1]) (F' := wFl (fun k => a (1 + k)) F u.2.2.1) (G' := [.inr (3, [.ref (a 114), .ref (a 115)]), eI 0 10 g1, eI 0 10 rc1]) rfl rfl rfl rfl rfl rfl rfl rfl rfl rfl rfl
/-- a row of the sky is described -/
theorem e_dsc {idx nA q : Nat} {z' : Nat → Int} {ln' : Int → Int} (hw : eLkV K.1.1.cls idx M1 nA) (hh : M1.2.2.2.2 = []) (d : decode K.1.2.1 pc = .ok (.invokevirtual idx, 3)) (hn : pc + 3 = n)
    (hM : EM (K.2.2.2.1, none) M1 R1 (fun k => a (eR rLn k)) (.ref (a 0) :: av) (wO (a 1) (a 11) (a 21) (a 31) (a 113) (a 116) (a 130) u.1 :: (wFl (fun k => (fun k => a (eR rLn k)) (1 + k)) F u.2.2.1 ++ [eI 2 12 u.2.1])) (eRet (some v) (fun k => a (eR rLn k)) (wO (a 1) (a 11) (a 21) (a 31) (a 113) (a 116) (a 130) z' :: (wFl (fun k => (fun k => a (eR rLn k)) (1 + k)) F u.2.2.1 ++ [eI 2 12 ln'])))) (hq : q = a 0) (hst : st = av.reverse ++ .ref q :: rest) (hlen : av.length = nA) (hcat : (rest.map fun v => v.category).sum ≤ 8)
    (hfr : R1.frames + 1 ≤ K.2.1.frames) (hlo : 8 + (M1.2.2.1 + 11) + R1.locals ≤ K.2.1.locals) (hR : R1.cells = 0 ∧ R1.slots = 0) (hcn : RX6 = M1.1.cls)
    (k : EV K a b (wB a F (z', ln', u.2.2) t) n ls (v :: rest)) : EV K a b (wB a F u t) pc ls st := by
  subst hq
  refine e_cV2 rLn hw hh d hn hM hst hlen hcat hfr hlo hR rfl rfl (i := 0) rfl rfl rfl hcn rfl ?_ k
  exact gOFL (t := t) (O' := [wO (a 1) (a 11) (a 21) (a 31) (a 113) (a 116) (a 130) z']) (F' := wFl (fun k => a (1 + k)) F u.2.2.1) (L' := [eI 2 12 ln']) rfl rfl rfl rfl rfl rfl rfl rfl rfl rfl rfl
/-- a sign of the line -/
theorem e_lin {idx nA q : Nat} (hw : eLkV K.1.1.cls idx M1 nA) (hh : M1.2.2.2.2 = []) (d : decode K.1.2.1 pc = .ok (.invokevirtual idx, 3)) (hn : pc + 3 = n) {q1 q2 q3 q4 q5 q6 : Nat} {z : Nat → Int} {ln : Int → Int}
    (hM : EM (K.2.2.2.1, none) M1 R1 (fun k => a (eR [0, 1] k)) (.ref (a 0) :: av) [wO q1 q2 q3 q4 q5 q6 (a 1) z, eI 2 12 ln] (eRet (some v) (fun k => a (eR [0, 1] k)) [wO q1 q2 q3 q4 q5 q6 (a 1) z, eI 2 12 ln])) (hq : q = a 0) (hst : st = av.reverse ++ .ref q :: rest) (hlen : av.length = nA) (hcat : (rest.map fun v => v.category).sum ≤ 8)
    (hfr : R1.frames + 1 ≤ K.2.1.frames) (hlo : 8 + (M1.2.2.1 + 11) + R1.locals ≤ K.2.1.locals) (hR : R1.cells = 0 ∧ R1.slots = 0) (hcn : RX6 = M1.1.cls)
    (k : EV K a b [wO q1 q2 q3 q4 q5 q6 (a 1) z, eI 2 12 ln] n ls (v :: rest)) : EV K a b [wO q1 q2 q3 q4 q5 q6 (a 1) z, eI 2 12 ln] pc ls st := by
  subst hq
  exact e_cV0 [0, 1] hw hh d hn hM hst hlen hcat hfr hlo hR rfl rfl (i := 0) rfl rfl rfl hcn k
end EVL
/-- whatever a change answers: it was made, or the flock is as it was -/
def sAft (F : eFs) (k p q r : Int) (F' : eFs) : Prop := (sHin F k p q r = 0 ∧ F' = sDo F k p q r) ∨ (¬ sHin F k p q r = 0 ∧ F' = F)
abbrev cMu (a : Nat → Nat) (q1 q2 q3 q4 q5 : Nat) (F : eFs) (z : Nat → Int) (P : Int → Int) (c n : Int) (h : eHs) : List eE := wMu a q1 q2 q3 q4 q5 z F P c n h
def qMu (a : Nat → Nat) (q1 q2 q3 q4 q5 : Nat) (F : eFs) (k p q r : Int) : ePo := fun o a1 cs1 => a1 = a ∧ (∃ v : Int, o = .inl (some (vi v))) ∧ ∃ (F' : eFs) (z' : Nat → Int) (P' : Int → Int) (c' n' : Int) (h' : eHs), cs1 = wMu a q1 q2 q3 q4 q5 z' F' P' c' n' h' ∧ sAft F k p q r F' ∧ okZ z' ∧ (0 ≤ c' ∧ c' ≤ 8) ∧ (0 ≤ n' ∧ n' ≤ 7)
section EVL2
variable {K : eK} {a : Nat → Nat} {b b' : Nat × Nat} {pc n : Nat} {ls : List (Option Value)} {st rest av : List Value} {M1 : mE} {R1 : Room} {F : eFs} {u : eUs} {t : List eE}
theorem e_mut {idx nA : Nat} {k p q r : Int} (hw : eLkS K.1.1.cls idx M1 nA) (hh : M1.2.2.2.2 ≠ []) (d : decode K.1.2.1 pc = .ok (.invokestatic idx, 3)) (hn : pc + 3 = n)
    (hM : EM (K.2.2.2.1, none) M1 R1 (fun k => a (eR rMu k)) av (wMu (fun k => a (eR rMu k)) (a 11) (a 21) (a 113) (a 116) (a 130) u.1 F u.2.2.1 u.2.2.2.1.1 u.2.2.2.1.2 u.2.2.2.2.1) (qMu (fun k => a (eR rMu k)) (a 11) (a 21) (a 113) (a 116) (a 130) F k p q r)) (hst : st = av.reverse ++ rest) (hlen : av.length = nA) (hcat : (rest.map fun v => v.category).sum ≤ 8)
    (hfr : R1.frames + 1 ≤ K.2.1.frames) (hlo : 8 + (M1.2.2.1 + 11) + R1.locals ≤ K.2.1.locals) (b' : Nat × Nat) (hR : R1.cells + b'.1 ≤ b.1 ∧ R1.slots + b'.2 ≤ b.2)
    (hu : okU u) (kk : ∀ (v : Int) (F' : eFs) (u' : eUs), okU u' → sAft F k p q r F' → EV K a b' (wB a F' u' t) n ls (vi v :: rest)) : EV K a b (wB a F u t) pc ls st := by
  have hsel : rMu.map (fun i => (wB a F u t)[i]?) = (wMu (fun k => a (eR rMu k)) (a 11) (a 21) (a 113) (a 116) (a 130) u.1 F u.2.2.1 u.2.2.2.1.1 u.2.2.2.1.2 u.2.2.2.2.1).map some := rfl
  refine e_invSH hw hh d hn hM hst hlen hcat hfr hlo b' hR hsel rfl (fun o a1 cs1 h => ?_) (fun w a1 cs1 h => ?_) (fun E a1 cs1 h => ?_)
  · obtain ⟨h1, -, F', z', P', c', n', h', h2, -⟩ := h
    subst h1; subst h2
    exact ⟨fun k _ => rfl, Nat.le_refl 93⟩
  · obtain ⟨h1, ⟨v, h2⟩, F', z', P', c', n', h', h3, h4, h5, h6, h7⟩ := h
    cases h2; subst h1; subst h3
    refine EV.drop (a1 := fun k => a (eR rMu k)) (Nat.le_refl 93) (EV.ceq ?_ (kk v F' (z', u.2.1, P', (c', n'), h', u.2.2.2.2.2) ⟨h5, hu.2.1, ⟨h6, h7⟩, hu.2.2.2⟩ h4))
    exact gOFH (t := t) (O' := [wO (a 1) (a 11) (a 21) (a 31) (a 113) (a 116) (a 130) z']) (F' := wFl (fun k => a (1 + k)) F' P') (H' := wHi (fun k => a (31 + k)) c' n' h') rfl rfl rfl rfl rfl rfl rfl rfl rfl rfl rfl
  · obtain ⟨-, ⟨v, h2⟩, -⟩ := h
    cases h2
end EVL2
