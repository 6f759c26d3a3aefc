/-! ===== EV: outcomes of methods that may throw; calls over the whole world ===== -/
/-- an exception with the world csx, or the answer v with the world cs' -/
def eOut (E : Option String) (v : Option Value) (a : Nat → Nat) (csx cs' : List eE) : ePo := fun o a1 cs1 => a1 = a ∧ match E with
  | none => o = .inl v ∧ cs1 = cs'
  | some e => o = .inr e ∧ cs1 = csx
theorem eOut_r {E : Option String} {v w : Option Value} {a : Nat → Nat} {csx cs' cs1 : List eE} (h : E = none) (hv : w = v) (hc : cs1 = cs') : eOut E v a csx cs' (.inl w) a cs1 := by
  subst h; exact ⟨rfl, by rw [hv], hc⟩
theorem eOut_t {E : Option String} {v : Option Value} {a : Nat → Nat} {csx cs' cs1 : List eE} {e : String} (h : E = some e) (hc : cs1 = csx) : eOut E v a csx cs' (.inr e) a cs1 := by
  subst h; exact ⟨rfl, rfl, hc⟩
theorem eIf_n {c : Prop} [Decidable c] {e : String} {x : Option String} (h : (if c then x else some e) = none) : c ∧ x = none := by
  by_cases hc : c
  · rw [if_pos hc] at h; exact ⟨hc, h⟩
  · rw [if_neg hc] at h; cases h
theorem eIf_k {c : Prop} [Decidable c] {e e1 : String} {x : Option String} (h : (if c then none else some e1) = some e) : (if c then x else some e1) = some e := by
  by_cases hc : c
  · rw [if_pos hc] at h; cases h
  · rw [if_neg hc] at h ⊢; exact h
theorem EM.cong {X : eXT} {M : mE} {R : Room} {a a' : Nat → Nat} {av : List Value} {cs : List eE} {Q : ePo} (h : ∀ k, k < cs.length → a' k = a k) (k : EM X M R a av cs Q) : EM X M R a' av cs Q := by
  intro l G sz hl hX
  have e : eW G a' cs = eW G a cs := eW_cong h
  rw [e]
  exact k l G sz hl hX
theorem eR_rng {n k : Nat} (h : k < n) : eR (List.range n) k = k := by
  simp [eR, List.getD, h]
theorem eMrg_rng {cs cs1 : List eE} (h : cs1.length = cs.length) : eMrg cs (List.range cs.length) cs1 = cs1 := by
  have hnd : va_nd (List.range cs.length) = true := by
    have key : ∀ l : List Nat, l.Nodup → va_nd l = true := by
      intro l
      induction l with
      | nil => intro _; rfl
      | cons x t ih =>
        intro hn
        simp only [va_nd, Bool.and_eq_true, decide_eq_true_eq]
        exact ⟨(List.nodup_cons.mp hn).1, ih (List.nodup_cons.mp hn).2⟩
    exact key _ List.nodup_range
  apply List.ext_getElem?
  intro k
  by_cases hk : k < cs.length
  · rw [eMrg_in (c := cs1[k]) _ cs1 k hnd (by simp [hk]) (List.getElem?_eq_getElem (by omega)) hk, List.getElem?_eq_getElem (by omega)]
  · rw [List.getElem?_eq_none (by rw [eMrg_len]; omega), List.getElem?_eq_none (by omega)]
section EVW
variable {K : eK} {a : Nat → Nat} {b b' : Nat × Nat} {cs cs0 cs1 cs' csx csX : List eE} {pc n : Nat} {ls : List (Option Value)} {st rest av : List Value} {M1 : mE} {R1 : Room} {Q1 : ePo} {v : Value} {w : Option Value} {E : Option String}
/-- the callee may throw -/
theorem e_cVo (ρ : List Nat) {idx nA i ci q : Nat} {fs : List Value} {r : vw_C} (hw : eLkV K.1.1.cls idx M1 nA) (hh : M1.2.2.2.2 = []) (d : decode K.1.2.1 pc = .ok (.invokevirtual idx, 3)) (hn : pc + 3 = n)
    (hM : EM (K.2.2.2.1, none) M1 R1 (fun k => a (eR ρ k)) (.ref q :: av) cs0 (eOut E w (fun k => a (eR ρ k)) csx cs1)) (hst : st = av.reverse ++ .ref q :: rest) (hlen : av.length = nA) (hcat : (rest.map fun v => v.category).sum ≤ 8)
    (hfr : R1.frames + 1 ≤ K.2.1.frames) (hlo : 8 + (M1.2.2.1 + 11) + R1.locals ≤ K.2.1.locals) (hR : R1.cells + b'.1 ≤ b.1 ∧ R1.slots + b'.2 ≤ b.2)
    (hsel : ρ.map (fun i => cs[i]?) = cs0.map some) (hnd : va_nd ρ = true) (hq : q = a i) (hci : cs[i]? = some (.inr (ci, fs))) (hcl : eCl[ci]? = some r) (hcn : r.1 = M1.1.cls)
    (hS : cs1.length = ρ.length) (hSx : csx.length = ρ.length) (hc : eMrg cs ρ cs1 = cs') (hcx : eMrg cs ρ csx = csX) (k : E = none → EV K a b' cs' n ls (w.toList ++ rest)) (kx : ∀ e, E = some e → EX K a b' csX pc ls e) : EV K a b cs pc ls st :=
  e_cV ρ (b' := b') hw hh d hn hM hst hlen hcat hfr hlo hR hsel hnd hq hci hcl hcn
    (fun o a1 cs2 h => ⟨h.1, by
      have h2 := h.2
      cases E with
      | none => rw [h2.2]; exact hS
      | some e => rw [h2.2]; exact hSx⟩)
    (fun w cs2 h => by
      have h2 := h.2
      cases E with
      | none => cases h2.1; rw [h2.2, hc]; exact k rfl
      | some e => cases h2.1)
    (fun e cs2 h => by
      have h2 := h.2
      cases E with
      | none => cases h2.1
      | some e => cases h2.1; rw [h2.2, hcx]; exact kx _ rfl)
theorem e_cSo (ρ : List Nat) {idx nA : Nat} (hw : eLkS K.1.1.cls idx M1 nA) (hh : M1.2.2.2.2 = []) (d : decode K.1.2.1 pc = .ok (.invokestatic idx, 3)) (hn : pc + 3 = n)
    (hM : EM (K.2.2.2.1, none) M1 R1 (fun k => a (eR ρ k)) av cs0 (eOut E w (fun k => a (eR ρ k)) csx cs1)) (hst : st = av.reverse ++ rest) (hlen : av.length = nA) (hcat : (rest.map fun v => v.category).sum ≤ 8)
    (hfr : R1.frames + 1 ≤ K.2.1.frames) (hlo : 8 + (M1.2.2.1 + 11) + R1.locals ≤ K.2.1.locals) (hR : R1.cells + b'.1 ≤ b.1 ∧ R1.slots + b'.2 ≤ b.2)
    (hsel : ρ.map (fun i => cs[i]?) = cs0.map some) (hnd : va_nd ρ = true)
    (hS : cs1.length = ρ.length) (hSx : csx.length = ρ.length) (hc : eMrg cs ρ cs1 = cs') (hcx : eMrg cs ρ csx = csX) (k : E = none → EV K a b' cs' n ls (w.toList ++ rest)) (kx : ∀ e, E = some e → EX K a b' csX pc ls e) : EV K a b cs pc ls st :=
  e_cS ρ (b' := b') hw hh d hn hM hst hlen hcat hfr hlo hR hsel hnd
    (fun o a1 cs2 h => ⟨h.1, by
      have h2 := h.2
      cases E with
      | none => rw [h2.2]; exact hS
      | some e => rw [h2.2]; exact hSx⟩)
    (fun w cs2 h => by
      have h2 := h.2
      cases E with
      | none => cases h2.1; rw [h2.2, hc]; exact k rfl
      | some e => cases h2.1)
    (fun e cs2 h => by
      have h2 := h.2
      cases E with
      | none => cases h2.1
      | some e => cases h2.1; rw [h2.2, hcx]; exact kx _ rfl)
/-- over the whole world -/
theorem e_cVwo {idx nA i ci q : Nat} {fs : List Value} {r : vw_C} (hw : eLkV K.1.1.cls idx M1 nA) (hh : M1.2.2.2.2 = []) (d : decode K.1.2.1 pc = .ok (.invokevirtual idx, 3)) (hn : pc + 3 = n)
    (hM : EM (K.2.2.2.1, none) M1 R1 a (.ref q :: av) cs (eOut E w a csx cs')) (hst : st = av.reverse ++ .ref q :: rest) (hlen : av.length = nA) (hcat : (rest.map fun v => v.category).sum ≤ 8)
    (hfr : R1.frames + 1 ≤ K.2.1.frames) (hlo : 8 + (M1.2.2.1 + 11) + R1.locals ≤ K.2.1.locals) (hR : R1.cells + b'.1 ≤ b.1 ∧ R1.slots + b'.2 ≤ b.2)
    (hq : q = a i) (hci : cs[i]? = some (.inr (ci, fs))) (hcl : eCl[ci]? = some r) (hcn : r.1 = M1.1.cls)
    {m : Nat} (hl0 : cs.length = m) (hl1 : cs'.length = m) (hlx : csx.length = m) (k : E = none → EV K a b' cs' n ls (w.toList ++ rest)) (kx : ∀ e, E = some e → EX K a b' csx pc ls e) : EV K a b cs pc ls st := by
  have hnd : va_nd (List.range cs.length) = true := by
    have key : ∀ l : List Nat, l.Nodup → va_nd l = true := by
      intro l
      induction l with
      | nil => intro _; rfl
      | cons x t ih =>
        intro hn
        simp only [va_nd, Bool.and_eq_true, decide_eq_true_eq]
        exact ⟨(List.nodup_cons.mp hn).1, ih (List.nodup_cons.mp hn).2⟩
    exact key _ List.nodup_range
  have hsel : (List.range cs.length).map (fun i => cs[i]?) = cs.map some := by
    apply List.ext_getElem?
    intro k
    rw [List.getElem?_map, List.getElem?_map]
    by_cases hk : k < cs.length
    · simp [hk]
    · simp [Nat.not_lt.mp hk]
  refine e_invV (ρ := List.range cs.length) hw hh d hn (EM.cong (fun k hk => by rw [eR_rng hk]) hM) hst hlen hcat hfr hlo b' hR hsel hnd hq hci hcl hcn (fun o a1 cs1 h => ⟨fun k hk => ?_, ?_⟩) (fun v a1 cs1 h => ?_) (fun e a1 cs1 h => ?_)
  · rw [h.1, eR_rng (by rw [List.length_range] at hk; exact hk)]
  · rw [List.length_range, hl0]
    have h2 := h.2
    cases E with
    | none => rw [h2.2]; omega
    | some e => rw [h2.2]; omega
  · have h2 := h.2
    have h1 := h.1
    subst h1
    cases E with
    | none =>
      have e1 := h2.1
      have e2 := h2.2
      subst e2
      cases e1
      refine EV.drop (a1 := a1) (by rw [List.length_range]; omega) ?_
      rw [eMrg_rng (by omega)]
      exact k rfl
    | some e => cases h2.1
  · have h2 := h.2
    have h1 := h.1
    subst h1
    cases E with
    | none => cases h2.1
    | some e =>
      have e1 := h2.1
      have e2 := h2.2
      subst e2
      cases e1
      refine EX.drop (a1 := a1) (by rw [List.length_range]; omega) ?_
      rw [eMrg_rng (by omega)]
      exact kx _ rfl
end EVW
/-! ===== BasketFlock: its own numbers, the throwers ===== -/
/-- 0 error position, 1 failed command, 2 reason, 3 detail, 4 line's length, 5 is there a snapshot -/
def wO (n d s h f t l : Nat) (z : Nat → Int) : eE := .inr (6, [.ref n, .ref d, .ref s, vb (z 5 = 1), .ref h, .ref f, .ref t, vi (z 0), vi (z 1), vi (z 2), vi (z 3), .ref l, vi (z 4)])
def zS (z : Nat → Int) (k : Nat) (v : Int) : Nat → Int := fun j => if j = k then v else z j
abbrev xIx : String := "java/lang/IndexOutOfBoundsException"
abbrev xAr : String := "java/lang/IllegalArgumentException"
abbrev xSt : String := "java/lang/IllegalStateException"
abbrev xNo : String := "java/util/NoSuchElementException"
abbrev xUn : String := "java/lang/UnsupportedOperationException"
abbrev xMa : String := "java/lang/ArithmeticException"
def eEx (h : Int) : Option String := if h = 1 then some xIx else if h = 2 then some xAr else if h = 3 then some xSt else if h = 4 then some xNo else if h = 5 then some xUn else if h = 6 then some xUn else none
abbrev okZ (z : Nat → Int) : Prop := (-1 ≤ z 0 ∧ z 0 ≤ 60) ∧ (-1 ≤ z 1 ∧ z 1 ≤ 10) ∧ (-1 ≤ z 2 ∧ z 2 ≤ 2) ∧ (-1 ≤ z 3 ∧ z 3 ≤ 10) ∧ (z 4 = 0 ∨ z 4 = 12)
