/-! ===== EV: rooms, outcomes, the rules of calls in the forms that the bodies use ===== -/
def eRm (d : Nat) : Room := ⟨d, 0, 0, 60 * d⟩
def eRt (d k : Nat) : Room := ⟨d, k, 6 * k, 60 * d⟩
def eRet (v : Option Value) (a : Nat → Nat) (cs : List eE) : ePo := fun o a1 cs1 => o = .inl v ∧ a1 = a ∧ cs1 = cs
def eRets (v : Option Value) (a : Nat → Nat) (S : List eE → Prop) : ePo := fun o a1 cs1 => o = .inl v ∧ a1 = a ∧ S cs1
/-- E is thrown where c holds, else v is the answer -/
def eTry (c : Prop) [Decidable c] (E : String) (v : Option Value) (a : Nat → Nat) (cs cs' : List eE) : ePo := fun o a1 cs1 => a1 = a ∧ if c then o = .inr E ∧ cs1 = cs else o = .inl v ∧ cs1 = cs'
theorem eTry_t {c : Prop} [Decidable c] {E : String} {v : Option Value} {a : Nat → Nat} {cs cs1 cs' : List eE} (h : c) (hc : cs1 = cs) : eTry c E v a cs cs' (.inr E) a cs1 := ⟨rfl, by rw [if_pos h]; exact ⟨rfl, hc⟩⟩
theorem eTry_r {c : Prop} [Decidable c] {E : String} {v w : Option Value} {a : Nat → Nat} {cs cs1 cs' : List eE} (h : ¬ c) (hv : w = v) (hc : cs1 = cs') : eTry c E v a cs cs' (.inl w) a cs1 := ⟨rfl, by rw [if_neg h, hv]; exact ⟨rfl, hc⟩⟩
theorem eRet_i {z w : Int} {a : Nat → Nat} {cs cs' : List eE} (h : z = w) (hc : cs' = cs) : eRet (some (vi w)) a cs (.inl (some (vi z))) a cs' := by subst h; subst hc; exact ⟨rfl, rfl, rfl⟩
theorem eRet_l {z w : Int} {a : Nat → Nat} {cs cs' : List eE} (h : z = w) (hc : cs' = cs) : eRet (some (vl w)) a cs (.inl (some (vl z))) a cs' := by subst h; subst hc; exact ⟨rfl, rfl, rfl⟩
theorem eRet_t {c : Prop} [Decidable c] {a : Nat → Nat} {cs cs' : List eE} (h : c) (hc : cs' = cs) : eRet (some (vb c)) a cs (.inl (some (vi 1))) a cs' := by subst hc; exact ⟨by rw [vb, if_pos h], rfl, rfl⟩
theorem eRet_f {c : Prop} [Decidable c] {a : Nat → Nat} {cs cs' : List eE} (h : ¬ c) (hc : cs' = cs) : eRet (some (vb c)) a cs (.inl (some (vi 0))) a cs' := by subst hc; exact ⟨by rw [vb, if_neg h], rfl, rfl⟩
theorem eRet_b {c d : Prop} [Decidable c] [Decidable d] {a : Nat → Nat} {cs cs' : List eE} (h : d ↔ c) (hc : cs' = cs) : eRet (some (vb c)) a cs (.inl (some (vb d))) a cs' := by subst hc; exact ⟨by by_cases hd : d <;> simp [hd, ← h, vb], rfl, rfl⟩
theorem eRet_v {a : Nat → Nat} {cs cs' : List eE} (hc : cs' = cs) : eRet none a cs (.inl none) a cs' := by subst hc; exact ⟨rfl, rfl, rfl⟩
theorem eNarB {c : Prop} [Decidable c] : narrow .boolean (vb c) = vb c := by by_cases h : c <;> simp [vb, h] <;> decide
theorem eFitB {c : Prop} [Decidable c] : fits .boolean (vb c) = true := by by_cases h : c <;> simp [vb, h] <;> decide
theorem vb_cong {c d : Prop} [Decidable c] [Decidable d] (h : c ↔ d) : vb c = vb d := by by_cases hd : d <;> simp [vb, hd, h]
theorem eMrg_same {cs : List eE} : ∀ (ρ : List Nat) (cs0 : List eE), ρ.map (fun i => cs[i]?) = cs0.map some → eMrg cs ρ cs0 = cs
  | [], _, _ => by cases ‹List eE› <;> rfl
  | _ :: _, [], h => by simp at h
  | r :: ρ, c :: cs0, h => by
    simp only [List.map_cons, List.cons.injEq] at h
    simp only [eMrg]
    rw [eMrg_same ρ cs0 h.2]
    apply List.ext_getElem?
    intro k
    rw [List.getElem?_set]
    by_cases hk : r = k
    · subst hk
      by_cases hl : r < cs.length
      · rw [if_pos rfl, if_pos hl]; exact h.1.symm
      · have := List.getElem?_eq_none (Nat.not_lt.mp hl)
        rw [this] at h
        cases h.1
    · simp [hk]
theorem EV.ceq {K : eK} {a : Nat → Nat} {b : Nat × Nat} {cs cs' : List eE} {pc : Nat} {ls : List (Option Value)} {st : List Value} (h : cs = cs') (k : EV K a b cs' pc ls st) : EV K a b cs pc ls st := by rw [h]; exact k
theorem EV.leq {K : eK} {a : Nat → Nat} {b : Nat × Nat} {cs : List eE} {pc : Nat} {ls ls' : List (Option Value)} {st : List Value} (h : ls = ls') (k : EV K a b cs pc ls' st) : EV K a b cs pc ls st := by rw [h]; exact k
theorem EV.fgt {K : eK} {a : Nat → Nat} {b : Nat × Nat} {cs : List eE} {pc : Nat} {ls : List (Option Value)} {st : List Value} (i : Nat) (k : EV K a b cs pc (ls.set i none) st) : EV K a b cs pc ls st := by
  intro G A p l e s m args below meth c H locs cells slots lsA hX hL hP hD hS hcl hsl
  refine k G A p l e s m args below meth c H locs cells slots lsA hX ⟨hL.1, hL.2.1, fun j v h => ?_⟩ hP hD hS hcl hsl
  rw [List.getElem?_set] at h
  by_cases hj : i = j
  · rw [if_pos hj] at h
    split at h <;> cases h
  · rw [if_neg hj] at h
    exact hL.2.2 j v h
theorem EX.ceq {K : eK} {a : Nat → Nat} {b : Nat × Nat} {cs cs' : List eE} {pc : Nat} {ls : List (Option Value)} {E : String} (h : cs = cs') (k : EX K a b cs' pc ls E) : EX K a b cs pc ls E := by rw [h]; exact k
/-- a row's cell may be told by another function that agrees on the row -/
theorem eW_sim {G : eG} {a : Nat → Nat} {cs : List eE} {i : Nat} {c c' : eE} {H : Heap} {A : Nat → Prop} (hc : cs[i]? = some c) (hs : ∀ q, va_at G.1 eCl (q, eC G c) H → va_at G.1 eCl (q, eC G c') H) (hP : va_P G.1 eCl (eW G a cs) H) (hD : va_D A (eW G a cs)) :
    va_P G.1 eCl (eW G a (cs.set i c')) H ∧ va_D A (eW G a (cs.set i c')) := by
  have hl : i < cs.length := (List.getElem?_eq_some_iff.mp hc).1
  have key : ∀ (k : Nat) (x : eE), (cs.set i c')[k]? = some x → ∃ y, cs[k]? = some y ∧ (∀ q, va_at G.1 eCl (q, eC G y) H → va_at G.1 eCl (q, eC G x) H) := by
    intro k x hx
    rw [List.getElem?_set] at hx
    by_cases hk : i = k
    · subst hk
      rw [if_pos rfl, if_pos hl] at hx
      cases hx
      exact ⟨c, hc, hs⟩
    · rw [if_neg hk] at hx
      exact ⟨x, hx, fun q h => h⟩
  refine ⟨fun k q hq => ?_, ⟨fun i1 j x y hi hj hxy => ?_, fun k q hq => ?_⟩⟩
  · obtain ⟨x, hx, rfl⟩ := eW_in hq
    obtain ⟨y, hy, hs⟩ := key k x hx
    exact hs _ (hP k _ (eW_at hy))
  · obtain ⟨x1, hx1, rfl⟩ := eW_in hi
    obtain ⟨x2, hx2, rfl⟩ := eW_in hj
    obtain ⟨y1, hy1, -⟩ := key _ x1 hx1
    obtain ⟨y2, hy2, -⟩ := key _ x2 hx2
    exact hD.1 i1 j _ _ (eW_at hy1) (eW_at hy2) hxy
  · obtain ⟨x1, hx1, rfl⟩ := eW_in hq
    obtain ⟨y1, hy1, -⟩ := key _ x1 hx1
    exact hD.2 k (a k, eC G y1) (eW_at hy1)
theorem arrV_sim {cI : ClassId} {N : Nat} {f g : Nat → Value} (h : ∀ j, j < N → f j = g j) : arrV cI N f = arrV cI N g := by
  unfold arrV
  congr 1
  apply congrArg
  funext j
  exact h j.val j.isLt
theorem EV.sim {K : eK} {a : Nat → Nat} {b : Nat × Nat} {cs : List eE} {pc : Nat} {ls : List (Option Value)} {st : List Value} {i : Nat} {c c' : eE} (hc : cs[i]? = some c) (hs : ∀ (G : eG) (H : Heap) (q : Nat), va_at G.1 eCl (q, eC G c) H → va_at G.1 eCl (q, eC G c') H) (k : EV K a b (cs.set i c') pc ls st) : EV K a b cs pc ls st := by
  intro G A p l e s m args below meth c H locs cells slots lsA hX hL hP hD hS hcl hsl
  obtain ⟨h1, h2⟩ := eW_sim hc (hs G H) hP hD
  exact k G A p l e s m args below meth c H locs cells slots lsA hX hL h1 h2 hS hcl hsl
theorem eI_sim {t n : Nat} {x y : Int → Int} (h : ∀ z : Int, 0 ≤ z → z < n → x z = y z) (G : eG) (H : Heap) (q : Nat) : va_at G.1 eCl (q, eC G (eI t n x)) H → va_at G.1 eCl (q, eC G (eI t n y)) H := by
  intro hq
  have e : vp_cell (G.2 t) (n, .inl (fun j : Nat => Int32.ofInt (x (j : Int)))) = vp_cell (G.2 t) (n, .inl (fun j : Nat => Int32.ofInt (y (j : Int)))) := by
    rw [vp_cell_i, vp_cell_i]
    exact arrV_sim (fun j hj => by rw [h (j : Int) (by omega) (by omega)])
  show H[q]? = some _
  rw [← e]
  exact hq
theorem eJ_sim {t n : Nat} {x y : Int → Int} (h : ∀ z : Int, 0 ≤ z → z < n → x z = y z) (G : eG) (H : Heap) (q : Nat) : va_at G.1 eCl (q, eC G (eJ t n x)) H → va_at G.1 eCl (q, eC G (eJ t n y)) H := by
  intro hq
  have e : vp_cell (G.2 t) (n, .inr (.inl (fun j : Nat => Int64.ofInt (x (j : Int))))) = vp_cell (G.2 t) (n, .inr (.inl (fun j : Nat => Int64.ofInt (y (j : Int))))) := by
    rw [vp_cell_l, vp_cell_l]
    exact arrV_sim (fun j hj => by rw [h (j : Int) (by omega) (by omega)])
  show H[q]? = some _
  rw [← e]
  exact hq
theorem eCy_all {x y : Int → Int} {n : Int} (z : Int) (h0 : 0 ≤ z) (h1 : z < n) : eCy x y 0 0 n z = x z := by
  unfold eCy
  rw [if_pos (by omega)]
  congr 1
  omega
section EVK
variable {K : eK} {a : Nat → Nat} {b b' : Nat × Nat} {cs cs0 cs1 cs' : List eE} {pc n : Nat} {ls : List (Option Value)} {st rest av : List Value} {M1 : mE} {R1 : Room} {Q1 : ePo} {v : Value}
theorem EV.drop {ρ : List Nat} {a1 : Nat → Nat} (hlen : cs1.length ≤ ρ.length) (k : EV K a b (eMrg cs ρ cs1) pc ls st) : EV K (fun j => if j < cs.length then a j else a1 (ρ.length + (j - cs.length))) b (eMrg cs ρ cs1 ++ cs1.drop ρ.length) pc ls st := by
  rw [List.drop_eq_nil_of_le hlen, List.append_nil]
  exact EV.cong (fun k hk => if_pos (by rw [eMrg_len] at hk; exact hk)) k
theorem EX.drop {ρ : List Nat} {a1 : Nat → Nat} {E : String} (hlen : cs1.length ≤ ρ.length) (k : EX K a b (eMrg cs ρ cs1) pc ls E) : EX K (fun j => if j < cs.length then a j else a1 (ρ.length + (j - cs.length))) b (eMrg cs ρ cs1 ++ cs1.drop ρ.length) pc ls E := by
  rw [List.drop_eq_nil_of_le hlen, List.append_nil]
  exact EX.cong (fun k hk => if_pos (by rw [eMrg_len] at hk; exact hk)) k
theorem eR_len {ρ : List Nat} {k : Nat} (h : k < ρ.length) : eR ρ k = ρ[k] := by simp [eR, List.getD, List.getElem?_eq_getElem h]
/-- a call by invokevirtual of a method that makes no new cells that stay -/
theorem e_cV (ρ : List Nat) {idx nA i ci q : Nat} {fs : List Value} {r : vw_C} (hw : eLkV K.1.1.cls idx M1 nA) (hh : M1.2.2.2.2 = []) (d : decode K.1.2.1 pc = .ok (.invokevirtual idx, 3)) (hn : pc + 3 = n)
    (hM : EM (K.2.2.2.1, none) M1 R1 (fun k => a (eR ρ k)) (.ref q :: av) cs0 Q1) (hst : st = av.reverse ++ .ref q :: rest) (hlen : av.length = nA) (hcat : (rest.map fun v => v.category).sum ≤ 8)
    (hfr : R1.frames + 1 ≤ K.2.1.frames) (hlo : 8 + (M1.2.2.1 + 11) + R1.locals ≤ K.2.1.locals) (hR : R1.cells + b'.1 ≤ b.1 ∧ R1.slots + b'.2 ≤ b.2)
    (hsel : ρ.map (fun i => cs[i]?) = cs0.map some) (hnd : va_nd ρ = true) (hq : q = a i) (hci : cs[i]? = some (.inr (ci, fs))) (hcl : eCl[ci]? = some r) (hcn : r.1 = M1.1.cls)
    (hQ : ∀ o a1 cs1, Q1 o a1 cs1 → a1 = (fun k => a (eR ρ k)) ∧ cs1.length = ρ.length)
    (kr : ∀ v cs1, Q1 (.inl v) (fun k => a (eR ρ k)) cs1 → EV K a b' (eMrg cs ρ cs1) n ls (v.toList ++ rest))
    (kx : ∀ E cs1, Q1 (.inr E) (fun k => a (eR ρ k)) cs1 → EX K a b' (eMrg cs ρ cs1) pc ls E) : EV K a b cs pc ls st :=
  e_invV hw hh d hn hM hst hlen hcat hfr hlo b' hR hsel hnd hq hci hcl hcn
    (fun o a1 cs1 h => by obtain ⟨h1, h2⟩ := hQ o a1 cs1 h; subst h1; exact ⟨fun k _ => rfl, Nat.le_of_eq h2.symm⟩)
    (fun v a1 cs1 h => by obtain ⟨h1, h2⟩ := hQ _ a1 cs1 h; subst h1; exact EV.drop (a1 := fun k => a (eR ρ k)) (Nat.le_of_eq h2) (kr v cs1 h))
    (fun E a1 cs1 h => by obtain ⟨h1, h2⟩ := hQ _ a1 cs1 h; subst h1; exact EX.drop (a1 := fun k => a (eR ρ k)) (Nat.le_of_eq h2) (kx E cs1 h))
theorem e_cS (ρ : List Nat) {idx nA : Nat} (hw : eLkS K.1.1.cls idx M1 nA) (hh : M1.2.2.2.2 = []) (d : decode K.1.2.1 pc = .ok (.invokestatic idx, 3)) (hn : pc + 3 = n)
    (hM : EM (K.2.2.2.1, none) M1 R1 (fun k => a (eR ρ k)) av cs0 Q1) (hst : st = av.reverse ++ rest) (hlen : av.length = nA) (hcat : (rest.map fun v => v.category).sum ≤ 8)
    (hfr : R1.frames + 1 ≤ K.2.1.frames) (hlo : 8 + (M1.2.2.1 + 11) + R1.locals ≤ K.2.1.locals) (hR : R1.cells + b'.1 ≤ b.1 ∧ R1.slots + b'.2 ≤ b.2)
    (hsel : ρ.map (fun i => cs[i]?) = cs0.map some) (hnd : va_nd ρ = true)
    (hQ : ∀ o a1 cs1, Q1 o a1 cs1 → a1 = (fun k => a (eR ρ k)) ∧ cs1.length = ρ.length)
    (kr : ∀ v cs1, Q1 (.inl v) (fun k => a (eR ρ k)) cs1 → EV K a b' (eMrg cs ρ cs1) n ls (v.toList ++ rest))
    (kx : ∀ E cs1, Q1 (.inr E) (fun k => a (eR ρ k)) cs1 → EX K a b' (eMrg cs ρ cs1) pc ls E) : EV K a b cs pc ls st :=
  e_invS hw hh d hn hM hst hlen hcat hfr hlo b' hR hsel hnd
    (fun o a1 cs1 h => by obtain ⟨h1, h2⟩ := hQ o a1 cs1 h; subst h1; exact ⟨fun k _ => rfl, Nat.le_of_eq h2.symm⟩)
    (fun v a1 cs1 h => by obtain ⟨h1, h2⟩ := hQ _ a1 cs1 h; subst h1; exact EV.drop (a1 := fun k => a (eR ρ k)) (Nat.le_of_eq h2) (kr v cs1 h))
    (fun E a1 cs1 h => by obtain ⟨h1, h2⟩ := hQ _ a1 cs1 h; subst h1; exact EX.drop (a1 := fun k => a (eR ρ k)) (Nat.le_of_eq h2) (kx E cs1 h))
theorem eSame {ρ : List Nat} {w : Option Value} {c0 : List eE} (hl : c0.length = ρ.length) (o : Option Value ⊕ String) (a1 : Nat → Nat) (cs1 : List eE) (h : eRet w (fun k => a (eR ρ k)) c0 o a1 cs1) : a1 = (fun k => a (eR ρ k)) ∧ cs1.length = ρ.length := ⟨h.2.1, by rw [h.2.2]; exact hl⟩
theorem eSel_l {ρ : List Nat} (hsel : ρ.map (fun i => cs[i]?) = cs0.map some) : cs0.length = ρ.length := by have := congrArg List.length hsel; simpa using this.symm
/-- the callee answers v and leaves the cells as they are -/
theorem e_cV0 (ρ : List Nat) {idx nA i ci q : Nat} {fs : List Value} {r : vw_C} (hw : eLkV K.1.1.cls idx M1 nA) (hh : M1.2.2.2.2 = []) (d : decode K.1.2.1 pc = .ok (.invokevirtual idx, 3)) (hn : pc + 3 = n)
    (hM : EM (K.2.2.2.1, none) M1 R1 (fun k => a (eR ρ k)) (.ref q :: av) cs0 (eRet (some v) (fun k => a (eR ρ k)) cs0)) (hst : st = av.reverse ++ .ref q :: rest) (hlen : av.length = nA) (hcat : (rest.map fun v => v.category).sum ≤ 8)
    (hfr : R1.frames + 1 ≤ K.2.1.frames) (hlo : 8 + (M1.2.2.1 + 11) + R1.locals ≤ K.2.1.locals) (hR : R1.cells = 0 ∧ R1.slots = 0)
    (hsel : ρ.map (fun i => cs[i]?) = cs0.map some) (hnd : va_nd ρ = true) (hq : q = a i) (hci : cs[i]? = some (.inr (ci, fs))) (hcl : eCl[ci]? = some r) (hcn : r.1 = M1.1.cls)
    (k : EV K a b cs n ls (v :: rest)) : EV K a b cs pc ls st :=
  e_cV ρ (b' := b) hw hh d hn hM hst hlen hcat hfr hlo ⟨by omega, by omega⟩ hsel hnd hq hci hcl hcn (eSame (eSel_l hsel))
    (fun w cs1 h => by obtain ⟨h1, -, h3⟩ := h; cases h1; rw [h3, eMrg_same ρ cs0 hsel]; exact k) (fun E cs1 h => by cases h.1)
theorem e_cS0 (ρ : List Nat) {idx nA : Nat} (hw : eLkS K.1.1.cls idx M1 nA) (hh : M1.2.2.2.2 = []) (d : decode K.1.2.1 pc = .ok (.invokestatic idx, 3)) (hn : pc + 3 = n)
    (hM : EM (K.2.2.2.1, none) M1 R1 (fun k => a (eR ρ k)) av cs0 (eRet (some v) (fun k => a (eR ρ k)) cs0)) (hst : st = av.reverse ++ rest) (hlen : av.length = nA) (hcat : (rest.map fun v => v.category).sum ≤ 8)
    (hfr : R1.frames + 1 ≤ K.2.1.frames) (hlo : 8 + (M1.2.2.1 + 11) + R1.locals ≤ K.2.1.locals) (hR : R1.cells = 0 ∧ R1.slots = 0)
    (hsel : ρ.map (fun i => cs[i]?) = cs0.map some) (hnd : va_nd ρ = true) (k : EV K a b cs n ls (v :: rest)) : EV K a b cs pc ls st :=
  e_cS ρ (b' := b) hw hh d hn hM hst hlen hcat hfr hlo ⟨by omega, by omega⟩ hsel hnd (eSame (eSel_l hsel))
    (fun w cs1 h => by obtain ⟨h1, -, h3⟩ := h; cases h1; rw [h3, eMrg_same ρ cs0 hsel]; exact k) (fun E cs1 h => by cases h.1)
/-- the callee answers and leaves cs1 -/
theorem e_cV2 (ρ : List Nat) {idx nA i ci q : Nat} {fs : List Value} {r : vw_C} {w : Option Value} (hw : eLkV K.1.1.cls idx M1 nA) (hh : M1.2.2.2.2 = []) (d : decode K.1.2.1 pc = .ok (.invokevirtual idx, 3)) (hn : pc + 3 = n)
    (hM : EM (K.2.2.2.1, none) M1 R1 (fun k => a (eR ρ k)) (.ref q :: av) cs0 (eRet w (fun k => a (eR ρ k)) cs1)) (hst : st = av.reverse ++ .ref q :: rest) (hlen : av.length = nA) (hcat : (rest.map fun v => v.category).sum ≤ 8)
    (hfr : R1.frames + 1 ≤ K.2.1.frames) (hlo : 8 + (M1.2.2.1 + 11) + R1.locals ≤ K.2.1.locals) (hR : R1.cells = 0 ∧ R1.slots = 0)
    (hsel : ρ.map (fun i => cs[i]?) = cs0.map some) (hnd : va_nd ρ = true) (hq : q = a i) (hci : cs[i]? = some (.inr (ci, fs))) (hcl : eCl[ci]? = some r) (hcn : r.1 = M1.1.cls)
    (hS : cs1.length = ρ.length) (hc : eMrg cs ρ cs1 = cs') (k : EV K a b cs' n ls (w.toList ++ rest)) : EV K a b cs pc ls st :=
  e_cV ρ (b' := b) hw hh d hn hM hst hlen hcat hfr hlo ⟨by omega, by omega⟩ hsel hnd hq hci hcl hcn (eSame hS)
    (fun w cs1 h => by obtain ⟨h1, -, h3⟩ := h; cases h1; rw [h3, hc]; exact k) (fun E cs1 h => by cases h.1)
theorem e_cS2 (ρ : List Nat) {idx nA : Nat} {w : Option Value} (hw : eLkS K.1.1.cls idx M1 nA) (hh : M1.2.2.2.2 = []) (d : decode K.1.2.1 pc = .ok (.invokestatic idx, 3)) (hn : pc + 3 = n)
    (hM : EM (K.2.2.2.1, none) M1 R1 (fun k => a (eR ρ k)) av cs0 (eRet w (fun k => a (eR ρ k)) cs1)) (hst : st = av.reverse ++ rest) (hlen : av.length = nA) (hcat : (rest.map fun v => v.category).sum ≤ 8)
    (hfr : R1.frames + 1 ≤ K.2.1.frames) (hlo : 8 + (M1.2.2.1 + 11) + R1.locals ≤ K.2.1.locals) (hR : R1.cells = 0 ∧ R1.slots = 0)
    (hsel : ρ.map (fun i => cs[i]?) = cs0.map some) (hnd : va_nd ρ = true)
    (hS : cs1.length = ρ.length) (hc : eMrg cs ρ cs1 = cs') (k : EV K a b cs' n ls (w.toList ++ rest)) : EV K a b cs pc ls st :=
  e_cS ρ (b' := b) hw hh d hn hM hst hlen hcat hfr hlo ⟨by omega, by omega⟩ hsel hnd (eSame hS)
    (fun w cs1 h => by obtain ⟨h1, -, h3⟩ := h; cases h1; rw [h3, hc]; exact k) (fun E cs1 h => by cases h.1)
/-- the callee answers and leaves cells of which S is known -/
theorem e_cV1 (ρ : List Nat) {idx nA i ci q : Nat} {fs : List Value} {r : vw_C} {w : Option Value} {S : List eE → Prop} (hw : eLkV K.1.1.cls idx M1 nA) (hh : M1.2.2.2.2 = []) (d : decode K.1.2.1 pc = .ok (.invokevirtual idx, 3)) (hn : pc + 3 = n)
    (hM : EM (K.2.2.2.1, none) M1 R1 (fun k => a (eR ρ k)) (.ref q :: av) cs0 (eRets w (fun k => a (eR ρ k)) S)) (hst : st = av.reverse ++ .ref q :: rest) (hlen : av.length = nA) (hcat : (rest.map fun v => v.category).sum ≤ 8)
    (hfr : R1.frames + 1 ≤ K.2.1.frames) (hlo : 8 + (M1.2.2.1 + 11) + R1.locals ≤ K.2.1.locals) (hR : R1.cells = 0 ∧ R1.slots = 0)
    (hsel : ρ.map (fun i => cs[i]?) = cs0.map some) (hnd : va_nd ρ = true) (hq : q = a i) (hci : cs[i]? = some (.inr (ci, fs))) (hcl : eCl[ci]? = some r) (hcn : r.1 = M1.1.cls)
    (hS : ∀ cs1, S cs1 → cs1.length = ρ.length) (k : ∀ cs1, S cs1 → EV K a b (eMrg cs ρ cs1) n ls (w.toList ++ rest)) : EV K a b cs pc ls st :=
  e_cV ρ (b' := b) hw hh d hn hM hst hlen hcat hfr hlo ⟨by omega, by omega⟩ hsel hnd hq hci hcl hcn (fun o a1 cs1 h => ⟨h.2.1, hS cs1 h.2.2⟩)
    (fun w cs1 h => by obtain ⟨h1, -, h3⟩ := h; cases h1; exact k cs1 h3) (fun E cs1 h => by cases h.1)
theorem e_cS1 (ρ : List Nat) {idx nA : Nat} {w : Option Value} {S : List eE → Prop} (hw : eLkS K.1.1.cls idx M1 nA) (hh : M1.2.2.2.2 = []) (d : decode K.1.2.1 pc = .ok (.invokestatic idx, 3)) (hn : pc + 3 = n)
    (hM : EM (K.2.2.2.1, none) M1 R1 (fun k => a (eR ρ k)) av cs0 (eRets w (fun k => a (eR ρ k)) S)) (hst : st = av.reverse ++ rest) (hlen : av.length = nA) (hcat : (rest.map fun v => v.category).sum ≤ 8)
    (hfr : R1.frames + 1 ≤ K.2.1.frames) (hlo : 8 + (M1.2.2.1 + 11) + R1.locals ≤ K.2.1.locals) (hR : R1.cells = 0 ∧ R1.slots = 0)
    (hsel : ρ.map (fun i => cs[i]?) = cs0.map some) (hnd : va_nd ρ = true)
    (hS : ∀ cs1, S cs1 → cs1.length = ρ.length) (k : ∀ cs1, S cs1 → EV K a b (eMrg cs ρ cs1) n ls (w.toList ++ rest)) : EV K a b cs pc ls st :=
  e_cS ρ (b' := b) hw hh d hn hM hst hlen hcat hfr hlo ⟨by omega, by omega⟩ hsel hnd (fun o a1 cs1 h => ⟨h.2.1, hS cs1 h.2.2⟩)
    (fun w cs1 h => by obtain ⟨h1, -, h3⟩ := h; cases h1; exact k cs1 h3) (fun E cs1 h => by cases h.1)
/-- the callee may throw -/
theorem e_cVt (ρ : List Nat) {idx nA i ci q : Nat} {fs : List Value} {r : vw_C} {w : Option Value} {c : Prop} [Decidable c] {E : String} (hw : eLkV K.1.1.cls idx M1 nA) (hh : M1.2.2.2.2 = []) (d : decode K.1.2.1 pc = .ok (.invokevirtual idx, 3)) (hn : pc + 3 = n)
    (hM : EM (K.2.2.2.1, none) M1 R1 (fun k => a (eR ρ k)) (.ref q :: av) cs0 (eTry c E w (fun k => a (eR ρ k)) cs0 cs1)) (hst : st = av.reverse ++ .ref q :: rest) (hlen : av.length = nA) (hcat : (rest.map fun v => v.category).sum ≤ 8)
    (hfr : R1.frames + 1 ≤ K.2.1.frames) (hlo : 8 + (M1.2.2.1 + 11) + R1.locals ≤ K.2.1.locals) (hR : R1.cells + b'.1 ≤ b.1 ∧ R1.slots + b'.2 ≤ b.2)
    (hsel : ρ.map (fun i => cs[i]?) = cs0.map some) (hnd : va_nd ρ = true) (hq : q = a i) (hci : cs[i]? = some (.inr (ci, fs))) (hcl : eCl[ci]? = some r) (hcn : r.1 = M1.1.cls)
    (hS : cs1.length = ρ.length) (hc : eMrg cs ρ cs1 = cs') (k : ¬ c → EV K a b' cs' n ls (w.toList ++ rest)) (kx : c → EX K a b' cs pc ls E) : EV K a b cs pc ls st :=
  e_cV ρ (b' := b') hw hh d hn hM hst hlen hcat hfr hlo hR hsel hnd hq hci hcl hcn
    (fun o a1 cs2 h => ⟨h.1, by
      have h2 := h.2
      by_cases hx : c
      · rw [if_pos hx] at h2; rw [h2.2]; exact eSel_l hsel
      · rw [if_neg hx] at h2; rw [h2.2]; exact hS⟩)
    (fun w cs2 h => by
      have h2 := h.2
      by_cases hx : c
      · rw [if_pos hx] at h2; cases h2.1
      · rw [if_neg hx] at h2; cases h2.1; rw [h2.2, hc]; exact k hx)
    (fun E cs2 h => by
      have h2 := h.2
      by_cases hx : c
      · rw [if_pos hx] at h2; cases h2.1; rw [h2.2, eMrg_same ρ cs0 hsel]; exact kx hx
      · rw [if_neg hx] at h2; cases h2.1)
theorem e_ialoadB {i N q : Nat} {x : Int → Int} {z lo hi : Int} (d : decode K.1.2.1 pc = .ok (.iaload, 1)) (hn : pc + 1 = n) (hq : q = a i) (hc : cs[i]? = some (eI 0 N x)) (hz : 0 ≤ z ∧ z < N) (hN : N ≤ 2147483647) (hb : ∀ j, lo ≤ x j ∧ x j ≤ hi) (k : (lo ≤ x z ∧ x z ≤ hi) → EV K a b cs n ls (vi (x z) :: st)) : EV K a b cs pc ls (vi z :: .ref q :: st) :=
  e_iaload d hn hq hc hz hN (k (hb z))
theorem e_laloadB {i N q : Nat} {x : Int → Int} {z lo hi : Int} (d : decode K.1.2.1 pc = .ok (.laload, 1)) (hn : pc + 1 = n) (hq : q = a i) (hc : cs[i]? = some (eJ 1 N x)) (hz : 0 ≤ z ∧ z < N) (hN : N ≤ 2147483647) (hb : ∀ j, lo ≤ x j ∧ x j < hi) (k : (lo ≤ x z ∧ x z < hi) → EV K a b cs n ls (vl (x z) :: st)) : EV K a b cs pc ls (vi z :: .ref q :: st) :=
  e_laload d hn hq hc hz hN (k (hb z))
theorem f_istore_n {i : Fin 4} {x : Int32} (d : decode K.1.2.1 pc = .ok (.istore_n i, 1)) (hn : pc + 1 = n) (hi : (i : Nat) < K.1.2.2.1) (hk : eKl ls (i : Nat) = ls) (k : EV K a b cs n (ls.set (i : Nat) (some (.int x))) st) : EV K a b cs pc ls (.int x :: st) :=
  e_istore_n d hn hi (by unfold eS1; rw [hk]; exact k)
theorem f_istore {i : Nat} {x : Int32} (d : decode K.1.2.1 pc = .ok (.istore i, 2)) (hn : pc + 2 = n) (hi : i < K.1.2.2.1) (hk : eKl ls i = ls) (k : EV K a b cs n (ls.set i (some (.int x))) st) : EV K a b cs pc ls (.int x :: st) :=
  e_istore d hn hi (by unfold eS1; rw [hk]; exact k)
theorem f_astore_n {i : Fin 4} {x : Nat} (d : decode K.1.2.1 pc = .ok (.astore_n i, 1)) (hn : pc + 1 = n) (hi : (i : Nat) < K.1.2.2.1) (hk : eKl ls (i : Nat) = ls) (k : EV K a b cs n (ls.set (i : Nat) (some (.ref x))) st) : EV K a b cs pc ls (.ref x :: st) :=
  e_astore_n d hn hi (by unfold eS1; rw [hk]; exact k)
theorem f_astore {i : Nat} {x : Nat} (d : decode K.1.2.1 pc = .ok (.astore i, 2)) (hn : pc + 2 = n) (hi : i < K.1.2.2.1) (hk : eKl ls i = ls) (k : EV K a b cs n (ls.set i (some (.ref x))) st) : EV K a b cs pc ls (.ref x :: st) :=
  e_astore d hn hi (by unfold eS1; rw [hk]; exact k)
theorem f_fstore_n {i : Fin 4} {x : UInt32} (d : decode K.1.2.1 pc = .ok (.fstore_n i, 1)) (hn : pc + 1 = n) (hi : (i : Nat) < K.1.2.2.1) (hk : eKl ls (i : Nat) = ls) (k : EV K a b cs n (ls.set (i : Nat) (some (.float x))) st) : EV K a b cs pc ls (.float x :: st) :=
  e_fstore_n d hn hi (by unfold eS1; rw [hk]; exact k)
theorem f_fstore {i : Nat} {x : UInt32} (d : decode K.1.2.1 pc = .ok (.fstore i, 2)) (hn : pc + 2 = n) (hi : i < K.1.2.2.1) (hk : eKl ls i = ls) (k : EV K a b cs n (ls.set i (some (.float x))) st) : EV K a b cs pc ls (.float x :: st) :=
  e_fstore d hn hi (by unfold eS1; rw [hk]; exact k)
theorem f_lstore_n {i : Fin 4} {x : Int64} (d : decode K.1.2.1 pc = .ok (.lstore_n i, 1)) (hn : pc + 1 = n) (hi : (i : Nat) + 1 < K.1.2.2.1) (hk : eKl ls (i : Nat) = ls) (k : EV K a b cs n ((ls.set ((i : Nat) + 1) none).set (i : Nat) (some (.long x))) st) : EV K a b cs pc ls (.long x :: st) :=
  e_lstore_n d hn hi (by unfold eS2; rw [hk]; exact k)
theorem f_lstore {i : Nat} {x : Int64} (d : decode K.1.2.1 pc = .ok (.lstore i, 2)) (hn : pc + 2 = n) (hi : i + 1 < K.1.2.2.1) (hk : eKl ls i = ls) (k : EV K a b cs n ((ls.set (i + 1) none).set i (some (.long x))) st) : EV K a b cs pc ls (.long x :: st) :=
  e_lstore d hn hi (by unfold eS2; rw [hk]; exact k)
theorem f_dstore_n {i : Fin 4} {x : UInt64} (d : decode K.1.2.1 pc = .ok (.dstore_n i, 1)) (hn : pc + 1 = n) (hi : (i : Nat) + 1 < K.1.2.2.1) (hk : eKl ls (i : Nat) = ls) (k : EV K a b cs n ((ls.set ((i : Nat) + 1) none).set (i : Nat) (some (.double x))) st) : EV K a b cs pc ls (.double x :: st) :=
  e_dstore_n d hn hi (by unfold eS2; rw [hk]; exact k)
theorem f_dstore {i : Nat} {x : UInt64} (d : decode K.1.2.1 pc = .ok (.dstore i, 2)) (hn : pc + 2 = n) (hi : i + 1 < K.1.2.2.1) (hk : eKl ls i = ls) (k : EV K a b cs n ((ls.set (i + 1) none).set i (some (.double x))) st) : EV K a b cs pc ls (.double x :: st) :=
  e_dstore d hn hi (by unfold eS2; rw [hk]; exact k)
theorem f_iinc {i : Nat} {x v : Int} (d : decode K.1.2.1 pc = .ok (.iinc i v, 3)) (hn : pc + 3 = n) (hl : ls[i]? = some (some (vi x))) (hi : i < K.1.2.2.1) (hk : eKl ls i = ls) (k : EV K a b cs n (ls.set i (some (vi (x + v)))) st) : EV K a b cs pc ls st :=
  e_iinc d hn hl hi (by unfold eS1; rw [hk]; exact k)
theorem oL_eq {x y : Int} (hx : -9223372036854775808 ≤ x ∧ x ≤ 9223372036854775807) (hy : -9223372036854775808 ≤ y ∧ y ≤ 9223372036854775807) : Int64.ofInt x = Int64.ofInt y ↔ x = y := ⟨fun h => by have := congrArg Int64.toInt h; rwa [oL_toInt hx, oL_toInt hy] at this, fun h => by rw [h]⟩
theorem lg_cmp0 {x y : Int64} : lg_cmp x y = 0 ↔ x = y := by
  unfold lg_cmp
  split
  · rename_i h
    refine ⟨fun q => absurd q (by decide), fun q => ?_⟩
    subst q
    exact absurd h (by simp)
  · split
    · rename_i h
      exact ⟨fun _ => h, fun _ => rfl⟩
    · rename_i h1 h
      exact ⟨fun q => absurd q (by decide), fun q => absurd q h⟩
theorem e_ifl_eq {x y : Int} {t : Nat} {off : Int} (d : decode K.1.2.1 pc = .ok (.ifCond .eq off, 3)) (ht : (pc : Int) + off = (t : Int)) (hn : pc + 3 = n) (hx : -9223372036854775808 ≤ x ∧ x ≤ 9223372036854775807) (hy : -9223372036854775808 ≤ y ∧ y ≤ 9223372036854775807) (kt : x = y → EV K a b cs t ls st) (kf : ¬ x = y → EV K a b cs n ls st) : EV K a b cs pc ls (.int (lg_cmp (Int64.ofInt x) (Int64.ofInt y)) :: st) := by
  have e : ∃ z : Int, (-2147483648 ≤ z ∧ z ≤ 2147483647) ∧ lg_cmp (Int64.ofInt x) (Int64.ofInt y) = Int32.ofInt z ∧ (z = 0 ↔ x = y) := by
    refine ⟨(lg_cmp (Int64.ofInt x) (Int64.ofInt y)).toInt, ⟨Int32.le_toInt _, by have := Int32.toInt_lt (lg_cmp (Int64.ofInt x) (Int64.ofInt y)); omega⟩, (oI_ofI _).symm, ?_⟩
    rw [← oL_eq hx hy, ← lg_cmp0]
    exact ⟨fun h => Int32.toInt_inj.mp (h.trans rfl), fun h => by rw [h]; rfl⟩
  obtain ⟨z, hz, e1, e2⟩ := e
  rw [e1]
  exact e_if_eq d ht hn hz (fun h => kt (e2.mp h)) (fun h => kf (fun q => h (e2.mpr q)))
theorem e_ifl_ne {x y : Int} {t : Nat} {off : Int} (d : decode K.1.2.1 pc = .ok (.ifCond .ne off, 3)) (ht : (pc : Int) + off = (t : Int)) (hn : pc + 3 = n) (hx : -9223372036854775808 ≤ x ∧ x ≤ 9223372036854775807) (hy : -9223372036854775808 ≤ y ∧ y ≤ 9223372036854775807) (kt : ¬ x = y → EV K a b cs t ls st) (kf : x = y → EV K a b cs n ls st) : EV K a b cs pc ls (.int (lg_cmp (Int64.ofInt x) (Int64.ofInt y)) :: st) := by
  have e : ∃ z : Int, (-2147483648 ≤ z ∧ z ≤ 2147483647) ∧ lg_cmp (Int64.ofInt x) (Int64.ofInt y) = Int32.ofInt z ∧ (z = 0 ↔ x = y) := by
    refine ⟨(lg_cmp (Int64.ofInt x) (Int64.ofInt y)).toInt, ⟨Int32.le_toInt _, by have := Int32.toInt_lt (lg_cmp (Int64.ofInt x) (Int64.ofInt y)); omega⟩, (oI_ofI _).symm, ?_⟩
    rw [← oL_eq hx hy, ← lg_cmp0]
    exact ⟨fun h => Int32.toInt_inj.mp (h.trans rfl), fun h => by rw [h]; rfl⟩
  obtain ⟨z, hz, e1, e2⟩ := e
  rw [e1]
  exact e_if_ne d ht hn hz (fun h => kt (fun q => h (e2.mpr q))) (fun h => kf (e2.mp (Decidable.not_not.mp h)))
end EVK
