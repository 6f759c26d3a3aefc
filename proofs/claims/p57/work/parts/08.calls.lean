/-! ===== EV: the rules of calls ===== -/
/-- what is left of a call's site: the link, the callee's words, the number of its parameters -/
def eLk (own : String) (idx : Nat) (M : mE) (n : Nat) : Prop := Cond.methodLink own idx M.1 ∈ eTB ∧ Cond.initialized M.1.cls ∈ eTB ∧ mWord M ∈ eTB ∧ (M.1.cls ≠ "java/lang/invoke/MethodHandle" ∧ M.1.cls ≠ "java/lang/invoke/VarHandle") ∧ (parseMethodDescriptor M.1.desc).map (fun d => d.parameters.length) = some n
def eLkV (own : String) (idx : Nat) (M : mE) (n : Nat) : Prop := eLk own idx M n ∧ Cond.instanceMethod M.1 ∈ eTB ∧ Cond.selects M.1.cls M.1 M.1 ∈ eTB
def eLkS (own : String) (idx : Nat) (M : mE) (n : Nat) : Prop := eLk own idx M n ∧ Cond.static M.1 ∈ eTB
def eLkI (own : String) (idx : Nat) (M : mE) (n : Nat) : Prop := eLk own idx M n ∧ Cond.instanceMethod M.1 ∈ eTB ∧ M.1.name = "<init>"
/-- a nest mate's private constructor -/
def eLkN (own : String) (idx : Nat) (M : mE) (n : Nat) : Prop := (∃ host, (own, idx, M.1, host) ∈ eNn) ∧ Cond.initialized M.1.cls ∈ eTB ∧ mWord M ∈ eTB ∧ (M.1.cls ≠ "java/lang/invoke/MethodHandle" ∧ M.1.cls ≠ "java/lang/invoke/VarHandle") ∧ (parseMethodDescriptor M.1.desc).map (fun d => d.parameters.length) = some n ∧ Cond.instanceMethod M.1 ∈ eTB ∧ M.1.name = "<init>"
theorem eWs_good {M : mE} (h : mWord M ∈ eTB) : GoodIn eTB (eWs M) := by
  intro w hw
  rcases List.mem_cons.mp hw with rfl | hw
  · exact ⟨h, good_of_word (eTB_good h)⟩
  · exact ⟨hw, good_of_word (eTB_good hw)⟩
section EVC
variable {K : eK} {a : Nat → Nat} {b : Nat × Nat} {cs cs0 : List eE} {pc n : Nat} {ls : List (Option Value)} {st rest av : List Value} {M1 : mE} {R1 : Room} {ρ : List Nat} {Q1 : ePo}
/-- behind a call, in any of its kinds -/
theorem eCont (hnd : va_nd ρ = true) (hsel : ρ.map (fun i => cs[i]?) = cs0.map some)
    {G : eG} {A : Nat → Prop} {p : Program} {l : Launch} {e : Env} {s : State} {m : MethodId} {args : Array Value} {below : List Frame} {meth : Method} {c : Code} {H : Heap} {locs : List Loc} {cells slots : Nat} {lsA : Array Slot} {as : Array Value}
    (hX : eX K.2.2.2 G A K.1 p l s m args meth c) (hL : eL lsA K.1.2.2.1 ls) (hP : va_P G.1 eCl (eW G a cs) H) (hD : va_D A (eW G a cs)) (hS : va_S A s.heap H locs) (hc : cells + b.1 ≤ K.2.1.cells) (hs : slots + b.2 ≤ K.2.1.slots)
    (hr : vx_Run p l e K.2.1 s m args below meth c H locs cells slots R1.cells R1.slots (F0 m pc lsA st) rest (eQc G (va_A (eW G (fun k => a (eR ρ k)) cs0) H.size) Q1 as) (eXC G (va_A (eW G (fun k => a (eR ρ k)) cs0) H.size) Q1) (va_A (eW G (fun k => a (eR ρ k)) cs0) H.size))
    (b' : Nat × Nat) (hb : R1.cells + b'.1 ≤ b.1 ∧ R1.slots + b'.2 ≤ b.2)
    (hN : ∀ o a1 cs1, Q1 o a1 cs1 → (∀ k, k < ρ.length → a1 k = a (eR ρ k)) ∧ ρ.length ≤ cs1.length)
    (kr : ∀ v a1 cs1, Q1 (.inl v) a1 cs1 → EV K (fun j => if j < cs.length then a j else a1 (ρ.length + (j - cs.length))) b' (eMrg cs ρ cs1 ++ cs1.drop ρ.length) (pc + 3) ls (v.toList ++ rest))
    (kx : ∀ E a1 cs1, Q1 (.inr E) a1 cs1 → EX K (fun j => if j < cs.length then a j else a1 (ρ.length + (j - cs.length))) b' (eMrg cs ρ cs1 ++ cs1.drop ρ.length) pc ls E) :
    W p l e K.2.1 s m args below meth c H locs cells slots (vx_MQ below (eQc G A K.2.2.1) (eXC G A K.2.2.1) args s K.2.1.cells K.2.1.slots A) (F0 m pc lsA st) := by
  have hA : ∀ q, s.heap.size ≤ q → A q := hX.2.2.2.2.2.2.2.2.2.2.1
  have hA2 : ∀ q, H.size ≤ q → A q := fun q h => hA q (Nat.le_trans hS.1 h)
  have hF : ∀ q, va_A (eW G (fun k => a (eR ρ k)) cs0) H.size q → A q := by
    intro q h
    rcases h with ⟨j, x, h⟩ | h
    · obtain ⟨c1, hc1, hx⟩ := eW_in h
      obtain ⟨k', g1, g2, g3⟩ := eSel_at hsel hc1
      have e1 : q = a (eR ρ j) := congrArg Prod.fst hx
      rw [e1, g3]
      exact hD.2 k' _ (eW_at g2)
    · exact hA2 q h
  have join : ∀ (H1 : Heap) (a1 : Nat → Nat) (cs1 : List eE), (∀ k, k < ρ.length → a1 k = a (eR ρ k)) → ρ.length ≤ cs1.length → (∀ q : Nat, q < H.size → ¬ va_A (eW G (fun k => a (eR ρ k)) cs0) H.size q → H1[q]? = H[q]?) → va_P G.1 eCl (eW G a1 cs1) H1 →
      va_D (va_A (eW G (fun k => a (eR ρ k)) cs0) H.size) (eW G a1 cs1) → va_P G.1 eCl (eW G (fun j => if j < cs.length then a j else a1 (ρ.length + (j - cs.length))) (eMrg cs ρ cs1 ++ cs1.drop ρ.length)) H1 ∧ va_D A (eW G (fun j => if j < cs.length then a j else a1 (ρ.length + (j - cs.length))) (eMrg cs ρ cs1 ++ cs1.drop ρ.length)) := by
    intro H1 a1 cs1 n1 n2 k1 hP1 hD1
    exact eJoin hP hD hsel hnd k1 hP1 hD1 n1 n2 hA2 (fun j hj => if_pos hj) (fun i => by
      show (if cs.length + i < cs.length then _ else _) = _
      rw [if_neg (by omega)]
      congr 1
      omega)
  intro T hT X
  rcases hr T hT X with ⟨v, st₀, t, T', L, h0, X', hL2, e1, e2, ⟨v', a1, cs1, hv, hq, hP1, hD1, hFt⟩, st⟩ | ⟨q, st₀, t, T', L, E, ce, h0, X', hL2, e1, e2, ⟨a1, cs1, hq, hP1, hD1, hFt⟩, hce, hcv, hcl, st⟩
  · cases hv
    obtain ⟨k1, k2, k3⟩ := vx_keep h0 e1 hS (fun q _ h => hF q h) hF hL2 hFt
    obtain ⟨n1, n2⟩ := hN _ _ _ hq
    rw [← e1] at hP1
    obtain ⟨j1, j2⟩ := join T'.heap a1 cs1 n1 n2 k2 hP1 hD1
    obtain ⟨t2, a2, b2⟩ := kr v a1 cs1 hq G A p l e s m args below meth c T'.heap (locs ++ L) (cells + R1.cells) (slots + R1.slots) lsA hX hL j1 j2 k3 (by omega) (by omega) T' rfl X'
    exact ⟨t2, st t2 a2, b2⟩
  · obtain ⟨k1, k2, k3⟩ := vx_keep h0 e1 hS (fun q _ h => hF q h) hF hL2 hFt
    obtain ⟨n1, n2⟩ := hN _ _ _ hq
    rw [← e1] at hP1
    obtain ⟨j1, j2⟩ := join T'.heap a1 cs1 n1 n2 k2 hP1 hD1
    obtain ⟨t2, a2, b2⟩ := kx E a1 cs1 hq G A p l e s m args below meth c T'.heap (locs ++ L) (cells + R1.cells) (slots + R1.slots) lsA rest q ce hX hL j1 j2 k3 (by omega) (by omega) (by rw [e1]; exact hce) hcv hcl T' rfl X'
    exact ⟨t2, st.trans a2, b2⟩
/-- what the callee's start wants -/
theorem ePre (hsel : ρ.map (fun i => cs[i]?) = cs0.map some) (hnd : va_nd ρ = true)
    {G : eG} {A : Nat → Prop} {p : Program} {l : Launch} {s : State} {m : MethodId} {args : Array Value} {meth : Method} {c : Code} {H : Heap} {locs : List Loc}
    (hX : eX K.2.2.2 G A K.1 p l s m args meth c) (hP : va_P G.1 eCl (eW G a cs) H) (hD : va_D A (eW G a cs)) (hS : va_S A s.heap H locs) :
    PreS s H (fun v U => v = av.toArray ∧ U.heap.size = H.size ∧ va_P G.1 eCl (eW G (fun k => a (eR ρ k)) cs0) U.heap ∧ va_D (fun _ => True) (eW G (fun k => a (eR ρ k)) cs0) ∧ eAmb K.2.2.2.1 G (va_A (eW G (fun k => a (eR ρ k)) cs0) H.size) U U.heap) av := by
  have hAm := hX.2.2.2.2.2.2.2.2.1
  have hA : ∀ q, s.heap.size ≤ q → A q := hX.2.2.2.2.2.2.2.2.2.2.1
  refine ⟨fun v U g mk q => ⟨q.1, q.2.1, q.2.2.1, q.2.2.2.1, eAmb.same (s := U) rfl q.2.2.2.2⟩, fun U hU hW => ⟨rfl, by rw [hU], ?_, ⟨fun i j x y hi hj hxy => ?_, fun _ _ _ => trivial⟩, ?_⟩⟩
  · rw [hU]
    intro k q hq
    obtain ⟨c1, hc1, rfl⟩ := eW_in hq
    obtain ⟨k', g1, g2, g3⟩ := eSel_at hsel hc1
    show va_at _ _ (a (eR ρ k), _) H
    rw [g3]
    exact hP k' _ (eW_at g2)
  · obtain ⟨c1, hc1, rfl⟩ := eW_in hi
    obtain ⟨c2, hc2, rfl⟩ := eW_in hj
    obtain ⟨k1, g1, g2, g3⟩ := eSel_at hsel hc1
    obtain ⟨k2, f1, f2, f3⟩ := eSel_at hsel hc2
    have e1 : a (eR ρ i) = a (eR ρ j) := hxy
    rw [g3, f3] at e1
    have := hD.1 k1 k2 _ _ (eW_at g2) (eW_at f2) e1
    subst this
    exact va_nd_inj ρ hnd i j k1 g1 f1
  · rw [hU]
    refine eAmb.warm hW (eAmb.narrow (hAm.kept hS.2.1) (fun q h => ?_))
    rcases h with ⟨j, x, h⟩ | h
    · obtain ⟨c1, hc1, hx⟩ := eW_in h
      obtain ⟨k', g1, g2, g3⟩ := eSel_at hsel hc1
      have e1 : q = a (eR ρ j) := congrArg Prod.fst hx
      rw [e1, g3]
      exact hD.2 k' _ (eW_at g2)
    · exact hA q (Nat.le_trans hS.1 h)
theorem eLk_codeB {own : String} {idx k : Nat} {M : mE} {args : Array Value} {s : State} {R : Room} (hh : M.2.2.2.2 = []) (hw : eLk own idx M k) (hts : ∀ w ∈ eTB, w.before args s = true) (hfr : R1.frames + 1 ≤ R.frames) (hlo : 8 + (M.2.2.1 + 11) + R1.locals ≤ R.locals) :
    CallB R s args own idx M.1 M.2.1 M.2.2.1 M.2.2.2.1 (eWs M) R1 R1.cells R1.slots k := by
  obtain ⟨w1, w2, w3, w4, w5⟩ := hw
  have hm : mWord M = .code M.1 M.2.1 M.2.2.1 M.2.2.2.1 := by unfold mWord; rw [hh]
  exact callB_of k hts (eWs_good w3) (ws' := eTB) (by unfold eWs; rw [hm]) rfl rfl (hts _ w2) (hts _ w1) ⟨w4.1, w4.2, w5⟩ ⟨hfr, hlo⟩
/-- the general rule of a call by invokevirtual -/
theorem e_invV {idx nA i ci q : Nat} {fs : List Value} {r : vw_C} (hw : eLkV K.1.1.cls idx M1 nA) (hh : M1.2.2.2.2 = []) (d : decode K.1.2.1 pc = .ok (.invokevirtual idx, 3)) (hn : pc + 3 = n)
    (hM : EM (K.2.2.2.1, none) M1 R1 (fun k => a (eR ρ k)) (.ref q :: av) cs0 Q1) (hst : st = av.reverse ++ .ref q :: rest) (hlen : av.length = nA) (hcat : (rest.map fun v => v.category).sum ≤ 8)
    (hfr : R1.frames + 1 ≤ K.2.1.frames) (hlo : 8 + (M1.2.2.1 + 11) + R1.locals ≤ K.2.1.locals) (b' : Nat × Nat) (hb : R1.cells + b'.1 ≤ b.1 ∧ R1.slots + b'.2 ≤ b.2)
    (hsel : ρ.map (fun i => cs[i]?) = cs0.map some) (hnd : va_nd ρ = true) (hq : q = a i) (hci : cs[i]? = some (.inr (ci, fs))) (hcl : eCl[ci]? = some r) (hcn : r.1 = M1.1.cls)
    (hN : ∀ o a1 cs1, Q1 o a1 cs1 → (∀ k, k < ρ.length → a1 k = a (eR ρ k)) ∧ ρ.length ≤ cs1.length)
    (kr : ∀ v a1 cs1, Q1 (.inl v) a1 cs1 → EV K (fun j => if j < cs.length then a j else a1 (ρ.length + (j - cs.length))) b' (eMrg cs ρ cs1 ++ cs1.drop ρ.length) n ls (v.toList ++ rest))
    (kx : ∀ E a1 cs1, Q1 (.inr E) a1 cs1 → EX K (fun j => if j < cs.length then a j else a1 (ρ.length + (j - cs.length))) b' (eMrg cs ρ cs1 ++ cs1.drop ρ.length) pc ls E) : EV K a b cs pc ls st := by
  subst hn
  subst hq
  intro G A p l e s m args below meth c H locs cells slots lsA hX hL hP hD hS hc hs
  have hts := hX.2.2.2.2.2.2.2.1
  have hpre := ePre (av := .ref (a i) :: av) hsel hnd hX hP hD hS
  refine eCont hnd hsel hX hL hP hD hS hc hs (as := (.ref (a i) :: av).toArray) ?_ b' hb hN kr kx
  refine vx_runV (ws := eWs M1) ⟨hX.1, hX.2.1, hX.2.2.1, hX.2.2.2.2.2.1, hts⟩ (hM l G H.size hX.2.2.2.2.2.2.2.2.2.1 rfl) (C := M1.1.cls) (n := nA) ⟨eLk_codeB hh hw.1 hts hfr hlo, hts _ hw.2.1, hts _ hw.2.2⟩ ⟨hpre.1, ?_, hpre.2⟩ rfl hlen hL.1 hst (by show 2 * 0 + _ ≤ 8; omega) d ⟨by omega, by omega⟩
  rw [← hcn]
  exact va_recv hX.2.2.2.2.2.2.2.2.1.1 hP hcl (eW_at hci)
/-- by invokestatic -/
theorem e_invS {idx nA : Nat} (hw : eLkS K.1.1.cls idx M1 nA) (hh : M1.2.2.2.2 = []) (d : decode K.1.2.1 pc = .ok (.invokestatic idx, 3)) (hn : pc + 3 = n)
    (hM : EM (K.2.2.2.1, none) M1 R1 (fun k => a (eR ρ k)) av cs0 Q1) (hst : st = av.reverse ++ rest) (hlen : av.length = nA) (hcat : (rest.map fun v => v.category).sum ≤ 8)
    (hfr : R1.frames + 1 ≤ K.2.1.frames) (hlo : 8 + (M1.2.2.1 + 11) + R1.locals ≤ K.2.1.locals) (b' : Nat × Nat) (hb : R1.cells + b'.1 ≤ b.1 ∧ R1.slots + b'.2 ≤ b.2)
    (hsel : ρ.map (fun i => cs[i]?) = cs0.map some) (hnd : va_nd ρ = true)
    (hN : ∀ o a1 cs1, Q1 o a1 cs1 → (∀ k, k < ρ.length → a1 k = a (eR ρ k)) ∧ ρ.length ≤ cs1.length)
    (kr : ∀ v a1 cs1, Q1 (.inl v) a1 cs1 → EV K (fun j => if j < cs.length then a j else a1 (ρ.length + (j - cs.length))) b' (eMrg cs ρ cs1 ++ cs1.drop ρ.length) n ls (v.toList ++ rest))
    (kx : ∀ E a1 cs1, Q1 (.inr E) a1 cs1 → EX K (fun j => if j < cs.length then a j else a1 (ρ.length + (j - cs.length))) b' (eMrg cs ρ cs1 ++ cs1.drop ρ.length) pc ls E) : EV K a b cs pc ls st := by
  subst hn
  intro G A p l e s m args below meth c H locs cells slots lsA hX hL hP hD hS hc hs
  have hts := hX.2.2.2.2.2.2.2.1
  have hpre := ePre (av := av) hsel hnd hX hP hD hS
  refine eCont hnd hsel hX hL hP hD hS hc hs (as := av.toArray) ?_ b' hb hN kr kx
  exact vx_runS (ws := eWs M1) ⟨hX.1, hX.2.1, hX.2.2.1, hX.2.2.2.2.2.1, hts⟩ (hM l G H.size hX.2.2.2.2.2.2.2.2.2.1 rfl) (n := nA) ⟨eLk_codeB hh hw.1 hts hfr hlo, hts _ hw.2⟩ hpre rfl hlen hL.1 hst (by show 2 * 0 + _ ≤ 8; omega) d ⟨by omega, by omega⟩
/-- by invokestatic, of a method with handlers -/
theorem e_invSH {idx nA : Nat} (hw : eLkS K.1.1.cls idx M1 nA) (hh : M1.2.2.2.2 ≠ []) (d : decode K.1.2.1 pc = .ok (.invokestatic idx, 3)) (hn : pc + 3 = n)
    (hM : EM (K.2.2.2.1, none) M1 R1 (fun k => a (eR ρ k)) av cs0 Q1) (hst : st = av.reverse ++ rest) (hlen : av.length = nA) (hcat : (rest.map fun v => v.category).sum ≤ 8)
    (hfr : R1.frames + 1 ≤ K.2.1.frames) (hlo : 8 + (M1.2.2.1 + 11) + R1.locals ≤ K.2.1.locals) (b' : Nat × Nat) (hb : R1.cells + b'.1 ≤ b.1 ∧ R1.slots + b'.2 ≤ b.2)
    (hsel : ρ.map (fun i => cs[i]?) = cs0.map some) (hnd : va_nd ρ = true)
    (hN : ∀ o a1 cs1, Q1 o a1 cs1 → (∀ k, k < ρ.length → a1 k = a (eR ρ k)) ∧ ρ.length ≤ cs1.length)
    (kr : ∀ v a1 cs1, Q1 (.inl v) a1 cs1 → EV K (fun j => if j < cs.length then a j else a1 (ρ.length + (j - cs.length))) b' (eMrg cs ρ cs1 ++ cs1.drop ρ.length) n ls (v.toList ++ rest))
    (kx : ∀ E a1 cs1, Q1 (.inr E) a1 cs1 → EX K (fun j => if j < cs.length then a j else a1 (ρ.length + (j - cs.length))) b' (eMrg cs ρ cs1 ++ cs1.drop ρ.length) pc ls E) : EV K a b cs pc ls st := by
  subst hn
  intro G A p l e s m args below meth c H locs cells slots lsA hX hL hP hD hS hc hs
  have hts := hX.2.2.2.2.2.2.2.1
  have hpre := ePre (av := av) hsel hnd hX hP hD hS
  obtain ⟨⟨w1, w2, w3, w4, w5⟩, w6⟩ := hw
  have hm : mWord M1 = .codeWith M1.1 M1.2.1 M1.2.2.1 M1.2.2.2.1 M1.2.2.2.2 := by
    obtain ⟨y, cc, nn, rt, hh2⟩ := M1
    cases hh2 with
    | nil => exact absurd rfl hh
    | cons h t => rfl
  refine eCont hnd hsel hX hL hP hD hS hc hs (as := av.toArray) ?_ b' hb hN kr kx
  refine vx_runSX (ws := eWs M1) (hh := M1.2.2.2.2) ⟨hX.1, hX.2.1, hX.2.2.1, hX.2.2.2.2.2.1, hts⟩ (hM l G H.size hX.2.2.2.2.2.2.2.2.2.1 rfl) (n := nA) ⟨⟨rfl, rfl, hfr, hlo, pay_in hts (eWs_good w3), by rw [← hm]; exact List.mem_cons_self⟩, by rw [← hm]; exact hts _ w3, hts _ w2, w4, fun sig h => ?_, hts _ w1, hts _ w6⟩ hpre rfl hlen hL.1 hst (by show 2 * 0 + _ ≤ 8; omega) d ⟨by omega, by omega⟩
  rw [h] at w5
  exact (Option.some.inj w5).symm
/-- by invokespecial, a constructor -/
theorem e_invI {idx nA q : Nat} (hw : eLkI K.1.1.cls idx M1 nA) (hh : M1.2.2.2.2 = []) (hrt : M1.2.2.2.1 = none) (d : decode K.1.2.1 pc = .ok (.invokespecial idx, 3)) (hn : pc + 3 = n)
    (hM : EM (K.2.2.2.1, none) M1 R1 (fun k => a (eR ρ k)) (.ref q :: av) cs0 Q1) (hst : st = av.reverse ++ .ref q :: rest) (hlen : av.length = nA) (hcat : (rest.map fun v => v.category).sum ≤ 8)
    (hfr : R1.frames + 1 ≤ K.2.1.frames) (hlo : 8 + (M1.2.2.1 + 11) + R1.locals ≤ K.2.1.locals) (b' : Nat × Nat) (hb : R1.cells + b'.1 ≤ b.1 ∧ R1.slots + b'.2 ≤ b.2)
    (hsel : ρ.map (fun i => cs[i]?) = cs0.map some) (hnd : va_nd ρ = true)
    (hN : ∀ o a1 cs1, Q1 o a1 cs1 → (∀ k, k < ρ.length → a1 k = a (eR ρ k)) ∧ ρ.length ≤ cs1.length)
    (kr : ∀ v a1 cs1, Q1 (.inl v) a1 cs1 → EV K (fun j => if j < cs.length then a j else a1 (ρ.length + (j - cs.length))) b' (eMrg cs ρ cs1 ++ cs1.drop ρ.length) n ls (v.toList ++ rest))
    (kx : ∀ E a1 cs1, Q1 (.inr E) a1 cs1 → EX K (fun j => if j < cs.length then a j else a1 (ρ.length + (j - cs.length))) b' (eMrg cs ρ cs1 ++ cs1.drop ρ.length) pc ls E) : EV K a b cs pc ls st := by
  subst hn
  intro G A p l e s m args below meth c H locs cells slots lsA hX hL hP hD hS hc hs
  have hts := hX.2.2.2.2.2.2.2.1
  have hpre := ePre (av := .ref q :: av) hsel hnd hX hP hD hS
  have hB := eLk_codeB (R1 := R1) hh hw.1 hts hfr hlo
  rw [hrt] at hB
  refine eCont hnd hsel hX hL hP hD hS hc hs (as := (.ref q :: av).toArray) ?_ b' hb hN kr kx
  exact vx_runI (ws := eWs M1) ⟨hX.1, hX.2.1, hX.2.2.1, hX.2.2.2.2.2.1, hts⟩ (hM l G H.size hX.2.2.2.2.2.2.2.2.2.1 rfl) (n := nA) ⟨hB, hw.2.2, hts _ hw.2.1⟩ hpre rfl hlen hL.1 hst (by show 2 * 0 + _ ≤ 8; omega) d ⟨by omega, by omega⟩
/-- by invokespecial, a private constructor of a nest mate -/
theorem e_invN {idx nA q : Nat} (hw : eLkN K.1.1.cls idx M1 nA) (hh : M1.2.2.2.2 = []) (hrt : M1.2.2.2.1 = none) (d : decode K.1.2.1 pc = .ok (.invokespecial idx, 3)) (hn : pc + 3 = n)
    (hM : EM (K.2.2.2.1, none) M1 R1 (fun k => a (eR ρ k)) (.ref q :: av) cs0 Q1) (hst : st = av.reverse ++ .ref q :: rest) (hlen : av.length = nA) (hcat : (rest.map fun v => v.category).sum ≤ 8)
    (hfr : R1.frames + 1 ≤ K.2.1.frames) (hlo : 8 + (M1.2.2.1 + 11) + R1.locals ≤ K.2.1.locals) (b' : Nat × Nat) (hb : R1.cells + b'.1 ≤ b.1 ∧ R1.slots + b'.2 ≤ b.2)
    (hsel : ρ.map (fun i => cs[i]?) = cs0.map some) (hnd : va_nd ρ = true)
    (hN : ∀ o a1 cs1, Q1 o a1 cs1 → (∀ k, k < ρ.length → a1 k = a (eR ρ k)) ∧ ρ.length ≤ cs1.length)
    (kr : ∀ v a1 cs1, Q1 (.inl v) a1 cs1 → EV K (fun j => if j < cs.length then a j else a1 (ρ.length + (j - cs.length))) b' (eMrg cs ρ cs1 ++ cs1.drop ρ.length) n ls (v.toList ++ rest))
    (kx : ∀ E a1 cs1, Q1 (.inr E) a1 cs1 → EX K (fun j => if j < cs.length then a j else a1 (ρ.length + (j - cs.length))) b' (eMrg cs ρ cs1 ++ cs1.drop ρ.length) pc ls E) : EV K a b cs pc ls st := by
  subst hn
  intro G A p l e s m args below meth c H locs cells slots lsA hX hL hP hD hS hc hs
  have hts := hX.2.2.2.2.2.2.2.1
  have hpre := ePre (av := .ref q :: av) hsel hnd hX hP hD hS
  obtain ⟨⟨host, w1⟩, w2, w3, w4, w5, w6, w7⟩ := hw
  have hm : mWord M1 = .code M1.1 M1.2.1 M1.2.2.1 none := by unfold mWord; rw [hh, ← hrt]
  refine eCont hnd hsel hX hL hP hD hS hc hs (as := (.ref q :: av).toArray) ?_ b' hb hN kr kx
  exact vx_runIN (ws := eWs M1) (host := host) ⟨hX.1, hX.2.1, hX.2.2.1, hX.2.2.2.2.2.1, hts⟩ (hM l G H.size hX.2.2.2.2.2.2.2.2.2.1 rfl) (n := nA) ⟨va_cnB nA hts (eWs_good w3) (ws' := eTB) (by unfold eWs; rw [hm]) rfl rfl (hX.2.2.2.2.2.2.2.2.1.2.2.2.2.1 _ w1) (hts _ w2) ⟨w4.1, w4.2, w5⟩ ⟨hfr, hlo⟩, w7, hts _ w6⟩ hpre rfl hlen hL.1 hst (by show 2 * 0 + _ ≤ 8; omega) d ⟨by omega, by omega⟩
end EVC
/-- a method of a class above, found by the receiver's class C; Mx: what the reference names -/
def eLkU (own : String) (idx : Nat) (Mx M : mE) (C : String) (n : Nat) : Prop := Cond.methodLink own idx Mx.1 ∈ eTB ∧ Cond.initialized M.1.cls ∈ eTB ∧ mWord M ∈ eTB ∧ ((Mx.1.cls ≠ "java/lang/invoke/MethodHandle" ∧ Mx.1.cls ≠ "java/lang/invoke/VarHandle") ∧ (parseMethodDescriptor Mx.1.desc).map (fun d => d.parameters.length) = some n) ∧ Cond.sameMethod Mx.1.cls Mx.1.cls Mx.1.name Mx.1.desc ∈ eTB ∧ Cond.instanceMethod Mx.1 ∈ eTB ∧ mWord Mx ∈ eTB ∧ Cond.selects C Mx.1 M.1 ∈ eTB ∧ Cond.instanceMethod M.1 ∈ eTB
/-- super.m(..) -/
def eLkSU (own : String) (idx : Nat) (M : mE) (n : Nat) : Prop := eLk own idx M n ∧ Cond.sameMethod M.1.cls M.1.cls M.1.name M.1.desc ∈ eTB ∧ Cond.superclass own M.1.cls ∈ eTB ∧ Cond.instanceMethod M.1 ∈ eTB ∧ M.1.name ≠ "<init>"
