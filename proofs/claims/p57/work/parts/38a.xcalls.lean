/-! ===== EV: methods that read the script or a text beside their world; methods of a class above; texts; new things ===== -/
def EMx (X : eXT) (M : mE) (R : Room) (a : Nat → Nat) (av : List Value) (cs : List eE) (Q : ePo) : Prop :=
  ∀ (l : Launch) (G : eG) (sz : Nat), l.stackTraces = false →
    vx_Met l M.1 (eWs M) R (fun v U => v = av.toArray ∧ U.heap.size = sz ∧ va_P G.1 eCl (eW G a cs) U.heap ∧ va_D (fun _ => True) (eW G a cs) ∧ eAmb X.1 G (va_A (eW G a cs) sz) U U.heap ∧ eSc X (va_A (eW G a cs) sz) U)
      (eQc G (va_A (eW G a cs) sz) Q) (eXC G (va_A (eW G a cs) sz) Q) R.cells R.slots (va_A (eW G a cs) sz)
theorem EMx.of {X : eXT} {M : mE} {R : Room} {a : Nat → Nat} {av : List Value} {cs : List eE} {Q : ePo} (hpl : plainName M.1.cls = true) (hav : av.all (fun v => v.category == 1) = true) (hn : av.length ≤ M.2.2.1) (hh : M.2.2.2.2 = [])
    (k : EV (M, R, Q, X) a (R.cells, R.slots) cs 0 (eIni av M.2.2.1) []) : EMx X M R a av cs Q := by
  intro l G sz hl
  obtain ⟨y, cc, n, rt, hh0⟩ := M
  have hh : hh0 = [] := hh
  subst hh
  refine vx_ofW (cc := cc) (maxL := n) (ret := rt) (ws' := eTB) hpl rfl ?_
  intro p e s m args below meth c s₁ B hml ht hv
  obtain ⟨rfl, rfl, hP, hD, hAm, hSc⟩ := hv
  rw [lg_entry_eq]
  have hts := atoms_spec (ws := eWs (y, cc, n, rt, [])) B.pre
  have hnil : c.exceptionTable.toList = tableOf [] := by
    cases hx : c.exceptionTable.toList with
    | nil => rfl
    | cons x t => exact (ht x (by rw [hx]; exact List.mem_cons_self)).elim
  exact k G (va_A (eW G a cs) s.heap.size) p l e s m _ below meth c s.heap [] 0 0 _ ⟨B.exec, B.bytes, hml, B.returns, hnil, findClass_of_methodNamed B.named, B.notSynchronized, fun w hw => hts w (List.mem_cons_of_mem _ hw), hAm, hl, fun q hq => Or.inr hq, (name_of_methodNamed B.named B.method).1, hSc⟩
    (eL_ini hav hn) hP hD.self va_S.rf (by show 0 + R.cells ≤ R.cells; omega) (by show 0 + R.slots ≤ R.slots; omega)
def eScO (o : Option eSt) (A : Nat → Prop) (s : State) (H : Heap) : Prop := match o with
  | none => True
  | some x => eSa x A s H
/-- what the callee may read beside its world is there -/
def eRd (K : eK) (a : Nat → Nat) (cs : List eE) (ρ : List Nat) (cs0 : List eE) (x2 : Option eSt) : Prop :=
  ∀ (G : eG) (A : Nat → Prop) (p : Program) (l : Launch) (s : State) (m : MethodId) (args : Array Value) (meth : Method) (c : Code) (H : Heap) (locs : List Loc),
    eX K.2.2.2 G A K.1 p l s m args meth c → va_P G.1 eCl (eW G a cs) H → va_D A (eW G a cs) → va_S A s.heap H locs → eScO x2 (va_A (eW G (fun k => a (eR ρ k)) cs0) H.size) s H
theorem eSc.same {X : eXT} {A : Nat → Prop} {s U : State} (hv : U.vm = s.vm) (hq : U.heap = s.heap) (h : eSc X A s) : eSc X A U := by
  have hW : s.WarmedH U.vm := by rw [hv]; exact State.WarmedH.refl s
  unfold eSc at h ⊢
  cases hx : X.2 with
  | none => trivial
  | some x =>
    rw [hx] at h
    show eSa x A U U.heap
    rw [hq]
    exact eSa.moved hW.alike h
theorem fits_byte0 : ∀ k : Fin 128, fits .byte (.int (Int32.ofInt ((k.val : Nat) : Int))) = true := by decide +kernel
theorem fits_byte {x : Int} (h : 0 ≤ x ∧ x ≤ 127) : fits .byte (.int (Int32.ofInt x)) = true := by
  have h1 := fits_byte0 ⟨x.toNat, by omega⟩
  have e : ((x.toNat : Nat) : Int) = x := by omega
  simp only [e] at h1
  exact h1
section EVX
variable {K : eK} {a : Nat → Nat} {b : Nat × Nat} {cs cs0 : List eE} {pc n : Nat} {ls : List (Option Value)} {st rest av : List Value} {M1 Mx : mE} {R1 : Room} {ρ : List Nat} {Q1 : ePo} {x2 : Option eSt}
theorem eRd.none : eRd K a cs ρ cs0 none := fun _ _ _ _ _ _ _ _ _ _ _ _ _ _ _ => trivial
theorem eSub (hsel : ρ.map (fun i => cs[i]?) = cs0.map some) {G : eG} {A : Nat → Prop} {p : Program} {l : Launch} {s : State} {m : MethodId} {args : Array Value} {meth : Method} {c : Code} {H : Heap} {locs : List Loc}
    (hX : eX K.2.2.2 G A K.1 p l s m args meth c) (hD : va_D A (eW G a cs)) (hS : va_S A s.heap H locs) : ∀ q, va_A (eW G (fun k => a (eR ρ k)) cs0) H.size q → A q := by
  have hA : ∀ q, s.heap.size ≤ q → A q := hX.2.2.2.2.2.2.2.2.2.2.1
  intro q h
  rcases h with ⟨j, x, h⟩ | h
  · obtain ⟨c1, hc1, hx⟩ := eW_in h
    obtain ⟨k', g1, g2, g3⟩ := eSel_at hsel hc1
    have e1 : q = a (eR ρ j) := congrArg Prod.fst hx
    rw [e1, g3]
    exact hD.2 k' _ (eW_at g2)
  · exact hA q (Nat.le_trans hS.1 h)
theorem eRd.own (hsel : ρ.map (fun i => cs[i]?) = cs0.map some) {x : eSt} (h : K.2.2.2.2 = some x) : eRd K a cs ρ cs0 (some x) := by
  intro G A p l s m args meth c H locs hX hP hD hS
  have h1 := hX.2.2.2.2.2.2.2.2.2.2.2.2
  unfold eSc at h1
  rw [h] at h1
  have h1 : eSa x A s s.heap := h1
  exact eSa.narrow (eSa.kept h1 hS.1 hS.2.1) (eSub hsel hX hD hS)
theorem eRd.const (hsel : ρ.map (fun i => cs[i]?) = cs0.map some) {i : Nat} (hi : i < 3) : eRd K a cs ρ cs0 (some (.inr (K.2.2.2.1 (16 + i), K.2.2.2.1 (19 + i), eFl.getD i 0, fun j => (eFb.getD i []).getD j 0))) := by
  intro G A p l s m args meth c H locs hX hP hD hS
  have hE := hX.2.2.2.2.2.2.2.2.1.2.2.2.2.2.2.2.2.2.1
  obtain ⟨h1, h2, h3, h4⟩ := hE.1 i hi
  have h5 : eTx (K.2.2.2.1 (16 + i)) (K.2.2.2.1 (19 + i)) (eFl.getD i 0) (fun j => (eFb.getD i []).getD j 0) A s s.heap := ⟨h1, h2, h3, h4⟩
  exact eTx.narrow (eTx.kept h5 hS.2.1) (eSub hsel hX hD hS)
/-- a text out of the caller's own world, of which the callee has nothing -/
theorem eRd.world {i j N : Nat} {f : Int → Int} {v2 v3 : Value} (hsel : ρ.map (fun i => cs[i]?) = cs0.map some) (hi : cs[i]? = some (.inr (8, [.ref (a j), vi 0, v2, v3]))) (hj : cs[j]? = some (eI 3 N f)) (hni : i ∉ ρ) (hnj : j ∉ ρ) (hN : N < 2147483648) :
    eRd K a cs ρ cs0 (some (.inr (a i, a j, N, fun k => Int32.ofInt (f (k : Int))))) := by
  intro G A p l s m args meth c H locs hX hP hD hS
  have hts := hX.2.2.2.2.2.2.2.1
  have hK := hX.2.2.2.2.2.2.2.2.1.1
  have out : ∀ (k : Nat) (x : eE), cs[k]? = some x → k ∉ ρ → a k < H.size → ¬ va_A (eW G (fun k => a (eR ρ k)) cs0) H.size (a k) := by
    intro k x hk hn hl h
    rcases h with ⟨j', x', h⟩ | h
    · obtain ⟨c1, hc1, hx⟩ := eW_in h
      obtain ⟨k', g1, g2, g3⟩ := eSel_at hsel hc1
      have e1 : a k = a (eR ρ j') := congrArg Prod.fst hx
      rw [g3] at e1
      have := hD.1 k k' _ _ (eW_at hk) (eW_at g2) e1
      subst this
      exact hn (List.mem_of_getElem? g1)
    · omega
  have hci := hP i _ (eW_at hi)
  have hcj := hP j _ (eW_at hj)
  obtain ⟨r, h1, cell, q1, q2, q3, q4⟩ := hci
  have hr : r = (RJ0, TJ0, 4) := Option.some.inj (h1.symm.trans rfl)
  subst hr
  have li : a i < H.size := (Array.getElem?_eq_some_iff.mp q1).1
  have lj : a j < H.size := (Array.getElem?_eq_some_iff.mp (show H[a j]? = some (vp_cell _ _) from hcj)).1
  have oi := out i _ hi hni li
  have oj := out j _ hj hnj lj
  obtain ⟨hSl, hfc, kC, hkC, hkind⟩ := hK.1 8 (RJ0, TJ0, 4) rfl
  have fld : ∀ (k : Nat) (v : Value), k < 4 → ([.ref (a j), vi 0, v2, v3] : List Value)[k]? = some v → va_OF (TJ0 k).1 (TJ0 k).2.1 (TJ0 k).2.2.1 v (a i) (va_A (eW G (fun k => a (eR ρ k)) cs0) H.size) s H := by
    intro k v hk hv
    obtain ⟨cf, kf, fi, f9, hi9, hsl⟩ := hSl k hk
    refine ⟨cf, kf, fi, f9, cell, hi9, (u_facts hfc hkC (u_lays hts inJ0 hk) hi9).1, q1, (by rw [q3]; exact fun h => (by cases h)), ?_, oi⟩
    rw [hsl, q4 k hk]
    simp [vp_V, hv]
  refine ⟨⟨cell, q1, by rw [q3]; rfl, by rw [q2]; exact hfc, oi⟩, fld 1 _ (by decide) rfl, fld 0 _ (by decide) rfl, ?_⟩
  refine ⟨_, (show H[a j]? = some (vp_cell _ _) from hcj), ?_, fun h => (by cases h), ?_, ?_, ?_, oj⟩
  · exact (hK.2 3 (G.2 3, .byte) (eTys_at rfl)).1 N (fun k => .int (Int32.ofInt (f (k : Int))))
  · show N ≤ (arrV _ _ _).slots.size; rw [arrV_size]; exact Nat.le_refl _
  · show (arrV _ _ _).slots.size.toInt32 = _; rw [arrV_size]
  · intro k hk; show (arrV _ _ _).slots[k]? = _; rw [arrV_read _ _ hk]
theorem ePreX (hx : eRd K a cs ρ cs0 x2) (hsel : ρ.map (fun i => cs[i]?) = cs0.map some) (hnd : va_nd ρ = true)
    {G : eG} {A : Nat → Prop} {p : Program} {l : Launch} {s : State} {m : MethodId} {args : Array Value} {meth : Method} {c : Code} {H : Heap} {locs : List Loc}
    (hX : eX K.2.2.2 G A K.1 p l s m args meth c) (hP : va_P G.1 eCl (eW G a cs) H) (hD : va_D A (eW G a cs)) (hS : va_S A s.heap H locs) :
    PreS s H (fun v U => v = av.toArray ∧ U.heap.size = H.size ∧ va_P G.1 eCl (eW G (fun k => a (eR ρ k)) cs0) U.heap ∧ va_D (fun _ => True) (eW G (fun k => a (eR ρ k)) cs0) ∧ eAmb K.2.2.2.1 G (va_A (eW G (fun k => a (eR ρ k)) cs0) H.size) U U.heap ∧ eSc (K.2.2.2.1, x2) (va_A (eW G (fun k => a (eR ρ k)) cs0) H.size) U) av := by
  have h := ePre (av := av) hsel hnd hX hP hD hS
  refine ⟨fun v U g mk q => ⟨q.1, q.2.1, q.2.2.1, q.2.2.2.1, eAmb.same (s := U) rfl q.2.2.2.2.1, eSc.same (s := U) rfl rfl q.2.2.2.2.2⟩, fun U hU hW => ?_⟩
  obtain ⟨h1, h2, h3, h4, h5⟩ := h.2 U hU hW
  refine ⟨h1, h2, h3, h4, h5, ?_⟩
  have h6 := hx G A p l s m args meth c H locs hX hP hD hS
  cases x2 with
  | none => trivial
  | some x =>
    show eSa x _ U U.heap
    rw [hU]
    exact eSa.moved hW.alike h6
/-- by invokestatic -/
theorem e_xS {idx nA : Nat} (hw : eLkS K.1.1.cls idx M1 nA) (hh : M1.2.2.2.2 = []) (d : decode K.1.2.1 pc = .ok (.invokestatic idx, 3)) (hn : pc + 3 = n)
    (hM : EMx (K.2.2.2.1, x2) M1 R1 (fun k => a (eR ρ k)) av cs0 Q1) (hx : eRd K a cs ρ cs0 x2) (hst : st = av.reverse ++ rest) (hlen : av.length = nA) (hcat : (rest.map fun v => v.category).sum ≤ 8)
    (hfr : R1.frames + 1 ≤ K.2.1.frames) (hlo : 8 + (M1.2.2.1 + 11) + R1.locals ≤ K.2.1.locals) (b' : Nat × Nat) (hb : R1.cells + b'.1 ≤ b.1 ∧ R1.slots + b'.2 ≤ b.2)
    (hsel : ρ.map (fun i => cs[i]?) = cs0.map some) (hnd : va_nd ρ = true)
    (hN : ∀ o a1 cs1, Q1 o a1 cs1 → (∀ k, k < ρ.length → a1 k = a (eR ρ k)) ∧ ρ.length ≤ cs1.length)
    (kr : ∀ v a1 cs1, Q1 (.inl v) a1 cs1 → EV K (fun j => if j < cs.length then a j else a1 (ρ.length + (j - cs.length))) b' (eMrg cs ρ cs1 ++ cs1.drop ρ.length) n ls (v.toList ++ rest))
    (kx : ∀ E a1 cs1, Q1 (.inr E) a1 cs1 → EX K (fun j => if j < cs.length then a j else a1 (ρ.length + (j - cs.length))) b' (eMrg cs ρ cs1 ++ cs1.drop ρ.length) pc ls E) : EV K a b cs pc ls st := by
  subst hn
  intro G A p l e s m args below meth c H locs cells slots lsA hX hL hP hD hS hc hs
  have hts := hX.2.2.2.2.2.2.2.1
  have hpre := ePreX (av := av) hx hsel hnd hX hP hD hS
  refine eCont hnd hsel hX hL hP hD hS hc hs (as := av.toArray) ?_ b' hb hN kr kx
  exact vx_runS (ws := eWs M1) ⟨hX.1, hX.2.1, hX.2.2.1, hX.2.2.2.2.2.1, hts⟩ (hM l G H.size hX.2.2.2.2.2.2.2.2.2.1) (n := nA) ⟨eLk_codeB hh hw.1 hts hfr hlo, hts _ hw.2⟩ hpre rfl hlen hL.1 hst (by show 2 * 0 + _ ≤ 8; omega) d ⟨by omega, by omega⟩
/-- by invokevirtual, the receiver in the world -/
theorem e_xV {idx nA i ci q : Nat} {fs : List Value} {r : vw_C} (hw : eLkV K.1.1.cls idx M1 nA) (hh : M1.2.2.2.2 = []) (d : decode K.1.2.1 pc = .ok (.invokevirtual idx, 3)) (hn : pc + 3 = n)
    (hM : EMx (K.2.2.2.1, x2) M1 R1 (fun k => a (eR ρ k)) (.ref q :: av) cs0 Q1) (hx : eRd K a cs ρ cs0 x2) (hst : st = av.reverse ++ .ref q :: rest) (hlen : av.length = nA) (hcat : (rest.map fun v => v.category).sum ≤ 8)
    (hfr : R1.frames + 1 ≤ K.2.1.frames) (hlo : 8 + (M1.2.2.1 + 11) + R1.locals ≤ K.2.1.locals) (b' : Nat × Nat) (hb : R1.cells + b'.1 ≤ b.1 ∧ R1.slots + b'.2 ≤ b.2)
    (hsel : ρ.map (fun i => cs[i]?) = cs0.map some) (hnd : va_nd ρ = true) (hq : q = a i) (hci : cs[i]? = some (.inr (ci, fs))) (hcl : eCl[ci]? = some r) (hcn : r.1 = M1.1.cls)
    (hN : ∀ o a1 cs1, Q1 o a1 cs1 → (∀ k, k < ρ.length → a1 k = a (eR ρ k)) ∧ ρ.length ≤ cs1.length)
    (kr : ∀ v a1 cs1, Q1 (.inl v) a1 cs1 → EV K (fun j => if j < cs.length then a j else a1 (ρ.length + (j - cs.length))) b' (eMrg cs ρ cs1 ++ cs1.drop ρ.length) n ls (v.toList ++ rest))
    (kx : ∀ E a1 cs1, Q1 (.inr E) a1 cs1 → EX K (fun j => if j < cs.length then a j else a1 (ρ.length + (j - cs.length))) b' (eMrg cs ρ cs1 ++ cs1.drop ρ.length) pc ls E) : EV K a b cs pc ls st := by
  subst hn
  subst hq
  intro G A p l e s m args below meth c H locs cells slots lsA hX hL hP hD hS hc hs
  have hts := hX.2.2.2.2.2.2.2.1
  have hpre := ePreX (av := .ref (a i) :: av) hx hsel hnd hX hP hD hS
  refine eCont hnd hsel hX hL hP hD hS hc hs (as := (.ref (a i) :: av).toArray) ?_ b' hb hN kr kx
  refine vx_runV (ws := eWs M1) ⟨hX.1, hX.2.1, hX.2.2.1, hX.2.2.2.2.2.1, hts⟩ (hM l G H.size hX.2.2.2.2.2.2.2.2.2.1) (C := M1.1.cls) (n := nA) ⟨eLk_codeB hh hw.1 hts hfr hlo, hts _ hw.2.1, hts _ hw.2.2⟩ ⟨hpre.1, ?_, hpre.2⟩ rfl hlen hL.1 hst (by show 2 * 0 + _ ≤ 8; omega) d ⟨by omega, by omega⟩
  rw [← hcn]
  exact va_recv hX.2.2.2.2.2.2.2.2.1.1 hP hcl (eW_at hci)
/-- by invokevirtual, upon the text itself -/
theorem e_xT {idx nA q v0 m0 : Nat} {f0 : Nat → Int32} (hw : eLkV K.1.1.cls idx M1 nA) (hcl : M1.1.cls = "java/lang/String") (hh : M1.2.2.2.2 = []) (d : decode K.1.2.1 pc = .ok (.invokevirtual idx, 3)) (hn : pc + 3 = n)
    (hM : EMx (K.2.2.2.1, some (.inr (q, v0, m0, f0))) M1 R1 (fun k => a (eR ρ k)) (.ref q :: av) cs0 Q1) (hx : eRd K a cs ρ cs0 (some (.inr (q, v0, m0, f0)))) (hst : st = av.reverse ++ .ref q :: rest) (hlen : av.length = nA) (hcat : (rest.map fun v => v.category).sum ≤ 8)
    (hfr : R1.frames + 1 ≤ K.2.1.frames) (hlo : 8 + (M1.2.2.1 + 11) + R1.locals ≤ K.2.1.locals) (b' : Nat × Nat) (hb : R1.cells + b'.1 ≤ b.1 ∧ R1.slots + b'.2 ≤ b.2)
    (hsel : ρ.map (fun i => cs[i]?) = cs0.map some) (hnd : va_nd ρ = true)
    (hN : ∀ o a1 cs1, Q1 o a1 cs1 → (∀ k, k < ρ.length → a1 k = a (eR ρ k)) ∧ ρ.length ≤ cs1.length)
    (kr : ∀ v a1 cs1, Q1 (.inl v) a1 cs1 → EV K (fun j => if j < cs.length then a j else a1 (ρ.length + (j - cs.length))) b' (eMrg cs ρ cs1 ++ cs1.drop ρ.length) n ls (v.toList ++ rest))
    (kx : ∀ E a1 cs1, Q1 (.inr E) a1 cs1 → EX K (fun j => if j < cs.length then a j else a1 (ρ.length + (j - cs.length))) b' (eMrg cs ρ cs1 ++ cs1.drop ρ.length) pc ls E) : EV K a b cs pc ls st := by
  subst hn
  intro G A p l e s m args below meth c H locs cells slots lsA hX hL hP hD hS hc hs
  have hts := hX.2.2.2.2.2.2.2.1
  have hpre := ePreX (av := .ref q :: av) hx hsel hnd hX hP hD hS
  have hT : eTx q v0 m0 f0 (va_A (eW G (fun k => a (eR ρ k)) cs0) H.size) s H := hx G A p l s m args meth c H locs hX hP hD hS
  refine eCont hnd hsel hX hL hP hD hS hc hs (as := (.ref q :: av).toArray) ?_ b' hb hN kr kx
  refine vx_runV (ws := eWs M1) ⟨hX.1, hX.2.1, hX.2.2.1, hX.2.2.2.2.2.1, hts⟩ (hM l G H.size hX.2.2.2.2.2.2.2.2.2.1) (C := M1.1.cls) (n := nA) ⟨eLk_codeB hh hw.1 hts hfr hlo, hts _ hw.2.1, hts _ hw.2.2⟩ ⟨hpre.1, ?_, hpre.2⟩ rfl hlen hL.1 hst (by show 2 * 0 + _ ≤ 8; omega) d ⟨by omega, by omega⟩
  rw [hcl]
  obtain ⟨cell, h1, h2, h3, -⟩ := hT.1
  exact ⟨cell, h1, h2, h3⟩
/-- by invokevirtual, a method of a class above -/
theorem e_xU {idx nA i ci q : Nat} {fs : List Value} {r : vw_C} {C : String} (hw : eLkU K.1.1.cls idx Mx M1 C nA) (hh : M1.2.2.2.2 = []) (hhx : Mx.2.2.2.2 = []) (d : decode K.1.2.1 pc = .ok (.invokevirtual idx, 3)) (hn : pc + 3 = n)
    (hM : EMx (K.2.2.2.1, x2) M1 R1 (fun k => a (eR ρ k)) (.ref q :: av) cs0 Q1) (hx : eRd K a cs ρ cs0 x2) (hst : st = av.reverse ++ .ref q :: rest) (hlen : av.length = nA) (hcat : (rest.map fun v => v.category).sum ≤ 8)
    (hfr : R1.frames + 1 ≤ K.2.1.frames) (hlo : 8 + (M1.2.2.1 + 11) + R1.locals ≤ K.2.1.locals) (b' : Nat × Nat) (hb : R1.cells + b'.1 ≤ b.1 ∧ R1.slots + b'.2 ≤ b.2)
    (hsel : ρ.map (fun i => cs[i]?) = cs0.map some) (hnd : va_nd ρ = true) (hq : q = a i) (hci : cs[i]? = some (.inr (ci, fs))) (hcl : eCl[ci]? = some r) (hcn : r.1 = C)
    (hN : ∀ o a1 cs1, Q1 o a1 cs1 → (∀ k, k < ρ.length → a1 k = a (eR ρ k)) ∧ ρ.length ≤ cs1.length)
    (kr : ∀ v a1 cs1, Q1 (.inl v) a1 cs1 → EV K (fun j => if j < cs.length then a j else a1 (ρ.length + (j - cs.length))) b' (eMrg cs ρ cs1 ++ cs1.drop ρ.length) n ls (v.toList ++ rest))
    (kx : ∀ E a1 cs1, Q1 (.inr E) a1 cs1 → EX K (fun j => if j < cs.length then a j else a1 (ρ.length + (j - cs.length))) b' (eMrg cs ρ cs1 ++ cs1.drop ρ.length) pc ls E) : EV K a b cs pc ls st := by
  subst hn
  subst hq
  intro G A p l e s m args below meth c H locs cells slots lsA hX hL hP hD hS hc hs
  have hts := hX.2.2.2.2.2.2.2.1
  have hpre := ePreX (av := .ref (a i) :: av) hx hsel hnd hX hP hD hS
  obtain ⟨w1, w2, w3, w4, w5, w6, w7, w8, w9⟩ := hw
  have hm : mWord M1 = .code M1.1 M1.2.1 M1.2.2.1 M1.2.2.2.1 := by unfold mWord; rw [hh]
  have hmx : mWord Mx = .code Mx.1 Mx.2.1 Mx.2.2.1 Mx.2.2.2.1 := by unfold mWord; rw [hhx]
  refine eCont hnd hsel hX hL hP hD hS hc hs (as := (.ref (a i) :: av).toArray) ?_ b' hb hN kr kx
  refine vx_runU (ws := eWs M1) (C := C) (owner := Mx.1.cls) (x := Mx.1) (n := nA) ⟨hX.1, hX.2.1, hX.2.2.1, hX.2.2.2.2.2.1, hts⟩ (hM l G H.size hX.2.2.2.2.2.2.2.2.2.1)
    ⟨⟨rfl, rfl, hfr, hlo, pay_in hts (eWs_good w3), by unfold eWs; rw [hm]; exact List.mem_cons_self⟩, by rw [← hm]; exact hts _ w3, hts _ w2, w4.1, fun sig h => ?_, hts _ w1, hts _ w5, va_Decl.of (hts _ w6) (by rw [hmx] at w7; exact hts _ w7), hts _ w8, hts _ w9⟩ ⟨hpre.1, ?_, hpre.2⟩ rfl hlen hL.1 hst (by show 2 * 0 + _ ≤ 8; omega) d ⟨by omega, by omega⟩
  · have h2 := w4.2
    rw [h] at h2
    exact (Option.some.inj h2).symm
  · rw [← hcn]
    exact va_recv hX.2.2.2.2.2.2.2.2.1.1 hP hcl (eW_at hci)
/-- super.m(..) -/
theorem e_xP {idx nA i ci q : Nat} {fs : List Value} {r : vw_C} (hw : eLkSU K.1.1.cls idx M1 nA) (hh : M1.2.2.2.2 = []) (d : decode K.1.2.1 pc = .ok (.invokespecial idx, 3)) (hn : pc + 3 = n)
    (hM : EMx (K.2.2.2.1, x2) M1 R1 (fun k => a (eR ρ k)) (.ref q :: av) cs0 Q1) (hx : eRd K a cs ρ cs0 x2) (hst : st = av.reverse ++ .ref q :: rest) (hlen : av.length = nA) (hcat : (rest.map fun v => v.category).sum ≤ 8)
    (hfr : R1.frames + 1 ≤ K.2.1.frames) (hlo : 8 + (M1.2.2.1 + 11) + R1.locals ≤ K.2.1.locals) (b' : Nat × Nat) (hb : R1.cells + b'.1 ≤ b.1 ∧ R1.slots + b'.2 ≤ b.2)
    (hsel : ρ.map (fun i => cs[i]?) = cs0.map some) (hnd : va_nd ρ = true) (hq : q = a i) (hci : cs[i]? = some (.inr (ci, fs))) (hcl : eCl[ci]? = some r)
    (hN : ∀ o a1 cs1, Q1 o a1 cs1 → (∀ k, k < ρ.length → a1 k = a (eR ρ k)) ∧ ρ.length ≤ cs1.length)
    (kr : ∀ v a1 cs1, Q1 (.inl v) a1 cs1 → EV K (fun j => if j < cs.length then a j else a1 (ρ.length + (j - cs.length))) b' (eMrg cs ρ cs1 ++ cs1.drop ρ.length) n ls (v.toList ++ rest))
    (kx : ∀ E a1 cs1, Q1 (.inr E) a1 cs1 → EX K (fun j => if j < cs.length then a j else a1 (ρ.length + (j - cs.length))) b' (eMrg cs ρ cs1 ++ cs1.drop ρ.length) pc ls E) : EV K a b cs pc ls st := by
  subst hn
  subst hq
  intro G A p l e s m args below meth c H locs cells slots lsA hX hL hP hD hS hc hs
  have hts := hX.2.2.2.2.2.2.2.1
  have hpre := ePreX (av := .ref (a i) :: av) hx hsel hnd hX hP hD hS
  obtain ⟨⟨w1, w2, w3, w4, w5⟩, w6, w7, w8, w9⟩ := hw
  have hm : mWord M1 = .code M1.1 M1.2.1 M1.2.2.1 M1.2.2.2.1 := by unfold mWord; rw [hh]
  refine eCont hnd hsel hX hL hP hD hS hc hs (as := (.ref (a i) :: av).toArray) ?_ b' hb hN kr kx
  have hrv := va_recv hX.2.2.2.2.2.2.2.2.1.1 hP hcl (eW_at hci)
  have hat : ClassAt s r.1 (G.1.1 ci) := (hX.2.2.2.2.2.2.2.2.1.1.1 ci r hcl).2
  refine vx_runSU (ws := eWs M1) (C := r.1) hat (n := nA) ⟨hX.1, hX.2.1, hX.2.2.1, hX.2.2.2.2.2.1, hts⟩ (hM l G H.size hX.2.2.2.2.2.2.2.2.2.1)
    ⟨⟨rfl, rfl, hfr, hlo, pay_in hts (eWs_good w3), by unfold eWs; rw [hm]; exact List.mem_cons_self⟩, hts _ w1, hts _ w6, hts _ w7, hts _ w8, hts _ w2, by rw [← hm]; exact hts _ w3, w9, fun sig h => ?_⟩ ⟨hpre.1, hrv, hpre.2⟩ rfl hlen hL.1 hst (by show 2 * 0 + _ ≤ 8; omega) d ⟨by omega, by omega⟩
  have h2 := w5
  rw [h] at h2
  exact (Option.some.inj h2).symm
/-- by invokespecial, a constructor -/
theorem e_xI {idx nA q : Nat} (hw : eLkI K.1.1.cls idx M1 nA) (hh : M1.2.2.2.2 = []) (hrt : M1.2.2.2.1 = none) (d : decode K.1.2.1 pc = .ok (.invokespecial idx, 3)) (hn : pc + 3 = n)
    (hM : EMx (K.2.2.2.1, x2) M1 R1 (fun k => a (eR ρ k)) (.ref q :: av) cs0 Q1) (hx : eRd K a cs ρ cs0 x2) (hst : st = av.reverse ++ .ref q :: rest) (hlen : av.length = nA) (hcat : (rest.map fun v => v.category).sum ≤ 8)
    (hfr : R1.frames + 1 ≤ K.2.1.frames) (hlo : 8 + (M1.2.2.1 + 11) + R1.locals ≤ K.2.1.locals) (b' : Nat × Nat) (hb : R1.cells + b'.1 ≤ b.1 ∧ R1.slots + b'.2 ≤ b.2)
    (hsel : ρ.map (fun i => cs[i]?) = cs0.map some) (hnd : va_nd ρ = true)
    (hN : ∀ o a1 cs1, Q1 o a1 cs1 → (∀ k, k < ρ.length → a1 k = a (eR ρ k)) ∧ ρ.length ≤ cs1.length)
    (kr : ∀ v a1 cs1, Q1 (.inl v) a1 cs1 → EV K (fun j => if j < cs.length then a j else a1 (ρ.length + (j - cs.length))) b' (eMrg cs ρ cs1 ++ cs1.drop ρ.length) n ls (v.toList ++ rest))
    (kx : ∀ E a1 cs1, Q1 (.inr E) a1 cs1 → EX K (fun j => if j < cs.length then a j else a1 (ρ.length + (j - cs.length))) b' (eMrg cs ρ cs1 ++ cs1.drop ρ.length) pc ls E) : EV K a b cs pc ls st := by
  subst hn
  intro G A p l e s m args below meth c H locs cells slots lsA hX hL hP hD hS hc hs
  have hts := hX.2.2.2.2.2.2.2.1
  have hpre := ePreX (av := .ref q :: av) hx hsel hnd hX hP hD hS
  have hB := eLk_codeB (R1 := R1) hh hw.1 hts hfr hlo
  rw [hrt] at hB
  refine eCont hnd hsel hX hL hP hD hS hc hs (as := (.ref q :: av).toArray) ?_ b' hb hN kr kx
  exact vx_runI (ws := eWs M1) ⟨hX.1, hX.2.1, hX.2.2.1, hX.2.2.2.2.2.1, hts⟩ (hM l G H.size hX.2.2.2.2.2.2.2.2.2.1) (n := nA) ⟨hB, hw.2.2, hts _ hw.2.1⟩ hpre rfl hlen hL.1 hst (by show 2 * 0 + _ ≤ 8; omega) d ⟨by omega, by omega⟩
/-- what lies behind in the world is let go -/
theorem EV.less {t : List eE} (k : EV K a b cs pc ls st) : EV K a b (cs ++ t) pc ls st := by
  intro G A p l e s m args below meth c H locs cells slots lsA hX hL hP hD hS hc hs
  have at' : ∀ (i : Nat) (q : Nat × va_E), (eW G a cs)[i]? = some q → (eW G a (cs ++ t))[i]? = some q := by
    intro i q h
    obtain ⟨c1, hc1, rfl⟩ := eW_in h
    exact eW_at (by rw [List.getElem?_append_left (List.getElem?_eq_some_iff.mp hc1).1]; exact hc1)
  exact k G A p l e s m args below meth c H locs cells slots lsA hX hL (fun i q h => hP i q (at' i q h)) ⟨fun i j p q h1 h2 => hD.1 i j p q (at' i p h1) (at' j q h2), fun i q h => hD.2 i q (at' i q h)⟩ hS hc hs
/-- less is had than there is -/
theorem EV.fewer {b1 : Nat × Nat} (h : b1.1 ≤ b.1 ∧ b1.2 ≤ b.2) (k : EV K a b1 cs pc ls st) : EV K a b cs pc ls st := by
  intro G A p l e s m args below meth c H locs cells slots lsA hX hL hP hD hS hc hs
  exact k G A p l e s m args below meth c H locs cells slots lsA hX hL hP hD hS (by omega) (by omega)
def eAs (a : Nat → Nat) (n q : Nat) : Nat → Nat := fun j => if j = n then q else a j
theorem eAs_lt {a : Nat → Nat} {n q k : Nat} (h : k < n) : eAs a n q k = a k := if_neg (by omega)
theorem eAs_at {a : Nat → Nat} {n q : Nat} : eAs a n q n = q := if_pos rfl
theorem eAd_of {a : Nat → Nat} {m k : Nat} (h : k < m) : a k = eAd ((List.range m).map a) k := by simp [eAd, List.getD, h]
theorem eAd_as {a : Nat → Nat} {m q k : Nat} (h : k < m + 1) : eAd ((List.range m).map a ++ [q]) k = eAs a m q k := by
  by_cases hk : k < m
  · rw [eAd_lt (by simpa using hk), ← eAd_of hk, eAs_lt hk]
  · have : k = m := by omega
    subst this
    rw [eAs_at]
    simp [eAd, List.getD]
theorem e_newG {idx ci N : Nat} {fs : List Value} (w : eNw K.1.1.cls idx ci N fs) (d : decode K.1.2.1 pc = .ok (.new idx, 3)) (hn : pc + 3 = n) (b' : Nat × Nat) (hb : 1 + b'.1 ≤ b.1 ∧ N + b'.2 ≤ b.2)
    (k : ∀ q, EV K (eAs a cs.length q) b' (cs ++ [.inr (ci, fs)]) n ls (.ref q :: st)) : EV K a b cs pc ls st := by
  refine EV.cong (a' := eAd ((List.range cs.length).map a)) (fun k hk => eAd_of hk) ?_
  refine e_new w d hn (by simp) b' hb (fun q => ?_)
  exact EV.cong (fun k hk => eAd_as (by simpa using hk)) (k q)
theorem e_newarrayG {ar : ArrayType} {ty : FieldType} {t N : Nat} {x : vp_A} (hw : Cond.arrayClass (newarray.typeOf ar) ∈ eTB) (hty : newarray.typeOf ar = ty) (ht : eTy[t]? = some ty) (hnr : ∀ C, ty ≠ .object C) (hx : ∀ cA : ClassId, vp_cell cA x = arrV cA N (fun _ => defaultValue ty))
    (d : decode K.1.2.1 pc = .ok (.newarray ar, 2)) (hn : pc + 2 = n) (hN : N ≤ 2147483647) (hby : N * componentBytes ty ≤ 536870912) (b' : Nat × Nat) (hb : 1 + b'.1 ≤ b.1 ∧ N + b'.2 ≤ b.2)
    (k : ∀ q, EV K (eAs a cs.length q) b' (cs ++ [.inl (t, x)]) n ls (.ref q :: st)) : EV K a b cs pc ls (vi (N : Int) :: st) := by
  refine EV.cong (a' := eAd ((List.range cs.length).map a)) (fun k hk => eAd_of hk) ?_
  refine e_newarray hw hty ht hnr hx d hn hN hby (by simp) b' hb (fun q => ?_)
  exact EV.cong (fun k hk => eAd_as (by simpa using hk)) (k q)
theorem e_iushr {x : Int32} {y : Int} {v : Int32} (d : decode K.1.2.1 pc = .ok (.iushr, 1)) (hn : pc + 1 = n) (hv : (x.toUInt32 >>> ((Int32.ofInt y).toUInt32 &&& Int32.toUInt32 31)).toInt32 = v) (k : EV K a b cs n ls (.int v :: st)) : EV K a b cs pc ls (vi y :: .int x :: st) := by
  subst hn
  exact EV.pure (fun p l e R s m args below meth c H locs cells slots Q lsA hx hb hL k => lv_iushr hx hb d hv k) k
theorem e_ifnonnull {x t : Nat} {off : Int} (d : decode K.1.2.1 pc = .ok (.ifnonnull off, 3)) (ht : (pc : Int) + off = (t : Int)) (k : EV K a b cs t ls st) : EV K a b cs pc ls (.ref x :: st) := by
  exact EV.pure (fun p l e R s m args below meth c H locs cells slots Q lsA hx hb hL k => lv_ifnonnull hx hb d ht k) k
theorem e_anull (d : decode K.1.2.1 pc = .ok (.aconst_null, 1)) (hn : pc + 1 = n) (k : EV K a b cs n ls (.null :: st)) : EV K a b cs pc ls st := by
  subst hn
  exact EV.pure (fun p l e R s m args below meth c H locs cells slots Q lsA hx hb hL k => lv_null hx hb d k) k
theorem e_aretA {q : Nat} {ty : FieldType} (d : decode K.1.2.1 pc = .ok (.areturn, 1)) (hr : K.1.2.2.2.1 = some (.array ty)) (hQ : K.2.2.1 (.inl (some (.ref q))) a cs) : EV K a b cs pc ls [.ref q] :=
  EV.end _ hQ fun p l e R s m args below meth c H locs cells slots lsA Qc free hx hb hrt hlk hq hf => W.aret hx hb (hrt.trans hr) (Or.inr ⟨_, rfl⟩) (Or.inr ⟨_, rfl⟩) hq hf d hlk
/-! the text that stands beside -/
theorem eTx_of {q v0 m0 : Nat} {f0 : Nat → Int32} {G : eG} {A : Nat → Prop} {p : Program} {l : Launch} {s : State} {m : MethodId} {args : Array Value} {meth : Method} {c : Code} (hsc : K.2.2.2.2 = some (.inr (q, v0, m0, f0))) (hX : eX K.2.2.2 G A K.1 p l s m args meth c) : eTx q v0 m0 f0 A s s.heap := by
  have h := hX.2.2.2.2.2.2.2.2.2.2.2.2
  unfold eSc at h
  rw [hsc] at h
  exact h
theorem e_tval {q v0 m0 idx : Nat} {f0 : Nat → Int32} (hsc : K.2.2.2.2 = some (.inr (q, v0, m0, f0))) (w : Cond.fieldLink K.1.1.cls idx "java/lang/String" "value" "[B" ∈ eTB) (d : decode K.1.2.1 pc = .ok (.getfield idx, 3)) (hn : pc + 3 = n) (k : EV K a b cs n ls (.ref v0 :: st)) : EV K a b cs pc ls (.ref q :: st) := by
  subst hn
  intro G A p l e s m args below meth c H locs cells slots lsA hX hL hP hD hS hc hs
  exact vk_getf hX.1 hX.2.1 (eTx_of hsc hX).2.2.1 hS hX.2.2.2.2.2.1 (hX.2.2.2.2.2.2.2.1 _ w) (fun x h => h) d (k G A p l e s m args below meth c H locs cells slots lsA hX hL hP hD hS hc hs)
theorem e_tcod {q v0 m0 idx : Nat} {f0 : Nat → Int32} (hsc : K.2.2.2.2 = some (.inr (q, v0, m0, f0))) (w : Cond.fieldLink K.1.1.cls idx "java/lang/String" "coder" "B" ∈ eTB) (d : decode K.1.2.1 pc = .ok (.getfield idx, 3)) (hn : pc + 3 = n) (k : EV K a b cs n ls (vi 0 :: st)) : EV K a b cs pc ls (.ref q :: st) := by
  subst hn
  intro G A p l e s m args below meth c H locs cells slots lsA hX hL hP hD hS hc hs
  exact vk_getf hX.1 hX.2.1 (eTx_of hsc hX).2.1 hS hX.2.2.2.2.2.1 (hX.2.2.2.2.2.2.2.1 _ w) (fun x h => h) d (k G A p l e s m args below meth c H locs cells slots lsA hX hL hP hD hS hc hs)
theorem e_tlen {q v0 m0 : Nat} {f0 : Nat → Int32} (hsc : K.2.2.2.2 = some (.inr (q, v0, m0, f0))) (d : decode K.1.2.1 pc = .ok (.arraylength, 1)) (hn : pc + 1 = n) (k : EV K a b cs n ls (vi (m0 : Int) :: st)) : EV K a b cs pc ls (.ref v0 :: st) := by
  subst hn
  intro G A p l e s m args below meth c H locs cells slots lsA hX hL hP hD hS hc hs
  exact va_tlen hX.1 hX.2.1 (eTx_of hsc hX).2.2.2 hS (v := Int32.ofInt (m0 : Int)) (by rw [oI_bv]; rfl) d (k G A p l e s m args below meth c H locs cells slots lsA hX hL hP hD hS hc hs)
theorem e_tbal {q v0 m0 : Nat} {z : Int} {f0 : Nat → Int32} (hsc : K.2.2.2.2 = some (.inr (q, v0, m0, f0))) (hz : 0 ≤ z ∧ z < m0) (hm : m0 ≤ 2147483647) (d : decode K.1.2.1 pc = .ok (.baload, 1)) (hn : pc + 1 = n) (k : EV K a b cs n ls (.int (f0 z.toNat) :: st)) : EV K a b cs pc ls (vi z :: .ref v0 :: st) := by
  subst hn
  intro G A p l e s m args below meth c H locs cells slots lsA hX hL hP hD hS hc hs
  refine va_tb hX.1 hX.2.1 (eTx_of hsc hX).2.2.2 hS (oI_in hz hm) (v := .int (f0 z.toNat)) ?_ d (k G A p l e s m args below meth c H locs cells slots lsA hX hL hP hD hS hc hs)
  rw [oI_nat (by omega)]
theorem e_tcopy {idx i M q v0 m0 q1 : Nat} {f0 : Nat → Int32} {f : Int → Int} {g : Int → Int} {dp : Int} (hsc : K.2.2.2.2 = some (.inr (q, v0, m0, f0))) (w : eCp K.1.1.cls idx) (d : decode K.1.2.1 pc = .ok (.invokestatic idx, 3)) (hn : pc + 3 = n) (hq : q1 = a i) (hi : cs[i]? = some (eI 3 M g)) (h2 : 0 ≤ dp ∧ dp + m0 ≤ M) (hM : M ≤ 1000000)
    (hf : ∀ j : Nat, f0 j = Int32.ofInt (f (j : Int))) (hfit : ∀ j : Nat, j < m0 → 0 ≤ f j ∧ f j ≤ 127) (hfr : 1 ≤ K.2.1.frames) (hlo : (st.map fun v => v.category).sum + (nativeFrameWords "java/lang/System" "arraycopy" 5 + 11) ≤ K.2.1.locals)
    (k : EV K a b (cs.set i (eI 3 M (eCy f g 0 dp m0))) n ls st) : EV K a b cs pc ls (vi (m0 : Int) :: vi dp :: .ref q1 :: vi 0 :: .ref v0 :: st) := by
  subst hn; subst hq
  obtain ⟨w1, w2, w3, w4⟩ := w
  intro G A p l e s me args below meth c H locs cells slots lsA hX hL hP hD hS hc hs
  have hts := hX.2.2.2.2.2.2.2.1
  have hneg : ∀ z : Int, 0 ≤ z → z ≤ 1000000 → ¬ Int32.ofInt z < 0 := fun z h h' => by rw [← oI_z, oI_lt (by omega) (by omega)]; omega
  have hT := (eTx_of hsc hX).2.2.2
  have ef0 : f0 = fun j : Nat => Int32.ofInt (f (j : Int)) := funext hf
  rw [ef0] at hT
  refine vk_copyt hX.1 hX.2.1 (hX.2.2.1.trans hL.1.symm) hX.2.2.2.2.2.1 (hts _ w1) (hts _ w2) (hts _ w3) (hts _ w4) hX.2.2.2.2.2.2.2.2.1.1 hP hD hS hT i 3 (eW_at hi) (eTys_at rfl) (hneg 0 (by omega) (by omega)) (hneg _ h2.1 (by omega)) (hneg _ (by omega) (by omega))
    (by rw [oI_nat (by omega), oI_nat (by omega)]; omega) (by rw [oI_nat (by omega), oI_nat (by omega)]; omega) (fun j hj => ?_) hfr hlo d (fun H1 locs1 hP1 hD1 hS1 => ?_)
  · rw [oI_nat (by omega)] at hj
    rw [oI_nat (by omega)]
    have hb := hfit j (by omega)
    show fits .byte (.int (Int32.ofInt (f (((0 : Int).toNat + j : Nat) : Int)))) = true
    rw [show (((0 : Int).toNat + j : Nat) : Int) = (j : Int) by omega]
    exact fits_byte hb
  · have ef : va_cpy (fun j : Nat => Int32.ofInt (f (j : Int))) (fun j : Nat => Int32.ofInt (g (j : Int))) (Int32.ofInt 0).toNatClampNeg (Int32.ofInt dp).toNatClampNeg (Int32.ofInt (m0 : Int)).toNatClampNeg = (fun j : Nat => Int32.ofInt (eCy f g 0 dp m0 (j : Int))) := by
      rw [oI_nat (by omega), oI_nat (by omega), oI_nat (by omega)]
      funext z
      unfold va_cpy eCy
      by_cases hz : dp ≤ (z : Int) ∧ (z : Int) < dp + m0
      · have e9 : (((0 : Int).toNat + (z - dp.toNat) : Nat) : Int) = 0 + ((z : Int) - dp) := by omega
        rw [if_pos hz, if_pos (by omega)]
        dsimp only
        rw [e9]
      · rw [if_neg hz, if_neg (by omega)]
    rw [ef] at hP1 hD1
    have es : eW G a (cs.set i (eI 3 M (eCy f g 0 dp m0))) = (eW G a cs).set i (a i, eC G (eI 3 M (eCy f g 0 dp m0))) := eW_set
    exact k G A p l e s me args below meth c H1 locs1 cells slots lsA hX hL (by rw [es]; exact hP1) (by rw [es]; exact hD1) hS1 hc hs
/-! statics -/
theorem e_getsC {idx : Nat} (w : Cond.fieldLink K.1.1.cls idx "java/lang/String" "COMPACT_STRINGS" "Z" ∈ eTB) (d : decode K.1.2.1 pc = .ok (.getstatic idx, 3)) (hn : pc + 3 = n) (k : EV K a b cs n ls (vi 1 :: st)) : EV K a b cs pc ls st := by
  subst hn
  intro G A p l e s m args below meth c H locs cells slots lsA hX hL hP hD hS hc hs
  have hts := hX.2.2.2.2.2.2.2.1
  have hE := hX.2.2.2.2.2.2.2.2.1.2.2.2.2.2.2.2.2.2.2.1
  exact va_gets hX.1 hX.2.1 hE hS hX.2.2.2.2.2.1 (hts _ w) (fun x h => h) d (k G A p l e s m args below meth c H locs cells slots lsA hX hL hP hD hS hc hs)
theorem e_getsF {idx : Nat} (w : Cond.fieldLink K.1.1.cls idx "jdk/internal/util/Preconditions" "SIOOBE_FORMATTER" "Ljava/util/function/BiFunction;" ∈ eTB) (d : decode K.1.2.1 pc = .ok (.getstatic idx, 3)) (hn : pc + 3 = n) (k : ∀ v : Value, v.category = 1 → EV K a b cs n ls (v :: st)) : EV K a b cs pc ls st := by
  subst hn
  intro G A p l e s m args below meth c H locs cells slots lsA hX hL hP hD hS hc hs
  have hts := hX.2.2.2.2.2.2.2.1
  rcases hX.2.2.2.2.2.2.2.2.1.2.2.2.2.2.2.2.2.2.2.2.1 with hE | ⟨t, hE⟩
  · exact va_gets hX.1 hX.2.1 hE hS hX.2.2.2.2.2.1 (hts _ w) (fun x h => h) d (k _ rfl G A p l e s m args below meth c H locs cells slots lsA hX hL hP hD hS hc hs)
  · exact va_gets hX.1 hX.2.1 hE hS hX.2.2.2.2.2.1 (hts _ w) (fun x h => h) d (k _ rfl G A p l e s m args below meth c H locs cells slots lsA hX hL hP hD hS hc hs)
theorem e_getsD {idx : Nat} (w : Cond.fieldLink K.1.1.cls idx "java/lang/Integer" "DigitOnes" "[B" ∈ eTB) (d : decode K.1.2.1 pc = .ok (.getstatic idx, 3)) (hn : pc + 3 = n) (k : EV K a b cs n ls (.ref (K.2.2.2.1 22) :: st)) : EV K a b cs pc ls st := by
  subst hn
  intro G A p l e s m args below meth c H locs cells slots lsA hX hL hP hD hS hc hs
  have hts := hX.2.2.2.2.2.2.2.1
  have hE := hX.2.2.2.2.2.2.2.2.1.2.2.2.2.2.2.2.2.2.2.2.2.2.1
  exact va_gets hX.1 hX.2.1 hE hS hX.2.2.2.2.2.1 (hts _ w) (fun x h => h) d (k G A p l e s m args below meth c H locs cells slots lsA hX hL hP hD hS hc hs)
theorem e_digit {z : Int} (hz : 0 ≤ z ∧ z < 10) (d : decode K.1.2.1 pc = .ok (.baload, 1)) (hn : pc + 1 = n) (k : EV K a b cs n ls (vi (48 + z) :: st)) : EV K a b cs pc ls (vi z :: .ref (K.2.2.2.1 22) :: st) := by
  subst hn
  intro G A p l e s m args below meth c H locs cells slots lsA hX hL hP hD hS hc hs
  have hE := hX.2.2.2.2.2.2.2.2.1.2.2.2.2.2.2.2.2.2.2.2.2.2.2
  refine va_tb hX.1 hX.2.1 hE hS (oI_in (n := 100) (by omega) (by decide)) (v := vi (48 + z)) ?_ d (k G A p l e s m args below meth c H locs cells slots lsA hX hL hP hD hS hc hs)
  rw [oI_nat (by omega)]
  have e : z.toNat % 10 = z.toNat := by omega
  rw [e]
  show Value.int (Int32.ofNat (48 + z.toNat)) = Value.int (Int32.ofInt (48 + z))
  rw [show (48 + z : Int) = ((48 + z.toNat : Nat) : Int) by omega, oI_bv]
  rfl
end EVX
