/-! ===== EV: a method's entry and its ends ===== -/
theorem EM.of {X : eXT} {M : mE} {R : Room} {a : Nat → Nat} {av : List Value} {cs : List eE} {Q : ePo} (hpl : plainName M.1.cls = true) (hav : av.all (fun v => v.category == 1) = true) (hn : av.length ≤ M.2.2.1)
    (k : EV (M, R, Q, X) a (R.cells, R.slots) cs 0 (eIni av M.2.2.1) []) : EM X M R a av cs Q := by
  intro l G sz hl hXn
  have key : ∀ p e s m args below meth c s₁, BodyLoose p l M.1 (headSpec (eWs M) R) M.2.1 M.2.2.1 M.2.2.2.1 e s m args below meth c s₁ → c.maxLocals = M.2.2.1 → c.exceptionTable.toList = tableOf M.2.2.2.2 →
      (args = av.toArray ∧ s.heap.size = sz ∧ va_P G.1 eCl (eW G a cs) s.heap ∧ va_D (fun _ => True) (eW G a cs) ∧ eAmb X.1 G (va_A (eW G a cs) sz) s s.heap) →
      W p l e R s m args below meth c s.heap [] 0 0 (vx_MQ below (eQc G (va_A (eW G a cs) sz) Q) (eXC G (va_A (eW G a cs) sz) Q) args s R.cells R.slots (va_A (eW G a cs) sz)) (entryFrame m args M.2.2.1) := by
    intro p e s m args below meth c s₁ B hml ht hv
    obtain ⟨rfl, rfl, hP, hD, hAm⟩ := hv
    rw [lg_entry_eq]
    have hts := atoms_spec (ws := eWs M) B.pre
    refine k G (va_A (eW G a cs) s.heap.size) p l e s m _ below meth c s.heap [] 0 0 _ ⟨B.exec, B.bytes, hml, B.returns, ht, findClass_of_methodNamed B.named, B.notSynchronized, fun w hw => hts w (List.mem_cons_of_mem _ hw), hAm, hl, fun q hq => Or.inr hq, (name_of_methodNamed B.named B.method).1, ?_⟩
      (eL_ini hav hn) hP hD.self va_S.rf (by show 0 + R.cells ≤ R.cells; omega) (by show 0 + R.slots ≤ R.slots; omega)
    unfold eSc
    rw [hXn]
    trivial
  obtain ⟨y, cc, n, rt, hh⟩ := M
  cases hh with
  | nil =>
    refine vx_ofW (cc := cc) (maxL := n) (ret := rt) (ws' := eTB) hpl rfl ?_
    intro p e s m args below meth c s₁ B hml ht hv
    exact key p e s m args below meth c s₁ B hml (by
      cases hx : c.exceptionTable.toList with
      | nil => rfl
      | cons x t => exact (ht x (by rw [hx]; exact List.mem_cons_self)).elim) hv
  | cons h t =>
    refine vx_ofWH (cc := cc) (maxL := n) (ret := rt) (hh := h :: t) (ws' := eTB) hpl rfl ?_
    intro p e s m args below meth c s₁ B hml hv
    exact key p e s m args below meth c s₁ B hml (vx_table (x := y) B (atoms_spec (ws := eWs (y, cc, n, rt, h :: t)) B.pre _ List.mem_cons_self)) hv
section EVE
variable {K : eK} {a : Nat → Nat} {b : Nat × Nat} {cs : List eE} {pc n : Nat} {ls : List (Option Value)} {st : List Value}
theorem EV.end (v : Option Value) (hQ : K.2.2.1 (.inl v) a cs)
    (h : ∀ (p : Program) (l : Launch) (e : Env) (R : Room) (s : State) (m : MethodId) (args : Array Value) (below : List Frame) (meth : Method) (c : Code) (H : Heap) (locs : List Loc) (cells slots : Nat) (lsA : Array Slot) (Qc : Array Value → State → Outcome → State → Prop) (free : Addr → Prop),
      p.tables.exec = Jvm.exec → c.code = K.1.2.1 → meth.sig.returnType = K.1.2.2.2.1 → meth.locks = false → (∀ t : State, t.heap = H → s.WarmedH t.vm → Qc args s (.returned v) t) → (∀ q ∈ locs, free q.base) →
      W p l e R s m args below meth c H locs cells slots (MQ below Qc args s cells slots free) (F0 m pc lsA st)) : EV K a b cs pc ls st := by
  intro G A p l e s m args below meth c H locs cells slots lsA hX hL hP hD hS hc hs
  refine W.widen (k := K.2.1.cells) (n := K.2.1.slots) (by omega) (by omega) ?_
  refine vx_ret ?_
  refine h _ _ _ _ _ _ _ _ _ _ _ _ _ _ _ _ _ hX.1 hX.2.1 hX.2.2.2.1 hX.2.2.2.2.2.2.1 (fun t ht hW => ?_) hS.2.2
  exact ⟨v, a, cs, rfl, hQ, by rw [ht]; exact hP, hD, hS.F ht⟩
theorem e_iret {z : Int32} (d : decode K.1.2.1 pc = .ok (.ireturn, 1)) {ty : FieldType} (hr : K.1.2.2.2.1 = some ty) (hnar : narrow ty (.int z) = .int z) (hQ : K.2.2.1 (.inl (some (.int z))) a cs) : EV K a b cs pc ls [.int z] :=
  EV.end _ hQ fun p l e R s m args below meth c H locs cells slots lsA Qc free hx hb hrt hlk hq hf => W.zret hx hb (hrt.trans hr) hnar hq hf d hlk
theorem e_vret (d : decode K.1.2.1 pc = .ok (.return_, 1)) (hr : K.1.2.2.2.1 = none) (hQ : K.2.2.1 (.inl none) a cs) : EV K a b cs pc ls [] :=
  EV.end _ hQ fun p l e R s m args below meth c H locs cells slots lsA Qc free hx hb hrt hlk hq hf => W.vret hx hb (hrt.trans hr) hq hf d hlk
theorem e_lret {z : Int64} (d : decode K.1.2.1 pc = .ok (.lreturn, 1)) (hr : K.1.2.2.2.1 = some .long) (hQ : K.2.2.1 (.inl (some (.long z))) a cs) : EV K a b cs pc ls [.long z] :=
  EV.end _ hQ fun p l e R s m args below meth c H locs cells slots lsA Qc free hx hb hrt hlk hq hf => W.lret hx hb (hrt.trans hr) hq hf d hlk
theorem e_fret {z : UInt32} (d : decode K.1.2.1 pc = .ok (.freturn, 1)) (hr : K.1.2.2.2.1 = some .float) (hQ : K.2.2.1 (.inl (some (.float z))) a cs) : EV K a b cs pc ls [.float z] :=
  EV.end _ hQ fun p l e R s m args below meth c H locs cells slots lsA Qc free hx hb hrt hlk hq hf => W.fret hx hb (hrt.trans hr) hq hf d hlk
theorem e_dret {z : UInt64} (d : decode K.1.2.1 pc = .ok (.dreturn, 1)) (hr : K.1.2.2.2.1 = some .double) (hQ : K.2.2.1 (.inl (some (.double z))) a cs) : EV K a b cs pc ls [.double z] :=
  EV.end _ hQ fun p l e R s m args below meth c H locs cells slots lsA Qc free hx hb hrt hlk hq hf => W.dret hx hb (hrt.trans hr) hq hf d hlk
theorem e_aret {q : Nat} {ty : String} (d : decode K.1.2.1 pc = .ok (.areturn, 1)) (hr : K.1.2.2.2.1 = some (.object ty)) (hQ : K.2.2.1 (.inl (some (.ref q))) a cs) : EV K a b cs pc ls [.ref q] :=
  EV.end _ hQ fun p l e R s m args below meth c H locs cells slots lsA Qc free hx hb hrt hlk hq hf => W.aret hx hb (hrt.trans hr) (Or.inl ⟨_, rfl⟩) (Or.inr ⟨_, rfl⟩) hq hf d hlk
/-- a thrown thing goes on to the caller: a method without handlers -/
theorem e_out {E : String} (hh : K.1.2.2.2.2 = []) (hQ : K.2.2.1 (.inr E) a cs) : EX K a b cs pc ls E := by
  intro G A p l e s m args below meth c H locs cells slots lsA rest q ce hX hL hP hD hS hc hs hce hcv hcl
  refine vx_out (E := E) (ce := ce) (fun x hx => ?_) hX.2.2.2.2.2.2.1 hce hcv hcl (fun t ht hv => ⟨a, cs, hQ, by rw [ht]; exact hP, hD, hS.F ht⟩) hS.2.2 (by omega) (by omega)
  have := hX.2.2.2.2.1
  rw [hh] at this
  rw [this] at hx
  exact absurd hx List.not_mem_nil
end EVE
