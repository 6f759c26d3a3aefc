/-! ===== 'throw new E("text")' where E's own constructor links its superclass's at another entry than 7 (NoSuchElementException: 13); follows vx_throwS and the library's law of the constructors' chain ===== -/
def nx_tail (own : String) (ic : Nat) (X : String) : List Cond := [.methodLink own ic (Bundle.initS X), .instantiable X 6, .castable X X, .selects X Bundle.tFill0 Bundle.tFill0, .selects X Bundle.tFill Bundle.tFill,
   .lays X Bundle.tN "cause" "Ljava/lang/Throwable;", .lays X Bundle.tN "stackTrace" Bundle.steD, .lays X Bundle.tN "suppressedExceptions" Bundle.listD, .lays X Bundle.tN "detailMessage" "Ljava/lang/String;",
   .fieldLink Bundle.tN 198 Bundle.tN "backtrace" "Ljava/lang/Object;", .lays Bundle.tN Bundle.tN "backtrace" "Ljava/lang/Object;", .lays X Bundle.tN "backtrace" "Ljava/lang/Object;"]
section NX
variable {p : Program} {l : Launch} {e : Env} {R : Room} {s : State} {m₀ : MethodId} {args : Array Value} {below : List Frame} {meth : Method} {c : Code} {W9 : State} {locs : List Loc} {cells slots : Nat}
set_option maxHeartbeats 2000000 in
theorem nx_ctor (X : Stand p l e R s m₀ args below meth c W9 locs cells slots) (hexec : p.tables.exec = Jvm.exec) (htr : e.platform.stackTraces = false) {own cls sup : String} {names : List String} {ic i1 : Nat} {bytes : ByteArray}
    (hown : s.vm.findClass own = some m₀.cls) (hcls : Bundle.fit cls = true) (hsup : Bundle.fit sup = true) (hnames : ∀ n ∈ names, Bundle.fit n = true)
    (g0 : decode bytes 0 = .ok (.aload_n 0, 1)) (g1 : decode bytes 1 = .ok (.aload_n 1, 1)) (g2 : decode bytes 2 = .ok (.invokespecial i1, 3)) (g5 : decode bytes 5 = .ok (.return_, 1))
    (w1 : ∀ a ∈ Bundle.throwableAtoms, a.before args s = true) (w2 : ∀ a ∈ Bundle.throwableSAtoms, a.before args s = true) (w3 : ∀ a ∈ Bundle.passSAtoms cls sup i1 bytes, a.before args s = true) (w4 : ∀ a ∈ Bundle.chainSAtoms sup names, a.before args s = true) (w5 : ∀ a ∈ nx_tail own ic cls, a.before args s = true)
    (wU : (Cond.isRef (.static Bundle.tN "UNASSIGNED_STACK" Bundle.steD)).before args s = true) (wN : (Cond.isRef (.static Bundle.tN "SUPPRESSED_SENTINEL" Bundle.listD)).before args s = true)
    (hlocs : ∀ x ∈ locs, ∀ cell, s.heap[x.base]? = some cell → cell.vm.isStatics = false)
    {a : Addr} {cX : ClassId} {kX : Class} (hfoundX : s.vm.findClass cls = some cX) (hkX : s.vm.classes[cX]? = some kX) (hcell : W9.heap[a]? = some (freshCell cX kX)) (hnew : s.heap.size ≤ a)
    {msg : Value} (hmsg : msg.isRef = true)
    {g : JFrame} (hg : g.method = m₀) (hsize : g.locals.size = c.maxLocals) (hlocked : g.locked = none) (hentered : g.entered = []) {rest : List Value} (hstack : g.stack = msg :: .ref a :: .ref a :: rest)
    (hd6 : decode c.code g.pc = .ok (.invokespecial ic, 3)) (hd9 : decode c.code (g.pc + 3) = .ok (.athrow, 1)) (hout : ∀ x ∈ c.exceptionTable.toList, covers x (g.pc + 3) = false)
    (hRframes : names.length + 4 < R.frames) (hRlocals : 2 * g.monitorRoom + ((Value.ref a :: rest).map fun v => v.category).sum + (13 * (names.length + 2) + 42) ≤ R.locals) (hlocks : meth.locks = false) :
    ∃ U : State, Steps p.tables e below (W9.setTop g) U ∧ U.status = .running ∧ Ended U below (.threw a) ∧ s.WarmedH U.vm ∧ s.sameButNew ({ U with vm := s.vm } : State) locs cells slots ∧
      ∃ ce, U.heap[a]? = some ce ∧ ce.vm = .none ∧ s.vm.findClass cls = some ce.cls := by
  have howns : e.platform.frameOwnsMonitors = true := by rw [X.admits.platform]
  have hfin : e.platform.finalization = false := by rw [X.admits.platform]
  have hpl : e.platform.magicAccessors = ({} : Platform).magicAccessors := by rw [X.admits.platform]
  have a' : ∀ x, x ∈ nx_tail own ic cls → x.holds args s none s [] = true := fun x hx => w5 x hx
  obtain ⟨T, Z0, L, -, Y⟩ := ThrowableC.of_atoms (args := args) howns hfin hpl w1
  obtain ⟨Z, M, LZ, LM, hnZ⟩ := Init0T.ofS_atoms (args := args) hpl L Y w2
  obtain ⟨P2, Ps, hlen, L2, hL, hP2m, hlink2, hlink⟩ := Bundle.chainS (args := args) hpl hnZ names sup hsup hnames w4
  obtain ⟨P1, L1, hP1m, hP1s⟩ := PassC.ofS_atoms (args := args) (s := s) hpl (X := cls) (Y := sup) (Bundle.fit_spec hcls).1 (Bundle.fit_spec hsup).2 g0 g1 g2 g5 w3
  have hlink1 : P1.sup = P2.m := Option.some.inj (hP1s.symm.trans hP2m)
  have hfound : s.vm.findClass cls = some P1.m.cls := findClass_of_methodNamed hP1m
  cases Option.some.inj (hfoundX.symm.trans hfound)
  obtain ⟨c1, kX', hc1, hk, hord, -, -, hn6⟩ := Cond.instantiable_spec (a' (.instantiable cls 6) (by simp [nx_tail]))
  cases Option.some.inj (hc1.symm.trans hfound)
  cases Option.some.inj (hkX.symm.trans hk)
  have hsel0 : selectMethod e.platform s.vm P1.m.cls T.fill0 = .method T.fill0 := by
    obtain ⟨c2, r2, m2, q1, q2, q3, q4, -⟩ := Cond.selects_spec (a' (.selects cls Bundle.tFill0 Bundle.tFill0) (by simp [nx_tail]))
    cases Option.some.inj (q1.symm.trans hfound)
    cases Option.some.inj (q2.symm.trans (State.methodFound?_of_named Y.fill0 (by decide)))
    cases Option.some.inj (q3.symm.trans Y.fill0)
    rw [Launch.admits_selectMethod X.admits]; exact q4
  have hselF : selectMethod e.platform s.vm P1.m.cls T.fill = .method T.fill := by
    obtain ⟨c2, r2, m2, q1, q2, q3, q4, -⟩ := Cond.selects_spec (a' (.selects cls Bundle.tFill Bundle.tFill) (by simp [nx_tail]))
    cases Option.some.inj (q1.symm.trans hfound)
    cases Option.some.inj (q2.symm.trans (State.methodFound?_of_named Y.fill (by decide)))
    cases Option.some.inj (q3.symm.trans Y.fill)
    rw [Launch.admits_selectMethod X.admits]; exact q4
  obtain ⟨cellS0, hcS0, hiss⟩ := Y.statics
  obtain ⟨u0, hu0⟩ := Cond.staticRefV Y.unassigned L.unassignedStatic L.statics hcS0 hiss wU
  obtain ⟨sen, hsen⟩ := Cond.staticRefV Y.sentinel L.sentinelStatic L.statics hcS0 hiss wN
  obtain ⟨ci198, i198, fB, hk198, hg198, ha198, hsB, -, hnB, htB, hffB⟩ := Cond.ownField (t := .object "java/lang/Object") Y.found L.cls (by decide +kernel) (a' (.fieldLink Bundle.tN 198 Bundle.tN "backtrace" "Ljava/lang/Object;") (by simp [nx_tail])) (a' (.lays Bundle.tN Bundle.tN "backtrace" "Ljava/lang/Object;") (by simp [nx_tail])) e.platform hpl
  obtain ⟨cellS, hcS', heS, -, hkeep⟩ := X.same.2.2.2.2.2 T.aS cellS0 hcS0
  have hcellS : W9.heap[T.aS]? = some cellS := hcS'
  have hout' : ∀ i, (⟨T.aS, i⟩ : Loc) ∉ locs := fun i hmem => by
    have := hlocs _ hmem cellS0 hcS0
    rw [hiss] at this; cases this
  have hknownS : cellS.vm ≠ .unknown := by
    rw [heS]; intro hu
    rw [show cellS0.vm = .unknown from hu] at hiss
    cases hiss
  have hneS : T.aS ≠ a := Nat.ne_of_lt (Nat.lt_of_lt_of_le (Array.getElem?_eq_some_iff.mp hcS0).1 hnew)
  obtain ⟨iM, hffM⟩ := Y.msg
  obtain ⟨tyC, dC, hdC, hdnC⟩ := Cond.laysAt hfound hk Y.cause (a' (.lays cls Bundle.tN "cause" "Ljava/lang/Throwable;") (by simp [nx_tail]))
  obtain ⟨tyS, dS, hdS, hdnS⟩ := Cond.laysAt hfound hk Y.stack (a' (.lays cls Bundle.tN "stackTrace" Bundle.steD) (by simp [nx_tail]))
  obtain ⟨tyP, dP, hdP, hdnP⟩ := Cond.laysAt hfound hk Y.supp (a' (.lays cls Bundle.tN "suppressedExceptions" Bundle.listD) (by simp [nx_tail]))
  obtain ⟨tyM, dM, hdM, hdnM⟩ := Cond.laysAt hfound hk hffM (a' (.lays cls Bundle.tN "detailMessage" "Ljava/lang/String;") (by simp [nx_tail]))
  obtain ⟨tyB, dB, hdB, hdnB⟩ := Cond.laysAt hfound hk hffB (a' (.lays cls Bundle.tN "backtrace" "Ljava/lang/Object;") (by simp [nx_tail]))
  have bC := Cond.laysApart hdB hdC hdnB hdnC (by rw [hnB, Y.causeName]; decide)
  have bS := Cond.laysApart hdB hdS hdnB hdnS (by rw [hnB, Y.stackName]; decide)
  have bP := Cond.laysApart hdB hdP hdnB hdnP (by rw [hnB, Y.suppName]; decide)
  have hskip : SkipFacts T e.platform s (fun u => u) u0 ((preparedCellV T.toThrowableT (freshCell P1.m.cls kX) a u0 sen).withEntry W9.cur) :=
    ⟨{ ci198 := ci198, i198 := i198, fBack := fB }, ⟨hk198, hg198, ha198, hsB⟩, by
      have := fresh_default (c := P1.m.cls) tyB
      rw [htB] at this
      simpa [preparedCellV, Cell.setSlot, Cell.withEntry, Array.getElem?_setIfInBounds, bC, bS, bP, bC.symm, bS.symm, bP.symm, defaultValue] using this, fun _ _ => rfl⟩
  obtain ⟨tm, methC, cdC, kC, vm₁, hnC, -, -, -, -, -, -, -, hW₁, st1⟩ := Steps.initColdS (tb := p.tables) (e := e) (below := below) (s := s) (U := W9) X.here hexec X.warmed hpl hown (t := Bundle.initS cls) rfl rfl (Bundle.fit_spec hcls).2
    (a' (.methodLink own ic (Bundle.initS cls)) (by simp [nx_tail])) (w3 (.instanceMethod (Bundle.initS cls)) (by simp [Bundle.passSAtoms])) (bytes := bytes) (maxL := 2) (w3 (.code (Bundle.initS cls) bytes 2 none) (by simp [Bundle.passSAtoms]))
    (f := g) hg (a := a) (msg := msg) (rest := .ref a :: rest) hstack hd6
  cases Option.some.inj (hnC.symm.trans hP1m)
  have X₁ := X.noted hW₁
  obtain ⟨vm₂, X₂, st2⟩ := X₁.ctorMessageOffV hexec (g := { g with stack := .ref a :: rest }) hg hsize T L Z LZ M LM (P1 :: P2 :: Ps)
    (fun P hP => by
      rcases List.mem_cons.mp hP with rfl | hP
      · exact L1
      rcases List.mem_cons.mp hP with rfl | hP
      · exact L2
      exact hL P hP) ⟨hlink1, hlink2, hlink⟩ (u0 := u0) (sen := sen) (self := a) hmsg (cell := freshCell P1.m.cls kX) (cellS := cellS)
    hcell (fun _ => by simp) (by simp) rfl rfl hsel0 hselF hcellS hneS hknownS (by rw [hkeep _ (hout' _)]; exact hu0) (by rw [hkeep _ (hout' _)]; exact hsen)
    (Takes.of_laid hk hord tyC (by rw [Y.causeType]; rfl)) (Takes.of_laid hk hord tyS (by rw [Y.stackType]; exact fits_refV_array _ u0)) (Takes.of_laid hk hord tyP (by rw [Y.suppType]; exact fits_refV_object _ sen))
    (Takes.of_laid hk hord tyM (by rw [Y.msgType]; exact fits_refV_object _ ⟨msg, hmsg⟩)) Y.objLocals hskip htr [] hd6
    (by simp only [List.length_cons, hlen]; omega) (by simp only [List.length_cons, hlen]; simp only [List.map_cons, List.sum_cons] at hRlocals ⊢; omega)
  obtain ⟨hwalk, hrun, hended, hWU, hsame⟩ := X₂.athrowLeaves hexec (g := { g with stack := .ref a :: rest, pc := g.pc + 3 }) hg hlocked hentered hout (a := a) (rest := rest) rfl hd9
  have hlt : a < ((W9.setVm vm₁).setVm vm₂).heap.size := (Array.getElem?_eq_some_iff.mp hcell).1
  have hU := heapAt_setCell_self (s := (W9.setVm vm₁).setVm vm₂) (plainBareV T.toThrowableT (freshCell P1.m.cls kX) a u0 sen msg) hlt
  refine ⟨_, st1 _ (fun acts => ?_), hrun, hended, hWU, hsame.weaken (fun y hy hlt' => ?_) (Nat.le_refl _) (Nat.le_refl _), _, hU, rfl, hfound⟩
  · rw [doInvoke_state]
    exact st2 _ hwalk
  · rcases List.mem_append.mp hy with h1 | h1
    · exact h1
    · exfalso
      have hb : y.base = a := by
        simp only [List.mem_cons, List.not_mem_nil, or_false] at h1
        rcases h1 with rfl | rfl | rfl | rfl | rfl <;> rfl
      rw [hb] at hlt'
      exact Nat.not_lt.mpr hnew hlt'
end NX
/-- a place where E is thrown with a text, E's constructor linking its superclass's at i1 -/
def eTn (own : String) (ik is ic : Nat) (E text : String) (si : Nat) (sup : String) (names : List String) (i1 : Nat) (bytes : ByteArray) : Prop :=
  Bundle.fit E = true ∧ Bundle.fit sup = true ∧ (∀ n ∈ names, Bundle.fit n = true) ∧ Cond.classLink own ik E ∈ eTB ∧ Cond.initialized E ∈ eTB ∧ Cond.instantiable E 6 ∈ eTB ∧ eStr[si]? = some (own, is, text) ∧
  (decode bytes 0 = .ok (.aload_n 0, 1) ∧ decode bytes 1 = .ok (.aload_n 1, 1) ∧ decode bytes 2 = .ok (.invokespecial i1, 3) ∧ decode bytes 5 = .ok (.return_, 1)) ∧
  (∀ w, w ∈ Bundle.throwableAtoms ∨ w ∈ Bundle.throwableSAtoms ∨ w ∈ Bundle.passSAtoms E sup i1 bytes ∨ w ∈ Bundle.chainSAtoms sup names ∨ w ∈ nx_tail own ic E → w = .laysStatic Bundle.tN "UNASSIGNED_STACK" Bundle.steD ∨ w = .laysStatic Bundle.tN "SUPPRESSED_SENTINEL" Bundle.listD ∨ (w ∈ eTB ∧ w.onTables = true) ∨ (∃ q ∈ eCs, w = .castable q.1 q.2) ∨ ∃ q ∈ eDc, w = .declares q)
section NXR
variable {K : eK} {a : Nat → Nat} {b : Nat × Nat} {cs : List eE} {pc n : Nat} {ls : List (Option Value)} {st : List Value}
theorem nx_throw {ik is ic si i1 : Nat} {E text sup : String} {names : List String} {bytes : ByteArray} (wide : Nat) (t : eTn K.1.1.cls ik is ic E text si sup names i1 bytes) (hh : K.1.2.2.2.2 = []) (hfr : names.length + 4 < K.2.1.frames) (hlo : (st.map fun v => v.category).sum + (13 * (names.length + 2) + 43) ≤ K.2.1.locals)
    (hb : 1 ≤ b.1 ∧ 6 ≤ b.2) (d0 : decode K.1.2.1 pc = .ok (.new ik, 3)) (d3 : decode K.1.2.1 (pc + 3) = .ok (.dup, 1))
    (d4 : (wide = 0 ∧ decode K.1.2.1 (pc + 4) = .ok (.ldc is, 2)) ∨ (wide = 1 ∧ decode K.1.2.1 (pc + 4) = .ok (.ldc_w is, 3))) (d6 : decode K.1.2.1 (pc + 6 + wide) = .ok (.invokespecial ic, 3)) (d9 : decode K.1.2.1 (pc + 9 + wide) = .ok (.athrow, 1))
    (hQ : K.2.2.1 (.inr E) a cs) : EV K a b cs pc ls st := by
  obtain ⟨t1, t2, t3, t4, t5, tI, t6, ⟨g0, g1, g2, g5⟩, t7⟩ := t
  intro G A p l e s m args below meth c H locs cells slots lsA hX hL hP hD hS hc hs
  have hts := hX.2.2.2.2.2.2.2.1
  have hAm := hX.2.2.2.2.2.2.2.2.1
  have hexec := hX.1
  have hb2 := hX.2.1
  have hstr : vk_R K.1.1.cls is text (K.2.2.2.1 si) s := hAm.2.1 si _ t6
  intro T hT X
  have htr : e.platform.stackTraces = false := (show e.platform.stackTraces = l.stackTraces by rw [X.admits.platform]).trans hX.2.2.2.2.2.2.2.2.2.1
  have Y := vx_rebase X (R' := { frames := K.2.1.frames, locals := K.2.1.locals, cells := 1, slots := 6 }) (Nat.le_refl _) (Nat.le_refl _) (show cells + 1 ≤ K.2.1.cells by omega) (show slots + 6 ≤ K.2.1.slots by omega)
  obtain ⟨s', hA⟩ : ∃ z, z = (T.setVm s.vm).setFrames (.invoking m args :: below) := ⟨_, rfl⟩
  rw [← hA] at Y
  have hvm : s'.vm = s.vm := by rw [hA]; rfl
  have hhp : s'.heap = H := by rw [hA]; exact hT
  have hW0 : s.WarmedH s'.vm := by rw [hvm]; exact State.WarmedH.refl s
  have hU' : vx_Zq Bundle.tN "UNASSIGNED_STACK" Bundle.steD A s' s'.heap := by rw [hhp]; exact vx_Zq.moved hW0.alike (hAm.2.2.1.kept hS.2.1)
  have hN' : vx_Zq Bundle.tN "SUPPRESSED_SENTINEL" Bundle.listD A s' s'.heap := by rw [hhp]; exact vx_Zq.moved hW0.alike (hAm.2.2.2.1.kept hS.2.1)
  have onT : ∀ w ∈ eTB, w.onTables = true → w.before args s' = true := fun w hw ho => va_tabs ho hvm.symm (hts w hw)
  have words : ∀ w, w ∈ Bundle.throwableAtoms ∨ w ∈ Bundle.throwableSAtoms ∨ w ∈ Bundle.passSAtoms E sup i1 bytes ∨ w ∈ Bundle.chainSAtoms sup names ∨ w ∈ nx_tail K.1.1.cls ic E → w.before args s' = true := by
    intro w hw
    rcases t7 w hw with rfl | rfl | ⟨h1, h2⟩ | ⟨q, hq, rfl⟩ | ⟨q, hq, rfl⟩
    · exact hU'.2.word
    · exact hN'.2.word
    · exact onT w h1 h2
    · exact eCa.use ((hAm.2.2.2.2.2.2.1 q hq).moved hW0.alike)
    · exact va_tabs rfl hvm.symm (hAm.2.2.2.2.2.2.2.2.2.2.2.2.1 q hq)
  have hk' : (Cond.classLink K.1.1.cls ik E).before args s' = true := onT _ t4 rfl
  have hini' : (Cond.initialized E).before args s' = true := onT _ t5 rfl
  have hown' : s'.vm.findClass K.1.1.cls = some m.cls := by rw [hvm]; exact hX.2.2.2.2.2.1
  have hins : (Cond.instantiable E 6).before args s' = true := onT _ tI rfl
  obtain ⟨vm₁, cX, kX, hfX, hkX, -, -, X₁, st1⟩ := Y.newCold hexec (own := K.1.1.cls) (C := E) (index := ik) (n := 6) hown' hk' hins hini'
    (g := F0 m pc lsA st) rfl (by rw [hb2]; exact d0) (Nat.le_refl _) (Nat.le_refl _)
  generalize hT1 : (T.setVm vm₁).pushCell { cls := cX, slots := kX.instanceTypes.map defaultValue, vm := .none } = T1 at X₁ st1
  have hcat : (Value.ref T.heap.size).category = 1 := rfl
  have hcellA : T1.heap[T.heap.size]? = some (freshCell cX kX) := by rw [← hT1]; exact State.heap_pushCell_size _ _
  have d3' : decode c.code (pc + 3) = .ok (.dup, 1) := by rw [hb2]; exact d3
  have hstr' : vk_R K.1.1.cls is text (K.2.2.2.1 si) s' := vk_R.warm hW0 hstr
  have htab : ∀ x ∈ c.exceptionTable.toList, False := by
    have ht := hX.2.2.2.2.1
    rw [hh] at ht
    rw [ht]
    exact fun x hx => absurd hx List.not_mem_nil
  obtain ⟨U, hsteps, hrun, hend, hW, hsame, ce, hce, hcv, hcE⟩ := nx_ctor X₁ hexec htr (own := K.1.1.cls) (cls := E) (sup := sup) (names := names) (ic := ic) (i1 := i1) (bytes := bytes) hown' t1 t2 t3 g0 g1 g2 g5 (fun x hx => words x (Or.inl hx)) (fun x hx => words x (Or.inr (Or.inl hx))) (fun x hx => words x (Or.inr (Or.inr (Or.inl hx)))) (fun x hx => words x (Or.inr (Or.inr (Or.inr (Or.inl hx))))) (fun x hx => words x (Or.inr (Or.inr (Or.inr (Or.inr hx)))))
    (vx_isRefq hU'.1) (vx_isRefq hN'.1) (fun x hx => nomatch hx) hfX hkX hcellA (by rw [hhp, hT]; exact Nat.le_refl _) (msg := .ref (K.2.2.2.1 si)) rfl
    (g := { method := m, pc := pc + 6 + wide, locals := lsA, stack := .ref (K.2.2.2.1 si) :: .ref T.heap.size :: .ref T.heap.size :: st, locked := none }) rfl (hL.1.trans hX.2.2.1.symm) rfl rfl (rest := st) rfl
    (by rw [hb2]; exact d6) (by rw [hb2]; show decode K.1.2.1 (pc + 6 + wide + 3) = _; rw [show pc + 6 + wide + 3 = pc + 9 + wide by omega]; exact d9) (fun x hx => (htab x hx).elim) hfr (by simp only [List.map_cons, List.sum_cons, hcat]; show 2 * 0 + _ + _ ≤ K.2.1.locals; omega) hX.2.2.2.2.2.2.1
  obtain ⟨f1, f2⟩ := vx_frame hsame
  rw [hhp] at f1 f2
  have hWs : s.WarmedH U.vm := State.WarmedH.trans hW0 hW
  have hcl : s.vm.findClass E = some ce.cls := by rw [← hvm]; exact hcE
  have hall : s.sameButNew ({ U with vm := s.vm } : State) locs K.2.1.cells K.2.1.slots := by
    subst hA
    obtain ⟨e1, e2⟩ := hsame
    rw [State.setFrames_setFrames] at e1
    have h2 : (T.setVm s.vm).sameButNew ({ U with vm := s.vm } : State) [] (0 + 1) (0 + 6) := ⟨e1, e2⟩
    have h3 := X.same.trans h2
    rw [List.append_nil] at h3
    exact h3.mono (by omega) (by omega)
  have hq : ∀ q : Nat, q < H.size → U.heap[q]? = H[q]? := fun q hq => f2 q hq (fun z hz => nomatch hz)
  refine ⟨U, ?_, .threw T.heap.size, hrun, hend, Or.inr ⟨T.heap.size, rfl, E, ce, locs, ⟨a, cs, hQ, hP.kept (fun k q hk => hq _ (hP k q hk).lt), hD, ⟨Nat.le_trans hS.1 f1, fun q h1 h2 => ?_⟩⟩, hce, hcv, hcl, hWs, hall, hS.2.2⟩⟩
  · refine st1 _ ?_
    show Steps p.tables e below (T1.setTop { method := m, pc := pc + 3, locals := lsA, stack := .ref T.heap.size :: st, locked := none }) _
    jvm_step X₁.here [X₁.here.top, hexec, d3', Value.category]
    rcases d4 with ⟨rfl, d4⟩ | ⟨rfl, d4⟩
    · exact X₁.ldcString hexec (own := K.1.1.cls) (text := text) (index := is) (a := K.2.2.2.1 si) hown' hstr'.1 hstr'.2
        (g := { method := m, pc := pc + 4, locals := lsA, stack := .ref T.heap.size :: .ref T.heap.size :: st, locked := none }) rfl (by rw [hb2]; exact d4) _ hsteps
    · exact X₁.ldcStringW hexec (own := K.1.1.cls) (text := text) (index := is) (a := K.2.2.2.1 si) hown' hstr'.1 hstr'.2
        (g := { method := m, pc := pc + 4, locals := lsA, stack := .ref T.heap.size :: .ref T.heap.size :: st, locked := none }) rfl (by rw [hb2]; exact d4) _ hsteps
  · rw [hq q (Nat.lt_of_lt_of_le h1 hS.1)]
    exact hS.2.1 q h1 h2
end NXR
