/-! ===== EV: throws and handlers, new things, Math, System.arraycopy, the script, texts ===== -/
theorem EV.cong {K : eK} {a a' : Nat → Nat} {b : Nat × Nat} {cs : List eE} {pc : Nat} {ls : List (Option Value)} {st : List Value} (h : ∀ k, k < cs.length → a k = a' k) (k : EV K a' b cs pc ls st) : EV K a b cs pc ls st := by
  intro G A p l e s m args below meth c H locs cells slots lsA hX hL hP hD hS hc hs
  rw [eW_cong h] at hP hD
  exact k G A p l e s m args below meth c H locs cells slots lsA hX hL hP hD hS hc hs
theorem EX.cong {K : eK} {a a' : Nat → Nat} {b : Nat × Nat} {cs : List eE} {pc : Nat} {ls : List (Option Value)} {E : String} (h : ∀ k, k < cs.length → a k = a' k) (k : EX K a' b cs pc ls E) : EX K a b cs pc ls E := by
  intro G A p l e s m args below meth c H locs cells slots lsA rest q ce hX hL hP hD hS hc hs
  rw [eW_cong h] at hP hD
  exact k G A p l e s m args below meth c H locs cells slots lsA rest q ce hX hL hP hD hS hc hs
/-- a place where E is thrown with a text -/
def eTh (own : String) (ik is ic : Nat) (E text : String) (si : Nat) (names : List String) : Prop :=
  Bundle.fit E = true ∧ (∀ n ∈ names, Bundle.fit n = true) ∧ Cond.classLink own ik E ∈ eTB ∧ Cond.initialized E ∈ eTB ∧ eStr[si]? = some (own, is, text) ∧
  (∀ w ∈ vx_atS own ic E names, w ∈ eTB ∨ ∃ q ∈ eCs, w = .castable q.1 q.2) ∧ (∀ w ∈ Cond.classLink own ik E :: Cond.initialized E :: vx_atS own ic E names, vx_ot w = true)
def eAd (qs : List Nat) (k : Nat) : Nat := qs.getD k 0
section EVT
variable {K : eK} {a : Nat → Nat} {b : Nat × Nat} {cs : List eE} {pc n : Nat} {ls : List (Option Value)} {st : List Value}
theorem eThrow {ik is ic si : Nat} {E text : String} {names : List String} (t : eTh K.1.1.cls ik is ic E text si names) (hh : K.1.2.2.2.2 = []) (hfr : names.length + 3 < K.2.1.frames) (hlo : (st.map fun v => v.category).sum + (13 * (names.length + 1) + 43) ≤ K.2.1.locals)
    (hb : 1 ≤ b.1 ∧ 6 ≤ b.2) (hQ : K.2.2.1 (.inr E) a cs)
    (row : ∀ {p : Program} {l : Launch} {e : Env} {R : Room} {s : State} {m : MethodId} {args : Array Value} {below : List Frame} {meth : Method} {c : Code} {H : Heap} {locs : List Loc} {cells slots mc ms : Nat} {free : Addr → Prop} {Qc : Array Value → State → Outcome → State → Prop} {XC : String → State → State → Prop} {A : Nat → Prop} {lsA : Array Slot} {sa : Nat},
      p.tables.exec = Jvm.exec → c.code = K.1.2.1 → l.stackTraces = false → s.vm.findClass K.1.1.cls = some m.cls → Bundle.fit E = true → (∀ n ∈ names, Bundle.fit n = true) → (Cond.classLink K.1.1.cls ik E).before args s = true → (Cond.initialized E).before args s = true → vk_R K.1.1.cls is text sa s →
      (∀ w ∈ vx_atS K.1.1.cls ic E names, w.before args s = true) → (∀ w ∈ Cond.classLink K.1.1.cls ik E :: Cond.initialized E :: vx_atS K.1.1.cls ic E names, vx_ot w = true) → vx_Zq Bundle.tN "UNASSIGNED_STACK" Bundle.steD A s s.heap → vx_Zq Bundle.tN "SUPPRESSED_SENTINEL" Bundle.listD A s s.heap →
      va_S A s.heap H locs → lsA.size = c.maxLocals → (∀ x ∈ c.exceptionTable.toList, False) → names.length + 3 < R.frames → (st.map fun v => v.category).sum + (13 * (names.length + 1) + 43) ≤ R.locals → cells + 1 ≤ R.cells → slots + 6 ≤ R.slots → meth.locks = false →
      (∀ t : State, s.vm.Alike t.vm → H.size ≤ t.heap.size → (∀ q : Nat, q < H.size → t.heap[q]? = H[q]?) → XC E s t) → (∀ z ∈ locs, free z.base) → cells + 1 ≤ mc → slots + 6 ≤ ms → W p l e R s m args below meth c H locs cells slots (vx_MQ below Qc XC args s mc ms free) (F0 m pc lsA st)) : EV K a b cs pc ls st := by
  obtain ⟨t1, t2, t3, t4, t5, t6, t7⟩ := t
  intro G A p l e s m args below meth c H locs cells slots lsA hX hL hP hD hS hc hs
  have hts := hX.2.2.2.2.2.2.2.1
  have hAm := hX.2.2.2.2.2.2.2.2.1
  refine row hX.1 hX.2.1 hX.2.2.2.2.2.2.2.2.2.1 hX.2.2.2.2.2.1 t1 t2 (hts _ t3) (hts _ t4) (hAm.2.1 si _ t5) (fun w hw => ?_) t7 hAm.2.2.1 hAm.2.2.2.1 hS (hL.1.trans hX.2.2.1.symm) (fun x hx => ?_) hfr hlo (by omega) (by omega) hX.2.2.2.2.2.2.1 (fun t hvm hz hq => ?_) hS.2.2 (by omega) (by omega)
  · rcases t6 w hw with h | ⟨q, hq, rfl⟩
    · exact hts _ h
    · exact eCa.use (hAm.2.2.2.2.2.2.1 q hq)
  · have ht := hX.2.2.2.2.1
    rw [hh] at ht
    rw [ht] at hx
    exact absurd hx List.not_mem_nil
  · refine ⟨a, cs, hQ, hP.kept (fun k q hk => hq _ (hP k q hk).lt), hD, ⟨Nat.le_trans hS.1 hz, fun q h1 h2 => ?_⟩⟩
    rw [hq q (Nat.lt_of_lt_of_le h1 hS.1)]
    exact hS.2.1 q h1 h2
theorem e_throw {ik is ic si : Nat} {E text : String} {names : List String} (t : eTh K.1.1.cls ik is ic E text si names) (hh : K.1.2.2.2.2 = []) (hfr : names.length + 3 < K.2.1.frames) (hlo : (st.map fun v => v.category).sum + (13 * (names.length + 1) + 43) ≤ K.2.1.locals)
    (hb : 1 ≤ b.1 ∧ 6 ≤ b.2) (d0 : decode K.1.2.1 pc = .ok (.new ik, 3)) (d3 : decode K.1.2.1 (pc + 3) = .ok (.dup, 1)) (d4 : decode K.1.2.1 (pc + 4) = .ok (.ldc is, 2)) (d6 : decode K.1.2.1 (pc + 6) = .ok (.invokespecial ic, 3)) (d9 : decode K.1.2.1 (pc + 9) = .ok (.athrow, 1))
    (hQ : K.2.2.1 (.inr E) a cs) : EV K a b cs pc ls st :=
  eThrow t hh hfr hlo hb hQ fun h1 h2 h3 h4 h5 h6 h7 h8 h9 h10 h11 h12 h13 h14 h15 h16 h17 h18 h19 h20 h21 h22 h23 h24 h25 =>
    vx_throwS h1 h2 h3 h4 h5 h6 h7 h8 h9 h10 h11 h12 h13 h14 h15 d0 d3 d4 d6 d9 (fun x hx => (h16 x hx).elim) h17 h18 h19 h20 h21 h22 h23 h24 h25
theorem e_throwW {ik is ic si : Nat} {E text : String} {names : List String} (t : eTh K.1.1.cls ik is ic E text si names) (hh : K.1.2.2.2.2 = []) (hfr : names.length + 3 < K.2.1.frames) (hlo : (st.map fun v => v.category).sum + (13 * (names.length + 1) + 43) ≤ K.2.1.locals)
    (hb : 1 ≤ b.1 ∧ 6 ≤ b.2) (d0 : decode K.1.2.1 pc = .ok (.new ik, 3)) (d3 : decode K.1.2.1 (pc + 3) = .ok (.dup, 1)) (d4 : decode K.1.2.1 (pc + 4) = .ok (.ldc_w is, 3)) (d6 : decode K.1.2.1 (pc + 7) = .ok (.invokespecial ic, 3)) (d9 : decode K.1.2.1 (pc + 10) = .ok (.athrow, 1))
    (hQ : K.2.2.1 (.inr E) a cs) : EV K a b cs pc ls st :=
  eThrow t hh hfr hlo hb hQ fun h1 h2 h3 h4 h5 h6 h7 h8 h9 h10 h11 h12 h13 h14 h15 h16 h17 h18 h19 h20 h21 h22 h23 h24 h25 =>
    vx_throwSW h1 h2 h3 h4 h5 h6 h7 h8 h9 h10 h11 h12 h13 h14 h15 d0 d3 d4 d6 d9 (fun x hx => (h16 x hx).elim) h17 h18 h19 h20 h21 h22 h23 h24 h25
/-- a handler takes it -/
theorem e_catch {E name : String} (pre : List ExceptionTableEntry) (x : ExceptionTableEntry) (suf : List ExceptionTableEntry) (hh : tableOf K.1.2.2.2.2 = pre ++ x :: suf)
    (hpass : ∀ z ∈ pre, covers z pc = false ∨ (z.catchType ≠ 0 ∧ ∃ nm : String, Cond.classLink K.1.1.cls z.catchType nm ∈ eTB ∧ (E, nm) ∈ eNc)) (hx : covers x pc = true) (h0 : x.catchType ≠ 0) (hlink : Cond.classLink K.1.1.cls x.catchType name ∈ eTB) (hcast : (E, name) ∈ eCs)
    (k : ∀ q : Nat, EV K a b cs x.handlerPc ls [.ref q]) : EX K a b cs pc ls E := by
  intro G A p l e s m args below meth c H locs cells slots lsA rest q ce hX hL hP hD hS hc hs hce hcv hcl
  have hts := hX.2.2.2.2.2.2.2.1
  have hAm := hX.2.2.2.2.2.2.2.2.1
  refine vx_catch hX.2.2.2.2.2.1 pre x suf (hX.2.2.2.2.1.trans hh) (fun z hz => ?_) hx h0 (hts _ hlink) (eCa.use (hAm.2.2.2.2.2.2.1 _ hcast)) hce hcv hcl (k q G A p l e s m args below meth c H locs cells slots lsA hX hL hP hD hS hc hs)
  rcases hpass z hz with h | ⟨h1, nm, h2, h3⟩
  · exact Or.inl h
  · exact Or.inr ⟨h1, nm, hts _ h2, hAm.2.2.2.2.2.1 _ h3⟩
/-- an object is made -/
def eNw (own : String) (idx ci N : Nat) (fs : List Value) : Prop := ∃ (C : String) (T : u_T) (ty : Nat → FieldType), eCl[ci]? = some (C, T, N) ∧ (∀ w ∈ u_ws C T N, w ∈ eTB) ∧ (∀ k, k < N → parseFieldDescriptor (T k).2.2.1 = some (ty k)) ∧
  Cond.classLink own idx C ∈ eTB ∧ Cond.instantiable C N ∈ eTB ∧ Cond.initialized C ∈ eTB ∧ ∀ j, j < N → defaultValue (ty j) = vp_V fs j
theorem eAd_app {qs : List Nat} {q k : Nat} (h : k < qs.length) : eAd (qs ++ [q]) k = eAd qs k := by simp [eAd, List.getD, List.getElem?_append_left h]
theorem e_new {idx ci N : Nat} {fs : List Value} {qs : List Nat} (w : eNw K.1.1.cls idx ci N fs) (d : decode K.1.2.1 pc = .ok (.new idx, 3)) (hn : pc + 3 = n) (hl : qs.length = cs.length) (b' : Nat × Nat) (hb : 1 + b'.1 ≤ b.1 ∧ N + b'.2 ≤ b.2)
    (k : ∀ q, EV K (eAd (qs ++ [q])) b' (cs ++ [.inr (ci, fs)]) n ls (.ref q :: st)) : EV K (eAd qs) b cs pc ls st := by
  subst hn
  obtain ⟨C, T, ty, w1, w2, w3, w4, w5, w6, w7⟩ := w
  intro G A p l e s m args below meth c H locs cells slots lsA hX hL hP hD hS hc hs
  have hts := hX.2.2.2.2.2.2.2.1
  refine va_new hX.1 hX.2.1 hts w2 ty w3 hX.2.2.2.2.2.1 (hts _ w4) (hts _ w5) (hts _ w6) hX.2.2.2.2.2.2.2.2.1.1 hP hD hS hX.2.2.2.2.2.2.2.2.2.2.1 w1 w7 (by omega) (by omega) d (fun q H1 hP1 hD1 hS1 => ?_)
  have e : eW G (eAd (qs ++ [q])) (cs ++ [.inr (ci, fs)]) = eW G (eAd qs) cs ++ [(q, .inr (ci, fs))] := by
    rw [eW_app (q := q) (by simp [eAd, List.getD, ← hl]), eW_cong (a := eAd (qs ++ [q])) (a' := eAd qs) (fun k hk => eAd_app (by omega))]
    rfl
  exact k q G A p l _ s m args below meth c H1 locs (cells + 1) (slots + N) lsA hX hL (by rw [e]; exact hP1) (by rw [e]; exact hD1) hS1 (by omega) (by omega)
/-- a row is made -/
theorem e_newarray {ar : ArrayType} {ty : FieldType} {t N : Nat} {x : vp_A} {qs : List Nat} (hw : Cond.arrayClass (newarray.typeOf ar) ∈ eTB) (hty : newarray.typeOf ar = ty) (ht : eTy[t]? = some ty) (hnr : ∀ C, ty ≠ .object C) (hx : ∀ cA : ClassId, vp_cell cA x = arrV cA N (fun _ => defaultValue ty))
    (d : decode K.1.2.1 pc = .ok (.newarray ar, 2)) (hn : pc + 2 = n) (hN : N ≤ 2147483647) (hby : N * componentBytes ty ≤ 536870912) (hl : qs.length = cs.length) (b' : Nat × Nat) (hb : 1 + b'.1 ≤ b.1 ∧ N + b'.2 ≤ b.2)
    (k : ∀ q, EV K (eAd (qs ++ [q])) b' (cs ++ [.inl (t, x)]) n ls (.ref q :: st)) : EV K (eAd qs) b cs pc ls (vi (N : Int) :: st) := by
  subst hn
  intro G A p l e s m args below meth c H locs cells slots lsA hX hL hP hD hS hc hs
  have hts := hX.2.2.2.2.2.2.2.1
  have hK := hX.2.2.2.2.2.2.2.2.1.1
  have hneg : ¬ Int32.ofInt (N : Int) < 0 := by rw [← oI_z, oI_lt (by omega) (by omega)]; omega
  refine va_newa hX.1 hX.2.1 (hts _ hw) hty hK hP hD hS hX.2.2.2.2.2.2.2.2.2.2.1 hx hneg (oI_sz (by omega)) hby (by omega) (by omega) d (fun q cA H1 hK1 hP1 hD1 hS1 => ?_)
  have hcA : cA = G.2 t := by
    have h1 := (hK1.2 (eTys G).length (cA, ty) (by simp)).2
    have h2 := (hK.2 t (G.2 t, ty) (eTys_at ht)).2
    have f : ∀ z, va_RA s z ty → s.vm.findClass ("[" ++ ty.toString) = some z := by
      intro z hz
      cases ty with
      | object C => exact absurd rfl (hnr C)
      | _ => exact hz
    exact Option.some.inj ((f _ h1).symm.trans (f _ h2))
  subst hcA
  have e : eW G (eAd (qs ++ [q])) (cs ++ [.inl (t, x)]) = eW G (eAd qs) cs ++ [(q, .inl (G.2 t, x))] := by
    rw [eW_app (q := q) (by simp [eAd, List.getD, ← hl]), eW_cong (a := eAd (qs ++ [q])) (a' := eAd qs) (fun k hk => eAd_app (by omega))]
    rfl
  exact k q G A p l _ s m args below meth c H1 locs (cells + 1) (slots + N) lsA hX hL (by rw [e]; exact hP1) (by rw [e]; exact hD1) hS1 (by omega) (by omega)
/-- a row of flocks is made -/
theorem e_newq {idx N : Nat} {qs : List Nat} (hw : Cond.classLink K.1.1.cls idx "BasketFlock$Flock" ∈ eTB) (d : decode K.1.2.1 pc = .ok (.anewarray idx, 3)) (hn : pc + 3 = n) (hN : N ≤ 100000) (hl : qs.length = cs.length) (b' : Nat × Nat) (hb : 1 + b'.1 ≤ b.1 ∧ N + b'.2 ≤ b.2)
    (k : ∀ q, EV K (eAd (qs ++ [q])) b' (cs ++ [eRf 4 N (fun _ => none)]) n ls (.ref q :: st)) : EV K (eAd qs) b cs pc ls (vi (N : Int) :: st) := by
  subst hn
  intro G A p l e s m args below meth c H locs cells slots lsA hX hL hP hD hS hc hs
  have hts := hX.2.2.2.2.2.2.2.1
  have hAm := hX.2.2.2.2.2.2.2.2.1
  have hK := hAm.1
  have hneg : ¬ Int32.ofInt (N : Int) < 0 := by rw [← oI_z, oI_lt (by omega) (by omega)]; omega
  refine va_newq hX.1 hX.2.1 hX.2.2.2.2.2.1 (hts _ hw) hAm.2.2.2.2.2.2.2.1 hK hP hD hS hX.2.2.2.2.2.2.2.2.2.2.1 hneg (oI_sz (by omega)) (by omega) (by omega) (by omega) d (fun q cA H1 hK1 hP1 hD1 hS1 => ?_)
  have hcA : cA = G.2 4 := by
    obtain ⟨kA, comp, g1, g2, g3, g4⟩ := (hK1.2 (eTys G).length (cA, .object "BasketFlock$Flock") (by simp)).2
    obtain ⟨kA', comp', f1, f2, f3, f4⟩ := (hK.2 4 (G.2 4, .object "BasketFlock$Flock") (eTys_at rfl)).2
    exact Option.some.inj (g4.symm.trans f4)
  subst hcA
  have e : eW G (eAd (qs ++ [q])) (cs ++ [eRf 4 N (fun _ => none)]) = eW G (eAd qs) cs ++ [(q, .inl (G.2 4, N, .inr (.inr (.inr (.inr (fun _ => none))))))] := by
    rw [eW_app (q := q) (by simp [eAd, List.getD, ← hl]), eW_cong (a := eAd (qs ++ [q])) (a' := eAd qs) (fun k hk => eAd_app (by omega))]
    rfl
  exact k q G A p l _ s m args below meth c H1 locs (cells + 1) (slots + N) lsA hX hL (by rw [e]; exact hP1) (by rw [e]; exact hD1) hS1 (by omega) (by omega)
/-- Object's own constructor -/
theorem e_objInit {idx q : Nat} (w1 : Cond.methodLink K.1.1.cls idx Lib.objectInit ∈ eTB) (w2 : Cond.instanceMethod Lib.objectInit ∈ eTB) (w3 : Cond.code Lib.objectInit ⟨#[0xb1]⟩ 1 none ∈ eTB) (d : decode K.1.2.1 pc = .ok (.invokespecial idx, 3)) (hn : pc + 3 = n) (hfr : 1 ≤ K.2.1.frames) (hlo : (st.map fun v => v.category).sum + 12 ≤ K.2.1.locals)
    (k : EV K a b cs n ls st) : EV K a b cs pc ls (.ref q :: st) := by
  subst hn
  intro G A p l e s m args below meth c H locs cells slots lsA hX hL hP hD hS hc hs
  have hts := hX.2.2.2.2.2.2.2.1
  exact W.objInit hX.1 hX.2.1 hX.2.2.2.2.2.1 (hts _ w1) (hts _ w2) (hts _ w3) rfl (hL.1.trans hX.2.2.1.symm) rfl d hfr (by show 2 * 0 + _ + 12 ≤ _; omega) (k G A p l e s m args below meth c H locs cells slots lsA hX hL hP hD hS hc hs)
/-- Math -/
def eMa (own : String) (idx : Nat) (nm : MethodName) (code : ByteArray) (k : Nat) : Prop := Cond.methodLink own idx nm ∈ eTB ∧ Cond.static nm ∈ eTB ∧ Cond.initialized "java/lang/Math" ∈ eTB ∧ Cond.code nm code k (some .int) ∈ eTB
theorem e_abs {idx : Nat} {x : Int} (w : eMa K.1.1.cls idx Lib.Math.abs.name Lib.Math.abs.code 1) (d : decode K.1.2.1 pc = .ok (.invokestatic idx, 3)) (hn : pc + 3 = n) (hfr : 1 ≤ K.2.1.frames) (hlo : (st.map fun v => v.category).sum + 13 ≤ K.2.1.locals) (hx2 : -2147483648 ≤ x ∧ x ≤ 2147483647)
    (k : EV K a b cs n ls (vi (if 0 ≤ x then x else -x) :: st)) : EV K a b cs pc ls (vi x :: st) := by
  subst hn
  obtain ⟨w1, w2, w3, w4⟩ := w
  intro G A p l e s m args below meth c H locs cells slots lsA hX hL hP hD hS hc hs
  have hts := hX.2.2.2.2.2.2.2.1
  refine va_mabs hX.1 hX.2.1 (hX.2.2.1.trans hL.1.symm) hX.2.2.2.2.2.1 (hts _ w1) (hts _ w2) (hts _ w3) (hts _ w4) hfr hlo (by omega) (by omega) d ?_
  have e : (if (0 : Int32) ≤ Int32.ofInt x then Int32.ofInt x else 0 - Int32.ofInt x) = Int32.ofInt (if 0 ≤ x then x else -x) := by
    have h0 : (0 : Int32) ≤ Int32.ofInt x ↔ 0 ≤ x := by rw [← oI_z]; exact oI_le (by omega) hx2
    by_cases h : 0 ≤ x
    · rw [if_pos h, if_pos (h0.mpr h)]
    · rw [if_neg h, if_neg (fun q => h (h0.mp q)), Int32.ofInt_neg, Int32.zero_sub]
  rw [e]
  exact k G A p l _ s m args below meth c H locs cells slots lsA hX hL hP hD hS hc hs
theorem e_max {idx : Nat} {x y : Int} (w : eMa K.1.1.cls idx Lib.Math.max.name Lib.Math.max.code 2) (d : decode K.1.2.1 pc = .ok (.invokestatic idx, 3)) (hn : pc + 3 = n) (hfr : 1 ≤ K.2.1.frames) (hlo : (st.map fun v => v.category).sum + 13 ≤ K.2.1.locals) (hx2 : -2147483648 ≤ x ∧ x ≤ 2147483647) (hy2 : -2147483648 ≤ y ∧ y ≤ 2147483647)
    (k : EV K a b cs n ls (vi (if x < y then y else x) :: st)) : EV K a b cs pc ls (vi y :: vi x :: st) := by
  subst hn
  obtain ⟨w1, w2, w3, w4⟩ := w
  intro G A p l e s m args below meth c H locs cells slots lsA hX hL hP hD hS hc hs
  have hts := hX.2.2.2.2.2.2.2.1
  refine va_mmax hX.1 hX.2.1 (hX.2.2.1.trans hL.1.symm) hX.2.2.2.2.2.1 (hts _ w1) (hts _ w2) (hts _ w3) (hts _ w4) hfr hlo (by omega) (by omega) d ?_
  have e : (if Int32.ofInt x < Int32.ofInt y then Int32.ofInt y else Int32.ofInt x) = Int32.ofInt (if x < y then y else x) := by
    by_cases h : x < y
    · rw [if_pos h, if_pos ((oI_lt hx2 hy2).mpr h)]
    · rw [if_neg h, if_neg (fun q => h ((oI_lt hx2 hy2).mp q))]
  rw [e]
  exact k G A p l _ s m args below meth c H locs cells slots lsA hX hL hP hD hS hc hs
theorem e_min {idx : Nat} {x y : Int} (w : eMa K.1.1.cls idx Lib.Math.min.name Lib.Math.min.code 2) (d : decode K.1.2.1 pc = .ok (.invokestatic idx, 3)) (hn : pc + 3 = n) (hfr : 1 ≤ K.2.1.frames) (hlo : (st.map fun v => v.category).sum + 13 ≤ K.2.1.locals) (hx2 : -2147483648 ≤ x ∧ x ≤ 2147483647) (hy2 : -2147483648 ≤ y ∧ y ≤ 2147483647)
    (k : EV K a b cs n ls (vi (if y < x then y else x) :: st)) : EV K a b cs pc ls (vi y :: vi x :: st) := by
  subst hn
  obtain ⟨w1, w2, w3, w4⟩ := w
  intro G A p l e s m args below meth c H locs cells slots lsA hX hL hP hD hS hc hs
  have hts := hX.2.2.2.2.2.2.2.1
  refine va_mmin hX.1 hX.2.1 (hX.2.2.1.trans hL.1.symm) hX.2.2.2.2.2.1 (hts _ w1) (hts _ w2) (hts _ w3) (hts _ w4) hfr hlo (by omega) (by omega) d ?_
  have e : (if Int32.ofInt y < Int32.ofInt x then Int32.ofInt y else Int32.ofInt x) = Int32.ofInt (if y < x then y else x) := by
    by_cases h : y < x
    · rw [if_pos h, if_pos ((oI_lt hy2 hx2).mpr h)]
    · rw [if_neg h, if_neg (fun q => h ((oI_lt hy2 hx2).mp q))]
  rw [e]
  exact k G A p l _ s m args below meth c H locs cells slots lsA hX hL hP hD hS hc hs
/-- System.arraycopy over rows of ints, of longs -/
def eCp (own : String) (idx : Nat) : Prop := Cond.methodLink own idx arraycopyName ∈ eTB ∧ Cond.native arraycopyName ∈ eTB ∧ Cond.static arraycopyName ∈ eTB ∧ Cond.initialized "java/lang/System" ∈ eTB
def eCy (f g : Int → Int) (sp dp m : Int) : Int → Int := fun k => if dp ≤ k ∧ k < dp + m then f (sp + (k - dp)) else g k
theorem e_copyi {idx i j N M q0 q : Nat} {f g : Int → Int} {sp dp m : Int} (w : eCp K.1.1.cls idx) (d : decode K.1.2.1 pc = .ok (.invokestatic idx, 3)) (hn : pc + 3 = n) (hq0 : q0 = a i) (hq : q = a j) (hi : cs[i]? = some (eI 0 N f)) (hj : cs[j]? = some (eI 0 M g)) (h1 : 0 ≤ sp ∧ sp + m ≤ N) (h2 : 0 ≤ dp ∧ dp + m ≤ M) (h3 : 0 ≤ m) (hN : N ≤ 1000000 ∧ M ≤ 1000000)
    (hfr : 1 ≤ K.2.1.frames) (hlo : (st.map fun v => v.category).sum + (nativeFrameWords "java/lang/System" "arraycopy" 5 + 11) ≤ K.2.1.locals) (k : EV K a b (cs.set j (eI 0 M (eCy f g sp dp m))) n ls st) : EV K a b cs pc ls (vi m :: vi dp :: .ref q :: vi sp :: .ref q0 :: st) := by
  subst hn; subst hq0; subst hq
  obtain ⟨w1, w2, w3, w4⟩ := w
  intro G A p l e s me args below meth c H locs cells slots lsA hX hL hP hD hS hc hs
  have hts := hX.2.2.2.2.2.2.2.1
  have hneg : ∀ z : Int, 0 ≤ z → z ≤ 1000000 → ¬ Int32.ofInt z < 0 := fun z h h' => by rw [← oI_z, oI_lt (by omega) (by omega)]; omega
  refine va_copyi hX.1 hX.2.1 (hX.2.2.1.trans hL.1.symm) hX.2.2.2.2.2.1 (hts _ w1) (hts _ w2) (hts _ w3) (hts _ w4) hX.2.2.2.2.2.2.2.2.1.1 hP hD hS i j 0 0 (ty := .int) (eW_at hi) (eW_at hj) (eTys_at rfl) (eTys_at rfl) rfl (hneg _ h1.1 (by omega)) (hneg _ h2.1 (by omega)) (hneg _ h3 (by omega))
    (by rw [oI_nat (by omega), oI_nat (by omega)]; omega) (by rw [oI_nat (by omega), oI_nat (by omega)]; omega) (fun _ _ => rfl) hfr hlo d (fun H1 locs1 hP1 hD1 hS1 => ?_)
  have ef : va_cpy (fun j : Nat => Int32.ofInt (f (j : Int))) (fun j : Nat => Int32.ofInt (g (j : Int))) (Int32.ofInt sp).toNatClampNeg (Int32.ofInt dp).toNatClampNeg (Int32.ofInt m).toNatClampNeg = (fun j : Nat => Int32.ofInt (eCy f g sp dp m (j : Int))) := by
    rw [oI_nat (by omega), oI_nat (by omega), oI_nat (by omega)]
    funext z
    unfold va_cpy eCy
    by_cases hz : dp ≤ (z : Int) ∧ (z : Int) < dp + m
    · have e9 : ((sp.toNat + (z - dp.toNat) : Nat) : Int) = sp + ((z : Int) - dp) := by omega
      rw [if_pos hz, if_pos (by omega)]
      dsimp only
      rw [e9]
    · rw [if_neg hz, if_neg (by omega)]
  rw [ef] at hP1 hD1
  have es : eW G a (cs.set j (eI 0 M (eCy f g sp dp m))) = (eW G a cs).set j (a j, eC G (eI 0 M (eCy f g sp dp m))) := eW_set
  exact k G A p l e s me args below meth c H1 locs1 cells slots lsA hX hL (by rw [es]; exact hP1) (by rw [es]; exact hD1) hS1 hc hs
theorem e_copyl {idx i j N M q0 q : Nat} {f g : Int → Int} {sp dp m : Int} (w : eCp K.1.1.cls idx) (d : decode K.1.2.1 pc = .ok (.invokestatic idx, 3)) (hn : pc + 3 = n) (hq0 : q0 = a i) (hq : q = a j) (hi : cs[i]? = some (eJ 1 N f)) (hj : cs[j]? = some (eJ 1 M g)) (h1 : 0 ≤ sp ∧ sp + m ≤ N) (h2 : 0 ≤ dp ∧ dp + m ≤ M) (h3 : 0 ≤ m) (hN : N ≤ 1000000 ∧ M ≤ 1000000)
    (hfr : 1 ≤ K.2.1.frames) (hlo : (st.map fun v => v.category).sum + (nativeFrameWords "java/lang/System" "arraycopy" 5 + 11) ≤ K.2.1.locals) (k : EV K a b (cs.set j (eJ 1 M (eCy f g sp dp m))) n ls st) : EV K a b cs pc ls (vi m :: vi dp :: .ref q :: vi sp :: .ref q0 :: st) := by
  subst hn; subst hq0; subst hq
  obtain ⟨w1, w2, w3, w4⟩ := w
  intro G A p l e s me args below meth c H locs cells slots lsA hX hL hP hD hS hc hs
  have hts := hX.2.2.2.2.2.2.2.1
  have hneg : ∀ z : Int, 0 ≤ z → z ≤ 1000000 → ¬ Int32.ofInt z < 0 := fun z h h' => by rw [← oI_z, oI_lt (by omega) (by omega)]; omega
  refine va_copyl hX.1 hX.2.1 (hX.2.2.1.trans hL.1.symm) hX.2.2.2.2.2.1 (hts _ w1) (hts _ w2) (hts _ w3) (hts _ w4) hX.2.2.2.2.2.2.2.2.1.1 hP hD hS i j 1 1 (ty := .long) (eW_at hi) (eW_at hj) (eTys_at rfl) (eTys_at rfl) rfl (hneg _ h1.1 (by omega)) (hneg _ h2.1 (by omega)) (hneg _ h3 (by omega))
    (by rw [oI_nat (by omega), oI_nat (by omega)]; omega) (by rw [oI_nat (by omega), oI_nat (by omega)]; omega) (fun _ _ => rfl) hfr hlo d (fun H1 locs1 hP1 hD1 hS1 => ?_)
  have ef : va_cpy (fun j : Nat => Int64.ofInt (f (j : Int))) (fun j : Nat => Int64.ofInt (g (j : Int))) (Int32.ofInt sp).toNatClampNeg (Int32.ofInt dp).toNatClampNeg (Int32.ofInt m).toNatClampNeg = (fun j : Nat => Int64.ofInt (eCy f g sp dp m (j : Int))) := by
    rw [oI_nat (by omega), oI_nat (by omega), oI_nat (by omega)]
    funext z
    unfold va_cpy eCy
    by_cases hz : dp ≤ (z : Int) ∧ (z : Int) < dp + m
    · have e9 : ((sp.toNat + (z - dp.toNat) : Nat) : Int) = sp + ((z : Int) - dp) := by omega
      rw [if_pos hz, if_pos (by omega)]
      dsimp only
      rw [e9]
    · rw [if_neg hz, if_neg (by omega)]
  rw [ef] at hP1 hD1
  have es : eW G a (cs.set j (eJ 1 M (eCy f g sp dp m))) = (eW G a cs).set j (a j, eC G (eJ 1 M (eCy f g sp dp m))) := eW_set
  exact k G A p l e s me args below meth c H1 locs1 cells slots lsA hX hL (by rw [es]; exact hP1) (by rw [es]; exact hD1) hS1 hc hs
/-- the script -/
theorem e_sld {bb L : Nat} {xs : Nat → Int32} {z : Int} (hsc : K.2.2.2.2 = some (.inl (bb, L, xs))) (d : decode K.1.2.1 pc = .ok (.iaload, 1)) (hn : pc + 1 = n) (hz : 0 ≤ z ∧ z < L) (hL2 : L ≤ 2147483647) (k : EV K a b cs n ls (.int (xs z.toNat) :: st)) : EV K a b cs pc ls (vi z :: .ref bb :: st) := by
  subst hn
  intro G A p l e s m args below meth c H locs cells slots lsA hX hL hP hD hS hc hs
  have h := hX.2.2.2.2.2.2.2.2.2.2.2.2
  unfold eSc at h
  rw [hsc] at h
  obtain ⟨h1, h2, h3⟩ := h
  refine va_sld hX.1 hX.2.1 h1 h2 h3 hS (oI_in hz hL2) d ?_
  rw [oI_nat (by omega)]
  exact k G A p l e s m args below meth c H locs cells slots lsA hX hL hP hD hS hc hs
theorem e_slen {bb L : Nat} {xs : Nat → Int32} (hsc : K.2.2.2.2 = some (.inl (bb, L, xs))) (hL2 : L ≤ 2147483647) (d : decode K.1.2.1 pc = .ok (.arraylength, 1)) (hn : pc + 1 = n) (k : EV K a b cs n ls (vi (L : Int) :: st)) : EV K a b cs pc ls (.ref bb :: st) := by
  subst hn
  intro G A p l e s m args below meth c H locs cells slots lsA hX hL hP hD hS hc hs
  have h := hX.2.2.2.2.2.2.2.2.2.2.2.2
  unfold eSc at h
  rw [hsc] at h
  obtain ⟨h1, h2, h3⟩ := h
  refine va_slen hX.1 hX.2.1 h1 h2 h3 hS d ?_
  have e9 : Int32.ofInt (L : Int) = nI L := Int32.toInt_inj.mp (by rw [oI_toInt (by omega), nI_toInt (by omega)])
  have k' := k G A p l e s m args below meth c H locs cells slots lsA hX hL hP hD hS hc hs
  unfold vi at k'
  rw [e9] at k'
  exact k'
/-- a text -/
theorem e_ldcS {is si : Nat} {text : String} (hs : eStr[si]? = some (K.1.1.cls, is, text)) (d : decode K.1.2.1 pc = .ok (.ldc is, 2)) (hn : pc + 2 = n) (k : EV K a b cs n ls (.ref (K.2.2.2.1 si) :: st)) : EV K a b cs pc ls st := by
  subst hn
  intro G A p l e s m args below meth c H locs cells slots lsA hX hL hP hD hS hc hsl
  exact va_ldcS hX.1 hX.2.1 hX.2.2.2.2.2.1 (hX.2.2.2.2.2.2.2.2.1.2.1 si _ hs) d (k G A p l e s m args below meth c H locs cells slots lsA hX hL hP hD hS hc hsl)
end EVT
