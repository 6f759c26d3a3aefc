/-! ===== EV: locals, fields, arrays ===== -/
def eKl (ls : List (Option Value)) (i : Nat) : List (Option Value) := match i with
  | 0 => ls
  | j + 1 => match ls[j]? with
    | some (some w) => match w.category with
      | 2 => ls.set j none
      | _ => ls
    | _ => ls
def eS1 (ls : List (Option Value)) (i : Nat) (v : Value) : List (Option Value) := (eKl ls i).set i (some v)
def eS2 (ls : List (Option Value)) (i : Nat) (v : Value) : List (Option Value) := ((eKl ls i).set (i + 1) none).set i (some v)
theorem eKl_at {ls : List (Option Value)} {i j : Nat} {w : Value} (h : (eKl ls i)[j]? = some (some w)) : ls[j]? = some (some w) ∧ ¬ (j + 1 = i ∧ w.category = 2) := by
  cases i with
  | zero => exact ⟨h, fun q => by omega⟩
  | succ k =>
    simp only [eKl] at h
    split at h
    · rename_i v hv
      split at h
      · rename_i hc
        by_cases hjk : k = j
        · subst hjk
          rw [List.getElem?_set] at h
          by_cases hl : k < ls.length
          · simp [hl] at h
          · simp [hl] at h
        · rw [List.getElem?_set_ne hjk] at h
          exact ⟨h, fun q => hjk (by omega)⟩
      · rename_i hc
        refine ⟨h, fun q => ?_⟩
        have e : k = j := by omega
        subst e
        rw [hv] at h
        cases h
        exact hc q.2
    · rename_i hv
      refine ⟨h, fun q => ?_⟩
      have e : k = j := by omega
      subst e
      exact hv w h
theorem eS1_at {ls : List (Option Value)} {i j : Nat} {v w : Value} (h : (eS1 ls i v)[j]? = some (some w)) : (j = i ∧ w = v) ∨ (j ≠ i ∧ ls[j]? = some (some w) ∧ ¬ (j + 1 = i ∧ w.category = 2)) := by
  unfold eS1 at h
  by_cases hj : i = j
  · subst hj
    rw [List.getElem?_set] at h
    by_cases hl : i < (eKl ls i).length
    · simp [hl] at h; exact Or.inl ⟨rfl, h.symm⟩
    · simp [hl] at h
  · rw [List.getElem?_set_ne hj] at h
    obtain ⟨h1, h2⟩ := eKl_at h
    exact Or.inr ⟨fun e => hj e.symm, h1, h2⟩
theorem eS2_at {ls : List (Option Value)} {i j : Nat} {v w : Value} (h : (eS2 ls i v)[j]? = some (some w)) : (j = i ∧ w = v) ∨ (j ≠ i ∧ j ≠ i + 1 ∧ ls[j]? = some (some w) ∧ ¬ (j + 1 = i ∧ w.category = 2)) := by
  unfold eS2 at h
  by_cases hj : i = j
  · subst hj
    rw [List.getElem?_set] at h
    by_cases hl : i < ((eKl ls i).set (i + 1) none).length
    · rw [if_pos rfl, if_pos hl] at h
      cases h
      exact Or.inl ⟨rfl, rfl⟩
    · rw [if_pos rfl, if_neg hl] at h
      cases h
  · rw [List.getElem?_set_ne hj] at h
    by_cases hj2 : i + 1 = j
    · subst hj2
      rw [List.getElem?_set] at h
      by_cases hl : i + 1 < (eKl ls i).length
      · rw [if_pos rfl, if_pos hl] at h
        cases h
      · rw [if_pos rfl, if_neg hl] at h
        cases h
    · rw [List.getElem?_set_ne hj2] at h
      obtain ⟨h1, h2⟩ := eKl_at h
      exact Or.inr ⟨fun e => hj e.symm, fun e => hj2 e.symm, h1, h2⟩
/-- the listed values, as the kit's rows want them -/
def ePr (ls : List (Option Value)) : List (Nat × Value) := (List.range ls.length).filterMap (fun i => match ls[i]? with
  | some (some v) => some (i, v)
  | _ => none)
theorem ePr_mem {ls : List (Option Value)} {i : Nat} {v : Value} : (i, v) ∈ ePr ls ↔ ls[i]? = some (some v) := by
  unfold ePr
  rw [List.mem_filterMap]
  constructor
  · rintro ⟨j, -, hj⟩
    split at hj
    · rename_i w hw
      cases hj
      exact hw
    · cases hj
  · intro h
    refine ⟨i, List.mem_range.mpr (List.getElem?_eq_some_iff.mp h).1, ?_⟩
    rw [h]
theorem eL.has {lsA : Array Slot} {n : Nat} {ls : List (Option Value)} (h : eL lsA n ls) : lv_has lsA n (ePr ls) := ⟨h.1, h.2.1, fun q hq => h.2.2 q.1 q.2 (ePr_mem.mp hq)⟩
theorem eL.put1 {lsA : Array Slot} {n i : Nat} {v : Value} {ls : List (Option Value)} (h : lv_has lsA n ((i, v) :: (ePr ls).filter (fun q => !(q.1 == i) && !(q.1 + 1 == i && q.2.category == 2)))) : eL lsA n (eS1 ls i v) := by
  refine ⟨h.1, h.2.1, fun j w hj => ?_⟩
  rcases eS1_at hj with ⟨rfl, rfl⟩ | ⟨h1, h2, h3⟩
  · exact h.2.2 _ List.mem_cons_self
  · refine h.2.2 (j, w) (List.mem_cons_of_mem _ (List.mem_filter.mpr ⟨ePr_mem.mpr h2, ?_⟩))
    by_cases e : j + 1 = i
    · have : ¬ w.category = 2 := fun q => h3 ⟨e, q⟩
      simp [h1, this]
    · simp [h1, e]
theorem eL.put2 {lsA : Array Slot} {n i : Nat} {v : Value} {ls : List (Option Value)} (h : lv_has lsA n ((i, v) :: (ePr ls).filter (fun q => !(q.1 == i) && (!(q.1 == i + 1) && !(q.1 + 1 == i && q.2.category == 2))))) : eL lsA n (eS2 ls i v) := by
  refine ⟨h.1, h.2.1, fun j w hj => ?_⟩
  rcases eS2_at hj with ⟨rfl, rfl⟩ | ⟨h1, h0, h2, h3⟩
  · exact h.2.2 _ List.mem_cons_self
  · refine h.2.2 (j, w) (List.mem_cons_of_mem _ (List.mem_filter.mpr ⟨ePr_mem.mpr h2, ?_⟩))
    by_cases e : j + 1 = i
    · have : ¬ w.category = 2 := fun q => h3 ⟨e, q⟩
      simp [h1, h0, this]
    · simp [h1, h0, e]
/-- a field's site -/
def eFd (own : String) (idx ci k : Nat) (ty : FieldType) (fin : Bool) : Prop := ∃ (C : String) (T : u_T) (N : Nat) (ty0 : Nat → FieldType), eCl[ci]? = some (C, T, N) ∧ (∀ w ∈ u_ws C T N, w ∈ eTB) ∧ k < N ∧ Cond.fieldLink own idx (T k).1 (T k).2.1 (T k).2.2.1 ∈ eTB ∧
  (∀ j, j < N → parseFieldDescriptor (T j).2.2.1 = some (ty0 j)) ∧ (∀ a, a < N → ∀ b, b < N → a ≠ b → (T a).2.1 ≠ (T b).2.1) ∧ parseFieldDescriptor (T k).2.2.1 = some ty ∧ (T k).2.2.2 = fin ∧ (fin = true → (T k).1 = C)
def eI (t n : Nat) (x : Int → Int) : eE := .inl (t, (n, .inl (fun j => Int32.ofInt (x (j : Int)))))
def eJ (t n : Nat) (x : Int → Int) : eE := .inl (t, (n, .inr (.inl (fun j => Int64.ofInt (x (j : Int))))))
def eRf (t n : Nat) (f : Nat → Option Nat) : eE := .inl (t, (n, .inr (.inr (.inr (.inr f)))))
def eU (x : Int → Int) (z v : Int) : Int → Int := fun j => if j = z then v else x j
theorem eU_i {x : Int → Int} {z v : Int} {w : Int32} (h : 0 ≤ z) (hw : w = Int32.ofInt v) : (fun j : Nat => Int32.ofInt (eU x z v (j : Int))) = upd (fun j : Nat => Int32.ofInt (x (j : Int))) z.toNat w := by
  funext j
  unfold eU upd
  by_cases hj : j = z.toNat
  · subst hj
    rw [if_pos rfl, if_pos (by omega), hw]
  · rw [if_neg hj, if_neg (by omega)]
theorem eU_l {x : Int → Int} {z v : Int} (h : 0 ≤ z) : (fun j : Nat => Int64.ofInt (eU x z v (j : Int))) = vp_updL (fun j : Nat => Int64.ofInt (x (j : Int))) z.toNat (Int64.ofInt v) := by
  funext j
  unfold eU vp_updL
  by_cases hj : j = z.toNat
  · subst hj
    rw [if_pos rfl, if_pos (by omega)]
  · rw [if_neg hj, if_neg (by omega)]
theorem oI_nbyte0 : ∀ k : Fin 256, vp_nar .byte (Int32.ofInt (((k.val : Nat) : Int) - 128)) = Int32.ofInt (((k.val : Nat) : Int) - 128) := by decide +kernel
theorem oI_nbyte {x : Int} (h : -128 ≤ x ∧ x ≤ 127) : vp_nar .byte (Int32.ofInt x) = Int32.ofInt x := by
  have := oI_nbyte0 ⟨(x + 128).toNat, by omega⟩
  have e : (((x + 128).toNat : Nat) : Int) - 128 = x := by omega
  simp only [e] at this
  exact this
theorem oI_nchar {x : Int} (h : 0 ≤ x ∧ x ≤ 65535) : vp_nar .char (Int32.ofInt x) = Int32.ofInt x := by
  have h0 : (Int32.ofInt x).toUInt32.toNat = x.toNat := by
    show (BitVec.ofInt 32 x).toNat = x.toNat
    rw [BitVec.toNat_ofInt]
    omega
  have h1 : (Int32.ofInt x).toUInt32.toUInt16.toUInt32 = (Int32.ofInt x).toUInt32 := by
    apply UInt32.toNat_inj.mp
    rw [UInt16.toNat_toUInt32, UInt32.toNat_toUInt16, h0]
    omega
  rw [vp_nar_char, h1]
  rfl
section EVM
variable {K : eK} {a : Nat → Nat} {b : Nat × Nat} {cs : List eE} {pc n : Nat} {ls : List (Option Value)} {st : List Value}

theorem e_istore_n {i : Fin 4} {x : Int32} (d : decode K.1.2.1 pc = .ok (.istore_n i, 1)) (hn : pc + 1 = n) (hi : (i : Nat) < K.1.2.2.1) (k : EV K a b cs n (eS1 ls (i : Nat) (.int x)) st) : EV K a b cs pc ls (.int x :: st) := by
  subst hn
  intro G A p l e s m args below meth c H locs cells slots lsA hX hL hP hD hS hc hs
  exact lv_istore_n hX.1 hX.2.1 d rfl hL.has hi rfl (fun lsB hB => k G A p l e s m args below meth c H locs cells slots lsB hX (eL.put1 hB) hP hD hS hc hs)
theorem e_istore {i : Nat} {x : Int32} (d : decode K.1.2.1 pc = .ok (.istore i, 2)) (hn : pc + 2 = n) (hi : i < K.1.2.2.1) (k : EV K a b cs n (eS1 ls i (.int x)) st) : EV K a b cs pc ls (.int x :: st) := by
  subst hn
  intro G A p l e s m args below meth c H locs cells slots lsA hX hL hP hD hS hc hs
  exact lv_istore hX.1 hX.2.1 d hL.has hi rfl (fun lsB hB => k G A p l e s m args below meth c H locs cells slots lsB hX (eL.put1 hB) hP hD hS hc hs)
theorem e_astore_n {i : Fin 4} {x : Nat} (d : decode K.1.2.1 pc = .ok (.astore_n i, 1)) (hn : pc + 1 = n) (hi : (i : Nat) < K.1.2.2.1) (k : EV K a b cs n (eS1 ls (i : Nat) (.ref x)) st) : EV K a b cs pc ls (.ref x :: st) := by
  subst hn
  intro G A p l e s m args below meth c H locs cells slots lsA hX hL hP hD hS hc hs
  exact lv_astore_n hX.1 hX.2.1 d rfl hL.has hi rfl (fun lsB hB => k G A p l e s m args below meth c H locs cells slots lsB hX (eL.put1 hB) hP hD hS hc hs)
theorem e_astore {i : Nat} {x : Nat} (d : decode K.1.2.1 pc = .ok (.astore i, 2)) (hn : pc + 2 = n) (hi : i < K.1.2.2.1) (k : EV K a b cs n (eS1 ls i (.ref x)) st) : EV K a b cs pc ls (.ref x :: st) := by
  subst hn
  intro G A p l e s m args below meth c H locs cells slots lsA hX hL hP hD hS hc hs
  exact lv_astore hX.1 hX.2.1 d hL.has hi rfl (fun lsB hB => k G A p l e s m args below meth c H locs cells slots lsB hX (eL.put1 hB) hP hD hS hc hs)
theorem e_fstore_n {i : Fin 4} {x : UInt32} (d : decode K.1.2.1 pc = .ok (.fstore_n i, 1)) (hn : pc + 1 = n) (hi : (i : Nat) < K.1.2.2.1) (k : EV K a b cs n (eS1 ls (i : Nat) (.float x)) st) : EV K a b cs pc ls (.float x :: st) := by
  subst hn
  intro G A p l e s m args below meth c H locs cells slots lsA hX hL hP hD hS hc hs
  exact lv_fstore_n hX.1 hX.2.1 d rfl hL.has hi rfl (fun lsB hB => k G A p l e s m args below meth c H locs cells slots lsB hX (eL.put1 hB) hP hD hS hc hs)
theorem e_fstore {i : Nat} {x : UInt32} (d : decode K.1.2.1 pc = .ok (.fstore i, 2)) (hn : pc + 2 = n) (hi : i < K.1.2.2.1) (k : EV K a b cs n (eS1 ls i (.float x)) st) : EV K a b cs pc ls (.float x :: st) := by
  subst hn
  intro G A p l e s m args below meth c H locs cells slots lsA hX hL hP hD hS hc hs
  exact lv_fstore hX.1 hX.2.1 d hL.has hi rfl (fun lsB hB => k G A p l e s m args below meth c H locs cells slots lsB hX (eL.put1 hB) hP hD hS hc hs)
theorem e_lstore_n {i : Fin 4} {x : Int64} (d : decode K.1.2.1 pc = .ok (.lstore_n i, 1)) (hn : pc + 1 = n) (hi : (i : Nat) + 1 < K.1.2.2.1) (k : EV K a b cs n (eS2 ls (i : Nat) (.long x)) st) : EV K a b cs pc ls (.long x :: st) := by
  subst hn
  intro G A p l e s m args below meth c H locs cells slots lsA hX hL hP hD hS hc hs
  exact lv_lstore_n hX.1 hX.2.1 d rfl hL.has hi rfl (fun lsB hB => k G A p l e s m args below meth c H locs cells slots lsB hX (eL.put2 hB) hP hD hS hc hs)
theorem e_lstore {i : Nat} {x : Int64} (d : decode K.1.2.1 pc = .ok (.lstore i, 2)) (hn : pc + 2 = n) (hi : i + 1 < K.1.2.2.1) (k : EV K a b cs n (eS2 ls i (.long x)) st) : EV K a b cs pc ls (.long x :: st) := by
  subst hn
  intro G A p l e s m args below meth c H locs cells slots lsA hX hL hP hD hS hc hs
  exact lv_lstore hX.1 hX.2.1 d hL.has hi rfl (fun lsB hB => k G A p l e s m args below meth c H locs cells slots lsB hX (eL.put2 hB) hP hD hS hc hs)
theorem e_dstore_n {i : Fin 4} {x : UInt64} (d : decode K.1.2.1 pc = .ok (.dstore_n i, 1)) (hn : pc + 1 = n) (hi : (i : Nat) + 1 < K.1.2.2.1) (k : EV K a b cs n (eS2 ls (i : Nat) (.double x)) st) : EV K a b cs pc ls (.double x :: st) := by
  subst hn
  intro G A p l e s m args below meth c H locs cells slots lsA hX hL hP hD hS hc hs
  exact lv_dstore_n hX.1 hX.2.1 d rfl hL.has hi rfl (fun lsB hB => k G A p l e s m args below meth c H locs cells slots lsB hX (eL.put2 hB) hP hD hS hc hs)
theorem e_dstore {i : Nat} {x : UInt64} (d : decode K.1.2.1 pc = .ok (.dstore i, 2)) (hn : pc + 2 = n) (hi : i + 1 < K.1.2.2.1) (k : EV K a b cs n (eS2 ls i (.double x)) st) : EV K a b cs pc ls (.double x :: st) := by
  subst hn
  intro G A p l e s m args below meth c H locs cells slots lsA hX hL hP hD hS hc hs
  exact lv_dstore hX.1 hX.2.1 d hL.has hi rfl (fun lsB hB => k G A p l e s m args below meth c H locs cells slots lsB hX (eL.put2 hB) hP hD hS hc hs)
theorem e_iinc {i : Nat} {x v : Int} (d : decode K.1.2.1 pc = .ok (.iinc i v, 3)) (hn : pc + 3 = n) (hl : ls[i]? = some (some (vi x))) (hi : i < K.1.2.2.1) (k : EV K a b cs n (eS1 ls i (vi (x + v))) st) : EV K a b cs pc ls st := by
  subst hn
  intro G A p l e s m args below meth c H locs cells slots lsA hX hL hP hD hS hc hs
  obtain ⟨j, hj⟩ := List.getElem?_of_mem (ePr_mem.mpr hl)
  exact lv_iinc hX.1 hX.2.1 d hL.has hj (v := Int32.ofInt (x + v)) (by rw [Int32.ofInt_add]) hi rfl (fun lsB hB => k G A p l e s m args below meth c H locs cells slots lsB hX (eL.put1 hB) hP hD hS hc hs)
theorem e_getfield {idx ci k i q : Nat} {ty : FieldType} {fin : Bool} {fs : List Value} {v : Value} (f : eFd K.1.1.cls idx ci k ty fin) (d : decode K.1.2.1 pc = .ok (.getfield idx, 3)) (hn : pc + 3 = n) (hq : q = a i) (hc : cs[i]? = some (.inr (ci, fs))) (hv : fs[k]? = some v) (kk : EV K a b cs n ls (v :: st)) : EV K a b cs pc ls (.ref q :: st) := by
  subst hn
  subst hq
  obtain ⟨C, T, N, ty0, f1, f2, f3, f4, f5, f6, f7, f8, f9⟩ := f
  intro G A p l e s m args below meth c H locs cells slots lsA hX hL hP hD hS hcl hs
  have hts := hX.2.2.2.2.2.2.2.1
  exact va_get hX.1 hX.2.1 hts f2 hX.2.2.2.2.2.1 hX.2.2.2.2.2.2.2.2.1.1 hP i (eW_at hc) f1 k f3 (hts _ f4) (fun x h => h) hv d (kk G A p l e s m args below meth c H locs cells slots lsA hX hL hP hD hS hcl hs)
theorem e_putfield {idx ci k i q : Nat} {ty : FieldType} {fs : List Value} {v : Value} (f : eFd K.1.1.cls idx ci k ty false) (d : decode K.1.2.1 pc = .ok (.putfield idx, 3)) (hn : pc + 3 = n) (hq : q = a i) (hc : cs[i]? = some (.inr (ci, fs))) (hk : k < fs.length) (hnar : narrow ty v = v) (hfit : fits ty v = true)
    (kk : EV K a b (cs.set i (.inr (ci, fs.set k v))) n ls st) : EV K a b cs pc ls (v :: .ref q :: st) := by
  subst hn
  subst hq
  obtain ⟨C, T, N, ty0, f1, f2, f3, f4, f5, f6, f7, f8, f9⟩ := f
  intro G A p l e s m args below meth c H locs cells slots lsA hX hL hP hD hS hcl hs
  have hts := hX.2.2.2.2.2.2.2.1
  refine va_put hX.1 hX.2.1 hts f2 ty0 f5 f6 hX.2.2.2.2.2.1 hX.2.2.2.2.2.2.2.2.1.1 hP hD hS i (eW_at hc) f1 k f3 (hts _ f4) (fun x h => h) f8 f7 hnar hfit hk d (fun H1 locs1 hP1 hD1 hS1 => ?_)
  have es : eW G a (cs.set i (.inr (ci, fs.set k v))) = (eW G a cs).set i (a i, .inr (ci, fs.set k v)) := eW_set
  exact kk G A p l e s m args below meth c H1 locs1 cells slots lsA hX hL (by rw [es]; exact hP1) (by rw [es]; exact hD1) hS1 hcl hs
theorem e_putfieldF {idx ci k i q : Nat} {ty : FieldType} {fs : List Value} {v : Value} (f : eFd K.1.1.cls idx ci k ty true) (d : decode K.1.2.1 pc = .ok (.putfield idx, 3)) (hn : pc + 3 = n) (hin : K.1.1.name = "<init>") (hdecl : (eCl[ci]?).map (fun q => q.1) = some K.1.1.cls) (hq : q = a i) (hc : cs[i]? = some (.inr (ci, fs))) (hk : k < fs.length) (hnar : narrow ty v = v) (hfit : fits ty v = true)
    (kk : EV K a b (cs.set i (.inr (ci, fs.set k v))) n ls st) : EV K a b cs pc ls (v :: .ref q :: st) := by
  subst hn
  subst hq
  obtain ⟨C, T, N, ty0, f1, f2, f3, f4, f5, f6, f7, f8, f9⟩ := f
  intro G A p l e s m args below meth c H locs cells slots lsA hX hL hP hD hS hcl hs
  have hts := hX.2.2.2.2.2.2.2.1
  have hd2 : (T k).1 = K.1.1.cls := by
    rw [f9 rfl]
    rw [f1] at hdecl
    exact Option.some.inj hdecl
  refine va_putF hX.1 hX.2.1 hts f2 ty0 f5 f6 hX.2.2.2.2.2.1 hX.2.2.2.2.2.2.2.2.1.1 hP hD hS i (eW_at hc) f1 k f3 (hts _ f4) (fun x h => h) f8 (hX.2.2.2.2.2.2.2.2.2.2.2.1.trans hin) hd2 f7 hnar hfit hk d (fun H1 locs1 hP1 hD1 hS1 => ?_)
  have es : eW G a (cs.set i (.inr (ci, fs.set k v))) = (eW G a cs).set i (a i, .inr (ci, fs.set k v)) := eW_set
  exact kk G A p l e s m args below meth c H1 locs1 cells slots lsA hX hL (by rw [es]; exact hP1) (by rw [es]; exact hD1) hS1 hcl hs
theorem e_iaload {i N q : Nat} {x : Int → Int} {z : Int} (d : decode K.1.2.1 pc = .ok (.iaload, 1)) (hn : pc + 1 = n) (hq : q = a i) (hc : cs[i]? = some (eI 0 N x)) (hz : 0 ≤ z ∧ z < N) (hN : N ≤ 2147483647) (k : EV K a b cs n ls (vi (x z) :: st)) : EV K a b cs pc ls (vi z :: .ref q :: st) := by
  subst hn
  subst hq
  intro G A p l e s m args below meth c H locs cells slots lsA hX hL hP hD hS hcl hs
  refine va_iald hX.1 hX.2.1 hX.2.2.2.2.2.2.2.2.1.1 hP i 0 (eW_at hc) (eTys_at rfl) (oI_in hz hN) d ?_
  rw [oI_nat (by omega)]
  rw [Int.toNat_of_nonneg hz.1]
  exact k G A p l e s m args below meth c H locs cells slots lsA hX hL hP hD hS hcl hs
theorem e_caload {i N q : Nat} {x : Int → Int} {z : Int} (d : decode K.1.2.1 pc = .ok (.caload, 1)) (hn : pc + 1 = n) (hq : q = a i) (hc : cs[i]? = some (eI 2 N x)) (hz : 0 ≤ z ∧ z < N) (hN : N ≤ 2147483647) (k : EV K a b cs n ls (vi (x z) :: st)) : EV K a b cs pc ls (vi z :: .ref q :: st) := by
  subst hn
  subst hq
  intro G A p l e s m args below meth c H locs cells slots lsA hX hL hP hD hS hcl hs
  refine va_cald hX.1 hX.2.1 hX.2.2.2.2.2.2.2.2.1.1 hP i 2 (eW_at hc) (eTys_at rfl) (oI_in hz hN) d ?_
  rw [oI_nat (by omega)]
  rw [Int.toNat_of_nonneg hz.1]
  exact k G A p l e s m args below meth c H locs cells slots lsA hX hL hP hD hS hcl hs
theorem e_laload {i N q : Nat} {x : Int → Int} {z : Int} (d : decode K.1.2.1 pc = .ok (.laload, 1)) (hn : pc + 1 = n) (hq : q = a i) (hc : cs[i]? = some (eJ 1 N x)) (hz : 0 ≤ z ∧ z < N) (hN : N ≤ 2147483647) (k : EV K a b cs n ls (vl (x z) :: st)) : EV K a b cs pc ls (vi z :: .ref q :: st) := by
  subst hn
  subst hq
  intro G A p l e s m args below meth c H locs cells slots lsA hX hL hP hD hS hcl hs
  refine va_lald hX.1 hX.2.1 hX.2.2.2.2.2.2.2.2.1.1 hP i 1 (eW_at hc) (eTys_at rfl) (oI_in hz hN) d ?_
  rw [oI_nat (by omega)]
  rw [Int.toNat_of_nonneg hz.1]
  exact k G A p l e s m args below meth c H locs cells slots lsA hX hL hP hD hS hcl hs
theorem e_baload {i N q : Nat} {x : Int → Int} {z : Int} (d : decode K.1.2.1 pc = .ok (.baload, 1)) (hn : pc + 1 = n) (hq : q = a i) (hc : cs[i]? = some (eI 3 N x)) (hz : 0 ≤ z ∧ z < N) (hN : N ≤ 2147483647) (k : EV K a b cs n ls (vi (x z) :: st)) : EV K a b cs pc ls (vi z :: .ref q :: st) := by
  subst hn
  subst hq
  intro G A p l e s m args below meth c H locs cells slots lsA hX hL hP hD hS hcl hs
  refine va_bald hX.1 hX.2.1 hX.2.2.2.2.2.2.2.2.1.1 hP i 3 (eW_at hc) (eTys_at rfl) (oI_in hz hN) d ?_
  rw [oI_nat (by omega)]
  rw [Int.toNat_of_nonneg hz.1]
  exact k G A p l e s m args below meth c H locs cells slots lsA hX hL hP hD hS hcl hs
theorem e_aaload {i N q : Nat} {f : Nat → Option Nat} {z : Int} (d : decode K.1.2.1 pc = .ok (.aaload, 1)) (hn : pc + 1 = n) (hq : q = a i) (hc : cs[i]? = some (eRf 4 N f)) (hz : 0 ≤ z ∧ z < N) (hN : N ≤ 2147483647) (k : EV K a b cs n ls (va_rf (f z.toNat) :: st)) : EV K a b cs pc ls (vi z :: .ref q :: st) := by
  subst hn
  subst hq
  intro G A p l e s m args below meth c H locs cells slots lsA hX hL hP hD hS hcl hs
  refine va_aldq hX.1 hX.2.1 hX.2.2.2.2.2.2.2.2.1.1 hP i 4 (C := "BasketFlock$Flock") (eW_at hc) (eTys_at rfl) (oI_in hz hN) d ?_
  rw [oI_nat (by omega)]
  exact k G A p l e s m args below meth c H locs cells slots lsA hX hL hP hD hS hcl hs
theorem e_aaloadA {i N q : Nat} {f : Nat → Option Nat} {z : Int} (d : decode K.1.2.1 pc = .ok (.aaload, 1)) (hn : pc + 1 = n) (hq : q = a i) (hc : cs[i]? = some (eRf 5 N f)) (hz : 0 ≤ z ∧ z < N) (hN : N ≤ 2147483647) (k : EV K a b cs n ls (va_rf (f z.toNat) :: st)) : EV K a b cs pc ls (vi z :: .ref q :: st) := by
  subst hn
  subst hq
  intro G A p l e s m args below meth c H locs cells slots lsA hX hL hP hD hS hcl hs
  have hin := oI_in hz hN
  have hlt : (Int32.ofInt z).toNatClampNeg < N := Nat.not_le.mp fun q => hin (Or.inr q)
  have hty := hX.2.2.2.2.2.2.2.2.1.1.2 5 (G.2 5, .array .int) (eTys_at rfl)
  refine W.aald (v := va_rf (f (Int32.ofInt z).toNatClampNeg)) (ty := .array .int) hX.1 hX.2.1 (hP i _ (eW_at hc)) (hty.1 N (fun j => va_rf (f j))) rfl (fun q => by cases q) (by show ¬ (Int32.ofInt z < 0 ∨ (arrV _ _ _).slots.size ≤ _); rw [arrV_size]; exact hin) (by show (arrV _ _ _).slots[_]? = _; rw [arrV_read _ _ hlt]) rfl rfl d ?_
  rw [oI_nat (by omega)]
  exact k G A p l e s m args below meth c H locs cells slots lsA hX hL hP hD hS hcl hs
theorem e_iastore {i N q : Nat} {x : Int → Int} {z v : Int} (d : decode K.1.2.1 pc = .ok (.iastore, 1)) (hn : pc + 1 = n) (hq : q = a i) (hc : cs[i]? = some (eI 0 N x)) (hz : 0 ≤ z ∧ z < N) (hN : N ≤ 2147483647) (k : EV K a b (cs.set i (eI 0 N (eU x z v))) n ls st) : EV K a b cs pc ls (vi v :: vi z :: .ref q :: st) := by
  subst hn
  subst hq
  intro G A p l e s m args below meth c H locs cells slots lsA hX hL hP hD hS hcl hs
  refine va_iast hX.1 hX.2.1 hX.2.2.2.2.2.2.2.2.1.1 hP hD hS i 0 (eW_at hc) (eTys_at rfl) (oI_in hz hN) d (fun H1 locs1 hP1 hD1 hS1 => ?_)
  rw [oI_nat (by omega), ← eU_i hz.1 rfl] at hP1 hD1
  have es : eW G a (cs.set i (eI 0 N (eU x z v))) = (eW G a cs).set i (a i, eC G (eI 0 N (eU x z v))) := eW_set
  exact k G A p l e s m args below meth c H1 locs1 cells slots lsA hX hL (by rw [es]; exact hP1) (by rw [es]; exact hD1) hS1 hcl hs
theorem e_castore {i N q : Nat} {x : Int → Int} {z v : Int} (d : decode K.1.2.1 pc = .ok (.castore, 1)) (hn : pc + 1 = n) (hq : q = a i) (hc : cs[i]? = some (eI 2 N x)) (hz : 0 ≤ z ∧ z < N) (hN : N ≤ 2147483647) (hv : 0 ≤ v ∧ v ≤ 65535) (k : EV K a b (cs.set i (eI 2 N (eU x z v))) n ls st) : EV K a b cs pc ls (vi v :: vi z :: .ref q :: st) := by
  subst hn
  subst hq
  intro G A p l e s m args below meth c H locs cells slots lsA hX hL hP hD hS hcl hs
  refine va_cast hX.1 hX.2.1 hX.2.2.2.2.2.2.2.2.1.1 hP hD hS i 2 (eW_at hc) (eTys_at rfl) (oI_in hz hN) d (fun H1 locs1 hP1 hD1 hS1 => ?_)
  rw [oI_nat (by omega), ← eU_i hz.1 (oI_nchar hv)] at hP1 hD1
  have es : eW G a (cs.set i (eI 2 N (eU x z v))) = (eW G a cs).set i (a i, eC G (eI 2 N (eU x z v))) := eW_set
  exact k G A p l e s m args below meth c H1 locs1 cells slots lsA hX hL (by rw [es]; exact hP1) (by rw [es]; exact hD1) hS1 hcl hs
theorem e_lastore {i N q : Nat} {x : Int → Int} {z v : Int} (d : decode K.1.2.1 pc = .ok (.lastore, 1)) (hn : pc + 1 = n) (hq : q = a i) (hc : cs[i]? = some (eJ 1 N x)) (hz : 0 ≤ z ∧ z < N) (hN : N ≤ 2147483647) (k : EV K a b (cs.set i (eJ 1 N (eU x z v))) n ls st) : EV K a b cs pc ls (vl v :: vi z :: .ref q :: st) := by
  subst hn
  subst hq
  intro G A p l e s m args below meth c H locs cells slots lsA hX hL hP hD hS hcl hs
  refine va_last hX.1 hX.2.1 hX.2.2.2.2.2.2.2.2.1.1 hP hD hS i 1 (eW_at hc) (eTys_at rfl) (oI_in hz hN) d (fun H1 locs1 hP1 hD1 hS1 => ?_)
  rw [oI_nat (by omega), ← eU_l hz.1] at hP1 hD1
  have es : eW G a (cs.set i (eJ 1 N (eU x z v))) = (eW G a cs).set i (a i, eC G (eJ 1 N (eU x z v))) := eW_set
  exact k G A p l e s m args below meth c H1 locs1 cells slots lsA hX hL (by rw [es]; exact hP1) (by rw [es]; exact hD1) hS1 hcl hs
theorem e_bastore {i N q : Nat} {x : Int → Int} {z v : Int} (d : decode K.1.2.1 pc = .ok (.bastore, 1)) (hn : pc + 1 = n) (hq : q = a i) (hc : cs[i]? = some (eI 3 N x)) (hz : 0 ≤ z ∧ z < N) (hN : N ≤ 2147483647) (hv : -128 ≤ v ∧ v ≤ 127) (k : EV K a b (cs.set i (eI 3 N (eU x z v))) n ls st) : EV K a b cs pc ls (vi v :: vi z :: .ref q :: st) := by
  subst hn
  subst hq
  intro G A p l e s m args below meth c H locs cells slots lsA hX hL hP hD hS hcl hs
  refine va_bast hX.1 hX.2.1 hX.2.2.2.2.2.2.2.2.1.1 hP hD hS i 3 (eW_at hc) (eTys_at rfl) (oI_in hz hN) d (fun H1 locs1 hP1 hD1 hS1 => ?_)
  rw [oI_nat (by omega), ← eU_i hz.1 (oI_nbyte hv)] at hP1 hD1
  have es : eW G a (cs.set i (eI 3 N (eU x z v))) = (eW G a cs).set i (a i, eC G (eI 3 N (eU x z v))) := eW_set
  exact k G A p l e s m args below meth c H1 locs1 cells slots lsA hX hL (by rw [es]; exact hP1) (by rw [es]; exact hD1) hS1 hcl hs
theorem e_aastore {i N q q2 ci j : Nat} {f : Nat → Option Nat} {z : Int} {vs : List Value} {r : vw_C} (d : decode K.1.2.1 pc = .ok (.aastore, 1)) (hn : pc + 1 = n) (hq : q = a i) (hc : cs[i]? = some (eRf 4 N f)) (hv : cs[j]? = some (.inr (ci, vs))) (hcj : eCl[ci]? = some r) (hr : r.1 = "BasketFlock$Flock") (hq2 : q2 = a j) (hz : 0 ≤ z ∧ z < N) (hN : N ≤ 2147483647) (k : EV K a b (cs.set i (eRf 4 N (va_up f z.toNat (some q2)))) n ls st) : EV K a b cs pc ls (.ref q2 :: vi z :: .ref q :: st) := by
  subst hn
  subst hq
  subst hq2
  intro G A p l e s m args below meth c H locs cells slots lsA hX hL hP hD hS hcl hs
  refine va_astq hX.1 hX.2.1 hX.2.2.2.2.2.2.2.2.1.1 hP hD hS i 4 j ci (r := r) (eW_at hc) (eTys_at (by rw [hr]; rfl)) (eW_at hv) hcj (oI_in hz hN) d (fun H1 locs1 hP1 hD1 hS1 => ?_)
  rw [oI_nat (by omega)] at hP1 hD1
  have es : eW G a (cs.set i (eRf 4 N (va_up f z.toNat (some (a j))))) = (eW G a cs).set i (a i, eC G (eRf 4 N (va_up f z.toNat (some (a j))))) := eW_set
  exact k G A p l e s m args below meth c H1 locs1 cells slots lsA hX hL (by rw [es]; exact hP1) (by rw [es]; exact hD1) hS1 hcl hs
end EVM
