/-! ===== EV: a method's body by small rules, over worlds of numbered cells (a layer of this claim's own over the kit's rows) ===== -/
abbrev eG : Type := va_G × (Nat → ClassId)
abbrev eE : Type := (Nat × vp_A) ⊕ (Nat × List Value)
def eC (G : eG) (x : eE) : va_E := match x with
  | .inl x => .inl (G.2 x.1, x.2)
  | .inr o => .inr o
def eW (G : eG) (a : Nat → Nat) (cs : List eE) : va_W := cs.mapIdx (fun i c => (a i, eC G c))
theorem eW_len {G : eG} {a : Nat → Nat} {cs : List eE} : (eW G a cs).length = cs.length := by simp [eW]
theorem eW_get (G : eG) (a : Nat → Nat) (cs : List eE) (i : Nat) : (eW G a cs)[i]? = cs[i]?.map (fun c => (a i, eC G c)) := by simp [eW, List.getElem?_mapIdx]
theorem eW_at {G : eG} {a : Nat → Nat} {cs : List eE} {i : Nat} {c : eE} (h : cs[i]? = some c) : (eW G a cs)[i]? = some (a i, eC G c) := by rw [eW_get, h]; rfl
theorem eW_in {G : eG} {a : Nat → Nat} {cs : List eE} {i : Nat} {q : Nat × va_E} (h : (eW G a cs)[i]? = some q) : ∃ c, cs[i]? = some c ∧ q = (a i, eC G c) := by
  rw [eW_get] at h
  cases hc : cs[i]? with
  | none => rw [hc] at h; cases h
  | some c => rw [hc] at h; exact ⟨c, rfl, (Option.some.inj h).symm⟩
theorem eW_set {G : eG} {a : Nat → Nat} {cs : List eE} {i : Nat} {c : eE} : eW G a (cs.set i c) = (eW G a cs).set i (a i, eC G c) := by
  apply List.ext_getElem?
  intro k
  rw [eW_get, List.getElem?_set, List.getElem?_set, eW_len, eW_get]
  by_cases h : i = k
  · subst h
    by_cases h2 : i < cs.length
    · simp [h2]
    · simp [h2]
  · simp [h]
theorem eW_app {G : eG} {a : Nat → Nat} {cs : List eE} {c : eE} {q : Nat} (hq : a cs.length = q) : eW G a (cs ++ [c]) = eW G a cs ++ [(q, eC G c)] := by
  simp [eW, List.mapIdx_append, hq]
theorem eW_cong {G : eG} {a a' : Nat → Nat} {cs : List eE} (h : ∀ k, k < cs.length → a k = a' k) : eW G a cs = eW G a' cs := by
  apply List.ext_getElem?
  intro k
  rw [eW_get, eW_get]
  cases hc : cs[k]? with
  | none => rfl
  | some c => rw [h k (List.getElem?_eq_some_iff.mp hc).1]
def eTy : List FieldType := [.int, .long, .char, .byte, .object "BasketFlock$Flock", .array .int]
def eTys (G : eG) : List (ClassId × FieldType) := eTy.mapIdx (fun i t => (G.2 i, t))
theorem eTys_at {G : eG} {i : Nat} {t : FieldType} (h : eTy[i]? = some t) : (eTys G)[i]? = some (G.2 i, t) := by simp [eTys, List.getElem?_mapIdx, h]
def mWord (M : mE) : Cond := match M.2.2.2.2 with
  | [] => .code M.1 M.2.1 M.2.2.1 M.2.2.2.1
  | h :: t => .codeWith M.1 M.2.1 M.2.2.1 M.2.2.2.1 (h :: t)
def eSp : List MethodName := [yJ5_appendNull_278bc, yJ5_ensureCapacityInternal_d00df, yJ5_newCapacity_0f7a4, yJ5_putStringAt_47b60, yJ5_inflateIfNeededFor_a7421, yJ5_inflate_da8c8]
/-- a private method is what it names, whatever the receiver's class below it -/
theorem eSp_sel {C : String} {y : MethodName} {s : State} {args : Array Value} {n : Nat} (hy : y.cls ≠ "java/lang/invoke/MethodHandle" ∧ y.cls ≠ "java/lang/invoke/VarHandle")
    (hins : (Cond.instantiable C n).before args s = true) (hpriv : (Cond.privateMethod y).before args s = true) (hinst : (Cond.instanceMethod y).before args s = true) (hsame : (Cond.sameMethod y.cls y.cls y.name y.desc).before args s = true) : (Cond.selects C y y).before args s = true := by
  obtain ⟨c, k, hc, hk, -, hniab, -, -⟩ := Cond.instantiable_spec hins
  obtain ⟨mk, methM, hnamed, hmethM, -, -⟩ := Cond.instanceMethod_spec hinst
  have hfound : s.methodFound? y.cls y.name y.desc = some mk := State.methodFound?_of_named hnamed hy
  obtain ⟨-, k2, hk2, hni2⟩ := Cond.sameMethod_spec (findClass_of_methodNamed hnamed) hfound hsame
  have hsel : selectMethod {} s.vm c mk = .method mk := selectMethod_private hmethM (Cond.privateMethod_at hpriv mk methM hnamed hmethM)
  simp only [Cond.before, Cond.holds, Cond.value, hc, hfound, hnamed, hsel, hk2]
  simp
  exact hni2
def eTB0 : List Cond := lw_tbl ++ eSp.map (fun y => .selects RJ4 y y)
def eTB : List Cond := eTB0.filter goodWord
theorem eTB_in {w : Cond} (h : w ∈ lw_tbl) (g : goodWord w = true) : w ∈ eTB := List.mem_filter.mpr ⟨List.mem_append_left _ h, g⟩
theorem eTB_sp {y : MethodName} (h : y ∈ eSp) : Cond.selects RJ4 y y ∈ eTB := List.mem_filter.mpr ⟨List.mem_append_right _ (List.mem_map.mpr ⟨y, h, rfl⟩), rfl⟩
theorem eTB_good {w : Cond} (h : w ∈ eTB) : goodWord w = true := (List.mem_filter.mp h).2
def eWs (M : mE) : List Cond := mWord M :: eTB
/-- the outcomes: a return's answer, or the class thrown -/
abbrev ePo : Type := (Option Value ⊕ String) → (Nat → Nat) → List eE → Prop
/-- the JDK's strings and statics that the bodies read, and the words that no good word says -/
def eCa (C T : String) (U : State) : Prop := ∃ c t : ClassId, U.vm.findClass C = some c ∧ U.vm.findClass T = some t ∧ U.vm.assignable c t = true
theorem eCa.moved {C T : String} {u U : State} (hvm : u.vm.Alike U.vm) (h : eCa C T u) : eCa C T U := by
  obtain ⟨c, t, h1, h2, h3⟩ := h
  exact ⟨c, t, by rw [hvm.findClass]; exact h1, by rw [hvm.findClass]; exact h2, by rw [hvm.assignable]; exact h3⟩
theorem eCa.of {args : Array Value} {s : State} {C T : String} (h : (Cond.castable C T).before args s = true) : eCa C T s := by
  obtain ⟨c, t, h1, h2, h3⟩ := Cond.castable_spec h
  exact ⟨c, t, h1, h2, h3⟩
theorem eCa.use {args : Array Value} {s : State} {C T : String} (h : eCa C T s) : (Cond.castable C T).before args s = true := by
  obtain ⟨c, t, h1, h2, h3⟩ := h
  simp [Cond.before, Cond.holds, Cond.value, h1, h2, h3]
/-- the texts of the class: whose, the entry, the text; the last three are the texts of the law -/
def eStr : List (String × Nat × String) := [("BasketFlock", 108, "no basket is in the cell"), ("BasketFlock", 120, "there is no other basket"), ("BasketFlock", 240, "no remembered shape is the present one"), ("BasketFlock", 245, "there is no such rank"), ("BasketFlock", 303, "there is no such index"), ("BasketFlock", 308, "there are fewer than 2 baskets"), ("BasketFlock", 317, "no baskets are linked"), ("BasketFlock", 349, "there is no such basket"), ("BasketFlock", 351, "a parameter is out of range"), ("BasketFlock", 353, "there are enough of them already"), ("BasketFlock", 355, "what the call needs is not there"), ("BasketFlock", 359, "a basket is in the cell"), ("BasketFlock", 362, "the placing is refused"), ("BasketFlock", 368, "there are no baskets"), ("BasketFlock", 373, "a coordinate is out of range"), ("BasketFlock", 375, "the number of steps is out of range"), ("BasketFlockLaw", 164, ""), ("BasketFlockLaw", 182, "#"), ("BasketFlockLaw", 184, ".")]
def eNn : List (String × Nat × MethodName × String) := [("BasketFlock", 9, ⟨"BasketFlock$Flock", "<init>", "()V"⟩, "BasketFlock"), ("BasketFlock$Flock", 30, ⟨"BasketFlock$Clouds", "<init>", "()V"⟩, "BasketFlock"), ("BasketFlock$Flock", 37, ⟨"BasketFlock$Shapes", "<init>", "()V"⟩, "BasketFlock"), ("BasketFlock$History", 24, ⟨"BasketFlock$Flock", "<init>", "()V"⟩, "BasketFlock"), ("BasketFlock", 35, ⟨"BasketFlock$Formations", "<init>", "()V"⟩, "BasketFlock"), ("BasketFlock", 42, ⟨"BasketFlock$CommandText", "<init>", "()V"⟩, "BasketFlock")]
def eNc : List (String × String) := [("BasketFlock", "java/lang/IllegalArgumentException"), ("BasketFlock", "java/lang/IllegalStateException"), ("BasketFlock", "java/lang/IndexOutOfBoundsException"), ("BasketFlock", "java/lang/UnsupportedOperationException"), ("BasketFlock", "java/util/NoSuchElementException"), ("BasketFlock$Clouds", "java/lang/IllegalArgumentException"), ("BasketFlock$Clouds", "java/lang/IllegalStateException"), ("BasketFlock$Clouds", "java/lang/IndexOutOfBoundsException"), ("BasketFlock$Clouds", "java/lang/UnsupportedOperationException"), ("BasketFlock$Clouds", "java/util/NoSuchElementException"), ("BasketFlock$CommandText", "java/lang/IllegalArgumentException"), ("BasketFlock$CommandText", "java/lang/IllegalStateException"), ("BasketFlock$CommandText", "java/lang/IndexOutOfBoundsException"), ("BasketFlock$CommandText", "java/lang/UnsupportedOperationException"), ("BasketFlock$CommandText", "java/util/NoSuchElementException"), ("BasketFlock$Flock", "java/lang/IllegalArgumentException"), ("BasketFlock$Flock", "java/lang/IllegalStateException"), ("BasketFlock$Flock", "java/lang/IndexOutOfBoundsException"), ("BasketFlock$Flock", "java/lang/UnsupportedOperationException"), ("BasketFlock$Flock", "java/util/NoSuchElementException"), ("BasketFlock$Formations", "java/lang/IllegalArgumentException"), ("BasketFlock$Formations", "java/lang/IllegalStateException"), ("BasketFlock$Formations", "java/lang/IndexOutOfBoundsException"), ("BasketFlock$Formations", "java/lang/UnsupportedOperationException"), ("BasketFlock$Formations", "java/util/NoSuchElementException"), ("BasketFlock$History", "java/lang/IllegalArgumentException"), ("BasketFlock$History", "java/lang/IllegalStateException"), ("BasketFlock$History", "java/lang/IndexOutOfBoundsException"), ("BasketFlock$History", "java/lang/UnsupportedOperationException"), ("BasketFlock$History", "java/util/NoSuchElementException"), ("BasketFlock$Shapes", "java/lang/IllegalArgumentException"), ("BasketFlock$Shapes", "java/lang/IllegalStateException"), ("BasketFlock$Shapes", "java/lang/IndexOutOfBoundsException"), ("BasketFlock$Shapes", "java/lang/UnsupportedOperationException"), ("BasketFlock$Shapes", "java/util/NoSuchElementException"), ("java/lang/ArithmeticException", "java/lang/IllegalArgumentException"), ("java/lang/ArithmeticException", "java/lang/IllegalStateException"), ("java/lang/ArithmeticException", "java/lang/IndexOutOfBoundsException"), ("java/lang/ArithmeticException", "java/lang/UnsupportedOperationException"), ("java/lang/ArithmeticException", "java/util/NoSuchElementException"), ("java/lang/ArrayIndexOutOfBoundsException", "java/lang/IllegalArgumentException"), ("java/lang/ArrayIndexOutOfBoundsException", "java/lang/IllegalStateException"), ("java/lang/ArrayIndexOutOfBoundsException", "java/lang/UnsupportedOperationException"), ("java/lang/ArrayIndexOutOfBoundsException", "java/util/NoSuchElementException"), ("java/lang/IllegalArgumentException", "java/lang/IllegalStateException"), ("java/lang/IllegalArgumentException", "java/lang/IndexOutOfBoundsException"), ("java/lang/IllegalArgumentException", "java/lang/UnsupportedOperationException"), ("java/lang/IllegalArgumentException", "java/util/NoSuchElementException"), ("java/lang/IllegalStateException", "java/lang/IllegalArgumentException"), ("java/lang/IllegalStateException", "java/lang/IndexOutOfBoundsException"), ("java/lang/IllegalStateException", "java/lang/UnsupportedOperationException"), ("java/lang/IllegalStateException", "java/util/NoSuchElementException"), ("java/lang/IndexOutOfBoundsException", "java/lang/IllegalArgumentException"), ("java/lang/IndexOutOfBoundsException", "java/lang/IllegalStateException"), ("java/lang/IndexOutOfBoundsException", "java/lang/UnsupportedOperationException"), ("java/lang/IndexOutOfBoundsException", "java/util/NoSuchElementException"), ("java/lang/String", "java/lang/IllegalArgumentException"), ("java/lang/String", "java/lang/IllegalStateException"), ("java/lang/String", "java/lang/IndexOutOfBoundsException"), ("java/lang/String", "java/lang/UnsupportedOperationException"), ("java/lang/String", "java/util/NoSuchElementException"), ("java/lang/StringBuilder", "java/lang/IllegalArgumentException"), ("java/lang/StringBuilder", "java/lang/IllegalStateException"), ("java/lang/StringBuilder", "java/lang/IndexOutOfBoundsException"), ("java/lang/StringBuilder", "java/lang/UnsupportedOperationException"), ("java/lang/StringBuilder", "java/util/NoSuchElementException"), ("java/lang/UnsupportedOperationException", "java/lang/IllegalArgumentException"), ("java/lang/UnsupportedOperationException", "java/lang/IllegalStateException"), ("java/lang/UnsupportedOperationException", "java/lang/IndexOutOfBoundsException"), ("java/lang/UnsupportedOperationException", "java/util/NoSuchElementException"), ("java/util/NoSuchElementException", "java/lang/IllegalArgumentException"), ("java/util/NoSuchElementException", "java/lang/IllegalStateException"), ("java/util/NoSuchElementException", "java/lang/IndexOutOfBoundsException"), ("java/util/NoSuchElementException", "java/lang/UnsupportedOperationException")]
def eCs : List (String × String) := [("java/lang/IndexOutOfBoundsException", "java/lang/IndexOutOfBoundsException"), ("java/lang/IllegalArgumentException", "java/lang/IllegalArgumentException"), ("java/lang/IllegalStateException", "java/lang/IllegalStateException"), ("java/util/NoSuchElementException", "java/util/NoSuchElementException"), ("java/lang/UnsupportedOperationException", "java/lang/UnsupportedOperationException"), ("java/lang/ArrayIndexOutOfBoundsException", "java/lang/ArrayIndexOutOfBoundsException"), ("java/lang/ArithmeticException", "java/lang/ArithmeticException"), ("java/lang/ArrayIndexOutOfBoundsException", "java/lang/IndexOutOfBoundsException"), ("BasketFlock", "java/lang/Object"), ("BasketFlock$Flock", "java/lang/Object"), ("BasketFlock$Clouds", "java/lang/Object"), ("BasketFlock$Shapes", "java/lang/Object"), ("BasketFlock$History", "java/lang/Object"), ("BasketFlock$Formations", "java/lang/Object"), ("BasketFlock$CommandText", "java/lang/Object"), ("java/lang/IndexOutOfBoundsException", "java/lang/Object"), ("java/lang/IllegalArgumentException", "java/lang/Object"), ("java/lang/IllegalStateException", "java/lang/Object"), ("java/util/NoSuchElementException", "java/lang/Object"), ("java/lang/UnsupportedOperationException", "java/lang/Object"), ("java/lang/ArrayIndexOutOfBoundsException", "java/lang/Object"), ("java/lang/StringBuilder", "java/lang/Object"), ("java/lang/String", "java/lang/Object"), ("java/lang/ArithmeticException", "java/lang/Object"), ("java/lang/Throwable", "java/lang/Object")]
def eDc : List MethodName := [⟨"java/lang/RuntimeException", "<init>", "()V"⟩, ⟨"java/lang/RuntimeException", "<init>", "(Ljava/lang/String;)V"⟩, ⟨"java/lang/Exception", "<init>", "()V"⟩, ⟨"java/lang/Exception", "<init>", "(Ljava/lang/String;)V"⟩, ⟨"java/lang/Throwable", "<init>", "()V"⟩, ⟨"java/lang/Throwable", "<init>", "(Ljava/lang/String;)V"⟩, ⟨"java/lang/IndexOutOfBoundsException", "<init>", "()V"⟩, ⟨"java/lang/IndexOutOfBoundsException", "<init>", "(Ljava/lang/String;)V"⟩]
def eFl : List Nat := [0, 1, 1]
def eFb : List (List Int32) := [[], [35], [46]]
/-- what stays as it is: the classes, the texts, the statics -/
def eAmb (S : Nat → Nat) (G : eG) (A : Nat → Prop) (U : State) (H : Heap) : Prop :=
  va_K G.1 eCl (eTys G) U ∧
  (∀ (i : Nat) (q : String × Nat × String), eStr[i]? = some q → vk_R q.1 q.2.1 q.2.2 (S i) U) ∧
  vx_Zq Bundle.tN "UNASSIGNED_STACK" Bundle.steD A U H ∧ vx_Zq Bundle.tN "SUPPRESSED_SENTINEL" Bundle.listD A U H ∧
  (∀ q ∈ eNn, va_Nw (.methodLinkNest q.1 q.2.1 q.2.2.1 q.2.2.2) U) ∧ (∀ q ∈ eNc, va_Nc q.1 q.2 U) ∧ (∀ q ∈ eCs, eCa q.1 q.2 U) ∧
  va_AO "BasketFlock$Flock" U ∧ va_AOA .int U ∧
  vk_S 3 eFl eFb (fun i => S (16 + i)) (fun i => S (19 + i)) A U H ∧ va_Z "java/lang/String" "COMPACT_STRINGS" "Z" (.int 1) A U H ∧
  va_Zq "jdk/internal/util/Preconditions" "SIOOBE_FORMATTER" "Ljava/util/function/BiFunction;" A U H ∧ (∀ q ∈ eDc, (Cond.declares q).before #[] U = true) ∧
  va_Z "java/lang/Integer" "DigitOnes" "[B" (.ref (S 22)) A U H ∧ va_T .byte (S 22) 100 (fun j => .int (Int32.ofNat (48 + j % 10))) A U H
theorem va_AOA.moved {ty : FieldType} {u U : State} (hvm : u.vm.Alike U.vm) (h : va_AOA ty u) : va_AOA ty U := arrayOver_alikeB hvm h
theorem eDc_warm {q : MethodName} {s U : State} (hW : s.WarmedH U.vm) (h : (Cond.declares q).before #[] s = true) : (Cond.declares q).before #[] U = true := va_tabs rfl (rfl : (s.setVm U.vm).vm = U.vm) ((Cond.declares_setVm (args := #[]) hW.alike q).trans h)
theorem eAmb.warm {S : Nat → Nat} {G : eG} {A : Nat → Prop} {s U : State} {H : Heap} (hW : s.WarmedH U.vm) (h : eAmb S G A s H) : eAmb S G A U H := by
  obtain ⟨h1, h2, h3, h4, h5, h6, h7, h8, h9, h10, h11, h12, h13, h14, h15⟩ := h
  exact ⟨h1.moved hW.alike, fun i q hq => (h2 i q hq).warm hW, vx_Zq.moved hW.alike h3, vx_Zq.moved hW.alike h4, fun q hq => va_Nw.warmM hW (h5 q hq), fun q hq => (h6 q hq).moved hW.alike,
    fun q hq => (h7 q hq).moved hW.alike, h8.moved hW.alike, h9.moved hW.alike, vk_S.moved hW.alike h10, va_Z.moved hW.alike h11, va_Zq.moved hW.alike h12, fun q hq => eDc_warm hW (h13 q hq), va_Z.moved hW.alike h14, va_T.moved hW.alike h15⟩
theorem eAmb.same {S : Nat → Nat} {G : eG} {A : Nat → Prop} {s U : State} {H : Heap} (hv : U.vm = s.vm) (h : eAmb S G A s H) : eAmb S G A U H := eAmb.warm (by rw [hv]; exact State.WarmedH.refl s) h
theorem eAmb.kept {S : Nat → Nat} {G : eG} {A : Nat → Prop} {U : State} {H H1 : Heap} (h : eAmb S G A U H) (hq : ∀ q : Nat, q < H.size → ¬ A q → H1[q]? = H[q]?) : eAmb S G A U H1 := by
  obtain ⟨h1, h2, h3, h4, h5, h6, h7, h8, h9, h10, h11, h12, h13, h14, h15⟩ := h
  exact ⟨h1, h2, h3.kept hq, h4.kept hq, h5, h6, h7, h8, h9, h10.kept hq, h11.kept hq, h12.kept hq, h13, h14.kept hq, h15.kept hq⟩
theorem eAmb.narrow {S : Nat → Nat} {G : eG} {A B : Nat → Prop} {U : State} {H : Heap} (h : eAmb S G A U H) (hAB : ∀ q, B q → A q) : eAmb S G B U H := by
  obtain ⟨h1, h2, h3, h4, h5, h6, h7, h8, h9, h10, h11, h12, h13, h14, h15⟩ := h
  exact ⟨h1, h2, h3.narrow hAB, h4.narrow hAB, h5, h6, h7, h8, h9, h10.narrow hAB, h11.narrow hAB, h12.narrow hAB, h13, h14.narrow hAB, h15.narrow hAB⟩
/-! what a body knows -/
/-- what a body may read that isn't in its world: the script (an array of ints), or a text (a String, its row of bytes) -/
abbrev eSt : Type := (Nat × Nat × (Nat → Int32)) ⊕ (Nat × Nat × Nat × (Nat → Int32))
abbrev eXT : Type := (Nat → Nat) × Option eSt
/-- a text: a String whose coder is 0, over a row of n bytes -/
def eTx (q v n : Nat) (f : Nat → Int32) (A : Nat → Prop) (U : State) (H : Heap) : Prop :=
  va_O "java/lang/String" q A U H ∧ va_OF "java/lang/String" "coder" "B" (.int 0) q A U H ∧ va_OF "java/lang/String" "value" "[B" (.ref v) q A U H ∧ va_T .byte v n (fun j => .int (f j)) A U H
theorem eTx.moved {q v n : Nat} {f : Nat → Int32} {A : Nat → Prop} {u U : State} {H : Heap} (hvm : u.vm.Alike U.vm) (h : eTx q v n f A u H) : eTx q v n f A U H := ⟨va_O.moved hvm h.1, va_OF.moved hvm h.2.1, va_OF.moved hvm h.2.2.1, va_T.moved hvm h.2.2.2⟩
theorem eTx.kept {q v n : Nat} {f : Nat → Int32} {A : Nat → Prop} {U : State} {H H1 : Heap} (h : eTx q v n f A U H) (hq : ∀ a : Nat, a < H.size → ¬ A a → H1[a]? = H[a]?) : eTx q v n f A U H1 := ⟨h.1.kept hq, h.2.1.kept hq, h.2.2.1.kept hq, h.2.2.2.kept hq⟩
theorem eTx.narrow {q v n : Nat} {f : Nat → Int32} {A B : Nat → Prop} {U : State} {H : Heap} (h : eTx q v n f A U H) (hAB : ∀ q, B q → A q) : eTx q v n f B U H := ⟨h.1.narrow hAB, h.2.1.narrow hAB, h.2.2.1.narrow hAB, h.2.2.2.narrow hAB⟩
def eSa (x : eSt) (A : Nat → Prop) (s : State) (H : Heap) : Prop := match x with
  | .inl (b, L, xs) => va_X b L xs s H ∧ b < H.size ∧ ¬ A b
  | .inr (q, v, n, f) => eTx q v n f A s H
def eSc (X : eXT) (A : Nat → Prop) (s : State) : Prop := match X.2 with
  | none => True
  | some x => eSa x A s s.heap
theorem eSa.moved {x : eSt} {A : Nat → Prop} {u U : State} {H : Heap} (hvm : u.vm.Alike U.vm) (h : eSa x A u H) : eSa x A U H := by
  cases x with
  | inl x => obtain ⟨b, L, xs⟩ := x; exact ⟨h.1.moved hvm, h.2⟩
  | inr x => obtain ⟨q, v, n, f⟩ := x; exact eTx.moved hvm h
theorem eSa.kept {x : eSt} {A : Nat → Prop} {U : State} {H H1 : Heap} (h : eSa x A U H) (hz : H.size ≤ H1.size) (hq : ∀ a : Nat, a < H.size → ¬ A a → H1[a]? = H[a]?) : eSa x A U H1 := by
  cases x with
  | inl x => obtain ⟨b, L, xs⟩ := x; exact ⟨h.1.kept (hq b h.2.1 h.2.2), Nat.lt_of_lt_of_le h.2.1 hz, h.2.2⟩
  | inr x => obtain ⟨q, v, n, f⟩ := x; exact eTx.kept h hq
theorem eSa.narrow {x : eSt} {A B : Nat → Prop} {U : State} {H : Heap} (h : eSa x A U H) (hAB : ∀ q, B q → A q) : eSa x B U H := by
  cases x with
  | inl x => obtain ⟨b, L, xs⟩ := x; exact ⟨h.1, h.2.1, fun q => h.2.2 (hAB _ q)⟩
  | inr x => obtain ⟨q, v, n, f⟩ := x; exact eTx.narrow h hAB
def eX (X : eXT) (G : eG) (A : Nat → Prop) (M : mE) (p : Program) (l : Launch) (s : State) (m : MethodId) (args : Array Value) (meth : Method) (c : Code) : Prop :=
  p.tables.exec = Jvm.exec ∧ c.code = M.2.1 ∧ c.maxLocals = M.2.2.1 ∧ meth.sig.returnType = M.2.2.2.1 ∧ c.exceptionTable.toList = tableOf M.2.2.2.2 ∧ s.vm.findClass M.1.cls = some m.cls ∧ meth.locks = false ∧
  (∀ w ∈ eTB, w.before args s = true) ∧ eAmb X.1 G A s s.heap ∧ l.stackTraces = false ∧ (∀ q, s.heap.size ≤ q → A q) ∧ meth.name = M.1.name ∧ eSc X A s
/-- the locals, one after another; none: nothing is said -/
def eL (lsA : Array Slot) (n : Nat) (ls : List (Option Value)) : Prop := lsA.size = n ∧ lv_wf lsA ∧ ∀ (i : Nat) (v : Value), ls[i]? = some (some v) → lsA[i]? = some (.val v)
def eQc (G : eG) (A : Nat → Prop) (Q : ePo) : Array Value → State → Outcome → State → Prop := fun _ st o t =>
  ∃ (v : Option Value) (a' : Nat → Nat) (cs' : List eE), o = .returned v ∧ Q (.inl v) a' cs' ∧ va_P G.1 eCl (eW G a' cs') t.heap ∧ va_D A (eW G a' cs') ∧ va_F A st t
def eXC (G : eG) (A : Nat → Prop) (Q : ePo) : String → State → State → Prop := fun E st t =>
  ∃ (a' : Nat → Nat) (cs' : List eE), Q (.inr E) a' cs' ∧ va_P G.1 eCl (eW G a' cs') t.heap ∧ va_D A (eW G a' cs') ∧ va_F A st t
/-- what stays the same through a body: the method, its room, what is owed at its end, the texts and the script -/
abbrev eK : Type := mE × Room × ePo × eXT
/-- from here the body comes to an end that satisfies what is owed; b: cells and slots still to be had -/
def EV (K : eK) (a : Nat → Nat) (b : Nat × Nat) (cs : List eE) (pc : Nat) (ls : List (Option Value)) (st : List Value) : Prop :=
  ∀ (G : eG) (A : Nat → Prop) (p : Program) (l : Launch) (e : Env) (s : State) (m : MethodId) (args : Array Value) (below : List Frame) (meth : Method) (c : Code) (H : Heap) (locs : List Loc) (cells slots : Nat) (lsA : Array Slot),
    eX K.2.2.2 G A K.1 p l s m args meth c → eL lsA K.1.2.2.1 ls → va_P G.1 eCl (eW G a cs) H → va_D A (eW G a cs) → va_S A s.heap H locs → cells + b.1 ≤ K.2.1.cells → slots + b.2 ≤ K.2.1.slots →
    W p l e K.2.1 s m args below meth c H locs cells slots (vx_MQ below (eQc G A K.2.2.1) (eXC G A K.2.2.1) args s K.2.1.cells K.2.1.slots A) (F0 m pc lsA st)
/-- the same, a thing of class E thrown at pc -/
def EX (K : eK) (a : Nat → Nat) (b : Nat × Nat) (cs : List eE) (pc : Nat) (ls : List (Option Value)) (E : String) : Prop :=
  ∀ (G : eG) (A : Nat → Prop) (p : Program) (l : Launch) (e : Env) (s : State) (m : MethodId) (args : Array Value) (below : List Frame) (meth : Method) (c : Code) (H : Heap) (locs : List Loc) (cells slots : Nat) (lsA : Array Slot) (rest : List Value) (q : Addr) (ce : Cell),
    eX K.2.2.2 G A K.1 p l s m args meth c → eL lsA K.1.2.2.1 ls → va_P G.1 eCl (eW G a cs) H → va_D A (eW G a cs) → va_S A s.heap H locs → cells + b.1 ≤ K.2.1.cells → slots + b.2 ≤ K.2.1.slots →
    H[q]? = some ce → ce.vm = .none → s.vm.findClass E = some ce.cls →
    vx_W p l e K.2.1 s m args below meth c H locs cells slots (vx_MQ below (eQc G A K.2.2.1) (eXC G A K.2.2.1) args s K.2.1.cells K.2.1.slots A) (F0 m pc lsA rest) q
/-- a method's contract: called with these values over these cells it comes to an end that satisfies Q -/
def EM (X : eXT) (M : mE) (R : Room) (a : Nat → Nat) (av : List Value) (cs : List eE) (Q : ePo) : Prop :=
  ∀ (l : Launch) (G : eG) (sz : Nat), l.stackTraces = false → X.2 = none →
    vx_Met l M.1 (eWs M) R (fun v U => v = av.toArray ∧ U.heap.size = sz ∧ va_P G.1 eCl (eW G a cs) U.heap ∧ va_D (fun _ => True) (eW G a cs) ∧ eAmb X.1 G (va_A (eW G a cs) sz) U U.heap)
      (eQc G (va_A (eW G a cs) sz) Q) (eXC G (va_A (eW G a cs) sz) Q) R.cells R.slots (va_A (eW G a cs) sz)
/-- the locals at the entry -/
def eIni (av : List Value) (n : Nat) : List (Option Value) := (av.map some) ++ List.replicate (n - av.length) none
theorem eL_args {av : List Value} {n : Nat} (h1 : av.all (fun v => v.category == 1) = true) : ∀ (k : Nat) (v : Value) (i : Nat), av[i]? = some v → (k + i, v) ∈ lv_args k av := by
  induction av with
  | nil => intro k v i h; simp at h
  | cons w t ih =>
    intro k v i h
    simp only [List.all_cons, Bool.and_eq_true, beq_iff_eq] at h1
    have hc : ¬ w.category = 2 := by omega
    cases i with
    | zero =>
      simp at h; subst h
      exact List.mem_cons_self
    | succ i =>
      simp at h
      have := ih h1.2 (k + 1) v i h
      rw [lv_args, if_neg hc]
      refine List.mem_cons_of_mem _ ?_
      rw [show k + (i + 1) = k + 1 + i by omega]
      exact this
theorem lg_sl_len {av : List Value} (h1 : av.all (fun v => v.category == 1) = true) : (lg_sl av).length = av.length := by
  induction av with
  | nil => rfl
  | cons w t ih =>
    simp only [List.all_cons, Bool.and_eq_true, beq_iff_eq] at h1
    have hc : ¬ w.category = 2 := by omega
    have := ih h1.2
    simp only [lg_sl, List.flatMap_cons, if_neg hc, List.length_append, List.length_cons, List.length_nil] at this ⊢
    omega
theorem eL_ini {av : List Value} {n : Nat} (h1 : av.all (fun v => v.category == 1) = true) (hn : av.length ≤ n) :
    eL ((lg_sl av ++ List.replicate (n - (lg_sl av).length) Slot.unset).toArray) n (eIni av n) := by
  have hl := lv_entry av (n := n) (by rw [lg_sl_len h1]; exact hn)
  refine ⟨hl.1, hl.2.1, fun i v h => ?_⟩
  have hi : av[i]? = some v := by
    unfold eIni at h
    by_cases hlt : i < av.length
    · rw [List.getElem?_append_left (by simpa using hlt)] at h
      simpa [List.getElem?_map] using h
    · rw [List.getElem?_append_right (by simpa using hlt)] at h
      simp [List.getElem?_replicate] at h
  have := hl.2.2 _ (eL_args (n := n) h1 0 v i hi)
  simpa using this
