/-! ===== EV: the rules of single instructions ===== -/
abbrev vi (z : Int) : Value := .int (Int32.ofInt z)
abbrev vl (z : Int) : Value := .long (Int64.ofInt z)
abbrev vb (c : Prop) [Decidable c] : Value := vi (if c then 1 else 0)
def bAnd (x y : Int) : Int := (Int32.ofInt x &&& Int32.ofInt y).toInt
def bOr (x y : Int) : Int := (Int32.ofInt x ||| Int32.ofInt y).toInt
def bXor (x y : Int) : Int := (Int32.ofInt x ^^^ Int32.ofInt y).toInt
def bShl (x y : Int) : Int := (Int32.ofInt x <<< (Int32.ofInt y &&& 31)).toInt
def bShr (x y : Int) : Int := (Int32.ofInt x >>> (Int32.ofInt y &&& 31)).toInt
def lOr (x y : Int) : Int := (Int64.ofInt x ||| Int64.ofInt y).toInt
def lShl (x y : Int) : Int := (Int64.ofInt x <<< ((Int32.ofInt y).toInt64 &&& 63)).toInt
theorem oI_toInt {z : Int} (h : -2147483648 ≤ z ∧ z ≤ 2147483647) : (Int32.ofInt z).toInt = z := Int32.toInt_ofInt_of_le (by have := h.1; simp [Int32.minValue] at *; first | omega | exact this) (by have := h.2; simp at *; omega)
theorem oI_lt {x y : Int} (hx : -2147483648 ≤ x ∧ x ≤ 2147483647) (hy : -2147483648 ≤ y ∧ y ≤ 2147483647) : Int32.ofInt x < Int32.ofInt y ↔ x < y := by rw [Int32.lt_iff_toInt_lt, oI_toInt hx, oI_toInt hy]
theorem oI_le {x y : Int} (hx : -2147483648 ≤ x ∧ x ≤ 2147483647) (hy : -2147483648 ≤ y ∧ y ≤ 2147483647) : Int32.ofInt x ≤ Int32.ofInt y ↔ x ≤ y := by rw [Int32.le_iff_toInt_le, oI_toInt hx, oI_toInt hy]
theorem oI_eq {x y : Int} (hx : -2147483648 ≤ x ∧ x ≤ 2147483647) (hy : -2147483648 ≤ y ∧ y ≤ 2147483647) : Int32.ofInt x = Int32.ofInt y ↔ x = y := ⟨fun h => by have := congrArg Int32.toInt h; rwa [oI_toInt hx, oI_toInt hy] at this, fun h => by rw [h]⟩
theorem oL_toInt {z : Int} (h : -9223372036854775808 ≤ z ∧ z ≤ 9223372036854775807) : (Int64.ofInt z).toInt = z := Int64.toInt_ofInt_of_le (by have := h.1; simp [Int64.minValue] at *; first | omega | exact this) (by have := h.2; simp at *; omega)
theorem oI_ofI (x : Int32) : Int32.ofInt x.toInt = x := by simp
theorem oI_ofL (x : Int64) : Int64.ofInt x.toInt = x := by simp
theorem oI_z : Int32.ofInt 0 = 0 := by decide
theorem oI_sz {n : Nat} (h : n < 2147483648) : (Int32.ofInt (n : Int)).toNatClampNeg = n := by
  rw [Int32.toNatClampNeg, oI_toInt (by omega)]; simp
theorem oI_nat {z : Int} (h : 0 ≤ z ∧ z ≤ 2147483647) : (Int32.ofInt z).toNatClampNeg = z.toNat := by
  rw [Int32.toNatClampNeg, oI_toInt (by omega)]
theorem oI_in {z : Int} {n : Nat} (h : 0 ≤ z ∧ z < n) (hn : n ≤ 2147483647) : vp_in (Int32.ofInt z) n := by
  intro q
  rcases q with q | q
  · rw [← oI_z, oI_lt (by omega) (by omega)] at q; omega
  · rw [oI_nat (by omega)] at q; omega
theorem oI_char {x : Int} (h : 0 ≤ x ∧ x ≤ 65535) : ((Int32.ofInt x).toUInt32 % 65536).toInt32 = Int32.ofInt x := by
  have h0 : (Int32.ofInt x).toUInt32.toNat = x.toNat := by
    show (BitVec.ofInt 32 x).toNat = x.toNat
    rw [BitVec.toNat_ofInt]
    omega
  have h1 : (Int32.ofInt x).toUInt32 % 65536 = (Int32.ofInt x).toUInt32 := by
    apply UInt32.toNat_inj.mp
    rw [UInt32.toNat_mod, h0]
    show x.toNat % 65536 = x.toNat
    omega
  rw [h1]
  rfl
section EVR
variable {K : eK} {a : Nat → Nat} {b : Nat × Nat} {cs : List eE} {pc n : Nat} {ls : List (Option Value)} {st : List Value}
/-- a step that moves pc, and the stack -/
theorem EV.pure {st' : List Value} (h : ∀ (p : Program) (l : Launch) (e : Env) (R : Room) (s : State) (m : MethodId) (args : Array Value) (below : List Frame) (meth : Method) (c : Code) (H : Heap) (locs : List Loc) (cells slots : Nat) (Q : State → Prop) (lsA : Array Slot),
      p.tables.exec = Jvm.exec → c.code = K.1.2.1 → eL lsA K.1.2.2.1 ls → W p l e R s m args below meth c H locs cells slots Q (F0 m n lsA st') → W p l e R s m args below meth c H locs cells slots Q (F0 m pc lsA st))
    (k : EV K a b cs n ls st') : EV K a b cs pc ls st := by
  intro G A p l e s m args below meth c H locs cells slots lsA hX hL hP hD hS hc hs
  exact h _ _ _ _ _ _ _ _ _ _ _ _ _ _ _ _ hX.1 hX.2.1 hL (k G A p l e s m args below meth c H locs cells slots lsA hX hL hP hD hS hc hs)
theorem EV.eq {st' : List Value} (h : st = st') (k : EV K a b cs pc ls st') : EV K a b cs pc ls st := by rw [h]; exact k

theorem e_iconst {v : Int} (d : decode K.1.2.1 pc = .ok (.iconst v, 1)) (hn : pc + 1 = n) (k : EV K a b cs n ls (vi v :: st)) : EV K a b cs pc ls (st) := by
  subst hn
  refine EV.pure (fun p l e R s m args below meth c H locs cells slots Q lsA hx hb hL k => ?_) k
  exact lv_iconst hx hb d rfl k
theorem e_bipush {v : Int} (d : decode K.1.2.1 pc = .ok (.bipush v, 2)) (hn : pc + 2 = n) (hv : (Int8.ofInt v).toInt32 = Int32.ofInt v) (k : EV K a b cs n ls (vi v :: st)) : EV K a b cs pc ls (st) := by
  subst hn
  refine EV.pure (fun p l e R s m args below meth c H locs cells slots Q lsA hx hb hL k => ?_) k
  exact lv_bipush hx hb d hv k
theorem e_sipush {v : Int} (d : decode K.1.2.1 pc = .ok (.sipush v, 3)) (hn : pc + 3 = n) (hv : (Int16.ofInt v).toInt32 = Int32.ofInt v) (k : EV K a b cs n ls (vi v :: st)) : EV K a b cs pc ls (st) := by
  subst hn
  refine EV.pure (fun p l e R s m args below meth c H locs cells slots Q lsA hx hb hL k => ?_) k
  exact lv_sipush hx hb d hv k
theorem e_lconst {v : Fin 2} (d : decode K.1.2.1 pc = .ok (.lconst v, 1)) (hn : pc + 1 = n) (k : EV K a b cs n ls (vl (v : Nat) :: st)) : EV K a b cs pc ls (st) := by
  subst hn
  refine EV.pure (fun p l e R s m args below meth c H locs cells slots Q lsA hx hb hL k => ?_) k
  exact lv_lconst hx hb d ((show ∀ v : Fin 2, Int64.ofNat (v : Nat) = Int64.ofInt ((v : Nat) : Int) by decide) v) k
theorem e_fconst0  (d : decode K.1.2.1 pc = .ok (.fconst 0, 1)) (hn : pc + 1 = n) (k : EV K a b cs n ls (.float 0 :: st)) : EV K a b cs pc ls (st) := by
  subst hn
  refine EV.pure (fun p l e R s m args below meth c H locs cells slots Q lsA hx hb hL k => ?_) k
  exact lv_fconst0 hx hb d k
theorem e_dconst0  (d : decode K.1.2.1 pc = .ok (.dconst 0, 1)) (hn : pc + 1 = n) (k : EV K a b cs n ls (.double 0 :: st)) : EV K a b cs pc ls (st) := by
  subst hn
  refine EV.pure (fun p l e R s m args below meth c H locs cells slots Q lsA hx hb hL k => ?_) k
  exact lv_dconst0 hx hb d k
theorem e_iload_n {i : Fin 4} {x : Int32} (d : decode K.1.2.1 pc = .ok (.iload_n i, 1)) (hn : pc + 1 = n) (hl : ls[(i : Nat)]? = some (some (.int x))) (k : EV K a b cs n ls (.int x :: st)) : EV K a b cs pc ls (st) := by
  subst hn
  refine EV.pure (fun p l e R s m args below meth c H locs cells slots Q lsA hx hb hL k => ?_) k
  exact lv_iload_n hx hb d rfl (hL.2.2 _ _ hl) k
theorem e_iload {i : Nat} {x : Int32} (d : decode K.1.2.1 pc = .ok (.iload i, 2)) (hn : pc + 2 = n) (hl : ls[i]? = some (some (.int x))) (k : EV K a b cs n ls (.int x :: st)) : EV K a b cs pc ls (st) := by
  subst hn
  refine EV.pure (fun p l e R s m args below meth c H locs cells slots Q lsA hx hb hL k => ?_) k
  exact lv_iload hx hb d (hL.2.2 _ _ hl) k
theorem e_aload_n {i : Fin 4} {x : Nat} (d : decode K.1.2.1 pc = .ok (.aload_n i, 1)) (hn : pc + 1 = n) (hl : ls[(i : Nat)]? = some (some (.ref x))) (k : EV K a b cs n ls (.ref x :: st)) : EV K a b cs pc ls (st) := by
  subst hn
  refine EV.pure (fun p l e R s m args below meth c H locs cells slots Q lsA hx hb hL k => ?_) k
  exact lv_aload_n hx hb d rfl (hL.2.2 _ _ hl) k
theorem e_aload {i : Nat} {x : Nat} (d : decode K.1.2.1 pc = .ok (.aload i, 2)) (hn : pc + 2 = n) (hl : ls[i]? = some (some (.ref x))) (k : EV K a b cs n ls (.ref x :: st)) : EV K a b cs pc ls (st) := by
  subst hn
  refine EV.pure (fun p l e R s m args below meth c H locs cells slots Q lsA hx hb hL k => ?_) k
  exact lv_aload hx hb d (hL.2.2 _ _ hl) k
theorem e_lload_n {i : Fin 4} {x : Int64} (d : decode K.1.2.1 pc = .ok (.lload_n i, 1)) (hn : pc + 1 = n) (hl : ls[(i : Nat)]? = some (some (.long x))) (k : EV K a b cs n ls (.long x :: st)) : EV K a b cs pc ls (st) := by
  subst hn
  refine EV.pure (fun p l e R s m args below meth c H locs cells slots Q lsA hx hb hL k => ?_) k
  exact lv_lload_n hx hb d rfl (hL.2.2 _ _ hl) k
theorem e_lload {i : Nat} {x : Int64} (d : decode K.1.2.1 pc = .ok (.lload i, 2)) (hn : pc + 2 = n) (hl : ls[i]? = some (some (.long x))) (k : EV K a b cs n ls (.long x :: st)) : EV K a b cs pc ls (st) := by
  subst hn
  refine EV.pure (fun p l e R s m args below meth c H locs cells slots Q lsA hx hb hL k => ?_) k
  exact lv_lload hx hb d (hL.2.2 _ _ hl) k
theorem e_fload_n {i : Fin 4} {x : UInt32} (d : decode K.1.2.1 pc = .ok (.fload_n i, 1)) (hn : pc + 1 = n) (hl : ls[(i : Nat)]? = some (some (.float x))) (k : EV K a b cs n ls (.float x :: st)) : EV K a b cs pc ls (st) := by
  subst hn
  refine EV.pure (fun p l e R s m args below meth c H locs cells slots Q lsA hx hb hL k => ?_) k
  exact lv_fload_n hx hb d rfl (hL.2.2 _ _ hl) k
theorem e_fload {i : Nat} {x : UInt32} (d : decode K.1.2.1 pc = .ok (.fload i, 2)) (hn : pc + 2 = n) (hl : ls[i]? = some (some (.float x))) (k : EV K a b cs n ls (.float x :: st)) : EV K a b cs pc ls (st) := by
  subst hn
  refine EV.pure (fun p l e R s m args below meth c H locs cells slots Q lsA hx hb hL k => ?_) k
  exact lv_fload hx hb d (hL.2.2 _ _ hl) k
theorem e_dload_n {i : Fin 4} {x : UInt64} (d : decode K.1.2.1 pc = .ok (.dload_n i, 1)) (hn : pc + 1 = n) (hl : ls[(i : Nat)]? = some (some (.double x))) (k : EV K a b cs n ls (.double x :: st)) : EV K a b cs pc ls (st) := by
  subst hn
  refine EV.pure (fun p l e R s m args below meth c H locs cells slots Q lsA hx hb hL k => ?_) k
  exact lv_dload_n hx hb d rfl (hL.2.2 _ _ hl) k
theorem e_dload {i : Nat} {x : UInt64} (d : decode K.1.2.1 pc = .ok (.dload i, 2)) (hn : pc + 2 = n) (hl : ls[i]? = some (some (.double x))) (k : EV K a b cs n ls (.double x :: st)) : EV K a b cs pc ls (st) := by
  subst hn
  refine EV.pure (fun p l e R s m args below meth c H locs cells slots Q lsA hx hb hL k => ?_) k
  exact lv_dload hx hb d (hL.2.2 _ _ hl) k
theorem e_iadd {x y : Int} (d : decode K.1.2.1 pc = .ok (.iadd, 1)) (hn : pc + 1 = n) (k : EV K a b cs n ls (vi (x + y) :: st)) : EV K a b cs pc ls (vi y :: vi x :: st) := by
  subst hn
  refine EV.pure (fun p l e R s m args below meth c H locs cells slots Q lsA hx hb hL k => ?_) k
  have k : W p l e R s m args below meth c H locs cells slots Q (F0 m (pc + 1) lsA (.int (Int32.ofInt x + Int32.ofInt y) :: st)) := by first | (rw [← Int32.ofInt_add]; exact k) | (simpa only [vi, Int32.ofInt_add] using k)
  exact lv_iadd hx hb d k
theorem e_isub {x y : Int} (d : decode K.1.2.1 pc = .ok (.isub, 1)) (hn : pc + 1 = n) (k : EV K a b cs n ls (vi (x - y) :: st)) : EV K a b cs pc ls (vi y :: vi x :: st) := by
  subst hn
  refine EV.pure (fun p l e R s m args below meth c H locs cells slots Q lsA hx hb hL k => ?_) k
  have k : W p l e R s m args below meth c H locs cells slots Q (F0 m (pc + 1) lsA (.int (Int32.ofInt x - Int32.ofInt y) :: st)) := by first | (rw [← Int32.ofInt_sub]; exact k) | (simpa only [vi, Int32.ofInt_sub] using k)
  exact lv_isub hx hb d k
theorem e_imul {x y : Int} (d : decode K.1.2.1 pc = .ok (.imul, 1)) (hn : pc + 1 = n) (k : EV K a b cs n ls (vi (x * y) :: st)) : EV K a b cs pc ls (vi y :: vi x :: st) := by
  subst hn
  refine EV.pure (fun p l e R s m args below meth c H locs cells slots Q lsA hx hb hL k => ?_) k
  have k : W p l e R s m args below meth c H locs cells slots Q (F0 m (pc + 1) lsA (.int (Int32.ofInt x * Int32.ofInt y) :: st)) := by first | (rw [← Int32.ofInt_mul]; exact k) | (simpa only [vi, Int32.ofInt_mul] using k)
  exact lv_imul hx hb d k
theorem e_ineg {x : Int} (d : decode K.1.2.1 pc = .ok (.ineg, 1)) (hn : pc + 1 = n) (k : EV K a b cs n ls (vi (-x) :: st)) : EV K a b cs pc ls (vi x :: st) := by
  subst hn
  refine EV.pure (fun p l e R s m args below meth c H locs cells slots Q lsA hx hb hL k => ?_) k
  have k : W p l e R s m args below meth c H locs cells slots Q (F0 m (pc + 1) lsA (.int (-Int32.ofInt x) :: st)) := by rw [← Int32.ofInt_neg]; exact k
  exact lv_ineg hx hb d k
theorem e_idiv {x y : Int} (d : decode K.1.2.1 pc = .ok (.idiv, 1)) (hn : pc + 1 = n) (hx2 : -2147483648 ≤ x ∧ x ≤ 2147483647) (hy2 : -2147483648 ≤ y ∧ y ≤ 2147483647) (h0 : ¬ y = 0) (k : EV K a b cs n ls (vi (x.tdiv y) :: st)) : EV K a b cs pc ls (vi y :: vi x :: st) := by
  subst hn
  refine EV.pure (fun p l e R s m args below meth c H locs cells slots Q lsA hx hb hL k => ?_) k
  have e : Int32.ofInt x / Int32.ofInt y = Int32.ofInt (x.tdiv y) := by
    apply Int32.toInt_inj.mp
    rw [Int32.toInt_div, oI_toInt hx2, oI_toInt hy2, Int32.toInt_ofInt]
  unfold vi at k
  rw [← e] at k
  exact lv_idiv hx hb d (fun q => h0 (by rw [← oI_z, oI_eq hy2 (by omega)] at q; exact q)) k
theorem e_irem {x y : Int} (d : decode K.1.2.1 pc = .ok (.irem, 1)) (hn : pc + 1 = n) (hx2 : -2147483648 ≤ x ∧ x ≤ 2147483647) (hy2 : -2147483648 ≤ y ∧ y ≤ 2147483647) (h0 : ¬ y = 0) (k : EV K a b cs n ls (vi (x.tmod y) :: st)) : EV K a b cs pc ls (vi y :: vi x :: st) := by
  subst hn
  refine EV.pure (fun p l e R s m args below meth c H locs cells slots Q lsA hx hb hL k => ?_) k
  have e : Int32.ofInt x - Int32.ofInt x / Int32.ofInt y * Int32.ofInt y = Int32.ofInt (x.tmod y) := by
    have e1 : Int32.ofInt x / Int32.ofInt y = Int32.ofInt (x.tdiv y) := by
      apply Int32.toInt_inj.mp
      rw [Int32.toInt_div, oI_toInt hx2, oI_toInt hy2, Int32.toInt_ofInt]
    rw [e1, ← Int32.ofInt_mul, ← Int32.ofInt_sub]
    congr 1
    have := Int.mul_tdiv_add_tmod x y
    rw [Int.mul_comm] at this
    omega
  unfold vi at k
  rw [← e] at k
  exact lv_irem hx hb d (fun q => h0 (by rw [← oI_z, oI_eq hy2 (by omega)] at q; exact q)) k
theorem e_iand {x y : Int} (d : decode K.1.2.1 pc = .ok (.iand, 1)) (hn : pc + 1 = n) (k : EV K a b cs n ls (vi (bAnd x y) :: st)) : EV K a b cs pc ls (vi y :: vi x :: st) := by
  subst hn
  refine EV.pure (fun p l e R s m args below meth c H locs cells slots Q lsA hx hb hL k => ?_) k
  refine lv_iand hx hb d ?_
  unfold vi bAnd at k
  rwa [oI_ofI] at k
theorem e_ior {x y : Int} (d : decode K.1.2.1 pc = .ok (.ior, 1)) (hn : pc + 1 = n) (k : EV K a b cs n ls (vi (bOr x y) :: st)) : EV K a b cs pc ls (vi y :: vi x :: st) := by
  subst hn
  refine EV.pure (fun p l e R s m args below meth c H locs cells slots Q lsA hx hb hL k => ?_) k
  refine lv_ior hx hb d ?_
  unfold vi bOr at k
  rwa [oI_ofI] at k
theorem e_ixor {x y : Int} (d : decode K.1.2.1 pc = .ok (.ixor, 1)) (hn : pc + 1 = n) (k : EV K a b cs n ls (vi (bXor x y) :: st)) : EV K a b cs pc ls (vi y :: vi x :: st) := by
  subst hn
  refine EV.pure (fun p l e R s m args below meth c H locs cells slots Q lsA hx hb hL k => ?_) k
  refine lv_ixor hx hb d ?_
  unfold vi bXor at k
  rwa [oI_ofI] at k
theorem e_ishl {x y : Int} (d : decode K.1.2.1 pc = .ok (.ishl, 1)) (hn : pc + 1 = n) (k : EV K a b cs n ls (vi (bShl x y) :: st)) : EV K a b cs pc ls (vi y :: vi x :: st) := by
  subst hn
  refine EV.pure (fun p l e R s m args below meth c H locs cells slots Q lsA hx hb hL k => ?_) k
  refine lv_ishl hx hb d ?_
  unfold vi bShl at k
  rwa [oI_ofI] at k
theorem e_ishr {x y : Int} (d : decode K.1.2.1 pc = .ok (.ishr, 1)) (hn : pc + 1 = n) (k : EV K a b cs n ls (vi (bShr x y) :: st)) : EV K a b cs pc ls (vi y :: vi x :: st) := by
  subst hn
  refine EV.pure (fun p l e R s m args below meth c H locs cells slots Q lsA hx hb hL k => ?_) k
  refine lv_ishr hx hb d ?_
  unfold vi bShr at k
  rwa [oI_ofI] at k
theorem e_lor {x y : Int} (d : decode K.1.2.1 pc = .ok (.lor, 1)) (hn : pc + 1 = n) (k : EV K a b cs n ls (vl (lOr x y) :: st)) : EV K a b cs pc ls (vl y :: vl x :: st) := by
  subst hn
  refine EV.pure (fun p l e R s m args below meth c H locs cells slots Q lsA hx hb hL k => ?_) k
  refine lv_lor hx hb d ?_
  unfold vl lOr at k
  rwa [oI_ofL] at k
theorem e_lshl {x y : Int} (d : decode K.1.2.1 pc = .ok (.lshl, 1)) (hn : pc + 1 = n) (k : EV K a b cs n ls (vl (lShl x y) :: st)) : EV K a b cs pc ls (vi y :: vl x :: st) := by
  subst hn
  refine EV.pure (fun p l e R s m args below meth c H locs cells slots Q lsA hx hb hL k => ?_) k
  refine lv_lshl hx hb d rfl ?_
  unfold vl lShl at k
  rwa [oI_ofL] at k
theorem e_ladd {x y : Int} (d : decode K.1.2.1 pc = .ok (.ladd, 1)) (hn : pc + 1 = n) (k : EV K a b cs n ls (vl (x + y) :: st)) : EV K a b cs pc ls (vl y :: vl x :: st) := by
  subst hn
  refine EV.pure (fun p l e R s m args below meth c H locs cells slots Q lsA hx hb hL k => ?_) k
  have k : W p l e R s m args below meth c H locs cells slots Q (F0 m (pc + 1) lsA (.long (Int64.ofInt x + Int64.ofInt y) :: st)) := by rw [← Int64.ofInt_add]; exact k
  exact lv_ladd hx hb d k
theorem e_i2l {x : Int} (d : decode K.1.2.1 pc = .ok (.i2l, 1)) (hn : pc + 1 = n) (hx2 : -2147483648 ≤ x ∧ x ≤ 2147483647) (k : EV K a b cs n ls (vl x :: st)) : EV K a b cs pc ls (vi x :: st) := by
  subst hn
  refine EV.pure (fun p l e R s m args below meth c H locs cells slots Q lsA hx hb hL k => ?_) k
  refine lv_i2l hx hb d ?_ k
  apply Int64.toInt_inj.mp
  rw [Int32.toInt_toInt64, oI_toInt hx2, oL_toInt (by omega)]
theorem e_i2c {x : Int} (d : decode K.1.2.1 pc = .ok (.i2c, 1)) (hn : pc + 1 = n) (hx2 : 0 ≤ x ∧ x ≤ 65535) (k : EV K a b cs n ls (vi x :: st)) : EV K a b cs pc ls (vi x :: st) := by
  subst hn
  refine EV.pure (fun p l e R s m args below meth c H locs cells slots Q lsA hx hb hL k => ?_) k
  refine lv_i2c hx hb d ?_ k
  exact oI_char hx2
theorem e_i2cr {x y : Int} (d : decode K.1.2.1 pc = .ok (.i2c, 1)) (hn : pc + 1 = n) (hy : ((Int32.ofInt x).toUInt32 % 65536).toInt32 = Int32.ofInt y) (k : EV K a b cs n ls (vi y :: st)) : EV K a b cs pc ls (vi x :: st) := by
  subst hn
  refine EV.pure (fun p l e R s m args below meth c H locs cells slots Q lsA hx hb hL k => ?_) k
  exact lv_i2c hx hb d hy k
theorem e_i2f {x : Int} (d : decode K.1.2.1 pc = .ok (.i2f, 1)) (hn : pc + 1 = n) (k : EV K a b cs n ls (.float (FP.i2f (Int32.ofInt x)) :: st)) : EV K a b cs pc ls (vi x :: st) := by
  subst hn
  refine EV.pure (fun p l e R s m args below meth c H locs cells slots Q lsA hx hb hL k => ?_) k
  exact lv_i2f hx hb d k
theorem e_i2d {x : Int} (d : decode K.1.2.1 pc = .ok (.i2d, 1)) (hn : pc + 1 = n) (k : EV K a b cs n ls (.double (FP.i2d (Int32.ofInt x)) :: st)) : EV K a b cs pc ls (vi x :: st) := by
  subst hn
  refine EV.pure (fun p l e R s m args below meth c H locs cells slots Q lsA hx hb hL k => ?_) k
  exact lv_i2d hx hb d k
theorem e_f2d {x : UInt32} (d : decode K.1.2.1 pc = .ok (.f2d, 1)) (hn : pc + 1 = n) (hne : vf_n64 (FP.f2d x)) (k : EV K a b cs n ls (.double (FP.f2d x) :: st)) : EV K a b cs pc ls (.float x :: st) := by
  subst hn
  refine EV.pure (fun p l e R s m args below meth c H locs cells slots Q lsA hx hb hL k => ?_) k
  exact lv_f2d hx hb d hne k
theorem e_fdiv {x y : UInt32} (d : decode K.1.2.1 pc = .ok (.fdiv, 1)) (hn : pc + 1 = n) (hne : vf_n32 (FP.fdiv x y)) (k : EV K a b cs n ls (.float (FP.fdiv x y) :: st)) : EV K a b cs pc ls (.float y :: .float x :: st) := by
  subst hn
  refine EV.pure (fun p l e R s m args below meth c H locs cells slots Q lsA hx hb hL k => ?_) k
  exact lv_fdiv hx hb d hne k
theorem e_ddiv {x y : UInt64} (d : decode K.1.2.1 pc = .ok (.ddiv, 1)) (hn : pc + 1 = n) (hne : vf_n64 (FP.ddiv x y)) (k : EV K a b cs n ls (.double (FP.ddiv x y) :: st)) : EV K a b cs pc ls (.double y :: .double x :: st) := by
  subst hn
  refine EV.pure (fun p l e R s m args below meth c H locs cells slots Q lsA hx hb hL k => ?_) k
  exact lv_ddiv hx hb d hne k
theorem e_dcmp {x y : UInt64} {op : CmpOp} (d : decode K.1.2.1 pc = .ok (.dcmp op, 1)) (hn : pc + 1 = n) (k : EV K a b cs n ls (.int (Op.cmpValue (FP.dcmp x y) op) :: st)) : EV K a b cs pc ls (.double y :: .double x :: st) := by
  subst hn
  refine EV.pure (fun p l e R s m args below meth c H locs cells slots Q lsA hx hb hL k => ?_) k
  exact lv_dcmp hx hb d k
theorem e_fcmp {x y : UInt32} {op : CmpOp} (d : decode K.1.2.1 pc = .ok (.fcmp op, 1)) (hn : pc + 1 = n) (k : EV K a b cs n ls (.int (Op.cmpValue (FP.fcmp x y) op) :: st)) : EV K a b cs pc ls (.float y :: .float x :: st) := by
  subst hn
  refine EV.pure (fun p l e R s m args below meth c H locs cells slots Q lsA hx hb hL k => ?_) k
  exact lv_fcmp hx hb d k
theorem e_lcmp {x y : Int64} (d : decode K.1.2.1 pc = .ok (.lcmp, 1)) (hn : pc + 1 = n) (k : EV K a b cs n ls (.int (lg_cmp x y) :: st)) : EV K a b cs pc ls (.long y :: .long x :: st) := by
  subst hn
  refine EV.pure (fun p l e R s m args below meth c H locs cells slots Q lsA hx hb hL k => ?_) k
  exact W.lcmp hx hb d k
theorem e_dup {v : Value} (d : decode K.1.2.1 pc = .ok (.dup, 1)) (hn : pc + 1 = n) (hv : v.category = 1) (k : EV K a b cs n ls (v :: v :: st)) : EV K a b cs pc ls (v :: st) := by
  subst hn
  refine EV.pure (fun p l e R s m args below meth c H locs cells slots Q lsA hx hb hL k => ?_) k
  exact lv_dup hx hb d hv k
theorem e_dup2 {v w : Value} (d : decode K.1.2.1 pc = .ok (.dup2, 1)) (hn : pc + 1 = n) (hw : w.category = 1) (hv : v.category = 1) (k : EV K a b cs n ls (w :: v :: w :: v :: st)) : EV K a b cs pc ls (w :: v :: st) := by
  subst hn
  refine EV.pure (fun p l e R s m args below meth c H locs cells slots Q lsA hx hb hL k => ?_) k
  exact lv_dup2_11 hx hb d hw hv k
theorem e_pop {v : Value} (d : decode K.1.2.1 pc = .ok (.pop, 1)) (hn : pc + 1 = n) (hv : v.category = 1) (k : EV K a b cs n ls (st)) : EV K a b cs pc ls (v :: st) := by
  subst hn
  refine EV.pure (fun p l e R s m args below meth c H locs cells slots Q lsA hx hb hL k => ?_) k
  exact lv_pop hx hb d hv k
theorem e_ifnull {x : Nat} {off : Int} (d : decode K.1.2.1 pc = .ok (.ifnull off, 3)) (hn : pc + 3 = n) (k : EV K a b cs n ls (st)) : EV K a b cs pc ls (.ref x :: st) := by
  subst hn
  refine EV.pure (fun p l e R s m args below meth c H locs cells slots Q lsA hx hb hL k => ?_) k
  exact lv_ifnull hx hb d k
theorem e_goto {off : Int} (d : decode K.1.2.1 pc = .ok (.goto off, 3)) (ht : (pc : Int) + off = (n : Int)) (k : EV K a b cs n ls st) : EV K a b cs pc ls st := by
  exact EV.pure (fun p l e R s m args below meth c H locs cells slots Q lsA hx hb hL k => lv_goto hx hb d ht k) k
theorem EV.two {P1 P2 : Prop} {t : Nat} {st' : List Value} (h : ∀ (p : Program) (l : Launch) (e : Env) (R : Room) (s : State) (m : MethodId) (args : Array Value) (below : List Frame) (meth : Method) (c : Code) (H : Heap) (locs : List Loc) (cells slots : Nat) (Q : State → Prop) (lsA : Array Slot),
      p.tables.exec = Jvm.exec → c.code = K.1.2.1 → (P1 → W p l e R s m args below meth c H locs cells slots Q (F0 m t lsA st')) → (P2 → W p l e R s m args below meth c H locs cells slots Q (F0 m n lsA st')) → W p l e R s m args below meth c H locs cells slots Q (F0 m pc lsA st))
    (kt : P1 → EV K a b cs t ls st') (kf : P2 → EV K a b cs n ls st') : EV K a b cs pc ls st := by
  intro G A p l e s m args below meth c H locs cells slots lsA hX hL hP hD hS hc hs
  exact h _ _ _ _ _ _ _ _ _ _ _ _ _ _ _ _ hX.1 hX.2.1 (fun q => kt q G A p l e s m args below meth c H locs cells slots lsA hX hL hP hD hS hc hs) (fun q => kf q G A p l e s m args below meth c H locs cells slots lsA hX hL hP hD hS hc hs)
theorem e_icmp_eq {x y : Int} {t : Nat} {off : Int} (d : decode K.1.2.1 pc = .ok (.if_icmp .eq off, 3)) (ht : (pc : Int) + off = (t : Int)) (hn : pc + 3 = n) (hx2 : -2147483648 ≤ x ∧ x ≤ 2147483647) (hy2 : -2147483648 ≤ y ∧ y ≤ 2147483647) (kt : x = y → EV K a b cs t ls st) (kf : ¬ (x = y) → EV K a b cs n ls st) : EV K a b cs pc ls (vi y :: vi x :: st) := by
  subst hn
  refine EV.two (P1 := x = y) (P2 := ¬ (x = y)) (fun p l e R s m args below meth c H locs cells slots Q lsA hx hb kt kf => ?_) kt kf
  exact lv_icmp_eq hx hb d ht (fun q => kt (by simpa only [oI_eq hx2 hy2, oI_eq hy2 hx2, ne_eq] using q)) (fun q => kf (by simpa only [oI_eq hx2 hy2, oI_eq hy2 hx2, ne_eq, Decidable.not_not] using q))
theorem e_icmp_ne {x y : Int} {t : Nat} {off : Int} (d : decode K.1.2.1 pc = .ok (.if_icmp .ne off, 3)) (ht : (pc : Int) + off = (t : Int)) (hn : pc + 3 = n) (hx2 : -2147483648 ≤ x ∧ x ≤ 2147483647) (hy2 : -2147483648 ≤ y ∧ y ≤ 2147483647) (kt : ¬ x = y → EV K a b cs t ls st) (kf : ¬ (¬ x = y) → EV K a b cs n ls st) : EV K a b cs pc ls (vi y :: vi x :: st) := by
  subst hn
  refine EV.two (P1 := ¬ x = y) (P2 := ¬ (¬ x = y)) (fun p l e R s m args below meth c H locs cells slots Q lsA hx hb kt kf => ?_) kt kf
  exact lv_icmp_ne hx hb d ht (fun q => kt (by simpa only [oI_eq hx2 hy2, oI_eq hy2 hx2, ne_eq] using q)) (fun q => kf (by simpa only [oI_eq hx2 hy2, oI_eq hy2 hx2, ne_eq, Decidable.not_not] using q))
theorem e_icmp_lt {x y : Int} {t : Nat} {off : Int} (d : decode K.1.2.1 pc = .ok (.if_icmp .lt off, 3)) (ht : (pc : Int) + off = (t : Int)) (hn : pc + 3 = n) (hx2 : -2147483648 ≤ x ∧ x ≤ 2147483647) (hy2 : -2147483648 ≤ y ∧ y ≤ 2147483647) (kt : x < y → EV K a b cs t ls st) (kf : ¬ (x < y) → EV K a b cs n ls st) : EV K a b cs pc ls (vi y :: vi x :: st) := by
  subst hn
  refine EV.two (P1 := x < y) (P2 := ¬ (x < y)) (fun p l e R s m args below meth c H locs cells slots Q lsA hx hb kt kf => ?_) kt kf
  exact lv_icmp_lt hx hb d ht (fun q => kt (by simpa only [oI_lt hx2 hy2, oI_lt hy2 hx2, ne_eq] using q)) (fun q => kf (by simpa only [oI_lt hx2 hy2, oI_lt hy2 hx2, ne_eq, Decidable.not_not] using q))
theorem e_icmp_ge {x y : Int} {t : Nat} {off : Int} (d : decode K.1.2.1 pc = .ok (.if_icmp .ge off, 3)) (ht : (pc : Int) + off = (t : Int)) (hn : pc + 3 = n) (hx2 : -2147483648 ≤ x ∧ x ≤ 2147483647) (hy2 : -2147483648 ≤ y ∧ y ≤ 2147483647) (kt : y ≤ x → EV K a b cs t ls st) (kf : ¬ (y ≤ x) → EV K a b cs n ls st) : EV K a b cs pc ls (vi y :: vi x :: st) := by
  subst hn
  refine EV.two (P1 := y ≤ x) (P2 := ¬ (y ≤ x)) (fun p l e R s m args below meth c H locs cells slots Q lsA hx hb kt kf => ?_) kt kf
  exact lv_icmp_ge hx hb d ht (fun q => kt (by simpa only [oI_le hx2 hy2, oI_le hy2 hx2, ne_eq] using q)) (fun q => kf (by simpa only [oI_le hx2 hy2, oI_le hy2 hx2, ne_eq, Decidable.not_not] using q))
theorem e_icmp_gt {x y : Int} {t : Nat} {off : Int} (d : decode K.1.2.1 pc = .ok (.if_icmp .gt off, 3)) (ht : (pc : Int) + off = (t : Int)) (hn : pc + 3 = n) (hx2 : -2147483648 ≤ x ∧ x ≤ 2147483647) (hy2 : -2147483648 ≤ y ∧ y ≤ 2147483647) (kt : y < x → EV K a b cs t ls st) (kf : ¬ (y < x) → EV K a b cs n ls st) : EV K a b cs pc ls (vi y :: vi x :: st) := by
  subst hn
  refine EV.two (P1 := y < x) (P2 := ¬ (y < x)) (fun p l e R s m args below meth c H locs cells slots Q lsA hx hb kt kf => ?_) kt kf
  exact lv_icmp_gt hx hb d ht (fun q => kt (by simpa only [oI_lt hx2 hy2, oI_lt hy2 hx2, ne_eq] using q)) (fun q => kf (by simpa only [oI_lt hx2 hy2, oI_lt hy2 hx2, ne_eq, Decidable.not_not] using q))
theorem e_icmp_le {x y : Int} {t : Nat} {off : Int} (d : decode K.1.2.1 pc = .ok (.if_icmp .le off, 3)) (ht : (pc : Int) + off = (t : Int)) (hn : pc + 3 = n) (hx2 : -2147483648 ≤ x ∧ x ≤ 2147483647) (hy2 : -2147483648 ≤ y ∧ y ≤ 2147483647) (kt : x ≤ y → EV K a b cs t ls st) (kf : ¬ (x ≤ y) → EV K a b cs n ls st) : EV K a b cs pc ls (vi y :: vi x :: st) := by
  subst hn
  refine EV.two (P1 := x ≤ y) (P2 := ¬ (x ≤ y)) (fun p l e R s m args below meth c H locs cells slots Q lsA hx hb kt kf => ?_) kt kf
  exact lv_icmp_le hx hb d ht (fun q => kt (by simpa only [oI_le hx2 hy2, oI_le hy2 hx2, ne_eq] using q)) (fun q => kf (by simpa only [oI_le hx2 hy2, oI_le hy2 hx2, ne_eq, Decidable.not_not] using q))
theorem e_if_eq {x : Int} {t : Nat} {off : Int} (d : decode K.1.2.1 pc = .ok (.ifCond .eq off, 3)) (ht : (pc : Int) + off = (t : Int)) (hn : pc + 3 = n) (hx2 : -2147483648 ≤ x ∧ x ≤ 2147483647) (kt : x = 0 → EV K a b cs t ls st) (kf : ¬ (x = 0) → EV K a b cs n ls st) : EV K a b cs pc ls (vi x :: st) := by
  subst hn
  have h0 : -2147483648 ≤ (0 : Int) ∧ (0 : Int) ≤ 2147483647 := by omega
  refine EV.two (P1 := x = 0) (P2 := ¬ (x = 0)) (fun p l e R s m args below meth c H locs cells slots Q lsA hx hb kt kf => ?_) kt kf
  exact lv_if_eq hx hb d ht (fun q => kt (by rw [← oI_z] at q; simpa only [oI_eq hx2 h0, oI_eq h0 hx2, ne_eq] using q)) (fun q => kf (by rw [← oI_z] at q; simpa only [oI_eq hx2 h0, oI_eq h0 hx2, ne_eq, Decidable.not_not] using q))
theorem e_if_ne {x : Int} {t : Nat} {off : Int} (d : decode K.1.2.1 pc = .ok (.ifCond .ne off, 3)) (ht : (pc : Int) + off = (t : Int)) (hn : pc + 3 = n) (hx2 : -2147483648 ≤ x ∧ x ≤ 2147483647) (kt : ¬ x = 0 → EV K a b cs t ls st) (kf : ¬ (¬ x = 0) → EV K a b cs n ls st) : EV K a b cs pc ls (vi x :: st) := by
  subst hn
  have h0 : -2147483648 ≤ (0 : Int) ∧ (0 : Int) ≤ 2147483647 := by omega
  refine EV.two (P1 := ¬ x = 0) (P2 := ¬ (¬ x = 0)) (fun p l e R s m args below meth c H locs cells slots Q lsA hx hb kt kf => ?_) kt kf
  exact lv_if_ne hx hb d ht (fun q => kt (by rw [← oI_z] at q; simpa only [oI_eq hx2 h0, oI_eq h0 hx2, ne_eq] using q)) (fun q => kf (by rw [← oI_z] at q; simpa only [oI_eq hx2 h0, oI_eq h0 hx2, ne_eq, Decidable.not_not] using q))
theorem e_if_lt {x : Int} {t : Nat} {off : Int} (d : decode K.1.2.1 pc = .ok (.ifCond .lt off, 3)) (ht : (pc : Int) + off = (t : Int)) (hn : pc + 3 = n) (hx2 : -2147483648 ≤ x ∧ x ≤ 2147483647) (kt : x < 0 → EV K a b cs t ls st) (kf : ¬ (x < 0) → EV K a b cs n ls st) : EV K a b cs pc ls (vi x :: st) := by
  subst hn
  have h0 : -2147483648 ≤ (0 : Int) ∧ (0 : Int) ≤ 2147483647 := by omega
  refine EV.two (P1 := x < 0) (P2 := ¬ (x < 0)) (fun p l e R s m args below meth c H locs cells slots Q lsA hx hb kt kf => ?_) kt kf
  exact lv_if_lt hx hb d ht (fun q => kt (by rw [← oI_z] at q; simpa only [oI_lt hx2 h0, oI_lt h0 hx2, ne_eq] using q)) (fun q => kf (by rw [← oI_z] at q; simpa only [oI_lt hx2 h0, oI_lt h0 hx2, ne_eq, Decidable.not_not] using q))
theorem e_if_ge {x : Int} {t : Nat} {off : Int} (d : decode K.1.2.1 pc = .ok (.ifCond .ge off, 3)) (ht : (pc : Int) + off = (t : Int)) (hn : pc + 3 = n) (hx2 : -2147483648 ≤ x ∧ x ≤ 2147483647) (kt : 0 ≤ x → EV K a b cs t ls st) (kf : ¬ (0 ≤ x) → EV K a b cs n ls st) : EV K a b cs pc ls (vi x :: st) := by
  subst hn
  have h0 : -2147483648 ≤ (0 : Int) ∧ (0 : Int) ≤ 2147483647 := by omega
  refine EV.two (P1 := 0 ≤ x) (P2 := ¬ (0 ≤ x)) (fun p l e R s m args below meth c H locs cells slots Q lsA hx hb kt kf => ?_) kt kf
  exact lv_if_ge hx hb d ht (fun q => kt (by rw [← oI_z] at q; simpa only [oI_le hx2 h0, oI_le h0 hx2, ne_eq] using q)) (fun q => kf (by rw [← oI_z] at q; simpa only [oI_le hx2 h0, oI_le h0 hx2, ne_eq, Decidable.not_not] using q))
theorem e_if_le {x : Int} {t : Nat} {off : Int} (d : decode K.1.2.1 pc = .ok (.ifCond .le off, 3)) (ht : (pc : Int) + off = (t : Int)) (hn : pc + 3 = n) (hx2 : -2147483648 ≤ x ∧ x ≤ 2147483647) (kt : x ≤ 0 → EV K a b cs t ls st) (kf : ¬ (x ≤ 0) → EV K a b cs n ls st) : EV K a b cs pc ls (vi x :: st) := by
  subst hn
  have h0 : -2147483648 ≤ (0 : Int) ∧ (0 : Int) ≤ 2147483647 := by omega
  refine EV.two (P1 := x ≤ 0) (P2 := ¬ (x ≤ 0)) (fun p l e R s m args below meth c H locs cells slots Q lsA hx hb kt kf => ?_) kt kf
  exact lv_if_le hx hb d ht (fun q => kt (by rw [← oI_z] at q; simpa only [oI_le hx2 h0, oI_le h0 hx2, ne_eq] using q)) (fun q => kf (by rw [← oI_z] at q; simpa only [oI_le hx2 h0, oI_le h0 hx2, ne_eq, Decidable.not_not] using q))
theorem e_ifb_eq {c : Prop} [Decidable c] {t : Nat} {off : Int} (d : decode K.1.2.1 pc = .ok (.ifCond .eq off, 3)) (ht : (pc : Int) + off = (t : Int)) (hn : pc + 3 = n) (kt : ¬ c → EV K a b cs t ls st) (kf : c → EV K a b cs n ls st) : EV K a b cs pc ls (vb c :: st) := by
  by_cases h : c
  · have e : vb c = vi 1 := by unfold vb; rw [if_pos h]
    rw [e]; exact e_if_eq d ht hn (by omega) (fun q => absurd q (by omega)) (fun _ => kf h)
  · have e : vb c = vi 0 := by unfold vb; rw [if_neg h]
    rw [e]; exact e_if_eq d ht hn (by omega) (fun _ => kt h) (fun q => absurd rfl q)
theorem e_ifb_ne {c : Prop} [Decidable c] {t : Nat} {off : Int} (d : decode K.1.2.1 pc = .ok (.ifCond .ne off, 3)) (ht : (pc : Int) + off = (t : Int)) (hn : pc + 3 = n) (kt : c → EV K a b cs t ls st) (kf : ¬ c → EV K a b cs n ls st) : EV K a b cs pc ls (vb c :: st) := by
  by_cases h : c
  · have e : vb c = vi 1 := by unfold vb; rw [if_pos h]
    rw [e]; exact e_if_ne d ht hn (by omega) (fun _ => kt h) (fun q => absurd (by omega) q)
  · have e : vb c = vi 0 := by unfold vb; rw [if_neg h]
    rw [e]; exact e_if_ne d ht hn (by omega) (fun q => absurd rfl q) (fun _ => kf h)

theorem e_tabIn {x : Int} {dflt lo hi off : Int} {offs : Array Int} {len t : Nat} (d : decode K.1.2.1 pc = .ok (.tableswitch dflt lo hi offs, len)) (hx2 : -2147483648 ≤ x ∧ x ≤ 2147483647) (h1 : ¬ x < lo) (h2 : ¬ hi < x) (ho : offs[(x - lo).toNat]? = some off) (ht : (pc : Int) + off = (t : Int)) (k : EV K a b cs t ls st) : EV K a b cs pc ls (vi x :: st) :=
  EV.pure (fun p l e R s m args below meth c H locs cells slots Q lsA hx hb hL k => lv_tableIn hx hb d (by rw [oI_toInt hx2]; exact h1) (by rw [oI_toInt hx2]; exact h2) (by rw [oI_toInt hx2]; exact ho) ht k) k
theorem e_tabOut {x : Int} {dflt lo hi : Int} {offs : Array Int} {len t : Nat} (d : decode K.1.2.1 pc = .ok (.tableswitch dflt lo hi offs, len)) (hx2 : -2147483648 ≤ x ∧ x ≤ 2147483647) (h : x < lo ∨ hi < x) (ht : (pc : Int) + dflt = (t : Int)) (k : EV K a b cs t ls st) : EV K a b cs pc ls (vi x :: st) :=
  EV.pure (fun p l e R s m args below meth c H locs cells slots Q lsA hx hb hL k => lv_tableOut hx hb d (by rw [oI_toInt hx2]; exact h) ht k) k
end EVR
