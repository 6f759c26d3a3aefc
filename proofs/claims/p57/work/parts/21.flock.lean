/-! ===== a flock's state, told by numbers and rows ===== -/
/-- numbers: 0 count, 1 leading, 2 led, 3 turn, 4 goalX, 5 goalY, 6 kept, 7 steps, 8 waits, 9 clouds, 10 shapes, 11 next shape; rows: 0 xs, 1 ys, 2 handles, 3 moves, 4 cloud bits, 5 shape words -/
abbrev eFs : Type := (Nat → Int) × (Nat → Int → Int)
def sS (F : eFs) (k : Nat) (v : Int) : eFs := (fun j => if j = k then v else F.1 j, F.2)
def sA (F : eFs) (k : Nat) (z v : Int) : eFs := (F.1, fun j => if j = k then eU (F.2 k) z v else F.2 j)
def sR (F : eFs) (k : Nat) (x : Int → Int) : eFs := (F.1, fun j => if j = k then x else F.2 j)
def wCl (a : Nat → Nat) (c : Int) (x : Int → Int) : List eE := [.inr (0, [.ref (a 1), vi c]), eI 0 12 x]
def wSh (a : Nat → Nat) (c nx : Int) (x : Int → Int) : List eE := [.inr (5, [.ref (a 1), vi c, vi nx]), eJ 1 48 x]
def wFl (a : Nat → Nat) (F : eFs) (P : Int → Int) : List eE :=
  [.inr (2, [.ref (a 1), .ref (a 2), .ref (a 3), .ref (a 4), vi (F.1 0), .ref (a 5), .ref (a 7), .ref (a 9), vi (F.1 1), vi (F.1 2), vi (F.1 3), vi (F.1 4), vi (F.1 5), vi (F.1 6), vi (F.1 7), vi (F.1 8)]),
   eI 0 10 (F.2 0), eI 0 10 (F.2 1), eI 0 10 (F.2 2), eI 0 10 (F.2 3), .inr (0, [.ref (a 6), vi (F.1 9)]), eI 0 12 (F.2 4), .inr (5, [.ref (a 8), vi (F.1 10), vi (F.1 11)]), eJ 1 48 (F.2 5), eJ 1 3 P]
/-- the numbers are in their ranges -/
def okF (N : Int) (F : eFs) : Prop :=
  (0 ≤ F.1 0 ∧ F.1 0 ≤ 10) ∧ (0 ≤ F.1 1 ∧ F.1 1 ≤ 9 ∧ (F.1 1 < F.1 0 ∨ F.1 1 = 0)) ∧ (0 ≤ F.1 2 ∧ F.1 2 < F.1 3 ∧ (F.1 0 = 0 → F.1 2 = 0)) ∧ (2 ≤ F.1 3 ∧ F.1 3 ≤ 9) ∧ (-1 ≤ F.1 4 ∧ F.1 4 ≤ 11 ∧ -1 ≤ F.1 5 ∧ F.1 5 ≤ 11 ∧ (F.1 4 = -1 ↔ F.1 5 = -1) ∧ (F.1 0 = 0 → F.1 4 = -1)) ∧
  (2 ≤ F.1 6 ∧ F.1 6 ≤ 6) ∧ (0 ≤ F.1 7 ∧ F.1 7 ≤ N) ∧ (0 ≤ F.1 8 ∧ F.1 8 ≤ N) ∧ (0 ≤ F.1 9 ∧ F.1 9 ≤ 8) ∧ (0 ≤ F.1 10 ∧ F.1 10 ≤ 16) ∧ (0 ≤ F.1 11 ∧ F.1 11 ≤ 15 ∧ (F.1 10 < 16 → F.1 11 = F.1 10)) ∧ (0 ≤ N ∧ N ≤ 100000000) ∧
  (∀ j, 0 ≤ F.2 0 j ∧ F.2 0 j ≤ 11) ∧ (∀ j, 0 ≤ F.2 1 j ∧ F.2 1 j ≤ 11) ∧ (∀ j, 0 ≤ F.2 2 j ∧ F.2 2 j ≤ 2) ∧ (∀ j, 0 ≤ F.2 3 j ∧ F.2 3 j ≤ N) ∧ (∀ j, 0 ≤ F.2 4 j ∧ F.2 4 j ≤ 4095) ∧ (∀ j, 0 ≤ F.2 5 j ∧ F.2 5 j < 281474976710656)
theorem eU_b {x : Int → Int} {z v lo hi : Int} (h : ∀ j, lo ≤ x j ∧ x j ≤ hi) (hv : lo ≤ v ∧ v ≤ hi) (j : Int) : lo ≤ eU x z v j ∧ eU x z v j ≤ hi := by
  unfold eU
  split
  · exact hv
  · exact h j
theorem eU_self {x : Int → Int} {z v : Int} : eU x z v z = v := if_pos rfl
theorem eU_ne {x : Int → Int} {z v j : Int} (h : j ≠ z) : eU x z v j = x j := if_neg h
/-! cells and distances -/
abbrev sIn (x y : Int) : Prop := 0 ≤ x ∧ x < 12 ∧ 0 ≤ y ∧ y < 12
/-- a bit of a row of clouds -/
abbrev sBit (w x : Int) : Prop := ¬ bAnd w (bShl 1 x) = 0
abbrev sCov (r : Int → Int) (x y : Int) : Prop := sIn x y ∧ sBit (r y) x
theorem bAnd_rng {x y : Int} : -2147483648 ≤ bAnd x y ∧ bAnd x y ≤ 2147483647 := ⟨Int32.le_toInt _, by have := Int32.toInt_lt (Int32.ofInt x &&& Int32.ofInt y); unfold bAnd; omega⟩
theorem bOr_rng {x y : Int} : -2147483648 ≤ bOr x y ∧ bOr x y ≤ 2147483647 := ⟨Int32.le_toInt _, by have := Int32.toInt_lt (Int32.ofInt x ||| Int32.ofInt y); unfold bOr; omega⟩
theorem nI32 {m : Nat} (h : m < 2147483648) : (Int32.ofBitVec (BitVec.ofNat 32 m)).toInt = m := by
  show (BitVec.ofNat 32 m).toInt = m
  rw [BitVec.toInt_eq_toNat_of_lt]
  · simp; omega
  · simp; omega
theorem oI_bv (m : Nat) : Int32.ofInt (m : Int) = Int32.ofBitVec (BitVec.ofNat 32 m) := by
  unfold Int32.ofInt
  congr 1
theorem bAnd_n {m k : Nat} (hm : m < 2147483648) (hk : k < 2147483648) : bAnd m k = ((m &&& k : Nat) : Int) := by
  unfold bAnd
  rw [oI_bv, oI_bv]
  show (Int32.ofBitVec (BitVec.ofNat 32 m &&& BitVec.ofNat 32 k)).toInt = _
  rw [← BitVec.ofNat_and]
  exact nI32 (Nat.lt_of_le_of_lt Nat.and_le_left hm)
theorem bOr_n {m k : Nat} (hm : m < 2147483648) (hk : k < 2147483648) : bOr m k = ((m ||| k : Nat) : Int) := by
  unfold bOr
  rw [oI_bv, oI_bv]
  show (Int32.ofBitVec (BitVec.ofNat 32 m ||| BitVec.ofNat 32 k)).toInt = _
  rw [← BitVec.ofNat_or]
  exact nI32 (Nat.or_lt_two_pow (n := 31) hm hk)
theorem x12 {x : Int} (h0 : 0 ≤ x) (h1 : x < 12) : x = 0 ∨ x = 1 ∨ x = 2 ∨ x = 3 ∨ x = 4 ∨ x = 5 ∨ x = 6 ∨ x = 7 ∨ x = 8 ∨ x = 9 ∨ x = 10 ∨ x = 11 := by omega
theorem bShl_1 {x : Int} (h0 : 0 ≤ x) (h1 : x < 12) : bShl 1 x = ((2 ^ x.toNat : Nat) : Int) := by
  rcases x12 h0 h1 with h | h | h | h | h | h | h | h | h | h | h | h <;> subst h <;> decide
theorem p12 {x : Int} (h0 : 0 ≤ x) (h1 : x < 12) : 2 ^ x.toNat < 4096 := by
  rcases x12 h0 h1 with h | h | h | h | h | h | h | h | h | h | h | h <;> subst h <;> decide
theorem and_p2 (n k : Nat) : n &&& 2 ^ k = if n.testBit k then 2 ^ k else 0 := by
  apply Nat.eq_of_testBit_eq
  intro i
  rw [Nat.testBit_and, Nat.testBit_two_pow]
  by_cases h : k = i
  · subst h
    cases hb : n.testBit k <;> simp [Nat.testBit_two_pow_self]
  · cases hb : n.testBit k <;> simp [h]
theorem sBit_n {w x : Int} (hw : 0 ≤ w ∧ w ≤ 4095) (h0 : 0 ≤ x) (h1 : x < 12) : sBit w x ↔ w.toNat.testBit x.toNat = true := by
  have e : w = ((w.toNat : Nat) : Int) := by omega
  have h : bAnd w (bShl 1 x) = ((w.toNat &&& 2 ^ x.toNat : Nat) : Int) := by
    conv => lhs; rw [bShl_1 h0 h1, e]
    exact bAnd_n (by omega) (by have := p12 h0 h1; omega)
  unfold sBit
  rw [h, and_p2]
  have := Nat.two_pow_pos x.toNat
  cases hb : (w.toNat).testBit x.toNat
  · simp
  · rw [if_pos rfl]
    exact ⟨fun _ => rfl, fun _ => by omega⟩
theorem sBit_or {w x z : Int} (hw : 0 ≤ w ∧ w ≤ 4095) (h0 : 0 ≤ x) (h1 : x < 12) (g0 : 0 ≤ z) (g1 : z < 12) : (0 ≤ bOr w (bShl 1 x) ∧ bOr w (bShl 1 x) ≤ 4095) ∧ (sBit (bOr w (bShl 1 x)) z ↔ sBit w z ∨ z = x) := by
  have e : w = ((w.toNat : Nat) : Int) := by omega
  have h : bOr w (bShl 1 x) = ((w.toNat ||| 2 ^ x.toNat : Nat) : Int) := by
    conv => lhs; rw [bShl_1 h0 h1, e]
    exact bOr_n (by omega) (by have := p12 h0 h1; omega)
  have hlt : w.toNat ||| 2 ^ x.toNat < 4096 := Nat.or_lt_two_pow (n := 12) (by omega) (p12 h0 h1)
  have hr : 0 ≤ bOr w (bShl 1 x) ∧ bOr w (bShl 1 x) ≤ 4095 := by rw [h]; omega
  refine ⟨hr, ?_⟩
  rw [sBit_n hr g0 g1, sBit_n hw g0 g1, h]
  rw [show (((w.toNat ||| 2 ^ x.toNat : Nat) : Int)).toNat = w.toNat ||| 2 ^ x.toNat by omega, Nat.testBit_or, Nat.testBit_two_pow]
  simp only [Bool.or_eq_true, decide_eq_true_eq]
  constructor
  · rintro (q | q)
    · exact Or.inl q
    · exact Or.inr (by omega)
  · rintro (q | q)
    · exact Or.inl q
    · exact Or.inr (by omega)
theorem bNot_n {w x : Int} (hw : 0 ≤ w ∧ w ≤ 4095) (h0 : 0 ≤ x) (h1 : x < 12) : bAnd w (bXor (bShl 1 x) (-1)) = ((w.toNat &&& (4095 - 2 ^ x.toNat) : Nat) : Int) := by
  have e : w = ((w.toNat : Nat) : Int) := by omega
  have hx : bXor (bShl 1 x) (-1) = -1 - ((2 ^ x.toNat : Nat) : Int) := by
    rcases x12 h0 h1 with h | h | h | h | h | h | h | h | h | h | h | h <;> subst h <;> decide
  have hp := p12 h0 h1
  rw [hx]
  unfold bAnd
  have e2 : Int32.ofInt (-1 - ((2 ^ x.toNat : Nat) : Int)) = Int32.ofBitVec (BitVec.ofNat 32 (4294967295 - 2 ^ x.toNat)) := by
    rcases x12 h0 h1 with h | h | h | h | h | h | h | h | h | h | h | h <;> subst h <;> decide
  rw [e2, e, oI_bv]
  show (Int32.ofBitVec (BitVec.ofNat 32 w.toNat &&& BitVec.ofNat 32 (4294967295 - 2 ^ x.toNat))).toInt = _
  rw [← BitVec.ofNat_and]
  have hk : w.toNat &&& (4294967295 - 2 ^ x.toNat) = w.toNat &&& (4095 - 2 ^ x.toNat) := by
    have a1 : w.toNat = w.toNat &&& 4095 := by
      rw [show 4095 = 2 ^ 12 - 1 from rfl, Nat.and_two_pow_sub_one_eq_mod]; omega
    have a2 : 4095 &&& (4294967295 - 2 ^ x.toNat) = 4095 - 2 ^ x.toNat := by
      rcases x12 h0 h1 with h | h | h | h | h | h | h | h | h | h | h | h <;> subst h <;> decide
    conv => lhs; rw [a1, Nat.and_assoc, a2]
  rw [hk]
  rw [show ((w.toNat : Nat) : Int).toNat = w.toNat by omega]
  exact nI32 (Nat.lt_of_le_of_lt Nat.and_le_left (by omega))
theorem sBit_cl {w x z : Int} (hw : 0 ≤ w ∧ w ≤ 4095) (h0 : 0 ≤ x) (h1 : x < 12) (g0 : 0 ≤ z) (g1 : z < 12) : (0 ≤ bAnd w (bXor (bShl 1 x) (-1)) ∧ bAnd w (bXor (bShl 1 x) (-1)) ≤ 4095) ∧ (sBit (bAnd w (bXor (bShl 1 x) (-1))) z ↔ sBit w z ∧ ¬ z = x) := by
  have h := bNot_n hw h0 h1
  have hle : w.toNat &&& (4095 - 2 ^ x.toNat) ≤ w.toNat := Nat.and_le_left
  have hr : 0 ≤ bAnd w (bXor (bShl 1 x) (-1)) ∧ bAnd w (bXor (bShl 1 x) (-1)) ≤ 4095 := by rw [h]; omega
  refine ⟨hr, ?_⟩
  rw [sBit_n hr g0 g1, sBit_n hw g0 g1, h]
  rw [show (((w.toNat &&& (4095 - 2 ^ x.toNat) : Nat) : Int)).toNat = w.toNat &&& (4095 - 2 ^ x.toNat) by omega, Nat.testBit_and]
  have hb : (4095 - 2 ^ x.toNat).testBit z.toNat = decide (¬ z = x) := by
    rcases x12 h0 h1 with h | h | h | h | h | h | h | h | h | h | h | h <;> subst h <;> rcases x12 g0 g1 with h | h | h | h | h | h | h | h | h | h | h | h <;> subst h <;> decide
  rw [hb]
  simp
theorem sBit_0 {z : Int} : ¬ sBit 0 z := by
  unfold sBit bAnd
  simp
