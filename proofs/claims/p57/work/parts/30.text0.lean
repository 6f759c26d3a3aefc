/-! ===== CommandText ===== -/
/-- numbers: 0 length, 1 commands, 2 position; rows: 0 characters, 1 kinds; M: the numbers of each command -/
def tAd (a : Nat → Nat) : List Nat := [a 4, a 5, a 6, a 7, a 8, a 9, a 10, a 11, a 12, a 13]
def wTX (a : Nat → Nat) (L C P : Int) (x K : Int → Int) (M : Int → Int → Int) : List eE := [.inr (1, [.ref (a 1), vi L, .ref (a 2), .ref (a 3), vi C, vi P]), eI 2 60 x, eI 0 10 K, eRf 5 10 (fun j => (tAd a)[j]?),
  eI 0 3 (M 0), eI 0 3 (M 1), eI 0 3 (M 2), eI 0 3 (M 3), eI 0 3 (M 4), eI 0 3 (M 5), eI 0 3 (M 6), eI 0 3 (M 7), eI 0 3 (M 8), eI 0 3 (M 9)]
def wTx (a : Nat → Nat) (T : eFs) (M : Int → Int → Int) : List eE := wTX a (T.1 0) (T.1 1) (T.1 2) (T.2 0) (T.2 1) M
def tU (M : Int → Int → Int) (c : Int) (r : Int → Int) : Int → Int → Int := fun j => if j = c then r else M j
theorem x10 {c : Int} (h : 0 ≤ c ∧ c < 10) : c = 0 ∨ c = 1 ∨ c = 2 ∨ c = 3 ∨ c = 4 ∨ c = 5 ∨ c = 6 ∨ c = 7 ∨ c = 8 ∨ c = 9 := by omega
theorem wTx_row {a : Nat → Nat} {T : eFs} {M : Int → Int → Int} {c : Int} (h : 0 ≤ c ∧ c < 10) : (wTx a T M)[4 + c.toNat]? = some (eI 0 3 (M c)) := by
  rcases x10 h with h | h | h | h | h | h | h | h | h | h <;> subst h <;> rfl
theorem tAd_at {a : Nat → Nat} {c : Int} (h : 0 ≤ c ∧ c < 10) : (tAd a)[c.toNat]? = some (a (4 + c.toNat)) := by
  rcases x10 h with h | h | h | h | h | h | h | h | h | h <;> subst h <;> rfl
theorem wTx_set {a : Nat → Nat} {T : eFs} {M : Int → Int → Int} {c : Int} {r : Int → Int} (h : 0 ≤ c ∧ c < 10) : (wTx a T M).set (4 + c.toNat) (eI 0 3 r) = wTx a T (tU M c r) := by
  rcases x10 h with h | h | h | h | h | h | h | h | h | h <;> subst h <;> rfl
theorem tU_self {M : Int → Int → Int} {c : Int} {r : Int → Int} : tU M c r c = r := if_pos rfl
theorem tU_ne {M : Int → Int → Int} {c j : Int} {r : Int → Int} (h : j ≠ c) : tU M c r j = M j := if_neg h
theorem tU_tU {M : Int → Int → Int} {c : Int} {r r2 : Int → Int} : tU (tU M c r) c r2 = tU M c r2 := by
  funext j
  unfold tU
  split <;> rfl
theorem tU_id {M : Int → Int → Int} {c : Int} : tU M c (M c) = M := by
  funext j
  unfold tU
  split
  · rename_i h; rw [h]
  · rfl
def okT (T : eFs) (M : Int → Int → Int) : Prop := (0 ≤ T.1 0 ∧ T.1 0 ≤ 60) ∧ (0 ≤ T.1 1 ∧ T.1 1 ≤ 10) ∧ (0 ≤ T.1 2 ∧ T.1 2 ≤ 60) ∧ (∀ j, 0 ≤ T.2 0 j ∧ T.2 0 j ≤ 126) ∧ (∀ j, 0 ≤ T.2 1 j ∧ T.2 1 j ≤ 8) ∧ (∀ c j, 0 ≤ M c j ∧ M c j ≤ 99)
