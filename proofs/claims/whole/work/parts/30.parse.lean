/-! ===== CommandText ===== -/
/-- numbers: 0 length, 1 commands, 2 position; rows: 0 characters, 1 kinds; M: the numbers of each command -/
def tAd (a : Nat → Nat) : List Nat := [a 4, a 5, a 6, a 7, a 8, a 9, a 10, a 11, a 12, a 13]
def wTX (a : Nat → Nat) (L C P : Int) (x K : Int → Int) (M : Int → Int → Int) : List eE := [.inr (1, [.ref (a 1), vi L, .ref (a 2), .ref (a 3), vi C, vi P]), eI 2 60 x, eI 0 10 K, eRf 5 10 (fun j => (tAd a)[j]?),
  eI 0 3 (M 0), eI 0 3 (M 1), eI 0 3 (M 2), eI 0 3 (M 3), eI 0 3 (M 4), eI 0 3 (M 5), eI 0 3 (M 6), eI 0 3 (M 7), eI 0 3 (M 8), eI 0 3 (M 9)]
def wTx (a : Nat → Nat) (T : eFs) (M : Int → Int → Int) : List eE := wTX a (T.1 0) (T.1 1) (T.1 2) (T.2 0) (T.2 1) M
def tU (M : Int → Int → Int) (c : Int) (r : Int → Int) : Int → Int → Int := fun j => if j = c then r else M j
theorem x10 {c : Int} (h : 0 ≤ c ∧ c < 10) : c = 0 ∨ c = 1 ∨ c = 2 ∨ c = 3 ∨ c = 4 ∨ c = 5 ∨ c = 6 ∨ c = 7 ∨ c = 8 ∨ c = 9 := by omega
theorem wTx_row {a : Nat → Nat} {T : eFs} {M : Int → Int → Int} {c : Int} (h : 0 ≤ c ∧ c < 10) : (wTx a T M)[4 + c.toNat]? = some (eI 0 3 (M c)) := by
  rcases x10 h with h | h | h | h | h | h | h | h | h | h <;> subst h <;> rfl
theorem tAd_at {a : Nat → Nat} {c : Int} (h : 0 ≤ c ∧ c < 10) : (tAd a)[c.toNat]? = some (a (4 + c.toNat)) := by
  rcases x10 h with h | h | h | h | h | h | h | h | h | h <;> subst h <;> rfl
theorem wTx_set {a : Nat → Nat} {T : eFs} {M : Int → Int → Int} {c : Int} {r : Int → Int} (h : 0 ≤ c ∧ c < 10) : (wTx a T M).set (4 + c.toNat) (eI 0 3 r) = wTx a T (tU M c r) := by
  rcases x10 h with h | h | h | h | h | h | h | h | h | h <;> subst h <;> rfl
theorem tU_self {M : Int → Int → Int} {c : Int} {r : Int → Int} : tU M c r c = r := if_pos rfl
theorem tU_ne {M : Int → Int → Int} {c j : Int} {r : Int → Int} (h : j ≠ c) : tU M c r j = M j := if_neg h
theorem tU_tU {M : Int → Int → Int} {c : Int} {r r2 : Int → Int} : tU (tU M c r) c r2 = tU M c r2 := by
  funext j
  unfold tU
  split <;> rfl
theorem tU_id {M : Int → Int → Int} {c : Int} : tU M c (M c) = M := by
  funext j
  unfold tU
  split
  · rename_i h; rw [h]
  · rfl
def okT (T : eFs) (M : Int → Int → Int) : Prop := (0 ≤ T.1 0 ∧ T.1 0 ≤ 60) ∧ (0 ≤ T.1 1 ∧ T.1 1 ≤ 10) ∧ (0 ≤ T.1 2 ∧ T.1 2 ≤ 60) ∧ (∀ j, 0 ≤ T.2 0 j ∧ T.2 0 j ≤ 126) ∧ (∀ j, 0 ≤ T.2 1 j ∧ T.2 1 j ≤ 8) ∧ (∀ c j, 0 ≤ M c j ∧ M c j ≤ 99)
/-- the sign at a place, -1 behind the text -/
def tS (L : Int) (x : Int → Int) (p : Int) : Int := if p < L then x p else -1
abbrev tDg (s : Int) : Prop := 48 ≤ s ∧ s ≤ 57
theorem tS_in {L : Int} {x : Int → Int} (h : ∀ j, 0 ≤ x j ∧ x j ≤ 126) (p : Int) : -1 ≤ tS L x p ∧ tS L x p ≤ 126 ∧ (0 ≤ tS L x p ↔ p < L) ∧ (p < L → tS L x p = x p) := by
  have := h p
  unfold tS
  split <;> omega
/-- a number of one or two digits: its value, the place behind it -/
def tNv (tx : Int → Int) (two : Prop) [Decidable two] (p : Int) : Int := if two ∧ tDg (tx (p + 1)) then (tx p - 48) * 10 + (tx (p + 1) - 48) else tx p - 48
def tNp (tx : Int → Int) (two : Prop) [Decidable two] (p : Int) : Int := if two ∧ tDg (tx (p + 1)) then p + 1 + 1 else p + 1
theorem tNv_in {tx : Int → Int} {two : Prop} [Decidable two] {p : Int} (h : tDg (tx p)) : 0 ≤ tNv tx two p ∧ tNv tx two p ≤ 99 := by
  unfold tNv
  split <;> omega
theorem tN_y {tx : Int → Int} {two : Prop} [Decidable two] {p : Int} (h : two) (h2 : tDg (tx (p + 1))) : tNv tx two p = (tx p - 48) * 10 + (tx (p + 1) - 48) ∧ tNp tx two p = p + 1 + 1 := ⟨if_pos ⟨h, h2⟩, if_pos ⟨h, h2⟩⟩
theorem tN_n {tx : Int → Int} {two : Prop} [Decidable two] {p : Int} (h : ¬ (two ∧ tDg (tx (p + 1)))) : tNv tx two p = tx p - 48 ∧ tNp tx two p = p + 1 := ⟨if_neg h, if_neg h⟩
/-- form k from its sign i on, at place p, f numbers found: does it match, the place, the numbers -/
def tMt (tx : Int → Int) (k : Nat) : Nat → Int → Int → Int → (Int → Int) → Bool × Int × (Int → Int)
  | 0, _, p, _, r => (true, p, r)
  | n + 1, i, p, f, r =>
    if fCh k i = 37 ∨ fCh k i = 35 then
      (if tDg (tx p) then (if f < 3 then tMt tx k n (i + 1) (tNp tx (fCh k i = 37) p) (f + 1) (eU r f (tNv tx (fCh k i = 37) p)) else tMt tx k n (i + 1) (tNp tx (fCh k i = 37) p) f r) else (false, p, r))
    else (if tx p = fCh k i then tMt tx k n (i + 1) (p + 1) f r else (false, p, r))
theorem tMt_0 {tx : Int → Int} {k : Nat} {i L p f : Int} {r : Int → Int} (h : L ≤ i) : tMt tx k (L - i).toNat i p f r = (true, p, r) := by
  rw [show (L - i).toNat = 0 by omega]; rfl
theorem tMt_s {tx : Int → Int} {k : Nat} {i L p f : Int} {r : Int → Int} (h : i < L) : tMt tx k (L - i).toNat i p f r = (if fCh k i = 37 ∨ fCh k i = 35 then
      (if tDg (tx p) then (if f < 3 then tMt tx k (L - (i + 1)).toNat (i + 1) (tNp tx (fCh k i = 37) p) (f + 1) (eU r f (tNv tx (fCh k i = 37) p)) else tMt tx k (L - (i + 1)).toNat (i + 1) (tNp tx (fCh k i = 37) p) f r) else (false, p, r))
    else (if tx p = fCh k i then tMt tx k (L - (i + 1)).toNat (i + 1) (p + 1) f r else (false, p, r))) := by
  rw [show (L - i).toNat = (L - (i + 1)).toNat + 1 by omega]
  rfl
theorem tMt_n3 {tx : Int → Int} {k : Nat} {i L p f : Int} {r : Int → Int} (h : i < L) (h1 : fCh k i = 37 ∨ fCh k i = 35) (h2 : tDg (tx p)) (h3 : f < 3) : tMt tx k (L - i).toNat i p f r = tMt tx k (L - (i + 1)).toNat (i + 1) (tNp tx (fCh k i = 37) p) (f + 1) (eU r f (tNv tx (fCh k i = 37) p)) := by rw [tMt_s h, if_pos h1, if_pos h2, if_pos h3]
theorem tMt_n4 {tx : Int → Int} {k : Nat} {i L p f : Int} {r : Int → Int} (h : i < L) (h1 : fCh k i = 37 ∨ fCh k i = 35) (h2 : tDg (tx p)) (h3 : ¬ f < 3) : tMt tx k (L - i).toNat i p f r = tMt tx k (L - (i + 1)).toNat (i + 1) (tNp tx (fCh k i = 37) p) f r := by rw [tMt_s h, if_pos h1, if_pos h2, if_neg h3]
theorem tMt_nx {tx : Int → Int} {k : Nat} {i L p f : Int} {r : Int → Int} (h : i < L) (h1 : fCh k i = 37 ∨ fCh k i = 35) (h2 : ¬ tDg (tx p)) : tMt tx k (L - i).toNat i p f r = (false, p, r) := by rw [tMt_s h, if_pos h1, if_neg h2]
theorem tMt_c {tx : Int → Int} {k : Nat} {i L p f : Int} {r : Int → Int} (h : i < L) (h1 : ¬ (fCh k i = 37 ∨ fCh k i = 35)) (h2 : tx p = fCh k i) : tMt tx k (L - i).toNat i p f r = tMt tx k (L - (i + 1)).toNat (i + 1) (p + 1) f r := by rw [tMt_s h, if_neg h1, if_pos h2]
theorem tMt_cx {tx : Int → Int} {k : Nat} {i L p f : Int} {r : Int → Int} (h : i < L) (h1 : ¬ (fCh k i = 37 ∨ fCh k i = 35)) (h2 : ¬ tx p = fCh k i) : tMt tx k (L - i).toNat i p f r = (false, p, r) := by rw [tMt_s h, if_neg h1, if_neg h2]
def tMa (tx : Int → Int) (k : Nat) (p : Int) (r : Int → Int) : Bool × Int × (Int → Int) := tMt tx k (fLn k - 0).toNat 0 p 0 r
theorem fCh_nn (k : Nat) (i : Int) : 0 ≤ fCh k i := by
  have h : ∀ l ∈ eFb, ∀ x ∈ l, (0 : Int) ≤ x.toInt := by decide
  have h2 : ∀ l ∈ eFb, (0 : Int) ≤ (l.getD i.toNat 0).toInt := by
    intro l hl
    rw [List.getD_eq_getElem?_getD]
    cases hx : l[i.toNat]? with
    | none => exact Int.le_refl 0
    | some x => exact h l hl x (List.mem_of_getElem? hx)
  have h3 : eFb.getD k [] ∈ eFb ∨ eFb.getD k [] = [] := by
    rw [List.getD_eq_getElem?_getD]
    cases hk : eFb[k]? with
    | none => exact Or.inr rfl
    | some l => exact Or.inl (List.mem_of_getElem? hk)
  unfold fCh
  rcases h3 with h3 | h3
  · exact h2 _ h3
  · rw [h3]; exact Int.le_refl 0
theorem tNv_c {tx : Int → Int} {two t2 : Prop} [Decidable two] [Decidable t2] {p : Int} (h : two ↔ t2) : tNv tx two p = tNv tx t2 p ∧ tNp tx two p = tNp tx t2 p := by
  by_cases q : two
  · have q2 := h.mp q
    simp [tNv, tNp, q, q2]
  · have q2 : ¬ t2 := fun z => q (h.mpr z)
    simp [tNv, tNp, q, q2]
theorem sS_id {F : eFs} {k : Nat} : sS F k (F.1 k) = F := by
  unfold sS
  refine Prod.ext ?_ rfl
  funext j
  show (if j = k then F.1 k else F.1 j) = F.1 j
  split
  · rename_i h; rw [h]
  · rfl
theorem tNp_in {T : eFs} {M : Int → Int → Int} (h : okT T M) {two : Prop} [Decidable two] {p : Int} (h0 : 0 ≤ p) (h1 : tDg (tS (T.1 0) (T.2 0) p)) : p + 1 ≤ tNp (tS (T.1 0) (T.2 0)) two p ∧ tNp (tS (T.1 0) (T.2 0)) two p ≤ T.1 0 := by
  have a1 := tS_in (L := T.1 0) h.2.2.2.1 p
  have a2 := tS_in (L := T.1 0) h.2.2.2.1 (p + 1)
  unfold tNp
  split <;> omega
theorem tMt_in {T : eFs} {M : Int → Int → Int} (h : okT T M) {k : Nat} : ∀ (n : Nat) (i p f : Int) (r : Int → Int), 0 ≤ p → p ≤ T.1 0 → (∀ j, 0 ≤ r j ∧ r j ≤ 99) → (p ≤ (tMt (tS (T.1 0) (T.2 0)) k n i p f r).2.1 ∧ (tMt (tS (T.1 0) (T.2 0)) k n i p f r).2.1 ≤ T.1 0) ∧ (∀ j, 0 ≤ (tMt (tS (T.1 0) (T.2 0)) k n i p f r).2.2 j ∧ (tMt (tS (T.1 0) (T.2 0)) k n i p f r).2.2 j ≤ 99) := by
  intro n
  induction n with
  | zero => intro i p f r h0 h1 h2; exact ⟨⟨Int.le_refl _, h1⟩, h2⟩
  | succ n ih =>
    intro i p f r h0 h1 h2
    have a1 := tS_in (L := T.1 0) h.2.2.2.1 p
    unfold tMt
    split
    · split
      · rename_i hd
        have b1 := tNp_in h (two := fCh k i = 37) h0 hd
        have b2 := tNv_in (two := fCh k i = 37) hd
        split
        · have c := ih (i + 1) (tNp (tS (T.1 0) (T.2 0)) (fCh k i = 37) p) (f + 1) (eU r f (tNv (tS (T.1 0) (T.2 0)) (fCh k i = 37) p)) (by omega) (by omega) (fun j => eU_b h2 b2 j)
          exact ⟨⟨by omega, c.1.2⟩, c.2⟩
        · have c := ih (i + 1) (tNp (tS (T.1 0) (T.2 0)) (fCh k i = 37) p) f r (by omega) (by omega) h2
          exact ⟨⟨by omega, c.1.2⟩, c.2⟩
      · exact ⟨⟨Int.le_refl _, h1⟩, h2⟩
    · split
      · rename_i hd
        have b3 := fCh_nn k i
        have c := ih (i + 1) (p + 1) f r (by omega) (by omega) h2
        exact ⟨⟨by omega, c.1.2⟩, c.2⟩
      · exact ⟨⟨Int.le_refl _, h1⟩, h2⟩

/-- the first kind from k on that matches at p0; far: the furthest place so far -/
def tPk (tx : Int → Int) (p0 : Int) : Nat → Int → Int → (Int → Int) → Int × Int × (Int → Int)
  | 0, _, far, r => (-1, far, r)
  | n + 1, k, far, r => if (tMa tx k.toNat p0 r).1 = true then (k, (tMa tx k.toNat p0 r).2.1, (tMa tx k.toNat p0 r).2.2) else tPk tx p0 n (k + 1) (if far < (tMa tx k.toNat p0 r).2.1 then (tMa tx k.toNat p0 r).2.1 else far) (tMa tx k.toNat p0 r).2.2
theorem tPk_y {tx : Int → Int} {p0 k far : Int} {r : Int → Int} (h : k < 9) (hm : (tMa tx k.toNat p0 r).1 = true) : tPk tx p0 (9 - k).toNat k far r = (k, (tMa tx k.toNat p0 r).2.1, (tMa tx k.toNat p0 r).2.2) := by
  rw [show (9 - k).toNat = (9 - (k + 1)).toNat + 1 by omega]; exact if_pos hm
theorem tPk_n {tx : Int → Int} {p0 k far : Int} {r : Int → Int} (h : k < 9) (hm : ¬ (tMa tx k.toNat p0 r).1 = true) : tPk tx p0 (9 - k).toNat k far r = tPk tx p0 (9 - (k + 1)).toNat (k + 1) (if far < (tMa tx k.toNat p0 r).2.1 then (tMa tx k.toNat p0 r).2.1 else far) (tMa tx k.toNat p0 r).2.2 := by
  rw [show (9 - k).toNat = (9 - (k + 1)).toNat + 1 by omega]; exact if_neg hm
theorem tPk_0 {tx : Int → Int} {p0 k far : Int} {r : Int → Int} (h : 9 ≤ k) : tPk tx p0 (9 - k).toNat k far r = (-1, far, r) := by
  rw [show (9 - k).toNat = 0 by omega]; rfl
def tPa (tx : Int → Int) (p0 : Int) (r : Int → Int) : Int × Int × (Int → Int) := tPk tx p0 ((9 : Int) - 0).toNat 0 p0 r
theorem tMa_in {T : eFs} {M : Int → Int → Int} (h : okT T M) {k : Nat} {p : Int} {r : Int → Int} (h0 : 0 ≤ p) (h1 : p ≤ T.1 0) (h2 : ∀ j, 0 ≤ r j ∧ r j ≤ 99) : (p ≤ (tMa (tS (T.1 0) (T.2 0)) k p r).2.1 ∧ (tMa (tS (T.1 0) (T.2 0)) k p r).2.1 ≤ T.1 0) ∧ (∀ j, 0 ≤ (tMa (tS (T.1 0) (T.2 0)) k p r).2.2 j ∧ (tMa (tS (T.1 0) (T.2 0)) k p r).2.2 j ≤ 99) := tMt_in h _ _ _ _ _ h0 h1 h2
theorem tPk_in {T : eFs} {M : Int → Int → Int} (h : okT T M) {p0 : Int} (h0 : 0 ≤ p0) (h1 : p0 ≤ T.1 0) : ∀ (n : Nat) (k far : Int) (r : Int → Int), 0 ≤ k → p0 ≤ far → far ≤ T.1 0 → (∀ j, 0 ≤ r j ∧ r j ≤ 99) → (p0 ≤ (tPk (tS (T.1 0) (T.2 0)) p0 n k far r).2.1 ∧ (tPk (tS (T.1 0) (T.2 0)) p0 n k far r).2.1 ≤ T.1 0) ∧ (∀ j, 0 ≤ (tPk (tS (T.1 0) (T.2 0)) p0 n k far r).2.2 j ∧ (tPk (tS (T.1 0) (T.2 0)) p0 n k far r).2.2 j ≤ 99) ∧ (-1 ≤ (tPk (tS (T.1 0) (T.2 0)) p0 n k far r).1 ∧ (tPk (tS (T.1 0) (T.2 0)) p0 n k far r).1 < k + n) := by
  intro n
  induction n with
  | zero => intro k far r a1 a2 a3 a4; exact ⟨⟨a2, a3⟩, a4, by show (-1 : Int) ≤ -1; omega, by show (-1 : Int) < k + ((0 : Nat) : Int); omega⟩
  | succ n ih =>
    intro k far r a1 a2 a3 a4
    have m := tMa_in h (k := k.toNat) h0 h1 a4
    unfold tPk
    split
    · exact ⟨m.1, m.2, by show -1 ≤ k ∧ k < k + ((n + 1 : Nat) : Int); omega⟩
    · have c := ih (k + 1) (if far < (tMa (tS (T.1 0) (T.2 0)) k.toNat p0 r).2.1 then (tMa (tS (T.1 0) (T.2 0)) k.toNat p0 r).2.1 else far) (tMa (tS (T.1 0) (T.2 0)) k.toNat p0 r).2.2 (by omega) (by split <;> omega) (by split <;> omega) m.2
      exact ⟨c.1, c.2.1, by omega⟩
theorem tPa_in {T : eFs} {M : Int → Int → Int} (h : okT T M) {p0 : Int} {r : Int → Int} (h0 : 0 ≤ p0) (h1 : p0 ≤ T.1 0) (h2 : ∀ j, 0 ≤ r j ∧ r j ≤ 99) : (p0 ≤ (tPa (tS (T.1 0) (T.2 0)) p0 r).2.1 ∧ (tPa (tS (T.1 0) (T.2 0)) p0 r).2.1 ≤ T.1 0) ∧ (∀ j, 0 ≤ (tPa (tS (T.1 0) (T.2 0)) p0 r).2.2 j ∧ (tPa (tS (T.1 0) (T.2 0)) p0 r).2.2 j ≤ 99) ∧ (-1 ≤ (tPa (tS (T.1 0) (T.2 0)) p0 r).1 ∧ (tPa (tS (T.1 0) (T.2 0)) p0 r).1 < 9) := tPk_in h h0 h1 9 0 p0 r (by omega) (by omega) h1 h2
/-- the text is parsed from place p on, cc commands found: the error or -1, the number of commands, the place, the kinds, the numbers -/
def tPs (L : Int) (tx : Int → Int) : Nat → Int → Int → (Int → Int) → (Int → Int → Int) → Int × Int × Int × (Int → Int) × (Int → Int → Int)
  | 0, cc, p, K, M => (p, cc, p, K, M)
  | n + 1, cc, p, K, M =>
    if 0 ≤ (tPa tx p (M cc)).1 then
      (if tx (tPa tx p (M cc)).2.1 = 59 then tPs L tx n (cc + 1) ((tPa tx p (M cc)).2.1 + 1) (eU K cc (tPa tx p (M cc)).1) (tU M cc (tPa tx p (M cc)).2.2)
       else (if L ≤ (tPa tx p (M cc)).2.1 then -1 else (tPa tx p (M cc)).2.1, cc + 1, (tPa tx p (M cc)).2.1, eU K cc (tPa tx p (M cc)).1, tU M cc (tPa tx p (M cc)).2.2))
    else ((tPa tx p (M cc)).2.1, cc, (tPa tx p (M cc)).2.1, K, tU M cc (tPa tx p (M cc)).2.2)
theorem tPs_s {L : Int} {tx : Int → Int} {cc p : Int} {K : Int → Int} {M : Int → Int → Int} (h : cc < 10) : tPs L tx (10 - cc).toNat cc p K M = (if 0 ≤ (tPa tx p (M cc)).1 then
      (if tx (tPa tx p (M cc)).2.1 = 59 then tPs L tx (10 - (cc + 1)).toNat (cc + 1) ((tPa tx p (M cc)).2.1 + 1) (eU K cc (tPa tx p (M cc)).1) (tU M cc (tPa tx p (M cc)).2.2)
       else (if L ≤ (tPa tx p (M cc)).2.1 then -1 else (tPa tx p (M cc)).2.1, cc + 1, (tPa tx p (M cc)).2.1, eU K cc (tPa tx p (M cc)).1, tU M cc (tPa tx p (M cc)).2.2))
    else ((tPa tx p (M cc)).2.1, cc, (tPa tx p (M cc)).2.1, K, tU M cc (tPa tx p (M cc)).2.2)) := by
  rw [show (10 - cc).toNat = (10 - (cc + 1)).toNat + 1 by omega]; rfl
theorem tPs_x {L : Int} {tx : Int → Int} {cc p : Int} {K : Int → Int} {M : Int → Int → Int} (h : cc < 10) (h1 : ¬ 0 ≤ (tPa tx p (M cc)).1) : tPs L tx (10 - cc).toNat cc p K M = ((tPa tx p (M cc)).2.1, cc, (tPa tx p (M cc)).2.1, K, tU M cc (tPa tx p (M cc)).2.2) := by rw [tPs_s h, if_neg h1]
theorem tPs_go {L : Int} {tx : Int → Int} {cc p : Int} {K : Int → Int} {M : Int → Int → Int} (h : cc < 10) (h1 : 0 ≤ (tPa tx p (M cc)).1) (h2 : tx (tPa tx p (M cc)).2.1 = 59) : tPs L tx (10 - cc).toNat cc p K M = tPs L tx (10 - (cc + 1)).toNat (cc + 1) ((tPa tx p (M cc)).2.1 + 1) (eU K cc (tPa tx p (M cc)).1) (tU M cc (tPa tx p (M cc)).2.2) := by rw [tPs_s h, if_pos h1, if_pos h2]
theorem tPs_e {L : Int} {tx : Int → Int} {cc p : Int} {K : Int → Int} {M : Int → Int → Int} (h : cc < 10) (h1 : 0 ≤ (tPa tx p (M cc)).1) (h2 : ¬ tx (tPa tx p (M cc)).2.1 = 59) : tPs L tx (10 - cc).toNat cc p K M = (if L ≤ (tPa tx p (M cc)).2.1 then -1 else (tPa tx p (M cc)).2.1, cc + 1, (tPa tx p (M cc)).2.1, eU K cc (tPa tx p (M cc)).1, tU M cc (tPa tx p (M cc)).2.2) := by rw [tPs_s h, if_pos h1, if_neg h2]
theorem tPs_0 {L : Int} {tx : Int → Int} {cc p : Int} {K : Int → Int} {M : Int → Int → Int} (h : 10 ≤ cc) : tPs L tx (10 - cc).toNat cc p K M = (p, cc, p, K, M) := by
  rw [show (10 - cc).toNat = 0 by omega]; rfl
def tPR (T : eFs) (M : Int → Int → Int) : Int × Int × Int × (Int → Int) × (Int → Int → Int) := tPs (T.1 0) (tS (T.1 0) (T.2 0)) ((10 : Int) - 0).toNat 0 0 (T.2 1) M
/-- the state behind a command, behind the text -/
def tCS (T : eFs) (K : Int → Int) (cc p : Int) : eFs := sS (sS (sR T 1 K) 1 cc) 2 p
def tPT (T : eFs) (c : Int) (z : Int × Int × (Int → Int)) : eFs := if 0 ≤ z.1 then sS (sA T 1 c z.1) 2 z.2.1 else sS T 2 z.2.1
theorem okT_cs {T : eFs} {M MM : Int → Int → Int} {K : Int → Int} {cc p : Int} (h : okT T M) (h1 : 0 ≤ cc ∧ cc ≤ 10) (h2 : 0 ≤ p ∧ p ≤ T.1 0) (h3 : ∀ j, 0 ≤ K j ∧ K j ≤ 8) (h4 : ∀ c j, 0 ≤ MM c j ∧ MM c j ≤ 99) : okT (tCS T K cc p) MM := ⟨h.1, h1, (show 0 ≤ p ∧ p ≤ 60 by have := h.1.2; omega), h.2.2.2.1, h3, h4⟩
theorem tU_in {M : Int → Int → Int} {c : Int} {r : Int → Int} (h : ∀ c j, 0 ≤ M c j ∧ M c j ≤ 99) (h2 : ∀ j, 0 ≤ r j ∧ r j ≤ 99) (c2 j : Int) : 0 ≤ tU M c r c2 j ∧ tU M c r c2 j ≤ 99 := by
  unfold tU
  split
  · exact h2 j
  · exact h c2 j

theorem C_X1_isFull {X : eXT} {a : Nat → Nat} {T : eFs} {M : Int → Int → Int} (hT : okT T M)  :
    EM X mX1_isFull (eRm 0) a [.ref (a 0)] (wTx a T M) (eRet (some (vb (60 ≤ T.1 0))) a (wTx a T M)) := by
  refine EM.of (by decide +kernel) rfl (Nat.le_of_ble_eq_true rfl) ?_
  have hT0 := hT
  obtain ⟨hl, hcm, hp, rx, rk, rn⟩ := hT
  refine e_aload_n dX1_isFull_0 rfl rfl ?_
  refine e_getfield fd_X1_15 dX1_isFull_1 rfl rfl rfl rfl ?_
  refine e_bipush dX1_isFull_4 rfl rfl ?_
  refine e_icmp_lt (t := 13) dX1_isFull_6 rfl rfl (by omega) (by omega) (fun h6 => ?_) (fun h6 => ?_)
  · refine e_iconst dX1_isFull_13 rfl ?_
    exact e_iret dX1_isFull_14 rfl (by decide) (eRet_f (by omega) rfl)
  · refine e_iconst dX1_isFull_9 rfl ?_
    refine e_goto (n := 14) dX1_isFull_10 rfl ?_
    exact e_iret dX1_isFull_14 rfl (by decide) (eRet_t (by omega) rfl)
theorem C_X1_clear {X : eXT} {a : Nat → Nat} {T : eFs} {M : Int → Int → Int}  :
    EM X mX1_clear (eRm 0) a [.ref (a 0)] (wTx a T M) (eRet none a (wTx a (sS T 0 0) M)) := by
  refine EM.of (by decide +kernel) rfl (Nat.le_of_ble_eq_true rfl) ?_
  refine e_aload_n dX1_clear_0 rfl rfl ?_
  refine e_iconst dX1_clear_1 rfl ?_
  refine e_putfield fd_X1_15 dX1_clear_2 rfl rfl rfl (Nat.le_of_ble_eq_true rfl) rfl rfl ?_
  exact e_vret dX1_clear_5 rfl (eRet_v rfl)
theorem C_X1_put {X : eXT} {a : Nat → Nat} {T : eFs} {M : Int → Int → Int} (hT : okT T M) {c : Int} (hc : 32 ≤ c ∧ c ≤ 126) (hn : T.1 0 < 60) :
    EM X mX1_put (eRm 1) a [.ref (a 0), vi c] (wTx a T M) (eRet (some (vi (T.1 0 + 1))) a (wTx a (sS (sA T 0 (T.1 0) c) 0 (T.1 0 + 1)) M)) := by
  refine EM.of (by decide +kernel) rfl (Nat.le_of_ble_eq_true rfl) ?_
  have hT0 := hT
  obtain ⟨hl, hcm, hp, rx, rk, rn⟩ := hT
  refine e_aload_n dX1_put_0 rfl rfl ?_
  refine e_cV0 [0, 1, 2, 3, 4, 5, 6, 7, 8, 9, 10, 11, 12, 13] lk_X1_34 rfl dX1_put_1 rfl (C_X1_isFull hT0) rfl rfl (Nat.le_of_ble_eq_true rfl) (Nat.le_of_ble_eq_true rfl) (Nat.le_of_ble_eq_true rfl) ⟨rfl, rfl⟩ rfl rfl rfl rfl rfl rfl  ?_
  refine e_ifb_ne (t := 27) dX1_put_4 rfl rfl (fun h4 => ?_) (fun h4 => ?_)
  · exfalso; omega
  · refine e_aload_n dX1_put_7 rfl rfl ?_
    refine e_getfield fd_X1_9 dX1_put_8 rfl rfl rfl rfl ?_
    refine e_aload_n dX1_put_11 rfl rfl ?_
    refine e_getfield fd_X1_15 dX1_put_12 rfl rfl rfl rfl ?_
    refine e_iload_n dX1_put_15 rfl rfl ?_
    refine e_castore dX1_put_16 rfl rfl rfl (by omega) (by decide) (by omega) ?_
    refine e_aload_n dX1_put_17 rfl rfl ?_
    refine e_dup dX1_put_18 rfl rfl ?_
    refine e_getfield fd_X1_15 dX1_put_19 rfl rfl rfl rfl ?_
    refine e_iconst dX1_put_22 rfl ?_
    refine e_iadd dX1_put_23 rfl ?_
    refine e_putfield fd_X1_15 dX1_put_24 rfl rfl rfl (Nat.le_of_ble_eq_true rfl) rfl rfl ?_
    refine e_aload_n dX1_put_27 rfl rfl ?_
    refine e_getfield fd_X1_15 dX1_put_28 rfl rfl rfl rfl ?_
    exact e_iret dX1_put_31 rfl rfl (eRet_i (by omega) rfl)
theorem C_X1_kindOf {X : eXT} {a : Nat → Nat} {T : eFs} {M : Int → Int → Int} (hT : okT T M) {c : Int} (hc : 0 ≤ c ∧ c < T.1 1) :
    EM X mX1_kindOf (eRm 0) a [.ref (a 0), vi c] (wTx a T M) (eRet (some (vi (T.2 1 c))) a (wTx a T M)) := by
  refine EM.of (by decide +kernel) rfl (Nat.le_of_ble_eq_true rfl) ?_
  have hT0 := hT
  obtain ⟨hl, hcm, hp, rx, rk, rn⟩ := hT
  refine e_iload_n dX1_kindOf_0 rfl rfl ?_
  refine e_if_lt (t := 21) dX1_kindOf_1 rfl rfl (by omega) (fun h1 => ?_) (fun h1 => ?_)
  · exfalso; omega
  · refine e_iload_n dX1_kindOf_4 rfl rfl ?_
    refine e_aload_n dX1_kindOf_5 rfl rfl ?_
    refine e_getfield fd_X1_28 dX1_kindOf_6 rfl rfl rfl rfl ?_
    refine e_icmp_ge (t := 21) dX1_kindOf_9 rfl rfl (by omega) (by omega) (fun h9 => ?_) (fun h9 => ?_)
    · exfalso; omega
    · refine e_aload_n dX1_kindOf_12 rfl rfl ?_
      refine e_getfield fd_X1_19 dX1_kindOf_13 rfl rfl rfl rfl ?_
      refine e_iload_n dX1_kindOf_16 rfl rfl ?_
      refine e_iaload dX1_kindOf_17 rfl rfl rfl (by omega) (by decide) ?_
      refine e_goto (n := 22) dX1_kindOf_18 rfl ?_
      exact e_iret dX1_kindOf_22 rfl rfl (eRet_i (by omega) rfl)
theorem C_X1_number {X : eXT} {a : Nat → Nat} {T : eFs} {M : Int → Int → Int} (hT : okT T M) {c i : Int} (hc : 0 ≤ c ∧ c < T.1 1) (hi : 0 ≤ i ∧ i ≤ 2) :
    EM X mX1_number (eRm 0) a [.ref (a 0), vi c, vi i] (wTx a T M) (eRet (some (vi (M c i))) a (wTx a T M)) := by
  refine EM.of (by decide +kernel) rfl (Nat.le_of_ble_eq_true rfl) ?_
  have hT0 := hT
  obtain ⟨hl, hcm, hp, rx, rk, rn⟩ := hT
  refine e_iload_n dX1_number_0 rfl rfl ?_
  refine e_if_lt (t := 25) dX1_number_1 rfl rfl (by omega) (fun h1 => ?_) (fun h1 => ?_)
  · exfalso; omega
  · refine e_iload_n dX1_number_4 rfl rfl ?_
    refine e_aload_n dX1_number_5 rfl rfl ?_
    refine e_getfield fd_X1_28 dX1_number_6 rfl rfl rfl rfl ?_
    refine e_icmp_ge (t := 25) dX1_number_9 rfl rfl (by omega) (by omega) (fun h9 => ?_) (fun h9 => ?_)
    · exfalso; omega
    · refine e_iload_n dX1_number_12 rfl rfl ?_
      refine e_if_lt (t := 25) dX1_number_13 rfl rfl (by omega) (fun h13 => ?_) (fun h13 => ?_)
      · exfalso; omega
      · refine e_iload_n dX1_number_16 rfl rfl ?_
        refine e_iconst dX1_number_17 rfl ?_
        refine e_icmp_ge (t := 25) dX1_number_18 rfl rfl (by omega) (by omega) (fun h18 => ?_) (fun h18 => ?_)
        · exfalso; omega
        · refine e_iconst dX1_number_21 rfl ?_
          refine e_goto (n := 26) dX1_number_22 rfl ?_
          refine f_istore_n dX1_number_26 rfl (Nat.le_of_ble_eq_true rfl) rfl ?_
          refine e_iload_n dX1_number_27 rfl rfl ?_
          refine e_if_eq (t := 42) dX1_number_28 rfl rfl (by decide) (fun h => absurd h (by decide)) (fun _ => ?_)
          refine e_aload_n dX1_number_31 rfl rfl ?_
          refine e_getfield fd_X1_25 dX1_number_32 rfl rfl rfl rfl ?_
          refine e_iload_n dX1_number_35 rfl rfl ?_
          refine e_aaloadA dX1_number_36 rfl rfl rfl (by omega) (by decide) ?_
          refine EV.eq (st' := [.ref (a (4 + c.toNat))]) (congrArg (fun v => [va_rf v]) (tAd_at (by omega))) ?_
          refine e_iload_n dX1_number_37 rfl rfl ?_
          refine e_iaload (i := 4 + c.toNat) dX1_number_38 rfl rfl (wTx_row (by omega)) (by omega) (by decide) ?_
          refine e_goto (n := 43) dX1_number_39 rfl ?_
          exact e_iret dX1_number_43 rfl rfl (eRet_i rfl rfl)
theorem C_X1_isDigit {X : eXT} {a : Nat → Nat} {T : eFs} {M : Int → Int → Int} (hT : okT T M)  :
    EM X mX1_isDigit (eRm 0) a [.ref (a 0)] (wTx a T M) (eRet (some (vb (tDg (tS (T.1 0) (T.2 0) (T.1 2))))) a (wTx a T M)) := by
  refine EM.of (by decide +kernel) rfl (Nat.le_of_ble_eq_true rfl) ?_
  have hT0 := hT
  obtain ⟨hl, hcm, hp, rx, rk, rn⟩ := hT
  have w := tS_in (L := T.1 0) rx (T.1 2)
  have wx := rx (T.1 2)
  refine e_aload_n dX1_isDigit_0 rfl rfl ?_
  refine e_getfield fd_X1_31 dX1_isDigit_1 rfl rfl rfl rfl ?_
  refine e_aload_n dX1_isDigit_4 rfl rfl ?_
  refine e_getfield fd_X1_15 dX1_isDigit_5 rfl rfl rfl rfl ?_
  refine e_icmp_ge (t := 43) dX1_isDigit_8 rfl rfl (by omega) (by omega) (fun h8 => ?_) (fun h8 => ?_)
  · refine e_iconst dX1_isDigit_43 rfl ?_
    exact e_iret dX1_isDigit_44 rfl (by decide) (eRet_f (by omega) rfl)
  · refine e_aload_n dX1_isDigit_11 rfl rfl ?_
    refine e_getfield fd_X1_9 dX1_isDigit_12 rfl rfl rfl rfl ?_
    refine e_aload_n dX1_isDigit_15 rfl rfl ?_
    refine e_getfield fd_X1_31 dX1_isDigit_16 rfl rfl rfl rfl ?_
    refine e_caload dX1_isDigit_19 rfl rfl rfl (by omega) (by decide) ?_
    refine e_bipush dX1_isDigit_20 rfl rfl ?_
    refine e_icmp_lt (t := 43) dX1_isDigit_22 rfl rfl (by omega) (by omega) (fun h22 => ?_) (fun h22 => ?_)
    · refine e_iconst dX1_isDigit_43 rfl ?_
      exact e_iret dX1_isDigit_44 rfl (by decide) (eRet_f (by omega) rfl)
    · refine e_aload_n dX1_isDigit_25 rfl rfl ?_
      refine e_getfield fd_X1_9 dX1_isDigit_26 rfl rfl rfl rfl ?_
      refine e_aload_n dX1_isDigit_29 rfl rfl ?_
      refine e_getfield fd_X1_31 dX1_isDigit_30 rfl rfl rfl rfl ?_
      refine e_caload dX1_isDigit_33 rfl rfl rfl (by omega) (by decide) ?_
      refine e_bipush dX1_isDigit_34 rfl rfl ?_
      refine e_icmp_gt (t := 43) dX1_isDigit_36 rfl rfl (by omega) (by omega) (fun h36 => ?_) (fun h36 => ?_)
      · refine e_iconst dX1_isDigit_43 rfl ?_
        exact e_iret dX1_isDigit_44 rfl (by decide) (eRet_f (by omega) rfl)
      · refine e_iconst dX1_isDigit_39 rfl ?_
        refine e_goto (n := 44) dX1_isDigit_40 rfl ?_
        exact e_iret dX1_isDigit_44 rfl (by decide) (eRet_t (by omega) rfl)
theorem C_X1_isCharacter {X : eXT} {a : Nat → Nat} {T : eFs} {M : Int → Int → Int} (hT : okT T M) {c : Int} (hc : 0 ≤ c ∧ c ≤ 200) :
    EM X mX1_isCharacter (eRm 0) a [.ref (a 0), vi c] (wTx a T M) (eRet (some (vb (tS (T.1 0) (T.2 0) (T.1 2) = c))) a (wTx a T M)) := by
  refine EM.of (by decide +kernel) rfl (Nat.le_of_ble_eq_true rfl) ?_
  have hT0 := hT
  obtain ⟨hl, hcm, hp, rx, rk, rn⟩ := hT
  have w := tS_in (L := T.1 0) rx (T.1 2)
  have wx := rx (T.1 2)
  refine e_aload_n dX1_isCharacter_0 rfl rfl ?_
  refine e_getfield fd_X1_31 dX1_isCharacter_1 rfl rfl rfl rfl ?_
  refine e_aload_n dX1_isCharacter_4 rfl rfl ?_
  refine e_getfield fd_X1_15 dX1_isCharacter_5 rfl rfl rfl rfl ?_
  refine e_icmp_ge (t := 28) dX1_isCharacter_8 rfl rfl (by omega) (by omega) (fun h8 => ?_) (fun h8 => ?_)
  · refine e_iconst dX1_isCharacter_28 rfl ?_
    exact e_iret dX1_isCharacter_29 rfl (by decide) (eRet_f (by omega) rfl)
  · refine e_aload_n dX1_isCharacter_11 rfl rfl ?_
    refine e_getfield fd_X1_9 dX1_isCharacter_12 rfl rfl rfl rfl ?_
    refine e_aload_n dX1_isCharacter_15 rfl rfl ?_
    refine e_getfield fd_X1_31 dX1_isCharacter_16 rfl rfl rfl rfl ?_
    refine e_caload dX1_isCharacter_19 rfl rfl rfl (by omega) (by decide) ?_
    refine e_iload_n dX1_isCharacter_20 rfl rfl ?_
    refine e_icmp_ne (t := 28) dX1_isCharacter_21 rfl rfl (by omega) (by omega) (fun h21 => ?_) (fun h21 => ?_)
    · refine e_iconst dX1_isCharacter_28 rfl ?_
      exact e_iret dX1_isCharacter_29 rfl (by decide) (eRet_f (by omega) rfl)
    · refine e_iconst dX1_isCharacter_24 rfl ?_
      refine e_goto (n := 29) dX1_isCharacter_25 rfl ?_
      exact e_iret dX1_isCharacter_29 rfl (by decide) (eRet_t (by omega) rfl)
theorem C_X1_takeDigit {X : eXT} {a : Nat → Nat} {T : eFs} {M : Int → Int → Int} (hT : okT T M) (hd : tDg (tS (T.1 0) (T.2 0) (T.1 2))) :
    EM X mX1_takeDigit (eRm 1) a [.ref (a 0)] (wTx a T M) (eRet (some (vi (tS (T.1 0) (T.2 0) (T.1 2) - 48))) a (wTx a (sS T 2 (T.1 2 + 1)) M)) := by
  refine EM.of (by decide +kernel) rfl (Nat.le_of_ble_eq_true rfl) ?_
  have hT0 := hT
  obtain ⟨hl, hcm, hp, rx, rk, rn⟩ := hT
  have w := tS_in (L := T.1 0) rx (T.1 2)
  have wx := rx (T.1 2)
  refine e_aload_n dX1_takeDigit_0 rfl rfl ?_
  refine e_cV0 [0, 1, 2, 3, 4, 5, 6, 7, 8, 9, 10, 11, 12, 13] lk_X1_83 rfl dX1_takeDigit_1 rfl (C_X1_isDigit hT0) rfl rfl (Nat.le_of_ble_eq_true rfl) (Nat.le_of_ble_eq_true rfl) (Nat.le_of_ble_eq_true rfl) ⟨rfl, rfl⟩ rfl rfl rfl rfl rfl rfl  ?_
  refine e_ifb_eq (t := 22) dX1_takeDigit_4 rfl rfl (fun h4 => ?_) (fun h4 => ?_)
  · exact absurd hd h4
  · refine e_aload_n dX1_takeDigit_7 rfl rfl ?_
    refine e_getfield fd_X1_9 dX1_takeDigit_8 rfl rfl rfl rfl ?_
    refine e_aload_n dX1_takeDigit_11 rfl rfl ?_
    refine e_getfield fd_X1_31 dX1_takeDigit_12 rfl rfl rfl rfl ?_
    refine e_caload dX1_takeDigit_15 rfl rfl rfl (by omega) (by decide) ?_
    refine e_bipush dX1_takeDigit_16 rfl rfl ?_
    refine e_isub dX1_takeDigit_18 rfl ?_
    refine e_goto (n := 23) dX1_takeDigit_19 rfl ?_
    refine f_istore_n dX1_takeDigit_23 rfl (Nat.le_of_ble_eq_true rfl) rfl ?_
    refine e_aload_n dX1_takeDigit_24 rfl rfl ?_
    refine e_dup dX1_takeDigit_25 rfl rfl ?_
    refine e_getfield fd_X1_31 dX1_takeDigit_26 rfl rfl rfl rfl ?_
    refine e_iconst dX1_takeDigit_29 rfl ?_
    refine e_iadd dX1_takeDigit_30 rfl ?_
    refine e_putfield fd_X1_31 dX1_takeDigit_31 rfl rfl rfl (Nat.le_of_ble_eq_true rfl) rfl rfl ?_
    refine e_iload_n dX1_takeDigit_34 rfl rfl ?_
    exact e_iret dX1_takeDigit_35 rfl rfl (eRet_i (by omega) rfl)
theorem C_X1_takeNumber {X : eXT} {a : Nat → Nat} {T : eFs} {M : Int → Int → Int} (hT : okT T M) {two : Prop} [Decidable two] (hd : tDg (tS (T.1 0) (T.2 0) (T.1 2))) :
    EM X mX1_takeNumber (eRm 2) a [.ref (a 0), vb two] (wTx a T M) (eRet (some (vi (tNv (tS (T.1 0) (T.2 0)) two (T.1 2)))) a (wTx a (sS T 2 (tNp (tS (T.1 0) (T.2 0)) two (T.1 2))) M)) := by
  refine EM.of (by decide +kernel) rfl (Nat.le_of_ble_eq_true rfl) ?_
  have hT0 := hT
  obtain ⟨hl, hcm, hp, rx, rk, rn⟩ := hT
  have w := tS_in (L := T.1 0) rx (T.1 2)
  have wx := rx (T.1 2)
  refine e_aload_n dX1_takeNumber_0 rfl rfl ?_
  refine e_cV2 [0, 1, 2, 3, 4, 5, 6, 7, 8, 9, 10, 11, 12, 13] lk_X1_94 rfl dX1_takeNumber_1 rfl (C_X1_takeDigit hT0 hd) rfl rfl (Nat.le_of_ble_eq_true rfl) (Nat.le_of_ble_eq_true rfl) (Nat.le_of_ble_eq_true rfl) ⟨rfl, rfl⟩ rfl rfl rfl rfl rfl rfl rfl rfl ?_
  refine EV.ceq (cs' := wTx a (tCS T (T.2 1) (T.1 1) (T.1 2 + 1)) M) rfl ?_
  refine f_istore_n dX1_takeNumber_4 rfl (Nat.le_of_ble_eq_true rfl) rfl ?_
  refine e_iload_n dX1_takeNumber_5 rfl rfl ?_
  refine e_ifb_eq (t := 26) dX1_takeNumber_6 rfl rfl (fun h6 => ?_) (fun h6 => ?_)
  · refine e_iload_n dX1_takeNumber_26 rfl rfl ?_
    exact e_iret dX1_takeNumber_27 rfl rfl (eRet_i (by first | exact (tN_y (tx := tS (T.1 0) (T.2 0)) (p := T.1 2) h6 h13b).1.symm | exact (tN_n (tx := tS (T.1 0) (T.2 0)) (p := T.1 2) (fun q => h6 q.1)).1.symm | exact (tN_n (tx := tS (T.1 0) (T.2 0)) (p := T.1 2) (fun q => h13b q.2)).1.symm) (by first | (rw [(tN_y (tx := tS (T.1 0) (T.2 0)) (p := T.1 2) h6 h13b).2] <;> rfl) | (rw [(tN_n (tx := tS (T.1 0) (T.2 0)) (p := T.1 2) (fun q => h6 q.1)).2] <;> rfl) | (rw [(tN_n (tx := tS (T.1 0) (T.2 0)) (p := T.1 2) (fun q => h13b q.2)).2] <;> rfl)))
  · refine e_aload_n dX1_takeNumber_9 rfl rfl ?_
    refine e_cV0 [0, 1, 2, 3, 4, 5, 6, 7, 8, 9, 10, 11, 12, 13] lk_X1_83 rfl dX1_takeNumber_10 rfl (C_X1_isDigit (okT_cs (K := T.2 1) (cc := T.1 1) (p := T.1 2 + 1) hT0 (by omega) (by omega) rk rn)) rfl rfl (Nat.le_of_ble_eq_true rfl) (Nat.le_of_ble_eq_true rfl) (Nat.le_of_ble_eq_true rfl) ⟨rfl, rfl⟩ rfl rfl rfl rfl rfl rfl  ?_
    refine e_ifb_eq (t := 26) dX1_takeNumber_13 rfl rfl (fun h13 => ?_) (fun h13 => ?_)
    · have h13b : ¬ tDg (tS (T.1 0) (T.2 0) (T.1 2 + 1)) := h13
      refine e_iload_n dX1_takeNumber_26 rfl rfl ?_
      exact e_iret dX1_takeNumber_27 rfl rfl (eRet_i (by first | exact (tN_y (tx := tS (T.1 0) (T.2 0)) (p := T.1 2) h6 h13b).1.symm | exact (tN_n (tx := tS (T.1 0) (T.2 0)) (p := T.1 2) (fun q => h6 q.1)).1.symm | exact (tN_n (tx := tS (T.1 0) (T.2 0)) (p := T.1 2) (fun q => h13b q.2)).1.symm) (by first | (rw [(tN_y (tx := tS (T.1 0) (T.2 0)) (p := T.1 2) h6 h13b).2] <;> rfl) | (rw [(tN_n (tx := tS (T.1 0) (T.2 0)) (p := T.1 2) (fun q => h6 q.1)).2] <;> rfl) | (rw [(tN_n (tx := tS (T.1 0) (T.2 0)) (p := T.1 2) (fun q => h13b q.2)).2] <;> rfl)))
    · have h13b : tDg (tS (T.1 0) (T.2 0) (T.1 2 + 1)) := h13
      refine e_iload_n dX1_takeNumber_16 rfl rfl ?_
      refine e_bipush dX1_takeNumber_17 rfl rfl ?_
      refine e_imul dX1_takeNumber_19 rfl ?_
      refine e_aload_n dX1_takeNumber_20 rfl rfl ?_
      refine e_cV2 [0, 1, 2, 3, 4, 5, 6, 7, 8, 9, 10, 11, 12, 13] lk_X1_94 rfl dX1_takeNumber_21 rfl (C_X1_takeDigit (okT_cs (K := T.2 1) (cc := T.1 1) (p := T.1 2 + 1) hT0 (by omega) (by omega) rk rn) h13) rfl rfl (Nat.le_of_ble_eq_true rfl) (Nat.le_of_ble_eq_true rfl) (Nat.le_of_ble_eq_true rfl) ⟨rfl, rfl⟩ rfl rfl rfl rfl rfl rfl rfl rfl ?_
      refine EV.ceq (cs' := wTx a (tCS T (T.2 1) (T.1 1) (T.1 2 + 1 + 1)) M) rfl ?_
      refine e_iadd dX1_takeNumber_24 rfl ?_
      refine f_istore_n dX1_takeNumber_25 rfl (Nat.le_of_ble_eq_true rfl) rfl ?_
      refine e_iload_n dX1_takeNumber_26 rfl rfl ?_
      exact e_iret dX1_takeNumber_27 rfl rfl (eRet_i (by first | exact (tN_y (tx := tS (T.1 0) (T.2 0)) (p := T.1 2) h6 h13b).1.symm | exact (tN_n (tx := tS (T.1 0) (T.2 0)) (p := T.1 2) (fun q => h6 q.1)).1.symm | exact (tN_n (tx := tS (T.1 0) (T.2 0)) (p := T.1 2) (fun q => h13b q.2)).1.symm) (by first | (rw [(tN_y (tx := tS (T.1 0) (T.2 0)) (p := T.1 2) h6 h13b).2] <;> rfl) | (rw [(tN_n (tx := tS (T.1 0) (T.2 0)) (p := T.1 2) (fun q => h6 q.1)).2] <;> rfl) | (rw [(tN_n (tx := tS (T.1 0) (T.2 0)) (p := T.1 2) (fun q => h13b q.2)).2] <;> rfl)))
theorem C_X1_formOf0 {X : eXT} {a : Nat → Nat} : EM X mX1_formOf (eRm 0) a [vi 0] [] (eRet (some (.ref (X.1 27))) a []) := by
  refine EM.of (by decide +kernel) rfl (Nat.le_of_ble_eq_true rfl) ?_
  refine e_iload_n dX1_formOf_0 rfl rfl ?_
  refine e_tabIn (t := 48) dX1_formOf_1 (by decide) (by decide) (by decide) rfl rfl ?_
  refine e_ldcS (si := 27) rfl dX1_formOf_48 rfl ?_
  exact e_aret dX1_formOf_50 rfl ⟨rfl, rfl, rfl⟩

theorem C_X1_formOf1 {X : eXT} {a : Nat → Nat} : EM X mX1_formOf (eRm 0) a [vi 1] [] (eRet (some (.ref (X.1 28))) a []) := by
  refine EM.of (by decide +kernel) rfl (Nat.le_of_ble_eq_true rfl) ?_
  refine e_iload_n dX1_formOf_0 rfl rfl ?_
  refine e_tabIn (t := 51) dX1_formOf_1 (by decide) (by decide) (by decide) rfl rfl ?_
  refine e_ldcS (si := 28) rfl dX1_formOf_51 rfl ?_
  exact e_aret dX1_formOf_53 rfl ⟨rfl, rfl, rfl⟩

theorem C_X1_formOf2 {X : eXT} {a : Nat → Nat} : EM X mX1_formOf (eRm 0) a [vi 2] [] (eRet (some (.ref (X.1 29))) a []) := by
  refine EM.of (by decide +kernel) rfl (Nat.le_of_ble_eq_true rfl) ?_
  refine e_iload_n dX1_formOf_0 rfl rfl ?_
  refine e_tabIn (t := 54) dX1_formOf_1 (by decide) (by decide) (by decide) rfl rfl ?_
  refine e_ldcS (si := 29) rfl dX1_formOf_54 rfl ?_
  exact e_aret dX1_formOf_56 rfl ⟨rfl, rfl, rfl⟩

theorem C_X1_formOf3 {X : eXT} {a : Nat → Nat} : EM X mX1_formOf (eRm 0) a [vi 3] [] (eRet (some (.ref (X.1 30))) a []) := by
  refine EM.of (by decide +kernel) rfl (Nat.le_of_ble_eq_true rfl) ?_
  refine e_iload_n dX1_formOf_0 rfl rfl ?_
  refine e_tabIn (t := 57) dX1_formOf_1 (by decide) (by decide) (by decide) rfl rfl ?_
  refine e_ldcS (si := 30) rfl dX1_formOf_57 rfl ?_
  exact e_aret dX1_formOf_59 rfl ⟨rfl, rfl, rfl⟩

theorem C_X1_formOf4 {X : eXT} {a : Nat → Nat} : EM X mX1_formOf (eRm 0) a [vi 4] [] (eRet (some (.ref (X.1 31))) a []) := by
  refine EM.of (by decide +kernel) rfl (Nat.le_of_ble_eq_true rfl) ?_
  refine e_iload_n dX1_formOf_0 rfl rfl ?_
  refine e_tabIn (t := 60) dX1_formOf_1 (by decide) (by decide) (by decide) rfl rfl ?_
  refine e_ldcS (si := 31) rfl dX1_formOf_60 rfl ?_
  exact e_aret dX1_formOf_62 rfl ⟨rfl, rfl, rfl⟩

theorem C_X1_formOf5 {X : eXT} {a : Nat → Nat} : EM X mX1_formOf (eRm 0) a [vi 5] [] (eRet (some (.ref (X.1 32))) a []) := by
  refine EM.of (by decide +kernel) rfl (Nat.le_of_ble_eq_true rfl) ?_
  refine e_iload_n dX1_formOf_0 rfl rfl ?_
  refine e_tabIn (t := 63) dX1_formOf_1 (by decide) (by decide) (by decide) rfl rfl ?_
  refine e_ldcS (si := 32) rfl dX1_formOf_63 rfl ?_
  exact e_aret dX1_formOf_65 rfl ⟨rfl, rfl, rfl⟩

theorem C_X1_formOf6 {X : eXT} {a : Nat → Nat} : EM X mX1_formOf (eRm 0) a [vi 6] [] (eRet (some (.ref (X.1 33))) a []) := by
  refine EM.of (by decide +kernel) rfl (Nat.le_of_ble_eq_true rfl) ?_
  refine e_iload_n dX1_formOf_0 rfl rfl ?_
  refine e_tabIn (t := 66) dX1_formOf_1 (by decide) (by decide) (by decide) rfl rfl ?_
  refine e_ldcS (si := 33) rfl dX1_formOf_66 rfl ?_
  exact e_aret dX1_formOf_68 rfl ⟨rfl, rfl, rfl⟩

theorem C_X1_formOf7 {X : eXT} {a : Nat → Nat} : EM X mX1_formOf (eRm 0) a [vi 7] [] (eRet (some (.ref (X.1 34))) a []) := by
  refine EM.of (by decide +kernel) rfl (Nat.le_of_ble_eq_true rfl) ?_
  refine e_iload_n dX1_formOf_0 rfl rfl ?_
  refine e_tabIn (t := 69) dX1_formOf_1 (by decide) (by decide) (by decide) rfl rfl ?_
  refine e_ldcS (si := 34) rfl dX1_formOf_69 rfl ?_
  exact e_aret dX1_formOf_71 rfl ⟨rfl, rfl, rfl⟩

theorem C_X1_formOf8 {X : eXT} {a : Nat → Nat} : EM X mX1_formOf (eRm 0) a [vi 8] [] (eRet (some (.ref (X.1 35))) a []) := by
  refine EM.of (by decide +kernel) rfl (Nat.le_of_ble_eq_true rfl) ?_
  refine e_iload_n dX1_formOf_0 rfl rfl ?_
  refine e_tabOut (t := 72) dX1_formOf_1 (by decide) (by decide) rfl ?_
  refine e_ldcS (si := 35) rfl dX1_formOf_72 rfl ?_
  exact e_aret dX1_formOf_74 rfl ⟨rfl, rfl, rfl⟩

theorem C_X1_formOf {X : eXT} {a : Nat → Nat} {k : Int} (hk : 0 ≤ k ∧ k ≤ 8) : EM X mX1_formOf (eRm 0) a [vi k] [] (eRet (some (.ref (X.1 (27 + k.toNat)))) a []) := by
  rcases x9 hk with h | h | h | h | h | h | h | h | h <;> subst h
  · exact C_X1_formOf0
  · exact C_X1_formOf1
  · exact C_X1_formOf2
  · exact C_X1_formOf3
  · exact C_X1_formOf4
  · exact C_X1_formOf5
  · exact C_X1_formOf6
  · exact C_X1_formOf7
  · exact C_X1_formOf8

theorem C_X1_matches {X : eXT} {a : Nat → Nat} {T : eFs} {M : Int → Int → Int} (hT : okT T M) {k : Nat} {c p0 : Int} {r0 : Int → Int} (hk : k < 9) (hc : 0 ≤ c ∧ c < 10) (hp0 : 0 ≤ p0 ∧ p0 ≤ T.1 0) (hr0 : ∀ j, 0 ≤ r0 j ∧ r0 j ≤ 99) :
    EM X mX1_matches (eRm 5) a [.ref (a 0), .ref (X.1 (27 + k)), vi c] (wTx a (sS T 2 (p0)) (tU M c (r0))) (eRet (some (vb ((tMa (tS (T.1 0) (T.2 0)) k p0 r0).1 = true))) a (wTx a (sS T 2 ((tMa (tS (T.1 0) (T.2 0)) k p0 r0).2.1)) (tU M c ((tMa (tS (T.1 0) (T.2 0)) k p0 r0).2.2)))) := by
  refine EM.of (by decide +kernel) rfl (Nat.le_of_ble_eq_true rfl) ?_
  have hT0 := hT
  obtain ⟨hl, hcm, hp, rx, rk, rn⟩ := hT
  refine e_iconst dX1_matches_0 rfl ?_
  refine f_istore_n dX1_matches_1 rfl (Nat.le_of_ble_eq_true rfl) rfl ?_
  refine e_iconst dX1_matches_2 rfl ?_
  refine f_istore dX1_matches_3 rfl (Nat.le_of_ble_eq_true rfl) rfl ?_
  have hL5 : ∀ (k5 : Nat) (i p f : Int) (r : Int → Int) (hk5 : (fLn k - i).toNat = k5) (g5 : (0 ≤ i ∧ i ≤ fLn k) ∧ (0 ≤ p ∧ p ≤ T.1 0) ∧ 0 ≤ f ∧ f ≤ 3) (r5 : ∀ j, 0 ≤ r j ∧ r j ≤ 99) (e5 : tMa (tS (T.1 0) (T.2 0)) k p0 r0 = tMt (tS (T.1 0) (T.2 0)) k (fLn k - i).toNat i p f r), EV (mX1_matches, (eRm 5), eRet (some (vb ((tMa (tS (T.1 0) (T.2 0)) k p0 r0).1 = true))) a (wTx a (sS T 2 ((tMa (tS (T.1 0) (T.2 0)) k p0 r0).2.1)) (tU M c ((tMa (tS (T.1 0) (T.2 0)) k p0 r0).2.2))), X) a (0, 0) (wTx a (sS T 2 (p)) (tU M c (r))) 5 [some (.ref (a 0)), some (.ref (X.1 (27 + k))), some (vi c), some (vi f), some (vi i), none, none, none] [] := by
    intro k5
    induction k5 using Nat.strongRecOn with
    | _ k5 ih5 =>
    intro i p f r hk5 g5 r5 e5
    have u0 := fLn_in k hk
    have w := tS_in (L := T.1 0) rx p
    refine e_iload dX1_matches_5 rfl rfl ?_
    refine e_aload_n dX1_matches_7 rfl rfl ?_
    refine e_invVS (ρ := []) (cs0 := []) (v := vi (fLn k)) (av := []) (rest := [vi i]) hk lk_X1_74 rfl rfl dX1_matches_8 rfl (C_length hk) rfl rfl (Nat.le_of_ble_eq_true rfl) (Nat.le_of_ble_eq_true rfl) (Nat.le_of_ble_eq_true rfl) ⟨rfl, rfl⟩ rfl rfl ?_
    refine e_icmp_ge (t := 129) dX1_matches_11 rfl rfl (by omega) (by omega) (fun h11 => ?_) (fun h11 => ?_)
    · refine e_iconst dX1_matches_129 rfl ?_
      exact e_iret dX1_matches_130 rfl (by decide) (eRet_t (by rw [e5.trans (tMt_0 (by omega))]) (by first | (rw [show tMa (tS (T.1 0) (T.2 0)) k p0 r0 = (false, p, r) by (first | exact e5.trans (tMt_nx (by omega) (by omega) h52b) | exact e5.trans (tMt_cx (by omega) (by omega) h64b))]) | (rw [e5.trans (tMt_0 (by omega))])))
    · refine e_aload_n dX1_matches_14 rfl rfl ?_
      refine e_iload dX1_matches_15 rfl rfl ?_
      refine e_invVS (ρ := []) (cs0 := []) (v := vi (fCh k i)) (av := [vi i]) (rest := []) hk lk_X1_79 rfl rfl dX1_matches_17 rfl (C_charAt hk (by omega)) rfl rfl (Nat.le_of_ble_eq_true rfl) (Nat.le_of_ble_eq_true rfl) (Nat.le_of_ble_eq_true rfl) ⟨rfl, rfl⟩ rfl rfl ?_
      have u17 := fCh_in k hk i (by omega) (by omega)
      refine f_istore dX1_matches_20 rfl (Nat.le_of_ble_eq_true rfl) rfl ?_
      refine e_iload dX1_matches_22 rfl rfl ?_
      refine e_bipush dX1_matches_24 rfl rfl ?_
      refine e_icmp_eq (t := 36) dX1_matches_26 rfl rfl (by omega) (by omega) (fun h26 => ?_) (fun h26 => ?_)
      · refine e_iconst dX1_matches_36 rfl ?_
        refine e_goto (n := 41) dX1_matches_37 rfl ?_
        refine f_istore dX1_matches_41 rfl (Nat.le_of_ble_eq_true rfl) rfl ?_
        refine e_iload dX1_matches_43 rfl rfl ?_
        refine e_if_eq (t := 58) dX1_matches_45 rfl rfl (by decide) (fun h => absurd h (by decide)) (fun _ => ?_)
        refine e_aload_n dX1_matches_48 rfl rfl ?_
        refine e_cV0 [0, 1, 2, 3, 4, 5, 6, 7, 8, 9, 10, 11, 12, 13] lk_X1_83 rfl dX1_matches_49 rfl (C_X1_isDigit (okT_cs (K := T.2 1) (cc := T.1 1) (p := p) (MM := tU M c r) hT0 (by omega) (by omega) rk (tU_in rn r5))) rfl rfl (Nat.le_of_ble_eq_true rfl) (Nat.le_of_ble_eq_true rfl) (Nat.le_of_ble_eq_true rfl) ⟨rfl, rfl⟩ rfl rfl rfl rfl rfl rfl  ?_
        refine e_ifb_ne (t := 69) dX1_matches_52 rfl rfl (fun h52 => ?_) (fun h52 => ?_)
        · have h52b : tDg (tS (T.1 0) (T.2 0) p) := h52
          refine e_iload dX1_matches_69 rfl rfl ?_
          refine e_if_eq (t := 113) dX1_matches_71 rfl rfl (by decide) (fun h => absurd h (by decide)) (fun _ => ?_)
          refine e_aload_n dX1_matches_74 rfl rfl ?_
          refine e_iload dX1_matches_75 rfl rfl ?_
          refine e_bipush dX1_matches_77 rfl rfl ?_
          refine e_icmp_ne (t := 86) dX1_matches_79 rfl rfl (by omega) (by omega) (fun h79 => ?_) (fun h79 => ?_)
          · refine e_iconst dX1_matches_86 rfl ?_
            refine e_cV2 [0, 1, 2, 3, 4, 5, 6, 7, 8, 9, 10, 11, 12, 13] lk_X1_90 rfl dX1_matches_87 rfl (C_X1_takeNumber (two := False) (okT_cs (K := T.2 1) (cc := T.1 1) (p := p) (MM := tU M c r) hT0 (by omega) (by omega) rk (tU_in rn r5)) h52b) rfl rfl (Nat.le_of_ble_eq_true rfl) (Nat.le_of_ble_eq_true rfl) (Nat.le_of_ble_eq_true rfl) ⟨rfl, rfl⟩ rfl rfl rfl rfl rfl rfl rfl rfl ?_
            have e87 := tNv_c (tx := tS (T.1 0) (T.2 0)) (two := fCh k i = 37) (t2 := False) (p := p) ⟨fun q => by omega, fun q => q.elim⟩
            have n87 := tNp_in (two := fCh k i = 37) hT0 (by omega) h52b
            have v87 := tNv_in (two := fCh k i = 37) h52b
            refine EV.ceq (cs' := wTx a (sS T 2 (tNp (tS (T.1 0) (T.2 0)) (fCh k i = 37) p)) (tU M c (r))) (by rw [e87.2] <;> rfl) ?_
            refine EV.eq (st' := [vi (tNv (tS (T.1 0) (T.2 0)) (fCh k i = 37) p)]) (by rw [e87.1] <;> rfl) ?_
            
            refine f_istore dX1_matches_90 rfl (Nat.le_of_ble_eq_true rfl) rfl ?_
            refine e_iload_n dX1_matches_92 rfl rfl ?_
            refine e_iconst dX1_matches_93 rfl ?_
            refine e_icmp_ge (t := 110) dX1_matches_94 rfl rfl (by omega) (by omega) (fun h94 => ?_) (fun h94 => ?_)
            · refine e_goto (n := 123) dX1_matches_110 rfl ?_
              refine f_iinc dX1_matches_123 rfl rfl (Nat.le_of_ble_eq_true rfl) rfl ?_
              refine e_goto (n := 5) dX1_matches_126 rfl ?_
              refine EV.fgt 5 ?_
              refine EV.fgt 6 ?_
              refine EV.fgt 7 ?_
              exact ih5 _ (by omega) (i + 1) _ f r rfl (by omega) r5 (e5.trans (tMt_n4 (by omega) (by omega) h52b (by omega)))
            · refine e_aload_n dX1_matches_97 rfl rfl ?_
              refine e_getfield fd_X1_25 dX1_matches_98 rfl rfl rfl rfl ?_
              refine e_iload_n dX1_matches_101 rfl rfl ?_
              refine e_aaloadA dX1_matches_102 rfl rfl rfl (by omega) (by decide) ?_
              refine EV.eq (st' := [.ref (a (4 + c.toNat))]) (congrArg (fun v => [va_rf v]) (tAd_at (by omega))) ?_
              refine e_iload_n dX1_matches_103 rfl rfl ?_
              refine e_iload dX1_matches_104 rfl rfl ?_
              refine e_iastore (i := 4 + c.toNat) dX1_matches_106 rfl rfl (wTx_row hc) (by omega) (by decide) ?_
              refine EV.ceq (cs' := wTx a (sS T 2 (tNp (tS (T.1 0) (T.2 0)) (fCh k i = 37) p)) (tU M c (eU r f (tNv (tS (T.1 0) (T.2 0)) (fCh k i = 37) p)))) (by rw [wTx_set hc, tU_tU, tU_self]) ?_
              refine f_iinc dX1_matches_107 rfl rfl (Nat.le_of_ble_eq_true rfl) rfl ?_
              refine e_goto (n := 123) dX1_matches_110 rfl ?_
              refine f_iinc dX1_matches_123 rfl rfl (Nat.le_of_ble_eq_true rfl) rfl ?_
              refine e_goto (n := 5) dX1_matches_126 rfl ?_
              refine EV.fgt 5 ?_
              refine EV.fgt 6 ?_
              refine EV.fgt 7 ?_
              exact ih5 _ (by omega) (i + 1) _ (f + 1) _ rfl (by omega) (fun j => eU_b r5 (by omega) j) (e5.trans (tMt_n3 (by omega) (by omega) h52b (by omega)))
          · refine e_iconst dX1_matches_82 rfl ?_
            refine e_goto (n := 87) dX1_matches_83 rfl ?_
            refine e_cV2 [0, 1, 2, 3, 4, 5, 6, 7, 8, 9, 10, 11, 12, 13] lk_X1_90 rfl dX1_matches_87 rfl (C_X1_takeNumber (two := True) (okT_cs (K := T.2 1) (cc := T.1 1) (p := p) (MM := tU M c r) hT0 (by omega) (by omega) rk (tU_in rn r5)) h52b) rfl rfl (Nat.le_of_ble_eq_true rfl) (Nat.le_of_ble_eq_true rfl) (Nat.le_of_ble_eq_true rfl) ⟨rfl, rfl⟩ rfl rfl rfl rfl rfl rfl rfl rfl ?_
            have e87 := tNv_c (tx := tS (T.1 0) (T.2 0)) (two := fCh k i = 37) (t2 := True) (p := p) ⟨fun _ => trivial, fun _ => by omega⟩
            have n87 := tNp_in (two := fCh k i = 37) hT0 (by omega) h52b
            have v87 := tNv_in (two := fCh k i = 37) h52b
            refine EV.ceq (cs' := wTx a (sS T 2 (tNp (tS (T.1 0) (T.2 0)) (fCh k i = 37) p)) (tU M c (r))) (by rw [e87.2] <;> rfl) ?_
            refine EV.eq (st' := [vi (tNv (tS (T.1 0) (T.2 0)) (fCh k i = 37) p)]) (by rw [e87.1] <;> rfl) ?_
            
            refine f_istore dX1_matches_90 rfl (Nat.le_of_ble_eq_true rfl) rfl ?_
            refine e_iload_n dX1_matches_92 rfl rfl ?_
            refine e_iconst dX1_matches_93 rfl ?_
            refine e_icmp_ge (t := 110) dX1_matches_94 rfl rfl (by omega) (by omega) (fun h94 => ?_) (fun h94 => ?_)
            · refine e_goto (n := 123) dX1_matches_110 rfl ?_
              refine f_iinc dX1_matches_123 rfl rfl (Nat.le_of_ble_eq_true rfl) rfl ?_
              refine e_goto (n := 5) dX1_matches_126 rfl ?_
              refine EV.fgt 5 ?_
              refine EV.fgt 6 ?_
              refine EV.fgt 7 ?_
              exact ih5 _ (by omega) (i + 1) _ f r rfl (by omega) r5 (e5.trans (tMt_n4 (by omega) (by omega) h52b (by omega)))
            · refine e_aload_n dX1_matches_97 rfl rfl ?_
              refine e_getfield fd_X1_25 dX1_matches_98 rfl rfl rfl rfl ?_
              refine e_iload_n dX1_matches_101 rfl rfl ?_
              refine e_aaloadA dX1_matches_102 rfl rfl rfl (by omega) (by decide) ?_
              refine EV.eq (st' := [.ref (a (4 + c.toNat))]) (congrArg (fun v => [va_rf v]) (tAd_at (by omega))) ?_
              refine e_iload_n dX1_matches_103 rfl rfl ?_
              refine e_iload dX1_matches_104 rfl rfl ?_
              refine e_iastore (i := 4 + c.toNat) dX1_matches_106 rfl rfl (wTx_row hc) (by omega) (by decide) ?_
              refine EV.ceq (cs' := wTx a (sS T 2 (tNp (tS (T.1 0) (T.2 0)) (fCh k i = 37) p)) (tU M c (eU r f (tNv (tS (T.1 0) (T.2 0)) (fCh k i = 37) p)))) (by rw [wTx_set hc, tU_tU, tU_self]) ?_
              refine f_iinc dX1_matches_107 rfl rfl (Nat.le_of_ble_eq_true rfl) rfl ?_
              refine e_goto (n := 123) dX1_matches_110 rfl ?_
              refine f_iinc dX1_matches_123 rfl rfl (Nat.le_of_ble_eq_true rfl) rfl ?_
              refine e_goto (n := 5) dX1_matches_126 rfl ?_
              refine EV.fgt 5 ?_
              refine EV.fgt 6 ?_
              refine EV.fgt 7 ?_
              exact ih5 _ (by omega) (i + 1) _ (f + 1) _ rfl (by omega) (fun j => eU_b r5 (by omega) j) (e5.trans (tMt_n3 (by omega) (by omega) h52b (by omega)))
        · have h52b : ¬ tDg (tS (T.1 0) (T.2 0) p) := h52
          refine e_goto (n := 67) dX1_matches_55 rfl ?_
          refine e_iconst dX1_matches_67 rfl ?_
          exact e_iret dX1_matches_68 rfl (by decide) (eRet_f (by rw [show tMa (tS (T.1 0) (T.2 0)) k p0 r0 = (false, p, r) by (first | exact e5.trans (tMt_nx (by omega) (by omega) h52b) | exact e5.trans (tMt_cx (by omega) (by omega) h64b))]; exact Bool.false_ne_true) (by first | (rw [show tMa (tS (T.1 0) (T.2 0)) k p0 r0 = (false, p, r) by (first | exact e5.trans (tMt_nx (by omega) (by omega) h52b) | exact e5.trans (tMt_cx (by omega) (by omega) h64b))]) | (rw [e5.trans (tMt_0 (by omega))])))
      · refine e_iload dX1_matches_29 rfl rfl ?_
        refine e_bipush dX1_matches_31 rfl rfl ?_
        refine e_icmp_ne (t := 40) dX1_matches_33 rfl rfl (by omega) (by omega) (fun h33 => ?_) (fun h33 => ?_)
        · refine e_iconst dX1_matches_40 rfl ?_
          refine f_istore dX1_matches_41 rfl (Nat.le_of_ble_eq_true rfl) rfl ?_
          refine e_iload dX1_matches_43 rfl rfl ?_
          refine e_if_eq (t := 58) dX1_matches_45 rfl rfl (by decide) (fun _ => ?_) (fun h => absurd h (by decide))
          refine e_aload_n dX1_matches_58 rfl rfl ?_
          refine e_iload dX1_matches_59 rfl rfl ?_
          refine e_cV0 [0, 1, 2, 3, 4, 5, 6, 7, 8, 9, 10, 11, 12, 13] lk_X1_86 rfl dX1_matches_61 rfl (C_X1_isCharacter (okT_cs (K := T.2 1) (cc := T.1 1) (p := p) (MM := tU M c r) hT0 (by omega) (by omega) rk (tU_in rn r5)) (by omega)) rfl rfl (Nat.le_of_ble_eq_true rfl) (Nat.le_of_ble_eq_true rfl) (Nat.le_of_ble_eq_true rfl) ⟨rfl, rfl⟩ rfl rfl rfl rfl rfl rfl  ?_
          refine e_ifb_ne (t := 69) dX1_matches_64 rfl rfl (fun h64 => ?_) (fun h64 => ?_)
          · have h64b : tS (T.1 0) (T.2 0) p = fCh k i := h64
            refine e_iload dX1_matches_69 rfl rfl ?_
            refine e_if_eq (t := 113) dX1_matches_71 rfl rfl (by decide) (fun _ => ?_) (fun h => absurd h (by decide))
            refine e_aload_n dX1_matches_113 rfl rfl ?_
            refine e_dup dX1_matches_114 rfl rfl ?_
            refine e_getfield fd_X1_31 dX1_matches_115 rfl rfl rfl rfl ?_
            refine e_iconst dX1_matches_118 rfl ?_
            refine e_iadd dX1_matches_119 rfl ?_
            refine e_putfield fd_X1_31 dX1_matches_120 rfl rfl rfl (Nat.le_of_ble_eq_true rfl) rfl rfl ?_
            refine f_iinc dX1_matches_123 rfl rfl (Nat.le_of_ble_eq_true rfl) rfl ?_
            refine e_goto (n := 5) dX1_matches_126 rfl ?_
            refine EV.fgt 5 ?_
            refine EV.fgt 6 ?_
            refine EV.fgt 7 ?_
            exact ih5 _ (by omega) (i + 1) (p + 1) f r rfl (by omega) r5 (e5.trans (tMt_c (by omega) (by omega) h64b))
          · have h64b : ¬ tS (T.1 0) (T.2 0) p = fCh k i := h64
            refine e_iconst dX1_matches_67 rfl ?_
            exact e_iret dX1_matches_68 rfl (by decide) (eRet_f (by rw [show tMa (tS (T.1 0) (T.2 0)) k p0 r0 = (false, p, r) by (first | exact e5.trans (tMt_nx (by omega) (by omega) h52b) | exact e5.trans (tMt_cx (by omega) (by omega) h64b))]; exact Bool.false_ne_true) (by first | (rw [show tMa (tS (T.1 0) (T.2 0)) k p0 r0 = (false, p, r) by (first | exact e5.trans (tMt_nx (by omega) (by omega) h52b) | exact e5.trans (tMt_cx (by omega) (by omega) h64b))]) | (rw [e5.trans (tMt_0 (by omega))])))
        · refine e_iconst dX1_matches_36 rfl ?_
          refine e_goto (n := 41) dX1_matches_37 rfl ?_
          refine f_istore dX1_matches_41 rfl (Nat.le_of_ble_eq_true rfl) rfl ?_
          refine e_iload dX1_matches_43 rfl rfl ?_
          refine e_if_eq (t := 58) dX1_matches_45 rfl rfl (by decide) (fun h => absurd h (by decide)) (fun _ => ?_)
          refine e_aload_n dX1_matches_48 rfl rfl ?_
          refine e_cV0 [0, 1, 2, 3, 4, 5, 6, 7, 8, 9, 10, 11, 12, 13] lk_X1_83 rfl dX1_matches_49 rfl (C_X1_isDigit (okT_cs (K := T.2 1) (cc := T.1 1) (p := p) (MM := tU M c r) hT0 (by omega) (by omega) rk (tU_in rn r5))) rfl rfl (Nat.le_of_ble_eq_true rfl) (Nat.le_of_ble_eq_true rfl) (Nat.le_of_ble_eq_true rfl) ⟨rfl, rfl⟩ rfl rfl rfl rfl rfl rfl  ?_
          refine e_ifb_ne (t := 69) dX1_matches_52 rfl rfl (fun h52 => ?_) (fun h52 => ?_)
          · have h52b : tDg (tS (T.1 0) (T.2 0) p) := h52
            refine e_iload dX1_matches_69 rfl rfl ?_
            refine e_if_eq (t := 113) dX1_matches_71 rfl rfl (by decide) (fun h => absurd h (by decide)) (fun _ => ?_)
            refine e_aload_n dX1_matches_74 rfl rfl ?_
            refine e_iload dX1_matches_75 rfl rfl ?_
            refine e_bipush dX1_matches_77 rfl rfl ?_
            refine e_icmp_ne (t := 86) dX1_matches_79 rfl rfl (by omega) (by omega) (fun h79 => ?_) (fun h79 => ?_)
            · refine e_iconst dX1_matches_86 rfl ?_
              refine e_cV2 [0, 1, 2, 3, 4, 5, 6, 7, 8, 9, 10, 11, 12, 13] lk_X1_90 rfl dX1_matches_87 rfl (C_X1_takeNumber (two := False) (okT_cs (K := T.2 1) (cc := T.1 1) (p := p) (MM := tU M c r) hT0 (by omega) (by omega) rk (tU_in rn r5)) h52b) rfl rfl (Nat.le_of_ble_eq_true rfl) (Nat.le_of_ble_eq_true rfl) (Nat.le_of_ble_eq_true rfl) ⟨rfl, rfl⟩ rfl rfl rfl rfl rfl rfl rfl rfl ?_
              have e87 := tNv_c (tx := tS (T.1 0) (T.2 0)) (two := fCh k i = 37) (t2 := False) (p := p) ⟨fun q => by omega, fun q => q.elim⟩
              have n87 := tNp_in (two := fCh k i = 37) hT0 (by omega) h52b
              have v87 := tNv_in (two := fCh k i = 37) h52b
              refine EV.ceq (cs' := wTx a (sS T 2 (tNp (tS (T.1 0) (T.2 0)) (fCh k i = 37) p)) (tU M c (r))) (by rw [e87.2] <;> rfl) ?_
              refine EV.eq (st' := [vi (tNv (tS (T.1 0) (T.2 0)) (fCh k i = 37) p)]) (by rw [e87.1] <;> rfl) ?_
              
              refine f_istore dX1_matches_90 rfl (Nat.le_of_ble_eq_true rfl) rfl ?_
              refine e_iload_n dX1_matches_92 rfl rfl ?_
              refine e_iconst dX1_matches_93 rfl ?_
              refine e_icmp_ge (t := 110) dX1_matches_94 rfl rfl (by omega) (by omega) (fun h94 => ?_) (fun h94 => ?_)
              · refine e_goto (n := 123) dX1_matches_110 rfl ?_
                refine f_iinc dX1_matches_123 rfl rfl (Nat.le_of_ble_eq_true rfl) rfl ?_
                refine e_goto (n := 5) dX1_matches_126 rfl ?_
                refine EV.fgt 5 ?_
                refine EV.fgt 6 ?_
                refine EV.fgt 7 ?_
                exact ih5 _ (by omega) (i + 1) _ f r rfl (by omega) r5 (e5.trans (tMt_n4 (by omega) (by omega) h52b (by omega)))
              · refine e_aload_n dX1_matches_97 rfl rfl ?_
                refine e_getfield fd_X1_25 dX1_matches_98 rfl rfl rfl rfl ?_
                refine e_iload_n dX1_matches_101 rfl rfl ?_
                refine e_aaloadA dX1_matches_102 rfl rfl rfl (by omega) (by decide) ?_
                refine EV.eq (st' := [.ref (a (4 + c.toNat))]) (congrArg (fun v => [va_rf v]) (tAd_at (by omega))) ?_
                refine e_iload_n dX1_matches_103 rfl rfl ?_
                refine e_iload dX1_matches_104 rfl rfl ?_
                refine e_iastore (i := 4 + c.toNat) dX1_matches_106 rfl rfl (wTx_row hc) (by omega) (by decide) ?_
                refine EV.ceq (cs' := wTx a (sS T 2 (tNp (tS (T.1 0) (T.2 0)) (fCh k i = 37) p)) (tU M c (eU r f (tNv (tS (T.1 0) (T.2 0)) (fCh k i = 37) p)))) (by rw [wTx_set hc, tU_tU, tU_self]) ?_
                refine f_iinc dX1_matches_107 rfl rfl (Nat.le_of_ble_eq_true rfl) rfl ?_
                refine e_goto (n := 123) dX1_matches_110 rfl ?_
                refine f_iinc dX1_matches_123 rfl rfl (Nat.le_of_ble_eq_true rfl) rfl ?_
                refine e_goto (n := 5) dX1_matches_126 rfl ?_
                refine EV.fgt 5 ?_
                refine EV.fgt 6 ?_
                refine EV.fgt 7 ?_
                exact ih5 _ (by omega) (i + 1) _ (f + 1) _ rfl (by omega) (fun j => eU_b r5 (by omega) j) (e5.trans (tMt_n3 (by omega) (by omega) h52b (by omega)))
            · refine e_iconst dX1_matches_82 rfl ?_
              refine e_goto (n := 87) dX1_matches_83 rfl ?_
              refine e_cV2 [0, 1, 2, 3, 4, 5, 6, 7, 8, 9, 10, 11, 12, 13] lk_X1_90 rfl dX1_matches_87 rfl (C_X1_takeNumber (two := True) (okT_cs (K := T.2 1) (cc := T.1 1) (p := p) (MM := tU M c r) hT0 (by omega) (by omega) rk (tU_in rn r5)) h52b) rfl rfl (Nat.le_of_ble_eq_true rfl) (Nat.le_of_ble_eq_true rfl) (Nat.le_of_ble_eq_true rfl) ⟨rfl, rfl⟩ rfl rfl rfl rfl rfl rfl rfl rfl ?_
              have e87 := tNv_c (tx := tS (T.1 0) (T.2 0)) (two := fCh k i = 37) (t2 := True) (p := p) ⟨fun _ => trivial, fun _ => by omega⟩
              have n87 := tNp_in (two := fCh k i = 37) hT0 (by omega) h52b
              have v87 := tNv_in (two := fCh k i = 37) h52b
              refine EV.ceq (cs' := wTx a (sS T 2 (tNp (tS (T.1 0) (T.2 0)) (fCh k i = 37) p)) (tU M c (r))) (by rw [e87.2] <;> rfl) ?_
              refine EV.eq (st' := [vi (tNv (tS (T.1 0) (T.2 0)) (fCh k i = 37) p)]) (by rw [e87.1] <;> rfl) ?_
              
              refine f_istore dX1_matches_90 rfl (Nat.le_of_ble_eq_true rfl) rfl ?_
              refine e_iload_n dX1_matches_92 rfl rfl ?_
              refine e_iconst dX1_matches_93 rfl ?_
              refine e_icmp_ge (t := 110) dX1_matches_94 rfl rfl (by omega) (by omega) (fun h94 => ?_) (fun h94 => ?_)
              · refine e_goto (n := 123) dX1_matches_110 rfl ?_
                refine f_iinc dX1_matches_123 rfl rfl (Nat.le_of_ble_eq_true rfl) rfl ?_
                refine e_goto (n := 5) dX1_matches_126 rfl ?_
                refine EV.fgt 5 ?_
                refine EV.fgt 6 ?_
                refine EV.fgt 7 ?_
                exact ih5 _ (by omega) (i + 1) _ f r rfl (by omega) r5 (e5.trans (tMt_n4 (by omega) (by omega) h52b (by omega)))
              · refine e_aload_n dX1_matches_97 rfl rfl ?_
                refine e_getfield fd_X1_25 dX1_matches_98 rfl rfl rfl rfl ?_
                refine e_iload_n dX1_matches_101 rfl rfl ?_
                refine e_aaloadA dX1_matches_102 rfl rfl rfl (by omega) (by decide) ?_
                refine EV.eq (st' := [.ref (a (4 + c.toNat))]) (congrArg (fun v => [va_rf v]) (tAd_at (by omega))) ?_
                refine e_iload_n dX1_matches_103 rfl rfl ?_
                refine e_iload dX1_matches_104 rfl rfl ?_
                refine e_iastore (i := 4 + c.toNat) dX1_matches_106 rfl rfl (wTx_row hc) (by omega) (by decide) ?_
                refine EV.ceq (cs' := wTx a (sS T 2 (tNp (tS (T.1 0) (T.2 0)) (fCh k i = 37) p)) (tU M c (eU r f (tNv (tS (T.1 0) (T.2 0)) (fCh k i = 37) p)))) (by rw [wTx_set hc, tU_tU, tU_self]) ?_
                refine f_iinc dX1_matches_107 rfl rfl (Nat.le_of_ble_eq_true rfl) rfl ?_
                refine e_goto (n := 123) dX1_matches_110 rfl ?_
                refine f_iinc dX1_matches_123 rfl rfl (Nat.le_of_ble_eq_true rfl) rfl ?_
                refine e_goto (n := 5) dX1_matches_126 rfl ?_
                refine EV.fgt 5 ?_
                refine EV.fgt 6 ?_
                refine EV.fgt 7 ?_
                exact ih5 _ (by omega) (i + 1) _ (f + 1) _ rfl (by omega) (fun j => eU_b r5 (by omega) j) (e5.trans (tMt_n3 (by omega) (by omega) h52b (by omega)))
          · have h52b : ¬ tDg (tS (T.1 0) (T.2 0) p) := h52
            refine e_goto (n := 67) dX1_matches_55 rfl ?_
            refine e_iconst dX1_matches_67 rfl ?_
            exact e_iret dX1_matches_68 rfl (by decide) (eRet_f (by rw [show tMa (tS (T.1 0) (T.2 0)) k p0 r0 = (false, p, r) by (first | exact e5.trans (tMt_nx (by omega) (by omega) h52b) | exact e5.trans (tMt_cx (by omega) (by omega) h64b))]; exact Bool.false_ne_true) (by first | (rw [show tMa (tS (T.1 0) (T.2 0)) k p0 r0 = (false, p, r) by (first | exact e5.trans (tMt_nx (by omega) (by omega) h52b) | exact e5.trans (tMt_cx (by omega) (by omega) h64b))]) | (rw [e5.trans (tMt_0 (by omega))])))
  refine EV.fgt 5 ?_
  refine EV.fgt 6 ?_
  refine EV.fgt 7 ?_
  have u0 := fLn_in k hk
  exact hL5 _ 0 p0 0 r0 rfl (by omega) hr0 rfl
theorem C_X1_parseCommand {X : eXT} {a : Nat → Nat} {T : eFs} {M : Int → Int → Int} (hT : okT T M) {c p0 : Int} {r0 : Int → Int} (hc : 0 ≤ c ∧ c < 10) (hp0 : 0 ≤ p0 ∧ p0 ≤ T.1 0) (hr0 : ∀ j, 0 ≤ r0 j ∧ r0 j ≤ 99) :
    EM X mX1_parseCommand (eRm 6) a [.ref (a 0), vi c] (wTx a (sS T 2 p0) (tU M c r0)) (eRet (some (vb (0 ≤ (tPa (tS (T.1 0) (T.2 0)) p0 r0).1))) a (wTx a (tPT T c (tPa (tS (T.1 0) (T.2 0)) p0 r0)) (tU M c (tPa (tS (T.1 0) (T.2 0)) p0 r0).2.2))) := by
  refine EM.of (by decide +kernel) rfl (Nat.le_of_ble_eq_true rfl) ?_
  have hT0 := hT
  obtain ⟨hl, hcm, hp, rx, rk, rn⟩ := hT
  refine e_aload_n dX1_parseCommand_0 rfl rfl ?_
  refine e_getfield fd_X1_31 dX1_parseCommand_1 rfl rfl rfl rfl ?_
  refine f_istore_n dX1_parseCommand_4 rfl (Nat.le_of_ble_eq_true rfl) rfl ?_
  refine e_iload_n dX1_parseCommand_5 rfl rfl ?_
  refine f_istore_n dX1_parseCommand_6 rfl (Nat.le_of_ble_eq_true rfl) rfl ?_
  refine e_iconst dX1_parseCommand_7 rfl ?_
  refine f_istore dX1_parseCommand_8 rfl (Nat.le_of_ble_eq_true rfl) rfl ?_
  have hL10 : ∀ (k10 : Nat) (k far q : Int) (r : Int → Int) (hk10 : (9 - k).toNat = k10) (g10 : (0 ≤ k ∧ k ≤ 9) ∧ (p0 ≤ far ∧ far ≤ T.1 0)) (r10 : ∀ j, 0 ≤ r j ∧ r j ≤ 99) (e10 : tPa (tS (T.1 0) (T.2 0)) p0 r0 = tPk (tS (T.1 0) (T.2 0)) p0 (9 - k).toNat k far r), EV (mX1_parseCommand, (eRm 6), eRet (some (vb (0 ≤ (tPa (tS (T.1 0) (T.2 0)) p0 r0).1))) a (wTx a (tPT T c (tPa (tS (T.1 0) (T.2 0)) p0 r0)) (tU M c (tPa (tS (T.1 0) (T.2 0)) p0 r0).2.2)), X) a (0, 0) (wTX a (T.1 0) (T.1 1) (q) (T.2 0) (T.2 1) (tU M c (r))) 10 [some (.ref (a 0)), some (vi c), some (vi p0), some (vi far), some (vi k)] [] := by
    intro k10
    induction k10 using Nat.strongRecOn with
    | _ k10 ih10 =>
    intro k far q r hk10 g10 r10 e10
    have m10 := tMa_in hT0 (k := k.toNat) (p := p0) (r := r) (by omega) (by omega) r10
    refine e_iload dX1_parseCommand_10 rfl rfl ?_
    refine e_bipush dX1_parseCommand_12 rfl rfl ?_
    refine e_icmp_ge (t := 60) dX1_parseCommand_14 rfl rfl (by omega) (by omega) (fun h14 => ?_) (fun h14 => ?_)
    · refine e_aload_n dX1_parseCommand_60 rfl rfl ?_
      refine e_iload_n dX1_parseCommand_61 rfl rfl ?_
      refine e_putfield fd_X1_31 dX1_parseCommand_62 rfl rfl rfl (Nat.le_of_ble_eq_true rfl) rfl rfl ?_
      refine e_iconst dX1_parseCommand_65 rfl ?_
      exact e_iret dX1_parseCommand_66 rfl (by decide) (eRet_f (by rw [e10.trans (tPk_0 (by omega))]; show ¬ (0 : Int) ≤ -1; omega) (by unfold tPT; first | (rw [(e10.trans (tPk_y (by omega) h32b)), if_pos (show 0 ≤ k by omega)] <;> rfl) | (rw [e10.trans (tPk_0 (by omega)), if_neg (show ¬ (0 : Int) ≤ -1 by omega)] <;> rfl)))
    · refine e_aload_n dX1_parseCommand_17 rfl rfl ?_
      refine e_iload_n dX1_parseCommand_18 rfl rfl ?_
      refine e_putfield fd_X1_31 dX1_parseCommand_19 rfl rfl rfl (Nat.le_of_ble_eq_true rfl) rfl rfl ?_
      refine e_aload_n dX1_parseCommand_22 rfl rfl ?_
      refine e_iload dX1_parseCommand_23 rfl rfl ?_
      refine EV.ceq (cs' := wTx a (sS T 2 p0) (tU M c r)) rfl ?_
      refine e_cS0 [] lk_X1_60 rfl dX1_parseCommand_25 rfl (C_X1_formOf (by omega)) rfl rfl (Nat.le_of_ble_eq_true rfl) (Nat.le_of_ble_eq_true rfl) (Nat.le_of_ble_eq_true rfl) ⟨rfl, rfl⟩ rfl rfl  ?_
      refine e_iload_n dX1_parseCommand_28 rfl rfl ?_
      refine e_cV2 [0, 1, 2, 3, 4, 5, 6, 7, 8, 9, 10, 11, 12, 13] lk_X1_64 rfl dX1_parseCommand_29 rfl (C_X1_matches (r0 := r) (p0 := p0) (c := c) hT0 (k := k.toNat) (by omega) hc hp0 r10) rfl rfl (Nat.le_of_ble_eq_true rfl) (Nat.le_of_ble_eq_true rfl) (Nat.le_of_ble_eq_true rfl) ⟨rfl, rfl⟩ rfl rfl rfl rfl rfl rfl rfl rfl ?_
      refine EV.ceq (cs' := wTX a (T.1 0) (T.1 1) ((tMa (tS (T.1 0) (T.2 0)) k.toNat p0 r).2.1) (T.2 0) (T.2 1) (tU M c ((tMa (tS (T.1 0) (T.2 0)) k.toNat p0 r).2.2))) rfl ?_
      refine e_ifb_eq (t := 45) dX1_parseCommand_32 rfl rfl (fun h32 => ?_) (fun h32 => ?_)
      · have h32b : ¬ (tMa (tS (T.1 0) (T.2 0)) k.toNat p0 r).1 = true := h32
        refine e_iload_n dX1_parseCommand_45 rfl rfl ?_
        refine e_aload_n dX1_parseCommand_46 rfl rfl ?_
        refine e_getfield fd_X1_31 dX1_parseCommand_47 rfl rfl rfl rfl ?_
        refine e_max ma_X1_68 dX1_parseCommand_50 rfl (Nat.le_of_ble_eq_true rfl) (Nat.le_of_ble_eq_true rfl) (by omega) (by omega) ?_
        refine f_istore_n dX1_parseCommand_53 rfl (Nat.le_of_ble_eq_true rfl) rfl ?_
        refine f_iinc dX1_parseCommand_54 rfl rfl (Nat.le_of_ble_eq_true rfl) rfl ?_
        refine e_goto (n := 10) dX1_parseCommand_57 rfl ?_
        exact ih10 _ (by omega) (k + 1) _ _ _ rfl (by refine ⟨by omega, ?_⟩; split <;> omega) m10.2 (e10.trans (tPk_n (by omega) h32b))
      · have h32b : (tMa (tS (T.1 0) (T.2 0)) k.toNat p0 r).1 = true := h32
        refine e_aload_n dX1_parseCommand_35 rfl rfl ?_
        refine e_getfield fd_X1_19 dX1_parseCommand_36 rfl rfl rfl rfl ?_
        refine e_iload_n dX1_parseCommand_39 rfl rfl ?_
        refine e_iload dX1_parseCommand_40 rfl rfl ?_
        refine e_iastore dX1_parseCommand_42 rfl rfl rfl (by omega) (by decide) ?_
        refine e_iconst dX1_parseCommand_43 rfl ?_
        exact e_iret dX1_parseCommand_44 rfl (by decide) (eRet_t (by rw [(e10.trans (tPk_y (by omega) h32b))]; show 0 ≤ k; omega) (by unfold tPT; first | (rw [(e10.trans (tPk_y (by omega) h32b)), if_pos (show 0 ≤ k by omega)] <;> rfl) | (rw [e10.trans (tPk_0 (by omega)), if_neg (show ¬ (0 : Int) ≤ -1 by omega)] <;> rfl)))
  refine EV.ceq (cs' := wTX a (T.1 0) (T.1 1) (p0) (T.2 0) (T.2 1) (tU M c (r0))) rfl ?_
  exact hL10 _ 0 p0 p0 r0 rfl (by omega) hr0 rfl
theorem C_X1_parse {X : eXT} {a : Nat → Nat} {T : eFs} {M : Int → Int → Int} (hT : okT T M)  :
    EM X mX1_parse (eRm 7) a [.ref (a 0)] (wTx a T M) (eRet (some (vi (tPR T M).1)) a (wTx a (tCS T (tPR T M).2.2.2.1 (tPR T M).2.1 (tPR T M).2.2.1) (tPR T M).2.2.2.2)) := by
  refine EM.of (by decide +kernel) rfl (Nat.le_of_ble_eq_true rfl) ?_
  have hT0 := hT
  obtain ⟨hl, hcm, hp, rx, rk, rn⟩ := hT
  refine e_aload_n dX1_parse_0 rfl rfl ?_
  refine e_iconst dX1_parse_1 rfl ?_
  refine e_putfield fd_X1_31 dX1_parse_2 rfl rfl rfl (Nat.le_of_ble_eq_true rfl) rfl rfl ?_
  refine e_aload_n dX1_parse_5 rfl rfl ?_
  refine e_iconst dX1_parse_6 rfl ?_
  refine e_putfield fd_X1_28 dX1_parse_7 rfl rfl rfl (Nat.le_of_ble_eq_true rfl) rfl rfl ?_
  refine e_iconst dX1_parse_10 rfl ?_
  refine f_istore_n dX1_parse_11 rfl (Nat.le_of_ble_eq_true rfl) rfl ?_
  refine e_iconst dX1_parse_12 rfl ?_
  refine f_istore_n dX1_parse_13 rfl (Nat.le_of_ble_eq_true rfl) rfl ?_
  have hL14 : ∀ (k14 : Nat) (cc p : Int) (K : Int → Int) (MM : Int → Int → Int) (hk14 : (10 - cc).toNat = k14) (g14 : (0 ≤ cc ∧ cc ≤ 10) ∧ (0 ≤ p ∧ p ≤ T.1 0)) (k14 : ∀ j, 0 ≤ K j ∧ K j ≤ 8) (m14 : ∀ c j, 0 ≤ MM c j ∧ MM c j ≤ 99) (e14 : tPR T M = tPs (T.1 0) (tS (T.1 0) (T.2 0)) (10 - cc).toNat cc p K MM), EV (mX1_parse, (eRm 7), eRet (some (vi (tPR T M).1)) a (wTx a (tCS T (tPR T M).2.2.2.1 (tPR T M).2.1 (tPR T M).2.2.1) (tPR T M).2.2.2.2), X) a (0, 0) (wTX a (T.1 0) cc p (T.2 0) K MM) 14 [some (.ref (a 0)), some (vi 1), some (vi cc)] [] := by
    intro k14
    induction k14 using Nat.strongRecOn with
    | _ k14 ih14 =>
    intro cc p K MM hk14 g14 k14 m14 e14
    refine e_iload_n dX1_parse_14 rfl rfl ?_
    refine e_if_eq (t := 98) dX1_parse_15 rfl rfl (by decide) (fun h => absurd h (by decide)) (fun _ => ?_)
    refine e_iload_n dX1_parse_18 rfl rfl ?_
    refine e_bipush dX1_parse_19 rfl rfl ?_
    refine e_icmp_ge (t := 98) dX1_parse_21 rfl rfl (by omega) (by omega) (fun h21 => ?_) (fun h21 => ?_)
    · refine e_aload_n dX1_parse_98 rfl rfl ?_
      refine e_getfield fd_X1_31 dX1_parse_99 rfl rfl rfl rfl ?_
      refine e_aload_n dX1_parse_102 rfl rfl ?_
      refine e_getfield fd_X1_15 dX1_parse_103 rfl rfl rfl rfl ?_
      refine e_icmp_lt (t := 117) dX1_parse_106 rfl rfl (by omega) (by omega) (fun h106 => ?_) (fun h106 => ?_)
      · refine e_iconst dX1_parse_117 rfl ?_
        refine f_istore_n dX1_parse_118 rfl (Nat.le_of_ble_eq_true rfl) rfl ?_
        refine e_iload_n dX1_parse_119 rfl rfl ?_
        refine e_if_eq (t := 127) dX1_parse_120 rfl rfl (by decide) (fun _ => ?_) (fun h => absurd h (by decide))
        refine e_aload_n dX1_parse_127 rfl rfl ?_
        refine e_getfield fd_X1_31 dX1_parse_128 rfl rfl rfl rfl ?_
        exact e_iret dX1_parse_131 rfl rfl (eRet_i (by rw [e14.trans (tPs_0 (by omega))]) (by rw [e14.trans (tPs_0 (by omega))] <;> rfl))
      · refine e_iload_n dX1_parse_109 rfl rfl ?_
        refine e_if_ne (t := 117) dX1_parse_110 rfl rfl (by decide) (fun _ => ?_) (fun h => absurd h (by decide))
        refine e_iconst dX1_parse_117 rfl ?_
        refine f_istore_n dX1_parse_118 rfl (Nat.le_of_ble_eq_true rfl) rfl ?_
        refine e_iload_n dX1_parse_119 rfl rfl ?_
        refine e_if_eq (t := 127) dX1_parse_120 rfl rfl (by decide) (fun _ => ?_) (fun h => absurd h (by decide))
        refine e_aload_n dX1_parse_127 rfl rfl ?_
        refine e_getfield fd_X1_31 dX1_parse_128 rfl rfl rfl rfl ?_
        exact e_iret dX1_parse_131 rfl rfl (eRet_i (by rw [e14.trans (tPs_0 (by omega))]) (by rw [e14.trans (tPs_0 (by omega))] <;> rfl))
    · refine e_aload_n dX1_parse_24 rfl rfl ?_
      refine e_iload_n dX1_parse_25 rfl rfl ?_
      refine EV.ceq (cs' := wTx a (sS (tCS T K cc p) 2 p) (tU MM cc (MM cc))) (by rw [tU_id] <;> rfl) ?_
      refine e_cV2 [0, 1, 2, 3, 4, 5, 6, 7, 8, 9, 10, 11, 12, 13] lk_X1_56 rfl dX1_parse_26 rfl (C_X1_parseCommand (c := cc) (p0 := p) (r0 := MM cc) (okT_cs (cc := cc) (p := p) hT0 (by omega) (by omega) k14 m14) (by omega) (show 0 ≤ p ∧ p ≤ T.1 0 by omega) (m14 cc)) rfl rfl (Nat.le_of_ble_eq_true rfl) (Nat.le_of_ble_eq_true rfl) (Nat.le_of_ble_eq_true rfl) ⟨rfl, rfl⟩ rfl rfl rfl rfl rfl rfl rfl rfl ?_
      have pm := tPa_in hT0 (p0 := p) (r := MM cc) (by omega) (by omega) (m14 cc)
      have w := tS_in (L := T.1 0) rx (tPa (tS (T.1 0) (T.2 0)) p (MM cc)).2.1
      have wx := rx (tPa (tS (T.1 0) (T.2 0)) p (MM cc)).2.1
      refine e_ifb_ne (t := 37) dX1_parse_29 rfl rfl (fun h29 => ?_) (fun h29 => ?_)
      · have h29b : 0 ≤ (tPa (tS (T.1 0) (T.2 0)) p (MM cc)).1 := h29
        refine EV.ceq (cs' := wTX a (T.1 0) cc (tPa (tS (T.1 0) (T.2 0)) p (MM cc)).2.1 (T.2 0) (eU K cc (tPa (tS (T.1 0) (T.2 0)) p (MM cc)).1) (tU MM cc (tPa (tS (T.1 0) (T.2 0)) p (MM cc)).2.2)) (by unfold tPT; rw [if_pos h29] <;> rfl) ?_
        refine e_aload_n dX1_parse_37 rfl rfl ?_
        refine e_dup dX1_parse_38 rfl rfl ?_
        refine e_getfield fd_X1_28 dX1_parse_39 rfl rfl rfl rfl ?_
        refine e_iconst dX1_parse_42 rfl ?_
        refine e_iadd dX1_parse_43 rfl ?_
        refine e_putfield fd_X1_28 dX1_parse_44 rfl rfl rfl (Nat.le_of_ble_eq_true rfl) rfl rfl ?_
        refine e_aload_n dX1_parse_47 rfl rfl ?_
        refine e_getfield fd_X1_31 dX1_parse_48 rfl rfl rfl rfl ?_
        refine e_aload_n dX1_parse_51 rfl rfl ?_
        refine e_getfield fd_X1_15 dX1_parse_52 rfl rfl rfl rfl ?_
        refine e_icmp_ge (t := 76) dX1_parse_55 rfl rfl (by omega) (by omega) (fun h55 => ?_) (fun h55 => ?_)
        · refine e_iconst dX1_parse_76 rfl ?_
          refine f_istore_n dX1_parse_77 rfl (Nat.le_of_ble_eq_true rfl) rfl ?_
          refine e_iload_n dX1_parse_78 rfl rfl ?_
          refine e_if_eq (t := 92) dX1_parse_79 rfl rfl (by decide) (fun _ => ?_) (fun h => absurd h (by decide))
          refine f_iinc dX1_parse_92 rfl rfl (Nat.le_of_ble_eq_true rfl) rfl ?_
          refine e_goto (n := 14) dX1_parse_95 rfl ?_
          refine e_iload_n dX1_parse_14 rfl rfl ?_
          refine e_if_eq (t := 98) dX1_parse_15 rfl rfl (by decide) (fun _ => ?_) (fun h => absurd h (by decide))
          refine e_aload_n dX1_parse_98 rfl rfl ?_
          refine e_getfield fd_X1_31 dX1_parse_99 rfl rfl rfl rfl ?_
          refine e_aload_n dX1_parse_102 rfl rfl ?_
          refine e_getfield fd_X1_15 dX1_parse_103 rfl rfl rfl rfl ?_
          refine e_icmp_lt (t := 117) dX1_parse_106 rfl rfl (by omega) (by omega) (fun h106 => ?_) (fun h106 => ?_)
          · refine e_iconst dX1_parse_117 rfl ?_
            refine f_istore_n dX1_parse_118 rfl (Nat.le_of_ble_eq_true rfl) rfl ?_
            refine e_iload_n dX1_parse_119 rfl rfl ?_
            refine e_if_eq (t := 127) dX1_parse_120 rfl rfl (by decide) (fun _ => ?_) (fun h => absurd h (by decide))
            refine e_aload_n dX1_parse_127 rfl rfl ?_
            refine e_getfield fd_X1_31 dX1_parse_128 rfl rfl rfl rfl ?_
            exact e_iret dX1_parse_131 rfl rfl (eRet_i (by rw [e14.trans (tPs_e (by omega) h29b (by omega))]; show (tPa (tS (T.1 0) (T.2 0)) p (MM cc)).2.1 = (if T.1 0 ≤ (tPa (tS (T.1 0) (T.2 0)) p (MM cc)).2.1 then -1 else (tPa (tS (T.1 0) (T.2 0)) p (MM cc)).2.1); rw [if_neg (by omega)]) (by rw [e14.trans (tPs_e (by omega) h29b (by omega))] <;> rfl))
          · refine e_iload_n dX1_parse_109 rfl rfl ?_
            refine e_if_ne (t := 117) dX1_parse_110 rfl rfl (by decide) (fun h => absurd h (by decide)) (fun _ => ?_)
            refine e_iconst dX1_parse_113 rfl ?_
            refine e_goto (n := 118) dX1_parse_114 rfl ?_
            refine f_istore_n dX1_parse_118 rfl (Nat.le_of_ble_eq_true rfl) rfl ?_
            refine e_iload_n dX1_parse_119 rfl rfl ?_
            refine e_if_eq (t := 127) dX1_parse_120 rfl rfl (by decide) (fun h => absurd h (by decide)) (fun _ => ?_)
            refine e_iconst dX1_parse_123 rfl ?_
            refine e_goto (n := 131) dX1_parse_124 rfl ?_
            exact e_iret dX1_parse_131 rfl rfl (eRet_i (by rw [e14.trans (tPs_e (by omega) h29b (by omega))]; show -1 = (if T.1 0 ≤ (tPa (tS (T.1 0) (T.2 0)) p (MM cc)).2.1 then -1 else (tPa (tS (T.1 0) (T.2 0)) p (MM cc)).2.1); rw [if_pos (by omega)]) (by rw [e14.trans (tPs_e (by omega) h29b (by omega))] <;> rfl))
        · refine e_aload_n dX1_parse_58 rfl rfl ?_
          refine e_getfield fd_X1_9 dX1_parse_59 rfl rfl rfl rfl ?_
          refine e_aload_n dX1_parse_62 rfl rfl ?_
          refine e_getfield fd_X1_31 dX1_parse_63 rfl rfl rfl rfl ?_
          refine e_caload dX1_parse_66 rfl rfl rfl (by omega) (by decide) ?_
          refine e_bipush dX1_parse_67 rfl rfl ?_
          refine e_icmp_ne (t := 76) dX1_parse_69 rfl rfl (by omega) (by omega) (fun h69 => ?_) (fun h69 => ?_)
          · refine e_iconst dX1_parse_76 rfl ?_
            refine f_istore_n dX1_parse_77 rfl (Nat.le_of_ble_eq_true rfl) rfl ?_
            refine e_iload_n dX1_parse_78 rfl rfl ?_
            refine e_if_eq (t := 92) dX1_parse_79 rfl rfl (by decide) (fun _ => ?_) (fun h => absurd h (by decide))
            refine f_iinc dX1_parse_92 rfl rfl (Nat.le_of_ble_eq_true rfl) rfl ?_
            refine e_goto (n := 14) dX1_parse_95 rfl ?_
            refine e_iload_n dX1_parse_14 rfl rfl ?_
            refine e_if_eq (t := 98) dX1_parse_15 rfl rfl (by decide) (fun _ => ?_) (fun h => absurd h (by decide))
            refine e_aload_n dX1_parse_98 rfl rfl ?_
            refine e_getfield fd_X1_31 dX1_parse_99 rfl rfl rfl rfl ?_
            refine e_aload_n dX1_parse_102 rfl rfl ?_
            refine e_getfield fd_X1_15 dX1_parse_103 rfl rfl rfl rfl ?_
            refine e_icmp_lt (t := 117) dX1_parse_106 rfl rfl (by omega) (by omega) (fun h106 => ?_) (fun h106 => ?_)
            · refine e_iconst dX1_parse_117 rfl ?_
              refine f_istore_n dX1_parse_118 rfl (Nat.le_of_ble_eq_true rfl) rfl ?_
              refine e_iload_n dX1_parse_119 rfl rfl ?_
              refine e_if_eq (t := 127) dX1_parse_120 rfl rfl (by decide) (fun _ => ?_) (fun h => absurd h (by decide))
              refine e_aload_n dX1_parse_127 rfl rfl ?_
              refine e_getfield fd_X1_31 dX1_parse_128 rfl rfl rfl rfl ?_
              exact e_iret dX1_parse_131 rfl rfl (eRet_i (by rw [e14.trans (tPs_e (by omega) h29b (by omega))]; show (tPa (tS (T.1 0) (T.2 0)) p (MM cc)).2.1 = (if T.1 0 ≤ (tPa (tS (T.1 0) (T.2 0)) p (MM cc)).2.1 then -1 else (tPa (tS (T.1 0) (T.2 0)) p (MM cc)).2.1); rw [if_neg (by omega)]) (by rw [e14.trans (tPs_e (by omega) h29b (by omega))] <;> rfl))
            · refine e_iload_n dX1_parse_109 rfl rfl ?_
              refine e_if_ne (t := 117) dX1_parse_110 rfl rfl (by decide) (fun h => absurd h (by decide)) (fun _ => ?_)
              refine e_iconst dX1_parse_113 rfl ?_
              refine e_goto (n := 118) dX1_parse_114 rfl ?_
              refine f_istore_n dX1_parse_118 rfl (Nat.le_of_ble_eq_true rfl) rfl ?_
              refine e_iload_n dX1_parse_119 rfl rfl ?_
              refine e_if_eq (t := 127) dX1_parse_120 rfl rfl (by decide) (fun h => absurd h (by decide)) (fun _ => ?_)
              refine e_iconst dX1_parse_123 rfl ?_
              refine e_goto (n := 131) dX1_parse_124 rfl ?_
              exact e_iret dX1_parse_131 rfl rfl (eRet_i (by rw [e14.trans (tPs_e (by omega) h29b (by omega))]; show -1 = (if T.1 0 ≤ (tPa (tS (T.1 0) (T.2 0)) p (MM cc)).2.1 then -1 else (tPa (tS (T.1 0) (T.2 0)) p (MM cc)).2.1); rw [if_pos (by omega)]) (by rw [e14.trans (tPs_e (by omega) h29b (by omega))] <;> rfl))
          · refine e_iconst dX1_parse_72 rfl ?_
            refine e_goto (n := 77) dX1_parse_73 rfl ?_
            refine f_istore_n dX1_parse_77 rfl (Nat.le_of_ble_eq_true rfl) rfl ?_
            refine e_iload_n dX1_parse_78 rfl rfl ?_
            refine e_if_eq (t := 92) dX1_parse_79 rfl rfl (by decide) (fun h => absurd h (by decide)) (fun _ => ?_)
            refine e_aload_n dX1_parse_82 rfl rfl ?_
            refine e_dup dX1_parse_83 rfl rfl ?_
            refine e_getfield fd_X1_31 dX1_parse_84 rfl rfl rfl rfl ?_
            refine e_iconst dX1_parse_87 rfl ?_
            refine e_iadd dX1_parse_88 rfl ?_
            refine e_putfield fd_X1_31 dX1_parse_89 rfl rfl rfl (Nat.le_of_ble_eq_true rfl) rfl rfl ?_
            refine f_iinc dX1_parse_92 rfl rfl (Nat.le_of_ble_eq_true rfl) rfl ?_
            refine e_goto (n := 14) dX1_parse_95 rfl ?_
            refine EV.ceq (cs' := wTX a (T.1 0) (cc + 1) ((tPa (tS (T.1 0) (T.2 0)) p (MM cc)).2.1 + 1) (T.2 0) (eU K cc (tPa (tS (T.1 0) (T.2 0)) p (MM cc)).1) (tU MM cc (tPa (tS (T.1 0) (T.2 0)) p (MM cc)).2.2)) rfl ?_
            exact ih14 _ (by omega) (cc + 1) _ _ _ rfl (by omega) (fun j => eU_b k14 (by omega) j) (tU_in m14 pm.2.1) (e14.trans (tPs_go (by omega) h29b (by omega)))
      · have h29b : ¬ 0 ≤ (tPa (tS (T.1 0) (T.2 0)) p (MM cc)).1 := h29
        refine EV.ceq (cs' := wTX a (T.1 0) cc (tPa (tS (T.1 0) (T.2 0)) p (MM cc)).2.1 (T.2 0) K (tU MM cc (tPa (tS (T.1 0) (T.2 0)) p (MM cc)).2.2)) (by unfold tPT; rw [if_neg h29] <;> rfl) ?_
        refine e_aload_n dX1_parse_32 rfl rfl ?_
        refine e_getfield fd_X1_31 dX1_parse_33 rfl rfl rfl rfl ?_
        exact e_iret dX1_parse_36 rfl rfl (eRet_i (by rw [e14.trans (tPs_x (by omega) h29b)]) (by rw [e14.trans (tPs_x (by omega) h29b)] <;> rfl))
  refine EV.ceq (cs' := wTX a (T.1 0) 0 0 (T.2 0) (T.2 1) M) rfl ?_
  exact hL14 _ 0 0 (T.2 1) M rfl (by omega) rk rn rfl
