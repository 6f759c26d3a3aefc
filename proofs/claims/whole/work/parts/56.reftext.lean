/-! ===== the reference's parser: pure ===== -/
/-- the state of the reading: the error or -1, the place -/
abbrev sP : Type := Int × Int
def nd (tx : Int → Int) (c : Int) (s : sP) : sP := if 0 ≤ s.1 then s else if tx s.2 = c then (s.1, s.2 + 1) else (s.2, s.2)
def nmS (tx : Int → Int) (two : Prop) [Decidable two] (s : sP) : sP := if 0 ≤ s.1 then s else if tDg (tx s.2) then (s.1, tNp tx two s.2) else (s.2, s.2)
def nmV (tx : Int → Int) (two : Prop) [Decidable two] (s : sP) : Int := if 0 ≤ s.1 then 0 else if tDg (tx s.2) then tNv tx two s.2 else 0
theorem nd_y {tx : Int → Int} {c p : Int} (h : tx p = c) : nd tx c (-1, p) = (-1, p + 1) := by
  unfold nd
  rw [if_neg (by show ¬ (0 : Int) ≤ -1; omega), if_pos h]
theorem nd_n {tx : Int → Int} {c p : Int} (h : ¬ tx p = c) : nd tx c (-1, p) = (p, p) := by
  unfold nd
  rw [if_neg (by show ¬ (0 : Int) ≤ -1; omega), if_neg h]
theorem nd_e {tx : Int → Int} {c : Int} {s : sP} (h : 0 ≤ s.1) : nd tx c s = s := if_pos h
theorem nmS_y {tx : Int → Int} {two : Prop} [Decidable two] {p : Int} (h : tDg (tx p)) : nmS tx two (-1, p) = (-1, tNp tx two p) := by
  unfold nmS
  rw [if_neg (by show ¬ (0 : Int) ≤ -1; omega), if_pos h]
theorem nmS_n {tx : Int → Int} {two : Prop} [Decidable two] {p : Int} (h : ¬ tDg (tx p)) : nmS tx two (-1, p) = (p, p) := by
  unfold nmS
  rw [if_neg (by show ¬ (0 : Int) ≤ -1; omega), if_neg h]
theorem nmS_e {tx : Int → Int} {two : Prop} [Decidable two] {s : sP} (h : 0 ≤ s.1) : nmS tx two s = s := if_pos h
theorem nmV_y {tx : Int → Int} {two : Prop} [Decidable two] {p : Int} (h : tDg (tx p)) : nmV tx two (-1, p) = tNv tx two p := by
  unfold nmV
  rw [if_neg (by show ¬ (0 : Int) ≤ -1; omega), if_pos h]
theorem nm_c {tx : Int → Int} {two t2 : Prop} [Decidable two] [Decidable t2] {s : sP} (h : two ↔ t2) : nmS tx two s = nmS tx t2 s ∧ nmV tx two s = nmV tx t2 s := by
  unfold nmS nmV
  rw [(tNv_c (tx := tx) (p := s.2) h).1, (tNv_c (tx := tx) (p := s.2) h).2]
  exact ⟨rfl, rfl⟩
theorem tNp_lo {tx : Int → Int} {two : Prop} [Decidable two] {p : Int} : p + 1 ≤ tNp tx two p := by
  unfold tNp
  split <;> omega
/-- form k, read by the reference's steps -/
def rMt (tx : Int → Int) (k : Nat) : Nat → Int → sP → Int → (Int → Int) → sP × (Int → Int)
  | 0, _, s, _, r => (s, r)
  | n + 1, i, s, f, r =>
    if fCh k i = 37 ∨ fCh k i = 35 then
      (if f < 3 then rMt tx k n (i + 1) (nmS tx (fCh k i = 37) s) (f + 1) (eU r f (nmV tx (fCh k i = 37) s)) else rMt tx k n (i + 1) (nmS tx (fCh k i = 37) s) f r)
    else rMt tx k n (i + 1) (nd tx (fCh k i) s) f r
theorem rMt_err {tx : Int → Int} {k : Nat} : ∀ (n : Nat) (i : Int) (s : sP) (f : Int) (r : Int → Int), 0 ≤ s.1 → (rMt tx k n i s f r).1 = s := by
  intro n
  induction n with
  | zero => intro i s f r h; rfl
  | succ n ih =>
    intro i s f r h
    unfold rMt
    rw [nmS_e h, nd_e h]
    (repeat' split) <;> exact ih _ _ _ _ h
theorem rMt_sim {tx : Int → Int} {k : Nat} : ∀ (n : Nat) (i p f : Int) (r : Int → Int), 0 ≤ p → ((tMt tx k n i p f r).1 = true → rMt tx k n i (-1, p) f r = ((-1, (tMt tx k n i p f r).2.1), (tMt tx k n i p f r).2.2)) ∧ (¬ (tMt tx k n i p f r).1 = true → (rMt tx k n i (-1, p) f r).1.1 = (tMt tx k n i p f r).2.1) := by
  intro n
  induction n with
  | zero => intro i p f r hp; exact ⟨fun _ => rfl, fun h => absurd rfl h⟩
  | succ n ih =>
    intro i p f r hp
    unfold tMt rMt
    by_cases hc : fCh k i = 37 ∨ fCh k i = 35
    · rw [if_pos hc, if_pos hc]
      by_cases hd : tDg (tx p)
      · rw [if_pos hd, nmS_y hd, nmV_y hd]
        have hq : 0 ≤ tNp tx (fCh k i = 37) p := by have := tNp_lo (tx := tx) (two := fCh k i = 37) (p := p); omega
        by_cases hf : f < 3
        · rw [if_pos hf, if_pos hf]; exact ih _ _ _ _ hq
        · rw [if_neg hf, if_neg hf]; exact ih _ _ _ _ hq
      · rw [if_neg hd, nmS_n hd]
        refine ⟨fun h => absurd h Bool.false_ne_true, fun _ => ?_⟩
        by_cases hf : f < 3
        · rw [if_pos hf, rMt_err _ _ _ _ _ hp]
        · rw [if_neg hf, rMt_err _ _ _ _ _ hp]
    · rw [if_neg hc, if_neg hc]
      by_cases hd : tx p = fCh k i
      · rw [if_pos hd, nd_y hd]; exact ih _ _ _ _ (by omega)
      · rw [if_neg hd, nd_n hd]
        exact ⟨fun h => absurd h Bool.false_ne_true, fun _ => by rw [rMt_err _ _ _ _ _ hp]⟩
theorem rMt_0 {tx : Int → Int} {k : Nat} {i L f : Int} {s : sP} {r : Int → Int} (h : L ≤ i) : rMt tx k (L - i).toNat i s f r = (s, r) := by
  rw [show (L - i).toNat = 0 by omega]; rfl
theorem rMt_c {tx : Int → Int} {k : Nat} {i L f c : Int} {s : sP} {r : Int → Int} (h : i < L) (hc : fCh k i = c) (hn : ¬ (c = 37 ∨ c = 35)) : rMt tx k (L - i).toNat i s f r = rMt tx k (L - (i + 1)).toNat (i + 1) (nd tx c s) f r := by
  subst hc
  rw [show (L - i).toNat = (L - (i + 1)).toNat + 1 by omega]
  exact if_neg hn
theorem rMt_p {tx : Int → Int} {k : Nat} {i L f : Int} {s : sP} {r : Int → Int} (h : i < L) (hc : fCh k i = 37) (hf : f < 3) : rMt tx k (L - i).toNat i s f r = rMt tx k (L - (i + 1)).toNat (i + 1) (nmS tx True s) (f + 1) (eU r f (nmV tx True s)) := by
  rw [show (L - i).toNat = (L - (i + 1)).toNat + 1 by omega]
  have e := nm_c (tx := tx) (two := fCh k i = 37) (t2 := True) (s := s) ⟨fun _ => trivial, fun _ => hc⟩
  rw [← e.1, ← e.2]
  exact (if_pos (Or.inl hc)).trans (if_pos hf)
theorem rMt_d {tx : Int → Int} {k : Nat} {i L f : Int} {s : sP} {r : Int → Int} (h : i < L) (hc : fCh k i = 35) (hf : f < 3) : rMt tx k (L - i).toNat i s f r = rMt tx k (L - (i + 1)).toNat (i + 1) (nmS tx False s) (f + 1) (eU r f (nmV tx False s)) := by
  rw [show (L - i).toNat = (L - (i + 1)).toNat + 1 by omega]
  have e := nm_c (tx := tx) (two := fCh k i = 37) (t2 := False) (s := s) ⟨fun q => by omega, fun q => q.elim⟩
  rw [← e.1, ← e.2]
  exact (if_pos (Or.inr hc)).trans (if_pos hf)
def w3 (tx : Int → Int) (a b c : Int) (s : sP) : sP := nd tx c (nd tx b (nd tx a s))
def bhS (tx : Int → Int) (c : Int) (two : Prop) [Decidable two] (s : sP) : sP := nmS tx two (nd tx c s)
def bhV (tx : Int → Int) (c : Int) (two : Prop) [Decidable two] (s : sP) : Int := nmV tx two (nd tx c s)
def clS (tx : Int → Int) (s : sP) : sP := bhS tx 44 True (bhS tx 32 True s)
def clU (tx : Int → Int) (s : sP) : Int := bhV tx 32 True s
def clV (tx : Int → Int) (s : sP) : Int := bhV tx 44 True (bhS tx 32 True s)
/-- the word behind its first letter, by kind -/
def kW (tx : Int → Int) (k : Nat) (s : sP) : sP := if k = 0 then nd tx 100 (nd tx 100 s) else if k = 1 then w3 tx 117 109 112 s else if k = 2 then nd tx 101 (nd tx 108 (w3 tx 97 110 100 s)) else if k = 3 then w3 tx 111 117 100 (nd tx 108 s) else if k = 4 then w3 tx 101 97 114 (nd tx 108 s) else if k = 5 then w3 tx 117 114 110 s else if k = 6 then w3 tx 111 97 108 s else if k = 7 then w3 tx 101 101 112 s else w3 tx 116 101 112 s
/-- the arguments, by kind -/
def kS (tx : Int → Int) (k : Nat) (s : sP) : sP := if k = 0 then bhS tx 32 False (clS tx s) else if k = 1 then clS tx (bhS tx 32 False s) else if k = 2 then bhS tx 32 False (bhS tx 32 False s) else if k = 3 then clS tx s else if k = 4 then clS tx s else if k = 5 then bhS tx 32 False s else if k = 6 then clS tx s else if k = 7 then bhS tx 32 False s else bhS tx 32 True s
def kV1 (tx : Int → Int) (k : Nat) (s : sP) : Int := if k = 0 then clU tx s else if k = 1 then bhV tx 32 False s else if k = 2 then bhV tx 32 False s else if k = 3 then clU tx s else if k = 4 then clU tx s else if k = 5 then bhV tx 32 False s else if k = 6 then clU tx s else if k = 7 then bhV tx 32 False s else bhV tx 32 True s
def kV2 (tx : Int → Int) (k : Nat) (s : sP) : Int := if k = 0 then clV tx s else if k = 1 then clU tx (bhS tx 32 False s) else if k = 2 then bhV tx 32 False (bhS tx 32 False s) else if k = 3 then clV tx s else if k = 4 then clV tx s else if k = 6 then clV tx s else 0
def kV3 (tx : Int → Int) (k : Nat) (s : sP) : Int := if k = 0 then bhV tx 32 False (clS tx s) else if k = 1 then clV tx (bhS tx 32 False s) else 0
/-- the numbers of a kind, as far as they are used -/
def kN (tx : Int → Int) (k : Nat) (s : sP) (r : Int → Int) : Prop := kV1 tx k s = r 0 ∧ (k ≠ 5 → k ≠ 7 → k ≠ 8 → kV2 tx k s = r 1) ∧ (k = 0 ∨ k = 1 → kV3 tx k s = r 2)

theorem kM_0 {tx : Int → Int} {p : Int} {r : Int → Int} (h : tx p = 97) : (rMt tx 0 (fLn 0 - 0).toNat 0 (-1, p) 0 r).1 = kS tx 0 (kW tx 0 (-1, p + 1)) ∧ kN tx 0 (kW tx 0 (-1, p + 1)) (rMt tx 0 (fLn 0 - 0).toNat 0 (-1, p) 0 r).2 := by
  rw [rMt_c (c := 97) (by decide) (by decide) (by decide), rMt_c (c := 100) (by decide) (by decide) (by decide), rMt_c (c := 100) (by decide) (by decide) (by decide), rMt_c (c := 32) (by decide) (by decide) (by decide), rMt_p (by decide) (by decide) (by decide), rMt_c (c := 44) (by decide) (by decide) (by decide), rMt_p (by decide) (by decide) (by decide), rMt_c (c := 32) (by decide) (by decide) (by decide), rMt_d (by decide) (by decide) (by decide), rMt_0 (by decide), nd_y h]
  exact ⟨rfl, rfl, fun _ _ _ => rfl, fun q => rfl⟩

theorem kM_1 {tx : Int → Int} {p : Int} {r : Int → Int} (h : tx p = 106) : (rMt tx 1 (fLn 1 - 0).toNat 0 (-1, p) 0 r).1 = kS tx 1 (kW tx 1 (-1, p + 1)) ∧ kN tx 1 (kW tx 1 (-1, p + 1)) (rMt tx 1 (fLn 1 - 0).toNat 0 (-1, p) 0 r).2 := by
  rw [rMt_c (c := 106) (by decide) (by decide) (by decide), rMt_c (c := 117) (by decide) (by decide) (by decide), rMt_c (c := 109) (by decide) (by decide) (by decide), rMt_c (c := 112) (by decide) (by decide) (by decide), rMt_c (c := 32) (by decide) (by decide) (by decide), rMt_d (by decide) (by decide) (by decide), rMt_c (c := 32) (by decide) (by decide) (by decide), rMt_p (by decide) (by decide) (by decide), rMt_c (c := 44) (by decide) (by decide) (by decide), rMt_p (by decide) (by decide) (by decide), rMt_0 (by decide), nd_y h]
  exact ⟨rfl, rfl, fun _ _ _ => rfl, fun q => rfl⟩

theorem kM_2 {tx : Int → Int} {p : Int} {r : Int → Int} (h : tx p = 104) : (rMt tx 2 (fLn 2 - 0).toNat 0 (-1, p) 0 r).1 = kS tx 2 (kW tx 2 (-1, p + 1)) ∧ kN tx 2 (kW tx 2 (-1, p + 1)) (rMt tx 2 (fLn 2 - 0).toNat 0 (-1, p) 0 r).2 := by
  rw [rMt_c (c := 104) (by decide) (by decide) (by decide), rMt_c (c := 97) (by decide) (by decide) (by decide), rMt_c (c := 110) (by decide) (by decide) (by decide), rMt_c (c := 100) (by decide) (by decide) (by decide), rMt_c (c := 108) (by decide) (by decide) (by decide), rMt_c (c := 101) (by decide) (by decide) (by decide), rMt_c (c := 32) (by decide) (by decide) (by decide), rMt_d (by decide) (by decide) (by decide), rMt_c (c := 32) (by decide) (by decide) (by decide), rMt_d (by decide) (by decide) (by decide), rMt_0 (by decide), nd_y h]
  exact ⟨rfl, rfl, fun _ _ _ => rfl, fun q => absurd q (by decide)⟩

theorem kM_3 {tx : Int → Int} {p : Int} {r : Int → Int} (h : tx p = 99) : (rMt tx 3 (fLn 3 - 0).toNat 0 (-1, p) 0 r).1 = kS tx 3 (kW tx 3 (-1, p + 1)) ∧ kN tx 3 (kW tx 3 (-1, p + 1)) (rMt tx 3 (fLn 3 - 0).toNat 0 (-1, p) 0 r).2 := by
  rw [rMt_c (c := 99) (by decide) (by decide) (by decide), rMt_c (c := 108) (by decide) (by decide) (by decide), rMt_c (c := 111) (by decide) (by decide) (by decide), rMt_c (c := 117) (by decide) (by decide) (by decide), rMt_c (c := 100) (by decide) (by decide) (by decide), rMt_c (c := 32) (by decide) (by decide) (by decide), rMt_p (by decide) (by decide) (by decide), rMt_c (c := 44) (by decide) (by decide) (by decide), rMt_p (by decide) (by decide) (by decide), rMt_0 (by decide), nd_y h]
  exact ⟨rfl, rfl, fun _ _ _ => rfl, fun q => absurd q (by decide)⟩

theorem kM_4 {tx : Int → Int} {p : Int} {r : Int → Int} (h : tx p = 99) : (rMt tx 4 (fLn 4 - 0).toNat 0 (-1, p) 0 r).1 = kS tx 4 (kW tx 4 (-1, p + 1)) ∧ kN tx 4 (kW tx 4 (-1, p + 1)) (rMt tx 4 (fLn 4 - 0).toNat 0 (-1, p) 0 r).2 := by
  rw [rMt_c (c := 99) (by decide) (by decide) (by decide), rMt_c (c := 108) (by decide) (by decide) (by decide), rMt_c (c := 101) (by decide) (by decide) (by decide), rMt_c (c := 97) (by decide) (by decide) (by decide), rMt_c (c := 114) (by decide) (by decide) (by decide), rMt_c (c := 32) (by decide) (by decide) (by decide), rMt_p (by decide) (by decide) (by decide), rMt_c (c := 44) (by decide) (by decide) (by decide), rMt_p (by decide) (by decide) (by decide), rMt_0 (by decide), nd_y h]
  exact ⟨rfl, rfl, fun _ _ _ => rfl, fun q => absurd q (by decide)⟩

theorem kM_5 {tx : Int → Int} {p : Int} {r : Int → Int} (h : tx p = 116) : (rMt tx 5 (fLn 5 - 0).toNat 0 (-1, p) 0 r).1 = kS tx 5 (kW tx 5 (-1, p + 1)) ∧ kN tx 5 (kW tx 5 (-1, p + 1)) (rMt tx 5 (fLn 5 - 0).toNat 0 (-1, p) 0 r).2 := by
  rw [rMt_c (c := 116) (by decide) (by decide) (by decide), rMt_c (c := 117) (by decide) (by decide) (by decide), rMt_c (c := 114) (by decide) (by decide) (by decide), rMt_c (c := 110) (by decide) (by decide) (by decide), rMt_c (c := 32) (by decide) (by decide) (by decide), rMt_d (by decide) (by decide) (by decide), rMt_0 (by decide), nd_y h]
  exact ⟨rfl, rfl, fun q1 q2 q3 => by contradiction, fun q => absurd q (by decide)⟩

theorem kM_6 {tx : Int → Int} {p : Int} {r : Int → Int} (h : tx p = 103) : (rMt tx 6 (fLn 6 - 0).toNat 0 (-1, p) 0 r).1 = kS tx 6 (kW tx 6 (-1, p + 1)) ∧ kN tx 6 (kW tx 6 (-1, p + 1)) (rMt tx 6 (fLn 6 - 0).toNat 0 (-1, p) 0 r).2 := by
  rw [rMt_c (c := 103) (by decide) (by decide) (by decide), rMt_c (c := 111) (by decide) (by decide) (by decide), rMt_c (c := 97) (by decide) (by decide) (by decide), rMt_c (c := 108) (by decide) (by decide) (by decide), rMt_c (c := 32) (by decide) (by decide) (by decide), rMt_p (by decide) (by decide) (by decide), rMt_c (c := 44) (by decide) (by decide) (by decide), rMt_p (by decide) (by decide) (by decide), rMt_0 (by decide), nd_y h]
  exact ⟨rfl, rfl, fun _ _ _ => rfl, fun q => absurd q (by decide)⟩

theorem kM_7 {tx : Int → Int} {p : Int} {r : Int → Int} (h : tx p = 107) : (rMt tx 7 (fLn 7 - 0).toNat 0 (-1, p) 0 r).1 = kS tx 7 (kW tx 7 (-1, p + 1)) ∧ kN tx 7 (kW tx 7 (-1, p + 1)) (rMt tx 7 (fLn 7 - 0).toNat 0 (-1, p) 0 r).2 := by
  rw [rMt_c (c := 107) (by decide) (by decide) (by decide), rMt_c (c := 101) (by decide) (by decide) (by decide), rMt_c (c := 101) (by decide) (by decide) (by decide), rMt_c (c := 112) (by decide) (by decide) (by decide), rMt_c (c := 32) (by decide) (by decide) (by decide), rMt_d (by decide) (by decide) (by decide), rMt_0 (by decide), nd_y h]
  exact ⟨rfl, rfl, fun q1 q2 q3 => by contradiction, fun q => absurd q (by decide)⟩

theorem kM_8 {tx : Int → Int} {p : Int} {r : Int → Int} (h : tx p = 115) : (rMt tx 8 (fLn 8 - 0).toNat 0 (-1, p) 0 r).1 = kS tx 8 (kW tx 8 (-1, p + 1)) ∧ kN tx 8 (kW tx 8 (-1, p + 1)) (rMt tx 8 (fLn 8 - 0).toNat 0 (-1, p) 0 r).2 := by
  rw [rMt_c (c := 115) (by decide) (by decide) (by decide), rMt_c (c := 116) (by decide) (by decide) (by decide), rMt_c (c := 101) (by decide) (by decide) (by decide), rMt_c (c := 112) (by decide) (by decide) (by decide), rMt_c (c := 32) (by decide) (by decide) (by decide), rMt_p (by decide) (by decide) (by decide), rMt_0 (by decide), nd_y h]
  exact ⟨rfl, rfl, fun q1 q2 q3 => by contradiction, fun q => absurd q (by decide)⟩

theorem kM {tx : Int → Int} {k : Nat} {p : Int} {r : Int → Int} (hk : k < 9) (h : tx p = fCh k 0) : (rMt tx k (fLn k - 0).toNat 0 (-1, p) 0 r).1 = kS tx k (kW tx k (-1, p + 1)) ∧ kN tx k (kW tx k (-1, p + 1)) (rMt tx k (fLn k - 0).toNat 0 (-1, p) 0 r).2 := by
  rcases (show k = 0 ∨ k = 1 ∨ k = 2 ∨ k = 3 ∨ k = 4 ∨ k = 5 ∨ k = 6 ∨ k = 7 ∨ k = 8 by omega) with e | e | e | e | e | e | e | e | e <;> subst e
  · exact kM_0 h
  · exact kM_1 h
  · exact kM_2 h
  · exact kM_3 h
  · exact kM_4 h
  · exact kM_5 h
  · exact kM_6 h
  · exact kM_7 h
  · exact kM_8 h
/-- a form that begins with the sign at p -/
theorem kT {tx : Int → Int} {k : Nat} {p : Int} {r : Int → Int} (hk : k < 9) (hp : 0 ≤ p) (h : tx p = fCh k 0) : ((tMa tx k p r).1 = true → kS tx k (kW tx k (-1, p + 1)) = (-1, (tMa tx k p r).2.1) ∧ kN tx k (kW tx k (-1, p + 1)) (tMa tx k p r).2.2) ∧ (¬ (tMa tx k p r).1 = true → (kS tx k (kW tx k (-1, p + 1))).1 = (tMa tx k p r).2.1) := by
  obtain ⟨a1, a2⟩ := rMt_sim (tx := tx) (k := k) (fLn k - 0).toNat 0 p 0 r hp
  obtain ⟨b1, b2⟩ := kM (r := r) hk h
  refine ⟨fun q => ?_, fun q => ?_⟩
  · have e := a1 q
    rw [e] at b1 b2
    exact ⟨b1.symm, b2⟩
  · have e := a2 q
    rw [b1] at e
    exact e
theorem tMt_lo {tx : Int → Int} {k : Nat} : ∀ (n : Nat) (i p f : Int) (r : Int → Int), p ≤ (tMt tx k n i p f r).2.1 ∧ ((tMt tx k n i p f r).1 = true → p + n ≤ (tMt tx k n i p f r).2.1) := by
  intro n
  induction n with
  | zero => intro i p f r; exact ⟨Int.le_refl _, fun _ => by show p + ((0 : Nat) : Int) ≤ p; omega⟩
  | succ n ih =>
    intro i p f r
    unfold tMt
    have hq := tNp_lo (tx := tx) (two := fCh k i = 37) (p := p)
    (repeat' split)
    · obtain ⟨c1, c2⟩ := ih (i + 1) (tNp tx (fCh k i = 37) p) (f + 1) (eU r f (tNv tx (fCh k i = 37) p))
      exact ⟨by omega, fun q => by have := c2 q; omega⟩
    · obtain ⟨c1, c2⟩ := ih (i + 1) (tNp tx (fCh k i = 37) p) f r
      exact ⟨by omega, fun q => by have := c2 q; omega⟩
    · exact ⟨Int.le_refl _, fun q => absurd q Bool.false_ne_true⟩
    · obtain ⟨c1, c2⟩ := ih (i + 1) (p + 1) f r
      exact ⟨by omega, fun q => by have := c2 q; omega⟩
    · exact ⟨Int.le_refl _, fun q => absurd q Bool.false_ne_true⟩
theorem tMa_lo {tx : Int → Int} {k : Nat} {p : Int} {r : Int → Int} (hk : k < 9) : p ≤ (tMa tx k p r).2.1 ∧ ((tMa tx k p r).1 = true → p + 6 ≤ (tMa tx k p r).2.1) := by
  obtain ⟨a1, a2⟩ := tMt_lo (tx := tx) (k := k) (fLn k - 0).toNat 0 p 0 r
  have := fLn_in k hk
  exact ⟨a1, fun q => by have := a2 q; show p + 6 ≤ (tMt tx k (fLn k - 0).toNat 0 p 0 r).2.1; omega⟩
theorem fCh_0 {k : Nat} (hk : k < 9) : ¬ (fCh k 0 = 37 ∨ fCh k 0 = 35) := by
  rcases (show k = 0 ∨ k = 1 ∨ k = 2 ∨ k = 3 ∨ k = 4 ∨ k = 5 ∨ k = 6 ∨ k = 7 ∨ k = 8 by omega) with e | e | e | e | e | e | e | e | e <;> subst e <;> decide
theorem tMa_no {tx : Int → Int} {k : Nat} {p : Int} {r : Int → Int} (hk : k < 9) (h : ¬ tx p = fCh k 0) : tMa tx k p r = (false, p, r) := by
  have := fLn_in k hk
  exact tMt_cx (by omega) (fCh_0 hk) h
/-- kinds whose form begins otherwise are passed over -/
theorem tPk_sk {tx : Int → Int} {p far : Int} {r : Int → Int} {m : Int} : ∀ (n : Nat) (k : Int), (m - k).toNat = n → 0 ≤ k → k ≤ m → m ≤ 9 → p ≤ far → (∀ j : Int, k ≤ j → j < m → ¬ tx p = fCh j.toNat 0) → tPk tx p (9 - k).toNat k far r = tPk tx p (9 - m).toNat m far r := by
  intro n
  induction n with
  | zero => intro k hn h0 h1 h2 h3 h; rw [show k = m by omega]
  | succ n ih =>
    intro k hn h0 h1 h2 h3 h
    have e := tMa_no (r := r) (show k.toNat < 9 by omega) (h k (by omega) (by omega))
    rw [tPk_n (by omega) (by rw [e]; exact Bool.false_ne_true), e, if_neg (by show ¬ far < p; omega)]
    exact ih (k + 1) (by omega) (by omega) (by omega) h2 h3 (fun j j0 j1 => h j (by omega) j1)
/-- one kind alone begins with the sign at p -/
theorem tPa_one {tx : Int → Int} {p : Int} {r : Int → Int} {k : Int} (hk : 0 ≤ k ∧ k < 9) (h : ∀ j : Int, 0 ≤ j → j < 9 → j ≠ k → ¬ tx p = fCh j.toNat 0) : tPa tx p r = (if (tMa tx k.toNat p r).1 = true then k else -1, (tMa tx k.toNat p r).2.1, (tMa tx k.toNat p r).2.2) := by
  have l := (tMa_lo (tx := tx) (p := p) (r := r) (show k.toNat < 9 by omega)).1
  unfold tPa
  rw [tPk_sk (m := k) _ 0 rfl (by omega) (by omega) (by omega) (by omega) (fun j j0 j1 => h j (by omega) (by omega) (by omega))]
  by_cases hm : (tMa tx k.toNat p r).1 = true
  · rw [tPk_y hk.2 hm, if_pos hm]
  · rw [tPk_n hk.2 hm, if_neg hm, tPk_sk (m := 9) _ (k + 1) rfl (by omega) (by omega) (by omega) (by split <;> omega) (fun j j0 j1 => h j (by omega) (by omega) (by omega)), tPk_0 (by omega)]
    have e : (if p < (tMa tx k.toNat p r).2.1 then (tMa tx k.toNat p r).2.1 else p) = (tMa tx k.toNat p r).2.1 := by split <;> omega
    rw [e]
theorem tPa_none {tx : Int → Int} {p : Int} {r : Int → Int} (h : ∀ j : Int, 0 ≤ j → j < 9 → ¬ tx p = fCh j.toNat 0) : tPa tx p r = (-1, p, r) := by
  unfold tPa
  rw [tPk_sk (m := 9) _ 0 rfl (by omega) (by omega) (by omega) (by omega) (fun j j0 j1 => h j j0 j1), tPk_0 (by omega)]

/-- clouds and clear: how far each comes -/
theorem tMa_cl {tx : Int → Int} {p : Int} {r : Int → Int} (h : tx p = 99) : (¬ tx (p + 1) = 108 → tMa tx 3 p r = (false, p + 1, r) ∧ tMa tx 4 p r = (false, p + 1, r)) ∧ (tx (p + 1) = 108 → (¬ tx (p + 1 + 1) = 111 → tMa tx 3 p r = (false, p + 1 + 1, r)) ∧ (¬ tx (p + 1 + 1) = 101 → tMa tx 4 p r = (false, p + 1 + 1, r)) ∧ p + 1 + 1 ≤ (tMa tx 3 p r).2.1 ∧ p + 1 + 1 ≤ (tMa tx 4 p r).2.1) := by
  have a3 : tMa tx 3 p r = tMt tx 3 (fLn 3 - (0 + 1)).toNat (0 + 1) (p + 1) 0 r := tMt_c (by decide) (by decide) h
  have a4 : tMa tx 4 p r = tMt tx 4 (fLn 4 - (0 + 1)).toNat (0 + 1) (p + 1) 0 r := tMt_c (by decide) (by decide) h
  refine ⟨fun q => ⟨?_, ?_⟩, fun q => ?_⟩
  · rw [a3]; exact tMt_cx (by decide) (by decide) q
  · rw [a4]; exact tMt_cx (by decide) (by decide) q
  · have b3 : tMa tx 3 p r = tMt tx 3 (fLn 3 - (0 + 1 + 1)).toNat (0 + 1 + 1) (p + 1 + 1) 0 r := a3.trans (tMt_c (by decide) (by decide) q)
    have b4 : tMa tx 4 p r = tMt tx 4 (fLn 4 - (0 + 1 + 1)).toNat (0 + 1 + 1) (p + 1 + 1) 0 r := a4.trans (tMt_c (by decide) (by decide) q)
    refine ⟨fun q2 => ?_, fun q2 => ?_, ?_, ?_⟩
    · rw [b3]; exact tMt_cx (by decide) (by decide) q2
    · rw [b4]; exact tMt_cx (by decide) (by decide) q2
    · rw [b3]; exact (tMt_lo _ _ _ _ _).1
    · rw [b4]; exact (tMt_lo _ _ _ _ _).1
/-- which of the two the reference takes -/
def kC (tx : Int → Int) (p : Int) : Nat := if (nd tx 108 (-1, p + 1)).1 < 0 ∧ tx (nd tx 108 (-1, p + 1)).2 = 101 then 4 else 3
theorem kC_is {tx : Int → Int} {p : Int} (hp : 0 ≤ p) : kC tx p = if tx (p + 1) = 108 ∧ tx (p + 1 + 1) = 101 then 4 else 3 := by
  unfold kC
  by_cases q : tx (p + 1) = 108
  · rw [nd_y q]
    by_cases q2 : tx (p + 1 + 1) = 101
    · rw [if_pos ⟨by show (-1 : Int) < 0; omega, q2⟩, if_pos ⟨q, q2⟩]
    · rw [if_neg (fun z => q2 z.2), if_neg (fun z => q2 z.2)]
  · rw [nd_n q, if_neg (fun z => absurd z.1 (by show ¬ p + 1 < 0; omega)), if_neg (fun z => q z.1)]
theorem tPa_c {tx : Int → Int} {p : Int} {r : Int → Int} (hp : 0 ≤ p) (h : tx p = 99) : ∃ r1 : Int → Int, (tPa tx p r).1 = (if (tMa tx (kC tx p) p r1).1 = true then ((kC tx p : Nat) : Int) else -1) ∧ (tPa tx p r).2.1 = (tMa tx (kC tx p) p r1).2.1 ∧ ((tMa tx (kC tx p) p r1).1 = true → (tPa tx p r).2.2 = (tMa tx (kC tx p) p r1).2.2) := by
  obtain ⟨c1, c2⟩ := tMa_cl (tx := tx) (p := p) (r := r) h
  obtain ⟨d1, d2⟩ := tMa_cl (tx := tx) (p := p) (r := (tMa tx 3 p r).2.2) h
  have n0 : ∀ j : Int, 0 ≤ j → j < 3 → ¬ tx p = fCh j.toNat 0 := by
    intro j j0 j1
    rw [h]
    rcases (show j = 0 ∨ j = 1 ∨ j = 2 by omega) with e | e | e <;> subst e <;> decide
  have n5 : ∀ j : Int, 5 ≤ j → j < 9 → ¬ tx p = fCh j.toNat 0 := by
    intro j j0 j1
    rw [h]
    rcases (show j = 5 ∨ j = 6 ∨ j = 7 ∨ j = 8 by omega) with e | e | e | e <;> subst e <;> decide
  have l3 := (tMa_lo (tx := tx) (p := p) (r := r) (show 3 < 9 by decide)).1
  have l4 := (tMa_lo (tx := tx) (p := p) (r := (tMa tx 3 p r).2.2) (show 4 < 9 by decide)).1
  have s0 : tPa tx p r = tPk tx p ((9 : Int) - 3).toNat 3 p r := tPk_sk (m := 3) _ 0 rfl (by omega) (by omega) (by omega) (by omega) n0
  have s5 : ∀ (far : Int) (r2 : Int → Int), p ≤ far → tPk tx p ((9 : Int) - 5).toNat 5 far r2 = (-1, far, r2) := fun far r2 hf => (tPk_sk (m := 9) _ 5 rfl (by omega) (by omega) (by omega) hf n5).trans (tPk_0 (by omega))
  have y3 : (tMa tx 3 p r).1 = true → tPa tx p r = (3, (tMa tx 3 p r).2.1, (tMa tx 3 p r).2.2) := fun m => s0.trans (tPk_y (k := 3) (by decide) m)
  have n3 : ¬ (tMa tx 3 p r).1 = true → tPa tx p r = tPk tx p ((9 : Int) - 4).toNat 4 (tMa tx 3 p r).2.1 (tMa tx 3 p r).2.2 := fun m => by
    have e : (if p < (tMa tx 3 p r).2.1 then (tMa tx 3 p r).2.1 else p) = (tMa tx 3 p r).2.1 := by split <;> omega
    have w := tPk_n (k := 3) (far := p) (by decide) m
    rw [show ((3 : Int)).toNat = 3 from rfl, e] at w
    exact s0.trans w
  have y4 : ∀ (far : Int) (r2 : Int → Int), (tMa tx 4 p r2).1 = true → tPk tx p ((9 : Int) - 4).toNat 4 far r2 = (4, (tMa tx 4 p r2).2.1, (tMa tx 4 p r2).2.2) := fun far r2 m => tPk_y (k := 4) (by decide) m
  have n4 : ∀ (far : Int) (r2 : Int → Int), p ≤ far → ¬ (tMa tx 4 p r2).1 = true → tPk tx p ((9 : Int) - 4).toNat 4 far r2 = (-1, if far < (tMa tx 4 p r2).2.1 then (tMa tx 4 p r2).2.1 else far, (tMa tx 4 p r2).2.2) := fun far r2 hf m => (tPk_n (k := 4) (by decide) m).trans (s5 _ _ (by show p ≤ (if far < (tMa tx 4 p r2).2.1 then (tMa tx 4 p r2).2.1 else far); split <;> omega))
  rw [kC_is hp]
  by_cases q : tx (p + 1) = 108 ∧ tx (p + 1 + 1) = 101
  · rw [if_pos q]
    have e3 := (c2 q.1).1 (by omega)
    have f4 := (c2 q.1).2.2.2
    have m3 : ¬ (tMa tx 3 p r).1 = true := by rw [e3]; exact Bool.false_ne_true
    refine ⟨r, ?_⟩
    have g := n3 m3
    rw [e3] at g
    by_cases m4 : (tMa tx 4 p r).1 = true
    · have w := y4 (p + 1 + 1) r m4
      have g2 : tPa tx p r = (4, (tMa tx 4 p r).2.1, (tMa tx 4 p r).2.2) := g.trans w
      rw [g2, if_pos m4]
      exact ⟨rfl, rfl, fun _ => rfl⟩
    · have w := n4 (p + 1 + 1) r (by omega) m4
      have e : (if p + 1 + 1 < (tMa tx 4 p r).2.1 then (tMa tx 4 p r).2.1 else p + 1 + 1) = (tMa tx 4 p r).2.1 := by split <;> omega
      rw [e] at w
      have g2 : tPa tx p r = (-1, (tMa tx 4 p r).2.1, (tMa tx 4 p r).2.2) := g.trans w
      rw [g2, if_neg m4]
      exact ⟨rfl, rfl, fun _ => rfl⟩
  · rw [if_neg q]
    refine ⟨r, ?_⟩
    by_cases m3 : (tMa tx 3 p r).1 = true
    · rw [y3 m3, if_pos m3]
      exact ⟨rfl, rfl, fun _ => rfl⟩
    · have e4 : tMa tx 4 p (tMa tx 3 p r).2.2 = (false, (tMa tx 4 p (tMa tx 3 p r).2.2).2.1, (tMa tx 3 p r).2.2) ∧ (tMa tx 4 p (tMa tx 3 p r).2.2).2.1 ≤ (tMa tx 3 p r).2.1 := by
        by_cases q1 : tx (p + 1) = 108
        · have w := (d2 q1).2.1 (fun z => q ⟨q1, z⟩)
          rw [w]
          exact ⟨rfl, (c2 q1).2.2.1⟩
        · have w := (d1 q1).2
          rw [w, (c1 q1).1]
          exact ⟨rfl, Int.le_refl _⟩
      have m4 : ¬ (tMa tx 4 p (tMa tx 3 p r).2.2).1 = true := by rw [e4.1]; exact Bool.false_ne_true
      have w := n4 (tMa tx 3 p r).2.1 (tMa tx 3 p r).2.2 l3 m4
      have e : (if (tMa tx 3 p r).2.1 < (tMa tx 4 p (tMa tx 3 p r).2.2).2.1 then (tMa tx 4 p (tMa tx 3 p r).2.2).2.1 else (tMa tx 3 p r).2.1) = (tMa tx 3 p r).2.1 := if_neg (by omega)
      rw [e] at w
      rw [n3 m3, w, if_neg m3]
      exact ⟨rfl, rfl, fun z => absurd z m3⟩

/-- the kind that the reference takes, by the first sign; 9: none -/
def kF (tx : Int → Int) (p : Int) : Nat := if tx p = 97 then 0 else if tx p = 106 then 1 else if tx p = 104 then 2 else if tx p = 99 then kC tx p else if tx p = 116 then 5 else if tx p = 103 then 6 else if tx p = 107 then 7 else if tx p = 115 then 8 else 9
theorem kF_in {tx : Int → Int} {p : Int} : kF tx p ≤ 9 := by
  unfold kF kC
  (repeat' split) <;> omega
/-- the class and the reference read a command alike -/
theorem kTT {tx : Int → Int} {p : Int} {r : Int → Int} (hp : 0 ≤ p) : (kF tx p = 9 → tPa tx p r = (-1, p, r)) ∧ (kF tx p < 9 → (0 ≤ (tPa tx p r).1 → (tPa tx p r).1 = ((kF tx p : Nat) : Int) ∧ kS tx (kF tx p) (kW tx (kF tx p) (-1, p + 1)) = (-1, (tPa tx p r).2.1) ∧ kN tx (kF tx p) (kW tx (kF tx p) (-1, p + 1)) (tPa tx p r).2.2 ∧ p + 6 ≤ (tPa tx p r).2.1) ∧ (¬ 0 ≤ (tPa tx p r).1 → (kS tx (kF tx p) (kW tx (kF tx p) (-1, p + 1))).1 = (tPa tx p r).2.1)) := by
  have key : ∀ (k : Nat) (r1 : Int → Int), k < 9 → tx p = fCh k 0 → (tPa tx p r).1 = (if (tMa tx k p r1).1 = true then ((k : Nat) : Int) else -1) → (tPa tx p r).2.1 = (tMa tx k p r1).2.1 → ((tMa tx k p r1).1 = true → (tPa tx p r).2.2 = (tMa tx k p r1).2.2) → (0 ≤ (tPa tx p r).1 → (tPa tx p r).1 = ((k : Nat) : Int) ∧ kS tx k (kW tx k (-1, p + 1)) = (-1, (tPa tx p r).2.1) ∧ kN tx k (kW tx k (-1, p + 1)) (tPa tx p r).2.2 ∧ p + 6 ≤ (tPa tx p r).2.1) ∧ (¬ 0 ≤ (tPa tx p r).1 → (kS tx k (kW tx k (-1, p + 1))).1 = (tPa tx p r).2.1) := by
    intro k r1 hk hf e1 e2 e3
    obtain ⟨a1, a2⟩ := kT (r := r1) hk hp hf
    have l := tMa_lo (tx := tx) (p := p) (r := r1) hk
    by_cases hm : (tMa tx k p r1).1 = true
    · rw [if_pos hm] at e1
      rw [e1, e2, e3 hm]
      exact ⟨fun _ => ⟨rfl, (a1 hm).1, (a1 hm).2, l.2 hm⟩, fun q => by omega⟩
    · rw [if_neg hm] at e1
      rw [e1, e2]
      exact ⟨fun q => by omega, fun _ => a2 hm⟩
  have one : ∀ k : Int, 0 ≤ k → k < 9 → tx p = fCh k.toNat 0 → (∀ j : Int, 0 ≤ j → j < 9 → j ≠ k → ¬ tx p = fCh j.toNat 0) → (0 ≤ (tPa tx p r).1 → (tPa tx p r).1 = ((k.toNat : Nat) : Int) ∧ kS tx k.toNat (kW tx k.toNat (-1, p + 1)) = (-1, (tPa tx p r).2.1) ∧ kN tx k.toNat (kW tx k.toNat (-1, p + 1)) (tPa tx p r).2.2 ∧ p + 6 ≤ (tPa tx p r).2.1) ∧ (¬ 0 ≤ (tPa tx p r).1 → (kS tx k.toNat (kW tx k.toNat (-1, p + 1))).1 = (tPa tx p r).2.1) := by
    intro k h0 h1 hf hn
    have e := tPa_one (r := r) ⟨h0, h1⟩ hn
    refine key k.toNat r (by omega) hf ?_ ?_ ?_
    · rw [e, show ((k.toNat : Nat) : Int) = k by omega]
    · rw [e]
    · intro _; rw [e]
  have oth : ∀ (c : Int) (k : Int), tx p = c → 0 ≤ k → k < 9 → c = fCh k.toNat 0 → (∀ j : Int, 0 ≤ j → j < 9 → j ≠ k → ¬ c = fCh j.toNat 0) → (0 ≤ (tPa tx p r).1 → (tPa tx p r).1 = ((k.toNat : Nat) : Int) ∧ kS tx k.toNat (kW tx k.toNat (-1, p + 1)) = (-1, (tPa tx p r).2.1) ∧ kN tx k.toNat (kW tx k.toNat (-1, p + 1)) (tPa tx p r).2.2 ∧ p + 6 ≤ (tPa tx p r).2.1) ∧ (¬ 0 ≤ (tPa tx p r).1 → (kS tx k.toNat (kW tx k.toNat (-1, p + 1))).1 = (tPa tx p r).2.1) := by
    intro c k hc h0 h1 hf hn
    exact one k h0 h1 (hc.trans hf) (fun j j0 j1 jn q => hn j j0 j1 jn (hc.symm.trans q))
  have nine : ∀ j : Int, 0 ≤ j → j < 9 → j = 0 ∨ j = 1 ∨ j = 2 ∨ j = 3 ∨ j = 4 ∨ j = 5 ∨ j = 6 ∨ j = 7 ∨ j = 8 := by intro j j0 j1; omega
  unfold kF
  by_cases h97 : tx p = 97
  · rw [if_pos h97]
    refine ⟨fun q => absurd q (by decide), fun _ => oth 97 0 h97 (by decide) (by decide) (by decide) (fun j j0 j1 jn => ?_)⟩
    rcases nine j j0 j1 with e | e | e | e | e | e | e | e | e <;> subst e <;> first | decide | exact absurd rfl jn
  · skip
    by_cases h106 : tx p = 106
    · rw [if_neg h97, if_pos h106]
      refine ⟨fun q => absurd q (by decide), fun _ => oth 106 1 h106 (by decide) (by decide) (by decide) (fun j j0 j1 jn => ?_)⟩
      rcases nine j j0 j1 with e | e | e | e | e | e | e | e | e <;> subst e <;> first | decide | exact absurd rfl jn
    · skip
      by_cases h104 : tx p = 104
      · rw [if_neg h97, if_neg h106, if_pos h104]
        refine ⟨fun q => absurd q (by decide), fun _ => oth 104 2 h104 (by decide) (by decide) (by decide) (fun j j0 j1 jn => ?_)⟩
        rcases nine j j0 j1 with e | e | e | e | e | e | e | e | e <;> subst e <;> first | decide | exact absurd rfl jn
      · skip
        by_cases h99 : tx p = 99
        · rw [if_neg h97, if_neg h106, if_neg h104, if_pos h99]
          obtain ⟨r1, e1, e2, e3⟩ := tPa_c (r := r) hp h99
          have kc : kC tx p < 9 ∧ fCh (kC tx p) 0 = 99 := by
            unfold kC
            split <;> exact ⟨by decide, by decide⟩
          exact ⟨fun q => by omega, fun _ => key (kC tx p) r1 kc.1 (h99.trans kc.2.symm) e1 e2 e3⟩
        · skip
          by_cases h116 : tx p = 116
          · rw [if_neg h97, if_neg h106, if_neg h104, if_neg h99, if_pos h116]
            refine ⟨fun q => absurd q (by decide), fun _ => oth 116 5 h116 (by decide) (by decide) (by decide) (fun j j0 j1 jn => ?_)⟩
            rcases nine j j0 j1 with e | e | e | e | e | e | e | e | e <;> subst e <;> first | decide | exact absurd rfl jn
          · skip
            by_cases h103 : tx p = 103
            · rw [if_neg h97, if_neg h106, if_neg h104, if_neg h99, if_neg h116, if_pos h103]
              refine ⟨fun q => absurd q (by decide), fun _ => oth 103 6 h103 (by decide) (by decide) (by decide) (fun j j0 j1 jn => ?_)⟩
              rcases nine j j0 j1 with e | e | e | e | e | e | e | e | e <;> subst e <;> first | decide | exact absurd rfl jn
            · skip
              by_cases h107 : tx p = 107
              · rw [if_neg h97, if_neg h106, if_neg h104, if_neg h99, if_neg h116, if_neg h103, if_pos h107]
                refine ⟨fun q => absurd q (by decide), fun _ => oth 107 7 h107 (by decide) (by decide) (by decide) (fun j j0 j1 jn => ?_)⟩
                rcases nine j j0 j1 with e | e | e | e | e | e | e | e | e <;> subst e <;> first | decide | exact absurd rfl jn
              · skip
                by_cases h115 : tx p = 115
                · rw [if_neg h97, if_neg h106, if_neg h104, if_neg h99, if_neg h116, if_neg h103, if_neg h107, if_pos h115]
                  refine ⟨fun q => absurd q (by decide), fun _ => oth 115 8 h115 (by decide) (by decide) (by decide) (fun j j0 j1 jn => ?_)⟩
                  rcases nine j j0 j1 with e | e | e | e | e | e | e | e | e <;> subst e <;> first | decide | exact absurd rfl jn
                · skip
                  rw [if_neg h97, if_neg h106, if_neg h104, if_neg h99, if_neg h116, if_neg h103, if_neg h107, if_neg h115]
                  refine ⟨fun _ => tPa_none (fun j j0 j1 => ?_), fun q => absurd q (by decide)⟩
                  rcases nine j j0 j1 with e | e | e | e | e | e | e | e | e <;> subst e <;> assumption

