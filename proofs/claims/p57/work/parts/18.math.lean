/-! ===== pure: the first one, sums and counts over a range ===== -/
def eFst (P : Int → Prop) [DecidablePred P] : Nat → Int → Int
  | 0, _ => -1
  | k + 1, i => if P i then i else eFst P k (i + 1)
def eFB (P : Int → Prop) [DecidablePred P] (n i : Int) : Int := eFst P (n - i).toNat i
section eFBs
theorem eFB_end {P : Int → Prop} [DecidablePred P] {n i : Int} (h : n ≤ i) : eFB P n i = -1 := by
  unfold eFB
  rw [show (n - i).toNat = 0 by omega]
  rfl
theorem eFB_step {P : Int → Prop} [DecidablePred P] {n i : Int} (h : i < n) : eFB P n i = if P i then i else eFB P n (i + 1) := by
  unfold eFB
  rw [show (n - i).toNat = (n - (i + 1)).toNat + 1 by omega]
  rfl
theorem eFB_hit {P : Int → Prop} [DecidablePred P] {n i : Int} (h : i < n) (hp : P i) : eFB P n i = i := by rw [eFB_step h, if_pos hp]
theorem eFB_go {P : Int → Prop} [DecidablePred P] {n i : Int} (h : i < n) (hp : ¬ P i) : eFB P n i = eFB P n (i + 1) := by rw [eFB_step h, if_neg hp]
theorem eFB_rec {P : Int → Prop} [DecidablePred P] {n : Int} {M : Int → Int → Prop} (h0 : ∀ i, n ≤ i → M i (-1)) (h1 : ∀ i, i < n → P i → M i i) (h2 : ∀ i z, i < n → ¬ P i → M (i + 1) z → M i z) (i : Int) : M i (eFB P n i) := by
  have key : ∀ (k : Nat) (i : Int), (n - i).toNat = k → M i (eFB P n i) := by
    intro k
    induction k with
    | zero => intro i hi; rw [eFB_end (by omega)]; exact h0 i (by omega)
    | succ k ih =>
      intro i hi
      by_cases hp : P i
      · rw [eFB_hit (by omega) hp]; exact h1 i (by omega) hp
      · rw [eFB_go (by omega) hp]; exact h2 i _ (by omega) hp (ih _ (by omega))
  exact key _ i rfl
theorem eFB_or {P : Int → Prop} [DecidablePred P] {n : Int} (i : Int) : (eFB P n i = -1 ∧ ∀ j, i ≤ j → j < n → ¬ P j) ∨ (i ≤ eFB P n i ∧ eFB P n i < n ∧ P (eFB P n i) ∧ ∀ j, i ≤ j → j < eFB P n i → ¬ P j) := by
  refine eFB_rec (M := fun i z => (z = -1 ∧ ∀ j, i ≤ j → j < n → ¬ P j) ∨ (i ≤ z ∧ z < n ∧ P z ∧ ∀ j, i ≤ j → j < z → ¬ P j)) (fun i h => Or.inl ⟨rfl, fun j h1 h2 => by omega⟩) (fun i h hp => Or.inr ⟨Int.le_refl _, h, hp, fun j h1 h2 => by omega⟩) (fun i z h hp m => ?_) i
  rcases m with ⟨m1, m2⟩ | ⟨m1, m2, m3, m4⟩
  · refine Or.inl ⟨m1, fun j h1 h2 => ?_⟩
    by_cases e : j = i
    · rw [e]; exact hp
    · exact m2 j (by omega) h2
  · refine Or.inr ⟨by omega, m2, m3, fun j h1 h2 => ?_⟩
    by_cases e : j = i
    · rw [e]; exact hp
    · exact m4 j (by omega) h2
theorem eFB_no {P : Int → Prop} [DecidablePred P] {n i : Int} : (∀ j, i ≤ j → j < n → ¬ P j) → eFB P n i = -1 := by
  intro h
  rcases eFB_or (P := P) (n := n) i with ⟨h1, -⟩ | ⟨h1, h2, h3, -⟩
  · exact h1
  · exact absurd h3 (h _ h1 h2)
theorem eFB_in {P : Int → Prop} [DecidablePred P] {n i : Int} (hi : 0 ≤ i) : -1 ≤ eFB P n i ∧ (eFB P n i < n ∨ eFB P n i = -1) := by
  rcases eFB_or (P := P) (n := n) i with ⟨h1, -⟩ | ⟨h1, h2, h3, -⟩ <;> omega
theorem eFB_neg {P : Int → Prop} [DecidablePred P] {n i : Int} (hi : 0 ≤ i) : eFB P n i < 0 ↔ ∀ j, i ≤ j → j < n → ¬ P j := by
  rcases eFB_or (P := P) (n := n) i with ⟨h1, h2⟩ | ⟨h1, h2, h3, -⟩
  · exact ⟨fun _ => h2, fun _ => by omega⟩
  · exact ⟨fun h => by omega, fun h => absurd h3 (h _ h1 h2)⟩
theorem eFB_cong {P R : Int → Prop} [DecidablePred P] [DecidablePred R] {n i : Int} (h : ∀ j, i ≤ j → j < n → (P j ↔ R j)) : eFB P n i = eFB R n i := by
  rcases eFB_or (P := P) (n := n) i with ⟨h1, h2⟩ | ⟨h1, h2, h3, h4⟩
  · rw [h1, eFB_no]
    intro j a b q
    exact h2 j a b ((h j a b).mpr q)
  · rcases eFB_or (P := R) (n := n) i with ⟨g1, g2⟩ | ⟨g1, g2, g3, g4⟩
    · exact absurd ((h _ h1 h2).mp h3) (g2 _ h1 h2)
    · have a1 : ¬ eFB R n i < eFB P n i := fun q => h4 _ g1 q ((h _ g1 g2).mpr g3)
      have a2 : ¬ eFB P n i < eFB R n i := fun q => g4 _ h1 q ((h _ h1 h2).mp h3)
      omega
end eFBs
def eSum (f : Int → Int) : Nat → Int → Int
  | 0, _ => 0
  | k + 1, i => f i + eSum f k (i + 1)
def eSB (f : Int → Int) (n i : Int) : Int := eSum f (n - i).toNat i
section eSBs
variable {f g : Int → Int} {n i : Int}
theorem eSB_end (h : n ≤ i) : eSB f n i = 0 := by
  unfold eSB
  rw [show (n - i).toNat = 0 by omega]
  rfl
theorem eSB_go (h : i < n) : eSB f n i = f i + eSB f n (i + 1) := by
  unfold eSB
  rw [show (n - i).toNat = (n - (i + 1)).toNat + 1 by omega]
  rfl
theorem eSB_rec {M : Int → Int → Prop} (h0 : ∀ i, n ≤ i → M i 0) (h2 : ∀ i z, i < n → M (i + 1) z → M i (f i + z)) (i : Int) : M i (eSB f n i) := by
  have key : ∀ (k : Nat) (i : Int), (n - i).toNat = k → M i (eSB f n i) := by
    intro k
    induction k with
    | zero => intro i hi; rw [eSB_end (by omega)]; exact h0 i (by omega)
    | succ k ih =>
      intro i hi
      rw [eSB_go (by omega)]; exact h2 i _ (by omega) (ih _ (by omega))
  exact key _ i rfl
theorem eSB_cong (h : ∀ j, i ≤ j → j < n → f j = g j) : eSB f n i = eSB g n i := by
  have := eSB_rec (f := f) (n := n) (M := fun i z => (∀ j, i ≤ j → j < n → f j = g j) → z = eSB g n i) (fun i h _ => (eSB_end h).symm) (fun i z h m q => by rw [eSB_go h, ← m (fun j a b => q j (by omega) b), q i (Int.le_refl _) h]) i
  exact this h
theorem eSB_bnd {lo hi : Int} (h : ∀ j, i ≤ j → j < n → lo ≤ f j ∧ f j ≤ hi) (hn : i ≤ n) : lo * (n - i) ≤ eSB f n i ∧ eSB f n i ≤ hi * (n - i) := by
  have := eSB_rec (f := f) (n := n) (M := fun i z => i ≤ n → (∀ j, i ≤ j → j < n → lo ≤ f j ∧ f j ≤ hi) → lo * (n - i) ≤ z ∧ z ≤ hi * (n - i)) (fun i h h2 _ => by rw [show n - i = 0 by omega]; simp) (fun i z h m h1 q => by
    have a := m (by omega) (fun j a b => q j (by omega) b)
    have b := q i (Int.le_refl _) h
    rw [show n - i = (n - (i + 1)) + 1 by omega, Int.mul_add, Int.mul_add]
    omega) i
  exact this hn h
theorem eSB_last (h : i ≤ n) : eSB f (n + 1) i = eSB f n i + f n := by
  have := eSB_rec (f := f) (n := n) (M := fun i z => i ≤ n → eSB f (n + 1) i = z + f n) (fun i h h2 => by
    have e : i = n := by omega
    subst e
    rw [eSB_go (by omega), eSB_end (by omega)]; omega) (fun i z h m h2 => by rw [eSB_go (by omega), m (by omega)]; omega) i
  exact this h
theorem eSB_zero (h : ∀ j, i ≤ j → j < n → f j = 0) : eSB f n i = 0 := by
  rw [eSB_cong h]
  exact eSB_rec (f := fun _ => 0) (n := n) (M := fun _ z => z = 0) (fun _ _ => rfl) (fun _ z _ m => by omega) i
theorem eSB_add : eSB (fun j => f j + g j) n i = eSB f n i + eSB g n i := by
  exact eSB_rec (f := fun j => f j + g j) (n := n) (M := fun i z => z = eSB f n i + eSB g n i) (fun i h => by rw [eSB_end h, eSB_end h]; rfl) (fun i z h m => by rw [eSB_go (f := f) h, eSB_go (f := g) h, m]; omega) i
theorem eSB_split {m : Int} (h1 : i ≤ m) (h2 : m ≤ n) : eSB f n i = eSB f m i + eSB f n m := by
  have := eSB_rec (f := f) (n := m) (M := fun i z => i ≤ m → eSB f n i = z + eSB f n m) (fun i h h3 => by rw [show i = m by omega]; omega) (fun i z h q h3 => by rw [eSB_go (by omega), q (by omega)]; omega) i
  exact this h1
theorem eSB_swap {f : Int → Int → Int} {n m i j : Int} : eSB (fun x => eSB (f x) m j) n i = eSB (fun y => eSB (fun x => f x y) n i) m j := by
  refine eSB_rec (f := fun x => eSB (f x) m j) (n := n) (M := fun i z => z = eSB (fun y => eSB (fun x => f x y) n i) m j) (fun i h => ?_) (fun i z h q => ?_) i
  · rw [eSB_zero]
    intro y _ _
    exact eSB_end h
  · rw [q, ← eSB_add]
    apply eSB_cong
    intro y _ _
    rw [eSB_go (f := fun x => f x y) h]
end eSBs
def eI1 (c : Prop) [Decidable c] : Int := if c then 1 else 0
theorem eI1_t {c : Prop} [Decidable c] (h : c) : eI1 c = 1 := if_pos h
theorem eI1_f {c : Prop} [Decidable c] (h : ¬ c) : eI1 c = 0 := if_neg h
theorem eI1_b {c : Prop} [Decidable c] : 0 ≤ eI1 c ∧ eI1 c ≤ 1 := by unfold eI1; split <;> omega
theorem eI1_cong {c d : Prop} [Decidable c] [Decidable d] (h : c ↔ d) : eI1 c = eI1 d := by by_cases hd : d <;> simp [eI1, hd, h]
def eCB (P : Int → Prop) [DecidablePred P] (n i : Int) : Int := eSB (fun j => eI1 (P j)) n i
section eCBs
theorem eCB_end {P : Int → Prop} [DecidablePred P] {n i : Int} (h : n ≤ i) : eCB P n i = 0 := eSB_end h
theorem eCB_yes {P : Int → Prop} [DecidablePred P] {n i : Int} (h : i < n) (hp : P i) : eCB P n i = 1 + eCB P n (i + 1) := by unfold eCB; rw [eSB_go h, eI1_t hp]
theorem eCB_no {P : Int → Prop} [DecidablePred P] {n i : Int} (h : i < n) (hp : ¬ P i) : eCB P n i = eCB P n (i + 1) := by unfold eCB; rw [eSB_go h, eI1_f hp]; omega
theorem eCB_in {P : Int → Prop} [DecidablePred P] {n i : Int} (hn : i ≤ n) : 0 ≤ eCB P n i ∧ eCB P n i ≤ n - i := by
  have := eSB_bnd (f := fun j => eI1 (P j)) (n := n) (i := i) (lo := 0) (hi := 1) (fun j _ _ => eI1_b) hn
  unfold eCB
  omega
theorem eCB_cong {P R : Int → Prop} [DecidablePred P] [DecidablePred R] {n i : Int} (h : ∀ j, i ≤ j → j < n → (P j ↔ R j)) : eCB P n i = eCB R n i := eSB_cong (fun j a b => eI1_cong (h j a b))
end eCBs
/-- the size of a number -/
def eAbs (z : Int) : Int := if 0 ≤ z then z else -z
