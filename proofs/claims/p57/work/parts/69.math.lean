/-! ===== the law: what its counts come to ===== -/
theorem eCB_le {P R : Int → Prop} [DecidablePred P] [DecidablePred R] {n : Int} : ∀ (m : Nat) (i : Int), (n - i).toNat = m → (∀ j, i ≤ j → j < n → P j → R j) → eCB P n i ≤ eCB R n i := by
  intro m
  induction m with
  | zero => intro i hm h; rw [eCB_end (by omega), eCB_end (by omega)]; omega
  | succ m ih =>
    intro i hm h
    have h2 := ih (i + 1) (by omega) (fun j a b => h j (by omega) b)
    by_cases hp : P i
    · rw [eCB_yes (by omega) hp, eCB_yes (by omega) (h i (by omega) (by omega) hp)]; omega
    · rw [eCB_no (by omega) hp]
      by_cases hr : R i
      · rw [eCB_yes (by omega) hr]; omega
      · rw [eCB_no (by omega) hr]; exact h2
theorem eCB_lt {P R : Int → Prop} [DecidablePred P] [DecidablePred R] {n c : Int} (hc : R c) (hn : ¬ P c) : ∀ (m : Nat) (i : Int), (n - i).toNat = m → i ≤ c → c < n → (∀ j, i ≤ j → j < n → P j → R j) → eCB P n i + 1 ≤ eCB R n i := by
  intro m
  induction m with
  | zero => intro i hm h1 h2 h; omega
  | succ m ih =>
    intro i hm h1 h2 h
    by_cases e : i = c
    · subst e
      have h3 := eCB_le (P := P) (R := R) (n := n) m (i + 1) (by omega) (fun j a b => h j (by omega) b)
      rw [eCB_no (by omega) hn, eCB_yes (by omega) hc]
      omega
    · have h3 := ih (i + 1) (by omega) (by omega) h2 (fun j a b => h j (by omega) b)
      by_cases hp : P i
      · rw [eCB_yes (by omega) hp, eCB_yes (by omega) (h i (by omega) (by omega) hp)]; omega
      · rw [eCB_no (by omega) hp]
        by_cases hr : R i
        · rw [eCB_yes (by omega) hr]; omega
        · rw [eCB_no (by omega) hr]; exact h3
/-! ranks -/
abbrev sBfr (F : eFs) (j b : Int) : Prop := sDD F j (F.1 1) < sDD F b (F.1 1) ∨ (sDD F j (F.1 1) = sDD F b (F.1 1) ∧ j < b)
theorem sRk_lt {F : eFs} {b c : Int} (hb : sHas F b) (h : sBfr F b c) : sRk F b + 1 ≤ sRk F c := by
  unfold sRk
  refine eCB_lt (P := fun j => sBfr F j b) (R := fun j => sBfr F j c) (c := b) h (fun q => by omega) _ 0 rfl hb.1 hb.2 (fun j _ _ q => by omega)
theorem sRk_in {F : eFs} {b : Int} (hb : sHas F b) : 0 ≤ sRk F b ∧ sRk F b < F.1 0 := by
  have h0 : 0 ≤ F.1 0 := by have := hb.1; have := hb.2; omega
  have h1 := eCB_in (P := fun j => sBfr F j b) (n := F.1 0) (i := 0) h0
  have h2 := eCB_lt (P := fun j => sBfr F j b) (R := fun _ => True) (n := F.1 0) (c := b) trivial (fun q => by omega) _ 0 rfl hb.1 hb.2 (fun j _ _ _ => trivial)
  have h3 := eCB_in (P := fun _ => True) (n := F.1 0) (i := 0) h0
  show 0 ≤ eCB (fun j => sBfr F j b) (F.1 0) 0 ∧ eCB (fun j => sBfr F j b) (F.1 0) 0 < F.1 0
  omega
theorem sWithRk_at {F : eFs} {b : Int} (hb : sHas F b) : sWithRk F (sRk F b) = b := by
  unfold sWithRk
  rcases eFB_or (P := fun c => sRk F c = sRk F b) (n := F.1 0) 0 with ⟨-, h⟩ | ⟨h1, h2, h3, -⟩
  · exact absurd rfl (h b hb.1 hb.2)
  · generalize eFB (fun c => sRk F c = sRk F b) (F.1 0) 0 = c at h1 h2 h3
    have hc : sHas F c := ⟨h1, h2⟩
    have t : c = b ∨ sBfr F c b ∨ sBfr F b c := by omega
    rcases t with t | t | t
    · exact t
    · have := sRk_lt hc t; omega
    · have := sRk_lt hb t; omega
theorem sWithRk_n {F : eFs} : sWithRk F (F.1 0) = -1 := eFB_no (fun j a b q => by have := (sRk_in (F := F) (b := j) ⟨a, b⟩).2; omega)
/-! pairs -/
theorem eCB_tri {P : Int → Int → Prop} [∀ b o, Decidable (P b o)] {n : Int} : eSB (fun b => eCB (fun o => P b o) n (b + 1)) n 0 = eSB (fun k => eCB (fun j => P j k) k 0) n 0 := by
  have l : ∀ b, 0 ≤ b → b < n → eCB (fun o => P b o) n (b + 1) = eSB (fun o => eI1 (b < o ∧ P b o)) n 0 := by
    intro b b0 b1
    rw [eSB_split (f := fun o => eI1 (b < o ∧ P b o)) (m := b + 1) (by omega) (by omega), eSB_zero (f := fun o => eI1 (b < o ∧ P b o)) (n := b + 1) (fun j j0 j1 => eI1_f (fun q => by omega)), Int.zero_add]
    exact eSB_cong (fun j j0 j1 => eI1_cong ⟨fun q => ⟨by omega, q⟩, fun q => q.2⟩)
  have r : ∀ k, 0 ≤ k → k < n → eCB (fun j => P j k) k 0 = eSB (fun j => eI1 (j < k ∧ P j k)) n 0 := by
    intro k k0 k1
    rw [eSB_split (f := fun j => eI1 (j < k ∧ P j k)) (m := k) (by omega) (by omega), eSB_zero (f := fun j => eI1 (j < k ∧ P j k)) (n := n) (i := k) (fun j j0 j1 => eI1_f (fun q => by omega)), Int.add_zero]
    exact eSB_cong (fun j j0 j1 => eI1_cong ⟨fun q => ⟨by omega, q⟩, fun q => q.2⟩)
  rw [eSB_cong l, eSB_cong r]
  exact eSB_swap (f := fun b o => eI1 (b < o ∧ P b o))
theorem eCB_cut {P : Int → Prop} [DecidablePred P] {n k : Int} (h0 : 0 ≤ k) (h1 : k ≤ n) : eCB (fun j => j < k ∧ P j) n 0 = eCB P k 0 := by
  show eSB (fun j => eI1 (j < k ∧ P j)) n 0 = eSB (fun j => eI1 (P j)) k 0
  rw [eSB_split (f := fun j => eI1 (j < k ∧ P j)) (m := k) h0 h1, eSB_zero (f := fun j => eI1 (j < k ∧ P j)) (n := n) (i := k) (fun j j0 j1 => eI1_f (fun q => by omega)), Int.add_zero]
  exact eSB_cong (fun j j0 j1 => eI1_cong ⟨fun q => q.2, fun q => ⟨j1, q⟩⟩)
def lLk (F : eFs) (k : Int) : Int := eCB (fun j => j < k ∧ sLk F k j) (F.1 0) 0
def lMx (F : eFs) (k : Int) : Int := eCB (fun j => j < k ∧ (sLk F k j ∧ ¬ F.2 2 j = F.2 2 k)) (F.1 0) 0
theorem lLk_all {F : eFs} : eSB (lLk F) (F.1 0) 0 = sPrs F := by
  unfold sPrs
  rw [eCB_tri (P := fun b o => sLk F b o)]
  refine eSB_cong (fun k k0 k1 => ?_)
  unfold lLk
  rw [eCB_cut k0 (by omega)]
  exact eCB_cong (fun j _ _ => ⟨fun q => sLk_sym q, fun q => sLk_sym q⟩)
theorem lMx_all {F : eFs} : eSB (lMx F) (F.1 0) 0 = sMix F := by
  unfold sMix
  rw [eCB_tri (P := fun b o => ¬ F.2 2 b = F.2 2 o ∧ sLk F b o)]
  refine eSB_cong (fun k k0 k1 => ?_)
  unfold lMx
  rw [eCB_cut k0 (by omega)]
  exact eCB_cong (fun j _ _ => ⟨fun q => ⟨q.2, sLk_sym q.1⟩, fun q => ⟨sLk_sym q.2, q.1⟩⟩)
theorem lLk_in {F : eFs} (h0 : 0 ≤ F.1 0) (k : Int) : 0 ≤ lLk F k ∧ lLk F k ≤ F.1 0 := by
  have := eCB_in (P := fun j => j < k ∧ sLk F k j) (n := F.1 0) (i := 0) h0
  unfold lLk; omega
theorem lMx_in {F : eFs} (h0 : 0 ≤ F.1 0) (k : Int) : 0 ≤ lMx F k ∧ lMx F k ≤ F.1 0 := by
  have := eCB_in (P := fun j => j < k ∧ (sLk F k j ∧ ¬ F.2 2 j = F.2 2 k)) (n := F.1 0) (i := 0) h0
  unfold lMx; omega
/-! the greatest formation -/
theorem sMax_b {f : Int → Int} : ∀ (n : Nat) (i m : Int), m ≤ sMax f n i m ∧ (∀ j, i ≤ j → j < i + n → f j ≤ sMax f n i m) ∧ (sMax f n i m = m ∨ ∃ j, i ≤ j ∧ j < i + n ∧ sMax f n i m = f j) := by
  intro n
  induction n with
  | zero => intro i m; exact ⟨Int.le_refl _, fun j j0 j1 => by omega, Or.inl rfl⟩
  | succ n ih =>
    intro i m
    obtain ⟨a1, a2, a3⟩ := ih (i + 1) (if m < f i then f i else m)
    show m ≤ sMax f n (i + 1) (if m < f i then f i else m) ∧ (∀ j, i ≤ j → j < i + ((n + 1 : Nat) : Int) → f j ≤ sMax f n (i + 1) (if m < f i then f i else m)) ∧ (sMax f n (i + 1) (if m < f i then f i else m) = m ∨ ∃ j, i ≤ j ∧ j < i + ((n + 1 : Nat) : Int) ∧ sMax f n (i + 1) (if m < f i then f i else m) = f j)
    have c : m ≤ (if m < f i then f i else m) ∧ f i ≤ (if m < f i then f i else m) ∧ ((if m < f i then f i else m) = m ∨ (if m < f i then f i else m) = f i) := by split <;> omega
    refine ⟨by omega, fun j j0 j1 => ?_, ?_⟩
    · by_cases e : j = i
      · subst e; omega
      · exact a2 j (by omega) (by omega)
    · rcases a3 with a3 | ⟨j, j0, j1, j2⟩
      · rcases c.2.2 with c2 | c2
        · exact Or.inl (a3.trans c2)
        · exact Or.inr ⟨i, by omega, by omega, a3.trans c2⟩
      · exact Or.inr ⟨j, by omega, by omega, j2⟩
noncomputable def lMn (F : eFs) (k : Int) : Int := eCB (fun j => sGr F j = sGr F k) (F.1 0) 0
theorem lMn_siz {F : eFs} (k : Int) : lMn F k = sSiz F (sGr F k) := rfl
theorem lMn_in {F : eFs} (h0 : 0 ≤ F.1 0) (k : Int) : 0 ≤ lMn F k ∧ lMn F k ≤ F.1 0 := by
  have := eCB_in (P := fun j => sGr F j = sGr F k) (n := F.1 0) (i := 0) h0
  unfold lMn; omega
theorem lMn_all {F : eFs} (h0 : 0 ≤ F.1 0) : sMax (lMn F) (F.1 0 - 0).toNat 0 0 = sLrg F := by
  obtain ⟨a1, a2, a3⟩ := sMax_b (f := lMn F) (F.1 0 - 0).toNat 0 0
  obtain ⟨b1, b2, b3⟩ := sMax_b (f := fun g => sSiz F g) (F.1 0 - 0).toNat 0 0
  unfold sLrg
  have u1 : sMax (lMn F) (F.1 0 - 0).toNat 0 0 ≤ sMax (fun g => sSiz F g) (F.1 0 - 0).toNat 0 0 := by
    rcases a3 with a3 | ⟨j, j0, j1, j2⟩
    · omega
    · have hj : sHas F j := by omega
      have gj := (sGr_in hj).1
      have e := lMn_siz (F := F) j
      have := b2 (sGr F j) gj.1 (by have := gj.2; omega)
      omega
  have u2 : sMax (fun g => sSiz F g) (F.1 0 - 0).toNat 0 0 ≤ sMax (lMn F) (F.1 0 - 0).toNat 0 0 := by
    rcases b3 with b3 | ⟨j, j0, j1, j2⟩
    · omega
    · have j2 := j2
      by_cases q : ∃ c, sHas F c ∧ sGr F c = j
      · obtain ⟨c, c1, c2⟩ := q
        have e := lMn_siz (F := F) c
        have := a2 c c1.1 (by have := c1.2; omega)
        rw [c2] at e
        omega
      · have z : sSiz F j = 0 := by
          unfold sSiz eCB
          exact eSB_zero (fun c c0 c1 => eI1_f (fun r => q ⟨c, ⟨c0, c1⟩, r⟩))
        omega
  omega
/-! the law's own way to the formations -/
/-- labels that are baskets of the same formation, none above its own -/
def lGI (F : eFs) (g : Int → Int) : Prop := ∀ i, sHas F i → sHas F (g i) ∧ sCon F (g i) i ∧ g i ≤ i
/-- within a round, up to the pair (k, j) -/
def lGR (F : eFs) (g0 g : Int → Int) (k j : Int) : Prop := lGI F g ∧ (∀ i, sHas F i → g i ≤ g0 i) ∧ ∀ u v, sHas F u → sHas F v → (u < k ∨ (u = k ∧ v < j)) → sLk F u v → g0 v = sGr F v → g u = sGr F u
noncomputable def lCo (F : eFs) (g : Int → Int) : Int := eCB (fun i => g i = sGr F i) (F.1 0) 0
theorem lGI_lo {F : eFs} {g : Int → Int} (h : lGI F g) {i : Int} (hi : sHas F i) : sGr F i ≤ g i := (sGr_in hi).2.2 _ (h i hi).1 (h i hi).2.1
theorem lGI_0 {F : eFs} : lGI F (fun i => i) := fun i hi => ⟨hi, sCon_rf i, Int.le_refl i⟩
theorem lGI_cong {F : eFs} {g h : Int → Int} (e : ∀ i, sHas F i → g i = h i) (H : lGI F h) : lGI F g := fun i hi => by rw [e i hi]; exact H i hi
theorem lGR_0 {F : eFs} {g : Int → Int} (h : lGI F g) : lGR F g g 0 0 := ⟨h, fun i _ => Int.le_refl _, fun u v hu hv q => by have := hu.1; have := hv.1; omega⟩
theorem lGR_row {F : eFs} {g0 g : Int → Int} {k j : Int} (h : lGR F g0 g k j) (hj : F.1 0 ≤ j) : lGR F g0 g (k + 1) 0 := ⟨h.1, h.2.1, fun u v hu hv q => h.2.2 u v hu hv (by have := hv.1; have := hv.2; omega)⟩
theorem lGR_no {F : eFs} {g0 g : Int → Int} {k j : Int} (h : lGR F g0 g k j) (hl : ¬ sLk F k j) : lGR F g0 g k (j + 1) := ⟨h.1, h.2.1, fun u v hu hv q l e => by
  by_cases hq : u = k ∧ v = j
  · obtain ⟨rfl, rfl⟩ := hq
    exact absurd l hl
  · exact h.2.2 u v hu hv (by omega) l e⟩
theorem lGR_yes {F : eFs} {g0 g : Int → Int} {k j : Int} (h : lGR F g0 g k j) (h0 : lGI F g0) (hk : sHas F k) (hj : sHas F j) (hl : sLk F k j) : lGR F g0 (eU g k (if g j < g k then g j else g k)) k (j + 1) := by
  have ck : sCon F (g j) k := sCon_go (h.1 j hj).2.1 hj hk (sLk_sym hl)
  have ejk : sGr F j = sGr F k := (sGr_eq hj hk).mpr (sCon_sy (sCon_go (sCon_rf k) hk hj hl))
  have lk := lGI_lo h.1 hk
  have lj := lGI_lo h.1 hj
  refine ⟨fun i hi => ?_, fun i hi => ?_, fun u v hu hv q l e => ?_⟩
  · by_cases hik : i = k
    · subst hik
      rw [eU_self]
      split
      · exact ⟨(h.1 j hj).1, ck, by have := (h.1 i hi).2.2; omega⟩
      · exact h.1 i hi
    · rw [eU_ne hik]; exact h.1 i hi
  · by_cases hik : i = k
    · subst hik
      rw [eU_self]
      have := h.2.1 i hi
      split <;> omega
    · rw [eU_ne hik]; exact h.2.1 i hi
  · by_cases huk : u = k
    · subst huk
      rw [eU_self]
      by_cases hvj : v = j
      · subst hvj
        have := h.2.1 v hv
        have e2 : g v = sGr F u := by rw [← ejk]; omega
        split
        · exact e2
        · omega
      · have := h.2.2 u v hu hv (by omega) l e
        split
        · omega
        · exact this
    · rw [eU_ne huk]
      exact h.2.2 u v hu hv (by omega) l e
/-- a round sets one more label right, or all stand -/
theorem lGR_end {F : eFs} {g0 g : Int → Int} {k j r : Int} (h : lGR F g0 g k j) (h0 : lGI F g0) (hk : F.1 0 ≤ k) (hn : 0 ≤ F.1 0) (hr : r < F.1 0) (hc : r ≤ lCo F g0) : r + 1 ≤ lCo F g := by
  have keep : ∀ i, sHas F i → g0 i = sGr F i → g i = sGr F i := fun i hi e => by
    have := h.2.1 i hi
    have := lGI_lo h.1 hi
    omega
  by_cases hall : ∀ i, sHas F i → g0 i = sGr F i
  · have e : lCo F g = F.1 0 := by
      have h1 := eCB_in (P := fun i => g i = sGr F i) (n := F.1 0) (i := 0) hn
      have h2 := eCB_le (P := fun _ => True) (R := fun i => g i = sGr F i) (n := F.1 0) _ 0 rfl (fun i a b _ => keep i ⟨a, b⟩ (hall i ⟨a, b⟩))
      have h3 : eCB (fun _ : Int => True) (F.1 0) 0 = F.1 0 := by
        have key : ∀ (m : Nat) (i : Int), (F.1 0 - i).toNat = m → i ≤ F.1 0 → eCB (fun _ : Int => True) (F.1 0) i = F.1 0 - i := by
          intro m
          induction m with
          | zero => intro i hm hi; rw [eCB_end (by omega)]; omega
          | succ m ih => intro i hm hi; rw [eCB_yes (by omega) trivial, ih (i + 1) (by omega) (by omega)]; omega
        rw [key _ 0 rfl hn]; omega
      unfold lCo
      omega
    omega
  · -- some label is wrong: there is a wrong one beside a right one
    have hw : ∃ i, sHas F i ∧ ¬ g0 i = sGr F i := Classical.byContradiction fun q => hall (fun i hi => Classical.byContradiction fun e => q ⟨i, hi, e⟩)
    obtain ⟨i, hi, hwi⟩ := hw
    have hf : ∃ u v, sHas F u ∧ sHas F v ∧ g0 u = sGr F u ∧ sLk F u v ∧ ¬ g0 v = sGr F v := Classical.byContradiction fun q => by
      obtain ⟨m1, m2, m3⟩ := sGr_in hi
      have em : sGr F (sGr F i) = sGr F i := (sGr_eq m1 hi).mpr m2
      have hm : g0 (sGr F i) = sGr F (sGr F i) := by
        have := (h0 _ m1).2.2
        have := lGI_lo h0 m1
        omega
      exact hwi (m2 (fun v => g0 v = sGr F v) hm (fun u v hu hv su l => Classical.byContradiction fun w => q ⟨u, v, hu, hv, su, l, w⟩))
    obtain ⟨u, v, hu, hv, gu, l, gv⟩ := hf
    have hgv : g v = sGr F v := h.2.2 v u hv hu (Or.inl (by have := hv.2; omega)) (sLk_sym l) gu
    have h3 := eCB_lt (P := fun i => g0 i = sGr F i) (R := fun i => g i = sGr F i) (n := F.1 0) (c := v) hgv gv _ 0 rfl hv.1 hv.2 (fun i a b q => keep i ⟨a, b⟩ q)
    unfold lCo at hc ⊢
    omega
theorem lCo_all {F : eFs} {g : Int → Int} (h : F.1 0 ≤ lCo F g) : ∀ i, sHas F i → g i = sGr F i := fun i hi => eCB_full (P := fun i => g i = sGr F i) (n := F.1 0) (i := 0) (by unfold lCo at h; omega) i hi.1 hi.2
theorem lCo_0 {F : eFs} {g : Int → Int} (hn : 0 ≤ F.1 0) : 0 ≤ lCo F g := (eCB_in (P := fun i => g i = sGr F i) (n := F.1 0) (i := 0) hn).1
/-! cells, clouds, leaders, shapes -/
theorem sAt_own {F : eFs} {k : Int} (hA : okA F) (hk : sHas F k) : sAt F (F.2 0 k) (F.2 1 k) = k := by
  unfold sAt
  rcases eFB_or (P := fun c => F.2 0 c = F.2 0 k ∧ F.2 1 c = F.2 1 k) (n := F.1 0) 0 with ⟨-, h⟩ | ⟨h1, h2, h3, -⟩
  · exact absurd ⟨rfl, rfl⟩ (h k hk.1 hk.2)
  · generalize eFB (fun c => F.2 0 c = F.2 0 k ∧ F.2 1 c = F.2 1 k) (F.1 0) 0 = c at h1 h2 h3
    by_cases e : c = k
    · exact e
    · have := hA.1 c k ⟨h1, h2⟩ hk e
      unfold sDD sD at this
      rw [h3.1, h3.2, Int.sub_self, Int.sub_self, show eAbs 0 = 0 from rfl] at this
      omega
def lCl (F : eFs) (y : Int) : Int := eCB (fun x => sCov (F.2 4) x y) 12 0
theorem lCl_all {F : eFs} : eSB (lCl F) 12 0 = sCnt F := by
  unfold sCnt
  refine eSB_cong (fun y y0 y1 => ?_)
  unfold lCl
  exact eCB_cong (fun x x0 x1 => ⟨fun q => q.2, fun q => ⟨⟨x0, x1, y0, y1⟩, q⟩⟩)
theorem lCl_in {F : eFs} (y : Int) : 0 ≤ lCl F y ∧ lCl F y ≤ 12 := by
  have := eCB_in (P := fun x => sCov (F.2 4) x y) (n := 12) (i := 0) (by decide)
  unfold lCl; omega
theorem sLead_z {N : Int} {F : eFs} (hF : okF N F) (h : 1 ≤ F.1 0) : sLead F 0 = F.1 1 := by
  have h1 := hF.2.1
  have h2 := hF.2.2.1
  unfold sLead
  rw [if_neg (by omega), Int.add_zero, Int.ediv_eq_zero_of_lt (by omega) (by omega), Int.add_zero]
  exact Int.emod_eq_of_lt (by omega) (by omega)
theorem sLead_r {F : eFs} {s : Int} (h : 1 ≤ F.1 0) : 0 ≤ sLead F s ∧ sLead F s < F.1 0 := by
  unfold sLead
  rw [if_neg (by omega)]
  exact ⟨Int.emod_nonneg _ (by omega), Int.emod_lt_of_pos _ (by omega)⟩
theorem sDif_in {F : eFs} (h : 0 ≤ F.1 10) : 0 ≤ sDif F ∧ sDif F ≤ F.1 10 ∧ (0 < F.1 10 → 1 ≤ sDif F) := by
  have h1 := eCB_in (P := fun s => ¬ sBef (F.2 5) s) (n := F.1 10) (i := 0) h
  unfold sDif
  refine ⟨h1.1, by omega, fun q => ?_⟩
  refine eCB_pos (P := fun s => ¬ sBef (F.2 5) s) (n := F.1 10) (i := 0) (j := 0) (by decide) q (fun w => w ?_)
  exact eFB_end (by decide)
theorem sSgn_r {F : eFs} (hc : 0 ≤ F.1 0 ∧ F.1 0 ≤ 10) (x y : Int) : 0 ≤ sSgn F x y ∧ sSgn F x y ≤ 127 := by
  have := sAt_in (F := F) (x := x) (y := y)
  unfold sSgn
  split
  · split <;> omega
  · omega
/-- the number that stands for the nearest one so far -/
def nrV (z : Int) : Int := if z = -1 then -30000 else z
theorem nrV_n {F : eFs} {b k z : Int} (e : sNrC F b k z) : (nrV z = -30000 ↔ z = -1) ∧ -1 ≤ z := by
  unfold nrV
  rcases e with ⟨-, e⟩ | ⟨e1, -⟩
  · rw [if_pos e]; exact ⟨⟨fun _ => e, fun _ => rfl⟩, by omega⟩
  · rw [if_neg (by omega)]; exact ⟨⟨fun q => by omega, fun q => by omega⟩, by omega⟩
