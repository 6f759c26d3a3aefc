/-! ===== Formations ===== -/
theorem eAbs_sub (x y : Int) : eAbs (x - y) = eAbs (y - x) := by unfold eAbs; split <;> split <;> omega
theorem sDD_sym (F : eFs) (b o : Int) : sDD F b o = sDD F o b := by
  unfold sDD sD
  rw [eAbs_sub (F.2 0 b), eAbs_sub (F.2 1 b)]
theorem sLk_sym {F : eFs} {b o : Int} (h : sLk F b o) : sLk F o b := by
  have := sDD_sym F b o
  omega
theorem eSB_upd {f : Int → Int} {n i c v : Int} (h1 : i ≤ c) (h2 : c < n) : eSB (eU f c v) n i = eSB f n i + (v - f c) := by
  rw [eSB_split (f := eU f c v) (n := n) (m := c) h1 (by omega), eSB_split (f := f) (n := n) (m := c) h1 (by omega), eSB_go (f := eU f c v) h2, eSB_go (f := f) h2]
  rw [eSB_cong (f := eU f c v) (g := f) (n := c) (i := i) (fun j _ b => eU_ne (by omega)), eSB_cong (f := eU f c v) (g := f) (n := n) (i := c + 1) (fun j a _ => eU_ne (by omega)), eU_self]
  omega
theorem eCB_upd {P R : Int → Prop} [DecidablePred P] [DecidablePred R] {n i c : Int} (h1 : i ≤ c) (h2 : c < n) (h3 : ∀ j, i ≤ j → j < n → j ≠ c → (P j ↔ R j)) : eCB R n i = eCB P n i + (eI1 (R c) - eI1 (P c)) := by
  unfold eCB
  rw [← eSB_upd (f := fun j => eI1 (P j)) (v := eI1 (R c)) h1 h2]
  apply eSB_cong
  intro j a b
  by_cases e : j = c
  · subst e; rw [eU_self]
  · rw [eU_ne e]; exact (eI1_cong (h3 j a b e)).symm
theorem eCB_full {P : Int → Prop} [DecidablePred P] {n i : Int} (h : n - i ≤ eCB P n i) : ∀ j, i ≤ j → j < n → P j := by
  intro j h1 h2
  rcases Decidable.em (P j) with hp | hp
  · exact hp
  · exfalso
    have e1 := eSB_split (f := fun j => eI1 (P j)) (n := n) (m := j) h1 (by omega)
    have e2 := eSB_go (f := fun j => eI1 (P j)) h2
    have a1 := eCB_in (P := P) (n := j) h1
    have a2 := eCB_in (P := P) (n := n) (i := j + 1) (by omega)
    have a3 : eI1 (P j) = 0 := eI1_f hp
    unfold eCB at *
    omega
theorem eCB_pos {P : Int → Prop} [DecidablePred P] {n i j : Int} (h1 : i ≤ j) (h2 : j < n) (hp : P j) : 1 ≤ eCB P n i := by
  have e1 := eSB_split (f := fun j => eI1 (P j)) (n := n) (m := j) h1 (by omega)
  have e2 := eSB_go (f := fun j => eI1 (P j)) h2
  have a1 := eCB_in (P := P) (n := j) h1
  have a2 := eCB_in (P := P) (n := n) (i := j + 1) (by omega)
  have a3 : eI1 (P j) = 1 := eI1_t hp
  unfold eCB at *
  omega
/-- c is in the formation of b: in every set that holds b and what is linked to what it holds -/
def sCon (F : eFs) (b c : Int) : Prop := ∀ S : Int → Prop, S b → (∀ u v, sHas F u → sHas F v → S u → sLk F u v → S v) → S c
theorem sCon_rf {F : eFs} (b : Int) : sCon F b b := fun _ h _ => h
theorem sCon_go {F : eFs} {b u v : Int} (h : sCon F b u) (hu : sHas F u) (hv : sHas F v) (l : sLk F u v) : sCon F b v := fun S h1 h2 => h2 u v hu hv (h S h1 h2) l
theorem sCon_tr {F : eFs} {b c d : Int} (h : sCon F b c) (h2 : sCon F c d) : sCon F b d := fun S a1 a2 => h2 S (h S a1 a2) a2
theorem sCon_sy {F : eFs} {b c : Int} (h : sCon F b c) : sCon F c b := by
  refine h (fun v => sCon F v b) (sCon_rf b) (fun u v hu hv hs l => ?_)
  exact sCon_tr (sCon_go (sCon_rf v) hv hu (sLk_sym l)) hs
noncomputable def sGr (F : eFs) (b : Int) : Int := @eFB (fun c => sCon F c b) (fun _ => Classical.propDecidable _) (F.1 0) 0
theorem sGr_in {F : eFs} {b : Int} (hb : sHas F b) : sHas F (sGr F b) ∧ sCon F (sGr F b) b ∧ ∀ c, sHas F c → sCon F c b → sGr F b ≤ c := by
  rcases @eFB_or (fun c => sCon F c b) (fun _ => Classical.propDecidable _) (F.1 0) 0 with ⟨-, h⟩ | ⟨h1, h2, h3, h4⟩
  · exact absurd (sCon_rf b) (h b hb.1 hb.2)
  · refine ⟨⟨h1, h2⟩, h3, fun c hc q => ?_⟩
    rcases Int.lt_or_le c (sGr F b) with g | g
    · exact absurd q (h4 c hc.1 g)
    · exact g
theorem sGr_of {F : eFs} {b g : Int} (hb : sHas F b) (h1 : sHas F g) (h2 : sCon F g b) (h3 : ∀ c, sHas F c → sCon F c b → g ≤ c) : g = sGr F b := by
  obtain ⟨a1, a2, a3⟩ := sGr_in hb
  have := h3 _ a1 a2
  have := a3 _ h1 h2
  omega
theorem sGr_eq {F : eFs} {b c : Int} (hb : sHas F b) (hc : sHas F c) : sGr F b = sGr F c ↔ sCon F b c := by
  obtain ⟨a1, a2, a3⟩ := sGr_in hb
  obtain ⟨b1, b2, b3⟩ := sGr_in hc
  constructor
  · intro e
    rw [e] at a2
    exact sCon_tr (sCon_sy a2) b2
  · intro h
    have q1 := b3 _ a1 (sCon_tr a2 h)
    have q2 := a3 _ b1 (sCon_tr b2 (sCon_sy h))
    omega
noncomputable def sFor (F : eFs) : Int := eCB (fun b => sGr F b = b) (F.1 0) 0
noncomputable def sSiz (F : eFs) (g : Int) : Int := eCB (fun c => sGr F c = g) (F.1 0) 0
/-- the greatest one -/
def sMax (f : Int → Int) : Nat → Int → Int → Int
  | 0, _, m => m
  | k + 1, i, m => sMax f k (i + 1) (if m < f i then f i else m)
theorem sMax_go {f : Int → Int} {n i m : Int} (h : i < n) : sMax f (n - i).toNat i m = sMax f (n - (i + 1)).toNat (i + 1) (if m < f i then f i else m) := by
  rw [show (n - i).toNat = (n - (i + 1)).toNat + 1 by omega]
  rfl
theorem sMax_end {f : Int → Int} {n i m : Int} (h : n ≤ i) : sMax f (n - i).toNat i m = m := by
  rw [show (n - i).toNat = 0 by omega]
  rfl
noncomputable def sLrg (F : eFs) : Int := sMax (fun g => sSiz F g) (F.1 0 - 0).toNat 0 0
/-- a labelling whose classes are the formations has as many fixed points -/
theorem sFor_of {F : eFs} {g : Int → Int} (h1 : ∀ b, sHas F b → sHas F (g b) ∧ g (g b) = g b) (h2 : ∀ b c, sHas F b → sHas F c → (g b = g c ↔ sCon F b c)) : eCB (fun b => g b = b) (F.1 0) 0 = sFor F := by
  have one : ∀ (f h : Int → Int), (∀ b, sHas F b → sHas F (f b) ∧ f (f b) = f b) → (∀ b c, sHas F b → sHas F c → (f b = f c ↔ sCon F b c)) → (∀ b, sHas F b → sHas F (h b) ∧ h (h b) = h b) → (∀ b c, sHas F b → sHas F c → (h b = h c ↔ sCon F b c)) →
      eCB (fun b => f b = b) (F.1 0) 0 = eSB (fun b => eSB (fun c => eI1 (f b = b ∧ h c = c ∧ h b = c)) (F.1 0) 0) (F.1 0) 0 := by
    intro f h f1 f2 g1 g2
    unfold eCB
    apply eSB_cong
    intro b b1 b2
    have hb : sHas F b := ⟨b1, b2⟩
    by_cases e : f b = b
    · rw [eI1_t e]
      obtain ⟨q1, q2⟩ := g1 b hb
      have : eSB (fun c => eI1 (f b = b ∧ h c = c ∧ h b = c)) (F.1 0) 0 = eSB (eU (fun _ => 0) (h b) 1) (F.1 0) 0 := by
        apply eSB_cong
        intro c c1 c2
        by_cases ec : c = h b
        · subst ec; rw [eU_self]; exact eI1_t ⟨e, q2, rfl⟩
        · rw [eU_ne ec]; exact eI1_f (fun q => ec q.2.2.symm)
      rw [this, eSB_upd q1.1 q1.2, eSB_zero (fun _ _ _ => rfl)]
      omega
    · rw [eI1_f e]
      exact (eSB_zero (fun c _ _ => eI1_f (fun q => e q.1))).symm
  have s1 : ∀ b, sHas F b → sHas F (sGr F b) ∧ sGr F (sGr F b) = sGr F b := fun b hb => ⟨(sGr_in hb).1, (sGr_eq (sGr_in hb).1 hb).mpr (sGr_in hb).2.1⟩
  have s2 : ∀ b c, sHas F b → sHas F c → (sGr F b = sGr F c ↔ sCon F b c) := fun b c hb hc => sGr_eq hb hc
  rw [one g (sGr F) h1 h2 s1 s2]
  unfold sFor
  rw [one (sGr F) g s1 s2 h1 h2, eSB_swap]
  apply eSB_cong
  intro b b1 b2
  apply eSB_cong
  intro c c1 c2
  apply eI1_cong
  have hb : sHas F b := ⟨b1, b2⟩
  have hc : sHas F c := ⟨c1, c2⟩
  have k1 := h2 b c hb hc
  have k2 := s2 b c hb hc
  constructor
  · rintro ⟨a1, a2, a3⟩
    exact ⟨a2, a1, (k1.mpr (k2.mp (a2.trans a3.symm))).trans a1⟩
  · rintro ⟨a1, a2, a3⟩
    exact ⟨a2, a1, (k2.mpr (k1.mp (a3.trans a2.symm))).symm.trans a1⟩
def wFm (a : Nat → Nat) (g rc : Int → Int) (F : eFs) (P : Int → Int) : List eE := [.inr (3, [.ref (a 1), .ref (a 2)]), eI 0 10 g, eI 0 10 rc] ++ wFl (fun k => a (3 + k)) F P
abbrev okG (g : Int → Int) : Prop := ∀ j, -1 ≤ g j ∧ g j ≤ 9
/-- one step of the search: what is reached is told by the first -/
def sRch (rc : Int → Int) (f c : Int) : Prop := ∃ i, 0 ≤ i ∧ i < f ∧ rc i = c
theorem sRch_up {rc : Int → Int} {f c v : Int} (h0 : 0 ≤ f) : sRch (eU rc f v) (f + 1) c ↔ sRch rc f c ∨ c = v := by
  constructor
  · rintro ⟨i, h1, h2, h3⟩
    by_cases e : i = f
    · subst e; rw [eU_self] at h3; exact Or.inr h3.symm
    · rw [eU_ne e] at h3; exact Or.inl ⟨i, h1, by omega, h3⟩
  · rintro (⟨i, h1, h2, h3⟩ | h)
    · exact ⟨i, h1, by omega, by rw [eU_ne (by omega)]; exact h3⟩
    · exact ⟨f, h0, by omega, by rw [eU_self]; exact h.symm⟩
/-- the groups found so far: closed under links, and told by the lowest -/
def sGrs (F : eFs) (g : Int → Int) : Prop := (∀ b, sHas F b → g b = -1 ∨ g b = sGr F b) ∧ (∀ b c, sHas F b → sHas F c → sCon F b c → g b = -1 → g c = -1)
/-- the state of the search from a: f found in rc, the groups g over g0 -/
def sSea (F : eFs) (g0 g rc : Int → Int) (a f : Int) : Prop := (1 ≤ f ∧ f ≤ 10) ∧ okG g ∧ (∀ j, 0 ≤ rc j ∧ rc j ≤ 9) ∧ (∀ i, 0 ≤ i → i < f → sHas F (rc i) ∧ sCon F a (rc i)) ∧ (∀ c, sHas F c → (sRch rc f c → g c = a) ∧ (¬ sRch rc f c → g c = g0 c)) ∧ sRch rc f a ∧ f ≤ eCB (fun c => ¬ g c = -1) (F.1 0) 0
theorem sSea_full {F : eFs} {g0 g rc : Int → Int} {a : Int} (hn : F.1 0 ≤ 10) (h : sSea F g0 g rc a 10) : ∀ c, sHas F c → ¬ g c = -1 := fun c hc => eCB_full (P := fun c => ¬ g c = -1) (n := F.1 0) (i := 0) (by have := h.2.2.2.2.2.2; omega) c hc.1 hc.2
theorem sSea_new {F : eFs} {g0 g rc : Int → Int} {a f v o : Int} (h : sSea F g0 g rc a f) (ha : sHas F a) (hn : F.1 0 ≤ 10) (hf : f < 10) (hv : 0 ≤ v ∧ v < f) (ho : sHas F o) (hg : g o = -1) (l : sLk F (rc v) o) : sSea F g0 (eU g o a) (eU rc f o) a (f + 1) := by
  obtain ⟨h1, h2, h3, h4, h5, h6, h7⟩ := h
  refine ⟨by omega, fun j => eU_b h2 (by omega) j, fun j => eU_b h3 (by omega) j, fun i i1 i2 => ?_, fun c hc => ?_, (sRch_up (by omega)).mpr (Or.inl h6), ?_⟩
  · by_cases e : i = f
    · subst e; rw [eU_self]; exact ⟨ho, sCon_go (h4 v hv.1 hv.2).2 (h4 v hv.1 hv.2).1 ho l⟩
    · rw [eU_ne e]; exact h4 i i1 (by omega)
  · rw [sRch_up (by omega)]
    by_cases e : c = o
    · subst e; rw [eU_self]; exact ⟨fun _ => rfl, fun q => absurd (Or.inr rfl) q⟩
    · rw [eU_ne e]
      refine ⟨fun q => (h5 c hc).1 (q.elim id (fun q => absurd q e)), fun q => (h5 c hc).2 (fun r => q (Or.inl r))⟩
  · have := eCB_upd (P := fun c => ¬ g c = -1) (R := fun c => ¬ eU g o a c = -1) (n := F.1 0) (i := 0) (c := o) ho.1 ho.2 (fun j _ _ e => by rw [eU_ne e])
    rw [this, eI1_f (c := ¬ g o = -1) (by omega), eI1_t (c := ¬ eU g o a o = -1) (by rw [eU_self]; omega)]
    omega
theorem sSea_end {F : eFs} {g0 g rc : Int → Int} {a f : Int} (h : sSea F g0 g rc a f) (ha : sHas F a) (h0 : sGrs F g0) (ga : g0 a = -1) (hl : ∀ c, 0 ≤ c → c < a → ¬ g0 c = -1) (hc : ∀ i, 0 ≤ i → i < f → ∀ o, sHas F o → sLk F (rc i) o → ¬ g o = -1) : sGrs F g ∧ (∀ c, 0 ≤ c → c < a + 1 → ¬ g c = -1) := by
  obtain ⟨h1, h2, h3, h4, h5, h6, h7⟩ := h
  have r1 : ∀ c, sRch rc f c → sHas F c ∧ sCon F a c := by
    rintro c ⟨i, q1, q2, q3⟩
    rw [← q3]; exact h4 i q1 q2
  have r2 : ∀ c, sCon F a c → sRch rc f c := by
    intro c q
    refine q (fun c => sRch rc f c) h6 (fun u v hu hv hs l => ?_)
    obtain ⟨i, q1, q2, q3⟩ := hs
    have n1 := hc i q1 q2 v hv (by rw [q3]; exact l)
    rcases Classical.em (sRch rc f v) with y | y
    · exact y
    · exfalso
      have n2 := (h5 v hv).2 y
      have cu : sCon F a u := (r1 u ⟨i, q1, q2, q3⟩).2
      exact n1 (by rw [n2]; exact h0.2 a v ha hv (sCon_go cu hu hv l) ga)
  have ag : a = sGr F a := by
    refine sGr_of ha ha (sCon_rf a) (fun c hc2 q => ?_)
    rcases Int.lt_or_le c a with g1 | g1
    · exact absurd (h0.2 a c ha hc2 (sCon_sy q) ga) (hl c hc2.1 g1)
    · exact g1
  have old : ∀ c, sHas F c → ¬ sRch rc f c → g c = g0 c := fun c hc2 q => (h5 c hc2).2 q
  refine ⟨⟨fun b hb => ?_, fun b c hb hc2 q e => ?_⟩, fun c c1 c2 => ?_⟩
  · rcases Classical.em (sRch rc f b) with y | y
    · right
      rw [(h5 b hb).1 y, ag]
      exact (sGr_eq ha hb).mpr (r1 b y).2
    · rw [old b hb y]; exact h0.1 b hb
  · rcases Classical.em (sRch rc f b) with y | y
    · rw [(h5 b hb).1 y] at e; omega
    · rcases Classical.em (sRch rc f c) with z | z
      · exact absurd (r2 b (sCon_tr (r1 c z).2 (sCon_sy q))) y
      · rw [old c hc2 z]
        exact h0.2 b c hb hc2 q (by rw [← old b hb y]; exact e)
  · have hc2 : sHas F c := ⟨c1, by omega⟩
    rcases Classical.em (sRch rc f c) with z | z
    · rw [(h5 c hc2).1 z]; omega
    · rw [old c hc2 z]
      refine hl c c1 ?_
      rcases (show c < a ∨ c = a by omega) with y | y
      · exact y
      · exact absurd (y ▸ h6) z
theorem sSea_0 {F : eFs} {g0 rc : Int → Int} {a : Int} (ha : sHas F a) (hn : F.1 0 ≤ 10) (h2 : okG g0) (h3 : ∀ j, 0 ≤ rc j ∧ rc j ≤ 9) : sSea F g0 (eU g0 a a) (eU rc 0 a) a 1 := by
  refine ⟨by omega, fun j => eU_b h2 (by omega) j, fun j => eU_b h3 (by omega) j, fun i i1 i2 => ?_, fun c hc => ?_, ⟨0, by omega, by omega, eU_self⟩, ?_⟩
  · rw [show i = 0 by omega, eU_self]; exact ⟨ha, sCon_rf a⟩
  · have e : sRch (eU rc 0 a) 1 c ↔ c = a := by
      constructor
      · rintro ⟨i, i1, i2, i3⟩
        rw [show i = 0 by omega, eU_self] at i3
        exact i3.symm
      · intro q; exact ⟨0, by omega, by omega, by rw [eU_self]; exact q.symm⟩
    rw [e]
    by_cases q : c = a
    · subst q; rw [eU_self]; exact ⟨fun _ => rfl, fun r => absurd rfl r⟩
    · rw [eU_ne q]; exact ⟨fun r => absurd r q, fun _ => rfl⟩
  · exact eCB_pos (P := fun c => ¬ eU g0 a a c = -1) ha.1 ha.2 (by show ¬ eU g0 a a a = -1; rw [eU_self]; omega)
/-! merging -/
theorem mrg_id {F : eFs} {g h : Int → Int} {x y : Int} (h1 : ∀ b, sHas F b → sHas F (g b) ∧ g (g b) = g b) (hx : sHas F x) (hy : sHas F y) (gx : g x = x) (gy : g y = y) (hne : ¬ x = y) (hh : ∀ j, h j = if 0 ≤ j ∧ j < F.1 0 ∧ g j = y then x else g j) :
    (∀ b, sHas F b → sHas F (h b) ∧ h (h b) = h b) ∧ eCB (fun b => h b = b) (F.1 0) 0 = eCB (fun b => g b = b) (F.1 0) 0 - 1 := by
  have hx2 : h x = x := by rw [hh, if_neg (by omega)]; exact gx
  refine ⟨fun b hb => ?_, ?_⟩
  · by_cases e : g b = y
    · have e2 : h b = x := by rw [hh, if_pos ⟨hb.1, hb.2, e⟩]
      rw [e2]; exact ⟨hx, hx2⟩
    · have e2 : h b = g b := by rw [hh, if_neg (fun q => e q.2.2)]
      obtain ⟨q1, q2⟩ := h1 b hb
      rw [e2]
      refine ⟨q1, ?_⟩
      rw [hh, if_neg (fun q => e (by rw [← q2]; exact q.2.2))]; exact q2
  · have := eCB_upd (P := fun b => g b = b) (R := fun b => h b = b) (n := F.1 0) (i := 0) (c := y) hy.1 hy.2 (fun j j1 j2 e => by
      rw [hh]
      by_cases q : g j = y
      · rw [if_pos ⟨j1, j2, q⟩]
        constructor
        · intro r; omega
        · intro r; subst r; omega
      · rw [if_neg (fun r => q r.2.2)])
    have a1 : eI1 (h y = y) = 0 := eI1_f (by rw [hh, if_pos ⟨hy.1, hy.2, gy⟩]; exact hne)
    have a2 : eI1 (g y = y) = 1 := eI1_t gy
    rw [this]
    omega
/-- the labels while pairs are merged: pairs before (b, o) are done -/
def sMgs (F : eFs) (g : Int → Int) (f b o : Int) : Prop := okG g ∧ (∀ j, sHas F j → sHas F (g j) ∧ g (g j) = g j) ∧ (∀ j k, sHas F j → sHas F k → g j = g k → sCon F j k) ∧ f = eCB (fun b => g b = b) (F.1 0) 0 ∧ (∀ j k, sHas F j → sHas F k → (j < b ∨ (j = b ∧ k < o)) → j < k → sLk F j k → g j = g k)
theorem sMgs_skip {F : eFs} {g : Int → Int} {f b o : Int} (h : sMgs F g f b o) (hq : g b = g o ∨ ¬ sLk F b o) : sMgs F g f b (o + 1) := by
  obtain ⟨h1, h2, h3, h4, h5⟩ := h
  refine ⟨h1, h2, h3, h4, fun j k hj hk q1 q2 l => ?_⟩
  by_cases e : j = b ∧ k = o
  · obtain ⟨rfl, rfl⟩ := e
    exact hq.elim id (fun r => absurd l r)
  · exact h5 j k hj hk (by omega) q2 l
theorem sMgs_next {F : eFs} {g : Int → Int} {f b o : Int} (h : sMgs F g f b o) (ho : F.1 0 ≤ o) : sMgs F g f (b + 1) (b + 1 + 1) := by
  obtain ⟨h1, h2, h3, h4, h5⟩ := h
  refine ⟨h1, h2, h3, h4, fun j k hj hk q1 q2 l => h5 j k hj hk ?_ q2 l⟩
  have := hk.2
  omega
theorem sMgs_mrg {F : eFs} {g h : Int → Int} {f b o : Int} (hm : sMgs F g f b o) (hb : sHas F b) (ho : sHas F o) (hne : ¬ g b = g o) (l : sLk F b o) (hh : ∀ j, h j = if 0 ≤ j ∧ j < F.1 0 ∧ g j = g o then g b else g j) : sMgs F h (f + -1) b (o + 1) := by
  obtain ⟨h1, h2, h3, h4, h5⟩ := hm
  have m := mrg_id h2 (h2 b hb).1 (h2 o ho).1 (h2 b hb).2 (h2 o ho).2 hne hh
  have hv : ∀ j, sHas F j → h j = if g j = g o then g b else g j := by
    intro j hj
    rw [hh]
    by_cases e : g j = g o
    · rw [if_pos ⟨hj.1, hj.2, e⟩, if_pos e]
    · rw [if_neg (fun q => e q.2.2), if_neg e]
  have hbo : sCon F b o := sCon_go (sCon_rf b) hb ho l
  refine ⟨fun j => ?_, m.1, fun j k hj hk q => ?_, by rw [m.2]; omega, fun j k hj hk q1 q2 q3 => ?_⟩
  · rw [hh]; split
    · exact h1 b
    · exact h1 j
  · rw [hv j hj, hv k hk] at q
    by_cases e1 : g j = g o <;> by_cases e2 : g k = g o
    · exact h3 j k hj hk (e1.trans e2.symm)
    · rw [if_pos e1, if_neg e2] at q
      exact sCon_tr (h3 j o hj ho e1) (sCon_tr (sCon_sy hbo) (h3 b k hb hk q))
    · rw [if_neg e1, if_pos e2] at q
      exact sCon_tr (h3 j b hj hb q) (sCon_tr hbo (h3 o k ho hk e2.symm))
    · rw [if_neg e1, if_neg e2] at q
      exact h3 j k hj hk q
  · by_cases e : j = b ∧ k = o
    · obtain ⟨rfl, rfl⟩ := e
      rw [hv j hj, hv k hk, if_neg hne, if_pos rfl]
    · have := h5 j k hj hk (by omega) q2 q3
      rw [hv j hj, hv k hk, this]
theorem sMgs_0 {F : eFs} {g : Int → Int} (h1 : okG g) (h2 : ∀ j, sHas F j → g j = j) (hn : 0 ≤ F.1 0) : sMgs F g (F.1 0) 0 (0 + 1) := by
  refine ⟨h1, fun j hj => ?_, fun j k hj hk q => ?_, ?_, fun j k hj hk q1 q2 l => ?_⟩
  · rw [h2 j hj]; exact ⟨hj, h2 j hj⟩
  · rw [h2 j hj, h2 k hk] at q; rw [q]; exact sCon_rf k
  · have e : eCB (fun b => g b = b) (F.1 0) 0 = eSB (fun _ => 1) (F.1 0) 0 := eSB_cong (fun j a b => eI1_t (h2 j ⟨a, b⟩))
    have := eSB_bnd (f := fun _ => 1) (n := F.1 0) (i := 0) (lo := 1) (hi := 1) (fun _ _ _ => by omega) hn
    rw [e]; omega
  · have := hj.1
    omega
theorem sMgs_end {F : eFs} {g : Int → Int} {f b o : Int} (h : sMgs F g f b o) (hb : F.1 0 ≤ b) : f = sFor F := by
  obtain ⟨h1, h2, h3, h4, h5⟩ := h
  rw [h4]
  refine sFor_of h2 (fun x y hx hy => ⟨h3 x y hx hy, fun q => ?_⟩)
  refine q (fun z => g x = g z) rfl (fun u v hu hv hs l => hs.trans ?_)
  rcases (show u < v ∨ u = v ∨ v < u by omega) with r | r | r
  · exact h5 u v hu hv (by have := hu.2; omega) r l
  · rw [r]
  · exact (h5 v u hv hu (by have := hv.2; omega) r (sLk_sym l)).symm
/-- all of them are found -/
def sGrd (F : eFs) (g : Int → Int) : Prop := okG g ∧ ∀ b, sHas F b → g b = sGr F b

theorem C_X3_goFrom {X : eXT} {a : Nat → Nat} {N : Int} {F : eFs} {P g rc : Int → Int} (hF : okF N F) (hg : okG g) (hr : ∀ j, 0 ≤ rc j ∧ rc j ≤ 9) {b : Int} (hb : sHas F b) (h0 : sGrs F g) (ga : g b = -1) (hl : ∀ c, 0 ≤ c → c < b → ¬ g c = -1) :
    EM X mX3_goFrom (eRm 4) a [.ref (a 0), .ref (a 3), vi b] (wFm a g rc F P) (eRets none a (fun cs1 => ∃ g1 rc1 : Int → Int, cs1 = wFm a g1 rc1 F P ∧ (∀ j, 0 ≤ rc1 j ∧ rc1 j ≤ 9) ∧ okG g1 ∧ sGrs F g1 ∧ (∀ c, 0 ≤ c → c < b + 1 → ¬ g1 c = -1))) := by
  refine EM.of (by decide +kernel) rfl (Nat.le_of_ble_eq_true rfl) ?_
  have hF0 := hF
  obtain ⟨hc, hld, hled, htn, hgo, hkp, hst, hwt, hcl, hsh, hnx, hN, rx, ry, rh, rm, rcl, rw9⟩ := hF
  refine e_aload_n dX3_goFrom_0 rfl rfl ?_
  refine e_getfield fd_X3_9 dX3_goFrom_1 rfl rfl rfl rfl ?_
  refine e_iload_n dX3_goFrom_4 rfl rfl ?_
  refine e_iload_n dX3_goFrom_5 rfl rfl ?_
  refine e_iastore dX3_goFrom_6 rfl rfl rfl (by omega) (by decide) ?_
  refine e_aload_n dX3_goFrom_7 rfl rfl ?_
  refine e_getfield fd_X3_15 dX3_goFrom_8 rfl rfl rfl rfl ?_
  refine e_iconst dX3_goFrom_11 rfl ?_
  refine e_iload_n dX3_goFrom_12 rfl rfl ?_
  refine e_iastore dX3_goFrom_13 rfl rfl rfl (by omega) (by decide) ?_
  refine e_iconst dX3_goFrom_14 rfl ?_
  refine f_istore_n dX3_goFrom_15 rfl (Nat.le_of_ble_eq_true rfl) rfl ?_
  refine e_iconst dX3_goFrom_16 rfl ?_
  refine f_istore dX3_goFrom_17 rfl (Nat.le_of_ble_eq_true rfl) rfl ?_
  have hL19 : ∀ (k19 : Nat) (f v : Int) (gg rr : Int → Int) (hk19 : (10 - v).toNat = k19) (g19 : 0 ≤ v ∧ v ≤ f) (s19 : sSea F g gg rr b f) (c19 : ∀ i, 0 ≤ i → i < v → ∀ o, sHas F o → sLk F (rr i) o → ¬ gg o = -1), EV (mX3_goFrom, (eRm 4), eRets none a (fun cs1 => ∃ g1 rc1 : Int → Int, cs1 = wFm a g1 rc1 F P ∧ (∀ j, 0 ≤ rc1 j ∧ rc1 j ≤ 9) ∧ okG g1 ∧ sGrs F g1 ∧ (∀ c, 0 ≤ c → c < b + 1 → ¬ g1 c = -1)), X) a (0, 0) (wFm a gg rr F P) 19 [some (.ref (a 0)), some (.ref (a 3)), some (vi b), some (vi f), some (vi v), none] [] := by
    intro k19
    induction k19 using Nat.strongRecOn with
    | _ k19 ih19 =>
    intro f v gg rr hk19 g19 s19 c19
    have k1 := s19.1
    refine e_iload dX3_goFrom_19 rfl rfl ?_
    refine e_iload_n dX3_goFrom_21 rfl rfl ?_
    refine e_icmp_ge (t := 101) dX3_goFrom_22 rfl rfl (by omega) (by omega) (fun h22 => ?_) (fun h22 => ?_)
    · exact e_vret dX3_goFrom_101 rfl ⟨rfl, rfl, gg, rr, rfl, s19.2.2.1, s19.2.1, sSea_end s19 hb h0 ga hl (fun i i1 i2 => c19 i i1 (by omega))⟩
    · refine e_iconst dX3_goFrom_25 rfl ?_
      refine f_istore dX3_goFrom_26 rfl (Nat.le_of_ble_eq_true rfl) rfl ?_
      have hL28 : ∀ (k28 : Nat) (f o : Int) (gg rr : Int → Int) (hk28 : (F.1 0 - o).toNat = k28) (g28 : 0 ≤ o ∧ o ≤ F.1 0) (w28 : v < f) (s28 : sSea F g gg rr b f) (c28 : ∀ i, 0 ≤ i → i < v → ∀ o, sHas F o → sLk F (rr i) o → ¬ gg o = -1) (v28 : ∀ p, 0 ≤ p → p < o → sLk F (rr v) p → ¬ gg p = -1), EV (mX3_goFrom, (eRm 4), eRets none a (fun cs1 => ∃ g1 rc1 : Int → Int, cs1 = wFm a g1 rc1 F P ∧ (∀ j, 0 ≤ rc1 j ∧ rc1 j ≤ 9) ∧ okG g1 ∧ sGrs F g1 ∧ (∀ c, 0 ≤ c → c < b + 1 → ¬ g1 c = -1)), X) a (0, 0) (wFm a gg rr F P) 28 [some (.ref (a 0)), some (.ref (a 3)), some (vi b), some (vi f), some (vi v), some (vi o)] [] := by
        intro k28
        induction k28 using Nat.strongRecOn with
        | _ k28 ih28 =>
        intro f o gg rr hk28 g28 w28 s28 c28 v28
        have k1 := s28.1
        have k2 := s28.2.1 o
        have k3 := s28.2.2.1 v
        have k4 := (s28.2.2.2.1 v (by omega) (by omega)).1
        refine e_iload dX3_goFrom_28 rfl rfl ?_
        refine e_aload_n dX3_goFrom_30 rfl rfl ?_
        refine e_getfield fd_X3_22 dX3_goFrom_31 rfl rfl rfl rfl ?_
        refine e_icmp_ge (t := 95) dX3_goFrom_34 rfl rfl (by omega) (by omega) (fun h34 => ?_) (fun h34 => ?_)
        · refine f_iinc dX3_goFrom_95 rfl rfl (Nat.le_of_ble_eq_true rfl) rfl ?_
          refine e_goto (n := 19) dX3_goFrom_98 rfl ?_
          refine EV.fgt 5 ?_
          exact ih19 _ (by omega) f (v + 1) gg rr rfl (by omega) s28 (fun i i1 i2 o ho l => by rcases (show i < v ∨ i = v by omega) with q | q; exact c28 i i1 q o ho l; exact v28 o ho.1 (by have := ho.2; omega) (q ▸ l))
        · refine e_iload_n dX3_goFrom_37 rfl rfl ?_
          refine e_bipush dX3_goFrom_38 rfl rfl ?_
          refine e_icmp_ge (t := 89) dX3_goFrom_40 rfl rfl (by omega) (by omega) (fun h40 => ?_) (fun h40 => ?_)
          · refine f_iinc dX3_goFrom_89 rfl rfl (Nat.le_of_ble_eq_true rfl) rfl ?_
            refine e_goto (n := 28) dX3_goFrom_92 rfl ?_
            exact ih28 _ (by omega) f (o + 1) gg rr rfl (by omega) w28 s28 c28 (fun p p1 p2 l => by rcases (show p < o ∨ p = o by omega) with q | q; exact v28 p p1 q l; rw [q] at l ⊢; first | omega | (exact fun _ => absurd l h67) | (exact absurd l h67) | (exact sSea_full (F := F) (g0 := g) (rc := rr) (a := b) hc.2 (by rw [show (10 : Int) = f by omega]; exact s28) o (by omega)))
          · refine e_aload_n dX3_goFrom_43 rfl rfl ?_
            refine e_getfield fd_X3_9 dX3_goFrom_44 rfl rfl rfl rfl ?_
            refine e_iload dX3_goFrom_47 rfl rfl ?_
            refine e_iaload dX3_goFrom_49 rfl rfl rfl (by omega) (by decide) ?_
            refine e_iconst dX3_goFrom_50 rfl ?_
            refine e_icmp_ne (t := 89) dX3_goFrom_51 rfl rfl (by omega) (by omega) (fun h51 => ?_) (fun h51 => ?_)
            · refine f_iinc dX3_goFrom_89 rfl rfl (Nat.le_of_ble_eq_true rfl) rfl ?_
              refine e_goto (n := 28) dX3_goFrom_92 rfl ?_
              exact ih28 _ (by omega) f (o + 1) gg rr rfl (by omega) w28 s28 c28 (fun p p1 p2 l => by rcases (show p < o ∨ p = o by omega) with q | q; exact v28 p p1 q l; rw [q] at l ⊢; first | omega | (exact fun _ => absurd l h67) | (exact absurd l h67) | (exact sSea_full (F := F) (g0 := g) (rc := rr) (a := b) hc.2 (by rw [show (10 : Int) = f by omega]; exact s28) o (by omega)))
            · refine e_aload_n dX3_goFrom_54 rfl rfl ?_
              refine e_aload_n dX3_goFrom_55 rfl rfl ?_
              refine e_getfield fd_X3_15 dX3_goFrom_56 rfl rfl rfl rfl ?_
              refine e_iload dX3_goFrom_59 rfl rfl ?_
              refine e_iaload dX3_goFrom_61 rfl rfl rfl (by omega) (by decide) ?_
              refine e_iload dX3_goFrom_62 rfl rfl ?_
              refine e_cV0 [3, 4, 5, 6, 7, 8, 9, 10, 11, 12] lk_X3_46 rfl dX3_goFrom_64 rfl (C_X2_linked (F := F) hF0 (s28.2.2.2.1 v (by omega) (by omega)).1 (by omega)) rfl rfl (Nat.le_of_ble_eq_true rfl) (Nat.le_of_ble_eq_true rfl) (Nat.le_of_ble_eq_true rfl) ⟨rfl, rfl⟩ rfl rfl rfl rfl rfl rfl  ?_
              refine e_ifb_eq (t := 89) dX3_goFrom_67 rfl rfl (fun h67 => ?_) (fun h67 => ?_)
              · refine f_iinc dX3_goFrom_89 rfl rfl (Nat.le_of_ble_eq_true rfl) rfl ?_
                refine e_goto (n := 28) dX3_goFrom_92 rfl ?_
                exact ih28 _ (by omega) f (o + 1) gg rr rfl (by omega) w28 s28 c28 (fun p p1 p2 l => by rcases (show p < o ∨ p = o by omega) with q | q; exact v28 p p1 q l; rw [q] at l ⊢; first | omega | (exact fun _ => absurd l h67) | (exact absurd l h67) | (exact sSea_full (F := F) (g0 := g) (rc := rr) (a := b) hc.2 (by rw [show (10 : Int) = f by omega]; exact s28) o (by omega)))
              · refine e_aload_n dX3_goFrom_70 rfl rfl ?_
                refine e_getfield fd_X3_9 dX3_goFrom_71 rfl rfl rfl rfl ?_
                refine e_iload dX3_goFrom_74 rfl rfl ?_
                refine e_iload_n dX3_goFrom_76 rfl rfl ?_
                refine e_iastore dX3_goFrom_77 rfl rfl rfl (by omega) (by decide) ?_
                refine e_aload_n dX3_goFrom_78 rfl rfl ?_
                refine e_getfield fd_X3_15 dX3_goFrom_79 rfl rfl rfl rfl ?_
                refine e_iload_n dX3_goFrom_82 rfl rfl ?_
                refine e_iload dX3_goFrom_83 rfl rfl ?_
                refine e_iastore dX3_goFrom_85 rfl rfl rfl (by omega) (by decide) ?_
                refine f_iinc dX3_goFrom_86 rfl rfl (Nat.le_of_ble_eq_true rfl) rfl ?_
                refine f_iinc dX3_goFrom_89 rfl rfl (Nat.le_of_ble_eq_true rfl) rfl ?_
                refine e_goto (n := 28) dX3_goFrom_92 rfl ?_
                exact ih28 _ (by omega) (f + 1) (o + 1) _ _ rfl (by omega) (by omega) (sSea_new s28 hb (by omega) (by omega) (by omega) (by omega) (by omega) h67) (fun i i1 i2 p hp l => by
                  rw [eU_ne (show i ≠ f by omega)] at l
                  have := c28 i i1 i2 p hp l
                  by_cases q : p = o
                  · rw [q, eU_self]; omega
                  · rw [eU_ne q]; exact this) (fun p p1 p2 l => by
                  rw [eU_ne (show v ≠ f by omega)] at l
                  by_cases q : p = o
                  · rw [q, eU_self]; omega
                  · rw [eU_ne q]; exact v28 p p1 (by omega) l)
      exact hL28 _ f 0 gg rr rfl (by omega) (by omega) s19 c19 (fun p p1 p2 => by omega)
  refine EV.fgt 5 ?_
  exact hL19 _ 1 0 _ _ rfl (by omega) (sSea_0 hb (by omega) hg hr) (fun i i1 i2 => by omega)
theorem C_X3_goThrough {X : eXT} {a : Nat → Nat} {N : Int} {F : eFs} {P g rc : Int → Int} (hF : okF N F) (hg : okG g) (hr : ∀ j, 0 ≤ rc j ∧ rc j ≤ 9)  :
    EM X mX3_goThrough (eRm 5) a [.ref (a 0), .ref (a 3)] (wFm a g rc F P) (eRets none a (fun cs1 => ∃ g1 rc1 : Int → Int, cs1 = wFm a g1 rc1 F P ∧ (∀ j, 0 ≤ rc1 j ∧ rc1 j ≤ 9) ∧ sGrd F g1)) := by
  refine EM.of (by decide +kernel) rfl (Nat.le_of_ble_eq_true rfl) ?_
  have hF0 := hF
  obtain ⟨hc, hld, hled, htn, hgo, hkp, hst, hwt, hcl, hsh, hnx, hN, rx, ry, rh, rm, rcl, rw9⟩ := hF
  refine e_iconst dX3_goThrough_0 rfl ?_
  refine f_istore_n dX3_goThrough_1 rfl (Nat.le_of_ble_eq_true rfl) rfl ?_
  have hL2 : ∀ (k2 : Nat) (k : Int) (gg : Int → Int) (hk2 : (F.1 0 - k).toNat = k2) (g2 : 0 ≤ k ∧ k ≤ F.1 0) (k2 : okG gg) (e2 : ∀ j, 0 ≤ j → j < k → gg j = -1), EV (mX3_goThrough, (eRm 5), eRets none a (fun cs1 => ∃ g1 rc1 : Int → Int, cs1 = wFm a g1 rc1 F P ∧ (∀ j, 0 ≤ rc1 j ∧ rc1 j ≤ 9) ∧ sGrd F g1), X) a (0, 0) (wFm a gg rc F P) 2 [some (.ref (a 0)), some (.ref (a 3)), some (vi k)] [] := by
    intro k2
    induction k2 using Nat.strongRecOn with
    | _ k2 ih2 =>
    intro k gg hk2 g2 k2 e2
    refine e_iload_n dX3_goThrough_2 rfl rfl ?_
    refine e_aload_n dX3_goThrough_3 rfl rfl ?_
    refine e_getfield fd_X3_22 dX3_goThrough_4 rfl rfl rfl rfl ?_
    refine e_icmp_ge (t := 23) dX3_goThrough_7 rfl rfl (by omega) (by omega) (fun h7 => ?_) (fun h7 => ?_)
    · refine e_iconst dX3_goThrough_23 rfl ?_
      refine f_istore_n dX3_goThrough_24 rfl (Nat.le_of_ble_eq_true rfl) rfl ?_
      have hL25 : ∀ (k25 : Nat) (k : Int) (gg rr : Int → Int) (hk25 : (F.1 0 - k).toNat = k25) (g25 : 0 ≤ k ∧ k ≤ F.1 0) (k25 : okG gg) (r25 : ∀ j, 0 ≤ rr j ∧ rr j ≤ 9) (e25 : sGrs F gg) (d25 : ∀ j, 0 ≤ j → j < k → ¬ gg j = -1), EV (mX3_goThrough, (eRm 5), eRets none a (fun cs1 => ∃ g1 rc1 : Int → Int, cs1 = wFm a g1 rc1 F P ∧ (∀ j, 0 ≤ rc1 j ∧ rc1 j ≤ 9) ∧ sGrd F g1), X) a (0, 0) (wFm a gg rr F P) 25 [some (.ref (a 0)), some (.ref (a 3)), some (vi k)] [] := by
        intro k25
        induction k25 using Nat.strongRecOn with
        | _ k25 ih25 =>
        intro k gg rr hk25 g25 k25 r25 e25 d25
        have kk := k25 k
        refine e_iload_n dX3_goThrough_25 rfl rfl ?_
        refine e_aload_n dX3_goThrough_26 rfl rfl ?_
        refine e_getfield fd_X3_22 dX3_goThrough_27 rfl rfl rfl rfl ?_
        refine e_icmp_ge (t := 55) dX3_goThrough_30 rfl rfl (by omega) (by omega) (fun h30 => ?_) (fun h30 => ?_)
        · exact e_vret dX3_goThrough_55 rfl ⟨rfl, rfl, gg, rr, rfl, r25, k25, fun b hb => (e25.1 b hb).elim (fun q => absurd q (d25 b hb.1 (by have := hb.2; omega))) id⟩
        · refine e_aload_n dX3_goThrough_33 rfl rfl ?_
          refine e_getfield fd_X3_9 dX3_goThrough_34 rfl rfl rfl rfl ?_
          refine e_iload_n dX3_goThrough_37 rfl rfl ?_
          refine e_iaload dX3_goThrough_38 rfl rfl rfl (by omega) (by decide) ?_
          refine e_iconst dX3_goThrough_39 rfl ?_
          refine e_icmp_ne (t := 49) dX3_goThrough_40 rfl rfl (by omega) (by omega) (fun h40 => ?_) (fun h40 => ?_)
          · refine f_iinc dX3_goThrough_49 rfl rfl (Nat.le_of_ble_eq_true rfl) rfl ?_
            refine e_goto (n := 25) dX3_goThrough_52 rfl ?_
            exact ih25 _ (by omega) (k + 1) gg rr rfl (by omega) k25 r25 e25 (fun j j1 j2 => by rcases (show j < k ∨ j = k by omega) with q | q; exact d25 j j1 q; subst q; exact h40)
          · refine e_aload_n dX3_goThrough_43 rfl rfl ?_
            refine e_aload_n dX3_goThrough_44 rfl rfl ?_
            refine e_iload_n dX3_goThrough_45 rfl rfl ?_
            refine e_cV1 [0, 1, 2, 3, 4, 5, 6, 7, 8, 9, 10, 11, 12] lk_X3_42 rfl dX3_goThrough_46 rfl (C_X3_goFrom hF0 k25 r25 (by omega) e25 (by omega) d25) rfl rfl (Nat.le_of_ble_eq_true rfl) (Nat.le_of_ble_eq_true rfl) (Nat.le_of_ble_eq_true rfl) ⟨rfl, rfl⟩ rfl rfl rfl rfl rfl rfl (fun cs1 hcs => by obtain ⟨g1, rc1, hcs, -⟩ := hcs; rw [hcs]; rfl) ?_
            intro cs1 hcs
            obtain ⟨g1, rc1, hcs, hr1, hp1⟩ := hcs
            subst hcs
            refine EV.ceq (cs' := wFm a g1 rc1 F P) rfl ?_
            refine f_iinc dX3_goThrough_49 rfl rfl (Nat.le_of_ble_eq_true rfl) rfl ?_
            refine e_goto (n := 25) dX3_goThrough_52 rfl ?_
            exact ih25 _ (by omega) (k + 1) g1 rc1 rfl (by omega) hp1.1 hr1 hp1.2.1 hp1.2.2
      exact hL25 _ 0 gg rc rfl (by omega) k2 hr ⟨fun b hb => Or.inl (e2 b hb.1 (by have := hb.2; omega)), fun b c hb hc _ _ => e2 c hc.1 (by have := hc.2; omega)⟩ (fun j _ _ => by omega)
    · refine e_aload_n dX3_goThrough_10 rfl rfl ?_
      refine e_getfield fd_X3_9 dX3_goThrough_11 rfl rfl rfl rfl ?_
      refine e_iload_n dX3_goThrough_14 rfl rfl ?_
      refine e_iconst dX3_goThrough_15 rfl ?_
      refine e_iastore dX3_goThrough_16 rfl rfl rfl (by omega) (by decide) ?_
      refine f_iinc dX3_goThrough_17 rfl rfl (Nat.le_of_ble_eq_true rfl) rfl ?_
      refine e_goto (n := 2) dX3_goThrough_20 rfl ?_
      exact ih2 _ (by omega) (k + 1) _ rfl (by omega) (fun j => eU_b k2 (by omega) j) (fun j j1 j2 => by by_cases q : j = k; rw [q, eU_self]; rw [eU_ne q]; exact e2 j j1 (by omega))
  exact hL2 _ 0 g rfl (by omega) hg (fun j _ _ => by omega)
theorem C_X3_countByGoing {X : eXT} {a : Nat → Nat} {N : Int} {F : eFs} {P g rc : Int → Int} (hF : okF N F) (hg : okG g) (hr : ∀ j, 0 ≤ rc j ∧ rc j ≤ 9)  :
    EM X mX3_countByGoing (eRm 6) a [.ref (a 0), .ref (a 3)] (wFm a g rc F P) (eRets (some (vi (sFor F))) a (fun cs1 => ∃ g1 rc1 : Int → Int, cs1 = wFm a g1 rc1 F P ∧ (∀ j, 0 ≤ rc1 j ∧ rc1 j ≤ 9) ∧ okG g1)) := by
  refine EM.of (by decide +kernel) rfl (Nat.le_of_ble_eq_true rfl) ?_
  have hF0 := hF
  obtain ⟨hc, hld, hled, htn, hgo, hkp, hst, hwt, hcl, hsh, hnx, hN, rx, ry, rh, rm, rcl, rw9⟩ := hF
  refine e_aload_n dX3_countByGoing_0 rfl rfl ?_
  refine e_aload_n dX3_countByGoing_1 rfl rfl ?_
  refine e_cV1 [0, 1, 2, 3, 4, 5, 6, 7, 8, 9, 10, 11, 12] lk_X3_18 rfl dX3_countByGoing_2 rfl (C_X3_goThrough hF0 hg hr) rfl rfl (Nat.le_of_ble_eq_true rfl) (Nat.le_of_ble_eq_true rfl) (Nat.le_of_ble_eq_true rfl) ⟨rfl, rfl⟩ rfl rfl rfl rfl rfl rfl (fun cs1 hcs => by obtain ⟨g1, rc1, hcs, -⟩ := hcs; rw [hcs]; rfl) ?_
  intro cs1 hcs
  obtain ⟨g1, rc1, hcs, hr1, hp1⟩ := hcs
  subst hcs
  refine EV.ceq (cs' := wFm a g1 rc1 F P) rfl ?_
  have hg1 := hp1.1
  refine e_iconst dX3_countByGoing_5 rfl ?_
  refine f_istore_n dX3_countByGoing_6 rfl (Nat.le_of_ble_eq_true rfl) rfl ?_
  refine e_iconst dX3_countByGoing_7 rfl ?_
  refine f_istore_n dX3_countByGoing_8 rfl (Nat.le_of_ble_eq_true rfl) rfl ?_
  have hL9 : ∀ (k9 : Nat) (k n : Int) (hk9 : ((F.1 0) - k).toNat = k9) (g9 : 0 ≤ k ∧ k ≤ F.1 0) (e9 : 0 + eCB (fun b => g1 b = b) (F.1 0) 0 = n + eCB (fun b => g1 b = b) (F.1 0) k) , EV (mX3_countByGoing, (eRm 6), eRets (some (vi (sFor F))) a (fun cs1 => ∃ g1 rc1 : Int → Int, cs1 = wFm a g1 rc1 F P ∧ (∀ j, 0 ≤ rc1 j ∧ rc1 j ≤ 9) ∧ okG g1), X) a (0, 0) (wFm a g1 rc1 F P) 9 [some (.ref (a 0)), some (.ref (a 3)), some (vi n), some (vi k)] [] := by
    intro k9
    induction k9 using Nat.strongRecOn with
    | _ k9 ih9 =>
    intro k n hk9 g9 e9
    have kk := hg1 k
    refine e_iload_n dX3_countByGoing_9 rfl rfl ?_
    refine e_aload_n dX3_countByGoing_10 rfl rfl ?_
    refine e_getfield fd_X3_22 dX3_countByGoing_11 rfl rfl rfl rfl ?_
    refine e_icmp_ge (t := 41) dX3_countByGoing_14 rfl rfl (by omega) (by omega) (fun h14 => ?_) (fun h14 => ?_)
    · refine e_iload_n dX3_countByGoing_41 rfl rfl ?_
      exact e_iret dX3_countByGoing_42 rfl rfl ⟨by rw [show n = sFor F from (by have w := eCB_end (P := fun b => g1 b = b) (n := F.1 0) (i := k) (by omega); have w2 : sFor F = eCB (fun b => g1 b = b) (F.1 0) 0 := eCB_cong (fun j a b => by rw [hp1.2 j ⟨a, b⟩]); omega)], rfl, g1, rc1, rfl, hr1, hg1⟩
    · refine e_iload_n dX3_countByGoing_17 rfl rfl ?_
      have hJ33 : ∀ (z : Int) (hz : z = eI1 (g1 k = k)), EV (mX3_countByGoing, (eRm 6), eRets (some (vi (sFor F))) a (fun cs1 => ∃ g1 rc1 : Int → Int, cs1 = wFm a g1 rc1 F P ∧ (∀ j, 0 ≤ rc1 j ∧ rc1 j ≤ 9) ∧ okG g1), X) a (0, 0) (wFm a g1 rc1 F P) 33 [some (.ref (a 0)), some (.ref (a 3)), some (vi n), some (vi k)] [vi z, vi n] := by
        intro z hz
        refine e_iadd dX3_countByGoing_33 rfl ?_
        refine f_istore_n dX3_countByGoing_34 rfl (Nat.le_of_ble_eq_true rfl) rfl ?_
        refine f_iinc dX3_countByGoing_35 rfl rfl (Nat.le_of_ble_eq_true rfl) rfl ?_
        refine e_goto (n := 9) dX3_countByGoing_38 rfl ?_
        exact ih9 _ (by omega) (k + 1) (n + z) rfl (by omega) (by have w := eCB_go (P := fun b => g1 b = b) (n := F.1 0) (i := k) (by omega); omega)
      refine e_aload_n dX3_countByGoing_18 rfl rfl ?_
      refine e_getfield fd_X3_9 dX3_countByGoing_19 rfl rfl rfl rfl ?_
      refine e_iload_n dX3_countByGoing_22 rfl rfl ?_
      refine e_iaload dX3_countByGoing_23 rfl rfl rfl (by omega) (by decide) ?_
      refine e_iload_n dX3_countByGoing_24 rfl rfl ?_
      refine e_icmp_ne (t := 32) dX3_countByGoing_25 rfl rfl (by omega) (by omega) (fun h25 => ?_) (fun h25 => ?_)
      · refine e_iconst dX3_countByGoing_32 rfl ?_
        exact hJ33 _ (eI1_f (by omega)).symm
      · refine e_iconst dX3_countByGoing_28 rfl ?_
        refine e_goto (n := 33) dX3_countByGoing_29 rfl ?_
        exact hJ33 _ (eI1_t (by omega)).symm
  exact hL9 _ 0 0 rfl (by omega) rfl 
theorem C_X3_lowestWith {X : eXT} {a : Nat → Nat} {N : Int} {F : eFs} {P g rc : Int → Int} (hF : okF N F) (hg : okG g) (hr : ∀ j, 0 ≤ rc j ∧ rc j ≤ 9) {b : Int} (hb : sHas F b) :
    EM X mX3_lowestWith (eRm 6) a [.ref (a 0), .ref (a 3), vi b] (wFm a g rc F P) (eRets (some (vi (sGr F b))) a (fun cs1 => ∃ g1 rc1 : Int → Int, cs1 = wFm a g1 rc1 F P ∧ (∀ j, 0 ≤ rc1 j ∧ rc1 j ≤ 9) ∧ okG g1)) := by
  refine EM.of (by decide +kernel) rfl (Nat.le_of_ble_eq_true rfl) ?_
  have hF0 := hF
  obtain ⟨hc, hld, hled, htn, hgo, hkp, hst, hwt, hcl, hsh, hnx, hN, rx, ry, rh, rm, rcl, rw9⟩ := hF
  refine e_aload_n dX3_lowestWith_0 rfl rfl ?_
  refine e_aload_n dX3_lowestWith_1 rfl rfl ?_
  refine e_cV1 [0, 1, 2, 3, 4, 5, 6, 7, 8, 9, 10, 11, 12] lk_X3_18 rfl dX3_lowestWith_2 rfl (C_X3_goThrough hF0 hg hr) rfl rfl (Nat.le_of_ble_eq_true rfl) (Nat.le_of_ble_eq_true rfl) (Nat.le_of_ble_eq_true rfl) ⟨rfl, rfl⟩ rfl rfl rfl rfl rfl rfl (fun cs1 hcs => by obtain ⟨g1, rc1, hcs, -⟩ := hcs; rw [hcs]; rfl) ?_
  intro cs1 hcs
  obtain ⟨g1, rc1, hcs, hr1, hp1⟩ := hcs
  subst hcs
  refine EV.ceq (cs' := wFm a g1 rc1 F P) rfl ?_
  have hg1 := hp1.1
  refine e_aload_n dX3_lowestWith_5 rfl rfl ?_
  refine e_iload_n dX3_lowestWith_6 rfl rfl ?_
  refine e_cV0 [3, 4, 5, 6, 7, 8, 9, 10, 11, 12] lk_X3_28 rfl dX3_lowestWith_7 rfl (C_X2_has (F := F) hF0 (by omega)) rfl rfl (Nat.le_of_ble_eq_true rfl) (Nat.le_of_ble_eq_true rfl) (Nat.le_of_ble_eq_true rfl) ⟨rfl, rfl⟩ rfl rfl rfl rfl rfl rfl  ?_
  refine e_ifb_eq (t := 22) dX3_lowestWith_10 rfl rfl (fun h10 => ?_) (fun h10 => ?_)
  · exact absurd hb h10
  · refine e_aload_n dX3_lowestWith_13 rfl rfl ?_
    refine e_getfield fd_X3_9 dX3_lowestWith_14 rfl rfl rfl rfl ?_
    refine e_iload_n dX3_lowestWith_17 rfl rfl ?_
    refine e_iaload dX3_lowestWith_18 rfl rfl rfl (by omega) (by decide) ?_
    refine e_goto (n := 23) dX3_lowestWith_19 rfl ?_
    exact e_iret dX3_lowestWith_23 rfl rfl ⟨by rw [hp1.2 b hb], rfl, g1, rc1, rfl, hr1, hg1⟩
theorem C_X3_sizeOfGroup {X : eXT} {a : Nat → Nat} {N : Int} {F : eFs} {P g rc : Int → Int} (hF : okF N F) (hg : okG g) (hr : ∀ j, 0 ≤ rc j ∧ rc j ≤ 9) {q : Int} (hq : 0 ≤ q ∧ q ≤ 9) :
    EM X mX3_sizeOfGroup (eRm 0) a [.ref (a 0), .ref (a 3), vi q] (wFm a g rc F P) (eRet (some (vi (eCB (fun c => g c = q) (F.1 0) 0))) a (wFm a g rc F P)) := by
  refine EM.of (by decide +kernel) rfl (Nat.le_of_ble_eq_true rfl) ?_
  have hF0 := hF
  obtain ⟨hc, hld, hled, htn, hgo, hkp, hst, hwt, hcl, hsh, hnx, hN, rx, ry, rh, rm, rcl, rw9⟩ := hF
  refine e_iconst dX3_sizeOfGroup_0 rfl ?_
  refine f_istore_n dX3_sizeOfGroup_1 rfl (Nat.le_of_ble_eq_true rfl) rfl ?_
  refine e_iconst dX3_sizeOfGroup_2 rfl ?_
  refine f_istore dX3_sizeOfGroup_3 rfl (Nat.le_of_ble_eq_true rfl) rfl ?_
  have hL5 : ∀ (k5 : Nat) (k n : Int) (hk5 : ((F.1 0) - k).toNat = k5) (g5 : 0 ≤ k ∧ k ≤ F.1 0) (e5 : 0 + eCB (fun c => g c = q) (F.1 0) 0 = n + eCB (fun c => g c = q) (F.1 0) k) , EV (mX3_sizeOfGroup, (eRm 0), eRet (some (vi (eCB (fun c => g c = q) (F.1 0) 0))) a (wFm a g rc F P), X) a (0, 0) (wFm a g rc F P) 5 [some (.ref (a 0)), some (.ref (a 3)), some (vi q), some (vi n), some (vi k)] [] := by
    intro k5
    induction k5 using Nat.strongRecOn with
    | _ k5 ih5 =>
    intro k n hk5 g5 e5
    have kk := hg k
    refine e_iload dX3_sizeOfGroup_5 rfl rfl ?_
    refine e_aload_n dX3_sizeOfGroup_7 rfl rfl ?_
    refine e_getfield fd_X3_22 dX3_sizeOfGroup_8 rfl rfl rfl rfl ?_
    refine e_icmp_ge (t := 39) dX3_sizeOfGroup_11 rfl rfl (by omega) (by omega) (fun h11 => ?_) (fun h11 => ?_)
    · refine e_iload_n dX3_sizeOfGroup_39 rfl rfl ?_
      exact e_iret dX3_sizeOfGroup_40 rfl rfl (eRet_i (by have w := eCB_end (P := fun c => g c = q) (n := F.1 0) (i := k) (by omega); omega) rfl)
    · refine e_iload_n dX3_sizeOfGroup_14 rfl rfl ?_
      have hJ31 : ∀ (z : Int) (hz : z = eI1 (g k = q)), EV (mX3_sizeOfGroup, (eRm 0), eRet (some (vi (eCB (fun c => g c = q) (F.1 0) 0))) a (wFm a g rc F P), X) a (0, 0) (wFm a g rc F P) 31 [some (.ref (a 0)), some (.ref (a 3)), some (vi q), some (vi n), some (vi k)] [vi z, vi n] := by
        intro z hz
        refine e_iadd dX3_sizeOfGroup_31 rfl ?_
        refine f_istore_n dX3_sizeOfGroup_32 rfl (Nat.le_of_ble_eq_true rfl) rfl ?_
        refine f_iinc dX3_sizeOfGroup_33 rfl rfl (Nat.le_of_ble_eq_true rfl) rfl ?_
        refine e_goto (n := 5) dX3_sizeOfGroup_36 rfl ?_
        exact ih5 _ (by omega) (k + 1) (n + z) rfl (by omega) (by have w := eCB_go (P := fun c => g c = q) (n := F.1 0) (i := k) (by omega); omega)
      refine e_aload_n dX3_sizeOfGroup_15 rfl rfl ?_
      refine e_getfield fd_X3_9 dX3_sizeOfGroup_16 rfl rfl rfl rfl ?_
      refine e_iload dX3_sizeOfGroup_19 rfl rfl ?_
      refine e_iaload dX3_sizeOfGroup_21 rfl rfl rfl (by omega) (by decide) ?_
      refine e_iload_n dX3_sizeOfGroup_22 rfl rfl ?_
      refine e_icmp_ne (t := 30) dX3_sizeOfGroup_23 rfl rfl (by omega) (by omega) (fun h23 => ?_) (fun h23 => ?_)
      · refine e_iconst dX3_sizeOfGroup_30 rfl ?_
        exact hJ31 _ (eI1_f (by omega)).symm
      · refine e_iconst dX3_sizeOfGroup_26 rfl ?_
        refine e_goto (n := 31) dX3_sizeOfGroup_27 rfl ?_
        exact hJ31 _ (eI1_t (by omega)).symm
  exact hL5 _ 0 0 rfl (by omega) rfl 
theorem C_X3_largest {X : eXT} {a : Nat → Nat} {N : Int} {F : eFs} {P g rc : Int → Int} (hF : okF N F) (hg : okG g) (hr : ∀ j, 0 ≤ rc j ∧ rc j ≤ 9)  :
    EM X mX3_largest (eRm 6) a [.ref (a 0), .ref (a 3)] (wFm a g rc F P) (eRets (some (vi (sLrg F))) a (fun cs1 => ∃ g1 rc1 : Int → Int, cs1 = wFm a g1 rc1 F P ∧ (∀ j, 0 ≤ rc1 j ∧ rc1 j ≤ 9) ∧ okG g1)) := by
  refine EM.of (by decide +kernel) rfl (Nat.le_of_ble_eq_true rfl) ?_
  have hF0 := hF
  obtain ⟨hc, hld, hled, htn, hgo, hkp, hst, hwt, hcl, hsh, hnx, hN, rx, ry, rh, rm, rcl, rw9⟩ := hF
  refine e_aload_n dX3_largest_0 rfl rfl ?_
  refine e_aload_n dX3_largest_1 rfl rfl ?_
  refine e_cV1 [0, 1, 2, 3, 4, 5, 6, 7, 8, 9, 10, 11, 12] lk_X3_18 rfl dX3_largest_2 rfl (C_X3_goThrough hF0 hg hr) rfl rfl (Nat.le_of_ble_eq_true rfl) (Nat.le_of_ble_eq_true rfl) (Nat.le_of_ble_eq_true rfl) ⟨rfl, rfl⟩ rfl rfl rfl rfl rfl rfl (fun cs1 hcs => by obtain ⟨g1, rc1, hcs, -⟩ := hcs; rw [hcs]; rfl) ?_
  intro cs1 hcs
  obtain ⟨g1, rc1, hcs, hr1, hp1⟩ := hcs
  subst hcs
  refine EV.ceq (cs' := wFm a g1 rc1 F P) rfl ?_
  have hg1 := hp1.1
  refine e_iconst dX3_largest_5 rfl ?_
  refine f_istore_n dX3_largest_6 rfl (Nat.le_of_ble_eq_true rfl) rfl ?_
  refine e_iconst dX3_largest_7 rfl ?_
  refine f_istore_n dX3_largest_8 rfl (Nat.le_of_ble_eq_true rfl) rfl ?_
  have hL9 : ∀ (k9 : Nat) (k m : Int) (hk9 : (F.1 0 - k).toNat = k9) (g9 : 0 ≤ k ∧ k ≤ F.1 0) (m9 : 0 ≤ m ∧ m ≤ 10) (e9 : sLrg F = sMax (fun q => sSiz F q) (F.1 0 - k).toNat k m), EV (mX3_largest, (eRm 6), eRets (some (vi (sLrg F))) a (fun cs1 => ∃ g1 rc1 : Int → Int, cs1 = wFm a g1 rc1 F P ∧ (∀ j, 0 ≤ rc1 j ∧ rc1 j ≤ 9) ∧ okG g1), X) a (0, 0) (wFm a g1 rc1 F P) 9 [some (.ref (a 0)), some (.ref (a 3)), some (vi m), some (vi k)] [] := by
    intro k9
    induction k9 using Nat.strongRecOn with
    | _ k9 ih9 =>
    intro k m hk9 g9 m9 e9
    refine e_iload_n dX3_largest_9 rfl rfl ?_
    refine e_aload_n dX3_largest_10 rfl rfl ?_
    refine e_getfield fd_X3_22 dX3_largest_11 rfl rfl rfl rfl ?_
    refine e_icmp_ge (t := 34) dX3_largest_14 rfl rfl (by omega) (by omega) (fun h14 => ?_) (fun h14 => ?_)
    · refine e_iload_n dX3_largest_34 rfl rfl ?_
      exact e_iret dX3_largest_35 rfl rfl ⟨by rw [e9.trans (sMax_end (by omega))], rfl, g1, rc1, rfl, hr1, hg1⟩
    · refine e_iload_n dX3_largest_17 rfl rfl ?_
      refine e_aload_n dX3_largest_18 rfl rfl ?_
      refine e_aload_n dX3_largest_19 rfl rfl ?_
      refine e_iload_n dX3_largest_20 rfl rfl ?_
      refine e_cV0 [0, 1, 2, 3, 4, 5, 6, 7, 8, 9, 10, 11, 12] lk_X3_32 rfl dX3_largest_21 rfl (C_X3_sizeOfGroup hF0 hg1 hr1 (by omega)) rfl rfl (Nat.le_of_ble_eq_true rfl) (Nat.le_of_ble_eq_true rfl) (Nat.le_of_ble_eq_true rfl) ⟨rfl, rfl⟩ rfl rfl rfl rfl rfl rfl  ?_
      have u9 : 0 ≤ eCB (fun c => g1 c = k) (F.1 0) 0 ∧ eCB (fun c => g1 c = k) (F.1 0) 0 ≤ F.1 0 - 0 := eCB_in (by omega)
      have s9 : sSiz F k = eCB (fun c => g1 c = k) (F.1 0) 0 := eCB_cong (fun j a b => by rw [hp1.2 j ⟨a, b⟩])
      refine e_max ma_X3_36 dX3_largest_24 rfl (Nat.le_of_ble_eq_true rfl) (Nat.le_of_ble_eq_true rfl) (by omega) (by omega) ?_
      refine f_istore_n dX3_largest_27 rfl (Nat.le_of_ble_eq_true rfl) rfl ?_
      refine f_iinc dX3_largest_28 rfl rfl (Nat.le_of_ble_eq_true rfl) rfl ?_
      refine e_goto (n := 9) dX3_largest_31 rfl ?_
      exact ih9 _ (by omega) (k + 1) _ rfl (by omega) (by split <;> omega) (by rw [e9, sMax_go (by omega), show sSiz F k = eCB (fun c => g1 c = k) (F.1 0) 0 from s9])
  exact hL9 _ 0 0 rfl (by omega) (by omega) rfl
theorem C_X3_merge {X : eXT} {a : Nat → Nat} {N : Int} {F : eFs} {P g rc : Int → Int} (hF : okF N F) (hg : okG g) (hr : ∀ j, 0 ≤ rc j ∧ rc j ≤ 9) {x y : Int} (hx : 0 ≤ x ∧ x ≤ 9) (hy : 0 ≤ y ∧ y ≤ 9) :
    EM X mX3_merge (eRm 0) a [.ref (a 0), .ref (a 3), vi x, vi y] (wFm a g rc F P) (eRets none a (fun cs1 => ∃ h : Int → Int, cs1 = wFm a h rc F P ∧ ∀ j, h j = if 0 ≤ j ∧ j < F.1 0 ∧ g j = y then x else g j)) := by
  refine EM.of (by decide +kernel) rfl (Nat.le_of_ble_eq_true rfl) ?_
  have hF0 := hF
  obtain ⟨hc, hld, hled, htn, hgo, hkp, hst, hwt, hcl, hsh, hnx, hN, rx, ry, rh, rm, rcl, rw9⟩ := hF
  refine e_iconst dX3_merge_0 rfl ?_
  refine f_istore dX3_merge_1 rfl (Nat.le_of_ble_eq_true rfl) rfl ?_
  have hL3 : ∀ (k3 : Nat) (k : Int) (h : Int → Int) (hk3 : (F.1 0 - k).toNat = k3) (g3 : 0 ≤ k ∧ k ≤ F.1 0) (e3 : ∀ j, h j = if 0 ≤ j ∧ j < k ∧ g j = y then x else g j), EV (mX3_merge, (eRm 0), eRets none a (fun cs1 => ∃ h : Int → Int, cs1 = wFm a h rc F P ∧ ∀ j, h j = if 0 ≤ j ∧ j < F.1 0 ∧ g j = y then x else g j), X) a (0, 0) (wFm a h rc F P) 3 [some (.ref (a 0)), some (.ref (a 3)), some (vi x), some (vi y), some (vi k)] [] := by
    intro k3
    induction k3 using Nat.strongRecOn with
    | _ k3 ih3 =>
    intro k h hk3 g3 e3
    have kk := hg k
    have kh : h k = g k := by rw [e3, if_neg (by omega)]
    refine e_iload dX3_merge_3 rfl rfl ?_
    refine e_aload_n dX3_merge_5 rfl rfl ?_
    refine e_getfield fd_X3_22 dX3_merge_6 rfl rfl rfl rfl ?_
    refine e_icmp_ge (t := 37) dX3_merge_9 rfl rfl (by omega) (by omega) (fun h9 => ?_) (fun h9 => ?_)
    · exact e_vret dX3_merge_37 rfl ⟨rfl, rfl, h, rfl, fun j => by rw [e3]; by_cases r : 0 ≤ j ∧ j < F.1 0 ∧ g j = y; rw [if_pos r, if_pos (by omega)]; rw [if_neg r, if_neg (by omega)]⟩
    · refine e_aload_n dX3_merge_12 rfl rfl ?_
      refine e_getfield fd_X3_9 dX3_merge_13 rfl rfl rfl rfl ?_
      refine e_iload dX3_merge_16 rfl rfl ?_
      refine e_iaload dX3_merge_18 rfl rfl rfl (by omega) (by decide) ?_
      refine e_iload_n dX3_merge_19 rfl rfl ?_
      refine e_icmp_ne (t := 31) dX3_merge_20 rfl rfl (by omega) (by omega) (fun h20 => ?_) (fun h20 => ?_)
      · refine f_iinc dX3_merge_31 rfl rfl (Nat.le_of_ble_eq_true rfl) rfl ?_
        refine e_goto (n := 3) dX3_merge_34 rfl ?_
        exact ih3 _ (by omega) (k + 1) h rfl (by omega) (fun j => by rw [e3]; by_cases r : 0 ≤ j ∧ j < k ∧ g j = y; rw [if_pos r, if_pos (by omega)]; rw [if_neg r, if_neg (by rintro ⟨r1, r2, r3⟩; rcases (show j < k ∨ j = k by omega) with q | q; exact r ⟨r1, q, r3⟩; subst q; omega)])
      · refine e_aload_n dX3_merge_23 rfl rfl ?_
        refine e_getfield fd_X3_9 dX3_merge_24 rfl rfl rfl rfl ?_
        refine e_iload dX3_merge_27 rfl rfl ?_
        refine e_iload_n dX3_merge_29 rfl rfl ?_
        refine e_iastore dX3_merge_30 rfl rfl rfl (by omega) (by decide) ?_
        refine f_iinc dX3_merge_31 rfl rfl (Nat.le_of_ble_eq_true rfl) rfl ?_
        refine e_goto (n := 3) dX3_merge_34 rfl ?_
        exact ih3 _ (by omega) (k + 1) _ rfl (by omega) (fun j => by by_cases q : j = k; rw [q, eU_self, if_pos (by omega)]; rw [eU_ne q, e3]; by_cases r : 0 ≤ j ∧ j < k ∧ g j = y; rw [if_pos r, if_pos (by omega)]; rw [if_neg r, if_neg (by omega)])
  exact hL3 _ 0 g rfl (by omega) (fun j => by rw [if_neg (by omega)])
theorem C_X3_countByMerging {X : eXT} {a : Nat → Nat} {N : Int} {F : eFs} {P g rc : Int → Int} (hF : okF N F) (hg : okG g) (hr : ∀ j, 0 ≤ rc j ∧ rc j ≤ 9)  :
    EM X mX3_countByMerging (eRm 4) a [.ref (a 0), .ref (a 3)] (wFm a g rc F P) (eRets (some (vi (sFor F))) a (fun cs1 => ∃ g1 rc1 : Int → Int, cs1 = wFm a g1 rc1 F P ∧ (∀ j, 0 ≤ rc1 j ∧ rc1 j ≤ 9) ∧ okG g1)) := by
  refine EM.of (by decide +kernel) rfl (Nat.le_of_ble_eq_true rfl) ?_
  have hF0 := hF
  obtain ⟨hc, hld, hled, htn, hgo, hkp, hst, hwt, hcl, hsh, hnx, hN, rx, ry, rh, rm, rcl, rw9⟩ := hF
  refine e_iconst dX3_countByMerging_0 rfl ?_
  refine f_istore_n dX3_countByMerging_1 rfl (Nat.le_of_ble_eq_true rfl) rfl ?_
  have hL2 : ∀ (k2 : Nat) (k : Int) (gg : Int → Int) (hk2 : (F.1 0 - k).toNat = k2) (g2 : 0 ≤ k ∧ k ≤ F.1 0) (k2 : okG gg) (e2 : ∀ j, 0 ≤ j → j < k → gg j = j), EV (mX3_countByMerging, (eRm 4), eRets (some (vi (sFor F))) a (fun cs1 => ∃ g1 rc1 : Int → Int, cs1 = wFm a g1 rc1 F P ∧ (∀ j, 0 ≤ rc1 j ∧ rc1 j ≤ 9) ∧ okG g1), X) a (0, 0) (wFm a gg rc F P) 2 [some (.ref (a 0)), some (.ref (a 3)), some (vi k), none, none] [] := by
    intro k2
    induction k2 using Nat.strongRecOn with
    | _ k2 ih2 =>
    intro k gg hk2 g2 k2 e2
    refine e_iload_n dX3_countByMerging_2 rfl rfl ?_
    refine e_aload_n dX3_countByMerging_3 rfl rfl ?_
    refine e_getfield fd_X3_22 dX3_countByMerging_4 rfl rfl rfl rfl ?_
    refine e_icmp_ge (t := 23) dX3_countByMerging_7 rfl rfl (by omega) (by omega) (fun h7 => ?_) (fun h7 => ?_)
    · refine e_aload_n dX3_countByMerging_23 rfl rfl ?_
      refine e_getfield fd_X3_22 dX3_countByMerging_24 rfl rfl rfl rfl ?_
      refine f_istore_n dX3_countByMerging_27 rfl (Nat.le_of_ble_eq_true rfl) rfl ?_
      refine e_iconst dX3_countByMerging_28 rfl ?_
      refine f_istore_n dX3_countByMerging_29 rfl (Nat.le_of_ble_eq_true rfl) rfl ?_
      have hL30 : ∀ (k30 : Nat) (f b : Int) (gg : Int → Int) (hk30 : (F.1 0 - b).toNat = k30) (g30 : 0 ≤ b ∧ b ≤ F.1 0) (s30 : sMgs F gg f b (b + 1)), EV (mX3_countByMerging, (eRm 4), eRets (some (vi (sFor F))) a (fun cs1 => ∃ g1 rc1 : Int → Int, cs1 = wFm a g1 rc1 F P ∧ (∀ j, 0 ≤ rc1 j ∧ rc1 j ≤ 9) ∧ okG g1), X) a (0, 0) (wFm a gg rc F P) 30 [some (.ref (a 0)), some (.ref (a 3)), some (vi f), some (vi b), none] [] := by
        intro k30
        induction k30 using Nat.strongRecOn with
        | _ k30 ih30 =>
        intro f b gg hk30 g30 s30
        refine e_iload_n dX3_countByMerging_30 rfl rfl ?_
        refine e_aload_n dX3_countByMerging_31 rfl rfl ?_
        refine e_getfield fd_X3_22 dX3_countByMerging_32 rfl rfl rfl rfl ?_
        refine e_icmp_ge (t := 111) dX3_countByMerging_35 rfl rfl (by omega) (by omega) (fun h35 => ?_) (fun h35 => ?_)
        · refine e_iload_n dX3_countByMerging_111 rfl rfl ?_
          exact e_iret dX3_countByMerging_112 rfl rfl ⟨by rw [sMgs_end s30 (by omega)], rfl, gg, rc, rfl, hr, s30.1⟩
        · refine e_iload_n dX3_countByMerging_38 rfl rfl ?_
          refine e_iconst dX3_countByMerging_39 rfl ?_
          refine e_iadd dX3_countByMerging_40 rfl ?_
          refine f_istore dX3_countByMerging_41 rfl (Nat.le_of_ble_eq_true rfl) rfl ?_
          have hL43 : ∀ (k43 : Nat) (f o : Int) (gg : Int → Int) (hk43 : (F.1 0 - o).toNat = k43) (g43 : b + 1 ≤ o ∧ o ≤ F.1 0 ∧ b < F.1 0) (s43 : sMgs F gg f b o), EV (mX3_countByMerging, (eRm 4), eRets (some (vi (sFor F))) a (fun cs1 => ∃ g1 rc1 : Int → Int, cs1 = wFm a g1 rc1 F P ∧ (∀ j, 0 ≤ rc1 j ∧ rc1 j ≤ 9) ∧ okG g1), X) a (0, 0) (wFm a gg rc F P) 43 [some (.ref (a 0)), some (.ref (a 3)), some (vi f), some (vi b), some (vi o)] [] := by
            intro k43
            induction k43 using Nat.strongRecOn with
            | _ k43 ih43 =>
            intro f o gg hk43 g43 s43
            have k1 := s43.1 b
            have k2 := s43.1 o
            have k3 := (s43.2.1 b (by omega)).1
            refine e_iload dX3_countByMerging_43 rfl rfl ?_
            refine e_aload_n dX3_countByMerging_45 rfl rfl ?_
            refine e_getfield fd_X3_22 dX3_countByMerging_46 rfl rfl rfl rfl ?_
            refine e_icmp_ge (t := 105) dX3_countByMerging_49 rfl rfl (by omega) (by omega) (fun h49 => ?_) (fun h49 => ?_)
            · refine f_iinc dX3_countByMerging_105 rfl rfl (Nat.le_of_ble_eq_true rfl) rfl ?_
              refine e_goto (n := 30) dX3_countByMerging_108 rfl ?_
              refine EV.fgt 4 ?_
              exact ih30 _ (by omega) f (b + 1) gg rfl (by omega) (sMgs_next s43 (by omega))
            · refine e_aload_n dX3_countByMerging_52 rfl rfl ?_
              refine e_getfield fd_X3_9 dX3_countByMerging_53 rfl rfl rfl rfl ?_
              refine e_iload_n dX3_countByMerging_56 rfl rfl ?_
              refine e_iaload dX3_countByMerging_57 rfl rfl rfl (by omega) (by decide) ?_
              refine e_aload_n dX3_countByMerging_58 rfl rfl ?_
              refine e_getfield fd_X3_9 dX3_countByMerging_59 rfl rfl rfl rfl ?_
              refine e_iload dX3_countByMerging_62 rfl rfl ?_
              refine e_iaload dX3_countByMerging_64 rfl rfl rfl (by omega) (by decide) ?_
              refine e_icmp_eq (t := 99) dX3_countByMerging_65 rfl rfl (by omega) (by omega) (fun h65 => ?_) (fun h65 => ?_)
              · refine f_iinc dX3_countByMerging_99 rfl rfl (Nat.le_of_ble_eq_true rfl) rfl ?_
                refine e_goto (n := 43) dX3_countByMerging_102 rfl ?_
                exact ih43 _ (by omega) f (o + 1) gg rfl (by omega) (sMgs_skip s43 (by omega))
              · refine e_aload_n dX3_countByMerging_68 rfl rfl ?_
                refine e_iload_n dX3_countByMerging_69 rfl rfl ?_
                refine e_iload dX3_countByMerging_70 rfl rfl ?_
                refine e_cV0 [3, 4, 5, 6, 7, 8, 9, 10, 11, 12] lk_X3_46 rfl dX3_countByMerging_72 rfl (C_X2_linked (F := F) hF0 (by omega) (by omega)) rfl rfl (Nat.le_of_ble_eq_true rfl) (Nat.le_of_ble_eq_true rfl) (Nat.le_of_ble_eq_true rfl) ⟨rfl, rfl⟩ rfl rfl rfl rfl rfl rfl  ?_
                refine e_ifb_eq (t := 99) dX3_countByMerging_75 rfl rfl (fun h75 => ?_) (fun h75 => ?_)
                · refine f_iinc dX3_countByMerging_99 rfl rfl (Nat.le_of_ble_eq_true rfl) rfl ?_
                  refine e_goto (n := 43) dX3_countByMerging_102 rfl ?_
                  exact ih43 _ (by omega) f (o + 1) gg rfl (by omega) (sMgs_skip s43 (by omega))
                · refine e_aload_n dX3_countByMerging_78 rfl rfl ?_
                  refine e_aload_n dX3_countByMerging_79 rfl rfl ?_
                  refine e_aload_n dX3_countByMerging_80 rfl rfl ?_
                  refine e_getfield fd_X3_9 dX3_countByMerging_81 rfl rfl rfl rfl ?_
                  refine e_iload_n dX3_countByMerging_84 rfl rfl ?_
                  refine e_iaload dX3_countByMerging_85 rfl rfl rfl (by omega) (by decide) ?_
                  refine e_aload_n dX3_countByMerging_86 rfl rfl ?_
                  refine e_getfield fd_X3_9 dX3_countByMerging_87 rfl rfl rfl rfl ?_
                  refine e_iload dX3_countByMerging_90 rfl rfl ?_
                  refine e_iaload dX3_countByMerging_92 rfl rfl rfl (by omega) (by decide) ?_
                  have k4 := (s43.2.1 o (by omega)).1
                  refine e_cV1 [0, 1, 2, 3, 4, 5, 6, 7, 8, 9, 10, 11, 12] lk_X3_50 rfl dX3_countByMerging_93 rfl (C_X3_merge hF0 s43.1 hr (by omega) (by omega)) rfl rfl (Nat.le_of_ble_eq_true rfl) (Nat.le_of_ble_eq_true rfl) (Nat.le_of_ble_eq_true rfl) ⟨rfl, rfl⟩ rfl rfl rfl rfl rfl rfl (fun cs1 hcs => by obtain ⟨h, hcs, -⟩ := hcs; rw [hcs]; rfl) ?_
                  intro cs1 hcs
                  obtain ⟨h, hcs, hh⟩ := hcs
                  subst hcs
                  refine EV.ceq (cs' := wFm a h rc F P) rfl ?_
                  refine f_iinc dX3_countByMerging_96 rfl rfl (Nat.le_of_ble_eq_true rfl) rfl ?_
                  refine f_iinc dX3_countByMerging_99 rfl rfl (Nat.le_of_ble_eq_true rfl) rfl ?_
                  refine e_goto (n := 43) dX3_countByMerging_102 rfl ?_
                  exact ih43 _ (by omega) (f + -1) (o + 1) h rfl (by omega) (sMgs_mrg s43 (by omega) (by omega) h65 (by omega) hh)
          exact hL43 _ f (b + 1) gg rfl (by omega) s30
      refine EV.fgt 4 ?_
      exact hL30 _ (F.1 0) 0 gg rfl (by omega) (sMgs_0 k2 (fun j hj => e2 j hj.1 (by have := hj.2; omega)) (by omega))
    · refine e_aload_n dX3_countByMerging_10 rfl rfl ?_
      refine e_getfield fd_X3_9 dX3_countByMerging_11 rfl rfl rfl rfl ?_
      refine e_iload_n dX3_countByMerging_14 rfl rfl ?_
      refine e_iload_n dX3_countByMerging_15 rfl rfl ?_
      refine e_iastore dX3_countByMerging_16 rfl rfl rfl (by omega) (by decide) ?_
      refine f_iinc dX3_countByMerging_17 rfl rfl (Nat.le_of_ble_eq_true rfl) rfl ?_
      refine e_goto (n := 2) dX3_countByMerging_20 rfl ?_
      refine EV.fgt 3 ?_
      refine EV.fgt 4 ?_
      exact ih2 _ (by omega) (k + 1) _ rfl (by omega) (fun j => eU_b k2 (by omega) j) (fun j j1 j2 => by by_cases q : j = k; rw [q, eU_self]; rw [eU_ne q]; exact e2 j j1 (by omega))
  refine EV.fgt 3 ?_
  refine EV.fgt 4 ?_
  exact hL2 _ 0 g rfl (by omega) hg (fun j _ _ => by omega)
