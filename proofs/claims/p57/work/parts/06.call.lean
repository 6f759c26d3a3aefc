/-! ===== EV: calls ===== -/
def eR (ρ : List Nat) (k : Nat) : Nat := ρ.getD k 0
/-- the caller's cells with the callee's put back -/
def eMrg (cs : List eE) : List Nat → List eE → List eE
  | r :: ρ, c :: cs1 => (eMrg cs ρ cs1).set r c
  | _, _ => cs
theorem eMrg_len {cs : List eE} : ∀ (ρ : List Nat) (cs1 : List eE), (eMrg cs ρ cs1).length = cs.length
  | [], _ => rfl
  | _ :: _, [] => rfl
  | r :: ρ, c :: cs1 => by simp [eMrg, eMrg_len ρ cs1]
theorem eMrg_out {cs : List eE} {k : Nat} : ∀ (ρ : List Nat) (cs1 : List eE), k ∉ ρ → (eMrg cs ρ cs1)[k]? = cs[k]?
  | [], _, _ => rfl
  | _ :: _, [], _ => rfl
  | r :: ρ, c :: cs1, h => by
    simp only [eMrg]
    rw [List.getElem?_set_ne (fun e => h (by rw [e]; exact List.mem_cons_self))]
    exact eMrg_out ρ cs1 (fun e => h (List.mem_cons_of_mem _ e))
theorem eMrg_in {cs : List eE} {k : Nat} {c : eE} : ∀ (ρ : List Nat) (cs1 : List eE) (j : Nat), va_nd ρ = true → ρ[j]? = some k → cs1[j]? = some c → k < cs.length → (eMrg cs ρ cs1)[k]? = some c
  | [], _, j, _, h, _, _ => by simp at h
  | _ :: _, [], j, _, _, h, _ => by simp at h
  | r :: ρ, c0 :: cs1, j, hn, h1, h2, hk => by
    simp only [va_nd, Bool.and_eq_true, decide_eq_true_eq] at hn
    cases j with
    | zero =>
      simp at h1 h2
      subst h1; subst h2
      simp only [eMrg]
      rw [List.getElem?_set_self (by rw [eMrg_len]; exact hk)]
    | succ j =>
      simp at h1 h2
      simp only [eMrg]
      rw [List.getElem?_set_ne (fun e => hn.1 (by rw [e]; exact List.mem_of_getElem? h1))]
      exact eMrg_in ρ cs1 j hn.2 h1 h2 hk
theorem eSel_at {cs cs0 : List eE} {ρ : List Nat} (hsel : ρ.map (fun i => cs[i]?) = cs0.map some) {j : Nat} {c : eE} (h : cs0[j]? = some c) : ∃ k, ρ[j]? = some k ∧ cs[k]? = some c ∧ eR ρ j = k := by
  have h1 : (ρ.map (fun i => cs[i]?))[j]? = some (some c) := by rw [hsel, List.getElem?_map, h]; rfl
  rw [List.getElem?_map] at h1
  cases hk : ρ[j]? with
  | none => rw [hk] at h1; cases h1
  | some k =>
    rw [hk] at h1
    exact ⟨k, rfl, Option.some.inj h1, by simp [eR, List.getD, hk]⟩
theorem eSel_len {cs cs0 : List eE} {ρ : List Nat} (hsel : ρ.map (fun i => cs[i]?) = cs0.map some) : ρ.length = cs0.length := by
  have := congrArg List.length hsel
  simpa using this
theorem eSel_lt {cs cs0 : List eE} {ρ : List Nat} (hsel : ρ.map (fun i => cs[i]?) = cs0.map some) {k : Nat} (h : k ∈ ρ) : k < cs.length := by
  obtain ⟨j, hj⟩ := List.getElem?_of_mem h
  have hl : j < cs0.length := by rw [← eSel_len hsel]; exact (List.getElem?_eq_some_iff.mp hj).1
  obtain ⟨k', h1, h2, -⟩ := eSel_at hsel (List.getElem?_eq_getElem hl)
  rw [hj] at h1
  cases h1
  exact (List.getElem?_eq_some_iff.mp h2).1
theorem eJoin {G : eG} {a a1 a2 : Nat → Nat} {cs cs0 cs1 : List eE} {ρ : List Nat} {A : Nat → Prop} {H H1 : Heap} (hP : va_P G.1 eCl (eW G a cs) H) (hD : va_D A (eW G a cs)) (hsel : ρ.map (fun i => cs[i]?) = cs0.map some) (hnd : va_nd ρ = true)
    (hk : ∀ q : Nat, q < H.size → ¬ va_A (eW G (fun k => a (eR ρ k)) cs0) H.size q → H1[q]? = H[q]?) (hP1 : va_P G.1 eCl (eW G a1 cs1) H1) (hD1 : va_D (va_A (eW G (fun k => a (eR ρ k)) cs0) H.size) (eW G a1 cs1))
    (ha1 : ∀ k, k < ρ.length → a1 k = a (eR ρ k)) (hlen : ρ.length ≤ cs1.length) (hA : ∀ q, H.size ≤ q → A q) (h2 : ∀ j, j < cs.length → a2 j = a j) (h3 : ∀ i, a2 (cs.length + i) = a1 (ρ.length + i)) :
    va_P G.1 eCl (eW G a2 (eMrg cs ρ cs1 ++ cs1.drop ρ.length)) H1 ∧ va_D A (eW G a2 (eMrg cs ρ cs1 ++ cs1.drop ρ.length)) := by
  have hl0 := eSel_len hsel
  -- a cell of the new world: one of the callee's, or an old one that is none of the callee's
  have cell : ∀ (k : Nat) (c : eE), (eMrg cs ρ cs1 ++ cs1.drop ρ.length)[k]? = some c →
      (∃ j, cs1[j]? = some c ∧ a2 k = a1 j ∧ (k < cs.length → ρ[j]? = some k) ∧ (cs.length ≤ k → j = ρ.length + (k - cs.length))) ∨ (k < cs.length ∧ cs[k]? = some c ∧ a2 k = a k ∧ k ∉ ρ) := by
    intro k c h
    by_cases hlt : k < cs.length
    · rw [List.getElem?_append_left (by rw [eMrg_len]; exact hlt)] at h
      by_cases hm : k ∈ ρ
      · obtain ⟨j, hj⟩ := List.getElem?_of_mem hm
        have hjl : j < ρ.length := (List.getElem?_eq_some_iff.mp hj).1
        have hj1 : cs1[j]? = some cs1[j] := List.getElem?_eq_getElem (by omega)
        rw [eMrg_in ρ cs1 j hnd hj hj1 hlt] at h
        refine Or.inl ⟨j, by rw [hj1]; exact h, ?_, fun _ => hj, fun q => by omega⟩
        rw [h2 k hlt, ha1 j hjl]
        simp [eR, List.getD, hj]
      · rw [eMrg_out ρ cs1 hm] at h
        exact Or.inr ⟨hlt, h, h2 k hlt, hm⟩
    · rw [List.getElem?_append_right (by rw [eMrg_len]; omega), eMrg_len, List.getElem?_drop] at h
      refine Or.inl ⟨ρ.length + (k - cs.length), h, ?_, fun q => absurd q hlt, fun _ => rfl⟩
      rw [← h3]
      congr 1
      omega
  have old : ∀ (k : Nat) (c : eE), k < cs.length → cs[k]? = some c → k ∉ ρ → a k < H.size ∧ ¬ va_A (eW G (fun k => a (eR ρ k)) cs0) H.size (a k) := by
    intro k c hlt hc hm
    have hl := (hP k _ (eW_at hc)).lt
    refine ⟨hl, fun h => ?_⟩
    rcases h with ⟨j, x, h⟩ | h
    · obtain ⟨c1, hc1, hx⟩ := eW_in h
      obtain ⟨k', g1, g2, g3⟩ := eSel_at hsel hc1
      have e1 : a k = a (eR ρ j) := congrArg Prod.fst hx
      rw [g3] at e1
      have := hD.1 k k' _ _ (eW_at hc) (eW_at g2) e1
      subst this
      exact hm (List.mem_of_getElem? g1)
    · have hl2 : a k < H.size := hl
      exact absurd h (by omega)
  refine ⟨fun k q hq => ?_, ⟨fun i j x y hi hj hxy => ?_, fun k q hq => ?_⟩⟩
  · obtain ⟨c, hc, rfl⟩ := eW_in hq
    rcases cell k c hc with ⟨j, g1, g2, -, -⟩ | ⟨g1, g2, g3, g4⟩
    · rw [g2]; exact hP1 j _ (eW_at g1)
    · rw [g3]
      obtain ⟨o1, o2⟩ := old k c g1 g2 g4
      exact (hP k _ (eW_at g2)).kept (hk _ o1 o2)
  · obtain ⟨c, hc, rfl⟩ := eW_in hi
    obtain ⟨c', hc', rfl⟩ := eW_in hj
    have hxy : a2 i = a2 j := hxy
    rcases cell i c hc with ⟨u, g1, g2, g3, g4⟩ | ⟨g1, g2, g3, g4⟩ <;> rcases cell j c' hc' with ⟨v, f1, f2, f3, f4⟩ | ⟨f1, f2, f3, f4⟩
    · have huv : u = v := hD1.1 u v _ _ (eW_at g1) (eW_at f1) (by show a1 u = a1 v; rw [← g2, ← f2]; exact hxy)
      subst huv
      by_cases hi2 : i < cs.length <;> by_cases hj2 : j < cs.length
      · have := (g3 hi2).symm.trans (f3 hj2); exact Option.some.inj this
      · have e := f4 (by omega)
        have : u < ρ.length := (List.getElem?_eq_some_iff.mp (g3 hi2)).1
        omega
      · have e := g4 (by omega)
        have : u < ρ.length := (List.getElem?_eq_some_iff.mp (f3 hj2)).1
        omega
      · have e := g4 (by omega)
        have e2 := f4 (by omega)
        omega
    · exfalso
      have h9 := hD1.2 u _ (eW_at g1)
      have h8 := (old j c' f1 f2 f4).2
      apply h8
      rw [← f3, ← hxy, g2]; exact h9
    · exfalso
      have h9 := hD1.2 v _ (eW_at f1)
      have h8 := (old i c g1 g2 g4).2
      apply h8
      rw [← g3, hxy, f2]; exact h9
    · exact hD.1 i j _ _ (eW_at g2) (eW_at f2) (by show a i = a j; rw [← g3, ← f3]; exact hxy)
  · obtain ⟨c, hc, rfl⟩ := eW_in hq
    show A (a2 k)
    rcases cell k c hc with ⟨u, g1, g2, g3, g4⟩ | ⟨g1, g2, g3, g4⟩
    · rw [g2]
      rcases hD1.2 u _ (eW_at g1) with ⟨j, x, h⟩ | h
      · obtain ⟨c1, hc1, hx⟩ := eW_in h
        obtain ⟨k', o1, o2, o3⟩ := eSel_at hsel hc1
        have e1 : a1 u = a (eR ρ j) := congrArg Prod.fst hx
        rw [e1, o3]
        exact hD.2 k' _ (eW_at o2)
      · exact hA _ h
    · rw [g3]; exact hD.2 k _ (eW_at g2)
