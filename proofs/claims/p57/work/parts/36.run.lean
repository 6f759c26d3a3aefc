/-! ===== clouds counted; BasketFlock: run ===== -/
theorem eMrg_tail {X C : List eE} : ∀ (ρ : List Nat) (cs1 : List eE), (∀ k ∈ ρ, k < X.length) → eMrg (X ++ C) ρ cs1 = eMrg X ρ cs1 ++ C
  | [], _, _ => rfl
  | _ :: _, [], _ => rfl
  | r :: ρ, c :: cs1, h => by
    simp only [eMrg]
    rw [eMrg_tail ρ cs1 (fun k hk => h k (List.mem_cons_of_mem _ hk)), List.set_append_left _ _ (by rw [eMrg_len]; exact h r List.mem_cons_self)]
theorem eMrg_oneC {cs cs1 cs' A S B C : List eE} {ρ : List Nat} (hcs : cs = (A ++ (S ++ B)) ++ C) (hcs' : (A ++ (cs1 ++ B)) ++ C = cs') (hnd : va_nd ρ = true) (hρ : ρ = List.range' A.length S.length) (h1 : cs1.length = S.length) : eMrg cs ρ cs1 = cs' := by
  rw [hcs, ← hcs', eMrg_tail ρ cs1 (fun k hk => by rw [hρ, List.mem_range'_1] at hk; simp only [List.length_append]; omega), eMrg_one hnd hρ h1]
theorem eMrg_twoC {cs cs1 cs' A S B T S' T' C : List eE} {ρ : List Nat} (hcs : cs = (A ++ (S ++ (B ++ T))) ++ C) (hcs1 : cs1 = S' ++ T') (hcs' : (A ++ (S' ++ (B ++ T'))) ++ C = cs') (hnd : va_nd ρ = true) (hρ : ρ = List.range' A.length S.length ++ List.range' (A.length + S.length + B.length) T.length) (h1 : S'.length = S.length) (h2 : T'.length = T.length) : eMrg cs ρ cs1 = cs' := by
  rw [hcs, hcs1, ← hcs', eMrg_tail ρ _ (fun k hk => by rw [hρ, List.mem_append, List.mem_range'_1, List.mem_range'_1] at hk; simp only [List.length_append]; omega), eMrg_two hnd hρ h1 h2]
theorem sCnt_at {F : eFs} {x y : Int} (h : sIn x y) (hb : sBit (F.2 4 y) x) : 1 ≤ sCnt F := by
  have e1 := eSB_split (f := fun y => eCB (fun x => sBit (F.2 4 y) x) 12 0) (n := 12) (m := y) (i := 0) (by omega) (by omega)
  have e2 := eSB_go (f := fun y => eCB (fun x => sBit (F.2 4 y) x) 12 0) (n := 12) (i := y) (by omega)
  have a1 := (eSB_bnd (f := fun y => eCB (fun x => sBit (F.2 4 y) x) 12 0) (n := y) (i := 0) (lo := 0) (hi := 12) (fun j _ _ => by have := eCB_in (P := fun x => sBit (F.2 4 j) x) (n := 12) (i := 0) (by omega); omega) (by omega)).1
  have a2 := (eSB_bnd (f := fun y => eCB (fun x => sBit (F.2 4 y) x) 12 0) (n := 12) (i := y + 1) (lo := 0) (hi := 12) (fun j _ _ => by have := eCB_in (P := fun x => sBit (F.2 4 j) x) (n := 12) (i := 0) (by omega); omega) (by omega)).1
  have a3 := eCB_pos (P := fun x => sBit (F.2 4 y) x) (n := 12) (i := 0) (j := x) h.1 h.2.1 hb
  unfold sCnt
  omega
theorem sCnt_upd {F : eFs} {x y w d : Int} (h : sIn x y) (hw : ∀ u, 0 ≤ u → u < 12 → u ≠ x → (sBit (F.2 4 y) u ↔ sBit w u)) (hd : d = eI1 (sBit w x) - eI1 (sBit (F.2 4 y) x)) (k : Nat) (v : Int) (hk : k ≠ 9 ∨ k = 9) : sCnt (sS (sA F 4 y w) k v) = sCnt F + d := by
  have e : sCnt (sS (sA F 4 y w) k v) = eSB (eU (fun j => eCB (fun u => sBit (F.2 4 j) u) 12 0) y (eCB (fun u => sBit w u) 12 0)) 12 0 := by
    unfold sCnt
    apply eSB_cong
    intro j a b
    show eCB (fun u => sBit (eU (F.2 4) y w j) u) 12 0 = _
    by_cases q : j = y
    · subst q; rw [eU_self, eU_self]
    · rw [eU_ne q, eU_ne q]
  rw [e, eSB_upd (by omega) (by omega), eCB_upd (P := fun u => sBit (F.2 4 y) u) (R := fun u => sBit w u) (n := 12) (i := 0) (c := x) h.1 h.2.1 hw]
  unfold sCnt
  omega
abbrev okC (F : eFs) : Prop := sCnt F = F.1 9
theorem okC_cput {N : Int} {F : eFs} {x y : Int} (hF : okF N F) (h : okC F) (hin : sIn x y) (hnb : ¬ sBit (F.2 4 y) x) : okC (sCPut F x y) := by
  have hr := hF.2.2.2.2.2.2.2.2.2.2.2.2.2.2.2.2.1 y
  have e := sCnt_upd (F := F) (w := bOr (F.2 4 y) (bShl 1 x)) (d := 1) hin (fun u u0 u1 un => by rw [(sBit_or hr hin.1 hin.2.1 u0 u1).2]; exact ⟨Or.inl, fun q => q.elim id (fun q => absurd q un)⟩) (by rw [eI1_t ((sBit_or hr hin.1 hin.2.1 hin.1 hin.2.1).2.mpr (Or.inr rfl)), eI1_f hnb]; rfl) 9 (F.1 9 + 1) (Or.inr rfl)
  show sCnt (sCPut F x y) = F.1 9 + 1
  unfold sCPut
  rw [e, h]
theorem okC_crem {N : Int} {F : eFs} {x y : Int} (hF : okF N F) (h : okC F) (hin : sCov (F.2 4) x y) : okC (sCRem F x y) := by
  have hr := hF.2.2.2.2.2.2.2.2.2.2.2.2.2.2.2.2.1 y
  have e := sCnt_upd (F := F) (w := bAnd (F.2 4 y) (bXor (bShl 1 x) (-1))) (d := -1) hin.1 (fun u u0 u1 un => by rw [(sBit_cl hr hin.1.1 hin.1.2.1 u0 u1).2]; exact ⟨fun q => ⟨q, un⟩, fun q => q.1⟩) (by rw [eI1_f (fun q => ((sBit_cl hr hin.1.1 hin.1.2.1 hin.1.1 hin.1.2.1).2.mp q).2 rfl), eI1_t hin.2]; rfl) 9 (F.1 9 - 1) (Or.inr rfl)
  show sCnt (sCRem F x y) = F.1 9 - 1
  unfold sCRem
  rw [e, h]; omega
theorem sCnt_row {F G : eFs} (h : G.2 4 = F.2 4) : sCnt G = sCnt F := by unfold sCnt; rw [h]
theorem okC_of {F G : eFs} (h : okC F) (h1 : G.2 4 = F.2 4) (h2 : G.1 9 = F.1 9) : okC G := by
  show sCnt G = G.1 9
  rw [sCnt_row h1, h2]; exact h
theorem sMF_row {F : eFs} {b : Int} : (sMF F b).2 4 = F.2 4 ∧ (sMF F b).1 9 = F.1 9 := by
  unfold sMF
  repeat' split
  all_goals exact ⟨rfl, rfl⟩
theorem sML_row {F : eFs} : (sML F).2 4 = F.2 4 ∧ (sML F).1 9 = F.1 9 := by
  unfold sML
  repeat' split
  all_goals exact ⟨rfl, rfl⟩
theorem sFols_row : ∀ (k : Nat) (b : Int) (F : eFs), (sFols k b F).2 4 = F.2 4 ∧ (sFols k b F).1 9 = F.1 9 := by
  intro k
  induction k with
  | zero => intro b F; exact ⟨rfl, rfl⟩
  | succ k ih => intro b F; exact ⟨(ih _ _).1.trans sMF_row.1, (ih _ _).2.trans sMF_row.2⟩
theorem sStp_row {F : eFs} : (sStp F).2 4 = F.2 4 ∧ (sStp F).1 9 = F.1 9 := by
  have h1 := sFols_row ((sML F).1 0 - 0).toNat 0 (sML F)
  have h2 := sML_row (F := F)
  have h3 : ∀ G : eFs, (sPL (sTik (sRem G))).2 4 = G.2 4 ∧ (sPL (sTik (sRem G))).1 9 = G.1 9 := by
    intro G
    unfold sPL sRem
    repeat' split
    all_goals exact ⟨rfl, rfl⟩
  exact ⟨(h3 _).1.trans (h1.1.trans h2.1), (h3 _).2.trans (h1.2.trans h2.2)⟩
theorem sSts_row : ∀ (k : Nat) (F : eFs), (sSts k F).2 4 = F.2 4 ∧ (sSts k F).1 9 = F.1 9 := by
  intro k
  induction k with
  | zero => intro F; exact ⟨rfl, rfl⟩
  | succ k ih => intro F; exact ⟨(ih _).1.trans sStp_row.1, (ih _).2.trans sStp_row.2⟩
theorem okC_do {N : Int} {F : eFs} {k p q r : Int} (hk : 0 ≤ k ∧ k ≤ 8) (hF : okF N F) (h : okC F) (e : sHin F k p q r = 0) : okC (sDo F k p q r) ∧ (k = 4 → 0 < F.1 9) := by
  rcases x9 hk with g | g | g | g | g | g | g | g | g <;> subst g
  · exact ⟨okC_of h rfl rfl, fun q => by omega⟩
  · exact ⟨okC_of h rfl rfl, fun q => by omega⟩
  · exact ⟨okC_of h rfl rfl, fun q => by omega⟩
  · have y := hCloud_0 e
    exact ⟨okC_cput hF h y.1 (fun q => y.2.2.1 ⟨y.1, q⟩), fun q => by omega⟩
  · have y := hClear_0 e
    have := sCnt_at y.1 y.2.2
    have h9 : sCnt F = F.1 9 := h
    exact ⟨okC_crem hF h y.2, fun _ => by omega⟩
  · exact ⟨okC_of h rfl rfl, fun q => by omega⟩
  · exact ⟨okC_of h rfl rfl, fun q => by omega⟩
  · exact ⟨okC_of h rfl rfl, fun q => by omega⟩
  · have y := sSts_row (p - 0).toNat F
    exact ⟨okC_of h y.1 y.2, fun q => by omega⟩
