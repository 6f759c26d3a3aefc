/-! ===== BasketFlock: run ===== -/
theorem eMrg_tail {X C : List eE} : ∀ (ρ : List Nat) (cs1 : List eE), (∀ k ∈ ρ, k < X.length) → eMrg (X ++ C) ρ cs1 = eMrg X ρ cs1 ++ C
  | [], _, _ => rfl
  | _ :: _, [], _ => rfl
  | r :: ρ, c :: cs1, h => by
    simp only [eMrg]
    rw [eMrg_tail ρ cs1 (fun k hk => h k (List.mem_cons_of_mem _ hk)), List.set_append_left _ _ (by rw [eMrg_len]; exact h r List.mem_cons_self)]
theorem eMrg_oneC {cs cs1 cs' A S B C : List eE} {ρ : List Nat} (hcs : cs = (A ++ (S ++ B)) ++ C) (hcs' : (A ++ (cs1 ++ B)) ++ C = cs') (hnd : va_nd ρ = true) (hρ : ρ = List.range' A.length S.length) (h1 : cs1.length = S.length) : eMrg cs ρ cs1 = cs' := by
  rw [hcs, ← hcs', eMrg_tail ρ cs1 (fun k hk => by rw [hρ, List.mem_range'_1] at hk; simp only [List.length_append]; omega), eMrg_one hnd hρ h1]
theorem eMrg_twoC {cs cs1 cs' A S B T S' T' C : List eE} {ρ : List Nat} (hcs : cs = (A ++ (S ++ (B ++ T))) ++ C) (hcs1 : cs1 = S' ++ T') (hcs' : (A ++ (S' ++ (B ++ T'))) ++ C = cs') (hnd : va_nd ρ = true) (hρ : ρ = List.range' A.length S.length ++ List.range' (A.length + S.length + B.length) T.length) (h1 : S'.length = S.length) (h2 : T'.length = T.length) : eMrg cs ρ cs1 = cs' := by
  rw [hcs, hcs1, ← hcs', eMrg_tail ρ _ (fun k hk => by rw [hρ, List.mem_append, List.mem_range'_1, List.mem_range'_1] at hk; simp only [List.length_append]; omega), eMrg_two hnd hρ h1 h2]
theorem sCnt_at {F : eFs} {x y : Int} (h : sIn x y) (hb : sBit (F.2 4 y) x) : 1 ≤ sCnt F := by
  have e1 := eSB_split (f := fun y => eCB (fun x => sBit (F.2 4 y) x) 12 0) (n := 12) (m := y) (i := 0) (by omega) (by omega)
  have e2 := eSB_go (f := fun y => eCB (fun x => sBit (F.2 4 y) x) 12 0) (n := 12) (i := y) (by omega)
  have a1 := (eSB_bnd (f := fun y => eCB (fun x => sBit (F.2 4 y) x) 12 0) (n := y) (i := 0) (lo := 0) (hi := 12) (fun j _ _ => by have := eCB_in (P := fun x => sBit (F.2 4 j) x) (n := 12) (i := 0) (by omega); omega) (by omega)).1
  have a2 := (eSB_bnd (f := fun y => eCB (fun x => sBit (F.2 4 y) x) 12 0) (n := 12) (i := y + 1) (lo := 0) (hi := 12) (fun j _ _ => by have := eCB_in (P := fun x => sBit (F.2 4 j) x) (n := 12) (i := 0) (by omega); omega) (by omega)).1
  have a3 := eCB_pos (P := fun x => sBit (F.2 4 y) x) (n := 12) (i := 0) (j := x) h.1 h.2.1 hb
  unfold sCnt
  omega
theorem sCnt_upd {F : eFs} {x y w d : Int} (h : sIn x y) (hw : ∀ u, 0 ≤ u → u < 12 → u ≠ x → (sBit (F.2 4 y) u ↔ sBit w u)) (hd : d = eI1 (sBit w x) - eI1 (sBit (F.2 4 y) x)) (k : Nat) (v : Int) (hk : k ≠ 9 ∨ k = 9) : sCnt (sS (sA F 4 y w) k v) = sCnt F + d := by
  have e : sCnt (sS (sA F 4 y w) k v) = eSB (eU (fun j => eCB (fun u => sBit (F.2 4 j) u) 12 0) y (eCB (fun u => sBit w u) 12 0)) 12 0 := by
    unfold sCnt
    apply eSB_cong
    intro j a b
    show eCB (fun u => sBit (eU (F.2 4) y w j) u) 12 0 = _
    by_cases q : j = y
    · subst q; rw [eU_self, eU_self]
    · rw [eU_ne q, eU_ne q]
  rw [e, eSB_upd (by omega) (by omega), eCB_upd (P := fun u => sBit (F.2 4 y) u) (R := fun u => sBit w u) (n := 12) (i := 0) (c := x) h.1 h.2.1 hw]
  unfold sCnt
  omega
abbrev okC (F : eFs) : Prop := sCnt F = F.1 9
theorem okC_cput {N : Int} {F : eFs} {x y : Int} (hF : okF N F) (h : okC F) (hin : sIn x y) (hnb : ¬ sBit (F.2 4 y) x) : okC (sCPut F x y) := by
  have hr := hF.2.2.2.2.2.2.2.2.2.2.2.2.2.2.2.2.1 y
  have e := sCnt_upd (F := F) (w := bOr (F.2 4 y) (bShl 1 x)) (d := 1) hin (fun u u0 u1 un => by rw [(sBit_or hr hin.1 hin.2.1 u0 u1).2]; exact ⟨Or.inl, fun q => q.elim id (fun q => absurd q un)⟩) (by rw [eI1_t ((sBit_or hr hin.1 hin.2.1 hin.1 hin.2.1).2.mpr (Or.inr rfl)), eI1_f hnb]; rfl) 9 (F.1 9 + 1) (Or.inr rfl)
  show sCnt (sCPut F x y) = F.1 9 + 1
  unfold sCPut
  rw [e, h]
theorem okC_crem {N : Int} {F : eFs} {x y : Int} (hF : okF N F) (h : okC F) (hin : sCov (F.2 4) x y) : okC (sCRem F x y) := by
  have hr := hF.2.2.2.2.2.2.2.2.2.2.2.2.2.2.2.2.1 y
  have e := sCnt_upd (F := F) (w := bAnd (F.2 4 y) (bXor (bShl 1 x) (-1))) (d := -1) hin.1 (fun u u0 u1 un => by rw [(sBit_cl hr hin.1.1 hin.1.2.1 u0 u1).2]; exact ⟨fun q => ⟨q, un⟩, fun q => q.1⟩) (by rw [eI1_f (fun q => ((sBit_cl hr hin.1.1 hin.1.2.1 hin.1.1 hin.1.2.1).2.mp q).2 rfl), eI1_t hin.2]; rfl) 9 (F.1 9 - 1) (Or.inr rfl)
  show sCnt (sCRem F x y) = F.1 9 - 1
  unfold sCRem
  rw [e, h]; omega
theorem sCnt_row {F G : eFs} (h : G.2 4 = F.2 4) : sCnt G = sCnt F := by unfold sCnt; rw [h]
theorem okC_of {F G : eFs} (h : okC F) (h1 : G.2 4 = F.2 4) (h2 : G.1 9 = F.1 9) : okC G := by
  show sCnt G = G.1 9
  rw [sCnt_row h1, h2]; exact h
theorem sMF_row {F : eFs} {b : Int} : (sMF F b).2 4 = F.2 4 ∧ (sMF F b).1 9 = F.1 9 := by
  unfold sMF
  repeat' split
  all_goals exact ⟨rfl, rfl⟩
theorem sML_row {F : eFs} : (sML F).2 4 = F.2 4 ∧ (sML F).1 9 = F.1 9 := by
  unfold sML
  repeat' split
  all_goals exact ⟨rfl, rfl⟩
theorem sFols_row : ∀ (k : Nat) (b : Int) (F : eFs), (sFols k b F).2 4 = F.2 4 ∧ (sFols k b F).1 9 = F.1 9 := by
  intro k
  induction k with
  | zero => intro b F; exact ⟨rfl, rfl⟩
  | succ k ih => intro b F; exact ⟨(ih _ _).1.trans sMF_row.1, (ih _ _).2.trans sMF_row.2⟩
theorem sStp_row {F : eFs} : (sStp F).2 4 = F.2 4 ∧ (sStp F).1 9 = F.1 9 := by
  have h1 := sFols_row ((sML F).1 0 - 0).toNat 0 (sML F)
  have h2 := sML_row (F := F)
  have h3 : ∀ G : eFs, (sPL (sTik (sRem G))).2 4 = G.2 4 ∧ (sPL (sTik (sRem G))).1 9 = G.1 9 := by
    intro G
    unfold sPL sRem
    repeat' split
    all_goals exact ⟨rfl, rfl⟩
  exact ⟨(h3 _).1.trans (h1.1.trans h2.1), (h3 _).2.trans (h1.2.trans h2.2)⟩
theorem sSts_row : ∀ (k : Nat) (F : eFs), (sSts k F).2 4 = F.2 4 ∧ (sSts k F).1 9 = F.1 9 := by
  intro k
  induction k with
  | zero => intro F; exact ⟨rfl, rfl⟩
  | succ k ih => intro F; exact ⟨(ih _).1.trans sStp_row.1, (ih _).2.trans sStp_row.2⟩
theorem okC_do {N : Int} {F : eFs} {k p q r : Int} (hk : 0 ≤ k ∧ k ≤ 8) (hF : okF N F) (h : okC F) (e : sHin F k p q r = 0) : okC (sDo F k p q r) ∧ (k = 4 → 0 < F.1 9) := by
  rcases x9 hk with g | g | g | g | g | g | g | g | g <;> subst g
  · exact ⟨okC_of h rfl rfl, fun q => by omega⟩
  · exact ⟨okC_of h rfl rfl, fun q => by omega⟩
  · exact ⟨okC_of h rfl rfl, fun q => by omega⟩
  · have y := hCloud_0 e
    exact ⟨okC_cput hF h y.1 (fun q => y.2.2.1 ⟨y.1, q⟩), fun q => by omega⟩
  · have y := hClear_0 e
    have := sCnt_at y.1 y.2.2
    have h9 : sCnt F = F.1 9 := h
    exact ⟨okC_crem hF h y.2, fun _ => by omega⟩
  · exact ⟨okC_of h rfl rfl, fun q => by omega⟩
  · exact ⟨okC_of h rfl rfl, fun q => by omega⟩
  · exact ⟨okC_of h rfl rfl, fun q => by omega⟩
  · have y := sSts_row (p - 0).toNat F
    exact ⟨okC_of h y.1 y.2, fun q => by omega⟩
/-- the commands from i on, over a draft: the failing one or -1, the draft -/
def sRn (K : Int → Int) (M : Int → Int → Int) : Nat → Int → eFs → (Int → Int) → Int × eFs × (Int → Int)
  | 0, _, G, Q => (-1, G, Q)
  | n + 1, i, G, Q => if sHin G (K i) (M i 0) (M i 1) (M i 2) = 0 then sRn K M n (i + 1) (sDo G (K i) (M i 0) (M i 1) (M i 2)) (sDoP G (K i) (M i 0) Q) else (i, G, Q)
theorem sRn_go {K : Int → Int} {M : Int → Int → Int} {m i : Int} {G : eFs} {Q : Int → Int} (h : i < m) (e : sHin G (K i) (M i 0) (M i 1) (M i 2) = 0) : sRn K M (m - i).toNat i G Q = sRn K M (m - (i + 1)).toNat (i + 1) (sDo G (K i) (M i 0) (M i 1) (M i 2)) (sDoP G (K i) (M i 0) Q) := by
  rw [show (m - i).toNat = (m - (i + 1)).toNat + 1 by omega]; exact if_pos e
theorem sRn_x {K : Int → Int} {M : Int → Int → Int} {m i : Int} {G : eFs} {Q : Int → Int} (h : i < m) (e : ¬ sHin G (K i) (M i 0) (M i 1) (M i 2) = 0) : sRn K M (m - i).toNat i G Q = (i, G, Q) := by
  rw [show (m - i).toNat = (m - (i + 1)).toNat + 1 by omega]; exact if_neg e
theorem sRn_0 {K : Int → Int} {M : Int → Int → Int} {m i : Int} {G : eFs} {Q : Int → Int} (h : m ≤ i) : sRn K M (m - i).toNat i G Q = (-1, G, Q) := by
  rw [show (m - i).toNat = 0 by omega]; rfl
theorem tPs_in {T : eFs} {MT : Int → Int → Int} (h : okT T MT) : ∀ (n : Nat) (cc p : Int) (K : Int → Int) (M : Int → Int → Int), 0 ≤ cc → cc + n ≤ 10 → 0 ≤ p → p ≤ T.1 0 → (∀ j, 0 ≤ K j ∧ K j ≤ 8) → (∀ c j, 0 ≤ M c j ∧ M c j ≤ 99) →
    (-1 ≤ (tPs (T.1 0) (tS (T.1 0) (T.2 0)) n cc p K M).1 ∧ (tPs (T.1 0) (tS (T.1 0) (T.2 0)) n cc p K M).1 ≤ T.1 0) ∧ (0 ≤ (tPs (T.1 0) (tS (T.1 0) (T.2 0)) n cc p K M).2.1 ∧ (tPs (T.1 0) (tS (T.1 0) (T.2 0)) n cc p K M).2.1 ≤ 10) ∧ (0 ≤ (tPs (T.1 0) (tS (T.1 0) (T.2 0)) n cc p K M).2.2.1 ∧ (tPs (T.1 0) (tS (T.1 0) (T.2 0)) n cc p K M).2.2.1 ≤ T.1 0) ∧
    (∀ j, 0 ≤ (tPs (T.1 0) (tS (T.1 0) (T.2 0)) n cc p K M).2.2.2.1 j ∧ (tPs (T.1 0) (tS (T.1 0) (T.2 0)) n cc p K M).2.2.2.1 j ≤ 8) ∧ (∀ c j, 0 ≤ (tPs (T.1 0) (tS (T.1 0) (T.2 0)) n cc p K M).2.2.2.2 c j ∧ (tPs (T.1 0) (tS (T.1 0) (T.2 0)) n cc p K M).2.2.2.2 c j ≤ 99) := by
  intro n
  induction n with
  | zero => intro cc p K M a1 a2 a3 a4 a5 a6; exact ⟨(show -1 ≤ p ∧ p ≤ T.1 0 by omega), (show 0 ≤ cc ∧ cc ≤ 10 by omega), ⟨a3, a4⟩, a5, a6⟩
  | succ n ih =>
    intro cc p K M a1 a2 a3 a4 a5 a6
    have m := tPa_in h (p0 := p) (r := M cc) a3 a4 (a6 cc)
    unfold tPs
    split
    · rename_i h0
      split
      · rename_i h59
        have w := tS_in (L := T.1 0) h.2.2.2.1 (tPa (tS (T.1 0) (T.2 0)) p (M cc)).2.1
        exact ih (cc + 1) _ _ _ (by omega) (by omega) (by omega) (by omega) (fun j => eU_b a5 (by omega) j) (tU_in a6 m.2.1)
      · refine ⟨?_, (show 0 ≤ cc + 1 ∧ cc + 1 ≤ 10 by omega), ⟨Int.le_trans a3 m.1.1, m.1.2⟩, fun j => eU_b a5 (by omega) j, tU_in a6 m.2.1⟩
        show -1 ≤ (if T.1 0 ≤ (tPa (tS (T.1 0) (T.2 0)) p (M cc)).2.1 then -1 else (tPa (tS (T.1 0) (T.2 0)) p (M cc)).2.1) ∧ (if T.1 0 ≤ (tPa (tS (T.1 0) (T.2 0)) p (M cc)).2.1 then -1 else (tPa (tS (T.1 0) (T.2 0)) p (M cc)).2.1) ≤ T.1 0
        split <;> omega
    · exact ⟨⟨Int.le_trans (by omega) m.1.1, m.1.2⟩, (show 0 ≤ cc ∧ cc ≤ 10 by omega), ⟨Int.le_trans a3 m.1.1, m.1.2⟩, a5, tU_in a6 m.2.1⟩
theorem tPR_in {T : eFs} {M : Int → Int → Int} (h : okT T M) : (-1 ≤ (tPR T M).1 ∧ (tPR T M).1 ≤ 60) ∧ (0 ≤ (tPR T M).2.1 ∧ (tPR T M).2.1 ≤ 10) ∧ (0 ≤ (tPR T M).2.2.1 ∧ (tPR T M).2.2.1 ≤ 60) ∧ (∀ j, 0 ≤ (tPR T M).2.2.2.1 j ∧ (tPR T M).2.2.2.1 j ≤ 8) ∧ (∀ c j, 0 ≤ (tPR T M).2.2.2.2 c j ∧ (tPR T M).2.2.2.2 c j ≤ 99) := by
  have hl := h.1
  have := tPs_in h ((10 : Int) - 0).toNat 0 0 (T.2 1) M (by omega) (by decide) (by omega) hl.1 h.2.2.2.2.1 h.2.2.2.2.2
  unfold tPR
  refine ⟨by omega, this.2.1, by omega, this.2.2.2.1, this.2.2.2.2⟩
/-- the text behind a run -/
def tRun (T : eFs) (M : Int → Int → Int) : eFs := sS (tCS T (tPR T M).2.2.2.1 (tPR T M).2.1 (tPR T M).2.2.1) 0 0
theorem okT_run {T : eFs} {M : Int → Int → Int} (h : okT T M) : okT (tRun T M) (tPR T M).2.2.2.2 := by
  have y := tPR_in h
  exact ⟨(show (0 : Int) ≤ 0 ∧ (0 : Int) ≤ 60 by omega), y.2.1, y.2.2.1, h.2.2.2.1, y.2.2.2.1, y.2.2.2.2⟩
def wRn (a : Nat → Nat) (q1 q2 q3 : Nat) (z : Nat → Int) (T : eFs) (M : Int → Int → Int) (G : eFs) (Q : Int → Int) (c n : Int) (h : eHs) (F : eFs) (P : Int → Int) : List eE := wO (a 107) (a 15) q1 (a 25) q2 (a 1) q3 z :: (wTx (fun k => a (1 + k)) T M ++ (wFl (fun k => a (15 + k)) G Q ++ (wHi (fun k => a (25 + k)) c n h ++ wFl (fun k => a (107 + k)) F P)))

set_option maxHeartbeats 20000000 in
theorem C_X6_run {X : eXT} {a : Nat → Nat} {q1 q2 q3 : Nat} {z : Nat → Int} {T : eFs} {M : Int → Int → Int} {D : eFs} {DQ : Int → Int} {c n : Int} {h : eHs} {N : Int} {F : eFs} {P : Int → Int} (hT : okT T M) (hz : okZ z) (hcc : 0 ≤ c ∧ c ≤ 8) (hnn : 0 ≤ n ∧ n ≤ 7) (hF : okF N F) (hC : okC F) (hNs : N + 40000 ≤ 100000000) :
    EM X mX6_run (eRt 8 1) a [.ref (a 0)] (wRn a q1 q2 q3 (z) (T) (M) (D) (DQ) (c) (n) (h) (F) (P)) (eOut (if (tPR T M).1 = -1 then (if (sRn ((tPR T M).2.2.2.1) ((tPR T M).2.2.2.2) ((tPR T M).2.1 - 0).toNat 0 F DQ).1 = -1 then none else some xSt) else some xAr) (some (vi ((tPR T M).2.1))) a ((if (tPR T M).1 = -1 then wRn a q1 q2 q3 (zS (zHi z ((sRn ((tPR T M).2.2.2.1) ((tPR T M).2.2.2.2) ((tPR T M).2.1 - 0).toNat 0 F DQ).2.1) ((tPR T M).2.2.2.1 (sRn ((tPR T M).2.2.2.1) ((tPR T M).2.2.2.2) ((tPR T M).2.1 - 0).toNat 0 F DQ).1) ((tPR T M).2.2.2.2 (sRn ((tPR T M).2.2.2.1) ((tPR T M).2.2.2.2) ((tPR T M).2.1 - 0).toNat 0 F DQ).1 0) ((tPR T M).2.2.2.2 (sRn ((tPR T M).2.2.2.1) ((tPR T M).2.2.2.2) ((tPR T M).2.1 - 0).toNat 0 F DQ).1 1) ((tPR T M).2.2.2.2 (sRn ((tPR T M).2.2.2.1) ((tPR T M).2.2.2.2) ((tPR T M).2.1 - 0).toNat 0 F DQ).1 2)) 1 (sRn ((tPR T M).2.2.2.1) ((tPR T M).2.2.2.2) ((tPR T M).2.1 - 0).toNat 0 F DQ).1) (tRun T M) ((tPR T M).2.2.2.2) ((sRn ((tPR T M).2.2.2.1) ((tPR T M).2.2.2.2) ((tPR T M).2.1 - 0).toNat 0 F DQ).2.1) ((sRn ((tPR T M).2.2.2.1) ((tPR T M).2.2.2.2) ((tPR T M).2.1 - 0).toNat 0 F DQ).2.2) (c) (n) (h) (F) (P) else wRn a q1 q2 q3 (zS z 0 (tPR T M).1) (tRun T M) ((tPR T M).2.2.2.2) (D) (DQ) (c) (n) (h) (F) (P))) (wRn a q1 q2 q3 (z) (tRun T M) ((tPR T M).2.2.2.2) ((sRn ((tPR T M).2.2.2.1) ((tPR T M).2.2.2.2) ((tPR T M).2.1 - 0).toNat 0 F DQ).2.1) ((sRn ((tPR T M).2.2.2.1) ((tPR T M).2.2.2.2) ((tPR T M).2.1 - 0).toNat 0 F DQ).2.2) (if 8 < c + 1 then 8 else c + 1) (if n + 1 < 8 then n + 1 else 0) (hU h n.toNat F) ((sRn ((tPR T M).2.2.2.1) ((tPR T M).2.2.2.2) ((tPR T M).2.1 - 0).toNat 0 F DQ).2.1) (P))) := by
  refine EM.of (by decide +kernel) rfl (Nat.le_of_ble_eq_true rfl) ?_
  have yR := tPR_in hT
  have hfb := hF.2.2.2.2.2.2.2.2.2.2.2.1
  refine e_aload_n dX6_run_0 rfl rfl ?_
  refine e_getfield fd_X6_43 dX6_run_1 rfl rfl rfl rfl ?_
  refine e_cV2 [1, 2, 3, 4, 5, 6, 7, 8, 9, 10, 11, 12, 13, 14] lk_X6_263 rfl dX6_run_4 rfl (C_X1_parse (T := T) (M := M) hT) rfl rfl (Nat.le_of_ble_eq_true rfl) (Nat.le_of_ble_eq_true rfl) (Nat.le_of_ble_eq_true rfl) ⟨rfl, rfl⟩ rfl rfl rfl rfl rfl rfl (cs' := wRn a q1 q2 q3 (z) (tCS T (tPR T M).2.2.2.1 (tPR T M).2.1 (tPR T M).2.2.1) ((tPR T M).2.2.2.2) (D) (DQ) (c) (n) (h) (F) (P)) rfl (eMrg_oneE (A := [wO (a 107) (a 15) q1 (a 25) q2 (a 1) q3 (z)]) (S := wTx (fun k => a (1 + k)) (T) (M)) (B := wFl (fun k => a (15 + k)) (D) (DQ) ++ (wHi (fun k => a (25 + k)) (c) (n) (h) ++ wFl (fun k => a (107 + k)) (F) (P))) rfl rfl rfl rfl rfl) ?_
  refine f_istore_n dX6_run_7 rfl (Nat.le_of_ble_eq_true rfl) rfl ?_
  refine e_aload_n dX6_run_8 rfl rfl ?_
  refine e_getfield fd_X6_43 dX6_run_9 rfl rfl rfl rfl ?_
  refine e_cV2 [1, 2, 3, 4, 5, 6, 7, 8, 9, 10, 11, 12, 13, 14] lk_X6_266 rfl dX6_run_12 rfl (C_X1_clear (T := tCS T (tPR T M).2.2.2.1 (tPR T M).2.1 (tPR T M).2.2.1) (M := (tPR T M).2.2.2.2)) rfl rfl (Nat.le_of_ble_eq_true rfl) (Nat.le_of_ble_eq_true rfl) (Nat.le_of_ble_eq_true rfl) ⟨rfl, rfl⟩ rfl rfl rfl rfl rfl rfl (cs' := wRn a q1 q2 q3 (z) (tRun T M) ((tPR T M).2.2.2.2) (D) (DQ) (c) (n) (h) (F) (P)) rfl (eMrg_oneE (A := [wO (a 107) (a 15) q1 (a 25) q2 (a 1) q3 (z)]) (S := wTx (fun k => a (1 + k)) (tCS T (tPR T M).2.2.2.1 (tPR T M).2.1 (tPR T M).2.2.1) ((tPR T M).2.2.2.2)) (B := wFl (fun k => a (15 + k)) (D) (DQ) ++ (wHi (fun k => a (25 + k)) (c) (n) (h) ++ wFl (fun k => a (107 + k)) (F) (P))) rfl rfl rfl rfl rfl) ?_
  refine e_iload_n dX6_run_15 rfl rfl ?_
  refine e_iconst dX6_run_16 rfl ?_
  refine e_icmp_eq (t := 36) dX6_run_17 rfl rfl (by omega) (by omega) (fun h17 => ?_) (fun h17 => ?_)
  · refine e_aload_n dX6_run_36 rfl rfl ?_
    refine e_getfield fd_X6_16 dX6_run_37 rfl rfl rfl rfl ?_
    refine e_aload_n dX6_run_40 rfl rfl ?_
    refine e_getfield fd_X6_10 dX6_run_41 rfl rfl rfl rfl ?_
    refine e_cV2 [15, 16, 17, 18, 19, 20, 21, 22, 23, 24, 107, 108, 109, 110, 111, 112, 113, 114, 115, 116] lk_X6_174 rfl dX6_run_44 rfl (C_X2_copyFrom (F := D) (F2 := F) (P := DQ) (P2 := P)) rfl rfl (Nat.le_of_ble_eq_true rfl) (Nat.le_of_ble_eq_true rfl) (Nat.le_of_ble_eq_true rfl) ⟨rfl, rfl⟩ rfl rfl rfl rfl rfl rfl (cs' := wRn a q1 q2 q3 (z) (tRun T M) ((tPR T M).2.2.2.2) (F) (DQ) (c) (n) (h) (F) (P)) rfl (eMrg_twoE (A := [wO (a 107) (a 15) q1 (a 25) q2 (a 1) q3 (z)] ++ wTx (fun k => a (1 + k)) (tRun T M) ((tPR T M).2.2.2.2)) (S := wFl (fun k => a (15 + k)) (D) (DQ)) (B := wHi (fun k => a (25 + k)) (c) (n) (h)) (T := wFl (fun k => a (107 + k)) (F) (P)) (S' := wFl (fun k => a (15 + k)) (F) (DQ)) (T' := wFl (fun k => a (107 + k)) (F) (P)) rfl rfl rfl rfl rfl rfl rfl) ?_
    refine e_iconst dX6_run_47 rfl ?_
    refine f_istore_n dX6_run_48 rfl (Nat.le_of_ble_eq_true rfl) rfl ?_
    have hL49 : ∀ (k49 : Nat) (i : Int) (G : eFs) (Q : Int → Int) (hk49 : ((tPR T M).2.1 - i).toNat = k49) (g49 : 0 ≤ i ∧ i ≤ (tPR T M).2.1) (o49 : okF (N + 240 * i) G) (c49 : okC G) (e49 : sRn ((tPR T M).2.2.2.1) ((tPR T M).2.2.2.2) ((tPR T M).2.1 - 0).toNat 0 F DQ = sRn ((tPR T M).2.2.2.1) ((tPR T M).2.2.2.2) ((tPR T M).2.1 - i).toNat i G Q), EV (mX6_run, (eRt 8 1), eOut (if (tPR T M).1 = -1 then (if (sRn ((tPR T M).2.2.2.1) ((tPR T M).2.2.2.2) ((tPR T M).2.1 - 0).toNat 0 F DQ).1 = -1 then none else some xSt) else some xAr) (some (vi ((tPR T M).2.1))) a ((if (tPR T M).1 = -1 then wRn a q1 q2 q3 (zS (zHi z ((sRn ((tPR T M).2.2.2.1) ((tPR T M).2.2.2.2) ((tPR T M).2.1 - 0).toNat 0 F DQ).2.1) ((tPR T M).2.2.2.1 (sRn ((tPR T M).2.2.2.1) ((tPR T M).2.2.2.2) ((tPR T M).2.1 - 0).toNat 0 F DQ).1) ((tPR T M).2.2.2.2 (sRn ((tPR T M).2.2.2.1) ((tPR T M).2.2.2.2) ((tPR T M).2.1 - 0).toNat 0 F DQ).1 0) ((tPR T M).2.2.2.2 (sRn ((tPR T M).2.2.2.1) ((tPR T M).2.2.2.2) ((tPR T M).2.1 - 0).toNat 0 F DQ).1 1) ((tPR T M).2.2.2.2 (sRn ((tPR T M).2.2.2.1) ((tPR T M).2.2.2.2) ((tPR T M).2.1 - 0).toNat 0 F DQ).1 2)) 1 (sRn ((tPR T M).2.2.2.1) ((tPR T M).2.2.2.2) ((tPR T M).2.1 - 0).toNat 0 F DQ).1) (tRun T M) ((tPR T M).2.2.2.2) ((sRn ((tPR T M).2.2.2.1) ((tPR T M).2.2.2.2) ((tPR T M).2.1 - 0).toNat 0 F DQ).2.1) ((sRn ((tPR T M).2.2.2.1) ((tPR T M).2.2.2.2) ((tPR T M).2.1 - 0).toNat 0 F DQ).2.2) (c) (n) (h) (F) (P) else wRn a q1 q2 q3 (zS z 0 (tPR T M).1) (tRun T M) ((tPR T M).2.2.2.2) (D) (DQ) (c) (n) (h) (F) (P))) (wRn a q1 q2 q3 (z) (tRun T M) ((tPR T M).2.2.2.2) ((sRn ((tPR T M).2.2.2.1) ((tPR T M).2.2.2.2) ((tPR T M).2.1 - 0).toNat 0 F DQ).2.1) ((sRn ((tPR T M).2.2.2.1) ((tPR T M).2.2.2.2) ((tPR T M).2.1 - 0).toNat 0 F DQ).2.2) (if 8 < c + 1 then 8 else c + 1) (if n + 1 < 8 then n + 1 else 0) (hU h n.toNat F) ((sRn ((tPR T M).2.2.2.1) ((tPR T M).2.2.2.2) ((tPR T M).2.1 - 0).toNat 0 F DQ).2.1) (P)), X) a (1, 6) (wRn a q1 q2 q3 (z) (tRun T M) ((tPR T M).2.2.2.2) (G) (Q) (c) (n) (h) (F) (P)) 49 [some (.ref (a 0)), some (vi (tPR T M).1), some (vi i), none, none, none, none] [] := by
      intro k49
      induction k49 using Nat.strongRecOn with
      | _ k49 ih49 =>
      intro i G Q hk49 g49 o49 c49 e49
      have k0 := yR.2.2.2.1 i
      have m0 := yR.2.2.2.2 i 0
      have m1 := yR.2.2.2.2 i 1
      have m2 := yR.2.2.2.2 i 2
      refine e_iload_n dX6_run_49 rfl rfl ?_
      refine e_aload_n dX6_run_50 rfl rfl ?_
      refine e_getfield fd_X6_43 dX6_run_51 rfl rfl rfl rfl ?_
      refine e_getfield fd_X6_271 dX6_run_54 rfl rfl rfl rfl ?_
      refine EV.eq (st' := [vi ((tPR T M).2.1), vi i]) rfl ?_
      refine e_icmp_ge (t := 157) dX6_run_57 rfl rfl (by omega) (by omega) (fun h57 => ?_) (fun h57 => ?_)
      · have hres : sRn ((tPR T M).2.2.2.1) ((tPR T M).2.2.2.2) ((tPR T M).2.1 - 0).toNat 0 F DQ = (-1, G, Q) := e49.trans (sRn_0 (by omega))
        refine e_aload_n dX6_run_157 rfl rfl ?_
        refine e_getfield fd_X6_29 dX6_run_158 rfl rfl rfl rfl ?_
        refine e_aload_n dX6_run_161 rfl rfl ?_
        refine e_getfield fd_X6_10 dX6_run_162 rfl rfl rfl rfl ?_
        refine e_cV2 [25, 26, 27, 28, 29, 30, 31, 32, 33, 34, 35, 36, 37, 38, 39, 40, 41, 42, 43, 44, 45, 46, 47, 48, 49, 50, 51, 52, 53, 54, 55, 56, 57, 58, 59, 60, 61, 62, 63, 64, 65, 66, 67, 68, 69, 70, 71, 72, 73, 74, 75, 76, 77, 78, 79, 80, 81, 82, 83, 84, 85, 86, 87, 88, 89, 90, 91, 92, 93, 94, 95, 96, 97, 98, 99, 100, 101, 102, 103, 104, 105, 106, 107, 108, 109, 110, 111, 112, 113, 114, 115, 116] lk_X6_290 rfl dX6_run_165 rfl (C_X4_push (h := h) (F := F) (P := P) hcc hnn) rfl rfl (Nat.le_of_ble_eq_true rfl) (Nat.le_of_ble_eq_true rfl) (Nat.le_of_ble_eq_true rfl) ⟨rfl, rfl⟩ rfl rfl rfl rfl rfl rfl (cs' := wRn a q1 q2 q3 (z) (tRun T M) ((tPR T M).2.2.2.2) (G) (Q) (if 8 < c + 1 then 8 else c + 1) (if n + 1 < 8 then n + 1 else 0) (hU h n.toNat F) (F) (P)) rfl (eMrg_twoE (A := [wO (a 107) (a 15) q1 (a 25) q2 (a 1) q3 (z)] ++ (wTx (fun k => a (1 + k)) (tRun T M) ((tPR T M).2.2.2.2) ++ wFl (fun k => a (15 + k)) (G) (Q))) (S := wHi (fun k => a (25 + k)) (c) (n) (h)) (B := []) (T := wFl (fun k => a (107 + k)) (F) (P)) (S' := wHi (fun k => a (25 + k)) (if 8 < c + 1 then 8 else c + 1) (if n + 1 < 8 then n + 1 else 0) (hU h n.toNat F)) (T' := wFl (fun k => a (107 + k)) (F) (P)) rfl rfl rfl rfl rfl rfl rfl) ?_
        refine e_aload_n dX6_run_168 rfl rfl ?_
        refine e_getfield fd_X6_10 dX6_run_169 rfl rfl rfl rfl ?_
        refine e_aload_n dX6_run_172 rfl rfl ?_
        refine e_getfield fd_X6_16 dX6_run_173 rfl rfl rfl rfl ?_
        refine e_cV2 [107, 108, 109, 110, 111, 112, 113, 114, 115, 116, 15, 16, 17, 18, 19, 20, 21, 22, 23, 24] lk_X6_174 rfl dX6_run_176 rfl (C_X2_copyFrom (F := F) (F2 := G) (P := P) (P2 := Q)) rfl rfl (Nat.le_of_ble_eq_true rfl) (Nat.le_of_ble_eq_true rfl) (Nat.le_of_ble_eq_true rfl) ⟨rfl, rfl⟩ rfl rfl rfl rfl rfl rfl (cs' := wRn a q1 q2 q3 (z) (tRun T M) ((tPR T M).2.2.2.2) (G) (Q) (if 8 < c + 1 then 8 else c + 1) (if n + 1 < 8 then n + 1 else 0) (hU h n.toNat F) (G) (P)) rfl (eMrg_twoE' (A := [wO (a 107) (a 15) q1 (a 25) q2 (a 1) q3 (z)] ++ wTx (fun k => a (1 + k)) (tRun T M) ((tPR T M).2.2.2.2)) (S := wFl (fun k => a (15 + k)) (G) (Q)) (B := wHi (fun k => a (25 + k)) (if 8 < c + 1 then 8 else c + 1) (if n + 1 < 8 then n + 1 else 0) (hU h n.toNat F)) (T := wFl (fun k => a (107 + k)) (F) (P)) (S' := wFl (fun k => a (15 + k)) (G) (Q)) (T' := wFl (fun k => a (107 + k)) (G) (P)) rfl rfl rfl rfl rfl rfl rfl) ?_
        refine e_aload_n dX6_run_179 rfl rfl ?_
        refine e_getfield fd_X6_43 dX6_run_180 rfl rfl rfl rfl ?_
        refine e_getfield fd_X6_271 dX6_run_183 rfl rfl rfl rfl ?_
        exact e_iret dX6_run_186 rfl rfl (eOut_r (by rw [if_pos h17, hres]; rfl) rfl (by rw [hres]))
      · refine e_aload_n dX6_run_60 rfl rfl ?_
        refine e_getfield fd_X6_43 dX6_run_61 rfl rfl rfl rfl ?_
        refine e_iload_n dX6_run_64 rfl rfl ?_
        refine e_cV0 [1, 2, 3, 4, 5, 6, 7, 8, 9, 10, 11, 12, 13, 14] lk_X6_274 rfl dX6_run_65 rfl (C_X1_kindOf (T := tRun T M) (M := (tPR T M).2.2.2.2) (c := i) (okT_run hT) (show 0 ≤ i ∧ i < (tPR T M).2.1 by omega)) rfl rfl (Nat.le_of_ble_eq_true rfl) (Nat.le_of_ble_eq_true rfl) (Nat.le_of_ble_eq_true rfl) ⟨rfl, rfl⟩ rfl rfl rfl rfl rfl rfl  ?_
        refine EV.eq (st' := [vi ((tPR T M).2.2.2.1 i)]) rfl ?_
        refine f_istore_n dX6_run_68 rfl (Nat.le_of_ble_eq_true rfl) rfl ?_
        refine e_aload_n dX6_run_69 rfl rfl ?_
        refine e_getfield fd_X6_43 dX6_run_70 rfl rfl rfl rfl ?_
        refine e_iload_n dX6_run_73 rfl rfl ?_
        refine e_iconst dX6_run_74 rfl ?_
        refine e_cV0 [1, 2, 3, 4, 5, 6, 7, 8, 9, 10, 11, 12, 13, 14] lk_X6_277 rfl dX6_run_75 rfl (C_X1_number (T := tRun T M) (M := (tPR T M).2.2.2.2) (c := i) (i := 0) (okT_run hT) (show 0 ≤ i ∧ i < (tPR T M).2.1 by omega) (by omega)) rfl rfl (Nat.le_of_ble_eq_true rfl) (Nat.le_of_ble_eq_true rfl) (Nat.le_of_ble_eq_true rfl) ⟨rfl, rfl⟩ rfl rfl rfl rfl rfl rfl  ?_
        refine f_istore dX6_run_78 rfl (Nat.le_of_ble_eq_true rfl) rfl ?_
        refine e_aload_n dX6_run_80 rfl rfl ?_
        refine e_getfield fd_X6_43 dX6_run_81 rfl rfl rfl rfl ?_
        refine e_iload_n dX6_run_84 rfl rfl ?_
        refine e_iconst dX6_run_85 rfl ?_
        refine e_cV0 [1, 2, 3, 4, 5, 6, 7, 8, 9, 10, 11, 12, 13, 14] lk_X6_277 rfl dX6_run_86 rfl (C_X1_number (T := tRun T M) (M := (tPR T M).2.2.2.2) (c := i) (i := 1) (okT_run hT) (show 0 ≤ i ∧ i < (tPR T M).2.1 by omega) (by omega)) rfl rfl (Nat.le_of_ble_eq_true rfl) (Nat.le_of_ble_eq_true rfl) (Nat.le_of_ble_eq_true rfl) ⟨rfl, rfl⟩ rfl rfl rfl rfl rfl rfl  ?_
        refine f_istore dX6_run_89 rfl (Nat.le_of_ble_eq_true rfl) rfl ?_
        refine e_aload_n dX6_run_91 rfl rfl ?_
        refine e_getfield fd_X6_43 dX6_run_92 rfl rfl rfl rfl ?_
        refine e_iload_n dX6_run_95 rfl rfl ?_
        refine e_iconst dX6_run_96 rfl ?_
        refine e_cV0 [1, 2, 3, 4, 5, 6, 7, 8, 9, 10, 11, 12, 13, 14] lk_X6_277 rfl dX6_run_97 rfl (C_X1_number (T := tRun T M) (M := (tPR T M).2.2.2.2) (c := i) (i := 2) (okT_run hT) (show 0 ≤ i ∧ i < (tPR T M).2.1 by omega) (by omega)) rfl rfl (Nat.le_of_ble_eq_true rfl) (Nat.le_of_ble_eq_true rfl) (Nat.le_of_ble_eq_true rfl) ⟨rfl, rfl⟩ rfl rfl rfl rfl rfl rfl  ?_
        refine f_istore dX6_run_100 rfl (Nat.le_of_ble_eq_true rfl) rfl ?_
        refine e_aload_n dX6_run_102 rfl rfl ?_
        refine e_aload_n dX6_run_103 rfl rfl ?_
        refine e_getfield fd_X6_16 dX6_run_104 rfl rfl rfl rfl ?_
        refine e_iload_n dX6_run_107 rfl rfl ?_
        refine e_iload dX6_run_108 rfl rfl ?_
        refine e_iload dX6_run_110 rfl rfl ?_
        refine e_iload dX6_run_112 rfl rfl ?_
        refine e_cV2 [0, 15, 16, 17, 18, 19, 20, 21, 22, 23, 24] lk_X6_280 rfl dX6_run_114 rfl (C_X6_hindranceIn (F := G) (P := Q) (z := z) o49 k0 (by omega) (by omega) (by omega)) rfl rfl (Nat.le_of_ble_eq_true rfl) (Nat.le_of_ble_eq_true rfl) (Nat.le_of_ble_eq_true rfl) ⟨rfl, rfl⟩ rfl rfl rfl rfl rfl rfl (cs' := wRn a q1 q2 q3 (zHi z G ((tPR T M).2.2.2.1 i) ((tPR T M).2.2.2.2 i 0) ((tPR T M).2.2.2.2 i 1) ((tPR T M).2.2.2.2 i 2)) (tRun T M) ((tPR T M).2.2.2.2) (G) (Q) (c) (n) (h) (F) (P)) rfl (eMrg_twoC (A := []) (S := [wO (a 107) (a 15) q1 (a 25) q2 (a 1) q3 (z)]) (B := wTx (fun k => a (1 + k)) (tRun T M) ((tPR T M).2.2.2.2)) (T := wFl (fun k => a (15 + k)) (G) (Q)) (S' := [wO (a 107) (a 15) q1 (a 25) q2 (a 1) q3 (zHi z G ((tPR T M).2.2.2.1 i) ((tPR T M).2.2.2.2 i 0) ((tPR T M).2.2.2.2 i 1) ((tPR T M).2.2.2.2 i 2))]) (T' := wFl (fun k => a (15 + k)) (G) (Q)) (C := wHi (fun k => a (25 + k)) (c) (n) (h) ++ wFl (fun k => a (107 + k)) (F) (P)) rfl rfl rfl rfl rfl rfl rfl) ?_
        have uh := sHin_in (F := G) (k := (tPR T M).2.2.2.1 i) (p := (tPR T M).2.2.2.2 i 0) (q := (tPR T M).2.2.2.2 i 1) (r := (tPR T M).2.2.2.2 i 2)
        refine e_if_eq (t := 136) dX6_run_117 rfl rfl (by omega) (fun h117 => ?_) (fun h117 => ?_)
        · have h0 : sHin G ((tPR T M).2.2.2.1 i) ((tPR T M).2.2.2.2 i 0) ((tPR T M).2.2.2.2 i 1) ((tPR T M).2.2.2.2 i 2) = 0 := h117
          refine EV.ceq (cs' := wRn a q1 q2 q3 (z) (tRun T M) ((tPR T M).2.2.2.2) (G) (Q) (c) (n) (h) (F) (P)) (by unfold zHi; rw [if_neg (by omega)]) ?_
          refine e_aload_n dX6_run_136 rfl rfl ?_
          refine e_getfield fd_X6_16 dX6_run_137 rfl rfl rfl rfl ?_
          refine e_iload_n dX6_run_140 rfl rfl ?_
          refine e_iload dX6_run_141 rfl rfl ?_
          refine e_iload dX6_run_143 rfl rfl ?_
          refine e_iload dX6_run_145 rfl rfl ?_
          refine e_cV2 [15, 16, 17, 18, 19, 20, 21, 22, 23, 24] lk_X6_286 rfl dX6_run_147 rfl (C_X2_carryOut (F := G) (P := Q) o49 k0 (by omega) h0) rfl rfl (Nat.le_of_ble_eq_true rfl) (Nat.le_of_ble_eq_true rfl) (Nat.le_of_ble_eq_true rfl) ⟨rfl, rfl⟩ rfl rfl rfl rfl rfl rfl (cs' := wRn a q1 q2 q3 (z) (tRun T M) ((tPR T M).2.2.2.2) (sDo G ((tPR T M).2.2.2.1 i) ((tPR T M).2.2.2.2 i 0) ((tPR T M).2.2.2.2 i 1) ((tPR T M).2.2.2.2 i 2)) (sDoP G ((tPR T M).2.2.2.1 i) ((tPR T M).2.2.2.2 i 0) Q) (c) (n) (h) (F) (P)) rfl (eMrg_oneC (A := [wO (a 107) (a 15) q1 (a 25) q2 (a 1) q3 (z)] ++ wTx (fun k => a (1 + k)) (tRun T M) ((tPR T M).2.2.2.2)) (S := wFl (fun k => a (15 + k)) (G) (Q)) (B := []) (C := wHi (fun k => a (25 + k)) (c) (n) (h) ++ wFl (fun k => a (107 + k)) (F) (P)) rfl rfl rfl rfl rfl) ?_
          refine e_pop dX6_run_150 rfl rfl ?_
          refine f_iinc dX6_run_151 rfl rfl (Nat.le_of_ble_eq_true rfl) rfl ?_
          refine e_goto (n := 49) dX6_run_154 rfl ?_
          refine EV.fgt 3 ?_
          refine EV.fgt 4 ?_
          refine EV.fgt 5 ?_
          refine EV.fgt 6 ?_
          exact ih49 _ (by omega) (i + 1) _ _ rfl (by omega) (by rw [show N + 240 * (i + 1) = N + 240 * i + 240 by omega]; exact okF_do (yR.2.2.2.1 i) o49 (by omega) h0 (okC_do (yR.2.2.2.1 i) o49 c49 h0).2) (okC_do (yR.2.2.2.1 i) o49 c49 h0).1 (e49.trans (sRn_go (by omega) h0))
        · have hres : sRn ((tPR T M).2.2.2.1) ((tPR T M).2.2.2.2) ((tPR T M).2.1 - 0).toNat 0 F DQ = (i, G, Q) := e49.trans (sRn_x (by omega) h117)
          refine e_aload_n dX6_run_120 rfl rfl ?_
          refine e_iload_n dX6_run_121 rfl rfl ?_
          refine e_putfield fd_X6_51 dX6_run_122 rfl rfl rfl (Nat.le_of_ble_eq_true rfl) rfl rfl ?_
          exact nx_throw 1 th_X6_284 rfl (Nat.le_of_ble_eq_true rfl) (Nat.le_of_ble_eq_true rfl) ⟨(Nat.le_of_ble_eq_true rfl), (Nat.le_of_ble_eq_true rfl)⟩ dX6_run_125 dX6_run_128 (Or.inr ⟨rfl, dX6_run_129⟩) dX6_run_132 dX6_run_135 (eOut_t (by rw [if_pos h17, hres, if_neg (show ¬ i = -1 by omega)]) (by rw [if_pos h17, hres] <;> rfl))
    refine EV.fgt 3 ?_
    refine EV.fgt 4 ?_
    refine EV.fgt 5 ?_
    refine EV.fgt 6 ?_
    exact hL49 _ 0 F DQ rfl (by omega) (by rw [show N + 240 * 0 = N by omega]; exact hF) hC rfl
  · refine e_aload_n dX6_run_20 rfl rfl ?_
    refine e_iload_n dX6_run_21 rfl rfl ?_
    refine e_putfield fd_X6_47 dX6_run_22 rfl rfl rfl (Nat.le_of_ble_eq_true rfl) rfl rfl ?_
    exact nx_throw 1 th_X6_269 rfl (Nat.le_of_ble_eq_true rfl) (Nat.le_of_ble_eq_true rfl) ⟨(Nat.le_of_ble_eq_true rfl), (Nat.le_of_ble_eq_true rfl)⟩ dX6_run_25 dX6_run_28 (Or.inr ⟨rfl, dX6_run_29⟩) dX6_run_32 dX6_run_35 (eOut_t (by rw [if_neg h17]) (by rw [if_neg h17] <;> rfl))
