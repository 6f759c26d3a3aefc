/-! ===== the law: a number of the script; what it does to the flock ===== -/
theorem rng_nd (m : Nat) : va_nd (List.range m) = true := by
  have key : ∀ l : List Nat, l.Nodup → va_nd l = true := by
    intro l
    induction l with
    | nil => intro _; rfl
    | cons x t ih =>
      intro hn
      simp only [va_nd, Bool.and_eq_true, decide_eq_true_eq]
      exact ⟨(List.nodup_cons.mp hn).1, ih (List.nodup_cons.mp hn).2⟩
  exact key _ List.nodup_range
theorem rng_sel (cs : List eE) : (List.range cs.length).map (fun i => cs[i]?) = cs.map some := by
  apply List.ext_getElem?
  intro k
  rw [List.getElem?_map, List.getElem?_map]
  by_cases hk : k < cs.length
  · simp [hk]
  · simp [Nat.not_lt.mp hk]
theorem EMx.cong {X : eXT} {M : mE} {R : Room} {a a' : Nat → Nat} {av : List Value} {cs : List eE} {Q : ePo} (h : ∀ k, k < cs.length → a' k = a k) (k : EMx X M R a av cs Q) : EMx X M R a' av cs Q := by
  intro l G sz hl
  have e : eW G a' cs = eW G a cs := eW_cong h
  rw [e]
  exact k l G sz hl
section EVS
variable {K : eK} {a : Nat → Nat} {b : Nat × Nat} {cs : List eE} {pc n : Nat} {ls : List (Option Value)} {st rest av : List Value} {M1 : mE} {R1 : Room} {Q1 : ePo} {x2 : Option eSt}
/-- static calls over the whole world: with handlers; with the script -/
theorem e_cSHw {idx nA m : Nat} (hw : eLkS K.1.1.cls idx M1 nA) (hh : M1.2.2.2.2 ≠ []) (d : decode K.1.2.1 pc = .ok (.invokestatic idx, 3)) (hn : pc + 3 = n)
    (hM : EM (K.2.2.2.1, none) M1 R1 a av cs Q1) (hst : st = av.reverse ++ rest) (hlen : av.length = nA) (hcat : (rest.map fun v => v.category).sum ≤ 8)
    (hfr : R1.frames + 1 ≤ K.2.1.frames) (hlo : 8 + (M1.2.2.1 + 11) + R1.locals ≤ K.2.1.locals) (b' : Nat × Nat) (hR : R1.cells + b'.1 ≤ b.1 ∧ R1.slots + b'.2 ≤ b.2) (hl0 : cs.length = m)
    (hQ : ∀ o a1 cs1, Q1 o a1 cs1 → a1 = a ∧ cs1.length = m) (kr : ∀ v cs1, Q1 (.inl v) a cs1 → EV K a b' cs1 n ls (v.toList ++ rest)) (kx : ∀ E cs1, Q1 (.inr E) a cs1 → EX K a b' cs1 pc ls E) : EV K a b cs pc ls st := by
  refine e_invSH (ρ := List.range cs.length) hw hh d hn (EM.cong (fun k hk => by rw [eR_rng hk]) hM) hst hlen hcat hfr hlo b' hR (rng_sel cs) (rng_nd _) (fun o a1 cs1 h => ⟨fun k hk => ?_, ?_⟩) (fun v a1 cs1 h => ?_) (fun e a1 cs1 h => ?_)
  · rw [(hQ _ _ _ h).1, eR_rng (by rw [List.length_range] at hk; exact hk)]
  · rw [List.length_range, (hQ _ _ _ h).2]; omega
  · obtain ⟨h1, h2⟩ := hQ _ _ _ h
    subst h1
    refine EV.drop (a1 := a1) (by rw [List.length_range]; omega) ?_
    rw [eMrg_rng (by omega)]
    exact kr v cs1 h
  · obtain ⟨h1, h2⟩ := hQ _ _ _ h
    subst h1
    refine EX.drop (a1 := a1) (by rw [List.length_range]; omega) ?_
    rw [eMrg_rng (by omega)]
    exact kx e cs1 h
theorem e_xSw {idx nA m : Nat} (hw : eLkS K.1.1.cls idx M1 nA) (hh : M1.2.2.2.2 = []) (d : decode K.1.2.1 pc = .ok (.invokestatic idx, 3)) (hn : pc + 3 = n)
    (hM : EMx (K.2.2.2.1, x2) M1 R1 a av cs Q1) (hx : x2 = none ∨ x2 = K.2.2.2.2) (hst : st = av.reverse ++ rest) (hlen : av.length = nA) (hcat : (rest.map fun v => v.category).sum ≤ 8)
    (hfr : R1.frames + 1 ≤ K.2.1.frames) (hlo : 8 + (M1.2.2.1 + 11) + R1.locals ≤ K.2.1.locals) (b' : Nat × Nat) (hR : R1.cells + b'.1 ≤ b.1 ∧ R1.slots + b'.2 ≤ b.2) (hl0 : cs.length = m)
    (hQ : ∀ o a1 cs1, Q1 o a1 cs1 → a1 = a ∧ cs1.length = m) (kr : ∀ v cs1, Q1 (.inl v) a cs1 → EV K a b' cs1 n ls (v.toList ++ rest)) (kx : ∀ E cs1, Q1 (.inr E) a cs1 → EX K a b' cs1 pc ls E) : EV K a b cs pc ls st := by
  have hrd : eRd K a cs (List.range cs.length) cs x2 := by
    rcases hx with h | h
    · subst h; exact eRd.none
    · cases hk : K.2.2.2.2 with
      | none => rw [hk] at h; subst h; exact eRd.none
      | some x => rw [hk] at h; subst h; exact eRd.own (rng_sel cs) hk
  refine e_xS (ρ := List.range cs.length) hw hh d hn (EMx.cong (fun k hk => by rw [eR_rng hk]) hM) hrd hst hlen hcat hfr hlo b' hR (rng_sel cs) (rng_nd _) (fun o a1 cs1 h => ⟨fun k hk => ?_, ?_⟩) (fun v a1 cs1 h => ?_) (fun e a1 cs1 h => ?_)
  · rw [(hQ _ _ _ h).1, eR_rng (by rw [List.length_range] at hk; exact hk)]
  · rw [List.length_range, (hQ _ _ _ h).2]; omega
  · obtain ⟨h1, h2⟩ := hQ _ _ _ h
    subst h1
    refine EV.drop (a1 := a1) (by rw [List.length_range]; omega) ?_
    rw [eMrg_rng (by omega)]
    exact kr v cs1 h
  · obtain ⟨h1, h2⟩ := hQ _ _ _ h
    subst h1
    refine EX.drop (a1 := a1) (by rw [List.length_range]; omega) ?_
    rw [eMrg_rng (by omega)]
    exact kx e cs1 h
end EVS
/-- a number of the script, or what stands for it -/
def lCell (xs : Nat → Int32) (L : Nat) (k : Int) : Int32 := if k < L then xs k.toNat else Int32.ofInt (7919 * k + 12)
def lShf (x : Int32) : Int := ((x.toUInt32 >>> ((Int32.ofInt 3).toUInt32 &&& Int32.toUInt32 31)).toInt32).toInt
theorem lShf_in (x : Int32) : 0 ≤ lShf x ∧ lShf x ≤ 536870911 := by
  unfold lShf
  have e : ((Int32.ofInt 3).toUInt32 &&& Int32.toUInt32 31) = (3 : UInt32) := by decide
  rw [e]
  have h1 : (x.toUInt32 >>> (3 : UInt32)).toNat = x.toUInt32.toNat / 8 := by
    rw [UInt32.toNat_shiftRight]
    show x.toUInt32.toNat >>> 3 = _
    rw [Nat.shiftRight_eq_div_pow]
  have h2 : x.toUInt32.toNat < 4294967296 := x.toUInt32.toNat_lt
  have h3 : ((x.toUInt32 >>> (3 : UInt32)).toInt32).toInt = ((x.toUInt32 >>> (3 : UInt32)).toNat : Int) := by
    show (x.toUInt32 >>> (3 : UInt32)).toBitVec.toInt = _
    rw [BitVec.toInt_eq_toNat_of_lt]
    · rfl
    · show 2 * (x.toUInt32 >>> (3 : UInt32)).toNat < 2 ^ 32
      omega
  rw [h3]
  omega
def lSm (xs : Nat → Int32) (L : Nat) (k n : Int) : Int := (lShf (lCell xs L k)).tmod n
theorem lSm_in {xs : Nat → Int32} {L : Nat} {k n : Int} (hn : 1 ≤ n) : 0 ≤ lSm xs L k n ∧ lSm xs L k n < n := by
  have h := lShf_in (lCell xs L k)
  unfold lSm
  exact ⟨Int.tmod_nonneg _ h.1, Int.tmod_lt_of_pos _ (by omega)⟩
theorem T_cell {S : Nat → Nat} {bb L : Nat} {xs : Nat → Int32} (hL : L ≤ 260) {a : Nat → Nat} {k : Int} (hk : 0 ≤ k ∧ k ≤ 1000) : EMx (S, some (.inl (bb, L, xs))) mL_cell (eRm 0) a [.ref bb, vi k] [] (eRet (some (.int (lCell xs L k))) a []) := by
  refine EMx.of (by decide +kernel) rfl (Nat.le_of_ble_eq_true rfl) rfl ?_
  refine e_iload_n dL_cell_0 rfl rfl ?_
  refine e_aload_n dL_cell_1 rfl rfl ?_
  refine e_slen rfl (by omega) dL_cell_2 rfl ?_
  refine e_icmp_ge (t := 12) dL_cell_3 rfl rfl (by omega) (by omega) (fun h => ?_) (fun h => ?_)
  · unfold lCell
    rw [if_neg (by omega)]
    refine e_sipush dL_cell_12 rfl rfl ?_
    refine e_iload_n dL_cell_15 rfl rfl ?_
    refine e_imul dL_cell_16 rfl ?_
    refine e_bipush dL_cell_17 rfl rfl ?_
    refine e_iadd dL_cell_19 rfl ?_
    exact e_iret dL_cell_20 rfl rfl ⟨rfl, rfl, rfl⟩
  · unfold lCell
    rw [if_pos (by omega)]
    refine e_aload_n dL_cell_6 rfl rfl ?_
    refine e_iload_n dL_cell_7 rfl rfl ?_
    refine e_sld rfl dL_cell_8 rfl (by omega) (by omega) ?_
    refine e_goto (n := 20) dL_cell_9 rfl ?_
    exact e_iret dL_cell_20 rfl rfl ⟨rfl, rfl, rfl⟩
theorem T_some {S : Nat → Nat} {bb L : Nat} {xs : Nat → Int32} (hL : L ≤ 260) {a : Nat → Nat} {k n : Int} (hk : 0 ≤ k ∧ k ≤ 1000) (hn : 1 ≤ n ∧ n ≤ 100) : EMx (S, some (.inl (bb, L, xs))) mL_some (eRm 2) a [.ref bb, vi k, vi n] [] (eRet (some (vi (lSm xs L k n))) a []) := by
  have hs := lShf_in (lCell xs L k)
  refine EMx.of (by decide +kernel) rfl (Nat.le_of_ble_eq_true rfl) rfl ?_
  refine e_aload_n dL_some_0 rfl rfl ?_
  refine e_iload_n dL_some_1 rfl rfl ?_
  refine e_xS2 [] (av := [.ref bb, vi k]) (rest := []) lk_L_7 rfl dL_some_2 rfl (T_cell hL hk) (eRd.own rfl rfl) rfl rfl (Nat.le_of_ble_eq_true rfl) (Nat.le_of_ble_eq_true rfl) (Nat.le_of_ble_eq_true rfl) ⟨rfl, rfl⟩ rfl rfl rfl rfl ?_
  refine e_iconst dL_some_5 rfl ?_
  refine e_iushr dL_some_6 rfl (v := Int32.ofInt (lShf (lCell xs L k))) (oI_ofI _).symm ?_
  refine e_iload_n dL_some_7 rfl rfl ?_
  refine e_irem dL_some_8 rfl (by omega) (by omega) (by omega) ?_
  exact e_iret dL_some_9 rfl rfl (eRet_i rfl rfl)
/-- what is kept over all that the law does: ranges, clouds counted, baskets apart, a shape for each step -/
def okH (N : Int) (F : eFs) : Prop := okF N F ∧ okC F ∧ okA F ∧ F.1 10 = (if F.1 7 < 16 then F.1 7 else 16)
def okI (N : Int) (F : eFs) : Prop := okH N F ∧ 1 ≤ F.1 0 ∧ F.1 0 ≤ 9
theorem okH_up {N N2 : Int} {F : eFs} (h : okH N F) (h1 : N ≤ N2) (h2 : N2 ≤ 100000000) : okH N2 F := ⟨okF_mono ⟨h1, h2⟩ h.1, h.2⟩
theorem sS_at {F : eFs} {k : Nat} {v : Int} : (sS F k v).1 k = v := if_pos rfl
theorem sS_ne {F : eFs} {k j : Nat} {v : Int} (h : j ≠ k) : (sS F k v).1 j = F.1 j := if_neg h
theorem sMF_num {F : eFs} {b : Int} : (sMF F b).1 0 = F.1 0 ∧ (sMF F b).1 7 = F.1 7 ∧ (sMF F b).1 10 = F.1 10 := by
  unfold sMF
  (repeat' split) <;> exact ⟨rfl, rfl, rfl⟩
theorem sML_num {F : eFs} : (sML F).1 0 = F.1 0 ∧ (sML F).1 7 = F.1 7 ∧ (sML F).1 10 = F.1 10 := by
  unfold sML
  (repeat' split) <;> exact ⟨rfl, rfl, rfl⟩
theorem sFols_num : ∀ (k : Nat) (b : Int) (F : eFs), (sFols k b F).1 0 = F.1 0 ∧ (sFols k b F).1 7 = F.1 7 ∧ (sFols k b F).1 10 = F.1 10
  | 0, _, _ => ⟨rfl, rfl, rfl⟩
  | k + 1, b, F => by
    obtain ⟨h1, h2, h3⟩ := sFols_num k (b + 1) (sMF F b)
    obtain ⟨g1, g2, g3⟩ := sMF_num (F := F) (b := b)
    exact ⟨h1.trans g1, h2.trans g2, h3.trans g3⟩
theorem sPL_num {F : eFs} : (sPL F).1 0 = F.1 0 ∧ (sPL F).1 7 = F.1 7 ∧ (sPL F).1 10 = F.1 10 := by
  unfold sPL
  (repeat' split) <;> exact ⟨rfl, rfl, rfl⟩
theorem sStp_num {F : eFs} (h : 1 ≤ F.1 0) (e : F.1 10 = (if F.1 7 < 16 then F.1 7 else 16)) : (sStp F).1 0 = F.1 0 ∧ (sStp F).1 10 = (if (sStp F).1 7 < 16 then (sStp F).1 7 else 16) := by
  have a1 := sML_num (F := F)
  have a2 := sFols_num ((sML F).1 0 - 0).toNat 0 (sML F)
  have b0 : (sFA (sML F)).1 0 = F.1 0 := a2.1.trans a1.1
  have b7 : (sFA (sML F)).1 7 = F.1 7 := a2.2.1.trans a1.2.1
  have b10 : (sFA (sML F)).1 10 = F.1 10 := a2.2.2.trans a1.2.2
  have c : (sRem (sFA (sML F))).1 0 = F.1 0 ∧ (sRem (sFA (sML F))).1 7 = F.1 7 ∧ (sRem (sFA (sML F))).1 10 = (if F.1 10 + 1 < 16 then F.1 10 + 1 else 16) := by
    unfold sRem
    rw [if_pos (by omega)]
    refine ⟨b0, b7, ?_⟩
    show (if (sFA (sML F)).1 10 + 1 < 16 then (sFA (sML F)).1 10 + 1 else 16) = _
    rw [b10]
  have dd := sPL_num (F := sTik (sRem (sFA (sML F))))
  have e7 : (sStp F).1 7 = F.1 7 + 1 := by
    refine dd.2.1.trans ?_
    show (sRem (sFA (sML F))).1 7 + 1 = _
    rw [c.2.1]
  refine ⟨dd.1.trans c.1, ?_⟩
  rw [e7]
  refine dd.2.2.trans ?_
  show (sRem (sFA (sML F))).1 10 = _
  rw [c.2.2, e]
  (repeat' split) <;> omega
theorem sSts_num : ∀ (k : Nat) (F : eFs), 1 ≤ F.1 0 → F.1 10 = (if F.1 7 < 16 then F.1 7 else 16) → (sSts k F).1 0 = F.1 0 ∧ (sSts k F).1 10 = (if (sSts k F).1 7 < 16 then (sSts k F).1 7 else 16)
  | 0, _, _, e => ⟨rfl, e⟩
  | k + 1, F, h, e => by
    obtain ⟨h1, h2⟩ := sStp_num h e
    obtain ⟨g1, g2⟩ := sSts_num k (sStp F) (by omega) h2
    exact ⟨g1.trans h1, g2⟩
theorem sDo_0 {F : eFs} {p q r : Int} : (sDo F 0 p q r).1 0 = F.1 0 + 1 := rfl
theorem sDo_num {F : eFs} {k p q r : Int} (hk : 1 ≤ k ∧ k ≤ 8) (h8 : k = 8 → 1 ≤ F.1 0) (e : F.1 10 = (if F.1 7 < 16 then F.1 7 else 16)) : (sDo F k p q r).1 0 = F.1 0 ∧ (sDo F k p q r).1 10 = (if (sDo F k p q r).1 7 < 16 then (sDo F k p q r).1 7 else 16) := by
  rcases (show k = 1 ∨ k = 2 ∨ k = 3 ∨ k = 4 ∨ k = 5 ∨ k = 6 ∨ k = 7 ∨ k = 8 by omega) with h | h | h | h | h | h | h | h <;> subst h
  · exact ⟨rfl, e⟩
  · exact ⟨rfl, e⟩
  · exact ⟨rfl, e⟩
  · exact ⟨rfl, e⟩
  · exact ⟨rfl, e⟩
  · exact ⟨rfl, e⟩
  · exact ⟨rfl, e⟩
  · exact sSts_num _ F (h8 rfl) e
theorem okH_do {N : Int} {F F' : eFs} {k p q r : Int} (hk : 0 ≤ k ∧ k ≤ 8) (h : okH N F) (hN : N + 240 ≤ 100000000) (h8 : k = 8 → 1 ≤ F.1 0) (e : sAft F k p q r F') : okH (N + 240) F' ∧ (F'.1 0 = F.1 0 ∨ (k = 0 ∧ F'.1 0 = F.1 0 + 1)) := by
  rcases e with ⟨e, rfl⟩ | ⟨-, rfl⟩
  · obtain ⟨h1, h2, h3, h4⟩ := h
    have c := okC_do hk h1 h2 e
    refine ⟨⟨okF_do hk h1 hN e c.2, c.1, okA_do hk h1 h3 e, ?_⟩, ?_⟩
    · by_cases k0 : k = 0
      · subst k0; exact h4
      · exact (sDo_num (by omega) h8 h4).2
    · by_cases k0 : k = 0
      · subst k0; exact Or.inr ⟨rfl, rfl⟩
      · exact Or.inl (sDo_num (by omega) h8 h4).1
  · exact ⟨okH_up h (by have := h.1; omega) hN, Or.inl rfl⟩
theorem okI_do {N : Int} {F F' : eFs} {k p q r : Int} (hk : 0 ≤ k ∧ k ≤ 8) (h : okI N F) (hN : N + 240 ≤ 100000000) (h0 : k = 0 → F.1 0 < 9) (e : sAft F k p q r F') : okI (N + 240) F' := by
  obtain ⟨h1, h2⟩ := okH_do hk h.1 hN (fun _ => h.2.1) e
  have := h.2
  exact ⟨h1, by omega, by omega⟩
theorem okI_up {N N2 : Int} {F : eFs} (h : okI N F) (h1 : N ≤ N2) (h2 : N2 ≤ 100000000) : okI N2 F := ⟨okH_up h.1 h1 h2, h.2⟩
theorem okF_0 : okF 0 sF0 := by
  unfold okF
  refine ⟨by decide, by decide, ⟨by decide, by decide, fun _ => rfl⟩, by decide, ⟨by decide, by decide, by decide, by decide, by decide, fun _ => rfl⟩, by decide, by decide, by decide, by decide, by decide, ⟨by decide, by decide, fun _ => rfl⟩, by decide, ?_, ?_, ?_, ?_, ?_, ?_⟩ <;> first | (intro j; show (0 : Int) ≤ 0 ∧ (0 : Int) ≤ _; decide) | (intro j; show (0 : Int) ≤ 0 ∧ (0 : Int) < _; decide)
theorem okC_0 : okC sF0 := by
  show sCnt sF0 = 0
  unfold sCnt
  refine eSB_zero (fun y _ _ => eSB_zero (fun x _ _ => eI1_f (fun q => sBit_0 q)))
theorem okH_0 : okH 0 sF0 := ⟨okF_0, okC_0, okA_0, rfl⟩
/-- what a run of acts owes -/
def qAct (a : Nat → Nat) (q1 q2 q3 q4 q5 : Nat) (N : Int) : ePo := fun o a1 cs1 => a1 = a ∧ o = .inl none ∧ ∃ (F' : eFs) (z' : Nat → Int) (P' : Int → Int) (c' n' : Int) (h' : eHs), cs1 = wMu a q1 q2 q3 q4 q5 z' F' P' c' n' h' ∧ okI N F' ∧ okZ z' ∧ (0 ≤ c' ∧ c' ≤ 8) ∧ (0 ≤ n' ∧ n' ≤ 7)
theorem qMu_len {a : Nat → Nat} {q1 q2 q3 q4 q5 : Nat} {F : eFs} {k p q r : Int} : ∀ o a1 cs1, qMu a q1 q2 q3 q4 q5 F k p q r o a1 cs1 → a1 = a ∧ cs1.length = 93 := by
  intro o a1 cs1 h
  obtain ⟨h1, -, F', z', P', c', n', h', h2, -⟩ := h
  exact ⟨h1, by rw [h2]; rfl⟩
theorem qAct_len {a : Nat → Nat} {q1 q2 q3 q4 q5 : Nat} {N : Int} : ∀ o a1 cs1, qAct a q1 q2 q3 q4 q5 N o a1 cs1 → a1 = a ∧ cs1.length = 93 := by
  intro o a1 cs1 h
  obtain ⟨h1, -, F', z', P', c', n', h', h2, -⟩ := h
  exact ⟨h1, by rw [h2]; rfl⟩
set_option maxHeartbeats 4000000 in
theorem T_acts {S : Nat → Nat} {bb L : Nat} {xs : Nat → Int32} (hL : L ≤ 260) {a : Nat → Nat} {q1 q2 q3 q4 q5 : Nat} {z : Nat → Int} {N : Int} {F : eFs} {P : Int → Int} {c n : Int} {h : eHs} (hI : okI N F) (hN : N + 20000 ≤ 100000000) (hz : okZ z) (hcc : 0 ≤ c ∧ c ≤ 8) (hnn : 0 ≤ n ∧ n ≤ 7) {k : Int} (hk : 0 ≤ k ∧ k ≤ 200) : EMx (S, some (.inl (bb, L, xs))) mL_acts (eRn 12 2 12) a [.ref (a 0), .ref bb, vi k] (wMu a q1 q2 q3 q4 q5 z F P c n h) (qAct a q1 q2 q3 q4 q5 (N + 240)) := by
  have hF := hI.1.1
  have hcnt := hI.2
  have hx := lSm_in (xs := xs) (L := L) (k := k + 1) (n := 12) (by decide)
  have hy := lSm_in (xs := xs) (L := L) (k := k + 2) (n := 12) (by decide)
  have hv0 := lSm_in (xs := xs) (L := L) (k := k + 3) (n := 30) (by decide)
  have hw := lSm_in (xs := xs) (L := L) (k := k) (n := 14) (by decide)
  refine EMx.of (by decide +kernel) rfl (Nat.le_of_ble_eq_true rfl) rfl ?_
  refine e_aload_n dL_acts_0 rfl rfl ?_
  refine e_iload_n dL_acts_1 rfl rfl ?_
  refine e_iconst dL_acts_2 rfl ?_
  refine e_iadd dL_acts_3 rfl ?_
  refine e_bipush dL_acts_4 rfl rfl ?_
  refine e_xS2 [] (av := [.ref bb, vi (k + 1), vi 12]) (rest := []) lk_L_74 rfl dL_acts_6 rfl (T_some hL (by omega) (by decide)) (eRd.own rfl rfl) rfl rfl (Nat.le_of_ble_eq_true rfl) (Nat.le_of_ble_eq_true rfl) (Nat.le_of_ble_eq_true rfl) ⟨rfl, rfl⟩ rfl rfl rfl rfl ?_
  refine f_istore_n dL_acts_9 rfl (Nat.le_of_ble_eq_true rfl) rfl ?_
  refine e_aload_n dL_acts_10 rfl rfl ?_
  refine e_iload_n dL_acts_11 rfl rfl ?_
  refine e_iconst dL_acts_12 rfl ?_
  refine e_iadd dL_acts_13 rfl ?_
  refine e_bipush dL_acts_14 rfl rfl ?_
  refine e_xS2 [] (av := [.ref bb, vi (k + 2), vi 12]) (rest := []) lk_L_74 rfl dL_acts_16 rfl (T_some hL (by omega) (by decide)) (eRd.own rfl rfl) rfl rfl (Nat.le_of_ble_eq_true rfl) (Nat.le_of_ble_eq_true rfl) (Nat.le_of_ble_eq_true rfl) ⟨rfl, rfl⟩ rfl rfl rfl rfl ?_
  refine f_istore dL_acts_19 rfl (Nat.le_of_ble_eq_true rfl) rfl ?_
  refine e_aload_n dL_acts_21 rfl rfl ?_
  refine e_iload_n dL_acts_22 rfl rfl ?_
  refine e_iconst dL_acts_23 rfl ?_
  refine e_iadd dL_acts_24 rfl ?_
  refine e_bipush dL_acts_25 rfl rfl ?_
  refine e_xS2 [] (av := [.ref bb, vi (k + 3), vi 30]) (rest := []) lk_L_74 rfl dL_acts_27 rfl (T_some hL (by omega) (by decide)) (eRd.own rfl rfl) rfl rfl (Nat.le_of_ble_eq_true rfl) (Nat.le_of_ble_eq_true rfl) (Nat.le_of_ble_eq_true rfl) ⟨rfl, rfl⟩ rfl rfl rfl rfl ?_
  refine f_istore dL_acts_30 rfl (Nat.le_of_ble_eq_true rfl) rfl ?_
  refine e_aload_n dL_acts_32 rfl rfl ?_
  refine e_cV0 [0, 1, 2, 3, 4, 5, 6, 7, 8, 9, 10] (v := vi (F.1 0)) (av := []) (rest := []) lk_L_90 rfl dL_acts_33 rfl (C_X6_basketCount (z := z) (F := F) (P := P) hF) rfl rfl (Nat.le_of_ble_eq_true rfl) (Nat.le_of_ble_eq_true rfl) (Nat.le_of_ble_eq_true rfl) ⟨rfl, rfl⟩ rfl rfl rfl rfl rfl rfl ?_
  refine f_istore dL_acts_36 rfl (Nat.le_of_ble_eq_true rfl) rfl ?_
  refine e_aload_n dL_acts_38 rfl rfl ?_
  refine e_iload_n dL_acts_39 rfl rfl ?_
  refine e_bipush dL_acts_40 rfl rfl ?_
  refine e_xS2 [] (av := [.ref bb, vi k, vi 14]) (rest := []) lk_L_74 rfl dL_acts_42 rfl (T_some hL (by omega) (by decide)) (eRd.own rfl rfl) rfl rfl (Nat.le_of_ble_eq_true rfl) (Nat.le_of_ble_eq_true rfl) (Nat.le_of_ble_eq_true rfl) ⟨rfl, rfl⟩ rfl rfl rfl rfl ?_
  have hJ : ∀ (b9 : Nat × Nat) (v9 : Option Value) (F' : eFs) (z' : Nat → Int) (P' : Int → Int) (c' n' : Int) (h' : eHs), okI (N + 240) F' → okZ z' → (0 ≤ c' ∧ c' ≤ 8) → (0 ≤ n' ∧ n' ≤ 7) →
      EV (mL_acts, eRn 12 2 12, qAct a q1 q2 q3 q4 q5 (N + 240), (S, some (.inl (bb, L, xs)))) a b9 (wMu a q1 q2 q3 q4 q5 z' F' P' c' n' h') 241 [some (.ref (a 0)), some (.ref bb), some (vi k), some (vi (lSm xs L (k + 1) 12)), some (vi (lSm xs L (k + 2) 12)), some (vi (lSm xs L (k + 3) 30)), some (vi (F.1 0)), v9] [] := by
    intro b9 v9 F' z' P' c' n' h' i1 i2 i3 i4
    exact e_vret dL_acts_241 rfl ⟨rfl, rfl, F', z', P', c', n', h', rfl, i1, i2, i3, i4⟩
  generalize hwe : lSm xs L k 14 = w at hw ⊢
  generalize hxe : lSm xs L (k + 1) 12 = x at hx hJ ⊢
  generalize hye : lSm xs L (k + 2) 12 = y at hy hJ ⊢
  generalize hve : lSm xs L (k + 3) 30 = v at hv0 hJ ⊢
  have hm3 : 0 ≤ v.tmod 3 ∧ v.tmod 3 < 3 := ⟨Int.tmod_nonneg _ hv0.1, Int.tmod_lt_of_pos _ (by decide)⟩
  have hx3 : 0 ≤ x.tmod 3 ∧ x.tmod 3 < 3 := ⟨Int.tmod_nonneg _ hx.1, Int.tmod_lt_of_pos _ (by decide)⟩
  have hm8 : 0 ≤ v.tmod 8 ∧ v.tmod 8 < 8 := ⟨Int.tmod_nonneg _ hv0.1, Int.tmod_lt_of_pos _ (by decide)⟩
  have hm5 : 0 ≤ v.tmod 5 ∧ v.tmod 5 < 5 := ⟨Int.tmod_nonneg _ hv0.1, Int.tmod_lt_of_pos _ (by decide)⟩
  have hm6 : 0 ≤ v.tmod 6 ∧ v.tmod 6 < 6 := ⟨Int.tmod_nonneg _ hv0.1, Int.tmod_lt_of_pos _ (by decide)⟩
  have hmn : 0 ≤ v.tmod (F.1 0) ∧ v.tmod (F.1 0) < F.1 0 := ⟨Int.tmod_nonneg _ hv0.1, Int.tmod_lt_of_pos _ (by omega)⟩
  rcases (show w = 0 ∨ (w = 1 ∨ w = 2) ∨ w = 3 ∨ w = 4 ∨ w = 5 ∨ w = 6 ∨ (w = 7 ∨ w = 8) ∨ w = 9 ∨ 10 ≤ w by omega) with h9 | h9 | h9 | h9 | h9 | h9 | h9 | h9 | h9
  · subst h9
    refine e_tabIn (t := 100) dL_acts_45 (by decide) (by decide) (by decide) rfl rfl ?_
    refine e_iload dL_acts_100 rfl rfl ?_
    refine e_bipush dL_acts_102 rfl rfl ?_
    refine e_icmp_ge (t := 121) dL_acts_104 rfl rfl (by omega) (by omega) (fun h0 => ?_) (fun h0 => ?_)
    · refine e_iconst dL_acts_121 rfl ?_
      refine f_istore dL_acts_122 rfl (Nat.le_of_ble_eq_true rfl) rfl ?_
      refine e_goto (n := 241) dL_acts_124 rfl ?_
      exact hJ _ _ F z P c n h (okI_up hI (by omega) (by omega)) hz hcc hnn
    · refine e_aload_n dL_acts_107 rfl rfl ?_
      refine e_iload_n dL_acts_108 rfl rfl ?_
      refine e_iload dL_acts_109 rfl rfl ?_
      refine e_iload dL_acts_111 rfl rfl ?_
      refine e_iconst dL_acts_113 rfl ?_
      refine e_irem dL_acts_114 rfl (by omega) (by omega) (by omega) ?_
      refine e_cSHw (m := 93) (av := [.ref (a 0), vi x, vi y, vi (v.tmod 3)]) (rest := []) lk_L_78 (by decide) dL_acts_115 rfl (W_addBasket (z := z) (P := P) (c := c) (n := n) (h := h) hF hz hcc hnn (by omega) (by omega) (by omega)) rfl rfl (Nat.le_of_ble_eq_true rfl) (Nat.le_of_ble_eq_true rfl) (Nat.le_of_ble_eq_true rfl) (0, 0) ⟨(Nat.le_of_ble_eq_true rfl), (Nat.le_of_ble_eq_true rfl)⟩ rfl qMu_len (fun v9 cs1 hq => ?_) (fun E cs1 hq => (by obtain ⟨-, ⟨v, hv⟩, -⟩ := hq; cases hv))
      obtain ⟨-, ⟨v8, hv⟩, F', z', P', c', n', h', rfl, hq, hz', hc', hn'⟩ := hq
      cases hv
      refine e_goto (n := 122) dL_acts_118 rfl ?_
      refine f_istore dL_acts_122 rfl (Nat.le_of_ble_eq_true rfl) rfl ?_
      refine e_goto (n := 241) dL_acts_124 rfl ?_
      exact hJ _ _ F' z' P' c' n' h' (okI_do (k := 0) (by decide) hI (by omega) (fun _ => by omega) hq) hz' hc' hn'
  · have hT : EV (mL_acts, eRn 12 2 12, qAct a q1 q2 q3 q4 q5 (N + 240), (S, some (.inl (bb, L, xs)))) a (2, 12) (wMu a q1 q2 q3 q4 q5 z F P c n h) 127 [some (.ref (a 0)), some (.ref bb), some (vi k), some (vi x), some (vi y), some (vi v), some (vi (F.1 0)), none] [] := by
      refine e_aload_n dL_acts_127 rfl rfl ?_
      refine e_iload dL_acts_128 rfl rfl ?_
      refine e_iload dL_acts_130 rfl rfl ?_
      refine e_irem dL_acts_132 rfl (by omega) (by omega) (by omega) ?_
      refine e_iload_n dL_acts_133 rfl rfl ?_
      refine e_iload dL_acts_134 rfl rfl ?_
      refine e_cSHw (m := 93) (av := [.ref (a 0), vi (v.tmod (F.1 0)), vi x, vi y]) (rest := []) lk_L_93 (by decide) dL_acts_136 rfl (W_jump (z := z) (P := P) (c := c) (n := n) (h := h) hF hz hcc hnn (by omega) (by omega) (by omega)) rfl rfl (Nat.le_of_ble_eq_true rfl) (Nat.le_of_ble_eq_true rfl) (Nat.le_of_ble_eq_true rfl) (0, 0) ⟨(Nat.le_of_ble_eq_true rfl), (Nat.le_of_ble_eq_true rfl)⟩ rfl qMu_len (fun v9 cs1 hq => ?_) (fun E cs1 hq => (by obtain ⟨-, ⟨v, hv⟩, -⟩ := hq; cases hv))
      obtain ⟨-, ⟨v8, hv⟩, F', z', P', c', n', h', rfl, hq, hz', hc', hn'⟩ := hq
      cases hv
      refine f_istore dL_acts_139 rfl (Nat.le_of_ble_eq_true rfl) rfl ?_
      refine e_goto (n := 241) dL_acts_141 rfl ?_
      exact hJ _ _ F' z' P' c' n' h' (okI_do (k := 1) (by decide) hI (by omega) (fun q => absurd q (by decide)) hq) hz' hc' hn'
    rcases h9 with h9 | h9 <;> subst h9
    · refine e_tabIn (t := 127) dL_acts_45 (by decide) (by decide) (by decide) rfl rfl ?_
      exact hT
    · refine e_tabIn (t := 127) dL_acts_45 (by decide) (by decide) (by decide) rfl rfl ?_
      exact hT
  · subst h9
    refine e_tabIn (t := 144) dL_acts_45 (by decide) (by decide) (by decide) rfl rfl ?_
    refine e_aload_n dL_acts_144 rfl rfl ?_
    refine e_iload dL_acts_145 rfl rfl ?_
    refine e_iload dL_acts_147 rfl rfl ?_
    refine e_irem dL_acts_149 rfl (by omega) (by omega) (by omega) ?_
    refine e_iload_n dL_acts_150 rfl rfl ?_
    refine e_iconst dL_acts_151 rfl ?_
    refine e_irem dL_acts_152 rfl (by omega) (by omega) (by omega) ?_
    refine e_cSHw (m := 93) (av := [.ref (a 0), vi (v.tmod (F.1 0)), vi (x.tmod 3)]) (rest := []) lk_L_95 (by decide) dL_acts_153 rfl (W_setHandle (z := z) (P := P) (c := c) (n := n) (h := h) hF hz hcc hnn (by omega) (by omega)) rfl rfl (Nat.le_of_ble_eq_true rfl) (Nat.le_of_ble_eq_true rfl) (Nat.le_of_ble_eq_true rfl) (0, 0) ⟨(Nat.le_of_ble_eq_true rfl), (Nat.le_of_ble_eq_true rfl)⟩ rfl qMu_len (fun v9 cs1 hq => ?_) (fun E cs1 hq => (by obtain ⟨-, ⟨v, hv⟩, -⟩ := hq; cases hv))
    obtain ⟨-, ⟨v8, hv⟩, F', z', P', c', n', h', rfl, hq, hz', hc', hn'⟩ := hq
    cases hv
    refine f_istore dL_acts_156 rfl (Nat.le_of_ble_eq_true rfl) rfl ?_
    refine e_goto (n := 241) dL_acts_158 rfl ?_
    exact hJ _ _ F' z' P' c' n' h' (okI_do (k := 2) (by decide) hI (by omega) (fun q => absurd q (by decide)) hq) hz' hc' hn'
  · subst h9
    refine e_tabIn (t := 161) dL_acts_45 (by decide) (by decide) (by decide) rfl rfl ?_
    refine e_aload_n dL_acts_161 rfl rfl ?_
    refine e_iload_n dL_acts_162 rfl rfl ?_
    refine e_iload dL_acts_163 rfl rfl ?_
    refine e_cSHw (m := 93) (av := [.ref (a 0), vi x, vi y]) (rest := []) lk_L_81 (by decide) dL_acts_165 rfl (W_addCloud (z := z) (P := P) (c := c) (n := n) (h := h) hF hz hcc hnn (by omega) (by omega)) rfl rfl (Nat.le_of_ble_eq_true rfl) (Nat.le_of_ble_eq_true rfl) (Nat.le_of_ble_eq_true rfl) (0, 0) ⟨(Nat.le_of_ble_eq_true rfl), (Nat.le_of_ble_eq_true rfl)⟩ rfl qMu_len (fun v9 cs1 hq => ?_) (fun E cs1 hq => (by obtain ⟨-, ⟨v, hv⟩, -⟩ := hq; cases hv))
    obtain ⟨-, ⟨v8, hv⟩, F', z', P', c', n', h', rfl, hq, hz', hc', hn'⟩ := hq
    cases hv
    refine f_istore dL_acts_168 rfl (Nat.le_of_ble_eq_true rfl) rfl ?_
    refine e_goto (n := 241) dL_acts_170 rfl ?_
    exact hJ _ _ F' z' P' c' n' h' (okI_do (k := 3) (by decide) hI (by omega) (fun q => absurd q (by decide)) hq) hz' hc' hn'
  · subst h9
    refine e_tabIn (t := 173) dL_acts_45 (by decide) (by decide) (by decide) rfl rfl ?_
    refine e_aload_n dL_acts_173 rfl rfl ?_
    refine e_iload_n dL_acts_174 rfl rfl ?_
    refine e_iload dL_acts_175 rfl rfl ?_
    refine e_cSHw (m := 93) (av := [.ref (a 0), vi x, vi y]) (rest := []) lk_L_97 (by decide) dL_acts_177 rfl (W_removeCloud (z := z) (P := P) (c := c) (n := n) (h := h) hF hz hcc hnn (by omega) (by omega)) rfl rfl (Nat.le_of_ble_eq_true rfl) (Nat.le_of_ble_eq_true rfl) (Nat.le_of_ble_eq_true rfl) (0, 0) ⟨(Nat.le_of_ble_eq_true rfl), (Nat.le_of_ble_eq_true rfl)⟩ rfl qMu_len (fun v9 cs1 hq => ?_) (fun E cs1 hq => (by obtain ⟨-, ⟨v, hv⟩, -⟩ := hq; cases hv))
    obtain ⟨-, ⟨v8, hv⟩, F', z', P', c', n', h', rfl, hq, hz', hc', hn'⟩ := hq
    cases hv
    refine f_istore dL_acts_180 rfl (Nat.le_of_ble_eq_true rfl) rfl ?_
    refine e_goto (n := 241) dL_acts_182 rfl ?_
    exact hJ _ _ F' z' P' c' n' h' (okI_do (k := 4) (by decide) hI (by omega) (fun q => absurd q (by decide)) hq) hz' hc' hn'
  · subst h9
    refine e_tabIn (t := 185) dL_acts_45 (by decide) (by decide) (by decide) rfl rfl ?_
    refine e_aload_n dL_acts_185 rfl rfl ?_
    refine e_iconst dL_acts_186 rfl ?_
    refine e_iload dL_acts_187 rfl rfl ?_
    refine e_bipush dL_acts_189 rfl rfl ?_
    refine e_irem dL_acts_191 rfl (by omega) (by omega) (by omega) ?_
    refine e_iadd dL_acts_192 rfl ?_
    refine e_cSHw (m := 93) (av := [.ref (a 0), vi (2 + v.tmod 8)]) (rest := []) lk_L_99 (by decide) dL_acts_193 rfl (W_setTurnLength (z := z) (P := P) (c := c) (n := n) (h := h) hF hz hcc hnn (by omega)) rfl rfl (Nat.le_of_ble_eq_true rfl) (Nat.le_of_ble_eq_true rfl) (Nat.le_of_ble_eq_true rfl) (0, 0) ⟨(Nat.le_of_ble_eq_true rfl), (Nat.le_of_ble_eq_true rfl)⟩ rfl qMu_len (fun v9 cs1 hq => ?_) (fun E cs1 hq => (by obtain ⟨-, ⟨v, hv⟩, -⟩ := hq; cases hv))
    obtain ⟨-, ⟨v8, hv⟩, F', z', P', c', n', h', rfl, hq, hz', hc', hn'⟩ := hq
    cases hv
    refine f_istore dL_acts_196 rfl (Nat.le_of_ble_eq_true rfl) rfl ?_
    refine e_goto (n := 241) dL_acts_198 rfl ?_
    exact hJ _ _ F' z' P' c' n' h' (okI_do (k := 5) (by decide) hI (by omega) (fun q => absurd q (by decide)) hq) hz' hc' hn'
  · have hT : EV (mL_acts, eRn 12 2 12, qAct a q1 q2 q3 q4 q5 (N + 240), (S, some (.inl (bb, L, xs)))) a (2, 12) (wMu a q1 q2 q3 q4 q5 z F P c n h) 201 [some (.ref (a 0)), some (.ref bb), some (vi k), some (vi x), some (vi y), some (vi v), some (vi (F.1 0)), none] [] := by
      refine e_aload_n dL_acts_201 rfl rfl ?_
      refine e_iload_n dL_acts_202 rfl rfl ?_
      refine e_iload dL_acts_203 rfl rfl ?_
      refine e_cSHw (m := 93) (av := [.ref (a 0), vi x, vi y]) (rest := []) lk_L_84 (by decide) dL_acts_205 rfl (W_setTarget (z := z) (P := P) (c := c) (n := n) (h := h) hF hz hcc hnn (by omega) (by omega)) rfl rfl (Nat.le_of_ble_eq_true rfl) (Nat.le_of_ble_eq_true rfl) (Nat.le_of_ble_eq_true rfl) (0, 0) ⟨(Nat.le_of_ble_eq_true rfl), (Nat.le_of_ble_eq_true rfl)⟩ rfl qMu_len (fun v9 cs1 hq => ?_) (fun E cs1 hq => (by obtain ⟨-, ⟨v, hv⟩, -⟩ := hq; cases hv))
      obtain ⟨-, ⟨v8, hv⟩, F', z', P', c', n', h', rfl, hq, hz', hc', hn'⟩ := hq
      cases hv
      refine f_istore dL_acts_208 rfl (Nat.le_of_ble_eq_true rfl) rfl ?_
      refine e_goto (n := 241) dL_acts_210 rfl ?_
      exact hJ _ _ F' z' P' c' n' h' (okI_do (k := 6) (by decide) hI (by omega) (fun q => absurd q (by decide)) hq) hz' hc' hn'
    rcases h9 with h9 | h9 <;> subst h9
    · refine e_tabIn (t := 201) dL_acts_45 (by decide) (by decide) (by decide) rfl rfl ?_
      exact hT
    · refine e_tabIn (t := 201) dL_acts_45 (by decide) (by decide) (by decide) rfl rfl ?_
      exact hT
  · subst h9
    refine e_tabIn (t := 213) dL_acts_45 (by decide) (by decide) (by decide) rfl rfl ?_
    refine e_aload_n dL_acts_213 rfl rfl ?_
    refine e_iconst dL_acts_214 rfl ?_
    refine e_iload dL_acts_215 rfl rfl ?_
    refine e_iconst dL_acts_217 rfl ?_
    refine e_irem dL_acts_218 rfl (by omega) (by omega) (by omega) ?_
    refine e_iadd dL_acts_219 rfl ?_
    refine e_cSHw (m := 93) (av := [.ref (a 0), vi (2 + v.tmod 5)]) (rest := []) lk_L_102 (by decide) dL_acts_220 rfl (W_setKeep (z := z) (P := P) (c := c) (n := n) (h := h) hF hz hcc hnn (by omega)) rfl rfl (Nat.le_of_ble_eq_true rfl) (Nat.le_of_ble_eq_true rfl) (Nat.le_of_ble_eq_true rfl) (0, 0) ⟨(Nat.le_of_ble_eq_true rfl), (Nat.le_of_ble_eq_true rfl)⟩ rfl qMu_len (fun v9 cs1 hq => ?_) (fun E cs1 hq => (by obtain ⟨-, ⟨v, hv⟩, -⟩ := hq; cases hv))
    obtain ⟨-, ⟨v8, hv⟩, F', z', P', c', n', h', rfl, hq, hz', hc', hn'⟩ := hq
    cases hv
    refine f_istore dL_acts_223 rfl (Nat.le_of_ble_eq_true rfl) rfl ?_
    refine e_goto (n := 241) dL_acts_225 rfl ?_
    exact hJ _ _ F' z' P' c' n' h' (okI_do (k := 7) (by decide) hI (by omega) (fun q => absurd q (by decide)) hq) hz' hc' hn'
  · refine e_tabOut (t := 228) dL_acts_45 (by omega) (Or.inr (by omega)) rfl ?_
    refine e_aload_n dL_acts_228 rfl rfl ?_
    refine e_iconst dL_acts_229 rfl ?_
    refine e_iload dL_acts_230 rfl rfl ?_
    refine e_bipush dL_acts_232 rfl rfl ?_
    refine e_irem dL_acts_234 rfl (by omega) (by omega) (by omega) ?_
    refine e_iadd dL_acts_235 rfl ?_
    refine e_cSHw (m := 93) (av := [.ref (a 0), vi (1 + v.tmod 6)]) (rest := []) lk_L_104 (by decide) dL_acts_236 rfl (W_advance (z := z) (P := P) (c := c) (n := n) (h := h) hF hz hcc hnn (by omega) (by omega)) rfl rfl (Nat.le_of_ble_eq_true rfl) (Nat.le_of_ble_eq_true rfl) (Nat.le_of_ble_eq_true rfl) (0, 0) ⟨(Nat.le_of_ble_eq_true rfl), (Nat.le_of_ble_eq_true rfl)⟩ rfl qMu_len (fun v9 cs1 hq => ?_) (fun E cs1 hq => (by obtain ⟨-, ⟨v, hv⟩, -⟩ := hq; cases hv))
    obtain ⟨-, ⟨v8, hv⟩, F', z', P', c', n', h', rfl, hq, hz', hc', hn'⟩ := hq
    cases hv
    refine f_istore dL_acts_239 rfl (Nat.le_of_ble_eq_true rfl) rfl ?_
    exact hJ _ _ F' z' P' c' n' h' (okI_do (k := 8) (by decide) hI (by omega) (fun q => absurd q (by decide)) hq) hz' hc' hn'
/-- the first basket of all has the sky for itself -/
theorem add_first {x y g : Int} (hx : 0 ≤ x ∧ x < 12) (hy : 0 ≤ y ∧ y < 12) (hg : 0 ≤ g ∧ g < 3) : sHin sF0 0 x y g = 0 := by
  have hin : sIn x y := ⟨hx.1, hx.2, hy.1, hy.2⟩
  show hAdd sF0 x y g = 0
  unfold hAdd
  rw [if_neg (by omega), if_neg (by show ¬ (10 : Int) ≤ 0; decide), if_pos]
  exact ⟨hin, fun q => sBit_0 q.2, eFB_end (by show (0 : Int) ≤ 0; decide)⟩
set_option maxHeartbeats 4000000 in
theorem T_build {S : Nat → Nat} {bb L : Nat} {xs : Nat → Int32} (hL : L ≤ 260) {a : Nat → Nat} {q1 q2 q3 q4 q5 : Nat} {z : Nat → Int} {P : Int → Int} {c n : Int} {h : eHs} (hz : okZ z) (hcc : 0 ≤ c ∧ c ≤ 8) (hnn : 0 ≤ n ∧ n ≤ 7) : EMx (S, some (.inl (bb, L, xs))) mL_build (eRn 13 46 276) a [.ref (a 0), .ref bb] (wMu a q1 q2 q3 q4 q5 z sF0 P c n h) (qAct a q1 q2 q3 q4 q5 5520) := by
  -- the last loop: twelve acts
  have h3 : ∀ (k : Nat) (i : Int) (F : eFs) (z : Nat → Int) (P : Int → Int) (c n : Int) (h : eHs), (12 - i).toNat = k → (0 ≤ i ∧ i ≤ 12) → okI (2640 + 240 * i) F → okZ z → (0 ≤ c ∧ c ≤ 8) → (0 ≤ n ∧ n ≤ 7) → EV (mL_build, eRn 13 46 276, qAct a q1 q2 q3 q4 q5 5520, (S, some (.inl (bb, L, xs)))) a (24 - 2 * i.toNat, 144 - 12 * i.toNat) (wMu a q1 q2 q3 q4 q5 z F P c n h) 108 [some (.ref (a 0)), some (.ref bb), none, some (vi i)] [] := by
    intro k
    induction k with
    | zero =>
      intro i F z P c n h hk hi hI hz hcc hnn
      refine e_iload_n dL_build_108 rfl rfl ?_
      refine e_bipush dL_build_109 rfl rfl ?_
      refine e_icmp_ge (t := 131) dL_build_111 rfl rfl (by omega) (by omega) (fun h0 => ?_) (fun h0 => absurd h0 (by omega))
      exact e_vret dL_build_131 rfl ⟨rfl, rfl, F, z, P, c, n, h, rfl, (by rw [show (5520 : Int) = 2640 + 240 * i by omega]; exact hI), hz, hcc, hnn⟩
    | succ k ih =>
      intro i F z P c n h hk hi hI hz hcc hnn
      refine e_iload_n dL_build_108 rfl rfl ?_
      refine e_bipush dL_build_109 rfl rfl ?_
      refine e_icmp_ge (t := 131) dL_build_111 rfl rfl (by omega) (by omega) (fun h0 => absurd h0 (by omega)) (fun h0 => ?_)
      refine e_aload_n dL_build_114 rfl rfl ?_
      refine e_aload_n dL_build_115 rfl rfl ?_
      refine e_bipush dL_build_116 rfl rfl ?_
      refine e_iconst dL_build_118 rfl ?_
      refine e_iload_n dL_build_119 rfl rfl ?_
      refine e_imul dL_build_120 rfl ?_
      refine e_iadd dL_build_121 rfl ?_
      refine e_xSw (m := 93) (av := [.ref (a 0), .ref bb, vi (34 + 4 * i)]) (rest := []) lk_L_86 rfl dL_build_122 rfl (T_acts hL hI (by omega) hz hcc hnn (by omega)) (Or.inr rfl) rfl rfl (Nat.le_of_ble_eq_true rfl) (Nat.le_of_ble_eq_true rfl) (Nat.le_of_ble_eq_true rfl) (24 - 2 * (i + 1).toNat, 144 - 12 * (i + 1).toNat) ⟨(by show 2 + _ ≤ _; omega), (by show 12 + _ ≤ _; omega)⟩ rfl qAct_len (fun v9 cs1 hq => ?_) (fun E cs1 hq => (by obtain ⟨-, hv, -⟩ := hq; cases hv))
      obtain ⟨-, hv, F', z', P', c', n', h', rfl, hq, hz', hc', hn'⟩ := hq
      cases hv
      refine f_iinc dL_build_125 rfl rfl (Nat.le_of_ble_eq_true rfl) rfl ?_
      refine e_goto (n := 108) dL_build_128 rfl ?_
      exact ih (i + 1) F' z' P' c' n' h' (by omega) (by omega) (by rw [show 2640 + 240 * (i + 1) = 2640 + 240 * i + 240 by omega]; exact hq) hz' hc' hn'
  -- the target
  have h2 : ∀ (F : eFs) (z : Nat → Int) (P : Int → Int) (c n : Int) (h : eHs), okI 2400 F → okZ z → (0 ≤ c ∧ c ≤ 8) → (0 ≤ n ∧ n ≤ 7) → EV (mL_build, eRn 13 46 276, qAct a q1 q2 q3 q4 q5 5520, (S, some (.inl (bb, L, xs)))) a (26, 156) (wMu a q1 q2 q3 q4 q5 z F P c n h) 85 [some (.ref (a 0)), some (.ref bb), none, none] [] := by
    intro F z P c n h hI hz hcc hnn
    have hF := hI.1.1
    have hx := lSm_in (xs := xs) (L := L) (k := 32) (n := 12) (by decide)
    have hy := lSm_in (xs := xs) (L := L) (k := 33) (n := 12) (by decide)
    refine e_aload_n dL_build_85 rfl rfl ?_
    refine e_aload_n dL_build_86 rfl rfl ?_
    refine e_bipush dL_build_87 rfl rfl ?_
    refine e_bipush dL_build_89 rfl rfl ?_
    refine e_xS2 [] (av := [.ref bb, vi 32, vi 12]) (rest := [.ref (a 0)]) lk_L_74 rfl dL_build_91 rfl (T_some hL (by omega) (by decide)) (eRd.own rfl rfl) rfl rfl (Nat.le_of_ble_eq_true rfl) (Nat.le_of_ble_eq_true rfl) (Nat.le_of_ble_eq_true rfl) ⟨rfl, rfl⟩ rfl rfl rfl rfl ?_
    refine e_aload_n dL_build_94 rfl rfl ?_
    refine e_bipush dL_build_95 rfl rfl ?_
    refine e_bipush dL_build_97 rfl rfl ?_
    refine e_xS2 [] (av := [.ref bb, vi 33, vi 12]) (rest := [vi (lSm xs L 32 12), .ref (a 0)]) lk_L_74 rfl dL_build_99 rfl (T_some hL (by omega) (by decide)) (eRd.own rfl rfl) rfl rfl (Nat.le_of_ble_eq_true rfl) (Nat.le_of_ble_eq_true rfl) (Nat.le_of_ble_eq_true rfl) ⟨rfl, rfl⟩ rfl rfl rfl rfl ?_
    refine e_cSHw (m := 93) (av := [.ref (a 0), vi (lSm xs L 32 12), vi (lSm xs L 33 12)]) (rest := []) lk_L_84 (by decide) dL_build_102 rfl (W_setTarget (z := z) (P := P) (c := c) (n := n) (h := h) hF hz hcc hnn (by omega) (by omega)) rfl rfl (Nat.le_of_ble_eq_true rfl) (Nat.le_of_ble_eq_true rfl) (Nat.le_of_ble_eq_true rfl) (24, 144) ⟨(Nat.le_of_ble_eq_true rfl), (Nat.le_of_ble_eq_true rfl)⟩ rfl qMu_len (fun v9 cs1 hq => ?_) (fun E cs1 hq => (by obtain ⟨-, ⟨v, hv⟩, -⟩ := hq; cases hv))
    obtain ⟨-, ⟨v8, hv⟩, F', z', P', c', n', h', rfl, hq, hz', hc', hn'⟩ := hq
    cases hv
    refine f_istore_n dL_build_105 rfl (Nat.le_of_ble_eq_true rfl) rfl ?_
    refine e_iconst dL_build_106 rfl ?_
    refine f_istore_n dL_build_107 rfl (Nat.le_of_ble_eq_true rfl) rfl ?_
    refine EV.fgt 2 ?_
    exact h3 _ 0 F' z' P' c' n' h' rfl (by decide) (okI_do (k := 6) (by decide) hI (by decide) (fun q => absurd q (by decide)) hq) hz' hc' hn'
  -- four clouds
  have h1 : ∀ (k : Nat) (i : Int) (F : eFs) (z : Nat → Int) (P : Int → Int) (c n : Int) (h : eHs), (4 - i).toNat = k → (0 ≤ i ∧ i ≤ 4) → okI (1440 + 240 * i) F → okZ z → (0 ≤ c ∧ c ≤ 8) → (0 ≤ n ∧ n ≤ 7) → EV (mL_build, eRn 13 46 276, qAct a q1 q2 q3 q4 q5 5520, (S, some (.inl (bb, L, xs)))) a (34 - 2 * i.toNat, 204 - 12 * i.toNat) (wMu a q1 q2 q3 q4 q5 z F P c n h) 49 [some (.ref (a 0)), some (.ref bb), none, some (vi i)] [] := by
    intro k
    induction k with
    | zero =>
      intro i F z P c n h hk hi hI hz hcc hnn
      refine e_iload_n dL_build_49 rfl rfl ?_
      refine e_iconst dL_build_50 rfl ?_
      refine e_icmp_ge (t := 85) dL_build_51 rfl rfl (by omega) (by omega) (fun h0 => ?_) (fun h0 => absurd h0 (by omega))
      refine EV.fgt 3 (EV.fewer (b1 := (26, 156)) ⟨(by show 26 ≤ _; omega), (by show 156 ≤ _; omega)⟩ ?_)
      exact h2 F z P c n h (by rw [show (2400 : Int) = 1440 + 240 * i by omega]; exact hI) hz hcc hnn
    | succ k ih =>
      intro i F z P c n h hk hi hI hz hcc hnn
      have hF := hI.1.1
      have hx := lSm_in (xs := xs) (L := L) (k := 24 + i) (n := 12) (by decide)
      have hy := lSm_in (xs := xs) (L := L) (k := 28 + i) (n := 12) (by decide)
      refine e_iload_n dL_build_49 rfl rfl ?_
      refine e_iconst dL_build_50 rfl ?_
      refine e_icmp_ge (t := 85) dL_build_51 rfl rfl (by omega) (by omega) (fun h0 => absurd h0 (by omega)) (fun h0 => ?_)
      refine e_aload_n dL_build_54 rfl rfl ?_
      refine e_aload_n dL_build_55 rfl rfl ?_
      refine e_bipush dL_build_56 rfl rfl ?_
      refine e_iload_n dL_build_58 rfl rfl ?_
      refine e_iadd dL_build_59 rfl ?_
      refine e_bipush dL_build_60 rfl rfl ?_
      refine e_xS2 [] (av := [.ref bb, vi (24 + i), vi 12]) (rest := [.ref (a 0)]) lk_L_74 rfl dL_build_62 rfl (T_some hL (by omega) (by decide)) (eRd.own rfl rfl) rfl rfl (Nat.le_of_ble_eq_true rfl) (Nat.le_of_ble_eq_true rfl) (Nat.le_of_ble_eq_true rfl) ⟨rfl, rfl⟩ rfl rfl rfl rfl ?_
      refine e_aload_n dL_build_65 rfl rfl ?_
      refine e_bipush dL_build_66 rfl rfl ?_
      refine e_iload_n dL_build_68 rfl rfl ?_
      refine e_iadd dL_build_69 rfl ?_
      refine e_bipush dL_build_70 rfl rfl ?_
      refine e_xS2 [] (av := [.ref bb, vi (28 + i), vi 12]) (rest := [vi (lSm xs L (24 + i) 12), .ref (a 0)]) lk_L_74 rfl dL_build_72 rfl (T_some hL (by omega) (by decide)) (eRd.own rfl rfl) rfl rfl (Nat.le_of_ble_eq_true rfl) (Nat.le_of_ble_eq_true rfl) (Nat.le_of_ble_eq_true rfl) ⟨rfl, rfl⟩ rfl rfl rfl rfl ?_
      refine e_cSHw (m := 93) (av := [.ref (a 0), vi (lSm xs L (24 + i) 12), vi (lSm xs L (28 + i) 12)]) (rest := []) lk_L_81 (by decide) dL_build_75 rfl (W_addCloud (z := z) (P := P) (c := c) (n := n) (h := h) hF hz hcc hnn (by omega) (by omega)) rfl rfl (Nat.le_of_ble_eq_true rfl) (Nat.le_of_ble_eq_true rfl) (Nat.le_of_ble_eq_true rfl) (34 - 2 * (i + 1).toNat, 204 - 12 * (i + 1).toNat) ⟨(by show 2 + _ ≤ _; omega), (by show 12 + _ ≤ _; omega)⟩ rfl qMu_len (fun v9 cs1 hq => ?_) (fun E cs1 hq => (by obtain ⟨-, ⟨v, hv⟩, -⟩ := hq; cases hv))
      obtain ⟨-, ⟨v8, hv⟩, F', z', P', c', n', h', rfl, hq, hz', hc', hn'⟩ := hq
      cases hv
      refine f_istore_n dL_build_78 rfl (Nat.le_of_ble_eq_true rfl) rfl ?_
      refine f_iinc dL_build_79 rfl rfl (Nat.le_of_ble_eq_true rfl) rfl ?_
      refine e_goto (n := 49) dL_build_82 rfl ?_
      refine EV.fgt 2 ?_
      exact ih (i + 1) F' z' P' c' n' h' (by omega) (by omega) (by rw [show 1440 + 240 * (i + 1) = 1440 + 240 * i + 240 by omega]; exact okI_do (k := 3) (by decide) hI (by omega) (fun q => absurd q (by decide)) hq) hz' hc' hn'
  -- six baskets; the first one finds an empty sky
  have h0 : ∀ (k : Nat) (i : Int) (F : eFs) (z : Nat → Int) (P : Int → Int) (c n : Int) (h : eHs), (6 - i).toNat = k → (0 ≤ i ∧ i ≤ 6) → okH (240 * i) F → (0 ≤ F.1 0 ∧ F.1 0 ≤ i) → (i = 0 → F = sF0) → (1 ≤ i → 1 ≤ F.1 0) → okZ z → (0 ≤ c ∧ c ≤ 8) → (0 ≤ n ∧ n ≤ 7) → EV (mL_build, eRn 13 46 276, qAct a q1 q2 q3 q4 q5 5520, (S, some (.inl (bb, L, xs)))) a (46 - 2 * i.toNat, 276 - 12 * i.toNat) (wMu a q1 q2 q3 q4 q5 z F P c n h) 4 [some (.ref (a 0)), some (.ref bb), none, some (vi i)] [] := by
    intro k
    induction k with
    | zero =>
      intro i F z P c n h hk hi hH hcn hf hp hz hcc hnn
      refine e_iload_n dL_build_4 rfl rfl ?_
      refine e_bipush dL_build_5 rfl rfl ?_
      refine e_icmp_ge (t := 47) dL_build_7 rfl rfl (by omega) (by omega) (fun h0 => ?_) (fun h0 => absurd h0 (by omega))
      refine e_iconst dL_build_47 rfl ?_
      refine f_istore_n dL_build_48 rfl (Nat.le_of_ble_eq_true rfl) rfl ?_
      refine EV.fewer (b1 := (34, 204)) ⟨(by show 34 ≤ _; omega), (by show 204 ≤ _; omega)⟩ ?_
      exact h1 _ 0 F z P c n h rfl (by decide) ⟨(by rw [show (1440 + 240 * 0 : Int) = 240 * i by omega]; exact hH), by omega, by omega⟩ hz hcc hnn
    | succ k ih =>
      intro i F z P c n h hk hi hH hcn hf hp hz hcc hnn
      have hF := hH.1
      have hx := lSm_in (xs := xs) (L := L) (k := i) (n := 12) (by decide)
      have hy := lSm_in (xs := xs) (L := L) (k := 8 + i) (n := 12) (by decide)
      have hg := lSm_in (xs := xs) (L := L) (k := 16 + i) (n := 3) (by decide)
      refine e_iload_n dL_build_4 rfl rfl ?_
      refine e_bipush dL_build_5 rfl rfl ?_
      refine e_icmp_ge (t := 47) dL_build_7 rfl rfl (by omega) (by omega) (fun h0 => absurd h0 (by omega)) (fun h0 => ?_)
      refine e_aload_n dL_build_10 rfl rfl ?_
      refine e_aload_n dL_build_11 rfl rfl ?_
      refine e_iload_n dL_build_12 rfl rfl ?_
      refine e_bipush dL_build_13 rfl rfl ?_
      refine e_xS2 [] (av := [.ref bb, vi i, vi 12]) (rest := [.ref (a 0)]) lk_L_74 rfl dL_build_15 rfl (T_some hL (by omega) (by decide)) (eRd.own rfl rfl) rfl rfl (Nat.le_of_ble_eq_true rfl) (Nat.le_of_ble_eq_true rfl) (Nat.le_of_ble_eq_true rfl) ⟨rfl, rfl⟩ rfl rfl rfl rfl ?_
      refine e_aload_n dL_build_18 rfl rfl ?_
      refine e_bipush dL_build_19 rfl rfl ?_
      refine e_iload_n dL_build_21 rfl rfl ?_
      refine e_iadd dL_build_22 rfl ?_
      refine e_bipush dL_build_23 rfl rfl ?_
      refine e_xS2 [] (av := [.ref bb, vi (8 + i), vi 12]) (rest := [vi (lSm xs L i 12), .ref (a 0)]) lk_L_74 rfl dL_build_25 rfl (T_some hL (by omega) (by decide)) (eRd.own rfl rfl) rfl rfl (Nat.le_of_ble_eq_true rfl) (Nat.le_of_ble_eq_true rfl) (Nat.le_of_ble_eq_true rfl) ⟨rfl, rfl⟩ rfl rfl rfl rfl ?_
      refine e_aload_n dL_build_28 rfl rfl ?_
      refine e_bipush dL_build_29 rfl rfl ?_
      refine e_iload_n dL_build_31 rfl rfl ?_
      refine e_iadd dL_build_32 rfl ?_
      refine e_iconst dL_build_33 rfl ?_
      refine e_xS2 [] (av := [.ref bb, vi (16 + i), vi 3]) (rest := [vi (lSm xs L (8 + i) 12), vi (lSm xs L i 12), .ref (a 0)]) lk_L_74 rfl dL_build_34 rfl (T_some hL (by omega) (by decide)) (eRd.own rfl rfl) rfl rfl (Nat.le_of_ble_eq_true rfl) (Nat.le_of_ble_eq_true rfl) (Nat.le_of_ble_eq_true rfl) ⟨rfl, rfl⟩ rfl rfl rfl rfl ?_
      refine e_cSHw (m := 93) (av := [.ref (a 0), vi (lSm xs L i 12), vi (lSm xs L (8 + i) 12), vi (lSm xs L (16 + i) 3)]) (rest := []) lk_L_78 (by decide) dL_build_37 rfl (W_addBasket (z := z) (P := P) (c := c) (n := n) (h := h) hF hz hcc hnn (by omega) (by omega) (by omega)) rfl rfl (Nat.le_of_ble_eq_true rfl) (Nat.le_of_ble_eq_true rfl) (Nat.le_of_ble_eq_true rfl) (46 - 2 * (i + 1).toNat, 276 - 12 * (i + 1).toNat) ⟨(by show 2 + _ ≤ _; omega), (by show 12 + _ ≤ _; omega)⟩ rfl qMu_len (fun v9 cs1 hq => ?_) (fun E cs1 hq => (by obtain ⟨-, ⟨v, hv⟩, -⟩ := hq; cases hv))
      obtain ⟨-, ⟨v8, hv⟩, F', z', P', c', n', h', rfl, hq, hz', hc', hn'⟩ := hq
      cases hv
      refine f_istore_n dL_build_40 rfl (Nat.le_of_ble_eq_true rfl) rfl ?_
      refine f_iinc dL_build_41 rfl rfl (Nat.le_of_ble_eq_true rfl) rfl ?_
      refine e_goto (n := 4) dL_build_44 rfl ?_
      refine EV.fgt 2 ?_
      obtain ⟨g1, g2⟩ := okH_do (k := 0) (by decide) hH (by omega) (fun q => absurd q (by decide)) hq
      have g3 : i = 0 → F'.1 0 = 1 := by
        intro q0
        have e0 := hf q0
        subst e0
        rcases hq with ⟨-, rfl⟩ | ⟨q1, -⟩
        · rfl
        · exact absurd (add_first (by omega) (by omega) (by omega)) q1
      exact ih (i + 1) F' z' P' c' n' h' (by omega) (by omega) (by rw [show 240 * (i + 1) = 240 * i + 240 by omega]; exact g1) (by omega) (fun q => absurd q (by omega)) (fun _ => by
        by_cases q0 : i = 0
        · rw [g3 q0]; decide
        · have := hp (by omega); omega) hz' hc' hn'
  refine EMx.of (by decide +kernel) rfl (Nat.le_of_ble_eq_true rfl) rfl ?_
  refine e_iconst dL_build_0 rfl ?_
  refine f_istore_n dL_build_1 rfl (Nat.le_of_ble_eq_true rfl) rfl ?_
  refine e_iconst dL_build_2 rfl ?_
  refine f_istore_n dL_build_3 rfl (Nat.le_of_ble_eq_true rfl) rfl ?_
  refine EV.fgt 2 ?_
  exact h0 _ 0 sF0 z P c n h rfl (by decide) okH_0 (by decide) (fun _ => rfl) (fun q => absurd q (by decide)) hz hcc hnn
