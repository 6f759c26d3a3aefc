/-! ===== the texts: the JDK's own methods behind them ===== -/
/-- new things stand behind the callee's own cells -/
def eNQ (m : Nat) (a : Nat → Nat) (w : (Nat → Nat) → Option Value) (W : (Nat → Nat) → List eE) : ePo := fun o a1 cs1 => o = .inl (w a1) ∧ (∀ k, k < m → a1 k = a k) ∧ cs1 = W a1
section EVXX
variable {K : eK} {a : Nat → Nat} {b b' : Nat × Nat} {cs cs0 cs1' cs' : List eE} {pc n : Nat} {ls : List (Option Value)} {st rest av : List Value} {M1 Mx : mE} {R1 : Room} {x2 : Option eSt} {w : Option Value}
theorem xN {ρ : List Nat} (hl : cs1'.length = ρ.length) : ∀ o a1 cs1, eRet w (fun k => a (eR ρ k)) cs1' o a1 cs1 → (∀ k, k < ρ.length → a1 k = a (eR ρ k)) ∧ ρ.length ≤ cs1.length := by
  intro o a1 cs1 h
  obtain ⟨-, h2, h3⟩ := h
  subst h2; subst h3
  exact ⟨fun k _ => rfl, Nat.le_of_eq hl.symm⟩
theorem xR {ρ : List Nat} (hl : cs1'.length = ρ.length) (hc : eMrg cs ρ cs1' = cs') (k : EV K a b' cs' n ls (w.toList ++ rest)) : ∀ v a1 cs1, eRet w (fun k => a (eR ρ k)) cs1' (.inl v) a1 cs1 → EV K (fun j => if j < cs.length then a j else a1 (ρ.length + (j - cs.length))) b' (eMrg cs ρ cs1 ++ cs1.drop ρ.length) n ls (v.toList ++ rest) := by
  intro v a1 cs1 h
  obtain ⟨h1, h2, h3⟩ := h
  cases h1; subst h2; subst h3
  exact EV.drop (a1 := fun k => a (eR ρ k)) (Nat.le_of_eq hl) (by rw [hc]; exact k)
theorem xX {ρ : List Nat} {a9 : Nat → Nat} {b9 : Nat × Nat} {F9 : (Nat → Nat) → Nat → Nat} {C9 : List eE → List eE} : ∀ E a1 cs1, eRet w (fun k => a (eR ρ k)) cs1' (.inr E) a1 cs1 → EX K (F9 a1) b9 (C9 cs1) pc ls E := fun E a1 cs1 h => by cases h.1

theorem e_xS2 (ρ : List Nat) {idx nA : Nat} (hw : eLkS K.1.1.cls idx M1 nA) (hh : M1.2.2.2.2 = []) (d : decode K.1.2.1 pc = .ok (.invokestatic idx, 3)) (hn : pc + 3 = n)
    (hM : EMx (K.2.2.2.1, x2) M1 R1 (fun k => a (eR ρ k)) av cs0 (eRet w (fun k => a (eR ρ k)) cs1')) (hx : eRd K a cs ρ cs0 x2) (hst : st = av.reverse ++ rest) (hlen : av.length = nA) (hcat : (rest.map fun v => v.category).sum ≤ 8)
    (hfr : R1.frames + 1 ≤ K.2.1.frames) (hlo : 8 + (M1.2.2.1 + 11) + R1.locals ≤ K.2.1.locals) (hR : R1.cells = 0 ∧ R1.slots = 0)
    (hsel : ρ.map (fun i => cs[i]?) = cs0.map some) (hnd : va_nd ρ = true) (hl : cs1'.length = ρ.length) (hc : eMrg cs ρ cs1' = cs') (k : EV K a b cs' n ls (w.toList ++ rest)) : EV K a b cs pc ls st :=
  e_xS hw hh d hn hM hx hst hlen hcat hfr hlo b ⟨by omega, by omega⟩ hsel hnd (xN hl) (xR hl hc k) (fun E a1 cs1 h => by cases h.1)
theorem e_xV2 (ρ : List Nat) {idx nA i ci q : Nat} {fs : List Value} {r : vw_C} (hw : eLkV K.1.1.cls idx M1 nA) (hh : M1.2.2.2.2 = []) (d : decode K.1.2.1 pc = .ok (.invokevirtual idx, 3)) (hn : pc + 3 = n)
    (hM : EMx (K.2.2.2.1, x2) M1 R1 (fun k => a (eR ρ k)) (.ref q :: av) cs0 (eRet w (fun k => a (eR ρ k)) cs1')) (hx : eRd K a cs ρ cs0 x2) (hst : st = av.reverse ++ .ref q :: rest) (hlen : av.length = nA) (hcat : (rest.map fun v => v.category).sum ≤ 8)
    (hfr : R1.frames + 1 ≤ K.2.1.frames) (hlo : 8 + (M1.2.2.1 + 11) + R1.locals ≤ K.2.1.locals) (hR : R1.cells = 0 ∧ R1.slots = 0)
    (hsel : ρ.map (fun i => cs[i]?) = cs0.map some) (hnd : va_nd ρ = true) (hq : q = a i) (hci : cs[i]? = some (.inr (ci, fs))) (hcl : eCl[ci]? = some r) (hcn : r.1 = M1.1.cls) (hl : cs1'.length = ρ.length) (hc : eMrg cs ρ cs1' = cs') (k : EV K a b cs' n ls (w.toList ++ rest)) : EV K a b cs pc ls st :=
  e_xV hw hh d hn hM hx hst hlen hcat hfr hlo b ⟨by omega, by omega⟩ hsel hnd hq hci hcl hcn (xN hl) (xR hl hc k) (fun E a1 cs1 h => by cases h.1)
theorem e_xT2 (ρ : List Nat) {idx nA q v0 m0 : Nat} {f0 : Nat → Int32} (hw : eLkV K.1.1.cls idx M1 nA) (hcl : M1.1.cls = "java/lang/String") (hh : M1.2.2.2.2 = []) (d : decode K.1.2.1 pc = .ok (.invokevirtual idx, 3)) (hn : pc + 3 = n)
    (hM : EMx (K.2.2.2.1, some (.inr (q, v0, m0, f0))) M1 R1 (fun k => a (eR ρ k)) (.ref q :: av) cs0 (eRet w (fun k => a (eR ρ k)) cs1')) (hx : eRd K a cs ρ cs0 (some (.inr (q, v0, m0, f0)))) (hst : st = av.reverse ++ .ref q :: rest) (hlen : av.length = nA) (hcat : (rest.map fun v => v.category).sum ≤ 8)
    (hfr : R1.frames + 1 ≤ K.2.1.frames) (hlo : 8 + (M1.2.2.1 + 11) + R1.locals ≤ K.2.1.locals) (hR : R1.cells = 0 ∧ R1.slots = 0)
    (hsel : ρ.map (fun i => cs[i]?) = cs0.map some) (hnd : va_nd ρ = true) (hl : cs1'.length = ρ.length) (hc : eMrg cs ρ cs1' = cs') (k : EV K a b cs' n ls (w.toList ++ rest)) : EV K a b cs pc ls st :=
  e_xT hw hcl hh d hn hM hx hst hlen hcat hfr hlo b ⟨by omega, by omega⟩ hsel hnd (xN hl) (xR hl hc k) (fun E a1 cs1 h => by cases h.1)
theorem e_xU2 (ρ : List Nat) {idx nA i ci q : Nat} {fs : List Value} {r : vw_C} {C : String} (hw : eLkU K.1.1.cls idx Mx M1 C nA) (hh : M1.2.2.2.2 = []) (hhx : Mx.2.2.2.2 = []) (d : decode K.1.2.1 pc = .ok (.invokevirtual idx, 3)) (hn : pc + 3 = n)
    (hM : EMx (K.2.2.2.1, x2) M1 R1 (fun k => a (eR ρ k)) (.ref q :: av) cs0 (eRet w (fun k => a (eR ρ k)) cs1')) (hx : eRd K a cs ρ cs0 x2) (hst : st = av.reverse ++ .ref q :: rest) (hlen : av.length = nA) (hcat : (rest.map fun v => v.category).sum ≤ 8)
    (hfr : R1.frames + 1 ≤ K.2.1.frames) (hlo : 8 + (M1.2.2.1 + 11) + R1.locals ≤ K.2.1.locals) (hR : R1.cells = 0 ∧ R1.slots = 0)
    (hsel : ρ.map (fun i => cs[i]?) = cs0.map some) (hnd : va_nd ρ = true) (hq : q = a i) (hci : cs[i]? = some (.inr (ci, fs))) (hcl : eCl[ci]? = some r) (hcn : r.1 = C) (hl : cs1'.length = ρ.length) (hc : eMrg cs ρ cs1' = cs') (k : EV K a b cs' n ls (w.toList ++ rest)) : EV K a b cs pc ls st :=
  e_xU hw hh hhx d hn hM hx hst hlen hcat hfr hlo b ⟨by omega, by omega⟩ hsel hnd hq hci hcl hcn (xN hl) (xR hl hc k) (fun E a1 cs1 h => by cases h.1)
theorem e_xP2 (ρ : List Nat) {idx nA i ci q : Nat} {fs : List Value} {r : vw_C} (hw : eLkSU K.1.1.cls idx M1 nA) (hh : M1.2.2.2.2 = []) (d : decode K.1.2.1 pc = .ok (.invokespecial idx, 3)) (hn : pc + 3 = n)
    (hM : EMx (K.2.2.2.1, x2) M1 R1 (fun k => a (eR ρ k)) (.ref q :: av) cs0 (eRet w (fun k => a (eR ρ k)) cs1')) (hx : eRd K a cs ρ cs0 x2) (hst : st = av.reverse ++ .ref q :: rest) (hlen : av.length = nA) (hcat : (rest.map fun v => v.category).sum ≤ 8)
    (hfr : R1.frames + 1 ≤ K.2.1.frames) (hlo : 8 + (M1.2.2.1 + 11) + R1.locals ≤ K.2.1.locals) (hR : R1.cells = 0 ∧ R1.slots = 0)
    (hsel : ρ.map (fun i => cs[i]?) = cs0.map some) (hnd : va_nd ρ = true) (hq : q = a i) (hci : cs[i]? = some (.inr (ci, fs))) (hcl : eCl[ci]? = some r) (hl : cs1'.length = ρ.length) (hc : eMrg cs ρ cs1' = cs') (k : EV K a b cs' n ls (w.toList ++ rest)) : EV K a b cs pc ls st :=
  e_xP hw hh d hn hM hx hst hlen hcat hfr hlo b ⟨by omega, by omega⟩ hsel hnd hq hci hcl (xN hl) (xR hl hc k) (fun E a1 cs1 h => by cases h.1)
/-- behind a call that made new things -/
theorem xNn {ρ : List Nat} {wf : (Nat → Nat) → Option Value} {W : (Nat → Nat) → List eE} {m : Nat} (hm : ρ.length = m) (hW : ∀ a1, m ≤ (W a1).length) : ∀ o a1 cs1, eNQ m (fun k => a (eR ρ k)) wf W o a1 cs1 → (∀ k, k < ρ.length → a1 k = a (eR ρ k)) ∧ ρ.length ≤ cs1.length := by
  intro o a1 cs1 h
  obtain ⟨-, h2, h3⟩ := h
  subst h3
  exact ⟨fun k hk => h2 k (by omega), by rw [hm]; exact hW a1⟩
theorem xNr {ρ : List Nat} {wf : (Nat → Nat) → Option Value} {W : (Nat → Nat) → List eE} {m : Nat} (hm : ρ.length = m)
    (k : ∀ a1 a2 : Nat → Nat, (∀ j, j < m → a1 j = a (eR ρ j)) → (∀ j, j < cs.length → a2 j = a j) → (∀ i, a2 (cs.length + i) = a1 (m + i)) → EV K a2 b' (eMrg cs ρ (W a1) ++ (W a1).drop m) n ls ((wf a1).toList ++ rest)) :
    ∀ v a1 cs1, eNQ m (fun k => a (eR ρ k)) wf W (.inl v) a1 cs1 → EV K (fun j => if j < cs.length then a j else a1 (ρ.length + (j - cs.length))) b' (eMrg cs ρ cs1 ++ cs1.drop ρ.length) n ls (v.toList ++ rest) := by
  intro v a1 cs1 h
  obtain ⟨h1, h2, h3⟩ := h
  cases h1; subst h3
  subst hm
  exact k a1 _ h2 (fun j hj => if_pos hj) (fun i => by
    show (if cs.length + i < cs.length then _ else _) = _
    rw [if_neg (by omega)]
    congr 1
    omega)
theorem e_alen {i N t q : Nat} {x : Int → Int} {ty : FieldType} (d : decode K.1.2.1 pc = .ok (.arraylength, 1)) (hn : pc + 1 = n) (hq : q = a i) (hc : cs[i]? = some (eI t N x)) (ht : eTy[t]? = some ty) (k : EV K a b cs n ls (vi (N : Int) :: st)) : EV K a b cs pc ls (.ref q :: st) := by
  subst hn; subst hq
  intro G A p l e s m args below meth c H locs cells slots lsA hX hL hP hD hS hcl hs
  exact va_alen hX.1 hX.2.1 hX.2.2.2.2.2.2.2.2.1.1 hP i t (eW_at hc) (eTys_at ht) (v := Int32.ofInt (N : Int)) (by rw [oI_bv]; rfl) d (k G A p l e s m args below meth c H locs cells slots lsA hX hL hP hD hS hcl hs)
theorem e_copyb {idx i j N M q0 q : Nat} {f g : Int → Int} {sp dp m : Int} (w : eCp K.1.1.cls idx) (d : decode K.1.2.1 pc = .ok (.invokestatic idx, 3)) (hn : pc + 3 = n) (hq0 : q0 = a i) (hq : q = a j) (hi : cs[i]? = some (eI 3 N f)) (hj : cs[j]? = some (eI 3 M g)) (h1 : 0 ≤ sp ∧ sp + m ≤ N) (h2 : 0 ≤ dp ∧ dp + m ≤ M) (h3 : 0 ≤ m) (hN : N ≤ 1000000 ∧ M ≤ 1000000)
    (hfit : ∀ k, 0 ≤ f k ∧ f k ≤ 127) (hfr : 1 ≤ K.2.1.frames) (hlo : (st.map fun v => v.category).sum + (nativeFrameWords "java/lang/System" "arraycopy" 5 + 11) ≤ K.2.1.locals) (k : EV K a b (cs.set j (eI 3 M (eCy f g sp dp m))) n ls st) : EV K a b cs pc ls (vi m :: vi dp :: .ref q :: vi sp :: .ref q0 :: st) := by
  subst hn; subst hq0; subst hq
  obtain ⟨w1, w2, w3, w4⟩ := w
  intro G A p l e s me args below meth c H locs cells slots lsA hX hL hP hD hS hc hs
  have hts := hX.2.2.2.2.2.2.2.1
  have hneg : ∀ z : Int, 0 ≤ z → z ≤ 1000000 → ¬ Int32.ofInt z < 0 := fun z h h' => by rw [← oI_z, oI_lt (by omega) (by omega)]; omega
  refine va_copyi hX.1 hX.2.1 (hX.2.2.1.trans hL.1.symm) hX.2.2.2.2.2.1 (hts _ w1) (hts _ w2) (hts _ w3) (hts _ w4) hX.2.2.2.2.2.2.2.2.1.1 hP hD hS i j 3 3 (ty := .byte) (eW_at hi) (eW_at hj) (eTys_at rfl) (eTys_at rfl) rfl (hneg _ h1.1 (by omega)) (hneg _ h2.1 (by omega)) (hneg _ h3 (by omega))
    (by rw [oI_nat (by omega), oI_nat (by omega)]; omega) (by rw [oI_nat (by omega), oI_nat (by omega)]; omega) (fun _ _ => fits_byte (hfit _)) hfr hlo d (fun H1 locs1 hP1 hD1 hS1 => ?_)
  have ef : va_cpy (fun j : Nat => Int32.ofInt (f (j : Int))) (fun j : Nat => Int32.ofInt (g (j : Int))) (Int32.ofInt sp).toNatClampNeg (Int32.ofInt dp).toNatClampNeg (Int32.ofInt m).toNatClampNeg = (fun j : Nat => Int32.ofInt (eCy f g sp dp m (j : Int))) := by
    rw [oI_nat (by omega), oI_nat (by omega), oI_nat (by omega)]
    funext z
    unfold va_cpy eCy
    by_cases hz : dp ≤ (z : Int) ∧ (z : Int) < dp + m
    · have e9 : ((sp.toNat + (z - dp.toNat) : Nat) : Int) = sp + ((z : Int) - dp) := by omega
      rw [if_pos hz, if_pos (by omega)]
      dsimp only
      rw [e9]
    · rw [if_neg hz, if_neg (by omega)]
  rw [ef] at hP1 hD1
  have es : eW G a (cs.set j (eI 3 M (eCy f g sp dp m))) = (eW G a cs).set j (a j, eC G (eI 3 M (eCy f g sp dp m))) := eW_set
  exact k G A p l e s me args below meth c H1 locs1 cells slots lsA hX hL (by rw [es]; exact hP1) (by rw [es]; exact hD1) hS1 hc hs
end EVXX
theorem bAnd_255 {x : Int} (h : 0 ≤ x ∧ x ≤ 255) : bAnd x 255 = x := by
  have e : x = ((x.toNat : Nat) : Int) := by omega
  have h1 : bAnd x 255 = ((x.toNat &&& 255 : Nat) : Int) := by
    conv => lhs; rw [e]
    exact bAnd_n (m := x.toNat) (k := 255) (by omega) (by omega)
  have h2 : x.toNat &&& 255 = x.toNat := by
    rw [show 255 = 2 ^ 8 - 1 from rfl, Nat.and_two_pow_sub_one_eq_mod]; omega
  rw [h1, h2]; omega
theorem bShr_0 {x : Int} (h : -2147483648 ≤ x ∧ x ≤ 2147483647) : bShr x 0 = x := by
  unfold bShr
  rw [show (Int32.ofInt 0 &&& 31 : Int32) = 0 by decide, show Int32.ofInt x >>> (0 : Int32) = Int32.ofInt x by simp, oI_toInt h]
theorem bShl_0 {x : Int} (h : -2147483648 ≤ x ∧ x ≤ 2147483647) : bShl x 0 = x := by
  unfold bShl
  rw [show (Int32.ofInt 0 &&& 31 : Int32) = 0 by decide, show Int32.ofInt x <<< (0 : Int32) = Int32.ofInt x by simp, oI_toInt h]
/-- a builder and its row -/
def wSb (a : Nat → Nat) (n : Int) (g : Int → Int) : List eE := [.inr (7, [.ref (a 1), vi 0, vi 0, vi n]), eI 3 16 g]
/-- a String and its row -/
def wSt (a : Nat → Nat) (n : Nat) (g : Int → Int) : List eE := [.inr (8, [.ref (a 1), vi 0, vi 0, vi 0]), eI 3 n g]
theorem eNw_b {N : Nat} (cA : ClassId) : vp_cell cA (N, .inl (fun j : Nat => Int32.ofInt ((fun _ => (0 : Int)) (j : Int)))) = arrV cA N (fun _ => defaultValue .byte) := by rw [vp_cell_i]; rfl
theorem nw_SbL : eNw RL 168 7 4 [.null, vi 0, vi 0, vi 0] := ⟨RJ4, TJ4, tyJ4, rfl, inJ4, tyJ4_ok, wd_5_55, wd_5_56, wd_1_21, fun j hj => by rcases (show j = 0 ∨ j = 1 ∨ j = 2 ∨ j = 3 by omega) with h | h | h | h <;> subst h <;> rfl⟩
theorem nw_StJ : eNw RJ4 18 8 4 [.null, vi 0, vi 0, vi 0] := ⟨RJ0, TJ0, tyJ0, rfl, inJ0, tyJ0_ok, wd_5_209, wd_3_167, wd_1_19, fun j hj => by rcases (show j = 0 ∨ j = 1 ∨ j = 2 ∨ j = 3 by omega) with h | h | h | h <;> subst h <;> rfl⟩
theorem T_coder {S : Nat → Nat} {q v0 m0 : Nat} {f : Int → Int} {a : Nat → Nat} : EMx (S, some (.inr (q, v0, m0, fun j => Int32.ofInt (f (j : Int))))) mJ0_coder_7d493 (eRm 0) a [.ref q] [] (eRet (some (vi 0)) a []) := by
  refine EMx.of (by decide +kernel) rfl (Nat.le_of_ble_eq_true rfl) rfl ?_
  refine e_getsC wd_5_7 dJ0_coder_7d493_0 rfl ?_
  refine e_if_eq (t := 13) dJ0_coder_7d493_3 rfl rfl (by decide) (fun h => absurd h (by decide)) (fun _ => ?_)
  refine e_aload_n dJ0_coder_7d493_6 rfl rfl ?_
  refine e_tcod rfl wd_6_19 dJ0_coder_7d493_7 rfl ?_
  refine e_goto (n := 14) dJ0_coder_7d493_10 rfl ?_
  exact e_iret dJ0_coder_7d493_14 rfl (by decide) (eRet_i rfl rfl)
theorem T_isLatin1 {S : Nat → Nat} {q v0 m0 : Nat} {f : Int → Int} {a : Nat → Nat} : EMx (S, some (.inr (q, v0, m0, fun j => Int32.ofInt (f (j : Int))))) mJ0_isLatin1_aae02 (eRm 0) a [.ref q] [] (eRet (some (vi 1)) a []) := by
  refine EMx.of (by decide +kernel) rfl (Nat.le_of_ble_eq_true rfl) rfl ?_
  refine e_getsC wd_5_7 dJ0_isLatin1_aae02_0 rfl ?_
  refine e_if_eq (t := 17) dJ0_isLatin1_aae02_3 rfl rfl (by decide) (fun h => absurd h (by decide)) (fun _ => ?_)
  refine e_aload_n dJ0_isLatin1_aae02_6 rfl rfl ?_
  refine e_tcod rfl wd_6_19 dJ0_isLatin1_aae02_7 rfl ?_
  refine e_if_ne (t := 17) dJ0_isLatin1_aae02_10 rfl rfl (by decide) (fun h => absurd h (by decide)) (fun _ => ?_)
  refine e_iconst dJ0_isLatin1_aae02_13 rfl ?_
  refine e_goto (n := 18) dJ0_isLatin1_aae02_14 rfl ?_
  exact e_iret dJ0_isLatin1_aae02_18 rfl (by decide) (eRet_i rfl rfl)
theorem T_length {S : Nat → Nat} {q v0 m0 : Nat} {f : Int → Int} {a : Nat → Nat} (hm : m0 ≤ 100) : EMx (S, some (.inr (q, v0, m0, fun j => Int32.ofInt (f (j : Int))))) mJ0_length_8abf5 (eRm 1) a [.ref q] [] (eRet (some (vi (m0 : Int))) a []) := by
  refine EMx.of (by decide +kernel) rfl (Nat.le_of_ble_eq_true rfl) rfl ?_
  refine e_aload_n dJ0_length_8abf5_0 rfl rfl ?_
  refine e_tval rfl wd_6_18 dJ0_length_8abf5_1 rfl ?_
  refine e_tlen rfl dJ0_length_8abf5_4 rfl ?_
  refine e_aload_n dJ0_length_8abf5_5 rfl rfl ?_
  refine e_xT2 [] lk_J0_335 rfl rfl dJ0_length_8abf5_6 rfl T_coder (eRd.own rfl rfl) rfl rfl (Nat.le_of_ble_eq_true rfl) (Nat.le_of_ble_eq_true rfl) (Nat.le_of_ble_eq_true rfl) ⟨rfl, rfl⟩ rfl rfl rfl rfl ?_
  refine e_ishr dJ0_length_8abf5_9 rfl ?_
  exact e_iret dJ0_length_8abf5_10 rfl rfl (eRet_i (bShr_0 (by omega)) rfl)
theorem C_preCheck {X : eXT} {a : Nat → Nat} {x n : Int} {v : Value} (hv : v.category = 1) (h : 0 ≤ x ∧ x < n ∧ n ≤ 100) : EM X mJ3_checkIndex_8e157 (eRm 0) a [vi x, vi n, v] [] (eRet (some (vi x)) a []) := by
  refine EM.of (by decide +kernel) (by rw [show ([vi x, vi n, v] : List Value).all (fun v => v.category == 1) = (v.category == 1 && true) from rfl, hv]; rfl) (Nat.le_of_ble_eq_true rfl) ?_
  refine e_iload_n dJ3_checkIndex_8e157_0 rfl rfl ?_
  refine e_if_lt (t := 9) dJ3_checkIndex_8e157_1 rfl rfl (by omega) (fun h => absurd h (by omega)) (fun _ => ?_)
  refine e_iload_n dJ3_checkIndex_8e157_4 rfl rfl ?_
  refine e_iload_n dJ3_checkIndex_8e157_5 rfl rfl ?_
  refine e_icmp_lt (t := 16) dJ3_checkIndex_8e157_6 rfl rfl (by omega) (by omega) (fun _ => ?_) (fun h => absurd h (by omega))
  refine e_iload_n dJ3_checkIndex_8e157_16 rfl rfl ?_
  exact e_iret dJ3_checkIndex_8e157_17 rfl rfl (eRet_i rfl rfl)
theorem C_checkIndex {X : eXT} {a : Nat → Nat} {x n : Int} (h : 0 ≤ x ∧ x < n ∧ n ≤ 100) : EM X mJ0_checkIndex_df160 (eRm 1) a [vi x, vi n] [] (eRet none a []) := by
  refine EM.of (by decide +kernel) rfl (Nat.le_of_ble_eq_true rfl) ?_
  refine e_iload_n dJ0_checkIndex_df160_0 rfl rfl ?_
  refine e_iload_n dJ0_checkIndex_df160_1 rfl rfl ?_
  refine e_getsF wd_5_28 dJ0_checkIndex_df160_2 rfl (fun v hv => ?_)
  refine e_cS0 [] (v := vi x) (av := [vi x, vi n, v]) (rest := []) lk_J0_1059 rfl dJ0_checkIndex_df160_5 rfl (C_preCheck hv h) rfl rfl (Nat.le_of_ble_eq_true rfl) (Nat.le_of_ble_eq_true rfl) (Nat.le_of_ble_eq_true rfl) ⟨rfl, rfl⟩ rfl rfl ?_
  refine e_pop dJ0_checkIndex_df160_8 rfl rfl ?_
  exact e_vret dJ0_checkIndex_df160_9 rfl (eRet_v rfl)
theorem T_latinCharAt {S : Nat → Nat} {q v0 m0 : Nat} {f : Int → Int} {a : Nat → Nat} {z : Int} (hz : 0 ≤ z ∧ z < m0) (hm : m0 ≤ 100) (hf : 0 ≤ f z ∧ f z ≤ 127) : EMx (S, some (.inr (q, v0, m0, fun j => Int32.ofInt (f (j : Int))))) mJ1_charAt_3b067 (eRm 2) a [.ref v0, vi z] [] (eRet (some (vi (f z))) a []) := by
  refine EMx.of (by decide +kernel) rfl (Nat.le_of_ble_eq_true rfl) rfl ?_
  refine e_iload_n dJ1_charAt_3b067_0 rfl rfl ?_
  refine e_aload_n dJ1_charAt_3b067_1 rfl rfl ?_
  refine e_tlen rfl dJ1_charAt_3b067_2 rfl ?_
  refine e_cS2 [] (w := none) (av := [vi z, vi (m0 : Int)]) (rest := []) (cs1 := []) lk_J1_9 rfl dJ1_charAt_3b067_3 rfl (C_checkIndex (by omega)) rfl rfl (Nat.le_of_ble_eq_true rfl) (Nat.le_of_ble_eq_true rfl) (Nat.le_of_ble_eq_true rfl) ⟨rfl, rfl⟩ rfl rfl rfl rfl ?_
  refine e_aload_n dJ1_charAt_3b067_6 rfl rfl ?_
  refine e_iload_n dJ1_charAt_3b067_7 rfl rfl ?_
  refine e_tbal rfl hz (by omega) dJ1_charAt_3b067_8 rfl ?_
  refine EV.eq (st' := [vi (f z)]) (by show [Value.int (Int32.ofInt (f ((z.toNat : Nat) : Int)))] = _; rw [Int.toNat_of_nonneg hz.1]) ?_
  refine e_sipush dJ1_charAt_3b067_9 rfl rfl ?_
  refine e_iand dJ1_charAt_3b067_12 rfl ?_
  refine e_i2c dJ1_charAt_3b067_13 rfl (by rw [bAnd_255 (by omega)]; omega) ?_
  exact e_iret dJ1_charAt_3b067_14 rfl (narC (by rw [bAnd_255 (by omega)]; omega)) (eRet_i (bAnd_255 (by omega)) rfl)
theorem T_charAt {S : Nat → Nat} {q v0 m0 : Nat} {f : Int → Int} {a : Nat → Nat} {z : Int} (hz : 0 ≤ z ∧ z < m0) (hm : m0 ≤ 100) (hf : 0 ≤ f z ∧ f z ≤ 127) : EMx (S, some (.inr (q, v0, m0, fun j => Int32.ofInt (f (j : Int))))) mJ0_charAt_5068e (eRm 3) a [.ref q, vi z] [] (eRet (some (vi (f z))) a []) := by
  refine EMx.of (by decide +kernel) rfl (Nat.le_of_ble_eq_true rfl) rfl ?_
  refine e_aload_n dJ0_charAt_5068e_0 rfl rfl ?_
  refine e_xT2 [] (av := []) (rest := []) lk_J0_492 rfl rfl dJ0_charAt_5068e_1 rfl T_isLatin1 (eRd.own rfl rfl) rfl rfl (Nat.le_of_ble_eq_true rfl) (Nat.le_of_ble_eq_true rfl) (Nat.le_of_ble_eq_true rfl) ⟨rfl, rfl⟩ rfl rfl rfl rfl ?_
  refine e_if_eq (t := 16) dJ0_charAt_5068e_4 rfl rfl (by decide) (fun h => absurd h (by decide)) (fun _ => ?_)
  refine e_aload_n dJ0_charAt_5068e_7 rfl rfl ?_
  refine e_tval rfl wd_6_18 dJ0_charAt_5068e_8 rfl ?_
  refine e_iload_n dJ0_charAt_5068e_11 rfl rfl ?_
  refine e_xS2 [] (av := [.ref v0, vi z]) (rest := []) lk_J0_495 rfl dJ0_charAt_5068e_12 rfl (T_latinCharAt hz hm hf) (eRd.own rfl rfl) rfl rfl (Nat.le_of_ble_eq_true rfl) (Nat.le_of_ble_eq_true rfl) (Nat.le_of_ble_eq_true rfl) ⟨rfl, rfl⟩ rfl rfl rfl rfl ?_
  exact e_iret dJ0_charAt_5068e_15 rfl (narC (by omega)) (eRet_i rfl rfl)
theorem T_getBytes {S : Nat → Nat} {q v0 m0 : Nat} {f : Int → Int} {a : Nat → Nat} {g : Int → Int} {dp : Int} (hd : 0 ≤ dp ∧ dp + m0 ≤ 16) (hf : ∀ j : Nat, j < m0 → 0 ≤ f j ∧ f j ≤ 127) : EMx (S, some (.inr (q, v0, m0, fun j => Int32.ofInt (f (j : Int))))) mJ0_getBytes_840e7 (eRm 1) a [.ref q, .ref (a 0), vi dp, vi 0] [eI 3 16 g] (eRet none a [eI 3 16 (eCy f g 0 dp m0)]) := by
  refine EMx.of (by decide +kernel) rfl (Nat.le_of_ble_eq_true rfl) rfl ?_
  refine e_aload_n dJ0_getBytes_840e7_0 rfl rfl ?_
  refine e_xT2 [] (av := []) (rest := []) lk_J0_335 rfl rfl dJ0_getBytes_840e7_1 rfl T_coder (eRd.own rfl rfl) rfl rfl (Nat.le_of_ble_eq_true rfl) (Nat.le_of_ble_eq_true rfl) (Nat.le_of_ble_eq_true rfl) ⟨rfl, rfl⟩ rfl rfl rfl rfl ?_
  refine e_iload_n dJ0_getBytes_840e7_4 rfl rfl ?_
  refine e_icmp_ne (t := 28) dJ0_getBytes_840e7_5 rfl rfl (by decide) (by decide) (fun h => absurd h (by decide)) (fun _ => ?_)
  refine e_aload_n dJ0_getBytes_840e7_8 rfl rfl ?_
  refine e_tval rfl wd_6_18 dJ0_getBytes_840e7_9 rfl ?_
  refine e_iconst dJ0_getBytes_840e7_12 rfl ?_
  refine e_aload_n dJ0_getBytes_840e7_13 rfl rfl ?_
  refine e_iload_n dJ0_getBytes_840e7_14 rfl rfl ?_
  refine e_iload_n dJ0_getBytes_840e7_15 rfl rfl ?_
  refine e_ishl dJ0_getBytes_840e7_16 rfl ?_
  refine EV.eq (st' := [vi dp, .ref (a 0), vi 0, .ref v0]) (by rw [bShl_0 (by omega)]; rfl) ?_
  refine e_aload_n dJ0_getBytes_840e7_17 rfl rfl ?_
  refine e_tval rfl wd_6_18 dJ0_getBytes_840e7_18 rfl ?_
  refine e_tlen rfl dJ0_getBytes_840e7_21 rfl ?_
  refine e_tcopy (i := 0) (f := f) rfl cp_J0_212 dJ0_getBytes_840e7_22 rfl rfl rfl hd (by decide) (fun j => rfl) hf (Nat.le_of_ble_eq_true rfl) (Nat.le_of_ble_eq_true rfl) ?_
  refine e_goto (n := 43) dJ0_getBytes_840e7_25 rfl ?_
  exact e_vret dJ0_getBytes_840e7_43 rfl (eRet_v rfl)
theorem B_isLatin1 {X : eXT} {a : Nat → Nat} {x1 : Nat} {n : Int} : EMx X mJ5_isLatin1_aae02 (eRm 0) a [.ref (a 0)] [.inr (7, [.ref x1, vi 0, vi 0, vi n])] (eRet (some (vi 1)) a [.inr (7, [.ref x1, vi 0, vi 0, vi n])]) := by
  refine EMx.of (by decide +kernel) rfl (Nat.le_of_ble_eq_true rfl) rfl ?_
  refine e_getsC wd_5_64 dJ5_isLatin1_aae02_0 rfl ?_
  refine e_if_eq (t := 17) dJ5_isLatin1_aae02_3 rfl rfl (by decide) (fun h => absurd h (by decide)) (fun _ => ?_)
  refine e_aload_n dJ5_isLatin1_aae02_6 rfl rfl ?_
  refine e_getfield fd_J5_22 dJ5_isLatin1_aae02_7 rfl rfl rfl rfl ?_
  refine e_if_ne (t := 17) dJ5_isLatin1_aae02_10 rfl rfl (by decide) (fun h => absurd h (by decide)) (fun _ => ?_)
  refine e_iconst dJ5_isLatin1_aae02_13 rfl ?_
  refine e_goto (n := 18) dJ5_isLatin1_aae02_14 rfl ?_
  exact e_iret dJ5_isLatin1_aae02_18 rfl (by decide) (eRet_i rfl rfl)
theorem B_getValue {X : eXT} {a : Nat → Nat} {x1 : Nat} {n : Int} : EMx X mJ5_getValue_6d5f1 (eRm 0) a [.ref (a 0)] [.inr (7, [.ref x1, vi 0, vi 0, vi n])] (eRet (some (.ref x1)) a [.inr (7, [.ref x1, vi 0, vi 0, vi n])]) := by
  refine EMx.of (by decide +kernel) rfl (Nat.le_of_ble_eq_true rfl) rfl ?_
  refine e_aload_n dJ5_getValue_6d5f1_0 rfl rfl ?_
  refine e_getfield fd_J5_15 dJ5_getValue_6d5f1_1 rfl rfl rfl rfl ?_
  exact e_aretA dJ5_getValue_6d5f1_4 rfl ⟨rfl, rfl, rfl⟩
theorem B_length0 {X : eXT} {a : Nat → Nat} {x1 : Nat} {n : Int} : EMx X mJ5_length_8abf5 (eRm 0) a [.ref (a 0)] [.inr (7, [.ref x1, vi 0, vi 0, vi n])] (eRet (some (vi n)) a [.inr (7, [.ref x1, vi 0, vi 0, vi n])]) := by
  refine EMx.of (by decide +kernel) rfl (Nat.le_of_ble_eq_true rfl) rfl ?_
  refine e_aload_n dJ5_length_8abf5_0 rfl rfl ?_
  refine e_getfield fd_J5_79 dJ5_length_8abf5_1 rfl rfl rfl rfl ?_
  exact e_iret dJ5_length_8abf5_4 rfl rfl (eRet_i rfl rfl)
theorem B_length {X : eXT} {a : Nat → Nat} {x1 : Nat} {n : Int} : EMx X mJ4_length_8abf5 (eRm 1) a [.ref (a 0)] [.inr (7, [.ref x1, vi 0, vi 0, vi n])] (eRet (some (vi n)) a [.inr (7, [.ref x1, vi 0, vi 0, vi n])]) := by
  refine EMx.of (by decide +kernel) rfl (Nat.le_of_ble_eq_true rfl) rfl ?_
  refine e_aload_n dJ4_length_8abf5_0 rfl rfl ?_
  refine e_xP2 [0] (av := []) (rest := []) lu_J4_343 rfl dJ4_length_8abf5_1 rfl B_length0 eRd.none rfl rfl (Nat.le_of_ble_eq_true rfl) (Nat.le_of_ble_eq_true rfl) (Nat.le_of_ble_eq_true rfl) ⟨rfl, rfl⟩ rfl rfl rfl rfl rfl rfl rfl ?_
  exact e_iret dJ4_length_8abf5_4 rfl rfl (eRet_i rfl rfl)
theorem B_ensure {X : eXT} {a : Nat → Nat} {g : Int → Int} {n z : Int} (hz : 0 ≤ z ∧ z ≤ 16) : EMx X mJ5_ensureCapacityInternal_d00df (eRm 0) a [.ref (a 0), vi z] (wSb a n g) (eRet none a (wSb a n g)) := by
  refine EMx.of (by decide +kernel) rfl (Nat.le_of_ble_eq_true rfl) rfl ?_
  refine e_aload_n dJ5_ensureCapacityInternal_d00df_0 rfl rfl ?_
  refine e_getfield fd_J5_15 dJ5_ensureCapacityInternal_d00df_1 rfl rfl rfl rfl ?_
  refine e_alen dJ5_ensureCapacityInternal_d00df_4 rfl rfl rfl rfl ?_
  refine e_aload_n dJ5_ensureCapacityInternal_d00df_5 rfl rfl ?_
  refine e_getfield fd_J5_22 dJ5_ensureCapacityInternal_d00df_6 rfl rfl rfl rfl ?_
  refine e_ishr dJ5_ensureCapacityInternal_d00df_9 rfl ?_
  refine EV.eq (st' := [vi 16]) (by rw [bShr_0 (by omega)]; rfl) ?_
  refine f_istore_n dJ5_ensureCapacityInternal_d00df_10 rfl (Nat.le_of_ble_eq_true rfl) rfl ?_
  refine e_iload_n dJ5_ensureCapacityInternal_d00df_11 rfl rfl ?_
  refine e_iload_n dJ5_ensureCapacityInternal_d00df_12 rfl rfl ?_
  refine e_isub dJ5_ensureCapacityInternal_d00df_13 rfl ?_
  refine e_if_le (t := 38) dJ5_ensureCapacityInternal_d00df_14 rfl rfl (by omega) (fun _ => ?_) (fun h => absurd h (by omega))
  exact e_vret dJ5_ensureCapacityInternal_d00df_38 rfl (eRet_v rfl)
theorem B_inflateIf {S : Nat → Nat} {q v0 m0 : Nat} {f : Int → Int} {a : Nat → Nat} {x1 : Nat} {n : Int} : EMx (S, some (.inr (q, v0, m0, fun j => Int32.ofInt (f (j : Int))))) mJ5_inflateIfNeededFor_a7421 (eRm 1) a [.ref (a 0), .ref q] [.inr (7, [.ref x1, vi 0, vi 0, vi n])] (eRet none a [.inr (7, [.ref x1, vi 0, vi 0, vi n])]) := by
  refine EMx.of (by decide +kernel) rfl (Nat.le_of_ble_eq_true rfl) rfl ?_
  refine e_getsC wd_5_64 dJ5_inflateIfNeededFor_a7421_0 rfl ?_
  refine e_if_eq (t := 21) dJ5_inflateIfNeededFor_a7421_3 rfl rfl (by decide) (fun h => absurd h (by decide)) (fun _ => ?_)
  refine e_aload_n dJ5_inflateIfNeededFor_a7421_6 rfl rfl ?_
  refine e_getfield fd_J5_22 dJ5_inflateIfNeededFor_a7421_7 rfl rfl rfl rfl ?_
  refine e_aload_n dJ5_inflateIfNeededFor_a7421_10 rfl rfl ?_
  refine e_xT2 [] (av := []) lk_J5_40 rfl rfl dJ5_inflateIfNeededFor_a7421_11 rfl T_coder (eRd.own rfl rfl) rfl rfl (Nat.le_of_ble_eq_true rfl) (Nat.le_of_ble_eq_true rfl) (Nat.le_of_ble_eq_true rfl) ⟨rfl, rfl⟩ rfl rfl rfl rfl ?_
  refine e_icmp_eq (t := 21) dJ5_inflateIfNeededFor_a7421_14 rfl rfl (by decide) (by decide) (fun _ => ?_) (fun h => absurd rfl h)
  exact e_vret dJ5_inflateIfNeededFor_a7421_21 rfl (eRet_v rfl)
theorem B_putStringAt {S : Nat → Nat} {q v0 m0 : Nat} {f g : Int → Int} {n : Int} {a : Nat → Nat} {dp : Int} (hd : 0 ≤ dp ∧ dp + m0 ≤ 16) (hf : ∀ j : Nat, j < m0 → 0 ≤ f j ∧ f j ≤ 127) : EMx (S, some (.inr (q, v0, m0, fun j => Int32.ofInt (f (j : Int))))) mJ5_putStringAt_47b60 (eRm 2) a [.ref (a 0), vi dp, .ref q] (wSb a n g) (eRet none a (wSb a n (eCy f g 0 dp m0))) := by
  refine EMx.of (by decide +kernel) rfl (Nat.le_of_ble_eq_true rfl) rfl ?_
  refine e_aload_n dJ5_putStringAt_47b60_0 rfl rfl ?_
  refine e_aload_n dJ5_putStringAt_47b60_1 rfl rfl ?_
  refine e_xU2 [0] (w := none) (av := [.ref q]) (rest := []) lu_J5_397 rfl rfl dJ5_putStringAt_47b60_2 rfl B_inflateIf (eRd.own rfl rfl) rfl rfl (Nat.le_of_ble_eq_true rfl) (Nat.le_of_ble_eq_true rfl) (Nat.le_of_ble_eq_true rfl) ⟨rfl, rfl⟩ rfl rfl rfl rfl rfl rfl rfl rfl ?_
  refine e_aload_n dJ5_putStringAt_47b60_5 rfl rfl ?_
  refine e_aload_n dJ5_putStringAt_47b60_6 rfl rfl ?_
  refine e_getfield fd_J5_15 dJ5_putStringAt_47b60_7 rfl rfl rfl rfl ?_
  refine e_iload_n dJ5_putStringAt_47b60_10 rfl rfl ?_
  refine e_aload_n dJ5_putStringAt_47b60_11 rfl rfl ?_
  refine e_getfield fd_J5_22 dJ5_putStringAt_47b60_12 rfl rfl rfl rfl ?_
  refine e_xT2 [1] (w := none) (av := [.ref (a 1), vi dp, vi 0]) (rest := []) lk_J5_399 rfl rfl dJ5_putStringAt_47b60_15 rfl (T_getBytes hd hf) (eRd.own rfl rfl) rfl rfl (Nat.le_of_ble_eq_true rfl) (Nat.le_of_ble_eq_true rfl) (Nat.le_of_ble_eq_true rfl) ⟨rfl, rfl⟩ rfl rfl rfl rfl ?_
  exact e_vret dJ5_putStringAt_47b60_18 rfl (eRet_v rfl)
theorem B_append0 {S : Nat → Nat} {q v0 m0 : Nat} {f g : Int → Int} {n : Int} {a : Nat → Nat} (hn : 0 ≤ n ∧ n + m0 ≤ 16) (hf : ∀ j : Nat, j < m0 → 0 ≤ f j ∧ f j ≤ 127) : EMx (S, some (.inr (q, v0, m0, fun j => Int32.ofInt (f (j : Int))))) mJ5_append_cf1ce (eRm 3) a [.ref (a 0), .ref q] (wSb a n g) (eRet (some (.ref (a 0))) a (wSb a (n + m0) (eCy f g 0 n m0))) := by
  refine EMx.of (by decide +kernel) rfl (Nat.le_of_ble_eq_true rfl) rfl ?_
  refine e_aload_n dJ5_append_cf1ce_0 rfl rfl ?_
  refine e_ifnonnull (t := 9) dJ5_append_cf1ce_1 rfl ?_
  refine e_aload_n dJ5_append_cf1ce_9 rfl rfl ?_
  refine e_xT2 [] (av := []) (rest := []) lk_J5_32 rfl rfl dJ5_append_cf1ce_10 rfl (T_length (by omega)) (eRd.own rfl rfl) rfl rfl (Nat.le_of_ble_eq_true rfl) (Nat.le_of_ble_eq_true rfl) (Nat.le_of_ble_eq_true rfl) ⟨rfl, rfl⟩ rfl rfl rfl rfl ?_
  refine f_istore_n dJ5_append_cf1ce_13 rfl (Nat.le_of_ble_eq_true rfl) rfl ?_
  refine e_aload_n dJ5_append_cf1ce_14 rfl rfl ?_
  refine e_aload_n dJ5_append_cf1ce_15 rfl rfl ?_
  refine e_getfield fd_J5_79 dJ5_append_cf1ce_16 rfl rfl rfl rfl ?_
  refine e_iload_n dJ5_append_cf1ce_19 rfl rfl ?_
  refine e_iadd dJ5_append_cf1ce_20 rfl ?_
  refine e_xU2 [0, 1] (w := none) (av := [vi (n + m0)]) (rest := []) lu_J5_100 rfl rfl dJ5_append_cf1ce_21 rfl (B_ensure (by omega)) eRd.none rfl rfl (Nat.le_of_ble_eq_true rfl) (Nat.le_of_ble_eq_true rfl) (Nat.le_of_ble_eq_true rfl) ⟨rfl, rfl⟩ rfl rfl rfl rfl rfl rfl rfl rfl ?_
  refine e_aload_n dJ5_append_cf1ce_24 rfl rfl ?_
  refine e_aload_n dJ5_append_cf1ce_25 rfl rfl ?_
  refine e_getfield fd_J5_79 dJ5_append_cf1ce_26 rfl rfl rfl rfl ?_
  refine e_aload_n dJ5_append_cf1ce_29 rfl rfl ?_
  refine e_xU2 [0, 1] (w := none) (av := [vi n, .ref q]) (rest := []) lu_J5_208 rfl rfl dJ5_append_cf1ce_30 rfl (B_putStringAt hn hf) (eRd.own rfl rfl) rfl rfl (Nat.le_of_ble_eq_true rfl) (Nat.le_of_ble_eq_true rfl) (Nat.le_of_ble_eq_true rfl) ⟨rfl, rfl⟩ rfl rfl rfl rfl rfl rfl rfl rfl ?_
  refine e_aload_n dJ5_append_cf1ce_33 rfl rfl ?_
  refine e_dup dJ5_append_cf1ce_34 rfl rfl ?_
  refine e_getfield fd_J5_79 dJ5_append_cf1ce_35 rfl rfl rfl rfl ?_
  refine e_iload_n dJ5_append_cf1ce_38 rfl rfl ?_
  refine e_iadd dJ5_append_cf1ce_39 rfl ?_
  refine e_putfield fd_J5_79 dJ5_append_cf1ce_40 rfl rfl rfl (Nat.le_of_ble_eq_true rfl) rfl rfl ?_
  refine e_aload_n dJ5_append_cf1ce_43 rfl rfl ?_
  exact e_aret dJ5_append_cf1ce_44 rfl ⟨rfl, rfl, rfl⟩
theorem B_append {S : Nat → Nat} {q v0 m0 : Nat} {f g : Int → Int} {n : Int} {a : Nat → Nat} (hn : 0 ≤ n ∧ n + m0 ≤ 16) (hf : ∀ j : Nat, j < m0 → 0 ≤ f j ∧ f j ≤ 127) : EMx (S, some (.inr (q, v0, m0, fun j => Int32.ofInt (f (j : Int))))) mJ4_append_15ec4 (eRm 4) a [.ref (a 0), .ref q] (wSb a n g) (eRet (some (.ref (a 0))) a (wSb a (n + m0) (eCy f g 0 n m0))) := by
  refine EMx.of (by decide +kernel) rfl (Nat.le_of_ble_eq_true rfl) rfl ?_
  refine e_aload_n dJ4_append_15ec4_0 rfl rfl ?_
  refine e_aload_n dJ4_append_15ec4_1 rfl rfl ?_
  refine e_xP2 [0, 1] (av := [.ref q]) (rest := []) lu_J4_29 rfl dJ4_append_15ec4_2 rfl (B_append0 hn hf) (eRd.own rfl rfl) rfl rfl (Nat.le_of_ble_eq_true rfl) (Nat.le_of_ble_eq_true rfl) (Nat.le_of_ble_eq_true rfl) ⟨rfl, rfl⟩ rfl rfl rfl rfl rfl rfl rfl ?_
  refine e_pop dJ4_append_15ec4_5 rfl rfl ?_
  refine e_aload_n dJ4_append_15ec4_6 rfl rfl ?_
  exact e_aret dJ4_append_15ec4_7 rfl ⟨rfl, rfl, rfl⟩
theorem B_stringSize {X : eXT} {a : Nat → Nat} {z : Int} (hz : 0 ≤ z ∧ z ≤ 9) : EMx X mJ6_stringSize_0f7a4 (eRm 0) a [vi z] [] (eRet (some (vi 1)) a []) := by
  refine EMx.of (by decide +kernel) rfl (Nat.le_of_ble_eq_true rfl) rfl ?_
  refine e_iconst dJ6_stringSize_0f7a4_0 rfl ?_
  refine f_istore_n dJ6_stringSize_0f7a4_1 rfl (Nat.le_of_ble_eq_true rfl) rfl ?_
  refine e_iload_n dJ6_stringSize_0f7a4_2 rfl rfl ?_
  refine e_if_lt (t := 11) dJ6_stringSize_0f7a4_3 rfl rfl (by omega) (fun h => absurd h (by omega)) (fun _ => ?_)
  refine e_iconst dJ6_stringSize_0f7a4_6 rfl ?_
  refine f_istore_n dJ6_stringSize_0f7a4_7 rfl (Nat.le_of_ble_eq_true rfl) rfl ?_
  refine e_iload_n dJ6_stringSize_0f7a4_8 rfl rfl ?_
  refine e_ineg dJ6_stringSize_0f7a4_9 rfl ?_
  refine f_istore_n dJ6_stringSize_0f7a4_10 rfl (Nat.le_of_ble_eq_true rfl) rfl ?_
  refine e_bipush dJ6_stringSize_0f7a4_11 rfl rfl ?_
  refine f_istore_n dJ6_stringSize_0f7a4_13 rfl (Nat.le_of_ble_eq_true rfl) rfl ?_
  refine e_iconst dJ6_stringSize_0f7a4_14 rfl ?_
  refine f_istore_n dJ6_stringSize_0f7a4_15 rfl (Nat.le_of_ble_eq_true rfl) rfl ?_
  refine e_iload_n dJ6_stringSize_0f7a4_16 rfl rfl ?_
  refine e_bipush dJ6_stringSize_0f7a4_17 rfl rfl ?_
  refine e_icmp_ge (t := 42) dJ6_stringSize_0f7a4_19 rfl rfl (by decide) (by decide) (fun h => absurd h (by decide)) (fun _ => ?_)
  refine e_iload_n dJ6_stringSize_0f7a4_22 rfl rfl ?_
  refine e_iload_n dJ6_stringSize_0f7a4_23 rfl rfl ?_
  refine e_icmp_le (t := 31) dJ6_stringSize_0f7a4_24 rfl rfl (by omega) (by omega) (fun h => absurd h (by omega)) (fun _ => ?_)
  refine e_iload_n dJ6_stringSize_0f7a4_27 rfl rfl ?_
  refine e_iload_n dJ6_stringSize_0f7a4_28 rfl rfl ?_
  refine e_iadd dJ6_stringSize_0f7a4_29 rfl ?_
  exact e_iret dJ6_stringSize_0f7a4_30 rfl rfl (eRet_i rfl rfl)
theorem B_getChars {X : eXT} {a : Nat → Nat} {g : Int → Int} {z i : Int} (hz : 0 ≤ z ∧ z ≤ 9) (hi : 1 ≤ i ∧ i ≤ 16) : EMx X mJ6_getChars_ba4f3 (eRm 0) a [vi z, vi i, .ref (a 0)] [eI 3 16 g] (eRet (some (vi (i + -1))) a [eI 3 16 (eU g (i + -1) (48 + z))]) := by
  refine EMx.of (by decide +kernel) rfl (Nat.le_of_ble_eq_true rfl) rfl ?_
  refine e_iload_n dJ6_getChars_ba4f3_0 rfl rfl ?_
  refine f_istore dJ6_getChars_ba4f3_1 rfl (Nat.le_of_ble_eq_true rfl) rfl ?_
  refine e_iload_n dJ6_getChars_ba4f3_3 rfl rfl ?_
  refine e_if_ge (t := 11) dJ6_getChars_ba4f3_4 rfl rfl (by omega) (fun _ => ?_) (fun h => absurd h (by omega))
  refine e_iconst dJ6_getChars_ba4f3_11 rfl ?_
  refine f_istore dJ6_getChars_ba4f3_12 rfl (Nat.le_of_ble_eq_true rfl) rfl ?_
  refine e_iload dJ6_getChars_ba4f3_14 rfl rfl ?_
  refine e_if_ne (t := 22) dJ6_getChars_ba4f3_16 rfl rfl (by decide) (fun h => absurd h (by decide)) (fun _ => ?_)
  refine e_iload_n dJ6_getChars_ba4f3_19 rfl rfl ?_
  refine e_ineg dJ6_getChars_ba4f3_20 rfl ?_
  refine f_istore_n dJ6_getChars_ba4f3_21 rfl (Nat.le_of_ble_eq_true rfl) rfl ?_
  refine e_iload_n dJ6_getChars_ba4f3_22 rfl rfl ?_
  refine e_bipush dJ6_getChars_ba4f3_23 rfl rfl ?_
  refine e_icmp_gt (t := 72) dJ6_getChars_ba4f3_25 rfl rfl (by omega) (by omega) (fun _ => ?_) (fun h => absurd h (by omega))
  refine e_aload_n dJ6_getChars_ba4f3_72 rfl rfl ?_
  refine f_iinc dJ6_getChars_ba4f3_73 rfl rfl (Nat.le_of_ble_eq_true rfl) rfl ?_
  refine e_iload dJ6_getChars_ba4f3_76 rfl rfl ?_
  refine e_getsD wd_5_193 dJ6_getChars_ba4f3_78 rfl ?_
  refine e_iload_n dJ6_getChars_ba4f3_81 rfl rfl ?_
  refine e_ineg dJ6_getChars_ba4f3_82 rfl ?_
  refine EV.eq (st' := [vi z, .ref (X.1 22), vi (i + -1), .ref (a 0)]) (by rw [Int.neg_neg]; try rfl) ?_
  refine e_digit (by omega) dJ6_getChars_ba4f3_83 rfl ?_
  refine e_bastore dJ6_getChars_ba4f3_84 rfl rfl rfl (by omega) (by decide) (by omega) ?_
  refine e_iload_n dJ6_getChars_ba4f3_85 rfl rfl ?_
  refine e_bipush dJ6_getChars_ba4f3_86 rfl rfl ?_
  refine e_icmp_ge (t := 104) dJ6_getChars_ba4f3_88 rfl rfl (by omega) (by omega) (fun _ => ?_) (fun h => absurd h (by omega))
  refine e_iload dJ6_getChars_ba4f3_104 rfl rfl ?_
  refine e_if_eq (t := 118) dJ6_getChars_ba4f3_106 rfl rfl (by decide) (fun _ => ?_) (fun h => absurd rfl h)
  refine e_iload dJ6_getChars_ba4f3_118 rfl rfl ?_
  exact e_iret dJ6_getChars_ba4f3_120 rfl rfl (eRet_i rfl rfl)
theorem B_appendI0 {X : eXT} {a : Nat → Nat} {g : Int → Int} {n z : Int} (hz : 0 ≤ z ∧ z ≤ 9) (hn : 0 ≤ n ∧ n + 1 ≤ 16) : EMx X mJ5_append_c97b9 (eRm 1) a [.ref (a 0), vi z] (wSb a n g) (eRet (some (.ref (a 0))) a (wSb a (n + 1) (eU g (n + 1 + -1) (48 + z)))) := by
  refine EMx.of (by decide +kernel) rfl (Nat.le_of_ble_eq_true rfl) rfl ?_
  refine e_aload_n dJ5_append_c97b9_0 rfl rfl ?_
  refine e_getfield fd_J5_79 dJ5_append_c97b9_1 rfl rfl rfl rfl ?_
  refine f_istore_n dJ5_append_c97b9_4 rfl (Nat.le_of_ble_eq_true rfl) rfl ?_
  refine e_iload_n dJ5_append_c97b9_5 rfl rfl ?_
  refine e_iload_n dJ5_append_c97b9_6 rfl rfl ?_
  refine e_xS2 [] (av := [vi z]) (rest := [vi n]) lk_J5_245 rfl dJ5_append_c97b9_7 rfl (B_stringSize hz) eRd.none rfl rfl (Nat.le_of_ble_eq_true rfl) (Nat.le_of_ble_eq_true rfl) (Nat.le_of_ble_eq_true rfl) ⟨rfl, rfl⟩ rfl rfl rfl rfl ?_
  refine e_iadd dJ5_append_c97b9_10 rfl ?_
  refine f_istore_n dJ5_append_c97b9_11 rfl (Nat.le_of_ble_eq_true rfl) rfl ?_
  refine e_aload_n dJ5_append_c97b9_12 rfl rfl ?_
  refine e_iload_n dJ5_append_c97b9_13 rfl rfl ?_
  refine e_xU2 [0, 1] (w := none) (av := [vi (n + 1)]) (rest := []) lu_J5_100 rfl rfl dJ5_append_c97b9_14 rfl (B_ensure (by omega)) eRd.none rfl rfl (Nat.le_of_ble_eq_true rfl) (Nat.le_of_ble_eq_true rfl) (Nat.le_of_ble_eq_true rfl) ⟨rfl, rfl⟩ rfl rfl rfl rfl rfl rfl rfl rfl ?_
  refine e_aload_n dJ5_append_c97b9_17 rfl rfl ?_
  refine e_xU2 [0] (av := []) (rest := []) lu_J5_83 rfl rfl dJ5_append_c97b9_18 rfl B_isLatin1 eRd.none rfl rfl (Nat.le_of_ble_eq_true rfl) (Nat.le_of_ble_eq_true rfl) (Nat.le_of_ble_eq_true rfl) ⟨rfl, rfl⟩ rfl rfl rfl rfl rfl rfl rfl rfl ?_
  refine e_if_eq (t := 37) dJ5_append_c97b9_21 rfl rfl (by decide) (fun h => absurd h (by decide)) (fun _ => ?_)
  refine e_iload_n dJ5_append_c97b9_24 rfl rfl ?_
  refine e_iload_n dJ5_append_c97b9_25 rfl rfl ?_
  refine e_aload_n dJ5_append_c97b9_26 rfl rfl ?_
  refine e_getfield fd_J5_15 dJ5_append_c97b9_27 rfl rfl rfl rfl ?_
  refine e_xS2 [1] (av := [vi z, vi (n + 1), .ref (a 1)]) (rest := []) lk_J5_248 rfl dJ5_append_c97b9_30 rfl (B_getChars hz (by omega)) eRd.none rfl rfl (Nat.le_of_ble_eq_true rfl) (Nat.le_of_ble_eq_true rfl) (Nat.le_of_ble_eq_true rfl) ⟨rfl, rfl⟩ rfl rfl rfl rfl ?_
  refine e_pop dJ5_append_c97b9_33 rfl rfl ?_
  refine e_goto (n := 48) dJ5_append_c97b9_34 rfl ?_
  refine e_aload_n dJ5_append_c97b9_48 rfl rfl ?_
  refine e_iload_n dJ5_append_c97b9_49 rfl rfl ?_
  refine e_putfield fd_J5_79 dJ5_append_c97b9_50 rfl rfl rfl (Nat.le_of_ble_eq_true rfl) rfl rfl ?_
  refine e_aload_n dJ5_append_c97b9_53 rfl rfl ?_
  exact e_aret dJ5_append_c97b9_54 rfl ⟨rfl, rfl, rfl⟩
theorem B_appendI {X : eXT} {a : Nat → Nat} {g : Int → Int} {n z : Int} (hz : 0 ≤ z ∧ z ≤ 9) (hn : 0 ≤ n ∧ n + 1 ≤ 16) : EMx X mJ4_append_bf812 (eRm 2) a [.ref (a 0), vi z] (wSb a n g) (eRet (some (.ref (a 0))) a (wSb a (n + 1) (eU g (n + 1 + -1) (48 + z)))) := by
  refine EMx.of (by decide +kernel) rfl (Nat.le_of_ble_eq_true rfl) rfl ?_
  refine e_aload_n dJ4_append_bf812_0 rfl rfl ?_
  refine e_iload_n dJ4_append_bf812_1 rfl rfl ?_
  refine e_xP2 [0, 1] (av := [vi z]) (rest := []) lu_J4_53 rfl dJ4_append_bf812_2 rfl (B_appendI0 hz hn) eRd.none rfl rfl (Nat.le_of_ble_eq_true rfl) (Nat.le_of_ble_eq_true rfl) (Nat.le_of_ble_eq_true rfl) ⟨rfl, rfl⟩ rfl rfl rfl rfl rfl rfl rfl ?_
  refine e_pop dJ4_append_bf812_5 rfl rfl ?_
  refine e_aload_n dJ4_append_bf812_6 rfl rfl ?_
  exact e_aret dJ4_append_bf812_7 rfl ⟨rfl, rfl, rfl⟩
theorem B_checkLength {X : eXT} {a : Nat → Nat} {x y : Int} (h : 0 ≤ x ∧ x ≤ y ∧ y ≤ 100) : EMx X mJ7_checkLength_df160 (eRm 0) a [vi x, vi y] [] (eRet none a []) := by
  refine EMx.of (by decide +kernel) rfl (Nat.le_of_ble_eq_true rfl) rfl ?_
  refine e_iload_n dJ7_checkLength_df160_0 rfl rfl ?_
  refine e_iload_n dJ7_checkLength_df160_1 rfl rfl ?_
  refine e_icmp_ge (t := 37) dJ7_checkLength_df160_2 rfl rfl (by omega) (by omega) (fun _ => ?_) (fun h => absurd h (by omega))
  exact e_vret dJ7_checkLength_df160_37 rfl (eRet_v rfl)
theorem B_copyB {X : eXT} {a : Nat → Nat} {g : Int → Int} {n : Nat} (hn : n ≤ 15) (hg : ∀ j, 0 ≤ g j ∧ g j ≤ 127) : EMx X mJ7_copyOfRangeByte_39247 (eRn 1 1 16) a [.ref (a 0), vi 0, vi (n : Int)] [eI 3 16 g] (eNQ 1 a (fun a1 => some (.ref (a1 1))) (fun _ => [eI 3 16 g, eI 3 n g])) := by
  refine EMx.of (by decide +kernel) rfl (Nat.le_of_ble_eq_true rfl) rfl ?_
  refine e_iload_n dJ7_copyOfRangeByte_39247_0 rfl rfl ?_
  refine e_iload_n dJ7_copyOfRangeByte_39247_1 rfl rfl ?_
  refine e_xS2 [] (w := none) (av := [vi 0, vi (n : Int)]) (rest := []) lk_J7_343 rfl dJ7_copyOfRangeByte_39247_2 rfl (B_checkLength (by omega)) eRd.none rfl rfl (Nat.le_of_ble_eq_true rfl) (Nat.le_of_ble_eq_true rfl) (Nat.le_of_ble_eq_true rfl) ⟨rfl, rfl⟩ rfl rfl rfl rfl ?_
  refine e_iload_n dJ7_copyOfRangeByte_39247_5 rfl rfl ?_
  refine e_iload_n dJ7_copyOfRangeByte_39247_6 rfl rfl ?_
  refine e_isub dJ7_copyOfRangeByte_39247_7 rfl ?_
  refine EV.eq (st' := [vi (n : Int)]) (by rw [Int.sub_zero]; rfl) ?_
  refine f_istore_n dJ7_copyOfRangeByte_39247_8 rfl (Nat.le_of_ble_eq_true rfl) rfl ?_
  refine e_iload_n dJ7_copyOfRangeByte_39247_9 rfl rfl ?_
  refine e_newarrayG (ar := .byte) (ty := .byte) (t := 3) (N := n) (x := (n, .inl (fun j : Nat => Int32.ofInt ((fun _ => (0 : Int)) (j : Int))))) wd_2_85 rfl rfl (fun C h => by cases h) (fun cA => eNw_b cA) dJ7_copyOfRangeByte_39247_10 rfl (by omega) (by show n * 1 ≤ 536870912; omega) (0, 0) ⟨(Nat.le_of_ble_eq_true rfl), (by show n + 0 ≤ 16; omega)⟩ ?_
  intro x1
  refine f_astore dJ7_copyOfRangeByte_39247_12 rfl (Nat.le_of_ble_eq_true rfl) rfl ?_
  refine e_aload_n dJ7_copyOfRangeByte_39247_14 rfl rfl ?_
  refine e_iload_n dJ7_copyOfRangeByte_39247_15 rfl rfl ?_
  refine e_aload dJ7_copyOfRangeByte_39247_16 rfl rfl ?_
  refine e_iconst dJ7_copyOfRangeByte_39247_18 rfl ?_
  refine e_aload_n dJ7_copyOfRangeByte_39247_19 rfl rfl ?_
  refine e_alen (i := 0) dJ7_copyOfRangeByte_39247_20 rfl rfl rfl rfl ?_
  refine e_iload_n dJ7_copyOfRangeByte_39247_21 rfl rfl ?_
  refine e_isub dJ7_copyOfRangeByte_39247_22 rfl ?_
  refine EV.eq (st' := [vi 16, vi 0, .ref x1, vi 0, .ref (a 0)]) rfl ?_
  refine e_iload_n dJ7_copyOfRangeByte_39247_23 rfl rfl ?_
  refine e_min ma_J7_304 dJ7_copyOfRangeByte_39247_24 rfl (Nat.le_of_ble_eq_true rfl) (Nat.le_of_ble_eq_true rfl) (by omega) (by omega) ?_
  refine EV.eq (st' := [vi (n : Int), vi 0, .ref x1, vi 0, .ref (a 0)]) (by rw [if_pos (by omega)]; try rfl) ?_
  refine e_copyb (i := 0) (j := 1) (f := g) (g := fun _ => 0) cp_J7_150 dJ7_copyOfRangeByte_39247_27 rfl rfl rfl rfl rfl (by omega) (by omega) (by omega) (by omega) hg (Nat.le_of_ble_eq_true rfl) (Nat.le_of_ble_eq_true rfl) ?_
  refine EV.sim (i := 1) (c' := eI 3 n g) rfl (eI_sim (fun z h0 h1 => eCy_all z h0 h1)) ?_
  refine e_aload dJ7_copyOfRangeByte_39247_30 rfl rfl ?_
  exact e_aretA dJ7_copyOfRangeByte_39247_32 rfl ⟨rfl, fun k hk => (by cases Nat.lt_one_iff.mp hk; rfl), rfl⟩
theorem B_copy {X : eXT} {a : Nat → Nat} {g : Int → Int} {n : Nat} (hn : n ≤ 15) (hg : ∀ j, 0 ≤ g j ∧ g j ≤ 127) : EMx X mJ7_copyOfRange_39247 (eRn 2 1 16) a [.ref (a 0), vi 0, vi (n : Int)] [eI 3 16 g] (eNQ 1 a (fun a1 => some (.ref (a1 1))) (fun _ => [eI 3 16 g, eI 3 n g])) := by
  refine EMx.of (by decide +kernel) rfl (Nat.le_of_ble_eq_true rfl) rfl ?_
  refine e_iload_n dJ7_copyOfRange_39247_0 rfl rfl ?_
  refine e_if_ne (t := 10) dJ7_copyOfRange_39247_1 rfl rfl (by decide) (fun h => absurd h (by decide)) (fun _ => ?_)
  refine e_iload_n dJ7_copyOfRange_39247_4 rfl rfl ?_
  refine e_aload_n dJ7_copyOfRange_39247_5 rfl rfl ?_
  refine e_alen (i := 0) dJ7_copyOfRange_39247_6 rfl rfl rfl rfl ?_
  refine e_icmp_eq (t := 17) dJ7_copyOfRange_39247_7 rfl rfl (by omega) (by omega) (fun h => absurd h (by omega)) (fun _ => ?_)
  refine e_aload_n dJ7_copyOfRange_39247_10 rfl rfl ?_
  refine e_iload_n dJ7_copyOfRange_39247_11 rfl rfl ?_
  refine e_iload_n dJ7_copyOfRange_39247_12 rfl rfl ?_
  refine e_xS (ρ := [0]) (av := [.ref (a 0), vi 0, vi (n : Int)]) (rest := []) lk_J7_339 rfl dJ7_copyOfRange_39247_13 rfl (B_copyB hn hg) eRd.none rfl rfl (Nat.le_of_ble_eq_true rfl) (Nat.le_of_ble_eq_true rfl) (Nat.le_of_ble_eq_true rfl) (0, 0) ⟨(Nat.le_of_ble_eq_true rfl), (Nat.le_of_ble_eq_true rfl)⟩ rfl rfl (xNn rfl (fun a1 => (Nat.le_of_ble_eq_true rfl))) (xNr rfl (fun a1 a2 h1 h2 h3 => ?_)) (fun E a1 cs1 h => by cases h.1)
  refine EV.eq (st' := [.ref (a2 1)]) (by show [Value.ref (a1 1)] = _; rw [show a2 1 = a1 1 from h3 0]) ?_
  exact e_aretA dJ7_copyOfRange_39247_16 rfl ⟨rfl, fun k hk => (by cases Nat.lt_one_iff.mp hk; exact h2 0 (Nat.le_of_ble_eq_true rfl)), rfl⟩
set_option maxRecDepth 100000 in
theorem B_strInit {X : eXT} {a : Nat → Nat} {g : Int → Int} {n : Nat} (hn : n ≤ 15) (hg : ∀ j, 0 ≤ g j ∧ g j ≤ 127) : EMx X mJ0_init_db425 (eRn 3 1 16) a [.ref (a 0), .ref (a 1), .null] [.inr (8, [.null, vi 0, vi 0, vi 0]), .inr (7, [.ref (a 2), vi 0, vi 0, vi (n : Int)]), eI 3 16 g] (eNQ 3 a (fun _ => none) (fun a1 => [.inr (8, [.ref (a1 3), vi 0, vi 0, vi 0]), .inr (7, [.ref (a1 2), vi 0, vi 0, vi (n : Int)]), eI 3 16 g, eI 3 n g])) := by
  refine EMx.of (by decide +kernel) rfl (Nat.le_of_ble_eq_true rfl) rfl ?_
  refine e_aload_n dJ0_init_db425_0 rfl rfl ?_
  refine e_objInit wd_5_216 oi_1 oi_2 dJ0_init_db425_1 rfl (Nat.le_of_ble_eq_true rfl) (Nat.le_of_ble_eq_true rfl) ?_
  refine e_aload_n dJ0_init_db425_4 rfl rfl ?_
  refine e_xU2 [1] (av := []) (rest := []) lu_J0_552 rfl rfl dJ0_init_db425_5 rfl B_getValue eRd.none rfl rfl (Nat.le_of_ble_eq_true rfl) (Nat.le_of_ble_eq_true rfl) (Nat.le_of_ble_eq_true rfl) ⟨rfl, rfl⟩ rfl rfl rfl rfl rfl rfl rfl rfl ?_
  refine f_astore_n dJ0_init_db425_8 rfl (Nat.le_of_ble_eq_true rfl) rfl ?_
  refine e_aload_n dJ0_init_db425_9 rfl rfl ?_
  refine e_xU2 [1] (av := []) (rest := []) lu_J0_549 rfl rfl dJ0_init_db425_10 rfl B_length eRd.none rfl rfl (Nat.le_of_ble_eq_true rfl) (Nat.le_of_ble_eq_true rfl) (Nat.le_of_ble_eq_true rfl) ⟨rfl, rfl⟩ rfl rfl rfl rfl rfl rfl rfl rfl ?_
  refine f_istore dJ0_init_db425_13 rfl (Nat.le_of_ble_eq_true rfl) rfl ?_
  refine e_aload_n dJ0_init_db425_15 rfl rfl ?_
  refine e_xU2 [1] (av := []) (rest := []) lu_J0_1047 rfl rfl dJ0_init_db425_16 rfl B_isLatin1 eRd.none rfl rfl (Nat.le_of_ble_eq_true rfl) (Nat.le_of_ble_eq_true rfl) (Nat.le_of_ble_eq_true rfl) ⟨rfl, rfl⟩ rfl rfl rfl rfl rfl rfl rfl rfl ?_
  refine e_if_eq (t := 41) dJ0_init_db425_19 rfl rfl (by decide) (fun h => absurd h (by decide)) (fun _ => ?_)
  refine e_aload_n dJ0_init_db425_22 rfl rfl ?_
  refine e_iconst dJ0_init_db425_23 rfl ?_
  refine e_putfieldF fd_J0_15 dJ0_init_db425_24 rfl rfl rfl rfl rfl (Nat.le_of_ble_eq_true rfl) (by decide) (by decide) ?_
  refine e_aload_n dJ0_init_db425_27 rfl rfl ?_
  refine e_aload_n dJ0_init_db425_28 rfl rfl ?_
  refine e_iconst dJ0_init_db425_29 rfl ?_
  refine e_iload dJ0_init_db425_30 rfl rfl ?_
  refine e_xS (ρ := [2]) (av := [.ref (a 2), vi 0, vi (n : Int)]) (rest := [.ref (a 0)]) lk_J0_54 rfl dJ0_init_db425_32 rfl (B_copy hn hg) eRd.none rfl rfl (Nat.le_of_ble_eq_true rfl) (Nat.le_of_ble_eq_true rfl) (Nat.le_of_ble_eq_true rfl) (0, 0) ⟨(Nat.le_of_ble_eq_true rfl), (Nat.le_of_ble_eq_true rfl)⟩ rfl rfl (xNn rfl (fun a1 => (Nat.le_of_ble_eq_true rfl))) (xNr rfl (fun a1 a2 h1 h2 h3 => ?_)) (fun E a1 cs1 h => by cases h.1)
  refine EV.eq (st' := [.ref (a2 3), .ref (a2 0)]) (by rw [show a2 3 = a1 1 from h3 0, h2 0 (Nat.le_of_ble_eq_true rfl)]; rfl) ?_
  refine EV.ceq (cs' := [.inr (8, [.null, vi 0, vi 0, vi 0]), .inr (7, [.ref (a2 2), vi 0, vi 0, vi (n : Int)]), eI 3 16 g, eI 3 n g]) (by rw [h2 2 (Nat.le_of_ble_eq_true rfl)]; rfl) ?_
  refine e_putfieldF fd_J0_9 dJ0_init_db425_35 rfl rfl rfl rfl rfl (Nat.le_of_ble_eq_true rfl) rfl rfl ?_
  refine e_goto (n := 97) dJ0_init_db425_38 rfl ?_
  exact e_vret dJ0_init_db425_97 rfl ⟨rfl, fun k hk => h2 k hk, rfl⟩
theorem B_strInit2 {X : eXT} {a : Nat → Nat} {g : Int → Int} {n : Nat} (hn : n ≤ 15) (hg : ∀ j, 0 ≤ g j ∧ g j ≤ 127) : EMx X mJ0_init_81219 (eRn 4 1 16) a [.ref (a 0), .ref (a 1)] [.inr (8, [.null, vi 0, vi 0, vi 0]), .inr (7, [.ref (a 2), vi 0, vi 0, vi (n : Int)]), eI 3 16 g] (eNQ 3 a (fun _ => none) (fun a1 => [.inr (8, [.ref (a1 3), vi 0, vi 0, vi 0]), .inr (7, [.ref (a1 2), vi 0, vi 0, vi (n : Int)]), eI 3 16 g, eI 3 n g])) := by
  refine EMx.of (by decide +kernel) rfl (Nat.le_of_ble_eq_true rfl) rfl ?_
  refine e_aload_n dJ0_init_81219_0 rfl rfl ?_
  refine e_aload_n dJ0_init_81219_1 rfl rfl ?_
  refine e_anull dJ0_init_81219_2 rfl ?_
  refine e_xI (ρ := [0, 1, 2]) (av := [.ref (a 1), .null]) (rest := []) li_J0_489 rfl rfl dJ0_init_81219_3 rfl (B_strInit hn hg) eRd.none rfl rfl (Nat.le_of_ble_eq_true rfl) (Nat.le_of_ble_eq_true rfl) (Nat.le_of_ble_eq_true rfl) (0, 0) ⟨(Nat.le_of_ble_eq_true rfl), (Nat.le_of_ble_eq_true rfl)⟩ rfl rfl (xNn rfl (fun a1 => (Nat.le_of_ble_eq_true rfl))) (xNr rfl (fun a1 a2 h1 h2 h3 => ?_)) (fun E a1 cs1 h => by cases h.1)
  exact e_vret dJ0_init_81219_6 rfl ⟨rfl, fun k hk => h2 k hk, by
    have e3 : a2 3 = a1 3 := h3 0
    have e2 : a2 2 = a1 2 := (h2 2 (Nat.le_of_ble_eq_true rfl)).trans (h1 2 (Nat.le_of_ble_eq_true rfl)).symm
    show (fun a1 => [.inr (8, [.ref (a1 3), vi 0, vi 0, vi 0]), .inr (7, [.ref (a1 2), vi 0, vi 0, vi (n : Int)]), eI 3 16 g, eI 3 n g]) a1 = (fun a1 => [.inr (8, [.ref (a1 3), vi 0, vi 0, vi 0]), .inr (7, [.ref (a1 2), vi 0, vi 0, vi (n : Int)]), eI 3 16 g, eI 3 n g]) a2
    simp only [e3, e2]⟩
theorem B_toString {X : eXT} {a : Nat → Nat} {g : Int → Int} {n : Nat} (hn : n ≤ 15) (hg : ∀ j, 0 ≤ g j ∧ g j ≤ 127) : EMx X mJ4_toString_0e30d (eRn 5 2 20) a [.ref (a 0)] (wSb a (n : Int) g) (eNQ 2 a (fun a1 => some (.ref (a1 2))) (fun a1 => [.inr (7, [.ref (a1 1), vi 0, vi 0, vi (n : Int)]), eI 3 16 g, .inr (8, [.ref (a1 3), vi 0, vi 0, vi 0]), eI 3 n g])) := by
  refine EMx.of (by decide +kernel) rfl (Nat.le_of_ble_eq_true rfl) rfl ?_
  refine e_newG nw_StJ dJ4_toString_0e30d_0 rfl (1, 16) ⟨(Nat.le_of_ble_eq_true rfl), (Nat.le_of_ble_eq_true rfl)⟩ ?_
  intro x1
  refine EV.eq (st' := [.ref (eAs a 2 x1 2)]) (by rw [eAs_at]) ?_
  refine e_dup dJ4_toString_0e30d_3 rfl rfl ?_
  refine e_aload_n dJ4_toString_0e30d_4 rfl rfl ?_
  refine e_xI (ρ := [2, 0, 1]) (av := [.ref (a 0)]) (rest := [.ref (eAs a 2 x1 2)]) li_J4_137 rfl rfl dJ4_toString_0e30d_5 rfl (B_strInit2 hn hg) eRd.none rfl rfl (Nat.le_of_ble_eq_true rfl) (Nat.le_of_ble_eq_true rfl) (Nat.le_of_ble_eq_true rfl) (0, 0) ⟨(Nat.le_of_ble_eq_true rfl), (Nat.le_of_ble_eq_true rfl)⟩ rfl rfl (xNn rfl (fun a1 => (Nat.le_of_ble_eq_true rfl))) (xNr rfl (fun a1 a2 h1 h2 h3 => ?_)) (fun E a1 cs1 h => by cases h.1)
  refine EV.eq (st' := [.ref (a2 2)]) (by rw [h2 2 (Nat.le_of_ble_eq_true rfl)]; rfl) ?_
  exact e_aret dJ4_toString_0e30d_8 rfl ⟨rfl, fun k hk => (h2 k (Nat.lt_of_lt_of_le hk (Nat.le_of_ble_eq_true rfl))).trans (eAs_lt hk), by
    have e3 : a2 3 = a1 3 := h3 0
    have e1 : a2 1 = a1 2 := (h2 1 (Nat.le_of_ble_eq_true rfl)).trans (h1 2 (Nat.le_of_ble_eq_true rfl)).symm
    show [Sum.inr (7, [Value.ref (a1 2), vi 0, vi 0, vi (n : Int)]), eI 3 16 g, Sum.inr (8, [Value.ref (a1 3), vi 0, vi 0, vi 0]), eI 3 n g] = (fun a1 => [.inr (7, [.ref (a1 1), vi 0, vi 0, vi (n : Int)]), eI 3 16 g, .inr (8, [.ref (a1 3), vi 0, vi 0, vi 0]), eI 3 n g]) a2
    simp only [e3, e1]⟩
theorem B_init0 {X : eXT} {a : Nat → Nat} : EMx X mJ5_init_d00df (eRn 1 1 16) a [.ref (a 0), vi 16] [.inr (7, [.null, vi 0, vi 0, vi 0])] (eNQ 1 a (fun _ => none) (fun a1 => wSb a1 0 (fun _ => 0))) := by
  refine EMx.of (by decide +kernel) rfl (Nat.le_of_ble_eq_true rfl) rfl ?_
  refine e_aload_n dJ5_init_d00df_0 rfl rfl ?_
  refine e_objInit wd_5_63 oi_1 oi_2 dJ5_init_d00df_1 rfl (Nat.le_of_ble_eq_true rfl) (Nat.le_of_ble_eq_true rfl) ?_
  refine e_getsC wd_5_64 dJ5_init_d00df_4 rfl ?_
  refine e_if_eq (t := 25) dJ5_init_d00df_7 rfl rfl (by decide) (fun h => absurd h (by decide)) (fun _ => ?_)
  refine e_aload_n dJ5_init_d00df_10 rfl rfl ?_
  refine e_iload_n dJ5_init_d00df_11 rfl rfl ?_
  refine e_newarrayG (ar := .byte) (ty := .byte) (t := 3) (N := 16) (x := (16, .inl (fun j : Nat => Int32.ofInt ((fun _ => (0 : Int)) (j : Int))))) wd_2_85 rfl rfl (fun C h => by cases h) (fun cA => eNw_b cA) dJ5_init_d00df_12 rfl (by decide) (by decide) (0, 0) ⟨(Nat.le_of_ble_eq_true rfl), (Nat.le_of_ble_eq_true rfl)⟩ ?_
  intro x1
  refine e_putfield (i := 0) fd_J5_15 dJ5_init_d00df_14 rfl rfl rfl (Nat.le_of_ble_eq_true rfl) rfl rfl ?_
  refine e_aload_n dJ5_init_d00df_17 rfl rfl ?_
  refine e_iconst dJ5_init_d00df_18 rfl ?_
  refine e_putfield (i := 0) fd_J5_22 dJ5_init_d00df_19 rfl rfl rfl (Nat.le_of_ble_eq_true rfl) (by decide) (by decide) ?_
  refine e_goto (n := 38) dJ5_init_d00df_22 rfl ?_
  exact e_vret dJ5_init_d00df_38 rfl ⟨rfl, fun k hk => (by cases Nat.lt_one_iff.mp hk; rfl), rfl⟩
theorem B_init {X : eXT} {a : Nat → Nat} : EMx X mJ4_init_da8c8 (eRn 2 1 16) a [.ref (a 0)] [.inr (7, [.null, vi 0, vi 0, vi 0])] (eNQ 1 a (fun _ => none) (fun a1 => wSb a1 0 (fun _ => 0))) := by
  refine EMx.of (by decide +kernel) rfl (Nat.le_of_ble_eq_true rfl) rfl ?_
  refine e_aload_n dJ4_init_da8c8_0 rfl rfl ?_
  refine e_bipush dJ4_init_da8c8_1 rfl rfl ?_
  refine e_xI (ρ := [0]) (av := [vi 16]) (rest := []) li_J4_1 rfl rfl dJ4_init_da8c8_3 rfl B_init0 eRd.none rfl rfl (Nat.le_of_ble_eq_true rfl) (Nat.le_of_ble_eq_true rfl) (Nat.le_of_ble_eq_true rfl) (0, 0) ⟨(Nat.le_of_ble_eq_true rfl), (Nat.le_of_ble_eq_true rfl)⟩ rfl rfl (xNn rfl (fun a1 => (Nat.le_of_ble_eq_true rfl))) (xNr rfl (fun a1 a2 h1 h2 h3 => ?_)) (fun E a1 cs1 h => by cases h.1)
  exact e_vret dJ4_init_da8c8_6 rfl ⟨rfl, fun k hk => (by cases Nat.lt_one_iff.mp hk; exact h2 0 (Nat.le_of_ble_eq_true rfl)), by
    have e1 : a2 1 = a1 1 := h3 0
    show wSb a1 0 (fun _ => 0) = wSb a2 0 (fun _ => 0)
    unfold wSb
    rw [e1]⟩
