/-! ===== the forms of the commands: texts ===== -/
section EVT
variable {K : eK} {a : Nat → Nat} {b b' : Nat × Nat} {cs cs0 : List eE} {pc n : Nat} {ls : List (Option Value)} {st rest av : List Value} {M1 : mE} {R1 : Room} {ρ : List Nat} {Q1 : ePo} {v : Value}
theorem e_getvS {i idx : Nat} (hi : i < 9) (w : Cond.fieldLink K.1.1.cls idx "java/lang/String" "value" "[B" ∈ eTB) (d : decode K.1.2.1 pc = .ok (.getfield idx, 3)) (hn : pc + 3 = n) (k : EV K a b cs n ls (.ref (K.2.2.2.1 (36 + i)) :: st)) : EV K a b cs pc ls (.ref (K.2.2.2.1 (27 + i)) :: st) := by
  subst hn
  intro G A p l e s m args below meth c H locs cells slots lsA hX hL hP hD hS hc hs
  have hts := hX.2.2.2.2.2.2.2.1
  have hE := hX.2.2.2.2.2.2.2.2.1.2.2.2.2.2.2.2.2.2.1
  exact vk_getf hX.1 hX.2.1 (hE.1 i hi).2.2.1 hS hX.2.2.2.2.2.1 (hts _ w) (fun x h => h) d (k G A p l e s m args below meth c H locs cells slots lsA hX hL hP hD hS hc hs)
theorem e_getcS {i idx : Nat} (hi : i < 9) (w : Cond.fieldLink K.1.1.cls idx "java/lang/String" "coder" "B" ∈ eTB) (d : decode K.1.2.1 pc = .ok (.getfield idx, 3)) (hn : pc + 3 = n) (k : EV K a b cs n ls (vi 0 :: st)) : EV K a b cs pc ls (.ref (K.2.2.2.1 (27 + i)) :: st) := by
  subst hn
  intro G A p l e s m args below meth c H locs cells slots lsA hX hL hP hD hS hc hs
  have hts := hX.2.2.2.2.2.2.2.1
  have hE := hX.2.2.2.2.2.2.2.2.1.2.2.2.2.2.2.2.2.2.1
  exact vk_getf hX.1 hX.2.1 (hE.1 i hi).2.1 hS hX.2.2.2.2.2.1 (hts _ w) (fun x h => h) d (k G A p l e s m args below meth c H locs cells slots lsA hX hL hP hD hS hc hs)
theorem e_getsC {idx : Nat} (w : Cond.fieldLink K.1.1.cls idx "java/lang/String" "COMPACT_STRINGS" "Z" ∈ eTB) (d : decode K.1.2.1 pc = .ok (.getstatic idx, 3)) (hn : pc + 3 = n) (k : EV K a b cs n ls (vi 1 :: st)) : EV K a b cs pc ls st := by
  subst hn
  intro G A p l e s m args below meth c H locs cells slots lsA hX hL hP hD hS hc hs
  have hts := hX.2.2.2.2.2.2.2.1
  have hE := hX.2.2.2.2.2.2.2.2.1.2.2.2.2.2.2.2.2.2.2.1
  exact va_gets hX.1 hX.2.1 hE hS hX.2.2.2.2.2.1 (hts _ w) (fun x h => h) d (k G A p l e s m args below meth c H locs cells slots lsA hX hL hP hD hS hc hs)
theorem e_getsF {idx : Nat} (w : Cond.fieldLink K.1.1.cls idx "jdk/internal/util/Preconditions" "SIOOBE_FORMATTER" "Ljava/util/function/BiFunction;" ∈ eTB) (d : decode K.1.2.1 pc = .ok (.getstatic idx, 3)) (hn : pc + 3 = n) (k : ∀ v : Value, v.category = 1 → EV K a b cs n ls (v :: st)) : EV K a b cs pc ls st := by
  subst hn
  intro G A p l e s m args below meth c H locs cells slots lsA hX hL hP hD hS hc hs
  have hts := hX.2.2.2.2.2.2.2.1
  rcases hX.2.2.2.2.2.2.2.2.1.2.2.2.2.2.2.2.2.2.2.2.1 with hE | ⟨t, hE⟩
  · exact va_gets hX.1 hX.2.1 hE hS hX.2.2.2.2.2.1 (hts _ w) (fun x h => h) d (k _ rfl G A p l e s m args below meth c H locs cells slots lsA hX hL hP hD hS hc hs)
  · exact va_gets hX.1 hX.2.1 hE hS hX.2.2.2.2.2.1 (hts _ w) (fun x h => h) d (k _ rfl G A p l e s m args below meth c H locs cells slots lsA hX hL hP hD hS hc hs)
/-- a form's length, its characters -/
def fLn (i : Nat) : Int := ((eFl.getD i 0 : Nat) : Int)
def fCh (i : Nat) (j : Int) : Int := ((eFb.getD i []).getD j.toNat 0).toInt
theorem fLn_n (i : Nat) : Int32.ofNat (eFl.getD i 0) = Int32.ofInt (fLn i) := by
  unfold fLn
  rw [oI_bv]
  rfl
theorem fLn_in : ∀ i : Nat, i < 9 → 6 ≤ fLn i ∧ fLn i ≤ 10 := by
  intro i hi
  rcases (show i = 0 ∨ i = 1 ∨ i = 2 ∨ i = 3 ∨ i = 4 ∨ i = 5 ∨ i = 6 ∨ i = 7 ∨ i = 8 by omega) with h | h | h | h | h | h | h | h | h <;> subst h <;> decide
theorem fCh_in : ∀ i : Nat, i < 9 → ∀ j : Int, 0 ≤ j → j < fLn i → (32 ≤ fCh i j ∧ fCh i j ≤ 126) := by
  intro i hi j h0 h1
  have h2 := (fLn_in i hi).2
  rcases (show i = 0 ∨ i = 1 ∨ i = 2 ∨ i = 3 ∨ i = 4 ∨ i = 5 ∨ i = 6 ∨ i = 7 ∨ i = 8 by omega) with h | h | h | h | h | h | h | h | h <;> subst h <;>
    rcases (show j = 0 ∨ j = 1 ∨ j = 2 ∨ j = 3 ∨ j = 4 ∨ j = 5 ∨ j = 6 ∨ j = 7 ∨ j = 8 ∨ j = 9 by omega) with h | h | h | h | h | h | h | h | h | h <;> subst h <;> first | decide | (exact absurd h1 (by decide))
theorem bAnd_255 {x : Int} (h : 0 ≤ x ∧ x ≤ 255) : bAnd x 255 = x := by
  have e : x = ((x.toNat : Nat) : Int) := by omega
  have h1 : bAnd x 255 = ((x.toNat &&& 255 : Nat) : Int) := by
    conv => lhs; rw [e]
    exact bAnd_n (m := x.toNat) (k := 255) (by omega) (by omega)
  have h2 : x.toNat &&& 255 = x.toNat := by
    rw [show 255 = 2 ^ 8 - 1 from rfl, Nat.and_two_pow_sub_one_eq_mod]; omega
  rw [h1, h2]; omega
theorem e_alenS {i : Nat} (hi : i < 9) (d : decode K.1.2.1 pc = .ok (.arraylength, 1)) (hn : pc + 1 = n) (k : EV K a b cs n ls (vi (fLn i) :: st)) : EV K a b cs pc ls (.ref (K.2.2.2.1 (36 + i)) :: st) := by
  subst hn
  intro G A p l e s m args below meth c H locs cells slots lsA hX hL hP hD hS hc hs
  have hE := hX.2.2.2.2.2.2.2.2.1.2.2.2.2.2.2.2.2.2.1
  exact va_tlen hX.1 hX.2.1 (hE.1 i hi).2.2.2 hS (fLn_n i) d (k G A p l e s m args below meth c H locs cells slots lsA hX hL hP hD hS hc hs)
theorem e_baldS {i : Nat} {z : Int} (hi : i < 9) (hz : 0 ≤ z ∧ z < fLn i) (d : decode K.1.2.1 pc = .ok (.baload, 1)) (hn : pc + 1 = n) (k : EV K a b cs n ls (vi (fCh i z) :: st)) : EV K a b cs pc ls (vi z :: .ref (K.2.2.2.1 (36 + i)) :: st) := by
  subst hn
  intro G A p l e s m args below meth c H locs cells slots lsA hX hL hP hD hS hc hs
  have hE := hX.2.2.2.2.2.2.2.2.1.2.2.2.2.2.2.2.2.2.1
  have h2 := fLn_in i hi
  refine va_tb hX.1 hX.2.1 (hE.1 i hi).2.2.2 hS (oI_in (by unfold fLn at hz; exact hz) (by unfold fLn at h2; omega)) ?_ d (k G A p l e s m args below meth c H locs cells slots lsA hX hL hP hD hS hc hs)
  show Value.int ((eFb.getD i []).getD (Int32.ofInt z).toNatClampNeg 0) = Value.int (Int32.ofInt (fCh i z))
  rw [oI_nat (by omega)]
  unfold fCh
  rw [oI_ofI]
/-- a call upon a form -/
theorem e_invVS {idx nA i : Nat} (hi : i < 9) (hw : eLkV K.1.1.cls idx M1 nA) (hcl : M1.1.cls = "java/lang/String") (hh : M1.2.2.2.2 = []) (d : decode K.1.2.1 pc = .ok (.invokevirtual idx, 3)) (hn : pc + 3 = n)
    (hM : EM (K.2.2.2.1, none) M1 R1 (fun k => a (eR ρ k)) (.ref (K.2.2.2.1 (27 + i)) :: av) cs0 (eRet (some v) (fun k => a (eR ρ k)) cs0)) (hst : st = av.reverse ++ .ref (K.2.2.2.1 (27 + i)) :: rest) (hlen : av.length = nA) (hcat : (rest.map fun v => v.category).sum ≤ 8)
    (hfr : R1.frames + 1 ≤ K.2.1.frames) (hlo : 8 + (M1.2.2.1 + 11) + R1.locals ≤ K.2.1.locals) (hR : R1.cells = 0 ∧ R1.slots = 0)
    (hsel : ρ.map (fun i => cs[i]?) = cs0.map some) (hnd : va_nd ρ = true) (k : EV K a b cs n ls (v :: rest)) : EV K a b cs pc ls st := by
  subst hn
  intro G A p l e s m args below meth c H locs cells slots lsA hX hL hP hD hS hc hs
  have hts := hX.2.2.2.2.2.2.2.1
  have hE := hX.2.2.2.2.2.2.2.2.1.2.2.2.2.2.2.2.2.2.1
  have hpre := ePre (av := .ref (K.2.2.2.1 (27 + i)) :: av) hsel hnd hX hP hD hS
  refine eCont (b' := b) hnd hsel hX hL hP hD hS hc hs (as := (.ref (K.2.2.2.1 (27 + i)) :: av).toArray) (R1 := R1) (Q1 := eRet (some v) (fun k => a (eR ρ k)) cs0) (rest := rest) ?_ ⟨by omega, by omega⟩ (fun o a1 cs1 h => by obtain ⟨-, h2, h3⟩ := h; subst h2; subst h3; exact ⟨fun k _ => rfl, Nat.le_of_eq (eSel_l hsel).symm⟩)
    (fun w a1 cs1 h => by obtain ⟨h1, h2, h3⟩ := h; cases h1; subst h2; subst h3; exact EV.drop (a1 := fun k => a (eR ρ k)) (Nat.le_of_eq (eSel_l hsel)) (by rw [eMrg_same ρ _ hsel]; exact k)) (fun E a1 cs1 h => by cases h.1)
  refine vx_runV (ws := eWs M1) ⟨hX.1, hX.2.1, hX.2.2.1, hX.2.2.2.2.2.1, hts⟩ (hM l G H.size hX.2.2.2.2.2.2.2.2.2.1 rfl) (C := M1.1.cls) (n := nA) ⟨eLk_codeB hh hw.1 hts hfr hlo, hts _ hw.2.1, hts _ hw.2.2⟩ ⟨hpre.1, ?_, hpre.2⟩ rfl hlen hL.1 hst (by show 2 * 0 + _ ≤ 8; omega) d ⟨by omega, by omega⟩
  rw [hcl]
  exact vk_recv (i := i) hE hi hS
end EVT
theorem C_coder {X : eXT} {a : Nat → Nat} {i : Nat} (hi : i < 9) : EM X mJ0_coder_7d493 (eRm 0) a [.ref (X.1 (27 + i))] [] (eRet (some (vi 0)) a []) := by
  refine EM.of (by decide +kernel) rfl (Nat.le_of_ble_eq_true rfl) ?_
  refine e_getsC wd_5_89 dJ0_coder_7d493_0 rfl ?_
  refine e_if_eq (t := 13) dJ0_coder_7d493_3 rfl rfl (by decide) (fun h => absurd h (by decide)) (fun _ => ?_)
  refine e_aload_n dJ0_coder_7d493_6 rfl rfl ?_
  refine e_getcS hi wd_8_61 dJ0_coder_7d493_7 rfl ?_
  refine e_goto (n := 14) dJ0_coder_7d493_10 rfl ?_
  exact e_iret dJ0_coder_7d493_14 rfl (by decide) (eRet_i rfl rfl)
theorem C_isLatin1 {X : eXT} {a : Nat → Nat} {i : Nat} (hi : i < 9) : EM X mJ0_isLatin1_aae02 (eRm 0) a [.ref (X.1 (27 + i))] [] (eRet (some (vi 1)) a []) := by
  refine EM.of (by decide +kernel) rfl (Nat.le_of_ble_eq_true rfl) ?_
  refine e_getsC wd_5_89 dJ0_isLatin1_aae02_0 rfl ?_
  refine e_if_eq (t := 17) dJ0_isLatin1_aae02_3 rfl rfl (by decide) (fun h => absurd h (by decide)) (fun _ => ?_)
  refine e_aload_n dJ0_isLatin1_aae02_6 rfl rfl ?_
  refine e_getcS hi wd_8_61 dJ0_isLatin1_aae02_7 rfl ?_
  refine e_if_ne (t := 17) dJ0_isLatin1_aae02_10 rfl rfl (by decide) (fun h => absurd h (by decide)) (fun _ => ?_)
  refine e_iconst dJ0_isLatin1_aae02_13 rfl ?_
  refine e_goto (n := 18) dJ0_isLatin1_aae02_14 rfl ?_
  exact e_iret dJ0_isLatin1_aae02_18 rfl (by decide) (eRet_i rfl rfl)
theorem C_length {X : eXT} {a : Nat → Nat} {i : Nat} (hi : i < 9) : EM X mJ0_length_8abf5 (eRm 1) a [.ref (X.1 (27 + i))] [] (eRet (some (vi (fLn i))) a []) := by
  refine EM.of (by decide +kernel) rfl (Nat.le_of_ble_eq_true rfl) ?_
  refine e_aload_n dJ0_length_8abf5_0 rfl rfl ?_
  refine e_getvS hi wd_8_60 dJ0_length_8abf5_1 rfl ?_
  refine e_alenS hi dJ0_length_8abf5_4 rfl ?_
  refine e_aload_n dJ0_length_8abf5_5 rfl rfl ?_
  refine e_invVS (ρ := []) hi lk_J0_335 rfl rfl dJ0_length_8abf5_6 rfl (C_coder hi) rfl rfl (Nat.le_of_ble_eq_true rfl) (Nat.le_of_ble_eq_true rfl) (Nat.le_of_ble_eq_true rfl) ⟨rfl, rfl⟩ rfl rfl ?_
  refine e_ishr dJ0_length_8abf5_9 rfl ?_
  have h2 := fLn_in i hi
  refine e_iret dJ0_length_8abf5_10 rfl rfl (eRet_i ?_ rfl)
  unfold bShr
  rw [show (Int32.ofInt 0 &&& 31 : Int32) = 0 by decide, show Int32.ofInt (fLn i) >>> (0 : Int32) = Int32.ofInt (fLn i) by simp, oI_toInt (by omega)]
theorem C_preCheck {X : eXT} {a : Nat → Nat} {x n : Int} {v : Value} (hv : v.category = 1) (h : 0 ≤ x ∧ x < n ∧ n ≤ 100) : EM X mJ3_checkIndex_8e157 (eRm 0) a [vi x, vi n, v] [] (eRet (some (vi x)) a []) := by
  refine EM.of (by decide +kernel) (by rw [show ([vi x, vi n, v] : List Value).all (fun v => v.category == 1) = (v.category == 1 && true) from rfl, hv]; rfl) (Nat.le_of_ble_eq_true rfl) ?_
  refine e_iload_n dJ3_checkIndex_8e157_0 rfl rfl ?_
  refine e_if_lt (t := 9) dJ3_checkIndex_8e157_1 rfl rfl (by omega) (fun h => absurd h (by omega)) (fun _ => ?_)
  refine e_iload_n dJ3_checkIndex_8e157_4 rfl rfl ?_
  refine e_iload_n dJ3_checkIndex_8e157_5 rfl rfl ?_
  refine e_icmp_lt (t := 16) dJ3_checkIndex_8e157_6 rfl rfl (by omega) (by omega) (fun _ => ?_) (fun h => absurd h (by omega))
  refine e_iload_n dJ3_checkIndex_8e157_16 rfl rfl ?_
  exact e_iret dJ3_checkIndex_8e157_17 rfl rfl (eRet_i rfl rfl)
theorem C_checkIndex {X : eXT} {a : Nat → Nat} {x n : Int} (h : 0 ≤ x ∧ x < n ∧ n ≤ 100) : EM X mJ0_checkIndex_df160 (eRm 1) a [vi x, vi n] [] (eRet none a []) := by
  refine EM.of (by decide +kernel) rfl (Nat.le_of_ble_eq_true rfl) ?_
  refine e_iload_n dJ0_checkIndex_df160_0 rfl rfl ?_
  refine e_iload_n dJ0_checkIndex_df160_1 rfl rfl ?_
  refine e_getsF wd_5_105 dJ0_checkIndex_df160_2 rfl (fun v hv => ?_)
  refine e_cS0 [] (v := vi x) (av := [vi x, vi n, v]) (rest := []) lk_J0_1059 rfl dJ0_checkIndex_df160_5 rfl (C_preCheck hv h) rfl rfl (Nat.le_of_ble_eq_true rfl) (Nat.le_of_ble_eq_true rfl) (Nat.le_of_ble_eq_true rfl) ⟨rfl, rfl⟩ rfl rfl ?_
  refine e_pop dJ0_checkIndex_df160_8 rfl rfl ?_
  exact e_vret dJ0_checkIndex_df160_9 rfl (eRet_v rfl)
theorem C_latinCharAt {X : eXT} {a : Nat → Nat} {i : Nat} {z : Int} (hi : i < 9) (hz : 0 ≤ z ∧ z < fLn i) : EM X mJ1_charAt_3b067 (eRm 2) a [.ref (X.1 (36 + i)), vi z] [] (eRet (some (vi (fCh i z))) a []) := by
  have h2 := fLn_in i hi
  have h3 := fCh_in i hi z hz.1 hz.2
  have h4 := bAnd_255 (x := fCh i z) (by omega)
  refine EM.of (by decide +kernel) rfl (Nat.le_of_ble_eq_true rfl) ?_
  refine e_iload_n dJ1_charAt_3b067_0 rfl rfl ?_
  refine e_aload_n dJ1_charAt_3b067_1 rfl rfl ?_
  refine e_alenS hi dJ1_charAt_3b067_2 rfl ?_
  refine e_cS2 [] (w := none) (av := [vi z, vi (fLn i)]) (rest := []) (cs1 := []) lk_J1_9 rfl dJ1_charAt_3b067_3 rfl (C_checkIndex (by omega)) rfl rfl (Nat.le_of_ble_eq_true rfl) (Nat.le_of_ble_eq_true rfl) (Nat.le_of_ble_eq_true rfl) ⟨rfl, rfl⟩ rfl rfl rfl rfl ?_
  refine e_aload_n dJ1_charAt_3b067_6 rfl rfl ?_
  refine e_iload_n dJ1_charAt_3b067_7 rfl rfl ?_
  refine e_baldS hi hz dJ1_charAt_3b067_8 rfl ?_
  refine e_sipush dJ1_charAt_3b067_9 rfl rfl ?_
  refine e_iand dJ1_charAt_3b067_12 rfl ?_
  refine e_i2c dJ1_charAt_3b067_13 rfl (by omega) ?_
  exact e_iret dJ1_charAt_3b067_14 rfl (narC (by omega)) (eRet_i h4 rfl)
theorem C_charAt {X : eXT} {a : Nat → Nat} {i : Nat} {z : Int} (hi : i < 9) (hz : 0 ≤ z ∧ z < fLn i) : EM X mJ0_charAt_5068e (eRm 3) a [.ref (X.1 (27 + i)), vi z] [] (eRet (some (vi (fCh i z))) a []) := by
  have h3 := fCh_in i hi z hz.1 hz.2
  refine EM.of (by decide +kernel) rfl (Nat.le_of_ble_eq_true rfl) ?_
  refine e_aload_n dJ0_charAt_5068e_0 rfl rfl ?_
  refine e_invVS (ρ := []) (v := vi 1) (av := []) (rest := []) hi lk_J0_492 rfl rfl dJ0_charAt_5068e_1 rfl (C_isLatin1 hi) rfl rfl (Nat.le_of_ble_eq_true rfl) (Nat.le_of_ble_eq_true rfl) (Nat.le_of_ble_eq_true rfl) ⟨rfl, rfl⟩ rfl rfl ?_
  refine e_if_eq (t := 16) dJ0_charAt_5068e_4 rfl rfl (by decide) (fun h => absurd h (by decide)) (fun _ => ?_)
  refine e_aload_n dJ0_charAt_5068e_7 rfl rfl ?_
  refine e_getvS hi wd_8_60 dJ0_charAt_5068e_8 rfl ?_
  refine e_iload_n dJ0_charAt_5068e_11 rfl rfl ?_
  refine e_cS0 [] (v := vi (fCh i z)) (av := [.ref (X.1 (36 + i)), vi z]) (rest := []) lk_J0_495 rfl dJ0_charAt_5068e_12 rfl (C_latinCharAt hi hz) rfl rfl (Nat.le_of_ble_eq_true rfl) (Nat.le_of_ble_eq_true rfl) (Nat.le_of_ble_eq_true rfl) ⟨rfl, rfl⟩ rfl rfl ?_
  exact e_iret dJ0_charAt_5068e_15 rfl (narC (by omega)) (eRet_i rfl rfl)
