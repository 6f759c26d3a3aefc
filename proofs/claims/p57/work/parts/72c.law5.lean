/-! ===== the law: leaders to come, counts and the rest ===== -/
section EVO
variable {K : eK} {a : Nat → Nat} {b b' : Nat × Nat} {pc n : Nat} {ls : List (Option Value)} {st rest av : List Value} {M1 : mE} {R1 : Room} {v : Value} {F : eFs} {u : eUs} {t : List eE}
theorem e_obsS {idx nA : Nat} (hw : eLkS K.1.1.cls idx M1 nA) (hh : M1.2.2.2.2 = []) (d : decode K.1.2.1 pc = .ok (.invokestatic idx, 3)) (hn : pc + 3 = n)
    (hM : EM (K.2.2.2.1, none) M1 R1 (fun k => a (eR r11 k)) av (cO (fun k => a (eR r11 k)) (a 11) (a 21) (a 31) (a 113) (a 116) (a 130) u.1 F u.2.2.1) (eRet (some v) (fun k => a (eR r11 k)) (cO (fun k => a (eR r11 k)) (a 11) (a 21) (a 31) (a 113) (a 116) (a 130) u.1 F u.2.2.1))) (hst : st = av.reverse ++ rest) (hlen : av.length = nA) (hcat : (rest.map fun v => v.category).sum ≤ 8)
    (hfr : R1.frames + 1 ≤ K.2.1.frames) (hlo : 8 + (M1.2.2.1 + 11) + R1.locals ≤ K.2.1.locals) (hR : R1.cells = 0 ∧ R1.slots = 0)
    (k : EV K a b (wB a F u t) n ls (v :: rest)) : EV K a b (wB a F u t) pc ls st :=
  e_cS0 r11 hw hh d hn hM hst hlen hcat hfr hlo hR rfl rfl k
/-- the acts of a turn, as the script says -/
theorem e_act {idx nA : Nat} {x2 : Option eSt} {N2 : Int} (hw : eLkS K.1.1.cls idx M1 nA) (hh : M1.2.2.2.2 = []) (d : decode K.1.2.1 pc = .ok (.invokestatic idx, 3)) (hn : pc + 3 = n)
    (hM : EMx (K.2.2.2.1, x2) M1 R1 (fun k => a (eR rMu k)) av (wMu (fun k => a (eR rMu k)) (a 11) (a 21) (a 113) (a 116) (a 130) u.1 F u.2.2.1 u.2.2.2.1.1 u.2.2.2.1.2 u.2.2.2.2.1) (qAct (fun k => a (eR rMu k)) (a 11) (a 21) (a 113) (a 116) (a 130) N2)) (hx : K.2.2.2.2 = x2) (hx0 : x2 ≠ none) (hst : st = av.reverse ++ rest) (hlen : av.length = nA) (hcat : (rest.map fun v => v.category).sum ≤ 8)
    (hfr : R1.frames + 1 ≤ K.2.1.frames) (hlo : 8 + (M1.2.2.1 + 11) + R1.locals ≤ K.2.1.locals) (b' : Nat × Nat) (hR : R1.cells + b'.1 ≤ b.1 ∧ R1.slots + b'.2 ≤ b.2)
    (hu : okU u) (kk : ∀ (F' : eFs) (u' : eUs), okU u' → okI N2 F' → EV K a b' (wB a F' u' t) n ls rest) : EV K a b (wB a F u t) pc ls st := by
  have hsel : rMu.map (fun i => (wB a F u t)[i]?) = (wMu (fun k => a (eR rMu k)) (a 11) (a 21) (a 113) (a 116) (a 130) u.1 F u.2.2.1 u.2.2.2.1.1 u.2.2.2.1.2 u.2.2.2.2.1).map some := rfl
  obtain ⟨x, rfl⟩ : ∃ x, x2 = some x := by
    cases x2 with
    | none => exact absurd rfl hx0
    | some x => exact ⟨x, rfl⟩
  refine e_xS hw hh d hn hM (eRd.own hsel hx) hst hlen hcat hfr hlo b' hR hsel rfl (fun o a1 cs1 h => ?_) (fun w a1 cs1 h => ?_) (fun E a1 cs1 h => ?_)
  · obtain ⟨h1, -, F', z', P', c', n', h', h2, -⟩ := h
    subst h1; subst h2
    exact ⟨fun k _ => rfl, Nat.le_refl 93⟩
  · obtain ⟨h1, h2, F', z', P', c', n', h', h3, h4, h5, h6, h7⟩ := h
    cases h2; subst h1; subst h3
    refine EV.drop (a1 := fun k => a (eR rMu k)) (Nat.le_refl 93) (EV.ceq ?_ (kk F' (z', u.2.1, P', (c', n'), h', u.2.2.2.2.2) ⟨h5, hu.2.1, ⟨h6, h7⟩, hu.2.2.2⟩ h4))
    exact gOFH (t := t) (O' := [wO (a 1) (a 11) (a 21) (a 31) (a 113) (a 116) (a 130) z']) (F' := wFl (fun k => a (1 + k)) F' P') (H' := wHi (fun k => a (31 + k)) c' n' h') rfl rfl rfl rfl rfl rfl rfl rfl rfl rfl rfl
  · obtain ⟨-, h2, -⟩ := h
    cases h2
end EVO
theorem fp_mean {x n : Int} (hx : 0 ≤ x ∧ x ≤ 620) (hn : 1 ≤ n ∧ n ≤ 9) : Op.cmpValue (FP.dcmp (FP.ddiv (FP.i2d (Int32.ofInt x)) (FP.i2d (Int32.ofInt n))) (FP.ddiv (FP.i2d (Int32.ofInt x)) (FP.i2d (Int32.ofInt n)))) .l = 0 := by
  have h : ∀ i : Fin 621, ∀ j : Fin 10, 1 ≤ j.val → Op.cmpValue (FP.dcmp (FP.ddiv (FP.i2d (Int32.ofInt (i.val : Int))) (FP.i2d (Int32.ofInt (j.val : Int)))) (FP.ddiv (FP.i2d (Int32.ofInt (i.val : Int))) (FP.i2d (Int32.ofInt (j.val : Int))))) .l = 0 := by decide +kernel
  have := h ⟨x.toNat, by omega⟩ ⟨n.toNat, by omega⟩ (by show 1 ≤ n.toNat; omega)
  simpa [show ((x.toNat : Nat) : Int) = x by omega, show ((n.toNat : Nat) : Int) = n by omega] using this
theorem fp_shareF {x n : Int} (hx : 0 ≤ x ∧ x ≤ 100) (hn : 1 ≤ n ∧ n ≤ 100) : Op.cmpValue (FP.fcmp (FP.fdiv (FP.i2f (Int32.ofInt x)) (FP.i2f (Int32.ofInt n))) (FP.fdiv (FP.i2f (Int32.ofInt x)) (FP.i2f (Int32.ofInt n)))) .l = 0 := by
  have h : ∀ i : Fin 101, ∀ j : Fin 101, 1 ≤ j.val → Op.cmpValue (FP.fcmp (FP.fdiv (FP.i2f (Int32.ofInt (i.val : Int))) (FP.i2f (Int32.ofInt (j.val : Int)))) (FP.fdiv (FP.i2f (Int32.ofInt (i.val : Int))) (FP.i2f (Int32.ofInt (j.val : Int))))) .l = 0 := by decide +kernel
  have := h ⟨x.toNat, by omega⟩ ⟨n.toNat, by omega⟩ (by show 1 ≤ n.toNat; omega)
  simpa [show ((x.toNat : Nat) : Int) = x by omega, show ((n.toNat : Nat) : Int) = n by omega] using this
theorem sLrg_in {F : eFs} (h0 : 0 ≤ F.1 0) : 0 ≤ sLrg F ∧ sLrg F ≤ F.1 0 := by
  obtain ⟨b1, b2, b3⟩ := sMax_b (f := fun g => sSiz F g) (F.1 0 - 0).toNat 0 0
  have e : sLrg F = sMax (fun g => sSiz F g) (F.1 0 - 0).toNat 0 0 := rfl
  have r : ∀ g, 0 ≤ sSiz F g ∧ sSiz F g ≤ F.1 0 := fun g => by
    have := eCB_in (P := fun c => sGr F c = g) (n := F.1 0) (i := 0) h0
    unfold sSiz
    omega
  rcases b3 with b3 | ⟨j, -, -, j2⟩
  · omega
  · have := r j
    have j2 : sMax (fun g => sSiz F g) (F.1 0 - 0).toNat 0 0 = sSiz F j := j2
    omega
theorem sSumM_in {N : Int} {F : eFs} (hF : okF N F) : 0 ≤ sSumM F ∧ sSumM F ≤ 2000000000 := by
  have hc := hF.1
  have hN := hF.2.2.2.2.2.2.2.2.2.2.2.1
  have hm := hF.2.2.2.2.2.2.2.2.2.2.2.2.2.2.2.1
  have := eSB_bnd (f := fun b => F.2 3 b) (n := F.1 0) (i := 0) (lo := 0) (hi := 100000000) (fun j _ _ => by have := hm j; (try dsimp only); omega) hc.1
  unfold sSumM
  omega

