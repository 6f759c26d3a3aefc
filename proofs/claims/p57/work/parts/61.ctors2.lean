/-! ===== constructors of the large classes ===== -/
section EVM
variable {K : eK} {b b' : Nat × Nat} {cs : List eE} {pc n : Nat} {ls : List (Option Value)} {st : List Value}
/-- rows of ints are made, ten of three -/
theorem e_mna {idx : Nat} {qs : List Nat} (hw : Cond.classLink K.1.1.cls idx "[[I" ∈ eTB) (ha : Cond.arrayClass .int ∈ eTB) (d : decode K.1.2.1 pc = .ok (.multianewarray idx 2, 4)) (hn : pc + 4 = n) (hl : qs.length = cs.length) (b' : Nat × Nat) (hb : 11 + b'.1 ≤ b.1 ∧ 40 + b'.2 ≤ b.2)
    (k : ∀ (q r0 r1 r2 r3 r4 r5 r6 r7 r8 r9 : Nat), EV K (eAd (qs ++ [q, r0, r1, r2, r3, r4, r5, r6, r7, r8, r9])) b' (cs ++ [eRf 5 10 (fun j => [r0, r1, r2, r3, r4, r5, r6, r7, r8, r9][j]?), eI 0 3 (fun _ => 0), eI 0 3 (fun _ => 0), eI 0 3 (fun _ => 0), eI 0 3 (fun _ => 0), eI 0 3 (fun _ => 0), eI 0 3 (fun _ => 0), eI 0 3 (fun _ => 0), eI 0 3 (fun _ => 0), eI 0 3 (fun _ => 0), eI 0 3 (fun _ => 0)]) n ls (.ref q :: st)) : EV K (eAd qs) b cs pc ls (vi 3 :: vi 10 :: st) := by
  subst hn
  intro G A p l e s m args below meth c H locs cells slots lsA hX hL hP hD hS hc hs
  have hts := hX.2.2.2.2.2.2.2.1
  have hAm := hX.2.2.2.2.2.2.2.2.1
  have hK := hAm.1
  have hcy : s.vm.findClass (FieldType.array .int).toString = some (G.2 0) := (hK.2 0 (G.2 0, .int) (eTys_at rfl)).2
  have e0 : eW G (eAd qs) cs ++ va_pl [] (fun _ => .inl (G.2 0, (0, .inl (fun _ => 0)))) = eW G (eAd qs) cs := by simp [va_pl]
  refine va_mna (X := eW G (eAd qs) cs) (L := []) (f := fun _ => .inl (G.2 0, (0, .inl (fun _ => 0)))) (z := (3, .inl (fun j : Nat => Int32.ofInt ((fun _ => (0 : Int)) (j : Int))))) (N' := 10) (K' := 3) hX.1 hX.2.1 hX.2.2.2.2.2.1 (hts _ hw) hAm.2.2.2.2.2.2.2.2.1 (hts _ ha) hcy hK (by rw [e0]; exact hP) (by rw [e0]; exact hD) hS hX.2.2.2.2.2.2.2.2.2.2.1 (by decide) (by decide) (by decide) (by decide) (by decide) (by decide) (by decide) (by decide) (by decide) (by omega) (by omega) (fun c => by rw [eNw_i]; exact arrV_new c 3 (.int 0)) d (fun q r cA H1 hr hr2 hK1 hP1 hD1 hS1 => ?_)
  have hcA : cA = G.2 5 := by
    have h1 := (hK1.2 (eTys G).length (cA, .array .int) (by simp)).2
    have h2 := (hK.2 5 (G.2 5, .array .int) (eTys_at rfl)).2
    have h1' : s.vm.findClass ("[" ++ (FieldType.array .int).toString) = some cA := h1
    have h2' : s.vm.findClass ("[" ++ (FieldType.array .int).toString) = some (G.2 5) := h2
    exact Option.some.inj (h1'.symm.trans h2')
  subst hcA
  have k' := k q (r 0) (r 1) (r 2) (r 3) (r 4) (r 5) (r 6) (r 7) (r 8) (r 9)
  have ef : (fun i : Nat => if i < 10 then some (r i) else none) = (fun j => [r 0, r 1, r 2, r 3, r 4, r 5, r 6, r 7, r 8, r 9][j]?) := by
    funext i
    match i with
    | 0 => rfl
    | 1 => rfl
    | 2 => rfl
    | 3 => rfl
    | 4 => rfl
    | 5 => rfl
    | 6 => rfl
    | 7 => rfl
    | 8 => rfl
    | 9 => rfl
    | j + 10 => rw [if_neg (by omega)]; rfl
  have e2 : eW G (eAd (qs ++ [q, r 0, r 1, r 2, r 3, r 4, r 5, r 6, r 7, r 8, r 9])) (cs ++ [eRf 5 10 (fun j => [r 0, r 1, r 2, r 3, r 4, r 5, r 6, r 7, r 8, r 9][j]?), eI 0 3 (fun _ => 0), eI 0 3 (fun _ => 0), eI 0 3 (fun _ => 0), eI 0 3 (fun _ => 0), eI 0 3 (fun _ => 0), eI 0 3 (fun _ => 0), eI 0 3 (fun _ => 0), eI 0 3 (fun _ => 0), eI 0 3 (fun _ => 0), eI 0 3 (fun _ => 0)])
      = (eW G (eAd qs) cs ++ [(q, .inl (G.2 5, 10, .inr (.inr (.inr (.inr (fun i => if i < 10 then some (r i) else none))))))]) ++ va_pl ([] ++ (List.range 10).map r) (vr_up (fun _ => .inl (G.2 0, (0, .inl (fun _ => 0)))) ((List.range 10).map r) (.inl (G.2 0, (3, .inl (fun j : Nat => Int32.ofInt ((fun _ => (0 : Int)) (j : Int))))))) := by
    rw [ef]
    have ep : va_pl ([] ++ (List.range 10).map r) (vr_up (fun _ => .inl (G.2 0, (0, .inl (fun _ => 0)))) ((List.range 10).map r) (.inl (G.2 0, (3, .inl (fun j : Nat => Int32.ofInt ((fun _ => (0 : Int)) (j : Int))))))) = ((List.range 10).map r).map (fun a => (a, (.inl (G.2 0, (3, .inl (fun j : Nat => Int32.ofInt ((fun _ => (0 : Int)) (j : Int))))) : va_E))) := by
      unfold va_pl
      rw [List.nil_append]
      exact List.map_congr_left (fun a ha => by rw [vr_up_in ha])
    rw [ep]
    have g : ∀ (qs2 : List Nat) (cs2 : List eE) (x : Nat) (y : eE), qs2.length = cs2.length → eW G (eAd (qs2 ++ [x])) (cs2 ++ [y]) = eW G (eAd qs2) cs2 ++ [(x, eC G y)] := by
      intro qs2 cs2 x y h
      rw [eW_app (q := x) (by simp [eAd, List.getD, ← h]), eW_cong (a := eAd (qs2 ++ [x])) (a' := eAd qs2) (fun k hk => eAd_app (by omega))]
    have s1 : ∀ (l : List Nat) (m : List eE), qs.length + l.length = cs.length + m.length → (qs ++ l).length = (cs ++ m).length := by intro l m h; simp; omega
    rw [show qs ++ [q, r 0, r 1, r 2, r 3, r 4, r 5, r 6, r 7, r 8, r 9] = qs ++ [q] ++ [r 0] ++ [r 1] ++ [r 2] ++ [r 3] ++ [r 4] ++ [r 5] ++ [r 6] ++ [r 7] ++ [r 8] ++ [r 9] by simp]
    rw [show ∀ (y0 y1 y2 y3 y4 y5 y6 y7 y8 y9 y10 : eE), cs ++ [y0, y1, y2, y3, y4, y5, y6, y7, y8, y9, y10] = cs ++ [y0] ++ [y1] ++ [y2] ++ [y3] ++ [y4] ++ [y5] ++ [y6] ++ [y7] ++ [y8] ++ [y9] ++ [y10] by intros; simp]
    rw [g _ _ _ _ (by simp; omega), g _ _ _ _ (by simp; omega), g _ _ _ _ (by simp; omega), g _ _ _ _ (by simp; omega), g _ _ _ _ (by simp; omega), g _ _ _ _ (by simp; omega), g _ _ _ _ (by simp; omega), g _ _ _ _ (by simp; omega), g _ _ _ _ (by simp; omega), g _ _ _ _ (by simp; omega), g _ _ _ _ hl]
    simp only [List.append_assoc]
    rfl
  exact k' G A p l e s m args below meth c H1 locs (cells + 1 + 10) (slots + 10 + 10 * 3) lsA hX hL (by rw [e2]; exact hP1) (by rw [e2]; exact hD1) hS1 (by omega) (by omega)
end EVM
theorem row8 {q0 q1 q2 q3 q4 q5 q6 q7 : Nat} : va_up (va_up (va_up (va_up (va_up (va_up (va_up (va_up (fun _ => none) 0 (some q0)) 1 (some q1)) 2 (some q2)) 3 (some q3)) 4 (some q4)) 5 (some q5)) 6 (some q6)) 7 (some q7) = (fun j => [q0, q1, q2, q3, q4, q5, q6, q7][j]?) := by
  funext j
  match j with
  | 0 => rfl
  | 1 => rfl
  | 2 => rfl
  | 3 => rfl
  | 4 => rfl
  | 5 => rfl
  | 6 => rfl
  | 7 => rfl
  | i + 8 =>
    show va_up _ 7 _ (i + 8) = _
    unfold va_up
    rw [if_neg (by omega), if_neg (by omega), if_neg (by omega), if_neg (by omega), if_neg (by omega), if_neg (by omega), if_neg (by omega), if_neg (by omega)]
    rfl
/-- the flock, the draft, the snapshot at the start; the history; the text -/
def hs0 : eHs := fun _ => (sF0, fun _ => 0)
def tT0 : eFs := (fun _ => 0, fun _ _ => 0)
def mm0 : eFs := (fun j => if j = 9 then -1 else if j = 10 then -1 else 0, fun k => if k = 0 then eU (eU (fun _ => 0) 4 4) 6 3 else fun _ => 0)
def zz0 : Nat → Int := fun j => if j = 0 then -1 else if j = 1 then -1 else if j = 2 then -1 else if j = 3 then -1 else 0

/-- the whole object: 0 the object, 1 now, 11 the draft, 21 the snapshot, 31 the history, 113 the formations, 116 the text, 130 the line; then t -/
def wA (a : Nat → Nat) (z : Nat → Int) (ln : Int → Int) (F : eFs) (P : Int → Int) (D : eFs) (DQ : Int → Int) (S : eFs) (SP : Int → Int) (c n : Int) (h : eHs) (g rc : Int → Int) (T : eFs) (Mt : Int → Int → Int) (t : List eE) : List eE :=
  [wO (a 1) (a 11) (a 21) (a 31) (a 113) (a 116) (a 130) z] ++ (wFl (fun k => a (1 + k)) F P ++ (wFl (fun k => a (11 + k)) D DQ ++ (wFl (fun k => a (21 + k)) S SP ++ (wHi (fun k => a (31 + k)) c n h ++ ([.inr (3, [.ref (a 114), .ref (a 115)]), eI 0 10 g, eI 0 10 rc] ++ (wTx (fun k => a (116 + k)) T Mt ++ ([eI 2 12 ln] ++ t)))))))
