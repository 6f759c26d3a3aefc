/-! ===== the law: its world grows and is let go; builders and texts in it ===== -/
theorem wB_cut {a : Nat → Nat} {F : eFs} {u : eUs} {t : List eE} : wB a F u t = wB (fun k => if k < 131 then a k else 0) F u t := rfl
theorem wB_cong {a a' : Nat → Nat} {F : eFs} {u : eUs} {t : List eE} (h : ∀ k, k < 131 → a' k = a k) : wB a F u t = wB a' F u t := by
  rw [wB_cut (a := a), wB_cut (a := a')]
  have e : (fun k => if k < 131 then a k else 0) = (fun k => if k < 131 then a' k else 0) := by
    funext k
    by_cases hk : k < 131
    · rw [if_pos hk, if_pos hk, h k hk]
    · rw [if_neg hk, if_neg hk]
  rw [e]
theorem wB_nil {a : Nat → Nat} {F : eFs} {u : eUs} {t : List eE} : wB a F u t = wB a F u [] ++ t := by rw [← wB_app, List.nil_append]
/-- a builder whose row stands behind it, at place i beside the object -/
def cSb (a : Nat → Nat) (i : Nat) (m : Int) (g : Int → Int) : List eE := [.inr (7, [.ref (a (131 + i + 1)), vi 0, vi 0, vi m]), eI 3 16 g]
def cSt (a : Nat → Nat) (i : Nat) (n : Nat) (g : Int → Int) : List eE := [.inr (8, [.ref (a (131 + i + 1)), vi 0, vi 0, vi 0]), eI 3 n g]
theorem two_sel {A B : List eE} {c0 c1 : eE} {m : Nat} (hm : A.length = m) : [m, m + 1].map (fun i => (A ++ ([c0, c1] ++ B))[i]?) = [c0, c1].map some := by
  subst hm
  have h0 : (A ++ ([c0, c1] ++ B))[A.length]? = some c0 := by rw [List.getElem?_append_right (Nat.le_refl _), Nat.sub_self]; rfl
  have h1 : (A ++ ([c0, c1] ++ B))[A.length + 1]? = some c1 := by rw [List.getElem?_append_right (by omega), show A.length + 1 - A.length = 1 by omega]; rfl
  simp only [List.map_cons, List.map_nil, h0, h1]
theorem two_mrg {A B : List eE} {c0 c1 d0 d1 : eE} {m : Nat} (hm : A.length = m) : eMrg (A ++ ([c0, c1] ++ B)) [m, m + 1] [d0, d1] = A ++ ([d0, d1] ++ B) := by
  subst hm
  show ((A ++ ([c0, c1] ++ B)).set (A.length + 1) d1).set A.length d0 = _
  rw [List.set_append_right _ _ (by omega), List.set_append_right _ _ (by omega), show A.length + 1 - A.length = 1 by omega, Nat.sub_self]
  rfl
theorem two_nd {m : Nat} : va_nd [m, m + 1] = true := by simp [va_nd]
theorem cSb_at {a a1 : Nat → Nat} {F : eFs} {u : eUs} {t0 t1 : List eE} {m : Int} {g : Int → Int} {i : Nat} : (wB a F u t0 ++ (cSb a1 i m g ++ t1))[131 + t0.length]? = some (.inr (7, [.ref (a1 (131 + i + 1)), vi 0, vi 0, vi m])) := by
  rw [List.getElem?_append_right (by rw [wB_len]; omega), wB_len, Nat.sub_self]
  rfl
section EVG
variable {K : eK} {a : Nat → Nat} {b b' : Nat × Nat} {cs cs0 : List eE} {pc n : Nat} {ls : List (Option Value)} {st rest av : List Value} {M1 : mE} {R1 : Room} {v : Value} {F : eFs} {u : eUs} {t t0 t1 : List eE}
/-- a stretch of the world is let go -/
theorem EV.skip {A M B : List eE} (k : EV K (fun k => if k < A.length then a k else a (k + M.length)) b (A ++ B) pc ls st) : EV K a b (A ++ (M ++ B)) pc ls st := by
  intro G A9 p l e s m args below meth c H locs cells slots lsA hX hL hP hD hS hc hs
  have at' : ∀ (i : Nat) (q : Nat × va_E), (eW G (fun k => if k < A.length then a k else a (k + M.length)) (A ++ B))[i]? = some q → ∃ j, (eW G a (A ++ (M ++ B)))[j]? = some q ∧ (j = if i < A.length then i else i + M.length) := by
    intro i q h
    obtain ⟨c1, hc1, rfl⟩ := eW_in h
    by_cases hi : i < A.length
    · refine ⟨i, ?_, (if_pos hi).symm⟩
      rw [List.getElem?_append_left hi] at hc1
      rw [if_pos hi]
      exact eW_at (by rw [List.getElem?_append_left hi]; exact hc1)
    · refine ⟨i + M.length, ?_, (if_neg hi).symm⟩
      rw [List.getElem?_append_right (by omega)] at hc1
      rw [if_neg hi]
      refine eW_at ?_
      rw [List.getElem?_append_right (by omega), List.getElem?_append_right (by omega), show i + M.length - A.length - M.length = i - A.length by omega]
      exact hc1
  refine k G A9 p l e s m args below meth c H locs cells slots lsA hX hL (fun i q h => ?_) ⟨fun i j p q h1 h2 hpq => ?_, fun i q h => ?_⟩ hS hc hs
  · obtain ⟨j, hj, -⟩ := at' i q h
    exact hP j q hj
  · obtain ⟨i', hi', ei⟩ := at' i p h1
    obtain ⟨j', hj', ej⟩ := at' j q h2
    have := hD.1 i' j' p q hi' hj' hpq
    split at ei <;> split at ej <;> omega
  · obtain ⟨j, hj, -⟩ := at' i q h
    exact hD.2 j q hj
/-- new things beside the object -/
theorem e_newL {idx ci N : Nat} {fs : List Value} (w : eNw K.1.1.cls idx ci N fs) (d : decode K.1.2.1 pc = .ok (.new idx, 3)) (hn : pc + 3 = n) (b' : Nat × Nat) (hb : 1 + b'.1 ≤ b.1 ∧ N + b'.2 ≤ b.2)
    (k : ∀ a1 : Nat → Nat, (∀ j, j < 131 + t.length → a1 j = a j) → EV K a1 b' (wB a1 F u t ++ [.inr (ci, fs)]) n ls (.ref (a1 (131 + t.length)) :: st)) : EV K a b (wB a F u t) pc ls st := by
  refine e_newG w d hn b' hb (fun q => ?_)
  have hl := wB_len (a := a) (F := F) (u := u) (t := t)
  have h := k (eAs a (131 + t.length) q) (fun j hj => eAs_lt hj)
  rw [eAs_at, ← wB_cong (a := a) (fun j hj => eAs_lt (by omega))] at h
  rw [hl]
  exact h
theorem e_rowL {N : Nat} {x : Int → Int} (hw : Cond.arrayClass .int ∈ eTB) (d : decode K.1.2.1 pc = .ok (.newarray .int, 2)) (hn : pc + 2 = n) (hN : N ≤ 100) (hx0 : x = fun _ => 0) (b' : Nat × Nat) (hb : 1 + b'.1 ≤ b.1 ∧ N + b'.2 ≤ b.2)
    (k : ∀ a1 : Nat → Nat, (∀ j, j < 131 + t.length → a1 j = a j) → EV K a1 b' (wB a1 F u (t ++ [eI 0 N x])) n ls (.ref (a1 (131 + t.length)) :: st)) : EV K a b (wB a F u t) pc ls (vi (N : Int) :: st) := by
  subst hx0
  refine e_newarrayG (ar := .int) (ty := .int) (t := 0) (N := N) (x := (N, .inl (fun j : Nat => Int32.ofInt ((fun _ => (0 : Int)) (j : Int))))) hw rfl rfl (fun C h => by cases h) (fun cA => eNw_i cA) d hn (by omega) (by show N * 4 ≤ 536870912; omega) b' hb (fun q => ?_)
  have hl := wB_len (a := a) (F := F) (u := u) (t := t)
  have h := k (eAs a (131 + t.length) q) (fun j hj => eAs_lt hj)
  rw [eAs_at, wB_app, ← wB_cong (a := a) (fun j hj => eAs_lt (by omega))] at h
  rw [hl]
  exact h
/-- the builder just made gets its row -/
theorem e_sbIni {idx q : Nat} (hw : eLkI K.1.1.cls idx mJ4_init_da8c8 0) (d : decode K.1.2.1 pc = .ok (.invokespecial idx, 3)) (hn : pc + 3 = n) (hq : q = a (131 + t.length)) (hcat : (rest.map fun v => v.category).sum ≤ 8)
    (hfr : 3 ≤ K.2.1.frames) (hlo : 200 ≤ K.2.1.locals) (b' : Nat × Nat) (hb : 1 + b'.1 ≤ b.1 ∧ 16 + b'.2 ≤ b.2)
    (k : ∀ a1 : Nat → Nat, (∀ j, j < 131 + t.length + 1 → a1 j = a j) → EV K a1 b' (wB a1 F u (t ++ cSb a1 t.length 0 (fun _ => 0))) n ls rest) : EV K a b (wB a F u t ++ [.inr (7, [.null, vi 0, vi 0, vi 0])]) pc ls (.ref q :: rest) := by
  have hl := wB_len (a := a) (F := F) (u := u) (t := t)
  have hl1 : (wB a F u t ++ [.inr (7, [.null, vi 0, vi 0, vi 0])] : List eE).length = 131 + t.length + 1 := by rw [List.length_append, hl]; rfl
  have hsel : [131 + t.length].map (fun i => (wB a F u t ++ [.inr (7, [.null, vi 0, vi 0, vi 0])] : List eE)[i]?) = [.inr (7, [.null, vi 0, vi 0, vi 0])].map some := by
    simp only [List.map_cons, List.map_nil]
    rw [← hl, List.getElem?_append_right (Nat.le_refl _), Nat.sub_self]
    rfl
  subst hq
  refine e_xI (ρ := [131 + t.length]) (av := []) (rest := rest) hw rfl rfl d hn B_init eRd.none rfl rfl hcat hfr (by show 8 + (1 + 11) + 60 * 2 ≤ _; omega) b' hb hsel (by simp [va_nd]) (xNn rfl (fun a1 => Nat.le_of_ble_eq_true rfl)) (xNr rfl (fun a1 a2 h1 h2 h3 => ?_)) (fun E a1 cs1 h => by cases h.1)
  rw [hl1] at h2 h3
  have e1 : a1 1 = a2 (131 + t.length + 1) := (h3 0).symm
  have e2 : eMrg (wB a F u t ++ [.inr (7, [.null, vi 0, vi 0, vi 0])]) [131 + t.length] (wSb a1 0 (fun _ => 0)) ++ (wSb a1 0 (fun _ => 0)).drop 1 = wB a2 F u (t ++ cSb a2 t.length 0 (fun _ => 0)) := by
    show (wB a F u t ++ ([.inr (7, [.null, vi 0, vi 0, vi 0])] : List eE)).set (131 + t.length) (.inr (7, [.ref (a1 1), vi 0, vi 0, vi 0])) ++ [eI 3 16 (fun _ => 0)] = _
    rw [List.set_append_right _ _ (by omega), hl, Nat.sub_self, wB_app, wB_cong (a := a) (a' := a2) (fun j hj => h2 j (by omega)), e1, List.append_assoc]
    rfl
  exact EV.ceq e2 (k a2 h2)
/-- a text is appended -/
theorem e_sbApp {idx q qt v0 m0 : Nat} {f g : Int → Int} {m : Int} (hw : eLkV K.1.1.cls idx mJ4_append_15ec4 1) (d : decode K.1.2.1 pc = .ok (.invokevirtual idx, 3)) (hn : pc + 3 = n) (hq : q = a (131 + t0.length)) (hcat : (rest.map fun v => v.category).sum ≤ 8)
    (hfr : 5 ≤ K.2.1.frames) (hlo : 300 ≤ K.2.1.locals) (hm : 0 ≤ m ∧ m + m0 ≤ 16) (hf : ∀ j : Nat, j < m0 → 0 ≤ f j ∧ f j ≤ 127)
    (hx : eRd K a (wB a F u (t0 ++ (cSb a t0.length m g ++ t1))) [131 + t0.length, 131 + t0.length + 1] (cSb a t0.length m g) (some (.inr (qt, v0, m0, fun j => Int32.ofInt (f (j : Int))))))
    (k : EV K a b (wB a F u (t0 ++ (cSb a t0.length (m + m0) (eCy f g 0 m m0) ++ t1))) n ls (.ref q :: rest)) : EV K a b (wB a F u (t0 ++ (cSb a t0.length m g ++ t1))) pc ls (.ref qt :: .ref q :: rest) := by
  have hl := wB_len (a := a) (F := F) (u := u) (t := t0)
  rw [wB_app] at hx k ⊢
  subst hq
  refine e_xV2 [131 + t0.length, 131 + t0.length + 1] (i := 131 + t0.length) (ci := 7) (r := (RJ4, TJ4, 4)) (av := [.ref qt]) (rest := rest) hw rfl d hn (B_append (a := fun k => a (eR [131 + t0.length, 131 + t0.length + 1] k)) (g := g) (n := m) hm hf) hx rfl rfl hcat hfr (by show 8 + (2 + 11) + 60 * 4 ≤ _; omega) ⟨rfl, rfl⟩ (two_sel hl) two_nd rfl cSb_at rfl rfl rfl (two_mrg hl) k
/-- a digit is appended -/
theorem e_sbInt {idx q : Nat} {g : Int → Int} {m z : Int} (hw : eLkV K.1.1.cls idx mJ4_append_bf812 1) (d : decode K.1.2.1 pc = .ok (.invokevirtual idx, 3)) (hn : pc + 3 = n) (hq : q = a (131 + t0.length)) (hcat : (rest.map fun v => v.category).sum ≤ 8)
    (hfr : 3 ≤ K.2.1.frames) (hlo : 200 ≤ K.2.1.locals) (hm : 0 ≤ m ∧ m + 1 ≤ 16) (hz : 0 ≤ z ∧ z ≤ 9)
    (k : EV K a b (wB a F u (t0 ++ (cSb a t0.length (m + 1) (eU g (m + 1 + -1) (48 + z)) ++ t1))) n ls (.ref q :: rest)) : EV K a b (wB a F u (t0 ++ (cSb a t0.length m g ++ t1))) pc ls (vi z :: .ref q :: rest) := by
  have hl := wB_len (a := a) (F := F) (u := u) (t := t0)
  rw [wB_app] at k ⊢
  subst hq
  refine e_xV2 [131 + t0.length, 131 + t0.length + 1] (i := 131 + t0.length) (ci := 7) (r := (RJ4, TJ4, 4)) (av := [vi z]) (rest := rest) hw rfl d hn (B_appendI (a := fun k => a (eR [131 + t0.length, 131 + t0.length + 1] k)) (g := g) (n := m) hz hm) eRd.none rfl rfl hcat hfr (by show 8 + (2 + 11) + 60 * 2 ≤ _; omega) ⟨rfl, rfl⟩ (two_sel hl) two_nd rfl cSb_at rfl rfl rfl (two_mrg hl) k
/-- the text of a builder -/
theorem e_sbStr {idx q : Nat} {g : Int → Int} {m : Nat} (hw : eLkV K.1.1.cls idx mJ4_toString_0e30d 0) (d : decode K.1.2.1 pc = .ok (.invokevirtual idx, 3)) (hn : pc + 3 = n) (hq : q = a (131 + t0.length)) (hcat : (rest.map fun v => v.category).sum ≤ 8)
    (hfr : 6 ≤ K.2.1.frames) (hlo : 400 ≤ K.2.1.locals) (hm : m ≤ 15) (hg : ∀ j, 0 ≤ g j ∧ g j ≤ 127) (b' : Nat × Nat) (hb : 2 + b'.1 ≤ b.1 ∧ 20 + b'.2 ≤ b.2)
    (k : ∀ a1 : Nat → Nat, (∀ j, j < 131 + t0.length + 2 → a1 j = a j) → EV K a1 b' (wB a1 F u (t0 ++ (cSb a1 t0.length (m : Int) g ++ cSt a1 (t0.length + 2) m g))) n ls (.ref (a1 (131 + t0.length + 2)) :: rest)) : EV K a b (wB a F u (t0 ++ cSb a t0.length (m : Int) g)) pc ls (.ref q :: rest) := by
  have hl := wB_len (a := a) (F := F) (u := u) (t := t0)
  have hl1 : (wB a F u t0 ++ (cSb a t0.length (m : Int) g ++ []) : List eE).length = 131 + t0.length + 2 := by rw [List.length_append, hl]; rfl
  rw [← List.append_nil (cSb a t0.length (m : Int) g), wB_app]
  subst hq
  refine e_xV (ρ := [131 + t0.length, 131 + t0.length + 1]) (i := 131 + t0.length) (ci := 7) (r := (RJ4, TJ4, 4)) (av := []) (rest := rest) hw rfl d hn (B_toString (a := fun k => a (eR [131 + t0.length, 131 + t0.length + 1] k)) (g := g) (n := m) hm hg) eRd.none rfl rfl hcat hfr (by show 8 + (1 + 11) + 60 * 5 ≤ _; omega) b' hb (two_sel hl) two_nd rfl cSb_at rfl rfl (xNn rfl (fun a1 => Nat.le_of_ble_eq_true rfl)) (xNr rfl (fun a1 a2 h1 h2 h3 => ?_)) (fun E a1 cs1 h => by cases h.1)
  · rw [hl1] at h2 h3
    have e1 : a1 1 = a2 (131 + t0.length + 1) := (h1 1 (by decide)).trans (h2 (131 + t0.length + 1) (by omega)).symm
    have e2 : a1 2 = a2 (131 + t0.length + 2) := (h3 0).symm
    have e3 : a1 3 = a2 (131 + (t0.length + 2) + 1) := (h3 1).symm.trans (congrArg a2 (by omega))
    refine EV.eq (st' := .ref (a2 (131 + t0.length + 2)) :: rest) (by rw [← e2]; rfl) (EV.ceq ?_ (k a2 (fun j hj => h2 j hj)))
    have e4 : eMrg (wB a F u t0 ++ (cSb a t0.length (m : Int) g ++ [])) [131 + t0.length, 131 + t0.length + 1] [.inr (7, [.ref (a1 1), vi 0, vi 0, vi (m : Int)]), eI 3 16 g, .inr (8, [.ref (a1 3), vi 0, vi 0, vi 0]), eI 3 m g] = wB a F u t0 ++ ([.inr (7, [.ref (a1 1), vi 0, vi 0, vi (m : Int)]), eI 3 16 g] ++ []) := two_mrg (d0 := .inr (7, [.ref (a1 1), vi 0, vi 0, vi (m : Int)])) (d1 := eI 3 16 g) hl
    show eMrg _ _ [.inr (7, [.ref (a1 1), vi 0, vi 0, vi (m : Int)]), eI 3 16 g, .inr (8, [.ref (a1 3), vi 0, vi 0, vi 0]), eI 3 m g] ++ [.inr (8, [.ref (a1 3), vi 0, vi 0, vi 0]), eI 3 m g] = _
    rw [e4, wB_app, wB_cong (a := a) (a' := a2) (fun j hj => h2 j (by omega)), e1, e3, List.append_assoc]
    rfl
end EVG
/-- the signs of the law's three texts -/
def tcF (i : Nat) : Int → Int := fun j => ((eFb.getD i []).getD j.toNat 0).toInt
theorem tcF_v (i : Nat) : (fun j : Nat => (eFb.getD i []).getD j 0) = (fun j : Nat => Int32.ofInt (tcF i (j : Int))) := by
  funext j
  unfold tcF
  rw [oI_ofI, Int.toNat_natCast]
theorem eRd.text {K : eK} {a : Nat → Nat} {cs cs0 : List eE} {ρ : List Nat} (hsel : ρ.map (fun i => cs[i]?) = cs0.map some) {i : Nat} (hi : i < 3) : eRd K a cs ρ cs0 (some (.inr (K.2.2.2.1 (16 + i), K.2.2.2.1 (19 + i), eFl.getD i 0, fun j => Int32.ofInt (tcF i (j : Int))))) := by
  have h := eRd.const (K := K) (a := a) hsel hi
  rw [tcF_v] at h
  exact h
/-- the text of a row, as far as it is joined -/
def lRow (X : eXT) (a : Nat → Nat) (i : Nat) (t : List eE) (q n : Nat) (g : Int → Int) : Prop := (t = [] ∧ q = X.1 16 ∧ n = 0) ∨ (t = cSt a i n g ∧ q = a (131 + i))
theorem lRow_rd {K : eK} {a : Nat → Nat} {F : eFs} {u : eUs} {t0 tr t1 cs0 : List eE} {q n : Nat} {g : Int → Int} {ρ : List Nat} (h : lRow K.2.2.2 a t0.length tr q n g) (hn : n ≤ 100) (hg : ∀ j, 0 ≤ g j ∧ g j ≤ 127) (hsel : ρ.map (fun i => (wB a F u (t0 ++ (tr ++ t1)))[i]?) = cs0.map some) (hρ : ∀ j ∈ ρ, 131 + t0.length + tr.length ≤ j) :
    ∃ (v0 : Nat) (f : Int → Int), eRd K a (wB a F u (t0 ++ (tr ++ t1))) ρ cs0 (some (.inr (q, v0, n, fun j => Int32.ofInt (f (j : Int))))) ∧ (∀ j, 0 ≤ f j ∧ f j ≤ 127) ∧ ∀ j, 0 ≤ j → j < n → f j = g j := by
  rcases h with ⟨rfl, rfl, rfl⟩ | ⟨rfl, rfl⟩
  · refine ⟨_, tcF 0, eRd.text (i := 0) hsel (by decide), fun j => ?_, fun j _ _ => by omega⟩
    have : tcF 0 j = 0 := by unfold tcF; rw [show eFb.getD 0 [] = [] from rfl]; simp
    omega
  · have hl := wB_len (a := a) (F := F) (u := u) (t := t0)
    rw [wB_app] at hsel ⊢
    have g0 : (wB a F u t0 ++ (cSt a t0.length n g ++ t1))[131 + t0.length]? = some (.inr (8, [.ref (a (131 + t0.length + 1)), vi 0, vi 0, vi 0])) := by rw [List.getElem?_append_right (by omega), hl, Nat.sub_self]; rfl
    have g1 : (wB a F u t0 ++ (cSt a t0.length n g ++ t1))[131 + t0.length + 1]? = some (eI 3 n g) := by rw [List.getElem?_append_right (by omega), hl, show 131 + t0.length + 1 - (131 + t0.length) = 1 by omega]; rfl
    have hlen : (cSt a t0.length n g).length = 2 := rfl
    exact ⟨_, g, eRd.world hsel g0 g1 (fun q => by have := hρ _ q; omega) (fun q => by have := hρ _ q; omega) (by omega), hg, fun j _ _ => rfl⟩
