/-! ===== the law: its body ===== -/
abbrev lR : Room := room_1
def lQ : ePo := fun o _ _ => o = .inl (some (.int 1))
abbrev lK (X : eXT) : eK := (mL_law, lR, lQ, X)
section EVGR
variable {K : eK} {a : Nat → Nat} {b : Nat × Nat} {pc n : Nat} {ls : List (Option Value)} {st : List Value} {F : eFs} {u : eUs} {t : List eE}
theorem wB_set {c d : eE} : (wB a F u (c :: t)).set 131 d = wB a F u (d :: t) := by
  rw [wB_nil (t := c :: t), wB_nil (t := d :: t), List.set_append_right _ _ (by rw [wB_len]; exact Nat.le_refl _), wB_len]
  rfl
theorem wB_at {c : eE} : (wB a F u (c :: t))[131]? = some c := by
  rw [wB_nil (t := c :: t), List.getElem?_append_right (by rw [wB_len]; exact Nat.le_refl _), wB_len]
  rfl
/-- the row of labels -/
theorem e_gld {q m : Nat} {g : Int → Int} {z : Int} (d : decode K.1.2.1 pc = .ok (.iaload, 1)) (hn : pc + 1 = n) (hq : q = a 131) (hz : 0 ≤ z ∧ z < m) (hm : m ≤ 100) (k : EV K a b (wB a F u (eI 0 m g :: t)) n ls (vi (g z) :: st)) : EV K a b (wB a F u (eI 0 m g :: t)) pc ls (vi z :: .ref q :: st) :=
  e_iaload d hn hq wB_at hz (by omega) k
theorem e_gst {q m : Nat} {g : Int → Int} {z v : Int} (d : decode K.1.2.1 pc = .ok (.iastore, 1)) (hn : pc + 1 = n) (hq : q = a 131) (hz : 0 ≤ z ∧ z < m) (hm : m ≤ 100) (k : EV K a b (wB a F u (eI 0 m (eU g z v) :: t)) n ls st) : EV K a b (wB a F u (eI 0 m g :: t)) pc ls (vi v :: vi z :: .ref q :: st) :=
  e_iastore d hn hq wB_at hz (by omega) (EV.ceq wB_set k)
theorem e_gsim {m : Nat} {g h : Int → Int} (e : ∀ z : Int, 0 ≤ z → z < m → g z = h z) (k : EV K a b (wB a F u (eI 0 m h :: t)) pc ls st) : EV K a b (wB a F u (eI 0 m g :: t)) pc ls st :=
  EV.sim (c' := eI 0 m h) wB_at (eI_sim e) (EV.ceq wB_set k)
end EVGR
set_option maxHeartbeats 4000000 in
theorem S_1 {X : eXT} {a : Nat → Nat} {b : Nat × Nat} {N : Int} {F : eFs} {u : eUs} {q0 bb : Nat} {turn : Int} (hF : okF N F) (hn : 1 ≤ F.1 0 ∧ F.1 0 ≤ 9) (h0 : q0 = a 0)
    (hu : okU u) {b1 : Nat × Nat} (hb : 1 + b1.1 ≤ b.1 ∧ 9 + b1.2 ≤ b.2)
    (kk : ∀ (a1 : Nat → Nat) (gq : Nat), (∀ j, j < 131 → a1 j = a j) → gq = a1 131 → ∀ g : Int → Int, (∀ i, 0 ≤ i → i < F.1 0 → g i = i) → EV (lK X) a1 b1 (wB a1 F u [eI 0 (F.1 0).toNat g]) 88 [some (.ref bb), some (.ref q0), some (vi turn), some (vi (F.1 0)), some (vi (F.1 1)), some (vi 0), some (vi 0), some (vi 0), some (vi 0), some (vi 0), some (vi 0), some (vi (F.1 6)), some (vl 0), none, some (.ref gq), some (vi 0), none, none, none, none, none] []) :
    EV (lK X) a b (wB a F u []) 20 [some (.ref bb), some (.ref q0), some (vi turn), none, none, none, none, none, none, none, none, none, none, none, none, none, none, none, none, none, none] [] := by
  have c0 := hF.1
  have c1 := hF.2.1
  have c6 := hF.2.2.2.2.2.1
  refine e_aload_n dL_law_20 rfl rfl ?_
  refine e_obs lk_L_90 rfl dL_law_21 rfl (C_X6_basketCount hF) h0 rfl rfl (Nat.le_of_ble_eq_true rfl) (Nat.le_of_ble_eq_true rfl) (Nat.le_of_ble_eq_true rfl) ⟨rfl, rfl⟩ rfl ?_
  refine f_istore_n dL_law_24 rfl (Nat.le_of_ble_eq_true rfl) rfl ?_
  refine e_aload_n dL_law_25 rfl rfl ?_
  refine e_obs lk_L_123 rfl dL_law_26 rfl (N_X6_leader hF hn.1) h0 rfl rfl (Nat.le_of_ble_eq_true rfl) (Nat.le_of_ble_eq_true rfl) (Nat.le_of_ble_eq_true rfl) ⟨rfl, rfl⟩ rfl ?_
  refine f_istore dL_law_29 rfl (Nat.le_of_ble_eq_true rfl) rfl ?_
  refine e_iconst dL_law_31 rfl ?_
  refine f_istore dL_law_32 rfl (Nat.le_of_ble_eq_true rfl) rfl ?_
  refine EV.leq (ls' := [some (.ref bb), some (.ref q0), some (vi turn), some (vi (F.1 0)), some (vi (F.1 1)), some (vi 0), none, none, none, none, none, none, none, none, none, none, none, none, none, none, none]) rfl ?_
  refine e_iconst dL_law_34 rfl ?_
  refine f_istore dL_law_35 rfl (Nat.le_of_ble_eq_true rfl) rfl ?_
  refine e_iconst dL_law_37 rfl ?_
  refine f_istore dL_law_38 rfl (Nat.le_of_ble_eq_true rfl) rfl ?_
  refine e_iconst dL_law_40 rfl ?_
  refine f_istore dL_law_41 rfl (Nat.le_of_ble_eq_true rfl) rfl ?_
  refine EV.leq (ls' := [some (.ref bb), some (.ref q0), some (vi turn), some (vi (F.1 0)), some (vi (F.1 1)), some (vi 0), some (vi 0), some (vi 0), some (vi 0), none, none, none, none, none, none, none, none, none, none, none, none]) rfl ?_
  refine e_iconst dL_law_43 rfl ?_
  refine f_istore dL_law_44 rfl (Nat.le_of_ble_eq_true rfl) rfl ?_
  refine e_iconst dL_law_46 rfl ?_
  refine f_istore dL_law_47 rfl (Nat.le_of_ble_eq_true rfl) rfl ?_
  refine e_aload_n dL_law_49 rfl rfl ?_
  refine e_obs lk_L_126 rfl dL_law_50 rfl (C_X6_keep hF) h0 rfl rfl (Nat.le_of_ble_eq_true rfl) (Nat.le_of_ble_eq_true rfl) (Nat.le_of_ble_eq_true rfl) ⟨rfl, rfl⟩ rfl ?_
  refine f_istore dL_law_53 rfl (Nat.le_of_ble_eq_true rfl) rfl ?_
  refine EV.leq (ls' := [some (.ref bb), some (.ref q0), some (vi turn), some (vi (F.1 0)), some (vi (F.1 1)), some (vi 0), some (vi 0), some (vi 0), some (vi 0), some (vi 0), some (vi 0), some (vi (F.1 6)), none, none, none, none, none, none, none, none, none]) rfl ?_
  refine e_lconst dL_law_55 rfl ?_
  refine f_lstore dL_law_56 rfl (Nat.le_of_ble_eq_true rfl) rfl ?_
  refine e_iload_n dL_law_58 rfl rfl ?_
  refine EV.eq (st' := [vi ((((F.1 0).toNat : Nat)) : Int)]) (by rw [show ((((F.1 0).toNat : Nat)) : Int) = F.1 0 by omega]) ?_
  refine e_rowL (t := []) wd_1_59 dL_law_59 rfl (by omega) rfl b1 ⟨hb.1, by omega⟩ (fun a1 ha => ?_)
  have h01 : q0 = a1 0 := h0.trans (ha 0 (by decide)).symm
  obtain ⟨gq, hg⟩ : ∃ gq, gq = a1 131 := ⟨_, rfl⟩
  refine EV.eq (st' := [.ref gq]) (by rw [hg]; rfl) ?_
  refine f_astore dL_law_61 rfl (Nat.le_of_ble_eq_true rfl) rfl ?_
  refine EV.leq (ls' := [some (.ref bb), some (.ref q0), some (vi turn), some (vi (F.1 0)), some (vi (F.1 1)), some (vi 0), some (vi 0), some (vi 0), some (vi 0), some (vi 0), some (vi 0), some (vi (F.1 6)), some (vl 0), none, some (.ref gq), none, none, none, none, none, none]) rfl ?_
  refine e_iconst dL_law_63 rfl ?_
  refine f_istore dL_law_64 rfl (Nat.le_of_ble_eq_true rfl) rfl ?_
  have hL66 : ∀ (k66 : Nat) (k : Int) (g : Int → Int) (hk66 : (F.1 0 - k).toNat = k66) (g66 : 0 ≤ k ∧ k ≤ F.1 0) (e66 : ∀ i, 0 ≤ i → i < k → g i = i), EV (lK X) a1 b1 (wB a1 F u [eI 0 (F.1 0).toNat g]) 66 [some (.ref bb), some (.ref q0), some (vi turn), some (vi (F.1 0)), some (vi (F.1 1)), some (vi 0), some (vi 0), some (vi 0), some (vi 0), some (vi 0), some (vi 0), some (vi (F.1 6)), some (vl 0), none, some (.ref gq), some (vi k), none, none, none, none, none] [] := by
    intro k66
    induction k66 using Nat.strongRecOn with
    | _ k66 ih66 =>
    intro k g hk66 g66 e66
    refine e_iload dL_law_66 rfl rfl ?_
    refine e_iload_n dL_law_68 rfl rfl ?_
    refine e_icmp_ge (t := 85) dL_law_69 rfl rfl (by omega) (by omega) (fun h69 => ?_) (fun h69 => ?_)
    · refine e_iconst dL_law_85 rfl ?_
      refine f_istore dL_law_86 rfl (Nat.le_of_ble_eq_true rfl) rfl ?_
      exact kk a1 gq (fun j hj => ha j (by show j < 131; omega)) hg g (fun i i0 i1 => e66 i i0 (by omega))
    · refine e_aload dL_law_72 rfl rfl ?_
      refine e_iload dL_law_74 rfl rfl ?_
      refine e_iload dL_law_76 rfl rfl ?_
      refine e_gst dL_law_78 rfl hg (by omega) (by omega) ?_
      refine f_iinc dL_law_79 rfl rfl (Nat.le_of_ble_eq_true rfl) rfl ?_
      refine e_goto (n := 66) dL_law_82 rfl ?_
      refine EV.fgt 13 ?_
      refine EV.fgt 16 ?_
      refine EV.fgt 17 ?_
      refine EV.fgt 18 ?_
      refine EV.fgt 19 ?_
      refine EV.fgt 20 ?_
      exact ih66 _ (by omega) (k + 1) (eU g k k) rfl (by omega) (fun i i0 i1 => by by_cases q : i = k; rw [q, eU_self]; rw [eU_ne q]; exact e66 i i0 (by omega))
  refine EV.fgt 13 ?_
  refine EV.fgt 16 ?_
  refine EV.fgt 17 ?_
  refine EV.fgt 18 ?_
  refine EV.fgt 19 ?_
  refine EV.fgt 20 ?_
  exact hL66 _ 0 (fun _ => 0) rfl (by omega) (fun i i0 i1 => by omega)
set_option maxHeartbeats 4000000 in
theorem S_2 {X : eXT} {a : Nat → Nat} {b : Nat × Nat} {N : Int} {F : eFs} {u : eUs} {q0 bb : Nat} {turn : Int} (hF : okF N F) (hn : 1 ≤ F.1 0 ∧ F.1 0 ≤ 9) (h0 : q0 = a 0) {gq : Nat} (hg : gq = a 131) {g : Int → Int}
    (hg0 : ∀ i, 0 ≤ i → i < F.1 0 → g i = i)
    (kk : EV (lK X) a b (wB a F u [eI 0 (F.1 0).toNat (sGr F)]) 161 [some (.ref bb), some (.ref q0), some (vi turn), some (vi (F.1 0)), some (vi (F.1 1)), some (vi 0), some (vi 0), some (vi 0), some (vi 0), some (vi 0), some (vi 0), some (vi (F.1 6)), some (vl 0), none, some (.ref gq), none, none, none, none, none, none] []) :
    EV (lK X) a b (wB a F u [eI 0 (F.1 0).toNat g]) 88 [some (.ref bb), some (.ref q0), some (vi turn), some (vi (F.1 0)), some (vi (F.1 1)), some (vi 0), some (vi 0), some (vi 0), some (vi 0), some (vi 0), some (vi 0), some (vi (F.1 6)), some (vl 0), none, some (.ref gq), some (vi 0), none, none, none, none, none] [] := by
  have c0 := hF.1
  have c1 := hF.2.1
  have c6 := hF.2.2.2.2.2.1
  have hL88 : ∀ (k88 : Nat) (r : Int) (g : Int → Int) (hk88 : (F.1 0 - r).toNat = k88) (g88 : 0 ≤ r ∧ r ≤ F.1 0) (i88 : lGI F g) (c88 : r ≤ lCo F g), EV (lK X) a b (wB a F u [eI 0 (F.1 0).toNat g]) 88 [some (.ref bb), some (.ref q0), some (vi turn), some (vi (F.1 0)), some (vi (F.1 1)), some (vi 0), some (vi 0), some (vi 0), some (vi 0), some (vi 0), some (vi 0), some (vi (F.1 6)), some (vl 0), none, some (.ref gq), some (vi r), none, none, none, none, none] [] := by
    intro k88
    induction k88 using Nat.strongRecOn with
    | _ k88 ih88 =>
    intro r g hk88 g88 i88 c88
    refine e_iload dL_law_88 rfl rfl ?_
    refine e_iload_n dL_law_90 rfl rfl ?_
    refine e_icmp_ge (t := 161) dL_law_91 rfl rfl (by omega) (by omega) (fun h91 => ?_) (fun h91 => ?_)
    · refine e_gsim (h := sGr F) (fun z z0 z1 => lCo_all (by omega) z ⟨z0, by omega⟩) ?_
      refine EV.fgt 15 ?_
      exact kk
    · refine e_iconst dL_law_94 rfl ?_
      refine f_istore dL_law_95 rfl (Nat.le_of_ble_eq_true rfl) rfl ?_
      have hL97 : ∀ (k97 : Nat) (k : Int) (g2 : Int → Int) (hk97 : (F.1 0 - k).toNat = k97) (g97 : 0 ≤ k ∧ k ≤ F.1 0) (i97 : lGR F g g2 k 0), EV (lK X) a b (wB a F u [eI 0 (F.1 0).toNat g2]) 97 [some (.ref bb), some (.ref q0), some (vi turn), some (vi (F.1 0)), some (vi (F.1 1)), some (vi 0), some (vi 0), some (vi 0), some (vi 0), some (vi 0), some (vi 0), some (vi (F.1 6)), some (vl 0), none, some (.ref gq), some (vi r), some (vi k), none, none, none, none] [] := by
        intro k97
        induction k97 using Nat.strongRecOn with
        | _ k97 ih97 =>
        intro k g2 hk97 g97 i97
        refine e_iload dL_law_97 rfl rfl ?_
        refine e_iload_n dL_law_99 rfl rfl ?_
        refine e_icmp_ge (t := 155) dL_law_100 rfl rfl (by omega) (by omega) (fun h100 => ?_) (fun h100 => ?_)
        · refine f_iinc dL_law_155 rfl rfl (Nat.le_of_ble_eq_true rfl) rfl ?_
          refine e_goto (n := 88) dL_law_158 rfl ?_
          refine EV.fgt 13 ?_
          refine EV.fgt 16 ?_
          refine EV.fgt 17 ?_
          refine EV.fgt 18 ?_
          refine EV.fgt 19 ?_
          refine EV.fgt 20 ?_
          exact ih88 _ (by omega) (r + 1) g2 rfl (by omega) i97.1 (lGR_end i97 i88 (by omega) (by omega) (by omega) c88)
        · refine e_iconst dL_law_103 rfl ?_
          refine f_istore dL_law_104 rfl (Nat.le_of_ble_eq_true rfl) rfl ?_
          have hL106 : ∀ (k106 : Nat) (j : Int) (g3 : Int → Int) (hk106 : (F.1 0 - j).toNat = k106) (g106 : 0 ≤ j ∧ j ≤ F.1 0) (i106 : lGR F g g3 k j), EV (lK X) a b (wB a F u [eI 0 (F.1 0).toNat g3]) 106 [some (.ref bb), some (.ref q0), some (vi turn), some (vi (F.1 0)), some (vi (F.1 1)), some (vi 0), some (vi 0), some (vi 0), some (vi 0), some (vi 0), some (vi 0), some (vi (F.1 6)), some (vl 0), none, some (.ref gq), some (vi r), some (vi k), some (vi j), none, none, none] [] := by
            intro k106
            induction k106 using Nat.strongRecOn with
            | _ k106 ih106 =>
            intro j g3 hk106 g106 i106
            refine e_iload dL_law_106 rfl rfl ?_
            refine e_iload_n dL_law_108 rfl rfl ?_
            refine e_icmp_ge (t := 149) dL_law_109 rfl rfl (by omega) (by omega) (fun h109 => ?_) (fun h109 => ?_)
            · refine f_iinc dL_law_149 rfl rfl (Nat.le_of_ble_eq_true rfl) rfl ?_
              refine e_goto (n := 97) dL_law_152 rfl ?_
              refine EV.fgt 13 ?_
              refine EV.fgt 17 ?_
              refine EV.fgt 18 ?_
              refine EV.fgt 19 ?_
              refine EV.fgt 20 ?_
              exact ih97 _ (by omega) (k + 1) g3 rfl (by omega) (lGR_row i106 (by omega))
            · have hk9 : sHas F k := ⟨by omega, by omega⟩
              have hj9 : sHas F j := ⟨by omega, by omega⟩
              have wk := i106.1 k hk9
              have wj := i106.1 j hj9
              have dd := sDD_in hF k j
              refine e_aload_n dL_law_112 rfl rfl ?_
              refine e_iload dL_law_113 rfl rfl ?_
              refine e_iload dL_law_115 rfl rfl ?_
              refine e_obs lk_L_129 rfl dL_law_117 rfl (N_X6_distance hF hk9 hj9) h0 rfl rfl (Nat.le_of_ble_eq_true rfl) (Nat.le_of_ble_eq_true rfl) (Nat.le_of_ble_eq_true rfl) ⟨rfl, rfl⟩ rfl ?_
              refine e_iload dL_law_120 rfl rfl ?_
              refine e_icmp_gt (t := 143) dL_law_122 rfl rfl (by omega) (by omega) (fun h122 => ?_) (fun h122 => ?_)
              · have i106n := lGR_no i106 (show ¬ sLk F k j from fun q => by omega)
                refine f_iinc dL_law_143 rfl rfl (Nat.le_of_ble_eq_true rfl) rfl ?_
                refine e_goto (n := 106) dL_law_146 rfl ?_
                refine EV.fgt 13 ?_
                refine EV.fgt 18 ?_
                refine EV.fgt 19 ?_
                refine EV.fgt 20 ?_
                exact ih106 _ (by omega) (j + 1) _ rfl (by omega) i106n
              · have i106n := lGR_yes i106 i88 hk9 hj9 (show sDD F k j ≤ F.1 6 by omega)
                refine e_aload dL_law_125 rfl rfl ?_
                refine e_iload dL_law_127 rfl rfl ?_
                refine e_aload dL_law_129 rfl rfl ?_
                refine e_iload dL_law_131 rfl rfl ?_
                refine e_gld dL_law_133 rfl hg (by omega) (by omega) ?_
                refine e_aload dL_law_134 rfl rfl ?_
                refine e_iload dL_law_136 rfl rfl ?_
                refine e_gld dL_law_138 rfl hg (by omega) (by omega) ?_
                refine e_min ma_L_132 dL_law_139 rfl (Nat.le_of_ble_eq_true rfl) (Nat.le_of_ble_eq_true rfl) (by omega) (by omega) ?_
                refine e_gst dL_law_142 rfl hg (by omega) (by omega) ?_
                refine f_iinc dL_law_143 rfl rfl (Nat.le_of_ble_eq_true rfl) rfl ?_
                refine e_goto (n := 106) dL_law_146 rfl ?_
                refine EV.fgt 13 ?_
                refine EV.fgt 18 ?_
                refine EV.fgt 19 ?_
                refine EV.fgt 20 ?_
                exact ih106 _ (by omega) (j + 1) _ rfl (by omega) i106n
          refine EV.fgt 13 ?_
          refine EV.fgt 18 ?_
          refine EV.fgt 19 ?_
          refine EV.fgt 20 ?_
          exact hL106 _ 0 g2 rfl (by omega) i97
      refine EV.fgt 13 ?_
      refine EV.fgt 17 ?_
      refine EV.fgt 18 ?_
      refine EV.fgt 19 ?_
      refine EV.fgt 20 ?_
      exact hL97 _ 0 g rfl (by omega) (lGR_0 i88)
  refine EV.fgt 13 ?_
  refine EV.fgt 16 ?_
  refine EV.fgt 17 ?_
  refine EV.fgt 18 ?_
  refine EV.fgt 19 ?_
  refine EV.fgt 20 ?_
  exact hL88 _ 0 g rfl (by omega) (lGI_cong (fun i hi => hg0 i hi.1 hi.2) lGI_0) (lCo_0 (by omega))
