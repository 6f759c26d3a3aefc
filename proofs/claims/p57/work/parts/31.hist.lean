/-! ===== History ===== -/
abbrev eHs : Type := Nat → eFs × (Int → Int)
def hAd (a : Nat → Nat) : List Nat := [a 2, a 12, a 22, a 32, a 42, a 52, a 62, a 72]
def wHi (a : Nat → Nat) (c n : Int) (h : eHs) : List eE := [.inr (4, [.ref (a 1), vi c, vi n]), eRf 4 8 (fun j => (hAd a)[j]?)] ++ wFl (fun k => a (2 + k)) (h 0).1 (h 0).2 ++ wFl (fun k => a (12 + k)) (h 1).1 (h 1).2 ++ wFl (fun k => a (22 + k)) (h 2).1 (h 2).2 ++ wFl (fun k => a (32 + k)) (h 3).1 (h 3).2 ++ wFl (fun k => a (42 + k)) (h 4).1 (h 4).2 ++ wFl (fun k => a (52 + k)) (h 5).1 (h 5).2 ++ wFl (fun k => a (62 + k)) (h 6).1 (h 6).2 ++ wFl (fun k => a (72 + k)) (h 7).1 (h 7).2
def hU (h : eHs) (n : Nat) (F : eFs) : eHs := fun j => if j = n then (F, (h n).2) else h j
theorem x8 {c : Int} (h : 0 ≤ c ∧ c ≤ 7) : c = 0 ∨ c = 1 ∨ c = 2 ∨ c = 3 ∨ c = 4 ∨ c = 5 ∨ c = 6 ∨ c = 7 := by omega
theorem eMrg_two {A S B T S' T' : List eE} {ρ : List Nat} (hnd : va_nd ρ = true) (hρ : ρ = List.range' A.length S.length ++ List.range' (A.length + S.length + B.length) T.length) (h1 : S'.length = S.length) (h2 : T'.length = T.length) : eMrg (A ++ (S ++ (B ++ T))) ρ (S' ++ T') = A ++ (S' ++ (B ++ T')) := by
  have hm : ∀ k, k ∈ ρ ↔ (A.length ≤ k ∧ k < A.length + S.length) ∨ (A.length + S.length + B.length ≤ k ∧ k < A.length + S.length + B.length + T.length) := by
    intro k
    rw [hρ, List.mem_append, List.mem_range'_1, List.mem_range'_1]
  have hat1 : ∀ j, j < S.length → ρ[j]? = some (A.length + j) := by
    intro j hj
    rw [hρ, List.getElem?_append_left (by rw [List.length_range']; exact hj), List.getElem?_range' hj]
    simp
  have hat2 : ∀ j, j < T.length → ρ[S.length + j]? = some (A.length + S.length + B.length + j) := by
    intro j hj
    rw [hρ, List.getElem?_append_right (by rw [List.length_range']; omega), List.length_range', show S.length + j - S.length = j by omega, List.getElem?_range' hj]
    simp
  apply List.ext_getElem?
  intro k
  by_cases a : k < A.length
  · rw [eMrg_out _ _ (fun q => by have := (hm k).mp q; omega), List.getElem?_append_left a, List.getElem?_append_left a]
  · by_cases b : k < A.length + S.length
    · have hj : k - A.length < S'.length := by omega
      rw [eMrg_in (c := S'[k - A.length]) ρ (S' ++ T') (k - A.length) hnd (by rw [hat1 _ (by omega)]; congr 1; omega) (by rw [List.getElem?_append_left hj]; exact List.getElem?_eq_getElem hj) (by simp only [List.length_append]; omega)]
      rw [List.getElem?_append_right (by omega), List.getElem?_append_left hj]
      exact (List.getElem?_eq_getElem hj).symm
    · by_cases c : k < A.length + S.length + B.length
      · rw [eMrg_out _ _ (fun q => by have := (hm k).mp q; omega)]
        rw [List.getElem?_append_right (by omega), List.getElem?_append_right (by omega), List.getElem?_append_left (by omega), List.getElem?_append_right (by omega), List.getElem?_append_right (by omega), List.getElem?_append_left (by omega), h1]
      · by_cases d : k < A.length + S.length + B.length + T.length
        · have hj : k - A.length - S.length - B.length < T'.length := by omega
          rw [eMrg_in (c := T'[k - A.length - S.length - B.length]) ρ (S' ++ T') (S.length + (k - A.length - S.length - B.length)) hnd (by rw [hat2 _ (by omega)]; congr 1; omega) (by rw [List.getElem?_append_right (by omega), show S.length + (k - A.length - S.length - B.length) - S'.length = k - A.length - S.length - B.length by omega]; exact List.getElem?_eq_getElem hj) (by simp only [List.length_append]; omega)]
          rw [List.getElem?_append_right (by omega), List.getElem?_append_right (by omega), List.getElem?_append_right (by omega), h1]
          exact (List.getElem?_eq_getElem hj).symm
        · rw [List.getElem?_eq_none (by rw [eMrg_len]; simp only [List.length_append]; omega), List.getElem?_eq_none (by simp only [List.length_append]; omega)]
theorem eMrg_one {A S B S' : List eE} {ρ : List Nat} (hnd : va_nd ρ = true) (hρ : ρ = List.range' A.length S.length) (h1 : S'.length = S.length) : eMrg (A ++ (S ++ B)) ρ S' = A ++ (S' ++ B) := by
  have := eMrg_two (A := A) (S := S) (B := B) (T := []) (S' := S') (T' := []) (ρ := ρ) hnd (by rw [hρ]; simp) h1 rfl
  simpa using this
theorem eMrg_twoE {cs cs1 cs' A S B T S' T' : List eE} {ρ : List Nat} (hcs : cs = A ++ (S ++ (B ++ T))) (hcs1 : cs1 = S' ++ T') (hcs' : A ++ (S' ++ (B ++ T')) = cs') (hnd : va_nd ρ = true) (hρ : ρ = List.range' A.length S.length ++ List.range' (A.length + S.length + B.length) T.length) (h1 : S'.length = S.length) (h2 : T'.length = T.length) : eMrg cs ρ cs1 = cs' := by
  rw [hcs, hcs1, ← hcs']; exact eMrg_two hnd hρ h1 h2
theorem eMrg_oneE {cs cs1 cs' A S B : List eE} {ρ : List Nat} (hcs : cs = A ++ (S ++ B)) (hcs' : A ++ (cs1 ++ B) = cs') (hnd : va_nd ρ = true) (hρ : ρ = List.range' A.length S.length) (h1 : cs1.length = S.length) : eMrg cs ρ cs1 = cs' := by
  rw [hcs, ← hcs']; exact eMrg_one hnd hρ h1
/-- two parts of a world in the other order -/
theorem eMrg_two' {A S B T S' T' : List eE} {ρ : List Nat} (hnd : va_nd ρ = true) (hρ : ρ = List.range' (A.length + S.length + B.length) T.length ++ List.range' A.length S.length) (h1 : S'.length = S.length) (h2 : T'.length = T.length) : eMrg (A ++ (S ++ (B ++ T))) ρ (T' ++ S') = A ++ (S' ++ (B ++ T')) := by
  have hm : ∀ k, k ∈ ρ ↔ (A.length ≤ k ∧ k < A.length + S.length) ∨ (A.length + S.length + B.length ≤ k ∧ k < A.length + S.length + B.length + T.length) := by
    intro k
    rw [hρ, List.mem_append, List.mem_range'_1, List.mem_range'_1]
    exact Or.comm
  have hat1 : ∀ j, j < S.length → ρ[T.length + j]? = some (A.length + j) := by
    intro j hj
    rw [hρ, List.getElem?_append_right (by rw [List.length_range']; omega), List.length_range', show T.length + j - T.length = j by omega, List.getElem?_range' hj]
    simp
  have hat2 : ∀ j, j < T.length → ρ[j]? = some (A.length + S.length + B.length + j) := by
    intro j hj
    rw [hρ, List.getElem?_append_left (by rw [List.length_range']; exact hj), List.getElem?_range' hj]
    simp
  apply List.ext_getElem?
  intro k
  by_cases a : k < A.length
  · rw [eMrg_out _ _ (fun q => by have := (hm k).mp q; omega), List.getElem?_append_left a, List.getElem?_append_left a]
  · by_cases b : k < A.length + S.length
    · have hj : k - A.length < S'.length := by omega
      rw [eMrg_in (c := S'[k - A.length]) ρ (T' ++ S') (T.length + (k - A.length)) hnd (by rw [hat1 _ (by omega)]; congr 1; omega) (by rw [List.getElem?_append_right (by omega), show T.length + (k - A.length) - T'.length = k - A.length by omega]; exact List.getElem?_eq_getElem hj) (by simp only [List.length_append]; omega)]
      rw [List.getElem?_append_right (by omega), List.getElem?_append_left hj]
      exact (List.getElem?_eq_getElem hj).symm
    · by_cases c : k < A.length + S.length + B.length
      · rw [eMrg_out _ _ (fun q => by have := (hm k).mp q; omega)]
        rw [List.getElem?_append_right (by omega), List.getElem?_append_right (by omega), List.getElem?_append_left (by omega), List.getElem?_append_right (by omega), List.getElem?_append_right (by omega), List.getElem?_append_left (by omega), h1]
      · by_cases d : k < A.length + S.length + B.length + T.length
        · have hj : k - A.length - S.length - B.length < T'.length := by omega
          rw [eMrg_in (c := T'[k - A.length - S.length - B.length]) ρ (T' ++ S') (k - A.length - S.length - B.length) hnd (by rw [hat2 _ (by omega)]; congr 1; omega) (by rw [List.getElem?_append_left hj]; exact List.getElem?_eq_getElem hj) (by simp only [List.length_append]; omega)]
          rw [List.getElem?_append_right (by omega), List.getElem?_append_right (by omega), List.getElem?_append_right (by omega), h1]
          exact (List.getElem?_eq_getElem hj).symm
        · rw [List.getElem?_eq_none (by rw [eMrg_len]; simp only [List.length_append]; omega), List.getElem?_eq_none (by simp only [List.length_append]; omega)]
theorem eMrg_twoE' {cs cs1 cs' A S B T S' T' : List eE} {ρ : List Nat} (hcs : cs = A ++ (S ++ (B ++ T))) (hcs1 : cs1 = T' ++ S') (hcs' : A ++ (S' ++ (B ++ T')) = cs') (hnd : va_nd ρ = true) (hρ : ρ = List.range' (A.length + S.length + B.length) T.length ++ List.range' A.length S.length) (h1 : S'.length = S.length) (h2 : T'.length = T.length) : eMrg cs ρ cs1 = cs' := by
  rw [hcs, hcs1, ← hcs']; exact eMrg_two' hnd hρ h1 h2

theorem C_X4_push0 {X : eXT} {a : Nat → Nat} {c : Int} {h : eHs} {F : eFs} {P : Int → Int} (hc : 0 ≤ c ∧ c ≤ 8) :
    EM X mX4_push (eRm 3) a [.ref (a 0), .ref (a 82)] (wHi a (c) (0) (h) ++ wFl (fun k => a (82 + k)) F P) (eRet none a (wHi a (if 8 < c + 1 then 8 else c + 1) (1) (hU h 0 F) ++ wFl (fun k => a (82 + k)) F P)) := by
  refine EM.of (by decide +kernel) rfl (Nat.le_of_ble_eq_true rfl) ?_
  refine e_aload_n dX4_push_0 rfl rfl ?_
  refine e_getfield fd_X4_11 dX4_push_1 rfl rfl rfl rfl ?_
  refine e_aload_n dX4_push_4 rfl rfl ?_
  refine e_getfield fd_X4_21 dX4_push_5 rfl rfl rfl rfl ?_
  refine e_aaload dX4_push_8 rfl rfl rfl (by decide) (by decide) ?_
  refine EV.eq (st' := [.ref (a 2)]) rfl ?_
  refine f_astore_n dX4_push_9 rfl (Nat.le_of_ble_eq_true rfl) rfl ?_
  refine e_aload_n dX4_push_10 rfl rfl ?_
  refine e_ifnull dX4_push_11 rfl ?_
  refine e_aload_n dX4_push_14 rfl rfl ?_
  refine e_aload_n dX4_push_15 rfl rfl ?_
  refine e_cV2 [2, 3, 4, 5, 6, 7, 8, 9, 10, 11, 82, 83, 84, 85, 86, 87, 88, 89, 90, 91] lk_X4_25 rfl dX4_push_16 rfl (C_X2_copyFrom (F2 := F)) rfl rfl (Nat.le_of_ble_eq_true rfl) (Nat.le_of_ble_eq_true rfl) (Nat.le_of_ble_eq_true rfl) ⟨rfl, rfl⟩ rfl rfl rfl rfl rfl rfl (cs' := wHi a (c) (0) (hU h 0 F) ++ wFl (fun k => a (82 + k)) F P) rfl (eMrg_twoE (A := ([.inr (4, [.ref (a 1), vi (c), vi (0)]), eRf 4 8 (fun j => (hAd a)[j]?)])) (S := (wFl (fun k => a (2 + k)) (h 0).1 (h 0).2)) (B := (wFl (fun k => a (12 + k)) (h 1).1 (h 1).2 ++ wFl (fun k => a (22 + k)) (h 2).1 (h 2).2 ++ wFl (fun k => a (32 + k)) (h 3).1 (h 3).2 ++ wFl (fun k => a (42 + k)) (h 4).1 (h 4).2 ++ wFl (fun k => a (52 + k)) (h 5).1 (h 5).2 ++ wFl (fun k => a (62 + k)) (h 6).1 (h 6).2 ++ wFl (fun k => a (72 + k)) (h 7).1 (h 7).2)) (T := (wFl (fun k => a (82 + k)) F P)) (S' := (wFl (fun k => a (2 + k)) F (h 0).2)) (T' := (wFl (fun k => a (82 + k)) F P)) (by simp only [wHi, List.append_assoc, List.nil_append]) rfl (by simp only [wHi, List.append_assoc, List.nil_append] <;> rfl) rfl rfl rfl rfl) ?_
  refine e_aload_n dX4_push_19 rfl rfl ?_
  refine e_aload_n dX4_push_20 rfl rfl ?_
  refine e_getfield fd_X4_21 dX4_push_21 rfl rfl rfl rfl ?_
  refine e_iconst dX4_push_24 rfl ?_
  refine e_iadd dX4_push_25 rfl ?_
  refine e_bipush dX4_push_26 rfl rfl ?_
  refine e_icmp_ge (t := 40) dX4_push_28 rfl rfl (by omega) (by omega) (fun h28 => ?_) (fun h28 => ?_)
  · exfalso; omega
  · refine e_aload_n dX4_push_31 rfl rfl ?_
    refine e_getfield fd_X4_21 dX4_push_32 rfl rfl rfl rfl ?_
    refine e_iconst dX4_push_35 rfl ?_
    refine e_iadd dX4_push_36 rfl ?_
    refine e_goto (n := 41) dX4_push_37 rfl ?_
    refine e_putfield fd_X4_21 dX4_push_41 rfl rfl rfl (Nat.le_of_ble_eq_true rfl) rfl rfl ?_
    refine e_aload_n dX4_push_44 rfl rfl ?_
    refine e_aload_n dX4_push_45 rfl rfl ?_
    refine e_getfield fd_X4_17 dX4_push_46 rfl rfl rfl rfl ?_
    refine e_iconst dX4_push_49 rfl ?_
    refine e_iadd dX4_push_50 rfl ?_
    refine e_bipush dX4_push_51 rfl rfl ?_
    refine e_min ma_X4_29 dX4_push_53 rfl (Nat.le_of_ble_eq_true rfl) (Nat.le_of_ble_eq_true rfl) (by omega) (by omega) ?_
    refine e_putfield fd_X4_17 dX4_push_56 rfl rfl rfl (Nat.le_of_ble_eq_true rfl) rfl rfl ?_
    exact e_vret dX4_push_59 rfl (eRet_v rfl)
theorem C_X4_push1 {X : eXT} {a : Nat → Nat} {c : Int} {h : eHs} {F : eFs} {P : Int → Int} (hc : 0 ≤ c ∧ c ≤ 8) :
    EM X mX4_push (eRm 3) a [.ref (a 0), .ref (a 82)] (wHi a (c) (1) (h) ++ wFl (fun k => a (82 + k)) F P) (eRet none a (wHi a (if 8 < c + 1 then 8 else c + 1) (2) (hU h 1 F) ++ wFl (fun k => a (82 + k)) F P)) := by
  refine EM.of (by decide +kernel) rfl (Nat.le_of_ble_eq_true rfl) ?_
  refine e_aload_n dX4_push_0 rfl rfl ?_
  refine e_getfield fd_X4_11 dX4_push_1 rfl rfl rfl rfl ?_
  refine e_aload_n dX4_push_4 rfl rfl ?_
  refine e_getfield fd_X4_21 dX4_push_5 rfl rfl rfl rfl ?_
  refine e_aaload dX4_push_8 rfl rfl rfl (by decide) (by decide) ?_
  refine EV.eq (st' := [.ref (a 12)]) rfl ?_
  refine f_astore_n dX4_push_9 rfl (Nat.le_of_ble_eq_true rfl) rfl ?_
  refine e_aload_n dX4_push_10 rfl rfl ?_
  refine e_ifnull dX4_push_11 rfl ?_
  refine e_aload_n dX4_push_14 rfl rfl ?_
  refine e_aload_n dX4_push_15 rfl rfl ?_
  refine e_cV2 [12, 13, 14, 15, 16, 17, 18, 19, 20, 21, 82, 83, 84, 85, 86, 87, 88, 89, 90, 91] lk_X4_25 rfl dX4_push_16 rfl (C_X2_copyFrom (F2 := F)) rfl rfl (Nat.le_of_ble_eq_true rfl) (Nat.le_of_ble_eq_true rfl) (Nat.le_of_ble_eq_true rfl) ⟨rfl, rfl⟩ rfl rfl rfl rfl rfl rfl (cs' := wHi a (c) (1) (hU h 1 F) ++ wFl (fun k => a (82 + k)) F P) rfl (eMrg_twoE (A := ([.inr (4, [.ref (a 1), vi (c), vi (1)]), eRf 4 8 (fun j => (hAd a)[j]?)] ++ wFl (fun k => a (2 + k)) (h 0).1 (h 0).2)) (S := (wFl (fun k => a (12 + k)) (h 1).1 (h 1).2)) (B := (wFl (fun k => a (22 + k)) (h 2).1 (h 2).2 ++ wFl (fun k => a (32 + k)) (h 3).1 (h 3).2 ++ wFl (fun k => a (42 + k)) (h 4).1 (h 4).2 ++ wFl (fun k => a (52 + k)) (h 5).1 (h 5).2 ++ wFl (fun k => a (62 + k)) (h 6).1 (h 6).2 ++ wFl (fun k => a (72 + k)) (h 7).1 (h 7).2)) (T := (wFl (fun k => a (82 + k)) F P)) (S' := (wFl (fun k => a (12 + k)) F (h 1).2)) (T' := (wFl (fun k => a (82 + k)) F P)) (by simp only [wHi, List.append_assoc, List.nil_append]) rfl (by simp only [wHi, List.append_assoc, List.nil_append] <;> rfl) rfl rfl rfl rfl) ?_
  refine e_aload_n dX4_push_19 rfl rfl ?_
  refine e_aload_n dX4_push_20 rfl rfl ?_
  refine e_getfield fd_X4_21 dX4_push_21 rfl rfl rfl rfl ?_
  refine e_iconst dX4_push_24 rfl ?_
  refine e_iadd dX4_push_25 rfl ?_
  refine e_bipush dX4_push_26 rfl rfl ?_
  refine e_icmp_ge (t := 40) dX4_push_28 rfl rfl (by omega) (by omega) (fun h28 => ?_) (fun h28 => ?_)
  · exfalso; omega
  · refine e_aload_n dX4_push_31 rfl rfl ?_
    refine e_getfield fd_X4_21 dX4_push_32 rfl rfl rfl rfl ?_
    refine e_iconst dX4_push_35 rfl ?_
    refine e_iadd dX4_push_36 rfl ?_
    refine e_goto (n := 41) dX4_push_37 rfl ?_
    refine e_putfield fd_X4_21 dX4_push_41 rfl rfl rfl (Nat.le_of_ble_eq_true rfl) rfl rfl ?_
    refine e_aload_n dX4_push_44 rfl rfl ?_
    refine e_aload_n dX4_push_45 rfl rfl ?_
    refine e_getfield fd_X4_17 dX4_push_46 rfl rfl rfl rfl ?_
    refine e_iconst dX4_push_49 rfl ?_
    refine e_iadd dX4_push_50 rfl ?_
    refine e_bipush dX4_push_51 rfl rfl ?_
    refine e_min ma_X4_29 dX4_push_53 rfl (Nat.le_of_ble_eq_true rfl) (Nat.le_of_ble_eq_true rfl) (by omega) (by omega) ?_
    refine e_putfield fd_X4_17 dX4_push_56 rfl rfl rfl (Nat.le_of_ble_eq_true rfl) rfl rfl ?_
    exact e_vret dX4_push_59 rfl (eRet_v rfl)
theorem C_X4_push2 {X : eXT} {a : Nat → Nat} {c : Int} {h : eHs} {F : eFs} {P : Int → Int} (hc : 0 ≤ c ∧ c ≤ 8) :
    EM X mX4_push (eRm 3) a [.ref (a 0), .ref (a 82)] (wHi a (c) (2) (h) ++ wFl (fun k => a (82 + k)) F P) (eRet none a (wHi a (if 8 < c + 1 then 8 else c + 1) (3) (hU h 2 F) ++ wFl (fun k => a (82 + k)) F P)) := by
  refine EM.of (by decide +kernel) rfl (Nat.le_of_ble_eq_true rfl) ?_
  refine e_aload_n dX4_push_0 rfl rfl ?_
  refine e_getfield fd_X4_11 dX4_push_1 rfl rfl rfl rfl ?_
  refine e_aload_n dX4_push_4 rfl rfl ?_
  refine e_getfield fd_X4_21 dX4_push_5 rfl rfl rfl rfl ?_
  refine e_aaload dX4_push_8 rfl rfl rfl (by decide) (by decide) ?_
  refine EV.eq (st' := [.ref (a 22)]) rfl ?_
  refine f_astore_n dX4_push_9 rfl (Nat.le_of_ble_eq_true rfl) rfl ?_
  refine e_aload_n dX4_push_10 rfl rfl ?_
  refine e_ifnull dX4_push_11 rfl ?_
  refine e_aload_n dX4_push_14 rfl rfl ?_
  refine e_aload_n dX4_push_15 rfl rfl ?_
  refine e_cV2 [22, 23, 24, 25, 26, 27, 28, 29, 30, 31, 82, 83, 84, 85, 86, 87, 88, 89, 90, 91] lk_X4_25 rfl dX4_push_16 rfl (C_X2_copyFrom (F2 := F)) rfl rfl (Nat.le_of_ble_eq_true rfl) (Nat.le_of_ble_eq_true rfl) (Nat.le_of_ble_eq_true rfl) ⟨rfl, rfl⟩ rfl rfl rfl rfl rfl rfl (cs' := wHi a (c) (2) (hU h 2 F) ++ wFl (fun k => a (82 + k)) F P) rfl (eMrg_twoE (A := ([.inr (4, [.ref (a 1), vi (c), vi (2)]), eRf 4 8 (fun j => (hAd a)[j]?)] ++ wFl (fun k => a (2 + k)) (h 0).1 (h 0).2 ++ wFl (fun k => a (12 + k)) (h 1).1 (h 1).2)) (S := (wFl (fun k => a (22 + k)) (h 2).1 (h 2).2)) (B := (wFl (fun k => a (32 + k)) (h 3).1 (h 3).2 ++ wFl (fun k => a (42 + k)) (h 4).1 (h 4).2 ++ wFl (fun k => a (52 + k)) (h 5).1 (h 5).2 ++ wFl (fun k => a (62 + k)) (h 6).1 (h 6).2 ++ wFl (fun k => a (72 + k)) (h 7).1 (h 7).2)) (T := (wFl (fun k => a (82 + k)) F P)) (S' := (wFl (fun k => a (22 + k)) F (h 2).2)) (T' := (wFl (fun k => a (82 + k)) F P)) (by simp only [wHi, List.append_assoc, List.nil_append]) rfl (by simp only [wHi, List.append_assoc, List.nil_append] <;> rfl) rfl rfl rfl rfl) ?_
  refine e_aload_n dX4_push_19 rfl rfl ?_
  refine e_aload_n dX4_push_20 rfl rfl ?_
  refine e_getfield fd_X4_21 dX4_push_21 rfl rfl rfl rfl ?_
  refine e_iconst dX4_push_24 rfl ?_
  refine e_iadd dX4_push_25 rfl ?_
  refine e_bipush dX4_push_26 rfl rfl ?_
  refine e_icmp_ge (t := 40) dX4_push_28 rfl rfl (by omega) (by omega) (fun h28 => ?_) (fun h28 => ?_)
  · exfalso; omega
  · refine e_aload_n dX4_push_31 rfl rfl ?_
    refine e_getfield fd_X4_21 dX4_push_32 rfl rfl rfl rfl ?_
    refine e_iconst dX4_push_35 rfl ?_
    refine e_iadd dX4_push_36 rfl ?_
    refine e_goto (n := 41) dX4_push_37 rfl ?_
    refine e_putfield fd_X4_21 dX4_push_41 rfl rfl rfl (Nat.le_of_ble_eq_true rfl) rfl rfl ?_
    refine e_aload_n dX4_push_44 rfl rfl ?_
    refine e_aload_n dX4_push_45 rfl rfl ?_
    refine e_getfield fd_X4_17 dX4_push_46 rfl rfl rfl rfl ?_
    refine e_iconst dX4_push_49 rfl ?_
    refine e_iadd dX4_push_50 rfl ?_
    refine e_bipush dX4_push_51 rfl rfl ?_
    refine e_min ma_X4_29 dX4_push_53 rfl (Nat.le_of_ble_eq_true rfl) (Nat.le_of_ble_eq_true rfl) (by omega) (by omega) ?_
    refine e_putfield fd_X4_17 dX4_push_56 rfl rfl rfl (Nat.le_of_ble_eq_true rfl) rfl rfl ?_
    exact e_vret dX4_push_59 rfl (eRet_v rfl)
theorem C_X4_push3 {X : eXT} {a : Nat → Nat} {c : Int} {h : eHs} {F : eFs} {P : Int → Int} (hc : 0 ≤ c ∧ c ≤ 8) :
    EM X mX4_push (eRm 3) a [.ref (a 0), .ref (a 82)] (wHi a (c) (3) (h) ++ wFl (fun k => a (82 + k)) F P) (eRet none a (wHi a (if 8 < c + 1 then 8 else c + 1) (4) (hU h 3 F) ++ wFl (fun k => a (82 + k)) F P)) := by
  refine EM.of (by decide +kernel) rfl (Nat.le_of_ble_eq_true rfl) ?_
  refine e_aload_n dX4_push_0 rfl rfl ?_
  refine e_getfield fd_X4_11 dX4_push_1 rfl rfl rfl rfl ?_
  refine e_aload_n dX4_push_4 rfl rfl ?_
  refine e_getfield fd_X4_21 dX4_push_5 rfl rfl rfl rfl ?_
  refine e_aaload dX4_push_8 rfl rfl rfl (by decide) (by decide) ?_
  refine EV.eq (st' := [.ref (a 32)]) rfl ?_
  refine f_astore_n dX4_push_9 rfl (Nat.le_of_ble_eq_true rfl) rfl ?_
  refine e_aload_n dX4_push_10 rfl rfl ?_
  refine e_ifnull dX4_push_11 rfl ?_
  refine e_aload_n dX4_push_14 rfl rfl ?_
  refine e_aload_n dX4_push_15 rfl rfl ?_
  refine e_cV2 [32, 33, 34, 35, 36, 37, 38, 39, 40, 41, 82, 83, 84, 85, 86, 87, 88, 89, 90, 91] lk_X4_25 rfl dX4_push_16 rfl (C_X2_copyFrom (F2 := F)) rfl rfl (Nat.le_of_ble_eq_true rfl) (Nat.le_of_ble_eq_true rfl) (Nat.le_of_ble_eq_true rfl) ⟨rfl, rfl⟩ rfl rfl rfl rfl rfl rfl (cs' := wHi a (c) (3) (hU h 3 F) ++ wFl (fun k => a (82 + k)) F P) rfl (eMrg_twoE (A := ([.inr (4, [.ref (a 1), vi (c), vi (3)]), eRf 4 8 (fun j => (hAd a)[j]?)] ++ wFl (fun k => a (2 + k)) (h 0).1 (h 0).2 ++ wFl (fun k => a (12 + k)) (h 1).1 (h 1).2 ++ wFl (fun k => a (22 + k)) (h 2).1 (h 2).2)) (S := (wFl (fun k => a (32 + k)) (h 3).1 (h 3).2)) (B := (wFl (fun k => a (42 + k)) (h 4).1 (h 4).2 ++ wFl (fun k => a (52 + k)) (h 5).1 (h 5).2 ++ wFl (fun k => a (62 + k)) (h 6).1 (h 6).2 ++ wFl (fun k => a (72 + k)) (h 7).1 (h 7).2)) (T := (wFl (fun k => a (82 + k)) F P)) (S' := (wFl (fun k => a (32 + k)) F (h 3).2)) (T' := (wFl (fun k => a (82 + k)) F P)) (by simp only [wHi, List.append_assoc, List.nil_append]) rfl (by simp only [wHi, List.append_assoc, List.nil_append] <;> rfl) rfl rfl rfl rfl) ?_
  refine e_aload_n dX4_push_19 rfl rfl ?_
  refine e_aload_n dX4_push_20 rfl rfl ?_
  refine e_getfield fd_X4_21 dX4_push_21 rfl rfl rfl rfl ?_
  refine e_iconst dX4_push_24 rfl ?_
  refine e_iadd dX4_push_25 rfl ?_
  refine e_bipush dX4_push_26 rfl rfl ?_
  refine e_icmp_ge (t := 40) dX4_push_28 rfl rfl (by omega) (by omega) (fun h28 => ?_) (fun h28 => ?_)
  · exfalso; omega
  · refine e_aload_n dX4_push_31 rfl rfl ?_
    refine e_getfield fd_X4_21 dX4_push_32 rfl rfl rfl rfl ?_
    refine e_iconst dX4_push_35 rfl ?_
    refine e_iadd dX4_push_36 rfl ?_
    refine e_goto (n := 41) dX4_push_37 rfl ?_
    refine e_putfield fd_X4_21 dX4_push_41 rfl rfl rfl (Nat.le_of_ble_eq_true rfl) rfl rfl ?_
    refine e_aload_n dX4_push_44 rfl rfl ?_
    refine e_aload_n dX4_push_45 rfl rfl ?_
    refine e_getfield fd_X4_17 dX4_push_46 rfl rfl rfl rfl ?_
    refine e_iconst dX4_push_49 rfl ?_
    refine e_iadd dX4_push_50 rfl ?_
    refine e_bipush dX4_push_51 rfl rfl ?_
    refine e_min ma_X4_29 dX4_push_53 rfl (Nat.le_of_ble_eq_true rfl) (Nat.le_of_ble_eq_true rfl) (by omega) (by omega) ?_
    refine e_putfield fd_X4_17 dX4_push_56 rfl rfl rfl (Nat.le_of_ble_eq_true rfl) rfl rfl ?_
    exact e_vret dX4_push_59 rfl (eRet_v rfl)
theorem C_X4_push4 {X : eXT} {a : Nat → Nat} {c : Int} {h : eHs} {F : eFs} {P : Int → Int} (hc : 0 ≤ c ∧ c ≤ 8) :
    EM X mX4_push (eRm 3) a [.ref (a 0), .ref (a 82)] (wHi a (c) (4) (h) ++ wFl (fun k => a (82 + k)) F P) (eRet none a (wHi a (if 8 < c + 1 then 8 else c + 1) (5) (hU h 4 F) ++ wFl (fun k => a (82 + k)) F P)) := by
  refine EM.of (by decide +kernel) rfl (Nat.le_of_ble_eq_true rfl) ?_
  refine e_aload_n dX4_push_0 rfl rfl ?_
  refine e_getfield fd_X4_11 dX4_push_1 rfl rfl rfl rfl ?_
  refine e_aload_n dX4_push_4 rfl rfl ?_
  refine e_getfield fd_X4_21 dX4_push_5 rfl rfl rfl rfl ?_
  refine e_aaload dX4_push_8 rfl rfl rfl (by decide) (by decide) ?_
  refine EV.eq (st' := [.ref (a 42)]) rfl ?_
  refine f_astore_n dX4_push_9 rfl (Nat.le_of_ble_eq_true rfl) rfl ?_
  refine e_aload_n dX4_push_10 rfl rfl ?_
  refine e_ifnull dX4_push_11 rfl ?_
  refine e_aload_n dX4_push_14 rfl rfl ?_
  refine e_aload_n dX4_push_15 rfl rfl ?_
  refine e_cV2 [42, 43, 44, 45, 46, 47, 48, 49, 50, 51, 82, 83, 84, 85, 86, 87, 88, 89, 90, 91] lk_X4_25 rfl dX4_push_16 rfl (C_X2_copyFrom (F2 := F)) rfl rfl (Nat.le_of_ble_eq_true rfl) (Nat.le_of_ble_eq_true rfl) (Nat.le_of_ble_eq_true rfl) ⟨rfl, rfl⟩ rfl rfl rfl rfl rfl rfl (cs' := wHi a (c) (4) (hU h 4 F) ++ wFl (fun k => a (82 + k)) F P) rfl (eMrg_twoE (A := ([.inr (4, [.ref (a 1), vi (c), vi (4)]), eRf 4 8 (fun j => (hAd a)[j]?)] ++ wFl (fun k => a (2 + k)) (h 0).1 (h 0).2 ++ wFl (fun k => a (12 + k)) (h 1).1 (h 1).2 ++ wFl (fun k => a (22 + k)) (h 2).1 (h 2).2 ++ wFl (fun k => a (32 + k)) (h 3).1 (h 3).2)) (S := (wFl (fun k => a (42 + k)) (h 4).1 (h 4).2)) (B := (wFl (fun k => a (52 + k)) (h 5).1 (h 5).2 ++ wFl (fun k => a (62 + k)) (h 6).1 (h 6).2 ++ wFl (fun k => a (72 + k)) (h 7).1 (h 7).2)) (T := (wFl (fun k => a (82 + k)) F P)) (S' := (wFl (fun k => a (42 + k)) F (h 4).2)) (T' := (wFl (fun k => a (82 + k)) F P)) (by simp only [wHi, List.append_assoc, List.nil_append]) rfl (by simp only [wHi, List.append_assoc, List.nil_append] <;> rfl) rfl rfl rfl rfl) ?_
  refine e_aload_n dX4_push_19 rfl rfl ?_
  refine e_aload_n dX4_push_20 rfl rfl ?_
  refine e_getfield fd_X4_21 dX4_push_21 rfl rfl rfl rfl ?_
  refine e_iconst dX4_push_24 rfl ?_
  refine e_iadd dX4_push_25 rfl ?_
  refine e_bipush dX4_push_26 rfl rfl ?_
  refine e_icmp_ge (t := 40) dX4_push_28 rfl rfl (by omega) (by omega) (fun h28 => ?_) (fun h28 => ?_)
  · exfalso; omega
  · refine e_aload_n dX4_push_31 rfl rfl ?_
    refine e_getfield fd_X4_21 dX4_push_32 rfl rfl rfl rfl ?_
    refine e_iconst dX4_push_35 rfl ?_
    refine e_iadd dX4_push_36 rfl ?_
    refine e_goto (n := 41) dX4_push_37 rfl ?_
    refine e_putfield fd_X4_21 dX4_push_41 rfl rfl rfl (Nat.le_of_ble_eq_true rfl) rfl rfl ?_
    refine e_aload_n dX4_push_44 rfl rfl ?_
    refine e_aload_n dX4_push_45 rfl rfl ?_
    refine e_getfield fd_X4_17 dX4_push_46 rfl rfl rfl rfl ?_
    refine e_iconst dX4_push_49 rfl ?_
    refine e_iadd dX4_push_50 rfl ?_
    refine e_bipush dX4_push_51 rfl rfl ?_
    refine e_min ma_X4_29 dX4_push_53 rfl (Nat.le_of_ble_eq_true rfl) (Nat.le_of_ble_eq_true rfl) (by omega) (by omega) ?_
    refine e_putfield fd_X4_17 dX4_push_56 rfl rfl rfl (Nat.le_of_ble_eq_true rfl) rfl rfl ?_
    exact e_vret dX4_push_59 rfl (eRet_v rfl)
theorem C_X4_push5 {X : eXT} {a : Nat → Nat} {c : Int} {h : eHs} {F : eFs} {P : Int → Int} (hc : 0 ≤ c ∧ c ≤ 8) :
    EM X mX4_push (eRm 3) a [.ref (a 0), .ref (a 82)] (wHi a (c) (5) (h) ++ wFl (fun k => a (82 + k)) F P) (eRet none a (wHi a (if 8 < c + 1 then 8 else c + 1) (6) (hU h 5 F) ++ wFl (fun k => a (82 + k)) F P)) := by
  refine EM.of (by decide +kernel) rfl (Nat.le_of_ble_eq_true rfl) ?_
  refine e_aload_n dX4_push_0 rfl rfl ?_
  refine e_getfield fd_X4_11 dX4_push_1 rfl rfl rfl rfl ?_
  refine e_aload_n dX4_push_4 rfl rfl ?_
  refine e_getfield fd_X4_21 dX4_push_5 rfl rfl rfl rfl ?_
  refine e_aaload dX4_push_8 rfl rfl rfl (by decide) (by decide) ?_
  refine EV.eq (st' := [.ref (a 52)]) rfl ?_
  refine f_astore_n dX4_push_9 rfl (Nat.le_of_ble_eq_true rfl) rfl ?_
  refine e_aload_n dX4_push_10 rfl rfl ?_
  refine e_ifnull dX4_push_11 rfl ?_
  refine e_aload_n dX4_push_14 rfl rfl ?_
  refine e_aload_n dX4_push_15 rfl rfl ?_
  refine e_cV2 [52, 53, 54, 55, 56, 57, 58, 59, 60, 61, 82, 83, 84, 85, 86, 87, 88, 89, 90, 91] lk_X4_25 rfl dX4_push_16 rfl (C_X2_copyFrom (F2 := F)) rfl rfl (Nat.le_of_ble_eq_true rfl) (Nat.le_of_ble_eq_true rfl) (Nat.le_of_ble_eq_true rfl) ⟨rfl, rfl⟩ rfl rfl rfl rfl rfl rfl (cs' := wHi a (c) (5) (hU h 5 F) ++ wFl (fun k => a (82 + k)) F P) rfl (eMrg_twoE (A := ([.inr (4, [.ref (a 1), vi (c), vi (5)]), eRf 4 8 (fun j => (hAd a)[j]?)] ++ wFl (fun k => a (2 + k)) (h 0).1 (h 0).2 ++ wFl (fun k => a (12 + k)) (h 1).1 (h 1).2 ++ wFl (fun k => a (22 + k)) (h 2).1 (h 2).2 ++ wFl (fun k => a (32 + k)) (h 3).1 (h 3).2 ++ wFl (fun k => a (42 + k)) (h 4).1 (h 4).2)) (S := (wFl (fun k => a (52 + k)) (h 5).1 (h 5).2)) (B := (wFl (fun k => a (62 + k)) (h 6).1 (h 6).2 ++ wFl (fun k => a (72 + k)) (h 7).1 (h 7).2)) (T := (wFl (fun k => a (82 + k)) F P)) (S' := (wFl (fun k => a (52 + k)) F (h 5).2)) (T' := (wFl (fun k => a (82 + k)) F P)) (by simp only [wHi, List.append_assoc, List.nil_append]) rfl (by simp only [wHi, List.append_assoc, List.nil_append] <;> rfl) rfl rfl rfl rfl) ?_
  refine e_aload_n dX4_push_19 rfl rfl ?_
  refine e_aload_n dX4_push_20 rfl rfl ?_
  refine e_getfield fd_X4_21 dX4_push_21 rfl rfl rfl rfl ?_
  refine e_iconst dX4_push_24 rfl ?_
  refine e_iadd dX4_push_25 rfl ?_
  refine e_bipush dX4_push_26 rfl rfl ?_
  refine e_icmp_ge (t := 40) dX4_push_28 rfl rfl (by omega) (by omega) (fun h28 => ?_) (fun h28 => ?_)
  · exfalso; omega
  · refine e_aload_n dX4_push_31 rfl rfl ?_
    refine e_getfield fd_X4_21 dX4_push_32 rfl rfl rfl rfl ?_
    refine e_iconst dX4_push_35 rfl ?_
    refine e_iadd dX4_push_36 rfl ?_
    refine e_goto (n := 41) dX4_push_37 rfl ?_
    refine e_putfield fd_X4_21 dX4_push_41 rfl rfl rfl (Nat.le_of_ble_eq_true rfl) rfl rfl ?_
    refine e_aload_n dX4_push_44 rfl rfl ?_
    refine e_aload_n dX4_push_45 rfl rfl ?_
    refine e_getfield fd_X4_17 dX4_push_46 rfl rfl rfl rfl ?_
    refine e_iconst dX4_push_49 rfl ?_
    refine e_iadd dX4_push_50 rfl ?_
    refine e_bipush dX4_push_51 rfl rfl ?_
    refine e_min ma_X4_29 dX4_push_53 rfl (Nat.le_of_ble_eq_true rfl) (Nat.le_of_ble_eq_true rfl) (by omega) (by omega) ?_
    refine e_putfield fd_X4_17 dX4_push_56 rfl rfl rfl (Nat.le_of_ble_eq_true rfl) rfl rfl ?_
    exact e_vret dX4_push_59 rfl (eRet_v rfl)
theorem C_X4_push6 {X : eXT} {a : Nat → Nat} {c : Int} {h : eHs} {F : eFs} {P : Int → Int} (hc : 0 ≤ c ∧ c ≤ 8) :
    EM X mX4_push (eRm 3) a [.ref (a 0), .ref (a 82)] (wHi a (c) (6) (h) ++ wFl (fun k => a (82 + k)) F P) (eRet none a (wHi a (if 8 < c + 1 then 8 else c + 1) (7) (hU h 6 F) ++ wFl (fun k => a (82 + k)) F P)) := by
  refine EM.of (by decide +kernel) rfl (Nat.le_of_ble_eq_true rfl) ?_
  refine e_aload_n dX4_push_0 rfl rfl ?_
  refine e_getfield fd_X4_11 dX4_push_1 rfl rfl rfl rfl ?_
  refine e_aload_n dX4_push_4 rfl rfl ?_
  refine e_getfield fd_X4_21 dX4_push_5 rfl rfl rfl rfl ?_
  refine e_aaload dX4_push_8 rfl rfl rfl (by decide) (by decide) ?_
  refine EV.eq (st' := [.ref (a 62)]) rfl ?_
  refine f_astore_n dX4_push_9 rfl (Nat.le_of_ble_eq_true rfl) rfl ?_
  refine e_aload_n dX4_push_10 rfl rfl ?_
  refine e_ifnull dX4_push_11 rfl ?_
  refine e_aload_n dX4_push_14 rfl rfl ?_
  refine e_aload_n dX4_push_15 rfl rfl ?_
  refine e_cV2 [62, 63, 64, 65, 66, 67, 68, 69, 70, 71, 82, 83, 84, 85, 86, 87, 88, 89, 90, 91] lk_X4_25 rfl dX4_push_16 rfl (C_X2_copyFrom (F2 := F)) rfl rfl (Nat.le_of_ble_eq_true rfl) (Nat.le_of_ble_eq_true rfl) (Nat.le_of_ble_eq_true rfl) ⟨rfl, rfl⟩ rfl rfl rfl rfl rfl rfl (cs' := wHi a (c) (6) (hU h 6 F) ++ wFl (fun k => a (82 + k)) F P) rfl (eMrg_twoE (A := ([.inr (4, [.ref (a 1), vi (c), vi (6)]), eRf 4 8 (fun j => (hAd a)[j]?)] ++ wFl (fun k => a (2 + k)) (h 0).1 (h 0).2 ++ wFl (fun k => a (12 + k)) (h 1).1 (h 1).2 ++ wFl (fun k => a (22 + k)) (h 2).1 (h 2).2 ++ wFl (fun k => a (32 + k)) (h 3).1 (h 3).2 ++ wFl (fun k => a (42 + k)) (h 4).1 (h 4).2 ++ wFl (fun k => a (52 + k)) (h 5).1 (h 5).2)) (S := (wFl (fun k => a (62 + k)) (h 6).1 (h 6).2)) (B := (wFl (fun k => a (72 + k)) (h 7).1 (h 7).2)) (T := (wFl (fun k => a (82 + k)) F P)) (S' := (wFl (fun k => a (62 + k)) F (h 6).2)) (T' := (wFl (fun k => a (82 + k)) F P)) (by simp only [wHi, List.append_assoc, List.nil_append]) rfl (by simp only [wHi, List.append_assoc, List.nil_append] <;> rfl) rfl rfl rfl rfl) ?_
  refine e_aload_n dX4_push_19 rfl rfl ?_
  refine e_aload_n dX4_push_20 rfl rfl ?_
  refine e_getfield fd_X4_21 dX4_push_21 rfl rfl rfl rfl ?_
  refine e_iconst dX4_push_24 rfl ?_
  refine e_iadd dX4_push_25 rfl ?_
  refine e_bipush dX4_push_26 rfl rfl ?_
  refine e_icmp_ge (t := 40) dX4_push_28 rfl rfl (by omega) (by omega) (fun h28 => ?_) (fun h28 => ?_)
  · exfalso; omega
  · refine e_aload_n dX4_push_31 rfl rfl ?_
    refine e_getfield fd_X4_21 dX4_push_32 rfl rfl rfl rfl ?_
    refine e_iconst dX4_push_35 rfl ?_
    refine e_iadd dX4_push_36 rfl ?_
    refine e_goto (n := 41) dX4_push_37 rfl ?_
    refine e_putfield fd_X4_21 dX4_push_41 rfl rfl rfl (Nat.le_of_ble_eq_true rfl) rfl rfl ?_
    refine e_aload_n dX4_push_44 rfl rfl ?_
    refine e_aload_n dX4_push_45 rfl rfl ?_
    refine e_getfield fd_X4_17 dX4_push_46 rfl rfl rfl rfl ?_
    refine e_iconst dX4_push_49 rfl ?_
    refine e_iadd dX4_push_50 rfl ?_
    refine e_bipush dX4_push_51 rfl rfl ?_
    refine e_min ma_X4_29 dX4_push_53 rfl (Nat.le_of_ble_eq_true rfl) (Nat.le_of_ble_eq_true rfl) (by omega) (by omega) ?_
    refine e_putfield fd_X4_17 dX4_push_56 rfl rfl rfl (Nat.le_of_ble_eq_true rfl) rfl rfl ?_
    exact e_vret dX4_push_59 rfl (eRet_v rfl)
theorem C_X4_push7 {X : eXT} {a : Nat → Nat} {c : Int} {h : eHs} {F : eFs} {P : Int → Int} (hc : 0 ≤ c ∧ c ≤ 8) :
    EM X mX4_push (eRm 3) a [.ref (a 0), .ref (a 82)] (wHi a (c) (7) (h) ++ wFl (fun k => a (82 + k)) F P) (eRet none a (wHi a (if 8 < c + 1 then 8 else c + 1) (0) (hU h 7 F) ++ wFl (fun k => a (82 + k)) F P)) := by
  refine EM.of (by decide +kernel) rfl (Nat.le_of_ble_eq_true rfl) ?_
  refine e_aload_n dX4_push_0 rfl rfl ?_
  refine e_getfield fd_X4_11 dX4_push_1 rfl rfl rfl rfl ?_
  refine e_aload_n dX4_push_4 rfl rfl ?_
  refine e_getfield fd_X4_21 dX4_push_5 rfl rfl rfl rfl ?_
  refine e_aaload dX4_push_8 rfl rfl rfl (by decide) (by decide) ?_
  refine EV.eq (st' := [.ref (a 72)]) rfl ?_
  refine f_astore_n dX4_push_9 rfl (Nat.le_of_ble_eq_true rfl) rfl ?_
  refine e_aload_n dX4_push_10 rfl rfl ?_
  refine e_ifnull dX4_push_11 rfl ?_
  refine e_aload_n dX4_push_14 rfl rfl ?_
  refine e_aload_n dX4_push_15 rfl rfl ?_
  refine e_cV2 [72, 73, 74, 75, 76, 77, 78, 79, 80, 81, 82, 83, 84, 85, 86, 87, 88, 89, 90, 91] lk_X4_25 rfl dX4_push_16 rfl (C_X2_copyFrom (F2 := F)) rfl rfl (Nat.le_of_ble_eq_true rfl) (Nat.le_of_ble_eq_true rfl) (Nat.le_of_ble_eq_true rfl) ⟨rfl, rfl⟩ rfl rfl rfl rfl rfl rfl (cs' := wHi a (c) (7) (hU h 7 F) ++ wFl (fun k => a (82 + k)) F P) rfl (eMrg_twoE (A := ([.inr (4, [.ref (a 1), vi (c), vi (7)]), eRf 4 8 (fun j => (hAd a)[j]?)] ++ wFl (fun k => a (2 + k)) (h 0).1 (h 0).2 ++ wFl (fun k => a (12 + k)) (h 1).1 (h 1).2 ++ wFl (fun k => a (22 + k)) (h 2).1 (h 2).2 ++ wFl (fun k => a (32 + k)) (h 3).1 (h 3).2 ++ wFl (fun k => a (42 + k)) (h 4).1 (h 4).2 ++ wFl (fun k => a (52 + k)) (h 5).1 (h 5).2 ++ wFl (fun k => a (62 + k)) (h 6).1 (h 6).2)) (S := (wFl (fun k => a (72 + k)) (h 7).1 (h 7).2)) (B := ([])) (T := (wFl (fun k => a (82 + k)) F P)) (S' := (wFl (fun k => a (72 + k)) F (h 7).2)) (T' := (wFl (fun k => a (82 + k)) F P)) (by simp only [wHi, List.append_assoc, List.nil_append]) rfl (by simp only [wHi, List.append_assoc, List.nil_append] <;> rfl) rfl rfl rfl rfl) ?_
  refine e_aload_n dX4_push_19 rfl rfl ?_
  refine e_aload_n dX4_push_20 rfl rfl ?_
  refine e_getfield fd_X4_21 dX4_push_21 rfl rfl rfl rfl ?_
  refine e_iconst dX4_push_24 rfl ?_
  refine e_iadd dX4_push_25 rfl ?_
  refine e_bipush dX4_push_26 rfl rfl ?_
  refine e_icmp_ge (t := 40) dX4_push_28 rfl rfl (by omega) (by omega) (fun h28 => ?_) (fun h28 => ?_)
  · refine e_iconst dX4_push_40 rfl ?_
    refine e_putfield fd_X4_21 dX4_push_41 rfl rfl rfl (Nat.le_of_ble_eq_true rfl) rfl rfl ?_
    refine e_aload_n dX4_push_44 rfl rfl ?_
    refine e_aload_n dX4_push_45 rfl rfl ?_
    refine e_getfield fd_X4_17 dX4_push_46 rfl rfl rfl rfl ?_
    refine e_iconst dX4_push_49 rfl ?_
    refine e_iadd dX4_push_50 rfl ?_
    refine e_bipush dX4_push_51 rfl rfl ?_
    refine e_min ma_X4_29 dX4_push_53 rfl (Nat.le_of_ble_eq_true rfl) (Nat.le_of_ble_eq_true rfl) (by omega) (by omega) ?_
    refine e_putfield fd_X4_17 dX4_push_56 rfl rfl rfl (Nat.le_of_ble_eq_true rfl) rfl rfl ?_
    exact e_vret dX4_push_59 rfl (eRet_v rfl)
  · exfalso; omega
theorem C_X4_push {X : eXT} {a : Nat → Nat} {c n : Int} {h : eHs} {F : eFs} {P : Int → Int} (hc : 0 ≤ c ∧ c ≤ 8) (hn : 0 ≤ n ∧ n ≤ 7) : EM X mX4_push (eRm 3) a [.ref (a 0), .ref (a 82)] (wHi a (c) (n) (h) ++ wFl (fun k => a (82 + k)) F P) (eRet none a (wHi a (if 8 < c + 1 then 8 else c + 1) (if n + 1 < 8 then n + 1 else 0) (hU h n.toNat F) ++ wFl (fun k => a (82 + k)) F P)) := by
  rcases x8 hn with q | q | q | q | q | q | q | q <;> subst q
  · exact C_X4_push0 hc
  · exact C_X4_push1 hc
  · exact C_X4_push2 hc
  · exact C_X4_push3 hc
  · exact C_X4_push4 hc
  · exact C_X4_push5 hc
  · exact C_X4_push6 hc
  · exact C_X4_push7 hc
