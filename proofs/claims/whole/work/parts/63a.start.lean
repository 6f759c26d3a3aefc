/-! ===== the start: what the Statement gives of it ===== -/
theorem tq_1 {w : Cond} (h : w ∈ tables_1_1) : w ∈ lw_tbl := List.mem_append_right _ (List.mem_append_left _ h)
theorem tq_2 {w : Cond} (h : w ∈ tables_1_2) : w ∈ lw_tbl := List.mem_append_right _ (List.mem_append_right _ (List.mem_append_left _ h))
theorem tq_3 {w : Cond} (h : w ∈ tables_1_3) : w ∈ lw_tbl := List.mem_append_right _ (List.mem_append_right _ (List.mem_append_right _ (List.mem_append_left _ h)))
theorem tq_4 {w : Cond} (h : w ∈ tables_1_4) : w ∈ lw_tbl := List.mem_append_right _ (List.mem_append_right _ (List.mem_append_right _ (List.mem_append_right _ (List.mem_append_left _ h))))
theorem tq_5 {w : Cond} (h : w ∈ tables_1_5) : w ∈ lw_tbl := List.mem_append_right _ (List.mem_append_right _ (List.mem_append_right _ (List.mem_append_right _ (List.mem_append_right _ (List.mem_append_left _ h)))))
theorem tq_6 {w : Cond} (h : w ∈ tables_1_6) : w ∈ lw_tbl := List.mem_append_right _ (List.mem_append_right _ (List.mem_append_right _ (List.mem_append_right _ (List.mem_append_right _ (List.mem_append_right _ (List.mem_append_left _ h))))))
theorem tq_7 {w : Cond} (h : w ∈ tables_1_7) : w ∈ lw_tbl := List.mem_append_right _ (List.mem_append_right _ (List.mem_append_right _ (List.mem_append_right _ (List.mem_append_right _ (List.mem_append_right _ (List.mem_append_right _ (List.mem_append_left _ h)))))))
theorem tq_8 {w : Cond} (h : w ∈ tables_1_8) : w ∈ lw_tbl := List.mem_append_right _ (List.mem_append_right _ (List.mem_append_right _ (List.mem_append_right _ (List.mem_append_right _ (List.mem_append_right _ (List.mem_append_right _ (List.mem_append_right _ (h))))))))
abbrev nwT : Cond := Jvm.Cond.and given_1 narrow_1
abbrev nwA (s : State) : Nat → Prop := fun q => s.heap.size ≤ q
theorem nw_at {args : Array Value} {s : State} (hg : nwT.before args s = true) (i : Nat) {w : Cond} (h : (flatC nwT)[i]? = some w) : w.before args s = true := flat_of_before _ hg w (List.mem_of_getElem? h)
theorem st_cs {args : Array Value} {s : State} (hts : ∀ w ∈ lw_tbl, w.before args s = true) : ∀ q ∈ eCs, eCa q.1 q.2 s := List.forall_mem_cons.mpr ⟨eCa.of (hts _ (tq_3 (List.mem_of_getElem? (i := 15) rfl))), List.forall_mem_cons.mpr ⟨eCa.of (hts _ (tq_3 (List.mem_of_getElem? (i := 87) rfl))), List.forall_mem_cons.mpr ⟨eCa.of (hts _ (tq_3 (List.mem_of_getElem? (i := 103) rfl))), List.forall_mem_cons.mpr ⟨eCa.of (hts _ (tq_3 (List.mem_of_getElem? (i := 119) rfl))), List.forall_mem_cons.mpr ⟨eCa.of (hts _ (tq_3 (List.mem_of_getElem? (i := 135) rfl))), List.forall_mem_cons.mpr ⟨eCa.of (hts _ (tq_3 (List.mem_of_getElem? (i := 177) rfl))), List.forall_mem_cons.mpr ⟨eCa.of (hts _ (tq_5 (List.mem_of_getElem? (i := 223) rfl))), List.forall_mem_cons.mpr ⟨eCa.of (hts _ (tq_8 (List.mem_of_getElem? (i := 42) rfl))), List.forall_mem_cons.mpr ⟨eCa.of (hts _ (tq_8 (List.mem_of_getElem? (i := 43) rfl))), List.forall_mem_cons.mpr ⟨eCa.of (hts _ (tq_8 (List.mem_of_getElem? (i := 44) rfl))), List.forall_mem_cons.mpr ⟨eCa.of (hts _ (tq_8 (List.mem_of_getElem? (i := 45) rfl))), List.forall_mem_cons.mpr ⟨eCa.of (hts _ (tq_8 (List.mem_of_getElem? (i := 46) rfl))), List.forall_mem_cons.mpr ⟨eCa.of (hts _ (tq_8 (List.mem_of_getElem? (i := 47) rfl))), List.forall_mem_cons.mpr ⟨eCa.of (hts _ (tq_8 (List.mem_of_getElem? (i := 48) rfl))), List.forall_mem_cons.mpr ⟨eCa.of (hts _ (tq_8 (List.mem_of_getElem? (i := 49) rfl))), List.forall_mem_cons.mpr ⟨eCa.of (hts _ (tq_8 (List.mem_of_getElem? (i := 50) rfl))), List.forall_mem_cons.mpr ⟨eCa.of (hts _ (tq_8 (List.mem_of_getElem? (i := 51) rfl))), List.forall_mem_cons.mpr ⟨eCa.of (hts _ (tq_8 (List.mem_of_getElem? (i := 52) rfl))), List.forall_mem_cons.mpr ⟨eCa.of (hts _ (tq_8 (List.mem_of_getElem? (i := 53) rfl))), List.forall_mem_cons.mpr ⟨eCa.of (hts _ (tq_8 (List.mem_of_getElem? (i := 54) rfl))), List.forall_mem_cons.mpr ⟨eCa.of (hts _ (tq_8 (List.mem_of_getElem? (i := 55) rfl))), List.forall_mem_cons.mpr ⟨eCa.of (hts _ (tq_8 (List.mem_of_getElem? (i := 56) rfl))), List.forall_mem_cons.mpr ⟨eCa.of (hts _ (tq_8 (List.mem_of_getElem? (i := 57) rfl))), List.forall_mem_cons.mpr ⟨eCa.of (hts _ (tq_8 (List.mem_of_getElem? (i := 58) rfl))), List.forall_mem_cons.mpr ⟨eCa.of (hts _ (tq_8 (List.mem_of_getElem? (i := 59) rfl))), fun _ h => absurd h List.not_mem_nil⟩⟩⟩⟩⟩⟩⟩⟩⟩⟩⟩⟩⟩⟩⟩⟩⟩⟩⟩⟩⟩⟩⟩⟩⟩
theorem nf_80 : (flatC nwT)[80]? = some (Jvm.Cond.not (Jvm.Cond.castable "BasketFlock" "java/lang/ArithmeticException")) := by decide +kernel
theorem nf_11 : (flatC nwT)[11]? = some (Jvm.Cond.not (Jvm.Cond.castable "BasketFlock" "java/lang/IllegalArgumentException")) := by decide +kernel
theorem nf_25 : (flatC nwT)[25]? = some (Jvm.Cond.not (Jvm.Cond.castable "BasketFlock" "java/lang/IllegalStateException")) := by decide +kernel
theorem nf_53 : (flatC nwT)[53]? = some (Jvm.Cond.not (Jvm.Cond.castable "BasketFlock" "java/lang/IndexOutOfBoundsException")) := by decide +kernel
theorem nf_39 : (flatC nwT)[39]? = some (Jvm.Cond.not (Jvm.Cond.castable "BasketFlock" "java/lang/UnsupportedOperationException")) := by decide +kernel
theorem nf_66 : (flatC nwT)[66]? = some (Jvm.Cond.not (Jvm.Cond.castable "BasketFlock" "java/util/NoSuchElementException")) := by decide +kernel
theorem nf_82 : (flatC nwT)[82]? = some (Jvm.Cond.not (Jvm.Cond.castable "BasketFlock$Clouds" "java/lang/ArithmeticException")) := by decide +kernel
theorem nf_13 : (flatC nwT)[13]? = some (Jvm.Cond.not (Jvm.Cond.castable "BasketFlock$Clouds" "java/lang/IllegalArgumentException")) := by decide +kernel
theorem nf_27 : (flatC nwT)[27]? = some (Jvm.Cond.not (Jvm.Cond.castable "BasketFlock$Clouds" "java/lang/IllegalStateException")) := by decide +kernel
theorem nf_55 : (flatC nwT)[55]? = some (Jvm.Cond.not (Jvm.Cond.castable "BasketFlock$Clouds" "java/lang/IndexOutOfBoundsException")) := by decide +kernel
theorem nf_41 : (flatC nwT)[41]? = some (Jvm.Cond.not (Jvm.Cond.castable "BasketFlock$Clouds" "java/lang/UnsupportedOperationException")) := by decide +kernel
theorem nf_68 : (flatC nwT)[68]? = some (Jvm.Cond.not (Jvm.Cond.castable "BasketFlock$Clouds" "java/util/NoSuchElementException")) := by decide +kernel
theorem nf_86 : (flatC nwT)[86]? = some (Jvm.Cond.not (Jvm.Cond.castable "BasketFlock$CommandText" "java/lang/ArithmeticException")) := by decide +kernel
theorem nf_17 : (flatC nwT)[17]? = some (Jvm.Cond.not (Jvm.Cond.castable "BasketFlock$CommandText" "java/lang/IllegalArgumentException")) := by decide +kernel
theorem nf_31 : (flatC nwT)[31]? = some (Jvm.Cond.not (Jvm.Cond.castable "BasketFlock$CommandText" "java/lang/IllegalStateException")) := by decide +kernel
theorem nf_59 : (flatC nwT)[59]? = some (Jvm.Cond.not (Jvm.Cond.castable "BasketFlock$CommandText" "java/lang/IndexOutOfBoundsException")) := by decide +kernel
theorem nf_45 : (flatC nwT)[45]? = some (Jvm.Cond.not (Jvm.Cond.castable "BasketFlock$CommandText" "java/lang/UnsupportedOperationException")) := by decide +kernel
theorem nf_72 : (flatC nwT)[72]? = some (Jvm.Cond.not (Jvm.Cond.castable "BasketFlock$CommandText" "java/util/NoSuchElementException")) := by decide +kernel
theorem nf_81 : (flatC nwT)[81]? = some (Jvm.Cond.not (Jvm.Cond.castable "BasketFlock$Flock" "java/lang/ArithmeticException")) := by decide +kernel
theorem nf_12 : (flatC nwT)[12]? = some (Jvm.Cond.not (Jvm.Cond.castable "BasketFlock$Flock" "java/lang/IllegalArgumentException")) := by decide +kernel
theorem nf_26 : (flatC nwT)[26]? = some (Jvm.Cond.not (Jvm.Cond.castable "BasketFlock$Flock" "java/lang/IllegalStateException")) := by decide +kernel
theorem nf_54 : (flatC nwT)[54]? = some (Jvm.Cond.not (Jvm.Cond.castable "BasketFlock$Flock" "java/lang/IndexOutOfBoundsException")) := by decide +kernel
theorem nf_40 : (flatC nwT)[40]? = some (Jvm.Cond.not (Jvm.Cond.castable "BasketFlock$Flock" "java/lang/UnsupportedOperationException")) := by decide +kernel
theorem nf_67 : (flatC nwT)[67]? = some (Jvm.Cond.not (Jvm.Cond.castable "BasketFlock$Flock" "java/util/NoSuchElementException")) := by decide +kernel
theorem nf_85 : (flatC nwT)[85]? = some (Jvm.Cond.not (Jvm.Cond.castable "BasketFlock$Formations" "java/lang/ArithmeticException")) := by decide +kernel
theorem nf_16 : (flatC nwT)[16]? = some (Jvm.Cond.not (Jvm.Cond.castable "BasketFlock$Formations" "java/lang/IllegalArgumentException")) := by decide +kernel
theorem nf_30 : (flatC nwT)[30]? = some (Jvm.Cond.not (Jvm.Cond.castable "BasketFlock$Formations" "java/lang/IllegalStateException")) := by decide +kernel
theorem nf_58 : (flatC nwT)[58]? = some (Jvm.Cond.not (Jvm.Cond.castable "BasketFlock$Formations" "java/lang/IndexOutOfBoundsException")) := by decide +kernel
theorem nf_44 : (flatC nwT)[44]? = some (Jvm.Cond.not (Jvm.Cond.castable "BasketFlock$Formations" "java/lang/UnsupportedOperationException")) := by decide +kernel
theorem nf_71 : (flatC nwT)[71]? = some (Jvm.Cond.not (Jvm.Cond.castable "BasketFlock$Formations" "java/util/NoSuchElementException")) := by decide +kernel
theorem nf_84 : (flatC nwT)[84]? = some (Jvm.Cond.not (Jvm.Cond.castable "BasketFlock$History" "java/lang/ArithmeticException")) := by decide +kernel
theorem nf_15 : (flatC nwT)[15]? = some (Jvm.Cond.not (Jvm.Cond.castable "BasketFlock$History" "java/lang/IllegalArgumentException")) := by decide +kernel
theorem nf_29 : (flatC nwT)[29]? = some (Jvm.Cond.not (Jvm.Cond.castable "BasketFlock$History" "java/lang/IllegalStateException")) := by decide +kernel
theorem nf_57 : (flatC nwT)[57]? = some (Jvm.Cond.not (Jvm.Cond.castable "BasketFlock$History" "java/lang/IndexOutOfBoundsException")) := by decide +kernel
theorem nf_43 : (flatC nwT)[43]? = some (Jvm.Cond.not (Jvm.Cond.castable "BasketFlock$History" "java/lang/UnsupportedOperationException")) := by decide +kernel
theorem nf_70 : (flatC nwT)[70]? = some (Jvm.Cond.not (Jvm.Cond.castable "BasketFlock$History" "java/util/NoSuchElementException")) := by decide +kernel
theorem nf_83 : (flatC nwT)[83]? = some (Jvm.Cond.not (Jvm.Cond.castable "BasketFlock$Shapes" "java/lang/ArithmeticException")) := by decide +kernel
theorem nf_14 : (flatC nwT)[14]? = some (Jvm.Cond.not (Jvm.Cond.castable "BasketFlock$Shapes" "java/lang/IllegalArgumentException")) := by decide +kernel
theorem nf_28 : (flatC nwT)[28]? = some (Jvm.Cond.not (Jvm.Cond.castable "BasketFlock$Shapes" "java/lang/IllegalStateException")) := by decide +kernel
theorem nf_56 : (flatC nwT)[56]? = some (Jvm.Cond.not (Jvm.Cond.castable "BasketFlock$Shapes" "java/lang/IndexOutOfBoundsException")) := by decide +kernel
theorem nf_42 : (flatC nwT)[42]? = some (Jvm.Cond.not (Jvm.Cond.castable "BasketFlock$Shapes" "java/lang/UnsupportedOperationException")) := by decide +kernel
theorem nf_69 : (flatC nwT)[69]? = some (Jvm.Cond.not (Jvm.Cond.castable "BasketFlock$Shapes" "java/util/NoSuchElementException")) := by decide +kernel
theorem nf_87 : (flatC nwT)[87]? = some (Jvm.Cond.not (Jvm.Cond.castable "BasketFlockModel" "java/lang/ArithmeticException")) := by decide +kernel
theorem nf_18 : (flatC nwT)[18]? = some (Jvm.Cond.not (Jvm.Cond.castable "BasketFlockModel" "java/lang/IllegalArgumentException")) := by decide +kernel
theorem nf_32 : (flatC nwT)[32]? = some (Jvm.Cond.not (Jvm.Cond.castable "BasketFlockModel" "java/lang/IllegalStateException")) := by decide +kernel
theorem nf_60 : (flatC nwT)[60]? = some (Jvm.Cond.not (Jvm.Cond.castable "BasketFlockModel" "java/lang/IndexOutOfBoundsException")) := by decide +kernel
theorem nf_46 : (flatC nwT)[46]? = some (Jvm.Cond.not (Jvm.Cond.castable "BasketFlockModel" "java/lang/UnsupportedOperationException")) := by decide +kernel
theorem nf_73 : (flatC nwT)[73]? = some (Jvm.Cond.not (Jvm.Cond.castable "BasketFlockModel" "java/util/NoSuchElementException")) := by decide +kernel
theorem nf_24 : (flatC nwT)[24]? = some (Jvm.Cond.not (Jvm.Cond.castable "java/lang/ArithmeticException" "java/lang/IllegalArgumentException")) := by decide +kernel
theorem nf_38 : (flatC nwT)[38]? = some (Jvm.Cond.not (Jvm.Cond.castable "java/lang/ArithmeticException" "java/lang/IllegalStateException")) := by decide +kernel
theorem nf_65 : (flatC nwT)[65]? = some (Jvm.Cond.not (Jvm.Cond.castable "java/lang/ArithmeticException" "java/lang/IndexOutOfBoundsException")) := by decide +kernel
theorem nf_52 : (flatC nwT)[52]? = some (Jvm.Cond.not (Jvm.Cond.castable "java/lang/ArithmeticException" "java/lang/UnsupportedOperationException")) := by decide +kernel
theorem nf_79 : (flatC nwT)[79]? = some (Jvm.Cond.not (Jvm.Cond.castable "java/lang/ArithmeticException" "java/util/NoSuchElementException")) := by decide +kernel
theorem nf_93 : (flatC nwT)[93]? = some (Jvm.Cond.not (Jvm.Cond.castable "java/lang/ArrayIndexOutOfBoundsException" "java/lang/ArithmeticException")) := by decide +kernel
theorem nf_23 : (flatC nwT)[23]? = some (Jvm.Cond.not (Jvm.Cond.castable "java/lang/ArrayIndexOutOfBoundsException" "java/lang/IllegalArgumentException")) := by decide +kernel
theorem nf_37 : (flatC nwT)[37]? = some (Jvm.Cond.not (Jvm.Cond.castable "java/lang/ArrayIndexOutOfBoundsException" "java/lang/IllegalStateException")) := by decide +kernel
theorem nf_51 : (flatC nwT)[51]? = some (Jvm.Cond.not (Jvm.Cond.castable "java/lang/ArrayIndexOutOfBoundsException" "java/lang/UnsupportedOperationException")) := by decide +kernel
theorem nf_78 : (flatC nwT)[78]? = some (Jvm.Cond.not (Jvm.Cond.castable "java/lang/ArrayIndexOutOfBoundsException" "java/util/NoSuchElementException")) := by decide +kernel
theorem nf_89 : (flatC nwT)[89]? = some (Jvm.Cond.not (Jvm.Cond.castable "java/lang/IllegalArgumentException" "java/lang/ArithmeticException")) := by decide +kernel
theorem nf_34 : (flatC nwT)[34]? = some (Jvm.Cond.not (Jvm.Cond.castable "java/lang/IllegalArgumentException" "java/lang/IllegalStateException")) := by decide +kernel
theorem nf_61 : (flatC nwT)[61]? = some (Jvm.Cond.not (Jvm.Cond.castable "java/lang/IllegalArgumentException" "java/lang/IndexOutOfBoundsException")) := by decide +kernel
theorem nf_48 : (flatC nwT)[48]? = some (Jvm.Cond.not (Jvm.Cond.castable "java/lang/IllegalArgumentException" "java/lang/UnsupportedOperationException")) := by decide +kernel
theorem nf_75 : (flatC nwT)[75]? = some (Jvm.Cond.not (Jvm.Cond.castable "java/lang/IllegalArgumentException" "java/util/NoSuchElementException")) := by decide +kernel
theorem nf_90 : (flatC nwT)[90]? = some (Jvm.Cond.not (Jvm.Cond.castable "java/lang/IllegalStateException" "java/lang/ArithmeticException")) := by decide +kernel
theorem nf_20 : (flatC nwT)[20]? = some (Jvm.Cond.not (Jvm.Cond.castable "java/lang/IllegalStateException" "java/lang/IllegalArgumentException")) := by decide +kernel
theorem nf_62 : (flatC nwT)[62]? = some (Jvm.Cond.not (Jvm.Cond.castable "java/lang/IllegalStateException" "java/lang/IndexOutOfBoundsException")) := by decide +kernel
theorem nf_49 : (flatC nwT)[49]? = some (Jvm.Cond.not (Jvm.Cond.castable "java/lang/IllegalStateException" "java/lang/UnsupportedOperationException")) := by decide +kernel
theorem nf_76 : (flatC nwT)[76]? = some (Jvm.Cond.not (Jvm.Cond.castable "java/lang/IllegalStateException" "java/util/NoSuchElementException")) := by decide +kernel
theorem nf_88 : (flatC nwT)[88]? = some (Jvm.Cond.not (Jvm.Cond.castable "java/lang/IndexOutOfBoundsException" "java/lang/ArithmeticException")) := by decide +kernel
theorem nf_19 : (flatC nwT)[19]? = some (Jvm.Cond.not (Jvm.Cond.castable "java/lang/IndexOutOfBoundsException" "java/lang/IllegalArgumentException")) := by decide +kernel
theorem nf_33 : (flatC nwT)[33]? = some (Jvm.Cond.not (Jvm.Cond.castable "java/lang/IndexOutOfBoundsException" "java/lang/IllegalStateException")) := by decide +kernel
theorem nf_47 : (flatC nwT)[47]? = some (Jvm.Cond.not (Jvm.Cond.castable "java/lang/IndexOutOfBoundsException" "java/lang/UnsupportedOperationException")) := by decide +kernel
theorem nf_74 : (flatC nwT)[74]? = some (Jvm.Cond.not (Jvm.Cond.castable "java/lang/IndexOutOfBoundsException" "java/util/NoSuchElementException")) := by decide +kernel
theorem nf_92 : (flatC nwT)[92]? = some (Jvm.Cond.not (Jvm.Cond.castable "java/lang/UnsupportedOperationException" "java/lang/ArithmeticException")) := by decide +kernel
theorem nf_22 : (flatC nwT)[22]? = some (Jvm.Cond.not (Jvm.Cond.castable "java/lang/UnsupportedOperationException" "java/lang/IllegalArgumentException")) := by decide +kernel
theorem nf_36 : (flatC nwT)[36]? = some (Jvm.Cond.not (Jvm.Cond.castable "java/lang/UnsupportedOperationException" "java/lang/IllegalStateException")) := by decide +kernel
theorem nf_64 : (flatC nwT)[64]? = some (Jvm.Cond.not (Jvm.Cond.castable "java/lang/UnsupportedOperationException" "java/lang/IndexOutOfBoundsException")) := by decide +kernel
theorem nf_77 : (flatC nwT)[77]? = some (Jvm.Cond.not (Jvm.Cond.castable "java/lang/UnsupportedOperationException" "java/util/NoSuchElementException")) := by decide +kernel
theorem nf_91 : (flatC nwT)[91]? = some (Jvm.Cond.not (Jvm.Cond.castable "java/util/NoSuchElementException" "java/lang/ArithmeticException")) := by decide +kernel
theorem nf_21 : (flatC nwT)[21]? = some (Jvm.Cond.not (Jvm.Cond.castable "java/util/NoSuchElementException" "java/lang/IllegalArgumentException")) := by decide +kernel
theorem nf_35 : (flatC nwT)[35]? = some (Jvm.Cond.not (Jvm.Cond.castable "java/util/NoSuchElementException" "java/lang/IllegalStateException")) := by decide +kernel
theorem nf_63 : (flatC nwT)[63]? = some (Jvm.Cond.not (Jvm.Cond.castable "java/util/NoSuchElementException" "java/lang/IndexOutOfBoundsException")) := by decide +kernel
theorem nf_50 : (flatC nwT)[50]? = some (Jvm.Cond.not (Jvm.Cond.castable "java/util/NoSuchElementException" "java/lang/UnsupportedOperationException")) := by decide +kernel
theorem st_nc0 {args : Array Value} {s : State} (hg : nwT.before args s = true) : ∀ q ∈ ([("BasketFlock", "java/lang/ArithmeticException"), ("BasketFlock", "java/lang/IllegalArgumentException"), ("BasketFlock", "java/lang/IllegalStateException"), ("BasketFlock", "java/lang/IndexOutOfBoundsException"), ("BasketFlock", "java/lang/UnsupportedOperationException"), ("BasketFlock", "java/util/NoSuchElementException"), ("BasketFlock$Clouds", "java/lang/ArithmeticException"), ("BasketFlock$Clouds", "java/lang/IllegalArgumentException"), ("BasketFlock$Clouds", "java/lang/IllegalStateException"), ("BasketFlock$Clouds", "java/lang/IndexOutOfBoundsException")] : List (String × String)), va_Nc q.1 q.2 s := List.forall_mem_cons.mpr ⟨va_Nc.of (nw_at hg 80 nf_80), List.forall_mem_cons.mpr ⟨va_Nc.of (nw_at hg 11 nf_11), List.forall_mem_cons.mpr ⟨va_Nc.of (nw_at hg 25 nf_25), List.forall_mem_cons.mpr ⟨va_Nc.of (nw_at hg 53 nf_53), List.forall_mem_cons.mpr ⟨va_Nc.of (nw_at hg 39 nf_39), List.forall_mem_cons.mpr ⟨va_Nc.of (nw_at hg 66 nf_66), List.forall_mem_cons.mpr ⟨va_Nc.of (nw_at hg 82 nf_82), List.forall_mem_cons.mpr ⟨va_Nc.of (nw_at hg 13 nf_13), List.forall_mem_cons.mpr ⟨va_Nc.of (nw_at hg 27 nf_27), List.forall_mem_cons.mpr ⟨va_Nc.of (nw_at hg 55 nf_55), fun _ h => absurd h List.not_mem_nil⟩⟩⟩⟩⟩⟩⟩⟩⟩⟩
theorem st_nc1 {args : Array Value} {s : State} (hg : nwT.before args s = true) : ∀ q ∈ ([("BasketFlock$Clouds", "java/lang/UnsupportedOperationException"), ("BasketFlock$Clouds", "java/util/NoSuchElementException"), ("BasketFlock$CommandText", "java/lang/ArithmeticException"), ("BasketFlock$CommandText", "java/lang/IllegalArgumentException"), ("BasketFlock$CommandText", "java/lang/IllegalStateException"), ("BasketFlock$CommandText", "java/lang/IndexOutOfBoundsException"), ("BasketFlock$CommandText", "java/lang/UnsupportedOperationException"), ("BasketFlock$CommandText", "java/util/NoSuchElementException"), ("BasketFlock$Flock", "java/lang/ArithmeticException"), ("BasketFlock$Flock", "java/lang/IllegalArgumentException")] : List (String × String)), va_Nc q.1 q.2 s := List.forall_mem_cons.mpr ⟨va_Nc.of (nw_at hg 41 nf_41), List.forall_mem_cons.mpr ⟨va_Nc.of (nw_at hg 68 nf_68), List.forall_mem_cons.mpr ⟨va_Nc.of (nw_at hg 86 nf_86), List.forall_mem_cons.mpr ⟨va_Nc.of (nw_at hg 17 nf_17), List.forall_mem_cons.mpr ⟨va_Nc.of (nw_at hg 31 nf_31), List.forall_mem_cons.mpr ⟨va_Nc.of (nw_at hg 59 nf_59), List.forall_mem_cons.mpr ⟨va_Nc.of (nw_at hg 45 nf_45), List.forall_mem_cons.mpr ⟨va_Nc.of (nw_at hg 72 nf_72), List.forall_mem_cons.mpr ⟨va_Nc.of (nw_at hg 81 nf_81), List.forall_mem_cons.mpr ⟨va_Nc.of (nw_at hg 12 nf_12), fun _ h => absurd h List.not_mem_nil⟩⟩⟩⟩⟩⟩⟩⟩⟩⟩
theorem st_nc2 {args : Array Value} {s : State} (hg : nwT.before args s = true) : ∀ q ∈ ([("BasketFlock$Flock", "java/lang/IllegalStateException"), ("BasketFlock$Flock", "java/lang/IndexOutOfBoundsException"), ("BasketFlock$Flock", "java/lang/UnsupportedOperationException"), ("BasketFlock$Flock", "java/util/NoSuchElementException"), ("BasketFlock$Formations", "java/lang/ArithmeticException"), ("BasketFlock$Formations", "java/lang/IllegalArgumentException"), ("BasketFlock$Formations", "java/lang/IllegalStateException"), ("BasketFlock$Formations", "java/lang/IndexOutOfBoundsException"), ("BasketFlock$Formations", "java/lang/UnsupportedOperationException"), ("BasketFlock$Formations", "java/util/NoSuchElementException")] : List (String × String)), va_Nc q.1 q.2 s := List.forall_mem_cons.mpr ⟨va_Nc.of (nw_at hg 26 nf_26), List.forall_mem_cons.mpr ⟨va_Nc.of (nw_at hg 54 nf_54), List.forall_mem_cons.mpr ⟨va_Nc.of (nw_at hg 40 nf_40), List.forall_mem_cons.mpr ⟨va_Nc.of (nw_at hg 67 nf_67), List.forall_mem_cons.mpr ⟨va_Nc.of (nw_at hg 85 nf_85), List.forall_mem_cons.mpr ⟨va_Nc.of (nw_at hg 16 nf_16), List.forall_mem_cons.mpr ⟨va_Nc.of (nw_at hg 30 nf_30), List.forall_mem_cons.mpr ⟨va_Nc.of (nw_at hg 58 nf_58), List.forall_mem_cons.mpr ⟨va_Nc.of (nw_at hg 44 nf_44), List.forall_mem_cons.mpr ⟨va_Nc.of (nw_at hg 71 nf_71), fun _ h => absurd h List.not_mem_nil⟩⟩⟩⟩⟩⟩⟩⟩⟩⟩
theorem st_nc3 {args : Array Value} {s : State} (hg : nwT.before args s = true) : ∀ q ∈ ([("BasketFlock$History", "java/lang/ArithmeticException"), ("BasketFlock$History", "java/lang/IllegalArgumentException"), ("BasketFlock$History", "java/lang/IllegalStateException"), ("BasketFlock$History", "java/lang/IndexOutOfBoundsException"), ("BasketFlock$History", "java/lang/UnsupportedOperationException"), ("BasketFlock$History", "java/util/NoSuchElementException"), ("BasketFlock$Shapes", "java/lang/ArithmeticException"), ("BasketFlock$Shapes", "java/lang/IllegalArgumentException"), ("BasketFlock$Shapes", "java/lang/IllegalStateException"), ("BasketFlock$Shapes", "java/lang/IndexOutOfBoundsException")] : List (String × String)), va_Nc q.1 q.2 s := List.forall_mem_cons.mpr ⟨va_Nc.of (nw_at hg 84 nf_84), List.forall_mem_cons.mpr ⟨va_Nc.of (nw_at hg 15 nf_15), List.forall_mem_cons.mpr ⟨va_Nc.of (nw_at hg 29 nf_29), List.forall_mem_cons.mpr ⟨va_Nc.of (nw_at hg 57 nf_57), List.forall_mem_cons.mpr ⟨va_Nc.of (nw_at hg 43 nf_43), List.forall_mem_cons.mpr ⟨va_Nc.of (nw_at hg 70 nf_70), List.forall_mem_cons.mpr ⟨va_Nc.of (nw_at hg 83 nf_83), List.forall_mem_cons.mpr ⟨va_Nc.of (nw_at hg 14 nf_14), List.forall_mem_cons.mpr ⟨va_Nc.of (nw_at hg 28 nf_28), List.forall_mem_cons.mpr ⟨va_Nc.of (nw_at hg 56 nf_56), fun _ h => absurd h List.not_mem_nil⟩⟩⟩⟩⟩⟩⟩⟩⟩⟩
theorem st_nc4 {args : Array Value} {s : State} (hg : nwT.before args s = true) : ∀ q ∈ ([("BasketFlock$Shapes", "java/lang/UnsupportedOperationException"), ("BasketFlock$Shapes", "java/util/NoSuchElementException"), ("BasketFlockModel", "java/lang/ArithmeticException"), ("BasketFlockModel", "java/lang/IllegalArgumentException"), ("BasketFlockModel", "java/lang/IllegalStateException"), ("BasketFlockModel", "java/lang/IndexOutOfBoundsException"), ("BasketFlockModel", "java/lang/UnsupportedOperationException"), ("BasketFlockModel", "java/util/NoSuchElementException"), ("java/lang/ArithmeticException", "java/lang/IllegalArgumentException"), ("java/lang/ArithmeticException", "java/lang/IllegalStateException")] : List (String × String)), va_Nc q.1 q.2 s := List.forall_mem_cons.mpr ⟨va_Nc.of (nw_at hg 42 nf_42), List.forall_mem_cons.mpr ⟨va_Nc.of (nw_at hg 69 nf_69), List.forall_mem_cons.mpr ⟨va_Nc.of (nw_at hg 87 nf_87), List.forall_mem_cons.mpr ⟨va_Nc.of (nw_at hg 18 nf_18), List.forall_mem_cons.mpr ⟨va_Nc.of (nw_at hg 32 nf_32), List.forall_mem_cons.mpr ⟨va_Nc.of (nw_at hg 60 nf_60), List.forall_mem_cons.mpr ⟨va_Nc.of (nw_at hg 46 nf_46), List.forall_mem_cons.mpr ⟨va_Nc.of (nw_at hg 73 nf_73), List.forall_mem_cons.mpr ⟨va_Nc.of (nw_at hg 24 nf_24), List.forall_mem_cons.mpr ⟨va_Nc.of (nw_at hg 38 nf_38), fun _ h => absurd h List.not_mem_nil⟩⟩⟩⟩⟩⟩⟩⟩⟩⟩
theorem st_nc5 {args : Array Value} {s : State} (hg : nwT.before args s = true) : ∀ q ∈ ([("java/lang/ArithmeticException", "java/lang/IndexOutOfBoundsException"), ("java/lang/ArithmeticException", "java/lang/UnsupportedOperationException"), ("java/lang/ArithmeticException", "java/util/NoSuchElementException"), ("java/lang/ArrayIndexOutOfBoundsException", "java/lang/ArithmeticException"), ("java/lang/ArrayIndexOutOfBoundsException", "java/lang/IllegalArgumentException"), ("java/lang/ArrayIndexOutOfBoundsException", "java/lang/IllegalStateException"), ("java/lang/ArrayIndexOutOfBoundsException", "java/lang/UnsupportedOperationException"), ("java/lang/ArrayIndexOutOfBoundsException", "java/util/NoSuchElementException"), ("java/lang/IllegalArgumentException", "java/lang/ArithmeticException"), ("java/lang/IllegalArgumentException", "java/lang/IllegalStateException")] : List (String × String)), va_Nc q.1 q.2 s := List.forall_mem_cons.mpr ⟨va_Nc.of (nw_at hg 65 nf_65), List.forall_mem_cons.mpr ⟨va_Nc.of (nw_at hg 52 nf_52), List.forall_mem_cons.mpr ⟨va_Nc.of (nw_at hg 79 nf_79), List.forall_mem_cons.mpr ⟨va_Nc.of (nw_at hg 93 nf_93), List.forall_mem_cons.mpr ⟨va_Nc.of (nw_at hg 23 nf_23), List.forall_mem_cons.mpr ⟨va_Nc.of (nw_at hg 37 nf_37), List.forall_mem_cons.mpr ⟨va_Nc.of (nw_at hg 51 nf_51), List.forall_mem_cons.mpr ⟨va_Nc.of (nw_at hg 78 nf_78), List.forall_mem_cons.mpr ⟨va_Nc.of (nw_at hg 89 nf_89), List.forall_mem_cons.mpr ⟨va_Nc.of (nw_at hg 34 nf_34), fun _ h => absurd h List.not_mem_nil⟩⟩⟩⟩⟩⟩⟩⟩⟩⟩
theorem st_nc6 {args : Array Value} {s : State} (hg : nwT.before args s = true) : ∀ q ∈ ([("java/lang/IllegalArgumentException", "java/lang/IndexOutOfBoundsException"), ("java/lang/IllegalArgumentException", "java/lang/UnsupportedOperationException"), ("java/lang/IllegalArgumentException", "java/util/NoSuchElementException"), ("java/lang/IllegalStateException", "java/lang/ArithmeticException"), ("java/lang/IllegalStateException", "java/lang/IllegalArgumentException"), ("java/lang/IllegalStateException", "java/lang/IndexOutOfBoundsException"), ("java/lang/IllegalStateException", "java/lang/UnsupportedOperationException"), ("java/lang/IllegalStateException", "java/util/NoSuchElementException"), ("java/lang/IndexOutOfBoundsException", "java/lang/ArithmeticException"), ("java/lang/IndexOutOfBoundsException", "java/lang/IllegalArgumentException")] : List (String × String)), va_Nc q.1 q.2 s := List.forall_mem_cons.mpr ⟨va_Nc.of (nw_at hg 61 nf_61), List.forall_mem_cons.mpr ⟨va_Nc.of (nw_at hg 48 nf_48), List.forall_mem_cons.mpr ⟨va_Nc.of (nw_at hg 75 nf_75), List.forall_mem_cons.mpr ⟨va_Nc.of (nw_at hg 90 nf_90), List.forall_mem_cons.mpr ⟨va_Nc.of (nw_at hg 20 nf_20), List.forall_mem_cons.mpr ⟨va_Nc.of (nw_at hg 62 nf_62), List.forall_mem_cons.mpr ⟨va_Nc.of (nw_at hg 49 nf_49), List.forall_mem_cons.mpr ⟨va_Nc.of (nw_at hg 76 nf_76), List.forall_mem_cons.mpr ⟨va_Nc.of (nw_at hg 88 nf_88), List.forall_mem_cons.mpr ⟨va_Nc.of (nw_at hg 19 nf_19), fun _ h => absurd h List.not_mem_nil⟩⟩⟩⟩⟩⟩⟩⟩⟩⟩
theorem st_nc7 {args : Array Value} {s : State} (hg : nwT.before args s = true) : ∀ q ∈ ([("java/lang/IndexOutOfBoundsException", "java/lang/IllegalStateException"), ("java/lang/IndexOutOfBoundsException", "java/lang/UnsupportedOperationException"), ("java/lang/IndexOutOfBoundsException", "java/util/NoSuchElementException"), ("java/lang/UnsupportedOperationException", "java/lang/ArithmeticException"), ("java/lang/UnsupportedOperationException", "java/lang/IllegalArgumentException"), ("java/lang/UnsupportedOperationException", "java/lang/IllegalStateException"), ("java/lang/UnsupportedOperationException", "java/lang/IndexOutOfBoundsException"), ("java/lang/UnsupportedOperationException", "java/util/NoSuchElementException"), ("java/util/NoSuchElementException", "java/lang/ArithmeticException"), ("java/util/NoSuchElementException", "java/lang/IllegalArgumentException")] : List (String × String)), va_Nc q.1 q.2 s := List.forall_mem_cons.mpr ⟨va_Nc.of (nw_at hg 33 nf_33), List.forall_mem_cons.mpr ⟨va_Nc.of (nw_at hg 47 nf_47), List.forall_mem_cons.mpr ⟨va_Nc.of (nw_at hg 74 nf_74), List.forall_mem_cons.mpr ⟨va_Nc.of (nw_at hg 92 nf_92), List.forall_mem_cons.mpr ⟨va_Nc.of (nw_at hg 22 nf_22), List.forall_mem_cons.mpr ⟨va_Nc.of (nw_at hg 36 nf_36), List.forall_mem_cons.mpr ⟨va_Nc.of (nw_at hg 64 nf_64), List.forall_mem_cons.mpr ⟨va_Nc.of (nw_at hg 77 nf_77), List.forall_mem_cons.mpr ⟨va_Nc.of (nw_at hg 91 nf_91), List.forall_mem_cons.mpr ⟨va_Nc.of (nw_at hg 21 nf_21), fun _ h => absurd h List.not_mem_nil⟩⟩⟩⟩⟩⟩⟩⟩⟩⟩
theorem st_nc8 {args : Array Value} {s : State} (hg : nwT.before args s = true) : ∀ q ∈ ([("java/util/NoSuchElementException", "java/lang/IllegalStateException"), ("java/util/NoSuchElementException", "java/lang/IndexOutOfBoundsException"), ("java/util/NoSuchElementException", "java/lang/UnsupportedOperationException")] : List (String × String)), va_Nc q.1 q.2 s := List.forall_mem_cons.mpr ⟨va_Nc.of (nw_at hg 35 nf_35), List.forall_mem_cons.mpr ⟨va_Nc.of (nw_at hg 63 nf_63), List.forall_mem_cons.mpr ⟨va_Nc.of (nw_at hg 50 nf_50), fun _ h => absurd h List.not_mem_nil⟩⟩⟩
theorem st_nc {args : Array Value} {s : State} (hg : nwT.before args s = true) : ∀ q ∈ eNc, va_Nc q.1 q.2 s := by
  have e : eNc = ([("BasketFlock", "java/lang/ArithmeticException"), ("BasketFlock", "java/lang/IllegalArgumentException"), ("BasketFlock", "java/lang/IllegalStateException"), ("BasketFlock", "java/lang/IndexOutOfBoundsException"), ("BasketFlock", "java/lang/UnsupportedOperationException"), ("BasketFlock", "java/util/NoSuchElementException"), ("BasketFlock$Clouds", "java/lang/ArithmeticException"), ("BasketFlock$Clouds", "java/lang/IllegalArgumentException"), ("BasketFlock$Clouds", "java/lang/IllegalStateException"), ("BasketFlock$Clouds", "java/lang/IndexOutOfBoundsException")] : List (String × String)) ++ (([("BasketFlock$Clouds", "java/lang/UnsupportedOperationException"), ("BasketFlock$Clouds", "java/util/NoSuchElementException"), ("BasketFlock$CommandText", "java/lang/ArithmeticException"), ("BasketFlock$CommandText", "java/lang/IllegalArgumentException"), ("BasketFlock$CommandText", "java/lang/IllegalStateException"), ("BasketFlock$CommandText", "java/lang/IndexOutOfBoundsException"), ("BasketFlock$CommandText", "java/lang/UnsupportedOperationException"), ("BasketFlock$CommandText", "java/util/NoSuchElementException"), ("BasketFlock$Flock", "java/lang/ArithmeticException"), ("BasketFlock$Flock", "java/lang/IllegalArgumentException")] : List (String × String)) ++ (([("BasketFlock$Flock", "java/lang/IllegalStateException"), ("BasketFlock$Flock", "java/lang/IndexOutOfBoundsException"), ("BasketFlock$Flock", "java/lang/UnsupportedOperationException"), ("BasketFlock$Flock", "java/util/NoSuchElementException"), ("BasketFlock$Formations", "java/lang/ArithmeticException"), ("BasketFlock$Formations", "java/lang/IllegalArgumentException"), ("BasketFlock$Formations", "java/lang/IllegalStateException"), ("BasketFlock$Formations", "java/lang/IndexOutOfBoundsException"), ("BasketFlock$Formations", "java/lang/UnsupportedOperationException"), ("BasketFlock$Formations", "java/util/NoSuchElementException")] : List (String × String)) ++ (([("BasketFlock$History", "java/lang/ArithmeticException"), ("BasketFlock$History", "java/lang/IllegalArgumentException"), ("BasketFlock$History", "java/lang/IllegalStateException"), ("BasketFlock$History", "java/lang/IndexOutOfBoundsException"), ("BasketFlock$History", "java/lang/UnsupportedOperationException"), ("BasketFlock$History", "java/util/NoSuchElementException"), ("BasketFlock$Shapes", "java/lang/ArithmeticException"), ("BasketFlock$Shapes", "java/lang/IllegalArgumentException"), ("BasketFlock$Shapes", "java/lang/IllegalStateException"), ("BasketFlock$Shapes", "java/lang/IndexOutOfBoundsException")] : List (String × String)) ++ (([("BasketFlock$Shapes", "java/lang/UnsupportedOperationException"), ("BasketFlock$Shapes", "java/util/NoSuchElementException"), ("BasketFlockModel", "java/lang/ArithmeticException"), ("BasketFlockModel", "java/lang/IllegalArgumentException"), ("BasketFlockModel", "java/lang/IllegalStateException"), ("BasketFlockModel", "java/lang/IndexOutOfBoundsException"), ("BasketFlockModel", "java/lang/UnsupportedOperationException"), ("BasketFlockModel", "java/util/NoSuchElementException"), ("java/lang/ArithmeticException", "java/lang/IllegalArgumentException"), ("java/lang/ArithmeticException", "java/lang/IllegalStateException")] : List (String × String)) ++ (([("java/lang/ArithmeticException", "java/lang/IndexOutOfBoundsException"), ("java/lang/ArithmeticException", "java/lang/UnsupportedOperationException"), ("java/lang/ArithmeticException", "java/util/NoSuchElementException"), ("java/lang/ArrayIndexOutOfBoundsException", "java/lang/ArithmeticException"), ("java/lang/ArrayIndexOutOfBoundsException", "java/lang/IllegalArgumentException"), ("java/lang/ArrayIndexOutOfBoundsException", "java/lang/IllegalStateException"), ("java/lang/ArrayIndexOutOfBoundsException", "java/lang/UnsupportedOperationException"), ("java/lang/ArrayIndexOutOfBoundsException", "java/util/NoSuchElementException"), ("java/lang/IllegalArgumentException", "java/lang/ArithmeticException"), ("java/lang/IllegalArgumentException", "java/lang/IllegalStateException")] : List (String × String)) ++ (([("java/lang/IllegalArgumentException", "java/lang/IndexOutOfBoundsException"), ("java/lang/IllegalArgumentException", "java/lang/UnsupportedOperationException"), ("java/lang/IllegalArgumentException", "java/util/NoSuchElementException"), ("java/lang/IllegalStateException", "java/lang/ArithmeticException"), ("java/lang/IllegalStateException", "java/lang/IllegalArgumentException"), ("java/lang/IllegalStateException", "java/lang/IndexOutOfBoundsException"), ("java/lang/IllegalStateException", "java/lang/UnsupportedOperationException"), ("java/lang/IllegalStateException", "java/util/NoSuchElementException"), ("java/lang/IndexOutOfBoundsException", "java/lang/ArithmeticException"), ("java/lang/IndexOutOfBoundsException", "java/lang/IllegalArgumentException")] : List (String × String)) ++ (([("java/lang/IndexOutOfBoundsException", "java/lang/IllegalStateException"), ("java/lang/IndexOutOfBoundsException", "java/lang/UnsupportedOperationException"), ("java/lang/IndexOutOfBoundsException", "java/util/NoSuchElementException"), ("java/lang/UnsupportedOperationException", "java/lang/ArithmeticException"), ("java/lang/UnsupportedOperationException", "java/lang/IllegalArgumentException"), ("java/lang/UnsupportedOperationException", "java/lang/IllegalStateException"), ("java/lang/UnsupportedOperationException", "java/lang/IndexOutOfBoundsException"), ("java/lang/UnsupportedOperationException", "java/util/NoSuchElementException"), ("java/util/NoSuchElementException", "java/lang/ArithmeticException"), ("java/util/NoSuchElementException", "java/lang/IllegalArgumentException")] : List (String × String)) ++ (([("java/util/NoSuchElementException", "java/lang/IllegalStateException"), ("java/util/NoSuchElementException", "java/lang/IndexOutOfBoundsException"), ("java/util/NoSuchElementException", "java/lang/UnsupportedOperationException")] : List (String × String)))))))))) := rfl
  rw [e]
  exact List.forall_mem_append.mpr ⟨st_nc0 hg, List.forall_mem_append.mpr ⟨st_nc1 hg, List.forall_mem_append.mpr ⟨st_nc2 hg, List.forall_mem_append.mpr ⟨st_nc3 hg, List.forall_mem_append.mpr ⟨st_nc4 hg, List.forall_mem_append.mpr ⟨st_nc5 hg, List.forall_mem_append.mpr ⟨st_nc6 hg, List.forall_mem_append.mpr ⟨st_nc7 hg, st_nc8 hg⟩⟩⟩⟩⟩⟩⟩⟩
theorem st_nn {args : Array Value} {s : State} (hts : ∀ w ∈ lw_tbl, w.before args s = true) : ∀ q ∈ eNn, va_Nw (.methodLinkNest q.1 q.2.1 q.2.2.1 q.2.2.2) s := List.forall_mem_cons.mpr ⟨va_Nw.of rfl (hts _ (tq_1 (List.mem_of_getElem? (i := 35) rfl))), List.forall_mem_cons.mpr ⟨va_Nw.of rfl (hts _ (tq_1 (List.mem_of_getElem? (i := 41) rfl))), List.forall_mem_cons.mpr ⟨va_Nw.of rfl (hts _ (tq_1 (List.mem_of_getElem? (i := 57) rfl))), List.forall_mem_cons.mpr ⟨va_Nw.of rfl (hts _ (tq_1 (List.mem_of_getElem? (i := 145) rfl))), List.forall_mem_cons.mpr ⟨va_Nw.of rfl (hts _ (tq_1 (List.mem_of_getElem? (i := 159) rfl))), List.forall_mem_cons.mpr ⟨va_Nw.of rfl (hts _ (tq_1 (List.mem_of_getElem? (i := 172) rfl))), fun _ h => absurd h List.not_mem_nil⟩⟩⟩⟩⟩⟩
theorem st_dc {args : Array Value} {s : State} (hts : ∀ w ∈ lw_tbl, w.before args s = true) : ∀ q ∈ eDc, (Cond.declares q).before #[] s = true := List.forall_mem_cons.mpr ⟨va_tabs rfl rfl (hts _ (tq_3 (List.mem_of_getElem? (i := 16) rfl))), List.forall_mem_cons.mpr ⟨va_tabs rfl rfl (hts _ (tq_3 (List.mem_of_getElem? (i := 17) rfl))), List.forall_mem_cons.mpr ⟨va_tabs rfl rfl (hts _ (tq_3 (List.mem_of_getElem? (i := 18) rfl))), List.forall_mem_cons.mpr ⟨va_tabs rfl rfl (hts _ (tq_3 (List.mem_of_getElem? (i := 19) rfl))), List.forall_mem_cons.mpr ⟨va_tabs rfl rfl (hts _ (tq_3 (List.mem_of_getElem? (i := 20) rfl))), List.forall_mem_cons.mpr ⟨va_tabs rfl rfl (hts _ (tq_3 (List.mem_of_getElem? (i := 21) rfl))), List.forall_mem_cons.mpr ⟨va_tabs rfl rfl (hts _ (tq_3 (List.mem_of_getElem? (i := 178) rfl))), List.forall_mem_cons.mpr ⟨va_tabs rfl rfl (hts _ (tq_3 (List.mem_of_getElem? (i := 179) rfl))), fun _ h => absurd h List.not_mem_nil⟩⟩⟩⟩⟩⟩⟩⟩
theorem st_str1 {args : Array Value} {s : State} {own tx : String} {k : Nat} (h : (Cond.stringRef own k tx).before args s = true) (hx : (Cond.exactly (.string own k) "java/lang/String").before args s = true) : ∃ a : Nat, vk_R own k tx a s := by
  obtain ⟨a, c, cA, kA, q1, -⟩ := Cond.exactly_spec (args := args) (first := s) (o := none) (s := s) (idx := []) (t := .string own k) (cls := "java/lang/String") hx
  exact ⟨a, vk_R.of h q1⟩
theorem nf_309 : (flatC nwT)[309]? = some (Jvm.Cond.exactly (Jvm.Term.string "BasketFlock" 108) "java/lang/String") := by decide +kernel
theorem nf_337 : (flatC nwT)[337]? = some (Jvm.Cond.exactly (Jvm.Term.string "BasketFlock" 120) "java/lang/String") := by decide +kernel
theorem nf_476 : (flatC nwT)[476]? = some (Jvm.Cond.exactly (Jvm.Term.string "BasketFlock" 185) "java/lang/String") := by decide +kernel
theorem nf_518 : (flatC nwT)[518]? = some (Jvm.Cond.exactly (Jvm.Term.string "BasketFlock" 240) "java/lang/String") := by decide +kernel
theorem nf_560 : (flatC nwT)[560]? = some (Jvm.Cond.exactly (Jvm.Term.string "BasketFlock" 245) "java/lang/String") := by decide +kernel
theorem nf_585 : (flatC nwT)[585]? = some (Jvm.Cond.exactly (Jvm.Term.string "BasketFlock" 249) "java/lang/String") := by decide +kernel
theorem nf_619 : (flatC nwT)[619]? = some (Jvm.Cond.exactly (Jvm.Term.string "BasketFlock" 257) "java/lang/String") := by decide +kernel
theorem nf_756 : (flatC nwT)[756]? = some (Jvm.Cond.exactly (Jvm.Term.string "BasketFlock" 269) "java/lang/String") := by decide +kernel
theorem nf_790 : (flatC nwT)[790]? = some (Jvm.Cond.exactly (Jvm.Term.string "BasketFlock" 284) "java/lang/String") := by decide +kernel
theorem nf_809 : (flatC nwT)[809]? = some (Jvm.Cond.exactly (Jvm.Term.string "BasketFlock" 293) "java/lang/String") := by decide +kernel
theorem nf_838 : (flatC nwT)[838]? = some (Jvm.Cond.exactly (Jvm.Term.string "BasketFlock" 295) "java/lang/String") := by decide +kernel
theorem nf_863 : (flatC nwT)[863]? = some (Jvm.Cond.exactly (Jvm.Term.string "BasketFlock" 303) "java/lang/String") := by decide +kernel
theorem nf_889 : (flatC nwT)[889]? = some (Jvm.Cond.exactly (Jvm.Term.string "BasketFlock" 308) "java/lang/String") := by decide +kernel
theorem nf_923 : (flatC nwT)[923]? = some (Jvm.Cond.exactly (Jvm.Term.string "BasketFlock" 317) "java/lang/String") := by decide +kernel
theorem nf_948 : (flatC nwT)[948]? = some (Jvm.Cond.exactly (Jvm.Term.string "BasketFlock" 326) "java/lang/String") := by decide +kernel
theorem nf_978 : (flatC nwT)[978]? = some (Jvm.Cond.exactly (Jvm.Term.string "BasketFlock" 331) "java/lang/String") := by decide +kernel
theorem nf_94 : (flatC nwT)[94]? = some (Jvm.Cond.exactly (Jvm.Term.string "BasketFlock" 349) "java/lang/String") := by decide +kernel
theorem nf_121 : (flatC nwT)[121]? = some (Jvm.Cond.exactly (Jvm.Term.string "BasketFlock" 351) "java/lang/String") := by decide +kernel
theorem nf_152 : (flatC nwT)[152]? = some (Jvm.Cond.exactly (Jvm.Term.string "BasketFlock" 353) "java/lang/String") := by decide +kernel
theorem nf_188 : (flatC nwT)[188]? = some (Jvm.Cond.exactly (Jvm.Term.string "BasketFlock" 355) "java/lang/String") := by decide +kernel
theorem nf_224 : (flatC nwT)[224]? = some (Jvm.Cond.exactly (Jvm.Term.string "BasketFlock" 359) "java/lang/String") := by decide +kernel
theorem nf_251 : (flatC nwT)[251]? = some (Jvm.Cond.exactly (Jvm.Term.string "BasketFlock" 362) "java/lang/String") := by decide +kernel
theorem nf_391 : (flatC nwT)[391]? = some (Jvm.Cond.exactly (Jvm.Term.string "BasketFlock" 368) "java/lang/String") := by decide +kernel
theorem nf_277 : (flatC nwT)[277]? = some (Jvm.Cond.exactly (Jvm.Term.string "BasketFlock" 373) "java/lang/String") := by decide +kernel
theorem nf_415 : (flatC nwT)[415]? = some (Jvm.Cond.exactly (Jvm.Term.string "BasketFlock" 375) "java/lang/String") := by decide +kernel
theorem nf_454 : (flatC nwT)[454]? = some (Jvm.Cond.exactly (Jvm.Term.string "BasketFlock" 380) "java/lang/String") := by decide +kernel
theorem nf_365 : (flatC nwT)[365]? = some (Jvm.Cond.exactly (Jvm.Term.string "BasketFlock" 382) "java/lang/String") := by decide +kernel
theorem nf_647 : (flatC nwT)[647]? = some (Jvm.Cond.exactly (Jvm.Term.string "BasketFlock$CommandText" 38) "java/lang/String") := by decide +kernel
theorem nf_660 : (flatC nwT)[660]? = some (Jvm.Cond.exactly (Jvm.Term.string "BasketFlock$CommandText" 40) "java/lang/String") := by decide +kernel
theorem nf_674 : (flatC nwT)[674]? = some (Jvm.Cond.exactly (Jvm.Term.string "BasketFlock$CommandText" 42) "java/lang/String") := by decide +kernel
theorem nf_688 : (flatC nwT)[688]? = some (Jvm.Cond.exactly (Jvm.Term.string "BasketFlock$CommandText" 44) "java/lang/String") := by decide +kernel
theorem nf_701 : (flatC nwT)[701]? = some (Jvm.Cond.exactly (Jvm.Term.string "BasketFlock$CommandText" 46) "java/lang/String") := by decide +kernel
theorem nf_714 : (flatC nwT)[714]? = some (Jvm.Cond.exactly (Jvm.Term.string "BasketFlock$CommandText" 48) "java/lang/String") := by decide +kernel
theorem nf_724 : (flatC nwT)[724]? = some (Jvm.Cond.exactly (Jvm.Term.string "BasketFlock$CommandText" 50) "java/lang/String") := by decide +kernel
theorem nf_736 : (flatC nwT)[736]? = some (Jvm.Cond.exactly (Jvm.Term.string "BasketFlock$CommandText" 52) "java/lang/String") := by decide +kernel
theorem nf_746 : (flatC nwT)[746]? = some (Jvm.Cond.exactly (Jvm.Term.string "BasketFlock$CommandText" 54) "java/lang/String") := by decide +kernel
theorem st_str {args : Array Value} {s : State} (hts : ∀ w ∈ lw_tbl, w.before args s = true) (hg : nwT.before args s = true) : ∀ q ∈ eStr, ∃ a : Nat, vk_R q.1 q.2.1 q.2.2 a s := List.forall_mem_cons.mpr ⟨st_str1 (hts _ (tq_4 (List.mem_of_getElem? (i := 6) rfl))) (nw_at hg 309 nf_309), List.forall_mem_cons.mpr ⟨st_str1 (hts _ (tq_4 (List.mem_of_getElem? (i := 26) rfl))) (nw_at hg 337 nf_337), List.forall_mem_cons.mpr ⟨st_str1 (hts _ (tq_4 (List.mem_of_getElem? (i := 202) rfl))) (nw_at hg 476 nf_476), List.forall_mem_cons.mpr ⟨st_str1 (hts _ (tq_5 (List.mem_of_getElem? (i := 15) rfl))) (nw_at hg 518 nf_518), List.forall_mem_cons.mpr ⟨st_str1 (hts _ (tq_5 (List.mem_of_getElem? (i := 31) rfl))) (nw_at hg 560 nf_560), List.forall_mem_cons.mpr ⟨st_str1 (hts _ (tq_5 (List.mem_of_getElem? (i := 39) rfl))) (nw_at hg 585 nf_585), List.forall_mem_cons.mpr ⟨st_str1 (hts _ (tq_5 (List.mem_of_getElem? (i := 44) rfl))) (nw_at hg 619 nf_619), List.forall_mem_cons.mpr ⟨st_str1 (hts _ (tq_5 (List.mem_of_getElem? (i := 150) rfl))) (nw_at hg 756 nf_756), List.forall_mem_cons.mpr ⟨st_str1 (hts _ (tq_5 (List.mem_of_getElem? (i := 159) rfl))) (nw_at hg 790 nf_790), List.forall_mem_cons.mpr ⟨st_str1 (hts _ (tq_5 (List.mem_of_getElem? (i := 180) rfl))) (nw_at hg 809 nf_809), List.forall_mem_cons.mpr ⟨st_str1 (hts _ (tq_5 (List.mem_of_getElem? (i := 188) rfl))) (nw_at hg 838 nf_838), List.forall_mem_cons.mpr ⟨st_str1 (hts _ (tq_5 (List.mem_of_getElem? (i := 207) rfl))) (nw_at hg 863 nf_863), List.forall_mem_cons.mpr ⟨st_str1 (hts _ (tq_5 (List.mem_of_getElem? (i := 230) rfl))) (nw_at hg 889 nf_889), List.forall_mem_cons.mpr ⟨st_str1 (hts _ (tq_6 (List.mem_of_getElem? (i := 4) rfl))) (nw_at hg 923 nf_923), List.forall_mem_cons.mpr ⟨st_str1 (hts _ (tq_6 (List.mem_of_getElem? (i := 12) rfl))) (nw_at hg 948 nf_948), List.forall_mem_cons.mpr ⟨st_str1 (hts _ (tq_6 (List.mem_of_getElem? (i := 24) rfl))) (nw_at hg 978 nf_978), List.forall_mem_cons.mpr ⟨st_str1 (hts _ (tq_3 (List.mem_of_getElem? (i := 58) rfl))) (nw_at hg 94 nf_94), List.forall_mem_cons.mpr ⟨st_str1 (hts _ (tq_3 (List.mem_of_getElem? (i := 94) rfl))) (nw_at hg 121 nf_121), List.forall_mem_cons.mpr ⟨st_str1 (hts _ (tq_3 (List.mem_of_getElem? (i := 110) rfl))) (nw_at hg 152 nf_152), List.forall_mem_cons.mpr ⟨st_str1 (hts _ (tq_3 (List.mem_of_getElem? (i := 126) rfl))) (nw_at hg 188 nf_188), List.forall_mem_cons.mpr ⟨st_str1 (hts _ (tq_3 (List.mem_of_getElem? (i := 142) rfl))) (nw_at hg 224 nf_224), List.forall_mem_cons.mpr ⟨st_str1 (hts _ (tq_3 (List.mem_of_getElem? (i := 149) rfl))) (nw_at hg 251 nf_251), List.forall_mem_cons.mpr ⟨st_str1 (hts _ (tq_4 (List.mem_of_getElem? (i := 98) rfl))) (nw_at hg 391 nf_391), List.forall_mem_cons.mpr ⟨st_str1 (hts _ (tq_4 (List.mem_of_getElem? (i := 4) rfl))) (nw_at hg 277 nf_277), List.forall_mem_cons.mpr ⟨st_str1 (hts _ (tq_4 (List.mem_of_getElem? (i := 110) rfl))) (nw_at hg 415 nf_415), List.forall_mem_cons.mpr ⟨st_str1 (hts _ (tq_4 (List.mem_of_getElem? (i := 144) rfl))) (nw_at hg 454 nf_454), List.forall_mem_cons.mpr ⟨st_str1 (hts _ (tq_4 (List.mem_of_getElem? (i := 38) rfl))) (nw_at hg 365 nf_365), List.forall_mem_cons.mpr ⟨st_str1 (hts _ (tq_5 (List.mem_of_getElem? (i := 68) rfl))) (nw_at hg 647 nf_647), List.forall_mem_cons.mpr ⟨st_str1 (hts _ (tq_5 (List.mem_of_getElem? (i := 69) rfl))) (nw_at hg 660 nf_660), List.forall_mem_cons.mpr ⟨st_str1 (hts _ (tq_5 (List.mem_of_getElem? (i := 70) rfl))) (nw_at hg 674 nf_674), List.forall_mem_cons.mpr ⟨st_str1 (hts _ (tq_5 (List.mem_of_getElem? (i := 71) rfl))) (nw_at hg 688 nf_688), List.forall_mem_cons.mpr ⟨st_str1 (hts _ (tq_5 (List.mem_of_getElem? (i := 72) rfl))) (nw_at hg 701 nf_701), List.forall_mem_cons.mpr ⟨st_str1 (hts _ (tq_5 (List.mem_of_getElem? (i := 73) rfl))) (nw_at hg 714 nf_714), List.forall_mem_cons.mpr ⟨st_str1 (hts _ (tq_5 (List.mem_of_getElem? (i := 74) rfl))) (nw_at hg 724 nf_724), List.forall_mem_cons.mpr ⟨st_str1 (hts _ (tq_5 (List.mem_of_getElem? (i := 75) rfl))) (nw_at hg 736 nf_736), List.forall_mem_cons.mpr ⟨st_str1 (hts _ (tq_5 (List.mem_of_getElem? (i := 76) rfl))) (nw_at hg 746 nf_746), fun _ h => absurd h List.not_mem_nil⟩⟩⟩⟩⟩⟩⟩⟩⟩⟩⟩⟩⟩⟩⟩⟩⟩⟩⟩⟩⟩⟩⟩⟩⟩⟩⟩⟩⟩⟩⟩⟩⟩⟩⟩⟩
abbrev foT (i : Nat) : Term := .string "BasketFlock$CommandText" (38 + 2 * i)
def foP (i : Nat) (q : Nat × Nat) (args : Array Value) (s : State) : Prop := (foT i).eval args s none [] s = some (.ref q.1) ∧ va_O "java/lang/String" q.1 (nwA s) s s.heap ∧ va_OF "java/lang/String" "coder" "B" (.int 0) q.1 (nwA s) s s.heap ∧ va_OF "java/lang/String" "value" "[B" (.ref q.2) q.1 (nwA s) s s.heap ∧ va_T .byte q.2 (eFl.getD i 0) (fun j => .int ((eFb.getD i []).getD j 0)) (nwA s) s s.heap
theorem nwA_in {s : State} : ∀ a : Nat, a < s.heap.size → ¬ nwA s a := fun a h => Nat.not_le.mpr h
theorem st_fo {args : Array Value} {s : State} {i : Nat} (hn : eFl.getD i 0 < 2 ^ 31) (hex : (Cond.exactly (foT i) "java/lang/String").before args s = true) (hco : (Cond.eq (.field (foT i) "java/lang/String" "coder" "B") (.int 0)).before args s = true) (har : (Cond.arrayOf (.field (foT i) "java/lang/String" "value" "[B") .byte).before args s = true) (hle : (Cond.eq (.length (.field (foT i) "java/lang/String" "value" "[B")) (.int (Int32.ofNat (eFl.getD i 0)))).before args s = true) (hel : ∀ j : Nat, j < eFl.getD i 0 → (Cond.eq (.elem (.field (foT i) "java/lang/String" "value" "[B") (.int (Int32.ofNat j))) (.int ((eFb.getD i []).getD j 0))).before args s = true) : ∃ q : Nat × Nat, foP i q args s := by
  obtain ⟨a, c, cA, kA, q1, q2, q3, q4, q5, q6, -⟩ := Cond.exactly_spec (args := args) (first := s) (o := none) (s := s) (idx := []) (t := foT i) (cls := "java/lang/String") hex
  obtain ⟨t, ht, hT⟩ := va_Tof (f := fun j => .int ((eFb.getD i []).getD j 0)) (A := nwA s) hn har (va_eqt hle) (fun j hj => va_eqt (hel j hj)) nwA_in
  exact ⟨(a, t), q1, ⟨cA, q3, q5, by rw [q6]; exact q2, nwA_in a (Array.getElem?_eq_some_iff.mp q3).1⟩, vk_OFof q1 (va_eqt hco) nwA_in, vk_OFof q1 ht nwA_in, hT⟩
theorem nf_648 : (flatC nwT)[648]? = some (Jvm.Cond.eq (Jvm.Term.field (Jvm.Term.string "BasketFlock$CommandText" 38) "java/lang/String" "coder" "B") (Jvm.Term.int (0 : Int32))) := by decide +kernel
theorem nf_649 : (flatC nwT)[649]? = some (Jvm.Cond.arrayOf (Jvm.Term.field (Jvm.Term.string "BasketFlock$CommandText" 38) "java/lang/String" "value" "[B") Jvm.ClassFile.FieldType.byte) := by decide +kernel
theorem nf_650 : (flatC nwT)[650]? = some (Jvm.Cond.eq (Jvm.Term.length (Jvm.Term.field (Jvm.Term.string "BasketFlock$CommandText" 38) "java/lang/String" "value" "[B")) (Jvm.Term.int (9 : Int32))) := by decide +kernel
theorem nf_651 : (flatC nwT)[651]? = some (Jvm.Cond.eq (Jvm.Term.elem (Jvm.Term.field (Jvm.Term.string "BasketFlock$CommandText" 38) "java/lang/String" "value" "[B") (Jvm.Term.int (0 : Int32))) (Jvm.Term.int (97 : Int32))) := by decide +kernel
theorem nf_652 : (flatC nwT)[652]? = some (Jvm.Cond.eq (Jvm.Term.elem (Jvm.Term.field (Jvm.Term.string "BasketFlock$CommandText" 38) "java/lang/String" "value" "[B") (Jvm.Term.int (1 : Int32))) (Jvm.Term.int (100 : Int32))) := by decide +kernel
theorem nf_653 : (flatC nwT)[653]? = some (Jvm.Cond.eq (Jvm.Term.elem (Jvm.Term.field (Jvm.Term.string "BasketFlock$CommandText" 38) "java/lang/String" "value" "[B") (Jvm.Term.int (2 : Int32))) (Jvm.Term.int (100 : Int32))) := by decide +kernel
theorem nf_654 : (flatC nwT)[654]? = some (Jvm.Cond.eq (Jvm.Term.elem (Jvm.Term.field (Jvm.Term.string "BasketFlock$CommandText" 38) "java/lang/String" "value" "[B") (Jvm.Term.int (3 : Int32))) (Jvm.Term.int (32 : Int32))) := by decide +kernel
theorem nf_655 : (flatC nwT)[655]? = some (Jvm.Cond.eq (Jvm.Term.elem (Jvm.Term.field (Jvm.Term.string "BasketFlock$CommandText" 38) "java/lang/String" "value" "[B") (Jvm.Term.int (4 : Int32))) (Jvm.Term.int (37 : Int32))) := by decide +kernel
theorem nf_656 : (flatC nwT)[656]? = some (Jvm.Cond.eq (Jvm.Term.elem (Jvm.Term.field (Jvm.Term.string "BasketFlock$CommandText" 38) "java/lang/String" "value" "[B") (Jvm.Term.int (5 : Int32))) (Jvm.Term.int (44 : Int32))) := by decide +kernel
theorem nf_657 : (flatC nwT)[657]? = some (Jvm.Cond.eq (Jvm.Term.elem (Jvm.Term.field (Jvm.Term.string "BasketFlock$CommandText" 38) "java/lang/String" "value" "[B") (Jvm.Term.int (6 : Int32))) (Jvm.Term.int (37 : Int32))) := by decide +kernel
theorem nf_658 : (flatC nwT)[658]? = some (Jvm.Cond.eq (Jvm.Term.elem (Jvm.Term.field (Jvm.Term.string "BasketFlock$CommandText" 38) "java/lang/String" "value" "[B") (Jvm.Term.int (7 : Int32))) (Jvm.Term.int (32 : Int32))) := by decide +kernel
theorem nf_659 : (flatC nwT)[659]? = some (Jvm.Cond.eq (Jvm.Term.elem (Jvm.Term.field (Jvm.Term.string "BasketFlock$CommandText" 38) "java/lang/String" "value" "[B") (Jvm.Term.int (8 : Int32))) (Jvm.Term.int (35 : Int32))) := by decide +kernel
theorem st_fo0 {args : Array Value} {s : State} (hg : nwT.before args s = true) : ∃ q : Nat × Nat, foP 0 q args s := by
  refine st_fo (i := 0) (by decide) (nw_at hg 647 nf_647) (nw_at hg 648 nf_648) (nw_at hg 649 nf_649) (nw_at hg 650 nf_650) (fun j hj => ?_)
  have hj2 : j < 9 := hj
  rcases (show j = 0 ∨ j = 1 ∨ j = 2 ∨ j = 3 ∨ j = 4 ∨ j = 5 ∨ j = 6 ∨ j = 7 ∨ j = 8 by omega) with h | h | h | h | h | h | h | h | h <;> subst h
  · exact (nw_at hg 651 nf_651)
  · exact (nw_at hg 652 nf_652)
  · exact (nw_at hg 653 nf_653)
  · exact (nw_at hg 654 nf_654)
  · exact (nw_at hg 655 nf_655)
  · exact (nw_at hg 656 nf_656)
  · exact (nw_at hg 657 nf_657)
  · exact (nw_at hg 658 nf_658)
  · exact (nw_at hg 659 nf_659)
theorem nf_661 : (flatC nwT)[661]? = some (Jvm.Cond.eq (Jvm.Term.field (Jvm.Term.string "BasketFlock$CommandText" 40) "java/lang/String" "coder" "B") (Jvm.Term.int (0 : Int32))) := by decide +kernel
theorem nf_662 : (flatC nwT)[662]? = some (Jvm.Cond.arrayOf (Jvm.Term.field (Jvm.Term.string "BasketFlock$CommandText" 40) "java/lang/String" "value" "[B") Jvm.ClassFile.FieldType.byte) := by decide +kernel
theorem nf_663 : (flatC nwT)[663]? = some (Jvm.Cond.eq (Jvm.Term.length (Jvm.Term.field (Jvm.Term.string "BasketFlock$CommandText" 40) "java/lang/String" "value" "[B")) (Jvm.Term.int (10 : Int32))) := by decide +kernel
theorem nf_664 : (flatC nwT)[664]? = some (Jvm.Cond.eq (Jvm.Term.elem (Jvm.Term.field (Jvm.Term.string "BasketFlock$CommandText" 40) "java/lang/String" "value" "[B") (Jvm.Term.int (0 : Int32))) (Jvm.Term.int (106 : Int32))) := by decide +kernel
theorem nf_665 : (flatC nwT)[665]? = some (Jvm.Cond.eq (Jvm.Term.elem (Jvm.Term.field (Jvm.Term.string "BasketFlock$CommandText" 40) "java/lang/String" "value" "[B") (Jvm.Term.int (1 : Int32))) (Jvm.Term.int (117 : Int32))) := by decide +kernel
theorem nf_666 : (flatC nwT)[666]? = some (Jvm.Cond.eq (Jvm.Term.elem (Jvm.Term.field (Jvm.Term.string "BasketFlock$CommandText" 40) "java/lang/String" "value" "[B") (Jvm.Term.int (2 : Int32))) (Jvm.Term.int (109 : Int32))) := by decide +kernel
theorem nf_667 : (flatC nwT)[667]? = some (Jvm.Cond.eq (Jvm.Term.elem (Jvm.Term.field (Jvm.Term.string "BasketFlock$CommandText" 40) "java/lang/String" "value" "[B") (Jvm.Term.int (3 : Int32))) (Jvm.Term.int (112 : Int32))) := by decide +kernel
theorem nf_668 : (flatC nwT)[668]? = some (Jvm.Cond.eq (Jvm.Term.elem (Jvm.Term.field (Jvm.Term.string "BasketFlock$CommandText" 40) "java/lang/String" "value" "[B") (Jvm.Term.int (4 : Int32))) (Jvm.Term.int (32 : Int32))) := by decide +kernel
theorem nf_669 : (flatC nwT)[669]? = some (Jvm.Cond.eq (Jvm.Term.elem (Jvm.Term.field (Jvm.Term.string "BasketFlock$CommandText" 40) "java/lang/String" "value" "[B") (Jvm.Term.int (5 : Int32))) (Jvm.Term.int (35 : Int32))) := by decide +kernel
theorem nf_670 : (flatC nwT)[670]? = some (Jvm.Cond.eq (Jvm.Term.elem (Jvm.Term.field (Jvm.Term.string "BasketFlock$CommandText" 40) "java/lang/String" "value" "[B") (Jvm.Term.int (6 : Int32))) (Jvm.Term.int (32 : Int32))) := by decide +kernel
theorem nf_671 : (flatC nwT)[671]? = some (Jvm.Cond.eq (Jvm.Term.elem (Jvm.Term.field (Jvm.Term.string "BasketFlock$CommandText" 40) "java/lang/String" "value" "[B") (Jvm.Term.int (7 : Int32))) (Jvm.Term.int (37 : Int32))) := by decide +kernel
theorem nf_672 : (flatC nwT)[672]? = some (Jvm.Cond.eq (Jvm.Term.elem (Jvm.Term.field (Jvm.Term.string "BasketFlock$CommandText" 40) "java/lang/String" "value" "[B") (Jvm.Term.int (8 : Int32))) (Jvm.Term.int (44 : Int32))) := by decide +kernel
theorem nf_673 : (flatC nwT)[673]? = some (Jvm.Cond.eq (Jvm.Term.elem (Jvm.Term.field (Jvm.Term.string "BasketFlock$CommandText" 40) "java/lang/String" "value" "[B") (Jvm.Term.int (9 : Int32))) (Jvm.Term.int (37 : Int32))) := by decide +kernel
theorem st_fo1 {args : Array Value} {s : State} (hg : nwT.before args s = true) : ∃ q : Nat × Nat, foP 1 q args s := by
  refine st_fo (i := 1) (by decide) (nw_at hg 660 nf_660) (nw_at hg 661 nf_661) (nw_at hg 662 nf_662) (nw_at hg 663 nf_663) (fun j hj => ?_)
  have hj2 : j < 10 := hj
  rcases (show j = 0 ∨ j = 1 ∨ j = 2 ∨ j = 3 ∨ j = 4 ∨ j = 5 ∨ j = 6 ∨ j = 7 ∨ j = 8 ∨ j = 9 by omega) with h | h | h | h | h | h | h | h | h | h <;> subst h
  · exact (nw_at hg 664 nf_664)
  · exact (nw_at hg 665 nf_665)
  · exact (nw_at hg 666 nf_666)
  · exact (nw_at hg 667 nf_667)
  · exact (nw_at hg 668 nf_668)
  · exact (nw_at hg 669 nf_669)
  · exact (nw_at hg 670 nf_670)
  · exact (nw_at hg 671 nf_671)
  · exact (nw_at hg 672 nf_672)
  · exact (nw_at hg 673 nf_673)
theorem nf_675 : (flatC nwT)[675]? = some (Jvm.Cond.eq (Jvm.Term.field (Jvm.Term.string "BasketFlock$CommandText" 42) "java/lang/String" "coder" "B") (Jvm.Term.int (0 : Int32))) := by decide +kernel
theorem nf_676 : (flatC nwT)[676]? = some (Jvm.Cond.arrayOf (Jvm.Term.field (Jvm.Term.string "BasketFlock$CommandText" 42) "java/lang/String" "value" "[B") Jvm.ClassFile.FieldType.byte) := by decide +kernel
theorem nf_677 : (flatC nwT)[677]? = some (Jvm.Cond.eq (Jvm.Term.length (Jvm.Term.field (Jvm.Term.string "BasketFlock$CommandText" 42) "java/lang/String" "value" "[B")) (Jvm.Term.int (10 : Int32))) := by decide +kernel
theorem nf_678 : (flatC nwT)[678]? = some (Jvm.Cond.eq (Jvm.Term.elem (Jvm.Term.field (Jvm.Term.string "BasketFlock$CommandText" 42) "java/lang/String" "value" "[B") (Jvm.Term.int (0 : Int32))) (Jvm.Term.int (104 : Int32))) := by decide +kernel
theorem nf_679 : (flatC nwT)[679]? = some (Jvm.Cond.eq (Jvm.Term.elem (Jvm.Term.field (Jvm.Term.string "BasketFlock$CommandText" 42) "java/lang/String" "value" "[B") (Jvm.Term.int (1 : Int32))) (Jvm.Term.int (97 : Int32))) := by decide +kernel
theorem nf_680 : (flatC nwT)[680]? = some (Jvm.Cond.eq (Jvm.Term.elem (Jvm.Term.field (Jvm.Term.string "BasketFlock$CommandText" 42) "java/lang/String" "value" "[B") (Jvm.Term.int (2 : Int32))) (Jvm.Term.int (110 : Int32))) := by decide +kernel
theorem nf_681 : (flatC nwT)[681]? = some (Jvm.Cond.eq (Jvm.Term.elem (Jvm.Term.field (Jvm.Term.string "BasketFlock$CommandText" 42) "java/lang/String" "value" "[B") (Jvm.Term.int (3 : Int32))) (Jvm.Term.int (100 : Int32))) := by decide +kernel
theorem nf_682 : (flatC nwT)[682]? = some (Jvm.Cond.eq (Jvm.Term.elem (Jvm.Term.field (Jvm.Term.string "BasketFlock$CommandText" 42) "java/lang/String" "value" "[B") (Jvm.Term.int (4 : Int32))) (Jvm.Term.int (108 : Int32))) := by decide +kernel
theorem nf_683 : (flatC nwT)[683]? = some (Jvm.Cond.eq (Jvm.Term.elem (Jvm.Term.field (Jvm.Term.string "BasketFlock$CommandText" 42) "java/lang/String" "value" "[B") (Jvm.Term.int (5 : Int32))) (Jvm.Term.int (101 : Int32))) := by decide +kernel
theorem nf_684 : (flatC nwT)[684]? = some (Jvm.Cond.eq (Jvm.Term.elem (Jvm.Term.field (Jvm.Term.string "BasketFlock$CommandText" 42) "java/lang/String" "value" "[B") (Jvm.Term.int (6 : Int32))) (Jvm.Term.int (32 : Int32))) := by decide +kernel
theorem nf_685 : (flatC nwT)[685]? = some (Jvm.Cond.eq (Jvm.Term.elem (Jvm.Term.field (Jvm.Term.string "BasketFlock$CommandText" 42) "java/lang/String" "value" "[B") (Jvm.Term.int (7 : Int32))) (Jvm.Term.int (35 : Int32))) := by decide +kernel
theorem nf_686 : (flatC nwT)[686]? = some (Jvm.Cond.eq (Jvm.Term.elem (Jvm.Term.field (Jvm.Term.string "BasketFlock$CommandText" 42) "java/lang/String" "value" "[B") (Jvm.Term.int (8 : Int32))) (Jvm.Term.int (32 : Int32))) := by decide +kernel
theorem nf_687 : (flatC nwT)[687]? = some (Jvm.Cond.eq (Jvm.Term.elem (Jvm.Term.field (Jvm.Term.string "BasketFlock$CommandText" 42) "java/lang/String" "value" "[B") (Jvm.Term.int (9 : Int32))) (Jvm.Term.int (35 : Int32))) := by decide +kernel
theorem st_fo2 {args : Array Value} {s : State} (hg : nwT.before args s = true) : ∃ q : Nat × Nat, foP 2 q args s := by
  refine st_fo (i := 2) (by decide) (nw_at hg 674 nf_674) (nw_at hg 675 nf_675) (nw_at hg 676 nf_676) (nw_at hg 677 nf_677) (fun j hj => ?_)
  have hj2 : j < 10 := hj
  rcases (show j = 0 ∨ j = 1 ∨ j = 2 ∨ j = 3 ∨ j = 4 ∨ j = 5 ∨ j = 6 ∨ j = 7 ∨ j = 8 ∨ j = 9 by omega) with h | h | h | h | h | h | h | h | h | h <;> subst h
  · exact (nw_at hg 678 nf_678)
  · exact (nw_at hg 679 nf_679)
  · exact (nw_at hg 680 nf_680)
  · exact (nw_at hg 681 nf_681)
  · exact (nw_at hg 682 nf_682)
  · exact (nw_at hg 683 nf_683)
  · exact (nw_at hg 684 nf_684)
  · exact (nw_at hg 685 nf_685)
  · exact (nw_at hg 686 nf_686)
  · exact (nw_at hg 687 nf_687)
theorem nf_689 : (flatC nwT)[689]? = some (Jvm.Cond.eq (Jvm.Term.field (Jvm.Term.string "BasketFlock$CommandText" 44) "java/lang/String" "coder" "B") (Jvm.Term.int (0 : Int32))) := by decide +kernel
theorem nf_690 : (flatC nwT)[690]? = some (Jvm.Cond.arrayOf (Jvm.Term.field (Jvm.Term.string "BasketFlock$CommandText" 44) "java/lang/String" "value" "[B") Jvm.ClassFile.FieldType.byte) := by decide +kernel
theorem nf_691 : (flatC nwT)[691]? = some (Jvm.Cond.eq (Jvm.Term.length (Jvm.Term.field (Jvm.Term.string "BasketFlock$CommandText" 44) "java/lang/String" "value" "[B")) (Jvm.Term.int (9 : Int32))) := by decide +kernel
theorem nf_692 : (flatC nwT)[692]? = some (Jvm.Cond.eq (Jvm.Term.elem (Jvm.Term.field (Jvm.Term.string "BasketFlock$CommandText" 44) "java/lang/String" "value" "[B") (Jvm.Term.int (0 : Int32))) (Jvm.Term.int (99 : Int32))) := by decide +kernel
theorem nf_693 : (flatC nwT)[693]? = some (Jvm.Cond.eq (Jvm.Term.elem (Jvm.Term.field (Jvm.Term.string "BasketFlock$CommandText" 44) "java/lang/String" "value" "[B") (Jvm.Term.int (1 : Int32))) (Jvm.Term.int (108 : Int32))) := by decide +kernel
theorem nf_694 : (flatC nwT)[694]? = some (Jvm.Cond.eq (Jvm.Term.elem (Jvm.Term.field (Jvm.Term.string "BasketFlock$CommandText" 44) "java/lang/String" "value" "[B") (Jvm.Term.int (2 : Int32))) (Jvm.Term.int (111 : Int32))) := by decide +kernel
theorem nf_695 : (flatC nwT)[695]? = some (Jvm.Cond.eq (Jvm.Term.elem (Jvm.Term.field (Jvm.Term.string "BasketFlock$CommandText" 44) "java/lang/String" "value" "[B") (Jvm.Term.int (3 : Int32))) (Jvm.Term.int (117 : Int32))) := by decide +kernel
theorem nf_696 : (flatC nwT)[696]? = some (Jvm.Cond.eq (Jvm.Term.elem (Jvm.Term.field (Jvm.Term.string "BasketFlock$CommandText" 44) "java/lang/String" "value" "[B") (Jvm.Term.int (4 : Int32))) (Jvm.Term.int (100 : Int32))) := by decide +kernel
theorem nf_697 : (flatC nwT)[697]? = some (Jvm.Cond.eq (Jvm.Term.elem (Jvm.Term.field (Jvm.Term.string "BasketFlock$CommandText" 44) "java/lang/String" "value" "[B") (Jvm.Term.int (5 : Int32))) (Jvm.Term.int (32 : Int32))) := by decide +kernel
theorem nf_698 : (flatC nwT)[698]? = some (Jvm.Cond.eq (Jvm.Term.elem (Jvm.Term.field (Jvm.Term.string "BasketFlock$CommandText" 44) "java/lang/String" "value" "[B") (Jvm.Term.int (6 : Int32))) (Jvm.Term.int (37 : Int32))) := by decide +kernel
theorem nf_699 : (flatC nwT)[699]? = some (Jvm.Cond.eq (Jvm.Term.elem (Jvm.Term.field (Jvm.Term.string "BasketFlock$CommandText" 44) "java/lang/String" "value" "[B") (Jvm.Term.int (7 : Int32))) (Jvm.Term.int (44 : Int32))) := by decide +kernel
theorem nf_700 : (flatC nwT)[700]? = some (Jvm.Cond.eq (Jvm.Term.elem (Jvm.Term.field (Jvm.Term.string "BasketFlock$CommandText" 44) "java/lang/String" "value" "[B") (Jvm.Term.int (8 : Int32))) (Jvm.Term.int (37 : Int32))) := by decide +kernel
theorem st_fo3 {args : Array Value} {s : State} (hg : nwT.before args s = true) : ∃ q : Nat × Nat, foP 3 q args s := by
  refine st_fo (i := 3) (by decide) (nw_at hg 688 nf_688) (nw_at hg 689 nf_689) (nw_at hg 690 nf_690) (nw_at hg 691 nf_691) (fun j hj => ?_)
  have hj2 : j < 9 := hj
  rcases (show j = 0 ∨ j = 1 ∨ j = 2 ∨ j = 3 ∨ j = 4 ∨ j = 5 ∨ j = 6 ∨ j = 7 ∨ j = 8 by omega) with h | h | h | h | h | h | h | h | h <;> subst h
  · exact (nw_at hg 692 nf_692)
  · exact (nw_at hg 693 nf_693)
  · exact (nw_at hg 694 nf_694)
  · exact (nw_at hg 695 nf_695)
  · exact (nw_at hg 696 nf_696)
  · exact (nw_at hg 697 nf_697)
  · exact (nw_at hg 698 nf_698)
  · exact (nw_at hg 699 nf_699)
  · exact (nw_at hg 700 nf_700)
theorem nf_702 : (flatC nwT)[702]? = some (Jvm.Cond.eq (Jvm.Term.field (Jvm.Term.string "BasketFlock$CommandText" 46) "java/lang/String" "coder" "B") (Jvm.Term.int (0 : Int32))) := by decide +kernel
theorem nf_703 : (flatC nwT)[703]? = some (Jvm.Cond.arrayOf (Jvm.Term.field (Jvm.Term.string "BasketFlock$CommandText" 46) "java/lang/String" "value" "[B") Jvm.ClassFile.FieldType.byte) := by decide +kernel
theorem nf_704 : (flatC nwT)[704]? = some (Jvm.Cond.eq (Jvm.Term.length (Jvm.Term.field (Jvm.Term.string "BasketFlock$CommandText" 46) "java/lang/String" "value" "[B")) (Jvm.Term.int (9 : Int32))) := by decide +kernel
theorem nf_705 : (flatC nwT)[705]? = some (Jvm.Cond.eq (Jvm.Term.elem (Jvm.Term.field (Jvm.Term.string "BasketFlock$CommandText" 46) "java/lang/String" "value" "[B") (Jvm.Term.int (0 : Int32))) (Jvm.Term.int (99 : Int32))) := by decide +kernel
theorem nf_706 : (flatC nwT)[706]? = some (Jvm.Cond.eq (Jvm.Term.elem (Jvm.Term.field (Jvm.Term.string "BasketFlock$CommandText" 46) "java/lang/String" "value" "[B") (Jvm.Term.int (1 : Int32))) (Jvm.Term.int (108 : Int32))) := by decide +kernel
theorem nf_707 : (flatC nwT)[707]? = some (Jvm.Cond.eq (Jvm.Term.elem (Jvm.Term.field (Jvm.Term.string "BasketFlock$CommandText" 46) "java/lang/String" "value" "[B") (Jvm.Term.int (2 : Int32))) (Jvm.Term.int (101 : Int32))) := by decide +kernel
theorem nf_708 : (flatC nwT)[708]? = some (Jvm.Cond.eq (Jvm.Term.elem (Jvm.Term.field (Jvm.Term.string "BasketFlock$CommandText" 46) "java/lang/String" "value" "[B") (Jvm.Term.int (3 : Int32))) (Jvm.Term.int (97 : Int32))) := by decide +kernel
theorem nf_709 : (flatC nwT)[709]? = some (Jvm.Cond.eq (Jvm.Term.elem (Jvm.Term.field (Jvm.Term.string "BasketFlock$CommandText" 46) "java/lang/String" "value" "[B") (Jvm.Term.int (4 : Int32))) (Jvm.Term.int (114 : Int32))) := by decide +kernel
theorem nf_710 : (flatC nwT)[710]? = some (Jvm.Cond.eq (Jvm.Term.elem (Jvm.Term.field (Jvm.Term.string "BasketFlock$CommandText" 46) "java/lang/String" "value" "[B") (Jvm.Term.int (5 : Int32))) (Jvm.Term.int (32 : Int32))) := by decide +kernel
theorem nf_711 : (flatC nwT)[711]? = some (Jvm.Cond.eq (Jvm.Term.elem (Jvm.Term.field (Jvm.Term.string "BasketFlock$CommandText" 46) "java/lang/String" "value" "[B") (Jvm.Term.int (6 : Int32))) (Jvm.Term.int (37 : Int32))) := by decide +kernel
theorem nf_712 : (flatC nwT)[712]? = some (Jvm.Cond.eq (Jvm.Term.elem (Jvm.Term.field (Jvm.Term.string "BasketFlock$CommandText" 46) "java/lang/String" "value" "[B") (Jvm.Term.int (7 : Int32))) (Jvm.Term.int (44 : Int32))) := by decide +kernel
theorem nf_713 : (flatC nwT)[713]? = some (Jvm.Cond.eq (Jvm.Term.elem (Jvm.Term.field (Jvm.Term.string "BasketFlock$CommandText" 46) "java/lang/String" "value" "[B") (Jvm.Term.int (8 : Int32))) (Jvm.Term.int (37 : Int32))) := by decide +kernel
theorem st_fo4 {args : Array Value} {s : State} (hg : nwT.before args s = true) : ∃ q : Nat × Nat, foP 4 q args s := by
  refine st_fo (i := 4) (by decide) (nw_at hg 701 nf_701) (nw_at hg 702 nf_702) (nw_at hg 703 nf_703) (nw_at hg 704 nf_704) (fun j hj => ?_)
  have hj2 : j < 9 := hj
  rcases (show j = 0 ∨ j = 1 ∨ j = 2 ∨ j = 3 ∨ j = 4 ∨ j = 5 ∨ j = 6 ∨ j = 7 ∨ j = 8 by omega) with h | h | h | h | h | h | h | h | h <;> subst h
  · exact (nw_at hg 705 nf_705)
  · exact (nw_at hg 706 nf_706)
  · exact (nw_at hg 707 nf_707)
  · exact (nw_at hg 708 nf_708)
  · exact (nw_at hg 709 nf_709)
  · exact (nw_at hg 710 nf_710)
  · exact (nw_at hg 711 nf_711)
  · exact (nw_at hg 712 nf_712)
  · exact (nw_at hg 713 nf_713)
theorem nf_715 : (flatC nwT)[715]? = some (Jvm.Cond.eq (Jvm.Term.field (Jvm.Term.string "BasketFlock$CommandText" 48) "java/lang/String" "coder" "B") (Jvm.Term.int (0 : Int32))) := by decide +kernel
theorem nf_716 : (flatC nwT)[716]? = some (Jvm.Cond.arrayOf (Jvm.Term.field (Jvm.Term.string "BasketFlock$CommandText" 48) "java/lang/String" "value" "[B") Jvm.ClassFile.FieldType.byte) := by decide +kernel
theorem nf_717 : (flatC nwT)[717]? = some (Jvm.Cond.eq (Jvm.Term.length (Jvm.Term.field (Jvm.Term.string "BasketFlock$CommandText" 48) "java/lang/String" "value" "[B")) (Jvm.Term.int (6 : Int32))) := by decide +kernel
theorem nf_718 : (flatC nwT)[718]? = some (Jvm.Cond.eq (Jvm.Term.elem (Jvm.Term.field (Jvm.Term.string "BasketFlock$CommandText" 48) "java/lang/String" "value" "[B") (Jvm.Term.int (0 : Int32))) (Jvm.Term.int (116 : Int32))) := by decide +kernel
theorem nf_719 : (flatC nwT)[719]? = some (Jvm.Cond.eq (Jvm.Term.elem (Jvm.Term.field (Jvm.Term.string "BasketFlock$CommandText" 48) "java/lang/String" "value" "[B") (Jvm.Term.int (1 : Int32))) (Jvm.Term.int (117 : Int32))) := by decide +kernel
theorem nf_720 : (flatC nwT)[720]? = some (Jvm.Cond.eq (Jvm.Term.elem (Jvm.Term.field (Jvm.Term.string "BasketFlock$CommandText" 48) "java/lang/String" "value" "[B") (Jvm.Term.int (2 : Int32))) (Jvm.Term.int (114 : Int32))) := by decide +kernel
theorem nf_721 : (flatC nwT)[721]? = some (Jvm.Cond.eq (Jvm.Term.elem (Jvm.Term.field (Jvm.Term.string "BasketFlock$CommandText" 48) "java/lang/String" "value" "[B") (Jvm.Term.int (3 : Int32))) (Jvm.Term.int (110 : Int32))) := by decide +kernel
theorem nf_722 : (flatC nwT)[722]? = some (Jvm.Cond.eq (Jvm.Term.elem (Jvm.Term.field (Jvm.Term.string "BasketFlock$CommandText" 48) "java/lang/String" "value" "[B") (Jvm.Term.int (4 : Int32))) (Jvm.Term.int (32 : Int32))) := by decide +kernel
theorem nf_723 : (flatC nwT)[723]? = some (Jvm.Cond.eq (Jvm.Term.elem (Jvm.Term.field (Jvm.Term.string "BasketFlock$CommandText" 48) "java/lang/String" "value" "[B") (Jvm.Term.int (5 : Int32))) (Jvm.Term.int (35 : Int32))) := by decide +kernel
theorem st_fo5 {args : Array Value} {s : State} (hg : nwT.before args s = true) : ∃ q : Nat × Nat, foP 5 q args s := by
  refine st_fo (i := 5) (by decide) (nw_at hg 714 nf_714) (nw_at hg 715 nf_715) (nw_at hg 716 nf_716) (nw_at hg 717 nf_717) (fun j hj => ?_)
  have hj2 : j < 6 := hj
  rcases (show j = 0 ∨ j = 1 ∨ j = 2 ∨ j = 3 ∨ j = 4 ∨ j = 5 by omega) with h | h | h | h | h | h <;> subst h
  · exact (nw_at hg 718 nf_718)
  · exact (nw_at hg 719 nf_719)
  · exact (nw_at hg 720 nf_720)
  · exact (nw_at hg 721 nf_721)
  · exact (nw_at hg 722 nf_722)
  · exact (nw_at hg 723 nf_723)
theorem nf_725 : (flatC nwT)[725]? = some (Jvm.Cond.eq (Jvm.Term.field (Jvm.Term.string "BasketFlock$CommandText" 50) "java/lang/String" "coder" "B") (Jvm.Term.int (0 : Int32))) := by decide +kernel
theorem nf_726 : (flatC nwT)[726]? = some (Jvm.Cond.arrayOf (Jvm.Term.field (Jvm.Term.string "BasketFlock$CommandText" 50) "java/lang/String" "value" "[B") Jvm.ClassFile.FieldType.byte) := by decide +kernel
theorem nf_727 : (flatC nwT)[727]? = some (Jvm.Cond.eq (Jvm.Term.length (Jvm.Term.field (Jvm.Term.string "BasketFlock$CommandText" 50) "java/lang/String" "value" "[B")) (Jvm.Term.int (8 : Int32))) := by decide +kernel
theorem nf_728 : (flatC nwT)[728]? = some (Jvm.Cond.eq (Jvm.Term.elem (Jvm.Term.field (Jvm.Term.string "BasketFlock$CommandText" 50) "java/lang/String" "value" "[B") (Jvm.Term.int (0 : Int32))) (Jvm.Term.int (103 : Int32))) := by decide +kernel
theorem nf_729 : (flatC nwT)[729]? = some (Jvm.Cond.eq (Jvm.Term.elem (Jvm.Term.field (Jvm.Term.string "BasketFlock$CommandText" 50) "java/lang/String" "value" "[B") (Jvm.Term.int (1 : Int32))) (Jvm.Term.int (111 : Int32))) := by decide +kernel
theorem nf_730 : (flatC nwT)[730]? = some (Jvm.Cond.eq (Jvm.Term.elem (Jvm.Term.field (Jvm.Term.string "BasketFlock$CommandText" 50) "java/lang/String" "value" "[B") (Jvm.Term.int (2 : Int32))) (Jvm.Term.int (97 : Int32))) := by decide +kernel
theorem nf_731 : (flatC nwT)[731]? = some (Jvm.Cond.eq (Jvm.Term.elem (Jvm.Term.field (Jvm.Term.string "BasketFlock$CommandText" 50) "java/lang/String" "value" "[B") (Jvm.Term.int (3 : Int32))) (Jvm.Term.int (108 : Int32))) := by decide +kernel
theorem nf_732 : (flatC nwT)[732]? = some (Jvm.Cond.eq (Jvm.Term.elem (Jvm.Term.field (Jvm.Term.string "BasketFlock$CommandText" 50) "java/lang/String" "value" "[B") (Jvm.Term.int (4 : Int32))) (Jvm.Term.int (32 : Int32))) := by decide +kernel
theorem nf_733 : (flatC nwT)[733]? = some (Jvm.Cond.eq (Jvm.Term.elem (Jvm.Term.field (Jvm.Term.string "BasketFlock$CommandText" 50) "java/lang/String" "value" "[B") (Jvm.Term.int (5 : Int32))) (Jvm.Term.int (37 : Int32))) := by decide +kernel
theorem nf_734 : (flatC nwT)[734]? = some (Jvm.Cond.eq (Jvm.Term.elem (Jvm.Term.field (Jvm.Term.string "BasketFlock$CommandText" 50) "java/lang/String" "value" "[B") (Jvm.Term.int (6 : Int32))) (Jvm.Term.int (44 : Int32))) := by decide +kernel
theorem nf_735 : (flatC nwT)[735]? = some (Jvm.Cond.eq (Jvm.Term.elem (Jvm.Term.field (Jvm.Term.string "BasketFlock$CommandText" 50) "java/lang/String" "value" "[B") (Jvm.Term.int (7 : Int32))) (Jvm.Term.int (37 : Int32))) := by decide +kernel
theorem st_fo6 {args : Array Value} {s : State} (hg : nwT.before args s = true) : ∃ q : Nat × Nat, foP 6 q args s := by
  refine st_fo (i := 6) (by decide) (nw_at hg 724 nf_724) (nw_at hg 725 nf_725) (nw_at hg 726 nf_726) (nw_at hg 727 nf_727) (fun j hj => ?_)
  have hj2 : j < 8 := hj
  rcases (show j = 0 ∨ j = 1 ∨ j = 2 ∨ j = 3 ∨ j = 4 ∨ j = 5 ∨ j = 6 ∨ j = 7 by omega) with h | h | h | h | h | h | h | h <;> subst h
  · exact (nw_at hg 728 nf_728)
  · exact (nw_at hg 729 nf_729)
  · exact (nw_at hg 730 nf_730)
  · exact (nw_at hg 731 nf_731)
  · exact (nw_at hg 732 nf_732)
  · exact (nw_at hg 733 nf_733)
  · exact (nw_at hg 734 nf_734)
  · exact (nw_at hg 735 nf_735)
theorem nf_737 : (flatC nwT)[737]? = some (Jvm.Cond.eq (Jvm.Term.field (Jvm.Term.string "BasketFlock$CommandText" 52) "java/lang/String" "coder" "B") (Jvm.Term.int (0 : Int32))) := by decide +kernel
theorem nf_738 : (flatC nwT)[738]? = some (Jvm.Cond.arrayOf (Jvm.Term.field (Jvm.Term.string "BasketFlock$CommandText" 52) "java/lang/String" "value" "[B") Jvm.ClassFile.FieldType.byte) := by decide +kernel
theorem nf_739 : (flatC nwT)[739]? = some (Jvm.Cond.eq (Jvm.Term.length (Jvm.Term.field (Jvm.Term.string "BasketFlock$CommandText" 52) "java/lang/String" "value" "[B")) (Jvm.Term.int (6 : Int32))) := by decide +kernel
theorem nf_740 : (flatC nwT)[740]? = some (Jvm.Cond.eq (Jvm.Term.elem (Jvm.Term.field (Jvm.Term.string "BasketFlock$CommandText" 52) "java/lang/String" "value" "[B") (Jvm.Term.int (0 : Int32))) (Jvm.Term.int (107 : Int32))) := by decide +kernel
theorem nf_741 : (flatC nwT)[741]? = some (Jvm.Cond.eq (Jvm.Term.elem (Jvm.Term.field (Jvm.Term.string "BasketFlock$CommandText" 52) "java/lang/String" "value" "[B") (Jvm.Term.int (1 : Int32))) (Jvm.Term.int (101 : Int32))) := by decide +kernel
theorem nf_742 : (flatC nwT)[742]? = some (Jvm.Cond.eq (Jvm.Term.elem (Jvm.Term.field (Jvm.Term.string "BasketFlock$CommandText" 52) "java/lang/String" "value" "[B") (Jvm.Term.int (2 : Int32))) (Jvm.Term.int (101 : Int32))) := by decide +kernel
theorem nf_743 : (flatC nwT)[743]? = some (Jvm.Cond.eq (Jvm.Term.elem (Jvm.Term.field (Jvm.Term.string "BasketFlock$CommandText" 52) "java/lang/String" "value" "[B") (Jvm.Term.int (3 : Int32))) (Jvm.Term.int (112 : Int32))) := by decide +kernel
theorem nf_744 : (flatC nwT)[744]? = some (Jvm.Cond.eq (Jvm.Term.elem (Jvm.Term.field (Jvm.Term.string "BasketFlock$CommandText" 52) "java/lang/String" "value" "[B") (Jvm.Term.int (4 : Int32))) (Jvm.Term.int (32 : Int32))) := by decide +kernel
theorem nf_745 : (flatC nwT)[745]? = some (Jvm.Cond.eq (Jvm.Term.elem (Jvm.Term.field (Jvm.Term.string "BasketFlock$CommandText" 52) "java/lang/String" "value" "[B") (Jvm.Term.int (5 : Int32))) (Jvm.Term.int (35 : Int32))) := by decide +kernel
theorem st_fo7 {args : Array Value} {s : State} (hg : nwT.before args s = true) : ∃ q : Nat × Nat, foP 7 q args s := by
  refine st_fo (i := 7) (by decide) (nw_at hg 736 nf_736) (nw_at hg 737 nf_737) (nw_at hg 738 nf_738) (nw_at hg 739 nf_739) (fun j hj => ?_)
  have hj2 : j < 6 := hj
  rcases (show j = 0 ∨ j = 1 ∨ j = 2 ∨ j = 3 ∨ j = 4 ∨ j = 5 by omega) with h | h | h | h | h | h <;> subst h
  · exact (nw_at hg 740 nf_740)
  · exact (nw_at hg 741 nf_741)
  · exact (nw_at hg 742 nf_742)
  · exact (nw_at hg 743 nf_743)
  · exact (nw_at hg 744 nf_744)
  · exact (nw_at hg 745 nf_745)
theorem nf_747 : (flatC nwT)[747]? = some (Jvm.Cond.eq (Jvm.Term.field (Jvm.Term.string "BasketFlock$CommandText" 54) "java/lang/String" "coder" "B") (Jvm.Term.int (0 : Int32))) := by decide +kernel
theorem nf_748 : (flatC nwT)[748]? = some (Jvm.Cond.arrayOf (Jvm.Term.field (Jvm.Term.string "BasketFlock$CommandText" 54) "java/lang/String" "value" "[B") Jvm.ClassFile.FieldType.byte) := by decide +kernel
theorem nf_749 : (flatC nwT)[749]? = some (Jvm.Cond.eq (Jvm.Term.length (Jvm.Term.field (Jvm.Term.string "BasketFlock$CommandText" 54) "java/lang/String" "value" "[B")) (Jvm.Term.int (6 : Int32))) := by decide +kernel
theorem nf_750 : (flatC nwT)[750]? = some (Jvm.Cond.eq (Jvm.Term.elem (Jvm.Term.field (Jvm.Term.string "BasketFlock$CommandText" 54) "java/lang/String" "value" "[B") (Jvm.Term.int (0 : Int32))) (Jvm.Term.int (115 : Int32))) := by decide +kernel
theorem nf_751 : (flatC nwT)[751]? = some (Jvm.Cond.eq (Jvm.Term.elem (Jvm.Term.field (Jvm.Term.string "BasketFlock$CommandText" 54) "java/lang/String" "value" "[B") (Jvm.Term.int (1 : Int32))) (Jvm.Term.int (116 : Int32))) := by decide +kernel
theorem nf_752 : (flatC nwT)[752]? = some (Jvm.Cond.eq (Jvm.Term.elem (Jvm.Term.field (Jvm.Term.string "BasketFlock$CommandText" 54) "java/lang/String" "value" "[B") (Jvm.Term.int (2 : Int32))) (Jvm.Term.int (101 : Int32))) := by decide +kernel
theorem nf_753 : (flatC nwT)[753]? = some (Jvm.Cond.eq (Jvm.Term.elem (Jvm.Term.field (Jvm.Term.string "BasketFlock$CommandText" 54) "java/lang/String" "value" "[B") (Jvm.Term.int (3 : Int32))) (Jvm.Term.int (112 : Int32))) := by decide +kernel
theorem nf_754 : (flatC nwT)[754]? = some (Jvm.Cond.eq (Jvm.Term.elem (Jvm.Term.field (Jvm.Term.string "BasketFlock$CommandText" 54) "java/lang/String" "value" "[B") (Jvm.Term.int (4 : Int32))) (Jvm.Term.int (32 : Int32))) := by decide +kernel
theorem nf_755 : (flatC nwT)[755]? = some (Jvm.Cond.eq (Jvm.Term.elem (Jvm.Term.field (Jvm.Term.string "BasketFlock$CommandText" 54) "java/lang/String" "value" "[B") (Jvm.Term.int (5 : Int32))) (Jvm.Term.int (37 : Int32))) := by decide +kernel
theorem st_fo8 {args : Array Value} {s : State} (hg : nwT.before args s = true) : ∃ q : Nat × Nat, foP 8 q args s := by
  refine st_fo (i := 8) (by decide) (nw_at hg 746 nf_746) (nw_at hg 747 nf_747) (nw_at hg 748 nf_748) (nw_at hg 749 nf_749) (fun j hj => ?_)
  have hj2 : j < 6 := hj
  rcases (show j = 0 ∨ j = 1 ∨ j = 2 ∨ j = 3 ∨ j = 4 ∨ j = 5 by omega) with h | h | h | h | h | h <;> subst h
  · exact (nw_at hg 750 nf_750)
  · exact (nw_at hg 751 nf_751)
  · exact (nw_at hg 752 nf_752)
  · exact (nw_at hg 753 nf_753)
  · exact (nw_at hg 754 nf_754)
  · exact (nw_at hg 755 nf_755)
theorem st_fos {args : Array Value} {s : State} (hg : nwT.before args s = true) : ∀ i : Nat, ∃ q : Nat × Nat, i < 9 → foP i q args s := by
  intro i
  by_cases h : i < 9
  · rcases (show i = 0 ∨ i = 1 ∨ i = 2 ∨ i = 3 ∨ i = 4 ∨ i = 5 ∨ i = 6 ∨ i = 7 ∨ i = 8 by omega) with e | e | e | e | e | e | e | e | e <;> subst e
    · obtain ⟨q, hq⟩ := st_fo0 hg; exact ⟨q, fun _ => hq⟩
    · obtain ⟨q, hq⟩ := st_fo1 hg; exact ⟨q, fun _ => hq⟩
    · obtain ⟨q, hq⟩ := st_fo2 hg; exact ⟨q, fun _ => hq⟩
    · obtain ⟨q, hq⟩ := st_fo3 hg; exact ⟨q, fun _ => hq⟩
    · obtain ⟨q, hq⟩ := st_fo4 hg; exact ⟨q, fun _ => hq⟩
    · obtain ⟨q, hq⟩ := st_fo5 hg; exact ⟨q, fun _ => hq⟩
    · obtain ⟨q, hq⟩ := st_fo6 hg; exact ⟨q, fun _ => hq⟩
    · obtain ⟨q, hq⟩ := st_fo7 hg; exact ⟨q, fun _ => hq⟩
    · obtain ⟨q, hq⟩ := st_fo8 hg; exact ⟨q, fun _ => hq⟩
  · exact ⟨(0, 0), fun h2 => absurd h2 h⟩
theorem va_OF_fn {o n d : String} {v w : Value} {t : Nat} {A : Nat → Prop} {U : State} {H : Heap} (h1 : va_OF o n d v t A U H) (h2 : va_OF o n d w t A U H) : v = w := by
  obtain ⟨cf, k, i, f, cell, a1, -, a3, -, a5, -⟩ := h1
  obtain ⟨cf', k', i', f', cell', b1, -, b3, -, b5, -⟩ := h2
  have e1 := Option.some.inj (a1.symm.trans b1)
  have e2 := Option.some.inj (a3.symm.trans b3)
  injection e1 with _ e1
  injection e1 with _ e1
  injection e1 with _ e1
  subst e1
  subst e2
  exact Option.some.inj (a5.symm.trans b5)
theorem va_T_fn {ty : FieldType} {t N N' : Nat} {f g : Nat → Value} {A : Nat → Prop} {U : State} {H : Heap} (h1 : va_T ty t N f A U H) (h2 : va_T ty t N' g A U H) {j : Nat} (hj : j < N) (hj2 : j < N') : f j = g j := by
  obtain ⟨cell, a1, -, -, -, -, a6, -⟩ := h1
  obtain ⟨cell', b1, -, -, -, -, b6, -⟩ := h2
  have e := Option.some.inj (a1.symm.trans b1)
  subst e
  exact Option.some.inj ((a6 j hj).symm.trans (b6 j hj2))
theorem st_dif : ∀ i, i < 9 → ∀ j, j < 9 → i ≠ j → (eFb.getD i []).getD 0 0 ≠ (eFb.getD j []).getD 0 0 ∨ (eFb.getD i []).getD 2 0 ≠ (eFb.getD j []).getD 2 0 := by decide +kernel
theorem st_len : ∀ i, i < 9 → 2 < eFl.getD i 0 := by decide +kernel
theorem st_S {args : Array Value} {s : State} {q : Nat → Nat × Nat} (h : ∀ i, i < 9 → foP i (q i) args s) : vk_S 9 eFl eFb (fun i => (q i).1) (fun i => (q i).2) (nwA s) s s.heap := by
  refine ⟨fun i hi => (h i hi).2, fun i j hi hj e => ?_⟩
  by_cases c : i = j
  · exact c
  · exfalso
    have e : (q i).1 = (q j).1 := e
    have v1 := (h i hi).2.2.2.1
    have v2 := (h j hj).2.2.2.1
    rw [e] at v1
    have e2 := va_OF_fn v1 v2
    injection e2 with e2
    have t1 := (h i hi).2.2.2.2
    have t2 := (h j hj).2.2.2.2
    rw [e2] at t1
    have l1 := st_len i hi
    have l2 := st_len j hj
    rcases st_dif i hi j hj c with w | w
    · have := va_T_fn t1 t2 (j := 0) (by omega) (by omega)
      injection this with this
      exact w this
    · have := va_T_fn t1 t2 (j := 2) (by omega) (by omega)
      injection this with this
      exact w this
/-- the class of arrays of rows, from the word that says they can be made -/
theorem st_ovA {args : Array Value} {s : State} {t : FieldType} (h : (Cond.arrayOver (.array t)).before args s = true) : ∃ cA : ClassId, ArrOfT s cA (.array t) ∧ va_RA s cA (.array t) := by
  have h2 : (Cond.arrayOver (.array t)).holds args s none s [] = true := h
  simp only [Cond.holds, Cond.value, beq_iff_eq] at h2
  cases hc : s.vm.findClass (FieldType.array t).toString with
  | none => rw [hc] at h2; simp at h2
  | some comp =>
    rw [hc] at h2
    simp only [Option.bind_some, Option.bind_eq_some_iff, Option.map_eq_some_iff] at h2
    obtain ⟨c, hi, k, hk, hb⟩ := h2
    cases hkind : k.kind with
    | array component ty =>
      rw [hkind] at hb
      simp only [Bool.and_eq_true, decide_eq_true_eq] at hb
      exact ⟨c, fun n z => ⟨fun q hq => (by cases hq), k, hk, component, by rw [hkind, hb.1]⟩, hb.2⟩
    | _ => rw [hkind] at hb; cases hb
theorem st_ovO {args : Array Value} {s : State} {C : String} (h : (Cond.arrayOver (.object C)).before args s = true) : ∃ cA : ClassId, ArrOfT s cA (.object C) ∧ va_RA s cA (.object C) := by
  obtain ⟨comp, c, k, h1, -, h3, h4, h5⟩ := Cond.arrayOver_spec (args := args) (first := s) (o := none) (s := s) (idx := []) h
  exact ⟨c, fun n z => ⟨fun q hq => (by cases hq), k, h3, comp, h4⟩, k, comp, h3, h4, h1, h5⟩
theorem st_arr {args : Array Value} {s : State} {ty : FieldType} (hp : ∀ C, ty ≠ .object C) (h : (Cond.arrayClass ty).before args s = true) : ∃ cA : ClassId, ArrOfT s cA ty ∧ va_RA s cA ty := by
  obtain ⟨c, k, comp, h1, h2, h3⟩ := Cond.arrayClass_spec (args := args) (first := s) (o := none) (s := s) (idx := []) h
  refine ⟨c, fun n z => ⟨fun q hq => (by cases hq), k, h2, comp, h3⟩, ?_⟩
  cases ty with
  | object C => exact absurd rfl (hp C)
  | _ => exact h1
theorem st_tys {args : Array Value} {s : State} (hts : ∀ w ∈ lw_tbl, w.before args s = true) : ∃ t : Nat → ClassId, ∀ (k : Nat) (ty : FieldType), eTy[k]? = some ty → ArrOfT s (t k) ty ∧ va_RA s (t k) ty := by
  obtain ⟨c0, h0⟩ := st_arr (s := s) (ty := .int) (fun C h => by cases h) (hts _ (tq_1 (List.mem_of_getElem? (i := 54) rfl)))
  obtain ⟨c1, h1⟩ := st_arr (s := s) (ty := .long) (fun C h => by cases h) (hts _ (tq_1 (List.mem_of_getElem? (i := 72) rfl)))
  obtain ⟨c2, h2⟩ := st_arr (s := s) (ty := .char) (fun C h => by cases h) (hts _ (tq_1 (List.mem_of_getElem? (i := 198) rfl)))
  obtain ⟨c3, h3⟩ := st_arr (s := s) (ty := .double) (fun C h => by cases h) (hts _ (tq_8 (List.mem_of_getElem? (i := 40) rfl)))
  obtain ⟨c4, h4⟩ := st_ovO (s := s) (C := "BasketFlock$Flock") (hts _ (tq_1 (List.mem_of_getElem? (i := 144) rfl)))
  obtain ⟨c5, h5⟩ := st_ovA (s := s) (t := .int) (hts _ (tq_1 (List.mem_of_getElem? (i := 177) rfl)))
  refine ⟨fun k => if k = 0 then c0 else if k = 1 then c1 else if k = 2 then c2 else if k = 3 then c3 else if k = 4 then c4 else c5, fun k ty hq => ?_⟩
  match k, hq with
  | 0, hq => cases hq; exact h0
  | 1, hq => cases hq; exact h1
  | 2, hq => cases hq; exact h2
  | 3, hq => cases hq; exact h3
  | 4, hq => cases hq; exact h4
  | 5, hq => cases hq; exact h5
  | k + 6, hq => simp [eTy] at hq
theorem st_cls {args : Array Value} {s : State} (hts : ∀ w ∈ eTB, w.before args s = true) : ∃ (dC : Nat → ClassId) (dI : Nat → Nat → Nat), ∀ (k : Nat) (q : vw_C), eCl[k]? = some q → u_Kn s q.1 q.2.1 q.2.2 (dC k) (dI k) := by
  obtain ⟨c0, i0, h0⟩ := u_known (C := RX0) (T := TX0) (N := 2) (n := 2) hts inX0 (hts _ wd_1_40)
  obtain ⟨c1, i1, h1⟩ := u_known (C := RX1) (T := TX1) (N := 6) (n := 6) hts inX1 (hts _ wd_1_171)
  obtain ⟨c2, i2, h2⟩ := u_known (C := RX2) (T := TX2) (N := 16) (n := 16) hts inX2 (hts _ wd_1_34)
  obtain ⟨c3, i3, h3⟩ := u_known (C := RX3) (T := TX3) (N := 2) (n := 2) hts inX3 (hts _ wd_1_158)
  obtain ⟨c4, i4, h4⟩ := u_known (C := RX4) (T := TX4) (N := 3) (n := 3) hts inX4 (hts _ wd_1_138)
  obtain ⟨c5, i5, h5⟩ := u_known (C := RX5) (T := TX5) (N := 3) (n := 3) hts inX5 (hts _ wd_1_56)
  obtain ⟨c6, i6, h6⟩ := u_known (C := RX6) (T := TX6) (N := 13) (n := 13) hts inX6 (hts _ wd_1_26)
  obtain ⟨c7, i7, h7⟩ := u_known (C := RX7) (T := TX7) (N := 18) (n := 18) hts inX7 (hts _ wd_6_30)
  refine ⟨fun k => if k = 0 then c0 else if k = 1 then c1 else if k = 2 then c2 else if k = 3 then c3 else if k = 4 then c4 else if k = 5 then c5 else if k = 6 then c6 else c7, fun k => if k = 0 then i0 else if k = 1 then i1 else if k = 2 then i2 else if k = 3 then i3 else if k = 4 then i4 else if k = 5 then i5 else if k = 6 then i6 else i7, fun k q hq => ?_⟩
  match k, hq with
  | 0, hq => cases hq; exact h0
  | 1, hq => cases hq; exact h1
  | 2, hq => cases hq; exact h2
  | 3, hq => cases hq; exact h3
  | 4, hq => cases hq; exact h4
  | 5, hq => cases hq; exact h5
  | 6, hq => cases hq; exact h6
  | 7, hq => cases hq; exact h7
  | k + 8, hq => simp at hq
theorem nf_6 : (flatC nwT)[6]? = some (Jvm.Cond.eq (Jvm.Term.static "java/lang/String" "COMPACT_STRINGS" "Z") (Jvm.Term.int (1 : Int32))) := by decide +kernel
theorem nf_4 : (flatC nwT)[4]? = some (Jvm.Cond.isRef (Jvm.Term.static "java/lang/Throwable" "UNASSIGNED_STACK" "[Ljava/lang/StackTraceElement;")) := by decide +kernel
theorem nf_5 : (flatC nwT)[5]? = some (Jvm.Cond.isRef (Jvm.Term.static "java/lang/Throwable" "SUPPRESSED_SENTINEL" "Ljava/util/List;")) := by decide +kernel
theorem nf_7 : (flatC nwT)[7]? = some (Jvm.Cond.isRef (Jvm.Term.static "jdk/internal/util/Preconditions" "SIOOBE_FORMATTER" "Ljava/util/function/BiFunction;")) := by decide +kernel
/-- all that stays as it is, at the start -/
theorem st_amb {args : Array Value} {s : State} (hts : ∀ w ∈ lw_tbl, w.before args s = true) (hg : nwT.before args s = true) : ∃ (S : Nat → Nat) (G : eG), eAmb S G (nwA s) s s.heap := by
  have htb : ∀ w ∈ eTB, w.before args s = true := fun w h => hts w (List.mem_filter.mp h).1
  obtain ⟨dC, dI, hC⟩ := st_cls htb
  obtain ⟨t, ht⟩ := st_tys hts
  obtain ⟨q, hq⟩ := Classical.axiomOfChoice (st_fos hg)
  have h0 : ∀ i : Nat, ∃ a : Nat, ∀ r, eStr[i]? = some r → vk_R r.1 r.2.1 r.2.2 a s := by
    intro i
    cases hi : eStr[i]? with
    | none => exact ⟨0, fun r h => by cases h⟩
    | some r0 =>
      obtain ⟨a, ha⟩ := st_str hts hg r0 (List.mem_of_getElem? hi)
      exact ⟨a, fun r h => by cases h; exact ha⟩
  obtain ⟨ad, had⟩ := Classical.axiomOfChoice h0
  have hk : ∀ i, i < 9 → ad (27 + i) = (q i).1 := by
    intro i hi
    have g : ∃ tx, eStr[27 + i]? = some ("BasketFlock$CommandText", 38 + 2 * i, tx) := by
      rcases (show i = 0 ∨ i = 1 ∨ i = 2 ∨ i = 3 ∨ i = 4 ∨ i = 5 ∨ i = 6 ∨ i = 7 ∨ i = 8 by omega) with e | e | e | e | e | e | e | e | e <;> subst e <;> exact ⟨_, rfl⟩
    obtain ⟨tx, g⟩ := g
    have g1 := (had (27 + i) _ g).2
    have g2 := (hq i hi).1
    have g3 : some (Value.ref (ad (27 + i))) = some (Value.ref (q i).1) := g1.symm.trans g2
    injection g3 with g3
    injection g3
  refine ⟨fun i => if i < 36 then ad i else (q (i - 36)).2, ((dC, dI), t), ⟨hC, fun k r hr => ?_⟩, fun i r hr => ?_, vx_Zqof (hts _ (tq_3 (List.mem_of_getElem? (i := 40) rfl))) (hts _ (tq_1 (List.mem_of_getElem? (i := 10) rfl))) (nw_at hg 4 nf_4) nwA_in, vx_Zqof (hts _ (tq_3 (List.mem_of_getElem? (i := 42) rfl))) (hts _ (tq_1 (List.mem_of_getElem? (i := 10) rfl))) (nw_at hg 5 nf_5) nwA_in, st_nn hts, st_nc hg, st_cs hts, va_AO.of (hts _ (tq_1 (List.mem_of_getElem? (i := 144) rfl))), va_AOA.of (hts _ (tq_1 (List.mem_of_getElem? (i := 177) rfl))), ?_, va_Zof (hts _ (tq_5 (List.mem_of_getElem? (i := 90) rfl))) (hts _ (tq_1 (List.mem_of_getElem? (i := 20) rfl))) (va_eqt (nw_at hg 6 nf_6)) nwA_in, va_Zqof (hts _ (tq_5 (List.mem_of_getElem? (i := 106) rfl))) (hts _ (tq_1 (List.mem_of_getElem? (i := 22) rfl))) (nw_at hg 7 nf_7) nwA_in, st_dc hts⟩
  · unfold eTys at hr
    rw [List.getElem?_mapIdx] at hr
    cases hy : eTy[k]? with
    | none => rw [hy] at hr; cases hr
    | some ty =>
      rw [hy] at hr
      cases hr
      exact ht k ty hy
  · have hlt : i < 36 := (List.getElem?_eq_some_iff.mp hr).1
    show vk_R r.1 r.2.1 r.2.2 (if i < 36 then ad i else (q (i - 36)).2) s
    rw [if_pos hlt]
    exact had i r hr
  · have hS := st_S hq
    refine ⟨fun i hi => ?_, fun i j hi hj e => ?_⟩
    · show va_O "java/lang/String" (if 27 + i < 36 then ad (27 + i) else (q (27 + i - 36)).2) (nwA s) s s.heap ∧ va_OF "java/lang/String" "coder" "B" (.int 0) (if 27 + i < 36 then ad (27 + i) else (q (27 + i - 36)).2) (nwA s) s s.heap ∧ va_OF "java/lang/String" "value" "[B" (.ref (if 36 + i < 36 then ad (36 + i) else (q (36 + i - 36)).2)) (if 27 + i < 36 then ad (27 + i) else (q (27 + i - 36)).2) (nwA s) s s.heap ∧ va_T .byte (if 36 + i < 36 then ad (36 + i) else (q (36 + i - 36)).2) (eFl.getD i 0) (fun j => .int ((eFb.getD i []).getD j 0)) (nwA s) s s.heap
      rw [if_pos (by omega), if_neg (by omega), hk i hi, show 36 + i - 36 = i by omega]
      exact hS.1 i hi
    · have e : (if 27 + i < 36 then ad (27 + i) else (q (27 + i - 36)).2) = (if 27 + j < 36 then ad (27 + j) else (q (27 + j - 36)).2) := e
      rw [if_pos (by omega), if_pos (by omega), hk i hi, hk j hj] at e
      exact hS.2 i j hi hj e
