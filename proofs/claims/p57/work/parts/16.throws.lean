/-! ===== the places that throw ===== -/
def thq (w : Cond) : Bool := decide (w = .laysStatic Bundle.tN "UNASSIGNED_STACK" Bundle.steD) || (decide (w = .laysStatic Bundle.tN "SUPPRESSED_SENTINEL" Bundle.listD) || ((decide (w ∈ eTB) && w.onTables) || ((eCs.any fun q => decide (w = .castable q.1 q.2)) || (eDc.any fun q => decide (w = .declares q)))))
theorem thq_of {w : Cond} (h : thq w = true) : w = .laysStatic Bundle.tN "UNASSIGNED_STACK" Bundle.steD ∨ w = .laysStatic Bundle.tN "SUPPRESSED_SENTINEL" Bundle.listD ∨ (w ∈ eTB ∧ w.onTables = true) ∨ (∃ q ∈ eCs, w = .castable q.1 q.2) ∨ ∃ q ∈ eDc, w = .declares q := by
  simp only [thq, Bool.or_eq_true, Bool.and_eq_true, decide_eq_true_eq, List.any_eq_true] at h
  exact h
set_option maxRecDepth 100000 in
theorem thc_0b : ((Bundle.throwableAtoms).all thq) = true := by decide +kernel
set_option maxRecDepth 100000 in
theorem thc_1b : ((Bundle.throwableSAtoms).all thq) = true := by decide +kernel
set_option maxRecDepth 100000 in
theorem tha_X6_110_2b : ((Bundle.passSAtoms "java/util/NoSuchElementException" "java/lang/RuntimeException" 13 ⟨#[0x2a, 0x2b, 0xb7, 0x00, 0x0d, 0xb1]⟩).all thq) = true := by decide +kernel
set_option maxRecDepth 100000 in
theorem thc_3b : ((Bundle.chainSAtoms "java/lang/RuntimeException" ["java/lang/Exception"]).all thq) = true := by decide +kernel
set_option maxRecDepth 100000 in
theorem tha_X6_110_4b : ((nx_tail RX6 110 "java/util/NoSuchElementException").all thq) = true := by decide +kernel
theorem th_X6_108 : eTn RX6 106 108 110 "java/util/NoSuchElementException" "no basket is in the cell" 0 "java/lang/RuntimeException" ["java/lang/Exception"] 13 ⟨#[0x2a, 0x2b, 0xb7, 0x00, 0x0d, 0xb1]⟩ := ⟨by decide +kernel, by decide +kernel, by decide +kernel, wd_2_125, wd_1_15, wd_2_126, rfl, ⟨by decide +kernel, by decide +kernel, by decide +kernel, by decide +kernel⟩, fun w hw => thq_of (by
  rcases hw with hw | hw | hw | hw | hw
  · exact List.all_eq_true.mp thc_0b w hw
  · exact List.all_eq_true.mp thc_1b w hw
  · exact List.all_eq_true.mp tha_X6_110_2b w hw
  · exact List.all_eq_true.mp thc_3b w hw
  · exact List.all_eq_true.mp tha_X6_110_4b w hw)⟩
theorem th_X6_120 : eTn RX6 106 120 110 "java/util/NoSuchElementException" "there is no other basket" 1 "java/lang/RuntimeException" ["java/lang/Exception"] 13 ⟨#[0x2a, 0x2b, 0xb7, 0x00, 0x0d, 0xb1]⟩ := ⟨by decide +kernel, by decide +kernel, by decide +kernel, wd_2_125, wd_1_15, wd_2_126, rfl, ⟨by decide +kernel, by decide +kernel, by decide +kernel, by decide +kernel⟩, fun w hw => thq_of (by
  rcases hw with hw | hw | hw | hw | hw
  · exact List.all_eq_true.mp thc_0b w hw
  · exact List.all_eq_true.mp thc_1b w hw
  · exact List.all_eq_true.mp tha_X6_110_2b w hw
  · exact List.all_eq_true.mp thc_3b w hw
  · exact List.all_eq_true.mp tha_X6_110_4b w hw)⟩
theorem th_X6_240 : eTn RX6 106 240 110 "java/util/NoSuchElementException" "no remembered shape is the present one" 2 "java/lang/RuntimeException" ["java/lang/Exception"] 13 ⟨#[0x2a, 0x2b, 0xb7, 0x00, 0x0d, 0xb1]⟩ := ⟨by decide +kernel, by decide +kernel, by decide +kernel, wd_2_125, wd_1_15, wd_2_126, rfl, ⟨by decide +kernel, by decide +kernel, by decide +kernel, by decide +kernel⟩, fun w hw => thq_of (by
  rcases hw with hw | hw | hw | hw | hw
  · exact List.all_eq_true.mp thc_0b w hw
  · exact List.all_eq_true.mp thc_1b w hw
  · exact List.all_eq_true.mp tha_X6_110_2b w hw
  · exact List.all_eq_true.mp thc_3b w hw
  · exact List.all_eq_true.mp tha_X6_110_4b w hw)⟩
theorem th_X6_245 : eTn RX6 106 245 110 "java/util/NoSuchElementException" "there is no such rank" 3 "java/lang/RuntimeException" ["java/lang/Exception"] 13 ⟨#[0x2a, 0x2b, 0xb7, 0x00, 0x0d, 0xb1]⟩ := ⟨by decide +kernel, by decide +kernel, by decide +kernel, wd_2_125, wd_1_15, wd_2_126, rfl, ⟨by decide +kernel, by decide +kernel, by decide +kernel, by decide +kernel⟩, fun w hw => thq_of (by
  rcases hw with hw | hw | hw | hw | hw
  · exact List.all_eq_true.mp thc_0b w hw
  · exact List.all_eq_true.mp thc_1b w hw
  · exact List.all_eq_true.mp tha_X6_110_2b w hw
  · exact List.all_eq_true.mp thc_3b w hw
  · exact List.all_eq_true.mp tha_X6_110_4b w hw)⟩
set_option maxRecDepth 100000 in
theorem tha_X6_305_2b : ((Bundle.passSAtoms "java/lang/IndexOutOfBoundsException" "java/lang/RuntimeException" 7 ⟨#[0x2a, 0x2b, 0xb7, 0x00, 0x07, 0xb1]⟩).all thq) = true := by decide +kernel
set_option maxRecDepth 100000 in
theorem tha_X6_305_4b : ((nx_tail RX6 305 "java/lang/IndexOutOfBoundsException").all thq) = true := by decide +kernel
theorem th_X6_303 : eTn RX6 301 303 305 "java/lang/IndexOutOfBoundsException" "there is no such index" 4 "java/lang/RuntimeException" ["java/lang/Exception"] 7 ⟨#[0x2a, 0x2b, 0xb7, 0x00, 0x07, 0xb1]⟩ := ⟨by decide +kernel, by decide +kernel, by decide +kernel, wd_2_14, wd_1_12, wd_2_15, rfl, ⟨by decide +kernel, by decide +kernel, by decide +kernel, by decide +kernel⟩, fun w hw => thq_of (by
  rcases hw with hw | hw | hw | hw | hw
  · exact List.all_eq_true.mp thc_0b w hw
  · exact List.all_eq_true.mp thc_1b w hw
  · exact List.all_eq_true.mp tha_X6_305_2b w hw
  · exact List.all_eq_true.mp thc_3b w hw
  · exact List.all_eq_true.mp tha_X6_305_4b w hw)⟩
set_option maxRecDepth 100000 in
theorem tha_X6_310_2b : ((Bundle.passSAtoms "java/lang/ArithmeticException" "java/lang/RuntimeException" 7 ⟨#[0x2a, 0x2b, 0xb7, 0x00, 0x07, 0xb1]⟩).all thq) = true := by decide +kernel
set_option maxRecDepth 100000 in
theorem tha_X6_310_4b : ((nx_tail RX6 310 "java/lang/ArithmeticException").all thq) = true := by decide +kernel
theorem th_X6_308 : eTn RX6 306 308 310 "java/lang/ArithmeticException" "there are fewer than 2 baskets" 5 "java/lang/RuntimeException" ["java/lang/Exception"] 7 ⟨#[0x2a, 0x2b, 0xb7, 0x00, 0x07, 0xb1]⟩ := ⟨by decide +kernel, by decide +kernel, by decide +kernel, wd_3_88, wd_1_29, wd_3_89, rfl, ⟨by decide +kernel, by decide +kernel, by decide +kernel, by decide +kernel⟩, fun w hw => thq_of (by
  rcases hw with hw | hw | hw | hw | hw
  · exact List.all_eq_true.mp thc_0b w hw
  · exact List.all_eq_true.mp thc_1b w hw
  · exact List.all_eq_true.mp tha_X6_310_2b w hw
  · exact List.all_eq_true.mp thc_3b w hw
  · exact List.all_eq_true.mp tha_X6_310_4b w hw)⟩
theorem th_X6_317 : eTn RX6 306 317 310 "java/lang/ArithmeticException" "no baskets are linked" 6 "java/lang/RuntimeException" ["java/lang/Exception"] 7 ⟨#[0x2a, 0x2b, 0xb7, 0x00, 0x07, 0xb1]⟩ := ⟨by decide +kernel, by decide +kernel, by decide +kernel, wd_3_88, wd_1_29, wd_3_89, rfl, ⟨by decide +kernel, by decide +kernel, by decide +kernel, by decide +kernel⟩, fun w hw => thq_of (by
  rcases hw with hw | hw | hw | hw | hw
  · exact List.all_eq_true.mp thc_0b w hw
  · exact List.all_eq_true.mp thc_1b w hw
  · exact List.all_eq_true.mp tha_X6_310_2b w hw
  · exact List.all_eq_true.mp thc_3b w hw
  · exact List.all_eq_true.mp tha_X6_310_4b w hw)⟩
theorem th_X6_349 : eTn RX6 301 349 305 "java/lang/IndexOutOfBoundsException" "there is no such basket" 7 "java/lang/RuntimeException" ["java/lang/Exception"] 7 ⟨#[0x2a, 0x2b, 0xb7, 0x00, 0x07, 0xb1]⟩ := ⟨by decide +kernel, by decide +kernel, by decide +kernel, wd_2_14, wd_1_12, wd_2_15, rfl, ⟨by decide +kernel, by decide +kernel, by decide +kernel, by decide +kernel⟩, fun w hw => thq_of (by
  rcases hw with hw | hw | hw | hw | hw
  · exact List.all_eq_true.mp thc_0b w hw
  · exact List.all_eq_true.mp thc_1b w hw
  · exact List.all_eq_true.mp tha_X6_305_2b w hw
  · exact List.all_eq_true.mp thc_3b w hw
  · exact List.all_eq_true.mp tha_X6_305_4b w hw)⟩
set_option maxRecDepth 100000 in
theorem tha_X6_251_2b : ((Bundle.passSAtoms "java/lang/IllegalArgumentException" "java/lang/RuntimeException" 7 ⟨#[0x2a, 0x2b, 0xb7, 0x00, 0x07, 0xb1]⟩).all thq) = true := by decide +kernel
set_option maxRecDepth 100000 in
theorem tha_X6_251_4b : ((nx_tail RX6 251 "java/lang/IllegalArgumentException").all thq) = true := by decide +kernel
theorem th_X6_351 : eTn RX6 247 351 251 "java/lang/IllegalArgumentException" "a parameter is out of range" 8 "java/lang/RuntimeException" ["java/lang/Exception"] 7 ⟨#[0x2a, 0x2b, 0xb7, 0x00, 0x07, 0xb1]⟩ := ⟨by decide +kernel, by decide +kernel, by decide +kernel, wd_2_105, wd_1_13, wd_2_106, rfl, ⟨by decide +kernel, by decide +kernel, by decide +kernel, by decide +kernel⟩, fun w hw => thq_of (by
  rcases hw with hw | hw | hw | hw | hw
  · exact List.all_eq_true.mp thc_0b w hw
  · exact List.all_eq_true.mp thc_1b w hw
  · exact List.all_eq_true.mp tha_X6_251_2b w hw
  · exact List.all_eq_true.mp thc_3b w hw
  · exact List.all_eq_true.mp tha_X6_251_4b w hw)⟩
set_option maxRecDepth 100000 in
theorem tha_X6_259_2b : ((Bundle.passSAtoms "java/lang/IllegalStateException" "java/lang/RuntimeException" 7 ⟨#[0x2a, 0x2b, 0xb7, 0x00, 0x07, 0xb1]⟩).all thq) = true := by decide +kernel
set_option maxRecDepth 100000 in
theorem tha_X6_259_4b : ((nx_tail RX6 259 "java/lang/IllegalStateException").all thq) = true := by decide +kernel
theorem th_X6_353 : eTn RX6 255 353 259 "java/lang/IllegalStateException" "there are enough of them already" 9 "java/lang/RuntimeException" ["java/lang/Exception"] 7 ⟨#[0x2a, 0x2b, 0xb7, 0x00, 0x07, 0xb1]⟩ := ⟨by decide +kernel, by decide +kernel, by decide +kernel, wd_4_48, wd_1_14, wd_4_49, rfl, ⟨by decide +kernel, by decide +kernel, by decide +kernel, by decide +kernel⟩, fun w hw => thq_of (by
  rcases hw with hw | hw | hw | hw | hw
  · exact List.all_eq_true.mp thc_0b w hw
  · exact List.all_eq_true.mp thc_1b w hw
  · exact List.all_eq_true.mp tha_X6_259_2b w hw
  · exact List.all_eq_true.mp thc_3b w hw
  · exact List.all_eq_true.mp tha_X6_259_4b w hw)⟩
theorem th_X6_355 : eTn RX6 106 355 110 "java/util/NoSuchElementException" "what the call needs is not there" 10 "java/lang/RuntimeException" ["java/lang/Exception"] 13 ⟨#[0x2a, 0x2b, 0xb7, 0x00, 0x0d, 0xb1]⟩ := ⟨by decide +kernel, by decide +kernel, by decide +kernel, wd_2_125, wd_1_15, wd_2_126, rfl, ⟨by decide +kernel, by decide +kernel, by decide +kernel, by decide +kernel⟩, fun w hw => thq_of (by
  rcases hw with hw | hw | hw | hw | hw
  · exact List.all_eq_true.mp thc_0b w hw
  · exact List.all_eq_true.mp thc_1b w hw
  · exact List.all_eq_true.mp tha_X6_110_2b w hw
  · exact List.all_eq_true.mp thc_3b w hw
  · exact List.all_eq_true.mp tha_X6_110_4b w hw)⟩
set_option maxRecDepth 100000 in
theorem tha_X6_361_2b : ((Bundle.passSAtoms "java/lang/UnsupportedOperationException" "java/lang/RuntimeException" 7 ⟨#[0x2a, 0x2b, 0xb7, 0x00, 0x07, 0xb1]⟩).all thq) = true := by decide +kernel
set_option maxRecDepth 100000 in
theorem tha_X6_361_4b : ((nx_tail RX6 361 "java/lang/UnsupportedOperationException").all thq) = true := by decide +kernel
theorem th_X6_359 : eTn RX6 357 359 361 "java/lang/UnsupportedOperationException" "a basket is in the cell" 11 "java/lang/RuntimeException" ["java/lang/Exception"] 7 ⟨#[0x2a, 0x2b, 0xb7, 0x00, 0x07, 0xb1]⟩ := ⟨by decide +kernel, by decide +kernel, by decide +kernel, wd_4_65, wd_1_16, wd_4_66, rfl, ⟨by decide +kernel, by decide +kernel, by decide +kernel, by decide +kernel⟩, fun w hw => thq_of (by
  rcases hw with hw | hw | hw | hw | hw
  · exact List.all_eq_true.mp thc_0b w hw
  · exact List.all_eq_true.mp thc_1b w hw
  · exact List.all_eq_true.mp tha_X6_361_2b w hw
  · exact List.all_eq_true.mp thc_3b w hw
  · exact List.all_eq_true.mp tha_X6_361_4b w hw)⟩
theorem th_X6_362 : eTn RX6 357 362 361 "java/lang/UnsupportedOperationException" "the placing is refused" 12 "java/lang/RuntimeException" ["java/lang/Exception"] 7 ⟨#[0x2a, 0x2b, 0xb7, 0x00, 0x07, 0xb1]⟩ := ⟨by decide +kernel, by decide +kernel, by decide +kernel, wd_4_65, wd_1_16, wd_4_66, rfl, ⟨by decide +kernel, by decide +kernel, by decide +kernel, by decide +kernel⟩, fun w hw => thq_of (by
  rcases hw with hw | hw | hw | hw | hw
  · exact List.all_eq_true.mp thc_0b w hw
  · exact List.all_eq_true.mp thc_1b w hw
  · exact List.all_eq_true.mp tha_X6_361_2b w hw
  · exact List.all_eq_true.mp thc_3b w hw
  · exact List.all_eq_true.mp tha_X6_361_4b w hw)⟩
theorem th_X6_368 : eTn RX6 106 368 110 "java/util/NoSuchElementException" "there are no baskets" 13 "java/lang/RuntimeException" ["java/lang/Exception"] 13 ⟨#[0x2a, 0x2b, 0xb7, 0x00, 0x0d, 0xb1]⟩ := ⟨by decide +kernel, by decide +kernel, by decide +kernel, wd_2_125, wd_1_15, wd_2_126, rfl, ⟨by decide +kernel, by decide +kernel, by decide +kernel, by decide +kernel⟩, fun w hw => thq_of (by
  rcases hw with hw | hw | hw | hw | hw
  · exact List.all_eq_true.mp thc_0b w hw
  · exact List.all_eq_true.mp thc_1b w hw
  · exact List.all_eq_true.mp tha_X6_110_2b w hw
  · exact List.all_eq_true.mp thc_3b w hw
  · exact List.all_eq_true.mp tha_X6_110_4b w hw)⟩
theorem th_X6_373 : eTn RX6 247 373 251 "java/lang/IllegalArgumentException" "a coordinate is out of range" 14 "java/lang/RuntimeException" ["java/lang/Exception"] 7 ⟨#[0x2a, 0x2b, 0xb7, 0x00, 0x07, 0xb1]⟩ := ⟨by decide +kernel, by decide +kernel, by decide +kernel, wd_2_105, wd_1_13, wd_2_106, rfl, ⟨by decide +kernel, by decide +kernel, by decide +kernel, by decide +kernel⟩, fun w hw => thq_of (by
  rcases hw with hw | hw | hw | hw | hw
  · exact List.all_eq_true.mp thc_0b w hw
  · exact List.all_eq_true.mp thc_1b w hw
  · exact List.all_eq_true.mp tha_X6_251_2b w hw
  · exact List.all_eq_true.mp thc_3b w hw
  · exact List.all_eq_true.mp tha_X6_251_4b w hw)⟩
theorem th_X6_375 : eTn RX6 247 375 251 "java/lang/IllegalArgumentException" "the number of steps is out of range" 15 "java/lang/RuntimeException" ["java/lang/Exception"] 7 ⟨#[0x2a, 0x2b, 0xb7, 0x00, 0x07, 0xb1]⟩ := ⟨by decide +kernel, by decide +kernel, by decide +kernel, wd_2_105, wd_1_13, wd_2_106, rfl, ⟨by decide +kernel, by decide +kernel, by decide +kernel, by decide +kernel⟩, fun w hw => thq_of (by
  rcases hw with hw | hw | hw | hw | hw
  · exact List.all_eq_true.mp thc_0b w hw
  · exact List.all_eq_true.mp thc_1b w hw
  · exact List.all_eq_true.mp tha_X6_251_2b w hw
  · exact List.all_eq_true.mp thc_3b w hw
  · exact List.all_eq_true.mp tha_X6_251_4b w hw)⟩
