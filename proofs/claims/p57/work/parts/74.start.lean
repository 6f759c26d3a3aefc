/-! ===== the start: what the Statement gives of it ===== -/
theorem tq_1 {w : Cond} (h : w ∈ tables_1_1) : w ∈ lw_tbl := List.mem_append_right _ (List.mem_append_left _ h)
theorem tq_2 {w : Cond} (h : w ∈ tables_1_2) : w ∈ lw_tbl := List.mem_append_right _ (List.mem_append_right _ (List.mem_append_left _ h))
theorem tq_3 {w : Cond} (h : w ∈ tables_1_3) : w ∈ lw_tbl := List.mem_append_right _ (List.mem_append_right _ (List.mem_append_right _ (List.mem_append_left _ h)))
theorem tq_4 {w : Cond} (h : w ∈ tables_1_4) : w ∈ lw_tbl := List.mem_append_right _ (List.mem_append_right _ (List.mem_append_right _ (List.mem_append_right _ (List.mem_append_left _ h))))
theorem tq_5 {w : Cond} (h : w ∈ tables_1_5) : w ∈ lw_tbl := List.mem_append_right _ (List.mem_append_right _ (List.mem_append_right _ (List.mem_append_right _ (List.mem_append_right _ (List.mem_append_left _ h)))))
theorem tq_6 {w : Cond} (h : w ∈ tables_1_6) : w ∈ lw_tbl := List.mem_append_right _ (List.mem_append_right _ (List.mem_append_right _ (List.mem_append_right _ (List.mem_append_right _ (List.mem_append_right _ (h))))))
abbrev nwT : Cond := Jvm.Cond.and given_1 narrow_1
abbrev nwA (s : State) : Nat → Prop := fun q => s.heap.size ≤ q
theorem nw_at {args : Array Value} {s : State} (hg : nwT.before args s = true) (i : Nat) {w : Cond} (h : (flatC nwT)[i]? = some w) : w.before args s = true := flat_of_before _ hg w (List.mem_of_getElem? h)
theorem st_cs {args : Array Value} {s : State} (hts : ∀ w ∈ lw_tbl, w.before args s = true) : ∀ q ∈ eCs, eCa q.1 q.2 s := List.forall_mem_cons.mpr ⟨eCa.of (hts _ (tq_2 (List.mem_of_getElem? (i := 16) rfl))), List.forall_mem_cons.mpr ⟨eCa.of (hts _ (tq_2 (List.mem_of_getElem? (i := 107) rfl))), List.forall_mem_cons.mpr ⟨eCa.of (hts _ (tq_4 (List.mem_of_getElem? (i := 50) rfl))), List.forall_mem_cons.mpr ⟨eCa.of (hts _ (tq_2 (List.mem_of_getElem? (i := 127) rfl))), List.forall_mem_cons.mpr ⟨eCa.of (hts _ (tq_4 (List.mem_of_getElem? (i := 67) rfl))), List.forall_mem_cons.mpr ⟨eCa.of (hts _ (tq_3 (List.mem_of_getElem? (i := 163) rfl))), List.forall_mem_cons.mpr ⟨eCa.of (hts _ (tq_3 (List.mem_of_getElem? (i := 90) rfl))), List.forall_mem_cons.mpr ⟨eCa.of (hts _ (tq_6 (List.mem_of_getElem? (i := 37) rfl))), List.forall_mem_cons.mpr ⟨eCa.of (hts _ (tq_6 (List.mem_of_getElem? (i := 38) rfl))), List.forall_mem_cons.mpr ⟨eCa.of (hts _ (tq_6 (List.mem_of_getElem? (i := 39) rfl))), List.forall_mem_cons.mpr ⟨eCa.of (hts _ (tq_6 (List.mem_of_getElem? (i := 40) rfl))), List.forall_mem_cons.mpr ⟨eCa.of (hts _ (tq_6 (List.mem_of_getElem? (i := 41) rfl))), List.forall_mem_cons.mpr ⟨eCa.of (hts _ (tq_6 (List.mem_of_getElem? (i := 42) rfl))), List.forall_mem_cons.mpr ⟨eCa.of (hts _ (tq_6 (List.mem_of_getElem? (i := 43) rfl))), List.forall_mem_cons.mpr ⟨eCa.of (hts _ (tq_6 (List.mem_of_getElem? (i := 44) rfl))), List.forall_mem_cons.mpr ⟨eCa.of (hts _ (tq_6 (List.mem_of_getElem? (i := 45) rfl))), List.forall_mem_cons.mpr ⟨eCa.of (hts _ (tq_6 (List.mem_of_getElem? (i := 46) rfl))), List.forall_mem_cons.mpr ⟨eCa.of (hts _ (tq_6 (List.mem_of_getElem? (i := 47) rfl))), List.forall_mem_cons.mpr ⟨eCa.of (hts _ (tq_6 (List.mem_of_getElem? (i := 48) rfl))), List.forall_mem_cons.mpr ⟨eCa.of (hts _ (tq_6 (List.mem_of_getElem? (i := 49) rfl))), List.forall_mem_cons.mpr ⟨eCa.of (hts _ (tq_6 (List.mem_of_getElem? (i := 50) rfl))), List.forall_mem_cons.mpr ⟨eCa.of (hts _ (tq_6 (List.mem_of_getElem? (i := 51) rfl))), List.forall_mem_cons.mpr ⟨eCa.of (hts _ (tq_6 (List.mem_of_getElem? (i := 52) rfl))), List.forall_mem_cons.mpr ⟨eCa.of (hts _ (tq_6 (List.mem_of_getElem? (i := 53) rfl))), List.forall_mem_cons.mpr ⟨eCa.of (hts _ (tq_6 (List.mem_of_getElem? (i := 54) rfl))), fun _ h => absurd h List.not_mem_nil⟩⟩⟩⟩⟩⟩⟩⟩⟩⟩⟩⟩⟩⟩⟩⟩⟩⟩⟩⟩⟩⟩⟩⟩⟩
theorem nf_217 : (flatC nwT)[217]? = some (Jvm.Cond.not (Jvm.Cond.castable "BasketFlock" "java/lang/IllegalArgumentException")) := by decide +kernel
theorem nf_261 : (flatC nwT)[261]? = some (Jvm.Cond.not (Jvm.Cond.castable "BasketFlock" "java/lang/IllegalStateException")) := by decide +kernel
theorem nf_247 : (flatC nwT)[247]? = some (Jvm.Cond.not (Jvm.Cond.castable "BasketFlock" "java/lang/IndexOutOfBoundsException")) := by decide +kernel
theorem nf_276 : (flatC nwT)[276]? = some (Jvm.Cond.not (Jvm.Cond.castable "BasketFlock" "java/lang/UnsupportedOperationException")) := by decide +kernel
theorem nf_232 : (flatC nwT)[232]? = some (Jvm.Cond.not (Jvm.Cond.castable "BasketFlock" "java/util/NoSuchElementException")) := by decide +kernel
theorem nf_219 : (flatC nwT)[219]? = some (Jvm.Cond.not (Jvm.Cond.castable "BasketFlock$Clouds" "java/lang/IllegalArgumentException")) := by decide +kernel
theorem nf_263 : (flatC nwT)[263]? = some (Jvm.Cond.not (Jvm.Cond.castable "BasketFlock$Clouds" "java/lang/IllegalStateException")) := by decide +kernel
theorem nf_249 : (flatC nwT)[249]? = some (Jvm.Cond.not (Jvm.Cond.castable "BasketFlock$Clouds" "java/lang/IndexOutOfBoundsException")) := by decide +kernel
theorem nf_278 : (flatC nwT)[278]? = some (Jvm.Cond.not (Jvm.Cond.castable "BasketFlock$Clouds" "java/lang/UnsupportedOperationException")) := by decide +kernel
theorem nf_234 : (flatC nwT)[234]? = some (Jvm.Cond.not (Jvm.Cond.castable "BasketFlock$Clouds" "java/util/NoSuchElementException")) := by decide +kernel
theorem nf_223 : (flatC nwT)[223]? = some (Jvm.Cond.not (Jvm.Cond.castable "BasketFlock$CommandText" "java/lang/IllegalArgumentException")) := by decide +kernel
theorem nf_267 : (flatC nwT)[267]? = some (Jvm.Cond.not (Jvm.Cond.castable "BasketFlock$CommandText" "java/lang/IllegalStateException")) := by decide +kernel
theorem nf_253 : (flatC nwT)[253]? = some (Jvm.Cond.not (Jvm.Cond.castable "BasketFlock$CommandText" "java/lang/IndexOutOfBoundsException")) := by decide +kernel
theorem nf_282 : (flatC nwT)[282]? = some (Jvm.Cond.not (Jvm.Cond.castable "BasketFlock$CommandText" "java/lang/UnsupportedOperationException")) := by decide +kernel
theorem nf_238 : (flatC nwT)[238]? = some (Jvm.Cond.not (Jvm.Cond.castable "BasketFlock$CommandText" "java/util/NoSuchElementException")) := by decide +kernel
theorem nf_218 : (flatC nwT)[218]? = some (Jvm.Cond.not (Jvm.Cond.castable "BasketFlock$Flock" "java/lang/IllegalArgumentException")) := by decide +kernel
theorem nf_262 : (flatC nwT)[262]? = some (Jvm.Cond.not (Jvm.Cond.castable "BasketFlock$Flock" "java/lang/IllegalStateException")) := by decide +kernel
theorem nf_248 : (flatC nwT)[248]? = some (Jvm.Cond.not (Jvm.Cond.castable "BasketFlock$Flock" "java/lang/IndexOutOfBoundsException")) := by decide +kernel
theorem nf_277 : (flatC nwT)[277]? = some (Jvm.Cond.not (Jvm.Cond.castable "BasketFlock$Flock" "java/lang/UnsupportedOperationException")) := by decide +kernel
theorem nf_233 : (flatC nwT)[233]? = some (Jvm.Cond.not (Jvm.Cond.castable "BasketFlock$Flock" "java/util/NoSuchElementException")) := by decide +kernel
theorem nf_222 : (flatC nwT)[222]? = some (Jvm.Cond.not (Jvm.Cond.castable "BasketFlock$Formations" "java/lang/IllegalArgumentException")) := by decide +kernel
theorem nf_266 : (flatC nwT)[266]? = some (Jvm.Cond.not (Jvm.Cond.castable "BasketFlock$Formations" "java/lang/IllegalStateException")) := by decide +kernel
theorem nf_252 : (flatC nwT)[252]? = some (Jvm.Cond.not (Jvm.Cond.castable "BasketFlock$Formations" "java/lang/IndexOutOfBoundsException")) := by decide +kernel
theorem nf_281 : (flatC nwT)[281]? = some (Jvm.Cond.not (Jvm.Cond.castable "BasketFlock$Formations" "java/lang/UnsupportedOperationException")) := by decide +kernel
theorem nf_237 : (flatC nwT)[237]? = some (Jvm.Cond.not (Jvm.Cond.castable "BasketFlock$Formations" "java/util/NoSuchElementException")) := by decide +kernel
theorem nf_221 : (flatC nwT)[221]? = some (Jvm.Cond.not (Jvm.Cond.castable "BasketFlock$History" "java/lang/IllegalArgumentException")) := by decide +kernel
theorem nf_265 : (flatC nwT)[265]? = some (Jvm.Cond.not (Jvm.Cond.castable "BasketFlock$History" "java/lang/IllegalStateException")) := by decide +kernel
theorem nf_251 : (flatC nwT)[251]? = some (Jvm.Cond.not (Jvm.Cond.castable "BasketFlock$History" "java/lang/IndexOutOfBoundsException")) := by decide +kernel
theorem nf_280 : (flatC nwT)[280]? = some (Jvm.Cond.not (Jvm.Cond.castable "BasketFlock$History" "java/lang/UnsupportedOperationException")) := by decide +kernel
theorem nf_236 : (flatC nwT)[236]? = some (Jvm.Cond.not (Jvm.Cond.castable "BasketFlock$History" "java/util/NoSuchElementException")) := by decide +kernel
theorem nf_220 : (flatC nwT)[220]? = some (Jvm.Cond.not (Jvm.Cond.castable "BasketFlock$Shapes" "java/lang/IllegalArgumentException")) := by decide +kernel
theorem nf_264 : (flatC nwT)[264]? = some (Jvm.Cond.not (Jvm.Cond.castable "BasketFlock$Shapes" "java/lang/IllegalStateException")) := by decide +kernel
theorem nf_250 : (flatC nwT)[250]? = some (Jvm.Cond.not (Jvm.Cond.castable "BasketFlock$Shapes" "java/lang/IndexOutOfBoundsException")) := by decide +kernel
theorem nf_279 : (flatC nwT)[279]? = some (Jvm.Cond.not (Jvm.Cond.castable "BasketFlock$Shapes" "java/lang/UnsupportedOperationException")) := by decide +kernel
theorem nf_235 : (flatC nwT)[235]? = some (Jvm.Cond.not (Jvm.Cond.castable "BasketFlock$Shapes" "java/util/NoSuchElementException")) := by decide +kernel
theorem nf_231 : (flatC nwT)[231]? = some (Jvm.Cond.not (Jvm.Cond.castable "java/lang/ArithmeticException" "java/lang/IllegalArgumentException")) := by decide +kernel
theorem nf_275 : (flatC nwT)[275]? = some (Jvm.Cond.not (Jvm.Cond.castable "java/lang/ArithmeticException" "java/lang/IllegalStateException")) := by decide +kernel
theorem nf_260 : (flatC nwT)[260]? = some (Jvm.Cond.not (Jvm.Cond.castable "java/lang/ArithmeticException" "java/lang/IndexOutOfBoundsException")) := by decide +kernel
theorem nf_290 : (flatC nwT)[290]? = some (Jvm.Cond.not (Jvm.Cond.castable "java/lang/ArithmeticException" "java/lang/UnsupportedOperationException")) := by decide +kernel
theorem nf_246 : (flatC nwT)[246]? = some (Jvm.Cond.not (Jvm.Cond.castable "java/lang/ArithmeticException" "java/util/NoSuchElementException")) := by decide +kernel
theorem nf_228 : (flatC nwT)[228]? = some (Jvm.Cond.not (Jvm.Cond.castable "java/lang/ArrayIndexOutOfBoundsException" "java/lang/IllegalArgumentException")) := by decide +kernel
theorem nf_272 : (flatC nwT)[272]? = some (Jvm.Cond.not (Jvm.Cond.castable "java/lang/ArrayIndexOutOfBoundsException" "java/lang/IllegalStateException")) := by decide +kernel
theorem nf_287 : (flatC nwT)[287]? = some (Jvm.Cond.not (Jvm.Cond.castable "java/lang/ArrayIndexOutOfBoundsException" "java/lang/UnsupportedOperationException")) := by decide +kernel
theorem nf_243 : (flatC nwT)[243]? = some (Jvm.Cond.not (Jvm.Cond.castable "java/lang/ArrayIndexOutOfBoundsException" "java/util/NoSuchElementException")) := by decide +kernel
theorem nf_269 : (flatC nwT)[269]? = some (Jvm.Cond.not (Jvm.Cond.castable "java/lang/IllegalArgumentException" "java/lang/IllegalStateException")) := by decide +kernel
theorem nf_254 : (flatC nwT)[254]? = some (Jvm.Cond.not (Jvm.Cond.castable "java/lang/IllegalArgumentException" "java/lang/IndexOutOfBoundsException")) := by decide +kernel
theorem nf_284 : (flatC nwT)[284]? = some (Jvm.Cond.not (Jvm.Cond.castable "java/lang/IllegalArgumentException" "java/lang/UnsupportedOperationException")) := by decide +kernel
theorem nf_240 : (flatC nwT)[240]? = some (Jvm.Cond.not (Jvm.Cond.castable "java/lang/IllegalArgumentException" "java/util/NoSuchElementException")) := by decide +kernel
theorem nf_225 : (flatC nwT)[225]? = some (Jvm.Cond.not (Jvm.Cond.castable "java/lang/IllegalStateException" "java/lang/IllegalArgumentException")) := by decide +kernel
theorem nf_255 : (flatC nwT)[255]? = some (Jvm.Cond.not (Jvm.Cond.castable "java/lang/IllegalStateException" "java/lang/IndexOutOfBoundsException")) := by decide +kernel
theorem nf_285 : (flatC nwT)[285]? = some (Jvm.Cond.not (Jvm.Cond.castable "java/lang/IllegalStateException" "java/lang/UnsupportedOperationException")) := by decide +kernel
theorem nf_241 : (flatC nwT)[241]? = some (Jvm.Cond.not (Jvm.Cond.castable "java/lang/IllegalStateException" "java/util/NoSuchElementException")) := by decide +kernel
theorem nf_224 : (flatC nwT)[224]? = some (Jvm.Cond.not (Jvm.Cond.castable "java/lang/IndexOutOfBoundsException" "java/lang/IllegalArgumentException")) := by decide +kernel
theorem nf_268 : (flatC nwT)[268]? = some (Jvm.Cond.not (Jvm.Cond.castable "java/lang/IndexOutOfBoundsException" "java/lang/IllegalStateException")) := by decide +kernel
theorem nf_283 : (flatC nwT)[283]? = some (Jvm.Cond.not (Jvm.Cond.castable "java/lang/IndexOutOfBoundsException" "java/lang/UnsupportedOperationException")) := by decide +kernel
theorem nf_239 : (flatC nwT)[239]? = some (Jvm.Cond.not (Jvm.Cond.castable "java/lang/IndexOutOfBoundsException" "java/util/NoSuchElementException")) := by decide +kernel
theorem nf_230 : (flatC nwT)[230]? = some (Jvm.Cond.not (Jvm.Cond.castable "java/lang/String" "java/lang/IllegalArgumentException")) := by decide +kernel
theorem nf_274 : (flatC nwT)[274]? = some (Jvm.Cond.not (Jvm.Cond.castable "java/lang/String" "java/lang/IllegalStateException")) := by decide +kernel
theorem nf_259 : (flatC nwT)[259]? = some (Jvm.Cond.not (Jvm.Cond.castable "java/lang/String" "java/lang/IndexOutOfBoundsException")) := by decide +kernel
theorem nf_289 : (flatC nwT)[289]? = some (Jvm.Cond.not (Jvm.Cond.castable "java/lang/String" "java/lang/UnsupportedOperationException")) := by decide +kernel
theorem nf_245 : (flatC nwT)[245]? = some (Jvm.Cond.not (Jvm.Cond.castable "java/lang/String" "java/util/NoSuchElementException")) := by decide +kernel
theorem nf_229 : (flatC nwT)[229]? = some (Jvm.Cond.not (Jvm.Cond.castable "java/lang/StringBuilder" "java/lang/IllegalArgumentException")) := by decide +kernel
theorem nf_273 : (flatC nwT)[273]? = some (Jvm.Cond.not (Jvm.Cond.castable "java/lang/StringBuilder" "java/lang/IllegalStateException")) := by decide +kernel
theorem nf_258 : (flatC nwT)[258]? = some (Jvm.Cond.not (Jvm.Cond.castable "java/lang/StringBuilder" "java/lang/IndexOutOfBoundsException")) := by decide +kernel
theorem nf_288 : (flatC nwT)[288]? = some (Jvm.Cond.not (Jvm.Cond.castable "java/lang/StringBuilder" "java/lang/UnsupportedOperationException")) := by decide +kernel
theorem nf_244 : (flatC nwT)[244]? = some (Jvm.Cond.not (Jvm.Cond.castable "java/lang/StringBuilder" "java/util/NoSuchElementException")) := by decide +kernel
theorem nf_227 : (flatC nwT)[227]? = some (Jvm.Cond.not (Jvm.Cond.castable "java/lang/UnsupportedOperationException" "java/lang/IllegalArgumentException")) := by decide +kernel
theorem nf_271 : (flatC nwT)[271]? = some (Jvm.Cond.not (Jvm.Cond.castable "java/lang/UnsupportedOperationException" "java/lang/IllegalStateException")) := by decide +kernel
theorem nf_257 : (flatC nwT)[257]? = some (Jvm.Cond.not (Jvm.Cond.castable "java/lang/UnsupportedOperationException" "java/lang/IndexOutOfBoundsException")) := by decide +kernel
theorem nf_242 : (flatC nwT)[242]? = some (Jvm.Cond.not (Jvm.Cond.castable "java/lang/UnsupportedOperationException" "java/util/NoSuchElementException")) := by decide +kernel
theorem nf_226 : (flatC nwT)[226]? = some (Jvm.Cond.not (Jvm.Cond.castable "java/util/NoSuchElementException" "java/lang/IllegalArgumentException")) := by decide +kernel
theorem nf_270 : (flatC nwT)[270]? = some (Jvm.Cond.not (Jvm.Cond.castable "java/util/NoSuchElementException" "java/lang/IllegalStateException")) := by decide +kernel
theorem nf_256 : (flatC nwT)[256]? = some (Jvm.Cond.not (Jvm.Cond.castable "java/util/NoSuchElementException" "java/lang/IndexOutOfBoundsException")) := by decide +kernel
theorem nf_286 : (flatC nwT)[286]? = some (Jvm.Cond.not (Jvm.Cond.castable "java/util/NoSuchElementException" "java/lang/UnsupportedOperationException")) := by decide +kernel
theorem st_nc0 {args : Array Value} {s : State} (hg : nwT.before args s = true) : ∀ q ∈ ([("BasketFlock", "java/lang/IllegalArgumentException"), ("BasketFlock", "java/lang/IllegalStateException"), ("BasketFlock", "java/lang/IndexOutOfBoundsException"), ("BasketFlock", "java/lang/UnsupportedOperationException"), ("BasketFlock", "java/util/NoSuchElementException"), ("BasketFlock$Clouds", "java/lang/IllegalArgumentException"), ("BasketFlock$Clouds", "java/lang/IllegalStateException"), ("BasketFlock$Clouds", "java/lang/IndexOutOfBoundsException"), ("BasketFlock$Clouds", "java/lang/UnsupportedOperationException"), ("BasketFlock$Clouds", "java/util/NoSuchElementException")] : List (String × String)), va_Nc q.1 q.2 s := List.forall_mem_cons.mpr ⟨va_Nc.of (nw_at hg 217 nf_217), List.forall_mem_cons.mpr ⟨va_Nc.of (nw_at hg 261 nf_261), List.forall_mem_cons.mpr ⟨va_Nc.of (nw_at hg 247 nf_247), List.forall_mem_cons.mpr ⟨va_Nc.of (nw_at hg 276 nf_276), List.forall_mem_cons.mpr ⟨va_Nc.of (nw_at hg 232 nf_232), List.forall_mem_cons.mpr ⟨va_Nc.of (nw_at hg 219 nf_219), List.forall_mem_cons.mpr ⟨va_Nc.of (nw_at hg 263 nf_263), List.forall_mem_cons.mpr ⟨va_Nc.of (nw_at hg 249 nf_249), List.forall_mem_cons.mpr ⟨va_Nc.of (nw_at hg 278 nf_278), List.forall_mem_cons.mpr ⟨va_Nc.of (nw_at hg 234 nf_234), fun _ h => absurd h List.not_mem_nil⟩⟩⟩⟩⟩⟩⟩⟩⟩⟩
theorem st_nc1 {args : Array Value} {s : State} (hg : nwT.before args s = true) : ∀ q ∈ ([("BasketFlock$CommandText", "java/lang/IllegalArgumentException"), ("BasketFlock$CommandText", "java/lang/IllegalStateException"), ("BasketFlock$CommandText", "java/lang/IndexOutOfBoundsException"), ("BasketFlock$CommandText", "java/lang/UnsupportedOperationException"), ("BasketFlock$CommandText", "java/util/NoSuchElementException"), ("BasketFlock$Flock", "java/lang/IllegalArgumentException"), ("BasketFlock$Flock", "java/lang/IllegalStateException"), ("BasketFlock$Flock", "java/lang/IndexOutOfBoundsException"), ("BasketFlock$Flock", "java/lang/UnsupportedOperationException"), ("BasketFlock$Flock", "java/util/NoSuchElementException")] : List (String × String)), va_Nc q.1 q.2 s := List.forall_mem_cons.mpr ⟨va_Nc.of (nw_at hg 223 nf_223), List.forall_mem_cons.mpr ⟨va_Nc.of (nw_at hg 267 nf_267), List.forall_mem_cons.mpr ⟨va_Nc.of (nw_at hg 253 nf_253), List.forall_mem_cons.mpr ⟨va_Nc.of (nw_at hg 282 nf_282), List.forall_mem_cons.mpr ⟨va_Nc.of (nw_at hg 238 nf_238), List.forall_mem_cons.mpr ⟨va_Nc.of (nw_at hg 218 nf_218), List.forall_mem_cons.mpr ⟨va_Nc.of (nw_at hg 262 nf_262), List.forall_mem_cons.mpr ⟨va_Nc.of (nw_at hg 248 nf_248), List.forall_mem_cons.mpr ⟨va_Nc.of (nw_at hg 277 nf_277), List.forall_mem_cons.mpr ⟨va_Nc.of (nw_at hg 233 nf_233), fun _ h => absurd h List.not_mem_nil⟩⟩⟩⟩⟩⟩⟩⟩⟩⟩
theorem st_nc2 {args : Array Value} {s : State} (hg : nwT.before args s = true) : ∀ q ∈ ([("BasketFlock$Formations", "java/lang/IllegalArgumentException"), ("BasketFlock$Formations", "java/lang/IllegalStateException"), ("BasketFlock$Formations", "java/lang/IndexOutOfBoundsException"), ("BasketFlock$Formations", "java/lang/UnsupportedOperationException"), ("BasketFlock$Formations", "java/util/NoSuchElementException"), ("BasketFlock$History", "java/lang/IllegalArgumentException"), ("BasketFlock$History", "java/lang/IllegalStateException"), ("BasketFlock$History", "java/lang/IndexOutOfBoundsException"), ("BasketFlock$History", "java/lang/UnsupportedOperationException"), ("BasketFlock$History", "java/util/NoSuchElementException")] : List (String × String)), va_Nc q.1 q.2 s := List.forall_mem_cons.mpr ⟨va_Nc.of (nw_at hg 222 nf_222), List.forall_mem_cons.mpr ⟨va_Nc.of (nw_at hg 266 nf_266), List.forall_mem_cons.mpr ⟨va_Nc.of (nw_at hg 252 nf_252), List.forall_mem_cons.mpr ⟨va_Nc.of (nw_at hg 281 nf_281), List.forall_mem_cons.mpr ⟨va_Nc.of (nw_at hg 237 nf_237), List.forall_mem_cons.mpr ⟨va_Nc.of (nw_at hg 221 nf_221), List.forall_mem_cons.mpr ⟨va_Nc.of (nw_at hg 265 nf_265), List.forall_mem_cons.mpr ⟨va_Nc.of (nw_at hg 251 nf_251), List.forall_mem_cons.mpr ⟨va_Nc.of (nw_at hg 280 nf_280), List.forall_mem_cons.mpr ⟨va_Nc.of (nw_at hg 236 nf_236), fun _ h => absurd h List.not_mem_nil⟩⟩⟩⟩⟩⟩⟩⟩⟩⟩
theorem st_nc3 {args : Array Value} {s : State} (hg : nwT.before args s = true) : ∀ q ∈ ([("BasketFlock$Shapes", "java/lang/IllegalArgumentException"), ("BasketFlock$Shapes", "java/lang/IllegalStateException"), ("BasketFlock$Shapes", "java/lang/IndexOutOfBoundsException"), ("BasketFlock$Shapes", "java/lang/UnsupportedOperationException"), ("BasketFlock$Shapes", "java/util/NoSuchElementException"), ("java/lang/ArithmeticException", "java/lang/IllegalArgumentException"), ("java/lang/ArithmeticException", "java/lang/IllegalStateException"), ("java/lang/ArithmeticException", "java/lang/IndexOutOfBoundsException"), ("java/lang/ArithmeticException", "java/lang/UnsupportedOperationException"), ("java/lang/ArithmeticException", "java/util/NoSuchElementException")] : List (String × String)), va_Nc q.1 q.2 s := List.forall_mem_cons.mpr ⟨va_Nc.of (nw_at hg 220 nf_220), List.forall_mem_cons.mpr ⟨va_Nc.of (nw_at hg 264 nf_264), List.forall_mem_cons.mpr ⟨va_Nc.of (nw_at hg 250 nf_250), List.forall_mem_cons.mpr ⟨va_Nc.of (nw_at hg 279 nf_279), List.forall_mem_cons.mpr ⟨va_Nc.of (nw_at hg 235 nf_235), List.forall_mem_cons.mpr ⟨va_Nc.of (nw_at hg 231 nf_231), List.forall_mem_cons.mpr ⟨va_Nc.of (nw_at hg 275 nf_275), List.forall_mem_cons.mpr ⟨va_Nc.of (nw_at hg 260 nf_260), List.forall_mem_cons.mpr ⟨va_Nc.of (nw_at hg 290 nf_290), List.forall_mem_cons.mpr ⟨va_Nc.of (nw_at hg 246 nf_246), fun _ h => absurd h List.not_mem_nil⟩⟩⟩⟩⟩⟩⟩⟩⟩⟩
theorem st_nc4 {args : Array Value} {s : State} (hg : nwT.before args s = true) : ∀ q ∈ ([("java/lang/ArrayIndexOutOfBoundsException", "java/lang/IllegalArgumentException"), ("java/lang/ArrayIndexOutOfBoundsException", "java/lang/IllegalStateException"), ("java/lang/ArrayIndexOutOfBoundsException", "java/lang/UnsupportedOperationException"), ("java/lang/ArrayIndexOutOfBoundsException", "java/util/NoSuchElementException"), ("java/lang/IllegalArgumentException", "java/lang/IllegalStateException"), ("java/lang/IllegalArgumentException", "java/lang/IndexOutOfBoundsException"), ("java/lang/IllegalArgumentException", "java/lang/UnsupportedOperationException"), ("java/lang/IllegalArgumentException", "java/util/NoSuchElementException"), ("java/lang/IllegalStateException", "java/lang/IllegalArgumentException"), ("java/lang/IllegalStateException", "java/lang/IndexOutOfBoundsException")] : List (String × String)), va_Nc q.1 q.2 s := List.forall_mem_cons.mpr ⟨va_Nc.of (nw_at hg 228 nf_228), List.forall_mem_cons.mpr ⟨va_Nc.of (nw_at hg 272 nf_272), List.forall_mem_cons.mpr ⟨va_Nc.of (nw_at hg 287 nf_287), List.forall_mem_cons.mpr ⟨va_Nc.of (nw_at hg 243 nf_243), List.forall_mem_cons.mpr ⟨va_Nc.of (nw_at hg 269 nf_269), List.forall_mem_cons.mpr ⟨va_Nc.of (nw_at hg 254 nf_254), List.forall_mem_cons.mpr ⟨va_Nc.of (nw_at hg 284 nf_284), List.forall_mem_cons.mpr ⟨va_Nc.of (nw_at hg 240 nf_240), List.forall_mem_cons.mpr ⟨va_Nc.of (nw_at hg 225 nf_225), List.forall_mem_cons.mpr ⟨va_Nc.of (nw_at hg 255 nf_255), fun _ h => absurd h List.not_mem_nil⟩⟩⟩⟩⟩⟩⟩⟩⟩⟩
theorem st_nc5 {args : Array Value} {s : State} (hg : nwT.before args s = true) : ∀ q ∈ ([("java/lang/IllegalStateException", "java/lang/UnsupportedOperationException"), ("java/lang/IllegalStateException", "java/util/NoSuchElementException"), ("java/lang/IndexOutOfBoundsException", "java/lang/IllegalArgumentException"), ("java/lang/IndexOutOfBoundsException", "java/lang/IllegalStateException"), ("java/lang/IndexOutOfBoundsException", "java/lang/UnsupportedOperationException"), ("java/lang/IndexOutOfBoundsException", "java/util/NoSuchElementException"), ("java/lang/String", "java/lang/IllegalArgumentException"), ("java/lang/String", "java/lang/IllegalStateException"), ("java/lang/String", "java/lang/IndexOutOfBoundsException"), ("java/lang/String", "java/lang/UnsupportedOperationException")] : List (String × String)), va_Nc q.1 q.2 s := List.forall_mem_cons.mpr ⟨va_Nc.of (nw_at hg 285 nf_285), List.forall_mem_cons.mpr ⟨va_Nc.of (nw_at hg 241 nf_241), List.forall_mem_cons.mpr ⟨va_Nc.of (nw_at hg 224 nf_224), List.forall_mem_cons.mpr ⟨va_Nc.of (nw_at hg 268 nf_268), List.forall_mem_cons.mpr ⟨va_Nc.of (nw_at hg 283 nf_283), List.forall_mem_cons.mpr ⟨va_Nc.of (nw_at hg 239 nf_239), List.forall_mem_cons.mpr ⟨va_Nc.of (nw_at hg 230 nf_230), List.forall_mem_cons.mpr ⟨va_Nc.of (nw_at hg 274 nf_274), List.forall_mem_cons.mpr ⟨va_Nc.of (nw_at hg 259 nf_259), List.forall_mem_cons.mpr ⟨va_Nc.of (nw_at hg 289 nf_289), fun _ h => absurd h List.not_mem_nil⟩⟩⟩⟩⟩⟩⟩⟩⟩⟩
theorem st_nc6 {args : Array Value} {s : State} (hg : nwT.before args s = true) : ∀ q ∈ ([("java/lang/String", "java/util/NoSuchElementException"), ("java/lang/StringBuilder", "java/lang/IllegalArgumentException"), ("java/lang/StringBuilder", "java/lang/IllegalStateException"), ("java/lang/StringBuilder", "java/lang/IndexOutOfBoundsException"), ("java/lang/StringBuilder", "java/lang/UnsupportedOperationException"), ("java/lang/StringBuilder", "java/util/NoSuchElementException"), ("java/lang/UnsupportedOperationException", "java/lang/IllegalArgumentException"), ("java/lang/UnsupportedOperationException", "java/lang/IllegalStateException"), ("java/lang/UnsupportedOperationException", "java/lang/IndexOutOfBoundsException"), ("java/lang/UnsupportedOperationException", "java/util/NoSuchElementException")] : List (String × String)), va_Nc q.1 q.2 s := List.forall_mem_cons.mpr ⟨va_Nc.of (nw_at hg 245 nf_245), List.forall_mem_cons.mpr ⟨va_Nc.of (nw_at hg 229 nf_229), List.forall_mem_cons.mpr ⟨va_Nc.of (nw_at hg 273 nf_273), List.forall_mem_cons.mpr ⟨va_Nc.of (nw_at hg 258 nf_258), List.forall_mem_cons.mpr ⟨va_Nc.of (nw_at hg 288 nf_288), List.forall_mem_cons.mpr ⟨va_Nc.of (nw_at hg 244 nf_244), List.forall_mem_cons.mpr ⟨va_Nc.of (nw_at hg 227 nf_227), List.forall_mem_cons.mpr ⟨va_Nc.of (nw_at hg 271 nf_271), List.forall_mem_cons.mpr ⟨va_Nc.of (nw_at hg 257 nf_257), List.forall_mem_cons.mpr ⟨va_Nc.of (nw_at hg 242 nf_242), fun _ h => absurd h List.not_mem_nil⟩⟩⟩⟩⟩⟩⟩⟩⟩⟩
theorem st_nc7 {args : Array Value} {s : State} (hg : nwT.before args s = true) : ∀ q ∈ ([("java/util/NoSuchElementException", "java/lang/IllegalArgumentException"), ("java/util/NoSuchElementException", "java/lang/IllegalStateException"), ("java/util/NoSuchElementException", "java/lang/IndexOutOfBoundsException"), ("java/util/NoSuchElementException", "java/lang/UnsupportedOperationException")] : List (String × String)), va_Nc q.1 q.2 s := List.forall_mem_cons.mpr ⟨va_Nc.of (nw_at hg 226 nf_226), List.forall_mem_cons.mpr ⟨va_Nc.of (nw_at hg 270 nf_270), List.forall_mem_cons.mpr ⟨va_Nc.of (nw_at hg 256 nf_256), List.forall_mem_cons.mpr ⟨va_Nc.of (nw_at hg 286 nf_286), fun _ h => absurd h List.not_mem_nil⟩⟩⟩⟩
theorem st_nc {args : Array Value} {s : State} (hg : nwT.before args s = true) : ∀ q ∈ eNc, va_Nc q.1 q.2 s := by
  have e : eNc = ([("BasketFlock", "java/lang/IllegalArgumentException"), ("BasketFlock", "java/lang/IllegalStateException"), ("BasketFlock", "java/lang/IndexOutOfBoundsException"), ("BasketFlock", "java/lang/UnsupportedOperationException"), ("BasketFlock", "java/util/NoSuchElementException"), ("BasketFlock$Clouds", "java/lang/IllegalArgumentException"), ("BasketFlock$Clouds", "java/lang/IllegalStateException"), ("BasketFlock$Clouds", "java/lang/IndexOutOfBoundsException"), ("BasketFlock$Clouds", "java/lang/UnsupportedOperationException"), ("BasketFlock$Clouds", "java/util/NoSuchElementException")] : List (String × String)) ++ (([("BasketFlock$CommandText", "java/lang/IllegalArgumentException"), ("BasketFlock$CommandText", "java/lang/IllegalStateException"), ("BasketFlock$CommandText", "java/lang/IndexOutOfBoundsException"), ("BasketFlock$CommandText", "java/lang/UnsupportedOperationException"), ("BasketFlock$CommandText", "java/util/NoSuchElementException"), ("BasketFlock$Flock", "java/lang/IllegalArgumentException"), ("BasketFlock$Flock", "java/lang/IllegalStateException"), ("BasketFlock$Flock", "java/lang/IndexOutOfBoundsException"), ("BasketFlock$Flock", "java/lang/UnsupportedOperationException"), ("BasketFlock$Flock", "java/util/NoSuchElementException")] : List (String × String)) ++ (([("BasketFlock$Formations", "java/lang/IllegalArgumentException"), ("BasketFlock$Formations", "java/lang/IllegalStateException"), ("BasketFlock$Formations", "java/lang/IndexOutOfBoundsException"), ("BasketFlock$Formations", "java/lang/UnsupportedOperationException"), ("BasketFlock$Formations", "java/util/NoSuchElementException"), ("BasketFlock$History", "java/lang/IllegalArgumentException"), ("BasketFlock$History", "java/lang/IllegalStateException"), ("BasketFlock$History", "java/lang/IndexOutOfBoundsException"), ("BasketFlock$History", "java/lang/UnsupportedOperationException"), ("BasketFlock$History", "java/util/NoSuchElementException")] : List (String × String)) ++ (([("BasketFlock$Shapes", "java/lang/IllegalArgumentException"), ("BasketFlock$Shapes", "java/lang/IllegalStateException"), ("BasketFlock$Shapes", "java/lang/IndexOutOfBoundsException"), ("BasketFlock$Shapes", "java/lang/UnsupportedOperationException"), ("BasketFlock$Shapes", "java/util/NoSuchElementException"), ("java/lang/ArithmeticException", "java/lang/IllegalArgumentException"), ("java/lang/ArithmeticException", "java/lang/IllegalStateException"), ("java/lang/ArithmeticException", "java/lang/IndexOutOfBoundsException"), ("java/lang/ArithmeticException", "java/lang/UnsupportedOperationException"), ("java/lang/ArithmeticException", "java/util/NoSuchElementException")] : List (String × String)) ++ (([("java/lang/ArrayIndexOutOfBoundsException", "java/lang/IllegalArgumentException"), ("java/lang/ArrayIndexOutOfBoundsException", "java/lang/IllegalStateException"), ("java/lang/ArrayIndexOutOfBoundsException", "java/lang/UnsupportedOperationException"), ("java/lang/ArrayIndexOutOfBoundsException", "java/util/NoSuchElementException"), ("java/lang/IllegalArgumentException", "java/lang/IllegalStateException"), ("java/lang/IllegalArgumentException", "java/lang/IndexOutOfBoundsException"), ("java/lang/IllegalArgumentException", "java/lang/UnsupportedOperationException"), ("java/lang/IllegalArgumentException", "java/util/NoSuchElementException"), ("java/lang/IllegalStateException", "java/lang/IllegalArgumentException"), ("java/lang/IllegalStateException", "java/lang/IndexOutOfBoundsException")] : List (String × String)) ++ (([("java/lang/IllegalStateException", "java/lang/UnsupportedOperationException"), ("java/lang/IllegalStateException", "java/util/NoSuchElementException"), ("java/lang/IndexOutOfBoundsException", "java/lang/IllegalArgumentException"), ("java/lang/IndexOutOfBoundsException", "java/lang/IllegalStateException"), ("java/lang/IndexOutOfBoundsException", "java/lang/UnsupportedOperationException"), ("java/lang/IndexOutOfBoundsException", "java/util/NoSuchElementException"), ("java/lang/String", "java/lang/IllegalArgumentException"), ("java/lang/String", "java/lang/IllegalStateException"), ("java/lang/String", "java/lang/IndexOutOfBoundsException"), ("java/lang/String", "java/lang/UnsupportedOperationException")] : List (String × String)) ++ (([("java/lang/String", "java/util/NoSuchElementException"), ("java/lang/StringBuilder", "java/lang/IllegalArgumentException"), ("java/lang/StringBuilder", "java/lang/IllegalStateException"), ("java/lang/StringBuilder", "java/lang/IndexOutOfBoundsException"), ("java/lang/StringBuilder", "java/lang/UnsupportedOperationException"), ("java/lang/StringBuilder", "java/util/NoSuchElementException"), ("java/lang/UnsupportedOperationException", "java/lang/IllegalArgumentException"), ("java/lang/UnsupportedOperationException", "java/lang/IllegalStateException"), ("java/lang/UnsupportedOperationException", "java/lang/IndexOutOfBoundsException"), ("java/lang/UnsupportedOperationException", "java/util/NoSuchElementException")] : List (String × String)) ++ (([("java/util/NoSuchElementException", "java/lang/IllegalArgumentException"), ("java/util/NoSuchElementException", "java/lang/IllegalStateException"), ("java/util/NoSuchElementException", "java/lang/IndexOutOfBoundsException"), ("java/util/NoSuchElementException", "java/lang/UnsupportedOperationException")] : List (String × String))))))))) := rfl
  rw [e]
  exact List.forall_mem_append.mpr ⟨st_nc0 hg, List.forall_mem_append.mpr ⟨st_nc1 hg, List.forall_mem_append.mpr ⟨st_nc2 hg, List.forall_mem_append.mpr ⟨st_nc3 hg, List.forall_mem_append.mpr ⟨st_nc4 hg, List.forall_mem_append.mpr ⟨st_nc5 hg, List.forall_mem_append.mpr ⟨st_nc6 hg, st_nc7 hg⟩⟩⟩⟩⟩⟩⟩
theorem st_nn {args : Array Value} {s : State} (hts : ∀ w ∈ lw_tbl, w.before args s = true) : ∀ q ∈ eNn, va_Nw (.methodLinkNest q.1 q.2.1 q.2.2.1 q.2.2.2) s := List.forall_mem_cons.mpr ⟨va_Nw.of rfl (hts _ (tq_1 (List.mem_of_getElem? (i := 40) rfl))), List.forall_mem_cons.mpr ⟨va_Nw.of rfl (hts _ (tq_1 (List.mem_of_getElem? (i := 46) rfl))), List.forall_mem_cons.mpr ⟨va_Nw.of rfl (hts _ (tq_1 (List.mem_of_getElem? (i := 62) rfl))), List.forall_mem_cons.mpr ⟨va_Nw.of rfl (hts _ (tq_1 (List.mem_of_getElem? (i := 146) rfl))), List.forall_mem_cons.mpr ⟨va_Nw.of rfl (hts _ (tq_1 (List.mem_of_getElem? (i := 159) rfl))), List.forall_mem_cons.mpr ⟨va_Nw.of rfl (hts _ (tq_1 (List.mem_of_getElem? (i := 172) rfl))), fun _ h => absurd h List.not_mem_nil⟩⟩⟩⟩⟩⟩
theorem st_dc {args : Array Value} {s : State} (hts : ∀ w ∈ lw_tbl, w.before args s = true) : ∀ q ∈ eDc, (Cond.declares q).before #[] s = true := List.forall_mem_cons.mpr ⟨va_tabs rfl rfl (hts _ (tq_2 (List.mem_of_getElem? (i := 17) rfl))), List.forall_mem_cons.mpr ⟨va_tabs rfl rfl (hts _ (tq_2 (List.mem_of_getElem? (i := 18) rfl))), List.forall_mem_cons.mpr ⟨va_tabs rfl rfl (hts _ (tq_2 (List.mem_of_getElem? (i := 19) rfl))), List.forall_mem_cons.mpr ⟨va_tabs rfl rfl (hts _ (tq_2 (List.mem_of_getElem? (i := 20) rfl))), List.forall_mem_cons.mpr ⟨va_tabs rfl rfl (hts _ (tq_2 (List.mem_of_getElem? (i := 21) rfl))), List.forall_mem_cons.mpr ⟨va_tabs rfl rfl (hts _ (tq_2 (List.mem_of_getElem? (i := 22) rfl))), List.forall_mem_cons.mpr ⟨va_tabs rfl rfl (hts _ (tq_3 (List.mem_of_getElem? (i := 164) rfl))), List.forall_mem_cons.mpr ⟨va_tabs rfl rfl (hts _ (tq_3 (List.mem_of_getElem? (i := 165) rfl))), fun _ h => absurd h List.not_mem_nil⟩⟩⟩⟩⟩⟩⟩⟩
theorem st_str1 {args : Array Value} {s : State} {own tx : String} {k : Nat} (h : (Cond.stringRef own k tx).before args s = true) (hx : (Cond.exactly (.string own k) "java/lang/String").before args s = true) : ∃ a : Nat, vk_R own k tx a s := by
  obtain ⟨a, c, cA, kA, q1, -⟩ := Cond.exactly_spec (args := args) (first := s) (o := none) (s := s) (idx := []) (t := .string own k) (cls := "java/lang/String") hx
  exact ⟨a, vk_R.of h q1⟩
theorem nf_351 : (flatC nwT)[351]? = some (Jvm.Cond.exactly (Jvm.Term.string "BasketFlock" 108) "java/lang/String") := by decide +kernel
theorem nf_507 : (flatC nwT)[507]? = some (Jvm.Cond.exactly (Jvm.Term.string "BasketFlock" 120) "java/lang/String") := by decide +kernel
theorem nf_589 : (flatC nwT)[589]? = some (Jvm.Cond.exactly (Jvm.Term.string "BasketFlock" 240) "java/lang/String") := by decide +kernel
theorem nf_408 : (flatC nwT)[408]? = some (Jvm.Cond.exactly (Jvm.Term.string "BasketFlock" 245) "java/lang/String") := by decide +kernel
theorem nf_856 : (flatC nwT)[856]? = some (Jvm.Cond.exactly (Jvm.Term.string "BasketFlock" 303) "java/lang/String") := by decide +kernel
theorem nf_437 : (flatC nwT)[437]? = some (Jvm.Cond.exactly (Jvm.Term.string "BasketFlock" 308) "java/lang/String") := by decide +kernel
theorem nf_476 : (flatC nwT)[476]? = some (Jvm.Cond.exactly (Jvm.Term.string "BasketFlock" 317) "java/lang/String") := by decide +kernel
theorem nf_291 : (flatC nwT)[291]? = some (Jvm.Cond.exactly (Jvm.Term.string "BasketFlock" 349) "java/lang/String") := by decide +kernel
theorem nf_640 : (flatC nwT)[640]? = some (Jvm.Cond.exactly (Jvm.Term.string "BasketFlock" 351) "java/lang/String") := by decide +kernel
theorem nf_681 : (flatC nwT)[681]? = some (Jvm.Cond.exactly (Jvm.Term.string "BasketFlock" 353) "java/lang/String") := by decide +kernel
theorem nf_728 : (flatC nwT)[728]? = some (Jvm.Cond.exactly (Jvm.Term.string "BasketFlock" 355) "java/lang/String") := by decide +kernel
theorem nf_776 : (flatC nwT)[776]? = some (Jvm.Cond.exactly (Jvm.Term.string "BasketFlock" 359) "java/lang/String") := by decide +kernel
theorem nf_816 : (flatC nwT)[816]? = some (Jvm.Cond.exactly (Jvm.Term.string "BasketFlock" 362) "java/lang/String") := by decide +kernel
theorem nf_381 : (flatC nwT)[381]? = some (Jvm.Cond.exactly (Jvm.Term.string "BasketFlock" 368) "java/lang/String") := by decide +kernel
theorem nf_318 : (flatC nwT)[318]? = some (Jvm.Cond.exactly (Jvm.Term.string "BasketFlock" 373) "java/lang/String") := by decide +kernel
theorem nf_542 : (flatC nwT)[542]? = some (Jvm.Cond.exactly (Jvm.Term.string "BasketFlock" 375) "java/lang/String") := by decide +kernel
theorem nf_920 : (flatC nwT)[920]? = some (Jvm.Cond.exactly (Jvm.Term.string "BasketFlockLaw" 164) "java/lang/String") := by decide +kernel
theorem nf_941 : (flatC nwT)[941]? = some (Jvm.Cond.exactly (Jvm.Term.string "BasketFlockLaw" 182) "java/lang/String") := by decide +kernel
theorem nf_964 : (flatC nwT)[964]? = some (Jvm.Cond.exactly (Jvm.Term.string "BasketFlockLaw" 184) "java/lang/String") := by decide +kernel
theorem st_str {args : Array Value} {s : State} (hts : ∀ w ∈ lw_tbl, w.before args s = true) (hg : nwT.before args s = true) : ∀ q ∈ eStr, ∃ a : Nat, vk_R q.1 q.2.1 q.2.2 a s := List.forall_mem_cons.mpr ⟨st_str1 (hts _ (tq_2 (List.mem_of_getElem? (i := 134) rfl))) (nw_at hg 351 nf_351), List.forall_mem_cons.mpr ⟨st_str1 (hts _ (tq_3 (List.mem_of_getElem? (i := 180) rfl))) (nw_at hg 507 nf_507), List.forall_mem_cons.mpr ⟨st_str1 (hts _ (tq_3 (List.mem_of_getElem? (i := 222) rfl))) (nw_at hg 589 nf_589), List.forall_mem_cons.mpr ⟨st_str1 (hts _ (tq_3 (List.mem_of_getElem? (i := 73) rfl))) (nw_at hg 408 nf_408), List.forall_mem_cons.mpr ⟨st_str1 (hts _ (tq_5 (List.mem_of_getElem? (i := 13) rfl))) (nw_at hg 856 nf_856), List.forall_mem_cons.mpr ⟨st_str1 (hts _ (tq_3 (List.mem_of_getElem? (i := 97) rfl))) (nw_at hg 437 nf_437), List.forall_mem_cons.mpr ⟨st_str1 (hts _ (tq_3 (List.mem_of_getElem? (i := 113) rfl))) (nw_at hg 476 nf_476), List.forall_mem_cons.mpr ⟨st_str1 (hts _ (tq_2 (List.mem_of_getElem? (i := 59) rfl))) (nw_at hg 291 nf_291), List.forall_mem_cons.mpr ⟨st_str1 (hts _ (tq_4 (List.mem_of_getElem? (i := 47) rfl))) (nw_at hg 640 nf_640), List.forall_mem_cons.mpr ⟨st_str1 (hts _ (tq_4 (List.mem_of_getElem? (i := 57) rfl))) (nw_at hg 681 nf_681), List.forall_mem_cons.mpr ⟨st_str1 (hts _ (tq_4 (List.mem_of_getElem? (i := 64) rfl))) (nw_at hg 728 nf_728), List.forall_mem_cons.mpr ⟨st_str1 (hts _ (tq_4 (List.mem_of_getElem? (i := 74) rfl))) (nw_at hg 776 nf_776), List.forall_mem_cons.mpr ⟨st_str1 (hts _ (tq_4 (List.mem_of_getElem? (i := 81) rfl))) (nw_at hg 816 nf_816), List.forall_mem_cons.mpr ⟨st_str1 (hts _ (tq_2 (List.mem_of_getElem? (i := 178) rfl))) (nw_at hg 381 nf_381), List.forall_mem_cons.mpr ⟨st_str1 (hts _ (tq_2 (List.mem_of_getElem? (i := 114) rfl))) (nw_at hg 318 nf_318), List.forall_mem_cons.mpr ⟨st_str1 (hts _ (tq_3 (List.mem_of_getElem? (i := 192) rfl))) (nw_at hg 542 nf_542), List.forall_mem_cons.mpr ⟨st_str1 (hts _ (tq_6 (List.mem_of_getElem? (i := 25) rfl))) (nw_at hg 920 nf_920), List.forall_mem_cons.mpr ⟨st_str1 (hts _ (tq_6 (List.mem_of_getElem? (i := 26) rfl))) (nw_at hg 941 nf_941), List.forall_mem_cons.mpr ⟨st_str1 (hts _ (tq_6 (List.mem_of_getElem? (i := 27) rfl))) (nw_at hg 964 nf_964), fun _ h => absurd h List.not_mem_nil⟩⟩⟩⟩⟩⟩⟩⟩⟩⟩⟩⟩⟩⟩⟩⟩⟩⟩⟩
abbrev foK (i : Nat) : Nat := [164, 182, 184].getD i 0
abbrev foT (i : Nat) : Term := .string "BasketFlockLaw" (foK i)
def foP (i : Nat) (q : Nat × Nat) (args : Array Value) (s : State) : Prop := (foT i).eval args s none [] s = some (.ref q.1) ∧ va_O "java/lang/String" q.1 (nwA s) s s.heap ∧ va_OF "java/lang/String" "coder" "B" (.int 0) q.1 (nwA s) s s.heap ∧ va_OF "java/lang/String" "value" "[B" (.ref q.2) q.1 (nwA s) s s.heap ∧ va_T .byte q.2 (eFl.getD i 0) (fun j => .int ((eFb.getD i []).getD j 0)) (nwA s) s s.heap
theorem nwA_in {s : State} : ∀ a : Nat, a < s.heap.size → ¬ nwA s a := fun a h => Nat.not_le.mpr h
theorem st_fo {args : Array Value} {s : State} {i : Nat} (hn : eFl.getD i 0 < 2 ^ 31) (hex : (Cond.exactly (foT i) "java/lang/String").before args s = true) (hco : (Cond.eq (.field (foT i) "java/lang/String" "coder" "B") (.int 0)).before args s = true) (har : (Cond.arrayOf (.field (foT i) "java/lang/String" "value" "[B") .byte).before args s = true) (hle : (Cond.eq (.length (.field (foT i) "java/lang/String" "value" "[B")) (.int (Int32.ofNat (eFl.getD i 0)))).before args s = true) (hel : ∀ j : Nat, j < eFl.getD i 0 → (Cond.eq (.elem (.field (foT i) "java/lang/String" "value" "[B") (.int (Int32.ofNat j))) (.int ((eFb.getD i []).getD j 0))).before args s = true) : ∃ q : Nat × Nat, foP i q args s := by
  obtain ⟨a, c, cA, kA, q1, q2, q3, q4, q5, q6, -⟩ := Cond.exactly_spec (args := args) (first := s) (o := none) (s := s) (idx := []) (t := foT i) (cls := "java/lang/String") hex
  obtain ⟨t, ht, hT⟩ := va_Tof (f := fun j => .int ((eFb.getD i []).getD j 0)) (A := nwA s) hn har (va_eqt hle) (fun j hj => va_eqt (hel j hj)) nwA_in
  exact ⟨(a, t), q1, ⟨cA, q3, q5, by rw [q6]; exact q2, nwA_in a (Array.getElem?_eq_some_iff.mp q3).1⟩, vk_OFof q1 (va_eqt hco) nwA_in, vk_OFof q1 ht nwA_in, hT⟩
theorem nf_921 : (flatC nwT)[921]? = some (Jvm.Cond.eq (Jvm.Term.field (Jvm.Term.string "BasketFlockLaw" 164) "java/lang/String" "coder" "B") (Jvm.Term.int (0 : Int32))) := by decide +kernel
theorem nf_922 : (flatC nwT)[922]? = some (Jvm.Cond.arrayOf (Jvm.Term.field (Jvm.Term.string "BasketFlockLaw" 164) "java/lang/String" "value" "[B") Jvm.ClassFile.FieldType.byte) := by decide +kernel
theorem nf_923 : (flatC nwT)[923]? = some (Jvm.Cond.eq (Jvm.Term.length (Jvm.Term.field (Jvm.Term.string "BasketFlockLaw" 164) "java/lang/String" "value" "[B")) (Jvm.Term.int (0 : Int32))) := by decide +kernel
theorem st_fo0 {args : Array Value} {s : State} (hg : nwT.before args s = true) : ∃ q : Nat × Nat, foP 0 q args s := by
  refine st_fo (i := 0) (by decide) (nw_at hg 920 nf_920) (nw_at hg 921 nf_921) (nw_at hg 922 nf_922) (nw_at hg 923 nf_923) (fun j hj => ?_)
  have hj2 : j < 0 := hj
  exact absurd hj2 (Nat.not_lt_zero j)

theorem nf_942 : (flatC nwT)[942]? = some (Jvm.Cond.eq (Jvm.Term.field (Jvm.Term.string "BasketFlockLaw" 182) "java/lang/String" "coder" "B") (Jvm.Term.int (0 : Int32))) := by decide +kernel
theorem nf_943 : (flatC nwT)[943]? = some (Jvm.Cond.arrayOf (Jvm.Term.field (Jvm.Term.string "BasketFlockLaw" 182) "java/lang/String" "value" "[B") Jvm.ClassFile.FieldType.byte) := by decide +kernel
theorem nf_944 : (flatC nwT)[944]? = some (Jvm.Cond.eq (Jvm.Term.length (Jvm.Term.field (Jvm.Term.string "BasketFlockLaw" 182) "java/lang/String" "value" "[B")) (Jvm.Term.int (1 : Int32))) := by decide +kernel
theorem nf_945 : (flatC nwT)[945]? = some (Jvm.Cond.eq (Jvm.Term.elem (Jvm.Term.field (Jvm.Term.string "BasketFlockLaw" 182) "java/lang/String" "value" "[B") (Jvm.Term.int (0 : Int32))) (Jvm.Term.int (35 : Int32))) := by decide +kernel
theorem st_fo1 {args : Array Value} {s : State} (hg : nwT.before args s = true) : ∃ q : Nat × Nat, foP 1 q args s := by
  refine st_fo (i := 1) (by decide) (nw_at hg 941 nf_941) (nw_at hg 942 nf_942) (nw_at hg 943 nf_943) (nw_at hg 944 nf_944) (fun j hj => ?_)
  have hj2 : j < 1 := hj
  have h : j = 0 := by omega
  subst h
  · exact (nw_at hg 945 nf_945)
theorem nf_965 : (flatC nwT)[965]? = some (Jvm.Cond.eq (Jvm.Term.field (Jvm.Term.string "BasketFlockLaw" 184) "java/lang/String" "coder" "B") (Jvm.Term.int (0 : Int32))) := by decide +kernel
theorem nf_966 : (flatC nwT)[966]? = some (Jvm.Cond.arrayOf (Jvm.Term.field (Jvm.Term.string "BasketFlockLaw" 184) "java/lang/String" "value" "[B") Jvm.ClassFile.FieldType.byte) := by decide +kernel
theorem nf_967 : (flatC nwT)[967]? = some (Jvm.Cond.eq (Jvm.Term.length (Jvm.Term.field (Jvm.Term.string "BasketFlockLaw" 184) "java/lang/String" "value" "[B")) (Jvm.Term.int (1 : Int32))) := by decide +kernel
theorem nf_968 : (flatC nwT)[968]? = some (Jvm.Cond.eq (Jvm.Term.elem (Jvm.Term.field (Jvm.Term.string "BasketFlockLaw" 184) "java/lang/String" "value" "[B") (Jvm.Term.int (0 : Int32))) (Jvm.Term.int (46 : Int32))) := by decide +kernel
theorem st_fo2 {args : Array Value} {s : State} (hg : nwT.before args s = true) : ∃ q : Nat × Nat, foP 2 q args s := by
  refine st_fo (i := 2) (by decide) (nw_at hg 964 nf_964) (nw_at hg 965 nf_965) (nw_at hg 966 nf_966) (nw_at hg 967 nf_967) (fun j hj => ?_)
  have hj2 : j < 1 := hj
  have h : j = 0 := by omega
  subst h
  · exact (nw_at hg 968 nf_968)
theorem st_fos {args : Array Value} {s : State} (hg : nwT.before args s = true) : ∀ i : Nat, ∃ q : Nat × Nat, i < 3 → foP i q args s := by
  intro i
  by_cases h : i < 3
  · rcases (show i = 0 ∨ i = 1 ∨ i = 2 by omega) with e | e | e <;> subst e
    · obtain ⟨q, hq⟩ := st_fo0 hg; exact ⟨q, fun _ => hq⟩
    · obtain ⟨q, hq⟩ := st_fo1 hg; exact ⟨q, fun _ => hq⟩
    · obtain ⟨q, hq⟩ := st_fo2 hg; exact ⟨q, fun _ => hq⟩
  · exact ⟨(0, 0), fun h2 => absurd h2 h⟩
theorem va_OF_fn {o n d : String} {v w : Value} {t : Nat} {A : Nat → Prop} {U : State} {H : Heap} (h1 : va_OF o n d v t A U H) (h2 : va_OF o n d w t A U H) : v = w := by
  obtain ⟨cf, k, i, f, cell, a1, -, a3, -, a5, -⟩ := h1
  obtain ⟨cf', k', i', f', cell', b1, -, b3, -, b5, -⟩ := h2
  have e1 := Option.some.inj (a1.symm.trans b1)
  have e2 := Option.some.inj (a3.symm.trans b3)
  injection e1 with _ e1
  injection e1 with _ e1
  injection e1 with _ e1
  subst e1
  subst e2
  exact Option.some.inj (a5.symm.trans b5)
theorem va_T_fn {ty : FieldType} {t N N' : Nat} {f g : Nat → Value} {A : Nat → Prop} {U : State} {H : Heap} (h1 : va_T ty t N f A U H) (h2 : va_T ty t N' g A U H) {j : Nat} (hj : j < N) (hj2 : j < N') : f j = g j := by
  obtain ⟨cell, a1, -, -, -, -, a6, -⟩ := h1
  obtain ⟨cell', b1, -, -, -, -, b6, -⟩ := h2
  have e := Option.some.inj (a1.symm.trans b1)
  subst e
  exact Option.some.inj ((a6 j hj).symm.trans (b6 j hj2))
theorem va_T_ln {ty : FieldType} {t N N' : Nat} {f g : Nat → Value} {A : Nat → Prop} {U : State} {H : Heap} (h1 : va_T ty t N f A U H) (h2 : va_T ty t N' g A U H) : Int32.ofNat N = Int32.ofNat N' := by
  obtain ⟨cell, a1, -, -, -, a5, -⟩ := h1
  obtain ⟨cell', b1, -, -, -, b5, -⟩ := h2
  have e := Option.some.inj (a1.symm.trans b1)
  subst e
  exact a5.symm.trans b5
theorem st_dif : ∀ i, i < 3 → ∀ j, j < 3 → i ≠ j → Int32.ofNat (eFl.getD i 0) ≠ Int32.ofNat (eFl.getD j 0) ∨ (0 < eFl.getD i 0 ∧ 0 < eFl.getD j 0 ∧ (eFb.getD i []).getD 0 0 ≠ (eFb.getD j []).getD 0 0) := by decide +kernel
theorem st_S {args : Array Value} {s : State} {q : Nat → Nat × Nat} (h : ∀ i, i < 3 → foP i (q i) args s) : vk_S 3 eFl eFb (fun i => (q i).1) (fun i => (q i).2) (nwA s) s s.heap := by
  refine ⟨fun i hi => (h i hi).2, fun i j hi hj e => ?_⟩
  by_cases c : i = j
  · exact c
  · exfalso
    have e : (q i).1 = (q j).1 := e
    have v1 := (h i hi).2.2.2.1
    have v2 := (h j hj).2.2.2.1
    rw [e] at v1
    have e2 := va_OF_fn v1 v2
    injection e2 with e2
    have t1 := (h i hi).2.2.2.2
    have t2 := (h j hj).2.2.2.2
    rw [e2] at t1
    rcases st_dif i hi j hj c with w | ⟨l1, l2, w⟩
    · exact w (va_T_ln t1 t2)
    · have := va_T_fn t1 t2 (j := 0) l1 l2
      injection this with this
      exact w this
/-- the class of arrays of rows, from the word that says they can be made -/
theorem st_ovA {args : Array Value} {s : State} {t : FieldType} (h : (Cond.arrayOver (.array t)).before args s = true) : ∃ cA : ClassId, ArrOfT s cA (.array t) ∧ va_RA s cA (.array t) := by
  have h2 : (Cond.arrayOver (.array t)).holds args s none s [] = true := h
  simp only [Cond.holds, Cond.value, beq_iff_eq] at h2
  cases hc : s.vm.findClass (FieldType.array t).toString with
  | none => rw [hc] at h2; simp at h2
  | some comp =>
    rw [hc] at h2
    simp only [Option.bind_some, Option.bind_eq_some_iff, Option.map_eq_some_iff] at h2
    obtain ⟨c, hi, k, hk, hb⟩ := h2
    cases hkind : k.kind with
    | array component ty =>
      rw [hkind] at hb
      simp only [Bool.and_eq_true, decide_eq_true_eq] at hb
      exact ⟨c, fun n z => ⟨fun q hq => (by cases hq), k, hk, component, by rw [hkind, hb.1]⟩, hb.2⟩
    | _ => rw [hkind] at hb; cases hb
theorem st_ovO {args : Array Value} {s : State} {C : String} (h : (Cond.arrayOver (.object C)).before args s = true) : ∃ cA : ClassId, ArrOfT s cA (.object C) ∧ va_RA s cA (.object C) := by
  obtain ⟨comp, c, k, h1, -, h3, h4, h5⟩ := Cond.arrayOver_spec (args := args) (first := s) (o := none) (s := s) (idx := []) h
  exact ⟨c, fun n z => ⟨fun q hq => (by cases hq), k, h3, comp, h4⟩, k, comp, h3, h4, h1, h5⟩
theorem st_arr {args : Array Value} {s : State} {ty : FieldType} (hp : ∀ C, ty ≠ .object C) (h : (Cond.arrayClass ty).before args s = true) : ∃ cA : ClassId, ArrOfT s cA ty ∧ va_RA s cA ty := by
  obtain ⟨c, k, comp, h1, h2, h3⟩ := Cond.arrayClass_spec (args := args) (first := s) (o := none) (s := s) (idx := []) h
  refine ⟨c, fun n z => ⟨fun q hq => (by cases hq), k, h2, comp, h3⟩, ?_⟩
  cases ty with
  | object C => exact absurd rfl (hp C)
  | _ => exact h1
theorem st_tys {args : Array Value} {s : State} (hts : ∀ w ∈ lw_tbl, w.before args s = true) : ∃ t : Nat → ClassId, ∀ (k : Nat) (ty : FieldType), eTy[k]? = some ty → ArrOfT s (t k) ty ∧ va_RA s (t k) ty := by
  obtain ⟨c0, h0⟩ := st_arr (s := s) (ty := .int) (fun C h => by cases h) (hts _ (tq_1 (List.mem_of_getElem? (i := 59) rfl)))
  obtain ⟨c1, h1⟩ := st_arr (s := s) (ty := .long) (fun C h => by cases h) (hts _ (tq_1 (List.mem_of_getElem? (i := 77) rfl)))
  obtain ⟨c2, h2⟩ := st_arr (s := s) (ty := .char) (fun C h => by cases h) (hts _ (tq_1 (List.mem_of_getElem? (i := 197) rfl)))
  obtain ⟨c3, h3⟩ := st_arr (s := s) (ty := .byte) (fun C h => by cases h) (hts _ (tq_2 (List.mem_of_getElem? (i := 85) rfl)))
  obtain ⟨c4, h4⟩ := st_ovO (s := s) (C := "BasketFlock$Flock") (hts _ (tq_1 (List.mem_of_getElem? (i := 145) rfl)))
  obtain ⟨c5, h5⟩ := st_ovA (s := s) (t := .int) (hts _ (tq_1 (List.mem_of_getElem? (i := 177) rfl)))
  refine ⟨fun k => if k = 0 then c0 else if k = 1 then c1 else if k = 2 then c2 else if k = 3 then c3 else if k = 4 then c4 else c5, fun k ty hq => ?_⟩
  match k, hq with
  | 0, hq => cases hq; exact h0
  | 1, hq => cases hq; exact h1
  | 2, hq => cases hq; exact h2
  | 3, hq => cases hq; exact h3
  | 4, hq => cases hq; exact h4
  | 5, hq => cases hq; exact h5
  | k + 6, hq => simp [eTy] at hq
theorem st_sp {args : Array Value} {s : State} (hts : ∀ w ∈ lw_tbl, w.before args s = true) : ∀ y ∈ eSp, (Cond.selects RJ4 y y).before args s = true := List.forall_mem_cons.mpr ⟨eSp_sel (n := 4) ⟨by decide +kernel, by decide +kernel⟩ (hts _ (tq_5 (List.mem_of_getElem? (i := 56) rfl))) (hts _ (tq_5 (List.mem_of_getElem? (i := 93) rfl))) (hts _ (tq_5 (List.mem_of_getElem? (i := 94) rfl))) (hts _ (tq_6 (List.mem_of_getElem? (i := 30) rfl))), List.forall_mem_cons.mpr ⟨eSp_sel (n := 4) ⟨by decide +kernel, by decide +kernel⟩ (hts _ (tq_5 (List.mem_of_getElem? (i := 56) rfl))) (hts _ (tq_5 (List.mem_of_getElem? (i := 97) rfl))) (hts _ (tq_5 (List.mem_of_getElem? (i := 98) rfl))) (hts _ (tq_6 (List.mem_of_getElem? (i := 31) rfl))), List.forall_mem_cons.mpr ⟨eSp_sel (n := 4) ⟨by decide +kernel, by decide +kernel⟩ (hts _ (tq_5 (List.mem_of_getElem? (i := 56) rfl))) (hts _ (tq_5 (List.mem_of_getElem? (i := 101) rfl))) (hts _ (tq_5 (List.mem_of_getElem? (i := 102) rfl))) (hts _ (tq_6 (List.mem_of_getElem? (i := 32) rfl))), List.forall_mem_cons.mpr ⟨eSp_sel (n := 4) ⟨by decide +kernel, by decide +kernel⟩ (hts _ (tq_5 (List.mem_of_getElem? (i := 56) rfl))) (hts _ (tq_5 (List.mem_of_getElem? (i := 147) rfl))) (hts _ (tq_5 (List.mem_of_getElem? (i := 148) rfl))) (hts _ (tq_6 (List.mem_of_getElem? (i := 33) rfl))), List.forall_mem_cons.mpr ⟨eSp_sel (n := 4) ⟨by decide +kernel, by decide +kernel⟩ (hts _ (tq_5 (List.mem_of_getElem? (i := 56) rfl))) (hts _ (tq_5 (List.mem_of_getElem? (i := 151) rfl))) (hts _ (tq_5 (List.mem_of_getElem? (i := 152) rfl))) (hts _ (tq_6 (List.mem_of_getElem? (i := 34) rfl))), List.forall_mem_cons.mpr ⟨eSp_sel (n := 4) ⟨by decide +kernel, by decide +kernel⟩ (hts _ (tq_5 (List.mem_of_getElem? (i := 56) rfl))) (hts _ (tq_5 (List.mem_of_getElem? (i := 156) rfl))) (hts _ (tq_5 (List.mem_of_getElem? (i := 157) rfl))) (hts _ (tq_6 (List.mem_of_getElem? (i := 35) rfl))), fun _ h => absurd h List.not_mem_nil⟩⟩⟩⟩⟩⟩
theorem st_tb {args : Array Value} {s : State} (hts : ∀ w ∈ lw_tbl, w.before args s = true) : ∀ w ∈ eTB, w.before args s = true := by
  intro w h
  rcases List.mem_append.mp (List.mem_filter.mp h).1 with h | h
  · exact hts w h
  · obtain ⟨y, hy, rfl⟩ := List.mem_map.mp h
    exact st_sp hts y hy
theorem st_cls {args : Array Value} {s : State} (hts : ∀ w ∈ eTB, w.before args s = true) : ∃ (dC : Nat → ClassId) (dI : Nat → Nat → Nat), ∀ (k : Nat) (q : vw_C), eCl[k]? = some q → u_Kn s q.1 q.2.1 q.2.2 (dC k) (dI k) := by
  obtain ⟨c0, i0, h0⟩ := u_known (C := RX0) (T := TX0) (N := 2) (n := 2) hts inX0 (hts _ wd_1_45)
  obtain ⟨c1, i1, h1⟩ := u_known (C := RX1) (T := TX1) (N := 6) (n := 6) hts inX1 (hts _ wd_1_171)
  obtain ⟨c2, i2, h2⟩ := u_known (C := RX2) (T := TX2) (N := 16) (n := 16) hts inX2 (hts _ wd_1_39)
  obtain ⟨c3, i3, h3⟩ := u_known (C := RX3) (T := TX3) (N := 2) (n := 2) hts inX3 (hts _ wd_1_158)
  obtain ⟨c4, i4, h4⟩ := u_known (C := RX4) (T := TX4) (N := 3) (n := 3) hts inX4 (hts _ wd_1_139)
  obtain ⟨c5, i5, h5⟩ := u_known (C := RX5) (T := TX5) (N := 3) (n := 3) hts inX5 (hts _ wd_1_61)
  obtain ⟨c6, i6, h6⟩ := u_known (C := RX6) (T := TX6) (N := 13) (n := 13) hts inX6 (hts _ wd_1_31)
  obtain ⟨c7, i7, h7⟩ := u_known (C := RJ4) (T := TJ4) (N := 4) (n := 4) hts inJ4 (hts _ wd_5_56)
  obtain ⟨c8, i8, h8⟩ := u_known (C := RJ0) (T := TJ0) (N := 4) (n := 4) hts inJ0 (hts _ wd_3_167)
  refine ⟨fun k => if k = 0 then c0 else if k = 1 then c1 else if k = 2 then c2 else if k = 3 then c3 else if k = 4 then c4 else if k = 5 then c5 else if k = 6 then c6 else if k = 7 then c7 else c8, fun k => if k = 0 then i0 else if k = 1 then i1 else if k = 2 then i2 else if k = 3 then i3 else if k = 4 then i4 else if k = 5 then i5 else if k = 6 then i6 else if k = 7 then i7 else i8, fun k q hq => ?_⟩
  match k, hq with
  | 0, hq => cases hq; exact h0
  | 1, hq => cases hq; exact h1
  | 2, hq => cases hq; exact h2
  | 3, hq => cases hq; exact h3
  | 4, hq => cases hq; exact h4
  | 5, hq => cases hq; exact h5
  | 6, hq => cases hq; exact h6
  | 7, hq => cases hq; exact h7
  | 8, hq => cases hq; exact h8
  | k + 9, hq => simp at hq
theorem nf_12 : (flatC nwT)[12]? = some (Jvm.Cond.arrayOf (Jvm.Term.static "java/lang/Integer" "DigitOnes" "[B") Jvm.ClassFile.FieldType.byte) := by decide +kernel
theorem nf_13 : (flatC nwT)[13]? = some (Jvm.Cond.eq (Jvm.Term.length (Jvm.Term.static "java/lang/Integer" "DigitOnes" "[B")) (Jvm.Term.int (100 : Int32))) := by decide +kernel
theorem nf_dig : ∀ j : Fin 100, (flatC nwT)[14 + j.val]? = some (Jvm.Cond.eq (Jvm.Term.elem (Jvm.Term.static "java/lang/Integer" "DigitOnes" "[B") (Jvm.Term.int (Int32.ofNat j.val))) (Jvm.Term.int (Int32.ofNat (48 + j.val % 10)))) := by decide +kernel
theorem st_dig {args : Array Value} {s : State} (hg : nwT.before args s = true) : ∃ t : Nat, (Jvm.Term.static "java/lang/Integer" "DigitOnes" "[B").eval args s none [] s = some (.ref t) ∧ va_T .byte t 100 (fun j => .int (Int32.ofNat (48 + j % 10))) (nwA s) s s.heap := by
  obtain ⟨t, ht, hT⟩ := va_Tof (N := 100) (f := fun j => .int (Int32.ofNat (48 + j % 10))) (A := nwA s) (by decide) (nw_at hg 12 nf_12) (va_eqt (nw_at hg 13 nf_13)) (fun j hj => va_eqt (nw_at hg (14 + j) (nf_dig ⟨j, hj⟩))) nwA_in
  exact ⟨t, ht, hT⟩
theorem nf_6 : (flatC nwT)[6]? = some (Jvm.Cond.eq (Jvm.Term.static "java/lang/String" "COMPACT_STRINGS" "Z") (Jvm.Term.int (1 : Int32))) := by decide +kernel
theorem nf_4 : (flatC nwT)[4]? = some (Jvm.Cond.isRef (Jvm.Term.static "java/lang/Throwable" "UNASSIGNED_STACK" "[Ljava/lang/StackTraceElement;")) := by decide +kernel
theorem nf_5 : (flatC nwT)[5]? = some (Jvm.Cond.isRef (Jvm.Term.static "java/lang/Throwable" "SUPPRESSED_SENTINEL" "Ljava/util/List;")) := by decide +kernel
theorem nf_7 : (flatC nwT)[7]? = some (Jvm.Cond.isRef (Jvm.Term.static "jdk/internal/util/Preconditions" "SIOOBE_FORMATTER" "Ljava/util/function/BiFunction;")) := by decide +kernel
/-- all that stays as it is, at the start -/
theorem st_amb {args : Array Value} {s : State} (hts : ∀ w ∈ lw_tbl, w.before args s = true) (hg : nwT.before args s = true) : ∃ (S : Nat → Nat) (G : eG), eAmb S G (nwA s) s s.heap := by
  have htb : ∀ w ∈ eTB, w.before args s = true := st_tb hts
  obtain ⟨dC, dI, hC⟩ := st_cls htb
  obtain ⟨t, ht⟩ := st_tys hts
  obtain ⟨dg, hd1, hd2⟩ := st_dig hg
  obtain ⟨q, hq⟩ := Classical.axiomOfChoice (st_fos hg)
  have h0 : ∀ i : Nat, ∃ a : Nat, ∀ r, eStr[i]? = some r → vk_R r.1 r.2.1 r.2.2 a s := by
    intro i
    cases hi : eStr[i]? with
    | none => exact ⟨0, fun r h => by cases h⟩
    | some r0 =>
      obtain ⟨a, ha⟩ := st_str hts hg r0 (List.mem_of_getElem? hi)
      exact ⟨a, fun r h => by cases h; exact ha⟩
  obtain ⟨ad, had⟩ := Classical.axiomOfChoice h0
  have hk : ∀ i, i < 3 → ad (16 + i) = (q i).1 := by
    intro i hi
    have g : ∃ tx, eStr[16 + i]? = some ("BasketFlockLaw", foK i, tx) := by
      rcases (show i = 0 ∨ i = 1 ∨ i = 2 by omega) with e | e | e <;> subst e <;> exact ⟨_, rfl⟩
    obtain ⟨tx, g⟩ := g
    have g1 := (had (16 + i) _ g).2
    have g2 := (hq i hi).1
    have g3 : some (Value.ref (ad (16 + i))) = some (Value.ref (q i).1) := g1.symm.trans g2
    injection g3 with g3
    injection g3
  obtain ⟨S, eS⟩ : ∃ S : Nat → Nat, S = fun i => (if i < 19 then ad i else if i < 22 then (q (i - 19)).2 else dg) := ⟨_, rfl⟩
  have S0 : ∀ i, i < 19 → S i = ad i := fun i hi => by rw [eS]; exact if_pos hi
  have S1 : ∀ i, i < 3 → S (19 + i) = (q i).2 := fun i hi => by
    rw [eS]
    show (if 19 + i < 19 then _ else if 19 + i < 22 then (q (19 + i - 19)).2 else dg) = _
    rw [if_neg (by omega), if_pos (by omega), show 19 + i - 19 = i by omega]
  have S2 : S 22 = dg := by rw [eS]; rfl
  refine ⟨S, ((dC, dI), t), ⟨hC, fun k r hr => ?_⟩, fun i r hr => ?_, vx_Zqof (hts _ (tq_2 (List.mem_of_getElem? (i := 41) rfl))) (hts _ (tq_1 (List.mem_of_getElem? (i := 9) rfl))) (nw_at hg 4 nf_4) nwA_in, vx_Zqof (hts _ (tq_2 (List.mem_of_getElem? (i := 43) rfl))) (hts _ (tq_1 (List.mem_of_getElem? (i := 9) rfl))) (nw_at hg 5 nf_5) nwA_in, st_nn hts, st_nc hg, st_cs hts, va_AO.of (hts _ (tq_1 (List.mem_of_getElem? (i := 145) rfl))), va_AOA.of (hts _ (tq_1 (List.mem_of_getElem? (i := 177) rfl))), ?_, va_Zof (hts _ (tq_5 (List.mem_of_getElem? (i := 8) rfl))) (hts _ (tq_1 (List.mem_of_getElem? (i := 19) rfl))) (va_eqt (nw_at hg 6 nf_6)) nwA_in, va_Zqof (hts _ (tq_5 (List.mem_of_getElem? (i := 29) rfl))) (hts _ (tq_1 (List.mem_of_getElem? (i := 25) rfl))) (nw_at hg 7 nf_7) nwA_in, st_dc hts, ?_, ?_⟩
  · unfold eTys at hr
    rw [List.getElem?_mapIdx] at hr
    cases hy : eTy[k]? with
    | none => rw [hy] at hr; cases hr
    | some ty =>
      rw [hy] at hr
      cases hr
      exact ht k ty hy
  · have hlt : i < 19 := (List.getElem?_eq_some_iff.mp hr).1
    rw [S0 i hlt]
    exact had i r hr
  · have hS := st_S hq
    refine ⟨fun i hi => ?_, fun i j hi hj e => ?_⟩
    · have := hS.1 i hi
      have e1 : S (16 + i) = (q i).1 := (S0 _ (by omega)).trans (hk i hi)
      have e2 := S1 i hi
      simp only [e1, e2]
      exact this
    · refine hS.2 i j hi hj ?_
      have e : S (16 + i) = S (16 + j) := e
      rw [S0 _ (by omega), S0 _ (by omega), hk i hi, hk j hj] at e
      exact e
  · rw [S2]; exact va_Zof (hts _ (tq_5 (List.mem_of_getElem? (i := 194) rfl))) (hts _ (tq_1 (List.mem_of_getElem? (i := 28) rfl))) hd1 nwA_in
  · rw [S2]; exact hd2
