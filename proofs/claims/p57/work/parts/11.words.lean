/-! ===== the words, by their places ===== -/
theorem tb_1 {w : Cond} (h : w ∈ tables_1_1) (g : goodWord w = true) : w ∈ eTB := eTB_in (List.mem_append_right _ (List.mem_append_left _ (h))) g
theorem tb_2 {w : Cond} (h : w ∈ tables_1_2) (g : goodWord w = true) : w ∈ eTB := eTB_in (List.mem_append_right _ (List.mem_append_right _ (List.mem_append_left _ (h)))) g
theorem tb_3 {w : Cond} (h : w ∈ tables_1_3) (g : goodWord w = true) : w ∈ eTB := eTB_in (List.mem_append_right _ (List.mem_append_right _ (List.mem_append_right _ (List.mem_append_left _ (h))))) g
theorem tb_4 {w : Cond} (h : w ∈ tables_1_4) (g : goodWord w = true) : w ∈ eTB := eTB_in (List.mem_append_right _ (List.mem_append_right _ (List.mem_append_right _ (List.mem_append_right _ (List.mem_append_left _ (h)))))) g
theorem tb_5 {w : Cond} (h : w ∈ tables_1_5) (g : goodWord w = true) : w ∈ eTB := eTB_in (List.mem_append_right _ (List.mem_append_right _ (List.mem_append_right _ (List.mem_append_right _ (List.mem_append_right _ (List.mem_append_left _ (h))))))) g
theorem tb_6 {w : Cond} (h : w ∈ tables_1_6) (g : goodWord w = true) : w ∈ eTB := eTB_in (List.mem_append_right _ (List.mem_append_right _ (List.mem_append_right _ (List.mem_append_right _ (List.mem_append_right _ (List.mem_append_right _ (h))))))) g
theorem wd_1_0 : (.initialized RL) ∈ eTB := tb_1 (List.mem_of_getElem? (i := 0) rfl) rfl
theorem wd_1_1 : (.initialized RX6) ∈ eTB := tb_1 (List.mem_of_getElem? (i := 1) rfl) rfl
theorem wd_1_2 : (.initialized RX2) ∈ eTB := tb_1 (List.mem_of_getElem? (i := 2) rfl) rfl
theorem wd_1_3 : (.initialized RX0) ∈ eTB := tb_1 (List.mem_of_getElem? (i := 3) rfl) rfl
theorem wd_1_4 : (.initialized RX5) ∈ eTB := tb_1 (List.mem_of_getElem? (i := 4) rfl) rfl
theorem wd_1_5 : (.initialized RX4) ∈ eTB := tb_1 (List.mem_of_getElem? (i := 5) rfl) rfl
theorem wd_1_6 : (.initialized RX3) ∈ eTB := tb_1 (List.mem_of_getElem? (i := 6) rfl) rfl
theorem wd_1_7 : (.initialized RX1) ∈ eTB := tb_1 (List.mem_of_getElem? (i := 7) rfl) rfl
theorem wd_1_8 : (.initialized RJ9) ∈ eTB := tb_1 (List.mem_of_getElem? (i := 8) rfl) rfl
theorem wd_1_9 : (.initialized "java/lang/Throwable") ∈ eTB := tb_1 (List.mem_of_getElem? (i := 9) rfl) rfl
theorem wd_1_10 : (.initialized "java/lang/Exception") ∈ eTB := tb_1 (List.mem_of_getElem? (i := 10) rfl) rfl
theorem wd_1_11 : (.initialized "java/lang/RuntimeException") ∈ eTB := tb_1 (List.mem_of_getElem? (i := 11) rfl) rfl
theorem wd_1_12 : (.initialized "java/lang/IndexOutOfBoundsException") ∈ eTB := tb_1 (List.mem_of_getElem? (i := 12) rfl) rfl
theorem wd_1_13 : (.initialized "java/lang/IllegalArgumentException") ∈ eTB := tb_1 (List.mem_of_getElem? (i := 13) rfl) rfl
theorem wd_1_14 : (.initialized "java/lang/IllegalStateException") ∈ eTB := tb_1 (List.mem_of_getElem? (i := 14) rfl) rfl
theorem wd_1_15 : (.initialized "java/util/NoSuchElementException") ∈ eTB := tb_1 (List.mem_of_getElem? (i := 15) rfl) rfl
theorem wd_1_16 : (.initialized "java/lang/UnsupportedOperationException") ∈ eTB := tb_1 (List.mem_of_getElem? (i := 16) rfl) rfl
theorem wd_1_17 : (.initialized RJ10) ∈ eTB := tb_1 (List.mem_of_getElem? (i := 17) rfl) rfl
theorem wd_1_18 : (.initialized RJx00060) ∈ eTB := tb_1 (List.mem_of_getElem? (i := 18) rfl) rfl
theorem wd_1_19 : (.initialized RJ0) ∈ eTB := tb_1 (List.mem_of_getElem? (i := 19) rfl) rfl
theorem wd_1_20 : (.initialized RJ5) ∈ eTB := tb_1 (List.mem_of_getElem? (i := 20) rfl) rfl
theorem wd_1_21 : (.initialized RJ4) ∈ eTB := tb_1 (List.mem_of_getElem? (i := 21) rfl) rfl
theorem wd_1_22 : (.initialized RJ2) ∈ eTB := tb_1 (List.mem_of_getElem? (i := 22) rfl) rfl
theorem wd_1_23 : (.initialized RJ8) ∈ eTB := tb_1 (List.mem_of_getElem? (i := 23) rfl) rfl
theorem wd_1_24 : (.initialized RJ7) ∈ eTB := tb_1 (List.mem_of_getElem? (i := 24) rfl) rfl
theorem wd_1_25 : (.initialized RJ3) ∈ eTB := tb_1 (List.mem_of_getElem? (i := 25) rfl) rfl
theorem wd_1_26 : (.initialized RJ1) ∈ eTB := tb_1 (List.mem_of_getElem? (i := 26) rfl) rfl
theorem wd_1_27 : (.initialized RJxd2413) ∈ eTB := tb_1 (List.mem_of_getElem? (i := 27) rfl) rfl
theorem wd_1_28 : (.initialized RJ6) ∈ eTB := tb_1 (List.mem_of_getElem? (i := 28) rfl) rfl
theorem wd_1_29 : (.initialized "java/lang/ArithmeticException") ∈ eTB := tb_1 (List.mem_of_getElem? (i := 29) rfl) rfl
theorem wd_1_30 : (.classLink RL 14 RX6) ∈ eTB := tb_1 (List.mem_of_getElem? (i := 30) rfl) rfl
theorem wd_1_31 : (.instantiable RX6 13) ∈ eTB := tb_1 (List.mem_of_getElem? (i := 31) rfl) rfl
theorem wd_1_32 : (.methodLink RL 118 yX6_init) ∈ eTB := tb_1 (List.mem_of_getElem? (i := 32) rfl) rfl
theorem wd_1_33 : (.instanceMethod yX6_init) ∈ eTB := tb_1 (List.mem_of_getElem? (i := 33) rfl) rfl
theorem wd_1_34 : (mWord mX6_init) ∈ eTB := tb_1 (List.mem_of_getElem? (i := 34) rfl) rfl
theorem wd_1_35 : (.methodLink RX6 1 Lib.objectInit) ∈ eTB := tb_1 (List.mem_of_getElem? (i := 35) rfl) rfl
theorem wd_1_36 : (.instanceMethod Lib.objectInit) ∈ eTB := tb_1 (List.mem_of_getElem? (i := 36) rfl) rfl
theorem wd_1_37 : (.code Lib.objectInit object_method_1_code 1 none) ∈ eTB := tb_1 (List.mem_of_getElem? (i := 37) rfl) rfl
theorem wd_1_38 : (.classLink RX6 7 RX2) ∈ eTB := tb_1 (List.mem_of_getElem? (i := 38) rfl) rfl
theorem wd_1_39 : (.instantiable RX2 16) ∈ eTB := tb_1 (List.mem_of_getElem? (i := 39) rfl) rfl
theorem wd_1_41 : (.instanceMethod yX2_init) ∈ eTB := tb_1 (List.mem_of_getElem? (i := 41) rfl) rfl
theorem wd_1_42 : (mWord mX2_init) ∈ eTB := tb_1 (List.mem_of_getElem? (i := 42) rfl) rfl
theorem wd_1_43 : (.methodLink RX2 3 Lib.objectInit) ∈ eTB := tb_1 (List.mem_of_getElem? (i := 43) rfl) rfl
theorem wd_1_44 : (.classLink RX2 28 RX0) ∈ eTB := tb_1 (List.mem_of_getElem? (i := 44) rfl) rfl
theorem wd_1_45 : (.instantiable RX0 2) ∈ eTB := tb_1 (List.mem_of_getElem? (i := 45) rfl) rfl
theorem wd_1_47 : (.instanceMethod yX0_init) ∈ eTB := tb_1 (List.mem_of_getElem? (i := 47) rfl) rfl
theorem wd_1_48 : (mWord mX0_init) ∈ eTB := tb_1 (List.mem_of_getElem? (i := 48) rfl) rfl
theorem wd_1_49 : (.methodLink RX0 3 Lib.objectInit) ∈ eTB := tb_1 (List.mem_of_getElem? (i := 49) rfl) rfl
theorem wd_1_50 : (.fieldLink RX0 9 RX0 "rows" "[I") ∈ eTB := tb_1 (List.mem_of_getElem? (i := 50) rfl) rfl
theorem wd_1_51 : (.fieldLink RX0 15 RX0 "count" "I") ∈ eTB := tb_1 (List.mem_of_getElem? (i := 51) rfl) rfl
theorem wd_1_52 : (.fieldLink RX2 115 RX0 "count" "I") ∈ eTB := tb_1 (List.mem_of_getElem? (i := 52) rfl) rfl
theorem wd_1_53 : (.fieldLink RX6 140 RX0 "count" "I") ∈ eTB := tb_1 (List.mem_of_getElem? (i := 53) rfl) rfl
theorem wd_1_54 : (.laysFinal "BasketFlock$Clouds" "BasketFlock$Clouds" "rows" "[I") ∈ eTB := tb_1 (List.mem_of_getElem? (i := 54) rfl) rfl
theorem wd_1_56 : (.lays "BasketFlock$Clouds" "BasketFlock$Clouds" "count" "I") ∈ eTB := tb_1 (List.mem_of_getElem? (i := 56) rfl) rfl
theorem wd_1_58 : (.superclass "BasketFlock$Clouds" "java/lang/Object") ∈ eTB := tb_1 (List.mem_of_getElem? (i := 58) rfl) rfl
theorem wd_1_59 : (.arrayClass .int) ∈ eTB := tb_1 (List.mem_of_getElem? (i := 59) rfl) rfl
theorem wd_1_60 : (.classLink RX2 35 RX5) ∈ eTB := tb_1 (List.mem_of_getElem? (i := 60) rfl) rfl
theorem wd_1_61 : (.instantiable RX5 3) ∈ eTB := tb_1 (List.mem_of_getElem? (i := 61) rfl) rfl
theorem wd_1_63 : (.instanceMethod yX5_init) ∈ eTB := tb_1 (List.mem_of_getElem? (i := 63) rfl) rfl
theorem wd_1_64 : (mWord mX5_init) ∈ eTB := tb_1 (List.mem_of_getElem? (i := 64) rfl) rfl
theorem wd_1_65 : (.methodLink RX5 3 Lib.objectInit) ∈ eTB := tb_1 (List.mem_of_getElem? (i := 65) rfl) rfl
theorem wd_1_66 : (.fieldLink RX5 11 RX5 "remembered" "[J") ∈ eTB := tb_1 (List.mem_of_getElem? (i := 66) rfl) rfl
theorem wd_1_67 : (.fieldLink RX5 15 RX5 "count" "I") ∈ eTB := tb_1 (List.mem_of_getElem? (i := 67) rfl) rfl
theorem wd_1_68 : (.fieldLink RX6 231 RX5 "count" "I") ∈ eTB := tb_1 (List.mem_of_getElem? (i := 68) rfl) rfl
theorem wd_1_69 : (.fieldLink RX5 19 RX5 "next" "I") ∈ eTB := tb_1 (List.mem_of_getElem? (i := 69) rfl) rfl
theorem wd_1_70 : (.laysFinal "BasketFlock$Shapes" "BasketFlock$Shapes" "remembered" "[J") ∈ eTB := tb_1 (List.mem_of_getElem? (i := 70) rfl) rfl
theorem wd_1_72 : (.lays "BasketFlock$Shapes" "BasketFlock$Shapes" "count" "I") ∈ eTB := tb_1 (List.mem_of_getElem? (i := 72) rfl) rfl
theorem wd_1_74 : (.lays "BasketFlock$Shapes" "BasketFlock$Shapes" "next" "I") ∈ eTB := tb_1 (List.mem_of_getElem? (i := 74) rfl) rfl
theorem wd_1_76 : (.superclass "BasketFlock$Shapes" "java/lang/Object") ∈ eTB := tb_1 (List.mem_of_getElem? (i := 76) rfl) rfl
theorem wd_1_77 : (.arrayClass .long) ∈ eTB := tb_1 (List.mem_of_getElem? (i := 77) rfl) rfl
theorem wd_1_78 : (.fieldLink RX2 9 RX2 "xs" "[I") ∈ eTB := tb_1 (List.mem_of_getElem? (i := 78) rfl) rfl
theorem wd_1_79 : (.fieldLink RX6 89 RX2 "xs" "[I") ∈ eTB := tb_1 (List.mem_of_getElem? (i := 79) rfl) rfl
theorem wd_1_80 : (.fieldLink RX2 15 RX2 "ys" "[I") ∈ eTB := tb_1 (List.mem_of_getElem? (i := 80) rfl) rfl
theorem wd_1_81 : (.fieldLink RX6 93 RX2 "ys" "[I") ∈ eTB := tb_1 (List.mem_of_getElem? (i := 81) rfl) rfl
theorem wd_1_82 : (.fieldLink RX2 18 RX2 "handles" "[I") ∈ eTB := tb_1 (List.mem_of_getElem? (i := 82) rfl) rfl
theorem wd_1_83 : (.fieldLink RX6 96 RX2 "handles" "[I") ∈ eTB := tb_1 (List.mem_of_getElem? (i := 83) rfl) rfl
theorem wd_1_84 : (.fieldLink RX2 21 RX2 "moves" "[I") ∈ eTB := tb_1 (List.mem_of_getElem? (i := 84) rfl) rfl
theorem wd_1_85 : (.fieldLink RX6 196 RX2 "moves" "[I") ∈ eTB := tb_1 (List.mem_of_getElem? (i := 85) rfl) rfl
theorem wd_1_86 : (.fieldLink RX2 24 RX2 "count" "I") ∈ eTB := tb_1 (List.mem_of_getElem? (i := 86) rfl) rfl
theorem wd_1_87 : (.fieldLink RX3 22 RX2 "count" "I") ∈ eTB := tb_1 (List.mem_of_getElem? (i := 87) rfl) rfl
theorem wd_1_88 : (.fieldLink RX6 82 RX2 "count" "I") ∈ eTB := tb_1 (List.mem_of_getElem? (i := 88) rfl) rfl
theorem wd_1_89 : (.fieldLink RX2 31 RX2 "clouds" "LBasketFlock$Clouds;") ∈ eTB := tb_1 (List.mem_of_getElem? (i := 89) rfl) rfl
theorem wd_1_90 : (.fieldLink RX6 125 RX2 "clouds" "LBasketFlock$Clouds;") ∈ eTB := tb_1 (List.mem_of_getElem? (i := 90) rfl) rfl
theorem wd_1_91 : (.fieldLink RX2 38 RX2 "shapes" "LBasketFlock$Shapes;") ∈ eTB := tb_1 (List.mem_of_getElem? (i := 91) rfl) rfl
theorem wd_1_92 : (.fieldLink RX6 227 RX2 "shapes" "LBasketFlock$Shapes;") ∈ eTB := tb_1 (List.mem_of_getElem? (i := 92) rfl) rfl
theorem wd_1_93 : (.fieldLink RX2 42 RX2 "presentShape" "[J") ∈ eTB := tb_1 (List.mem_of_getElem? (i := 93) rfl) rfl
theorem wd_1_94 : (.fieldLink RX2 46 RX2 "leading" "I") ∈ eTB := tb_1 (List.mem_of_getElem? (i := 94) rfl) rfl
theorem wd_1_95 : (.fieldLink RX6 150 RX2 "leading" "I") ∈ eTB := tb_1 (List.mem_of_getElem? (i := 95) rfl) rfl
theorem wd_1_96 : (.fieldLink RX2 49 RX2 "led" "I") ∈ eTB := tb_1 (List.mem_of_getElem? (i := 96) rfl) rfl
theorem wd_1_97 : (.fieldLink RX2 52 RX2 "turn" "I") ∈ eTB := tb_1 (List.mem_of_getElem? (i := 97) rfl) rfl
theorem wd_1_98 : (.fieldLink RX2 55 RX2 "goalX" "I") ∈ eTB := tb_1 (List.mem_of_getElem? (i := 98) rfl) rfl
theorem wd_1_99 : (.fieldLink RX2 58 RX2 "goalY" "I") ∈ eTB := tb_1 (List.mem_of_getElem? (i := 99) rfl) rfl
theorem wd_1_100 : (.fieldLink RX2 61 RX2 "kept" "I") ∈ eTB := tb_1 (List.mem_of_getElem? (i := 100) rfl) rfl
theorem wd_1_101 : (.fieldLink RX6 190 RX2 "kept" "I") ∈ eTB := tb_1 (List.mem_of_getElem? (i := 101) rfl) rfl
theorem wd_1_102 : (.fieldLink RX2 64 RX2 "steps" "I") ∈ eTB := tb_1 (List.mem_of_getElem? (i := 102) rfl) rfl
theorem wd_1_103 : (.fieldLink RX6 193 RX2 "steps" "I") ∈ eTB := tb_1 (List.mem_of_getElem? (i := 103) rfl) rfl
theorem wd_1_104 : (.fieldLink RX2 67 RX2 "waits" "I") ∈ eTB := tb_1 (List.mem_of_getElem? (i := 104) rfl) rfl
theorem wd_1_105 : (.laysFinal "BasketFlock$Flock" "BasketFlock$Flock" "xs" "[I") ∈ eTB := tb_1 (List.mem_of_getElem? (i := 105) rfl) rfl
theorem wd_1_107 : (.laysFinal "BasketFlock$Flock" "BasketFlock$Flock" "ys" "[I") ∈ eTB := tb_1 (List.mem_of_getElem? (i := 107) rfl) rfl
theorem wd_1_109 : (.laysFinal "BasketFlock$Flock" "BasketFlock$Flock" "handles" "[I") ∈ eTB := tb_1 (List.mem_of_getElem? (i := 109) rfl) rfl
theorem wd_1_111 : (.laysFinal "BasketFlock$Flock" "BasketFlock$Flock" "moves" "[I") ∈ eTB := tb_1 (List.mem_of_getElem? (i := 111) rfl) rfl
theorem wd_1_113 : (.lays "BasketFlock$Flock" "BasketFlock$Flock" "count" "I") ∈ eTB := tb_1 (List.mem_of_getElem? (i := 113) rfl) rfl
theorem wd_1_115 : (.laysFinal "BasketFlock$Flock" "BasketFlock$Flock" "clouds" "LBasketFlock$Clouds;") ∈ eTB := tb_1 (List.mem_of_getElem? (i := 115) rfl) rfl
theorem wd_1_117 : (.laysFinal "BasketFlock$Flock" "BasketFlock$Flock" "shapes" "LBasketFlock$Shapes;") ∈ eTB := tb_1 (List.mem_of_getElem? (i := 117) rfl) rfl
theorem wd_1_119 : (.laysFinal "BasketFlock$Flock" "BasketFlock$Flock" "presentShape" "[J") ∈ eTB := tb_1 (List.mem_of_getElem? (i := 119) rfl) rfl
theorem wd_1_121 : (.lays "BasketFlock$Flock" "BasketFlock$Flock" "leading" "I") ∈ eTB := tb_1 (List.mem_of_getElem? (i := 121) rfl) rfl
theorem wd_1_123 : (.lays "BasketFlock$Flock" "BasketFlock$Flock" "led" "I") ∈ eTB := tb_1 (List.mem_of_getElem? (i := 123) rfl) rfl
theorem wd_1_125 : (.lays "BasketFlock$Flock" "BasketFlock$Flock" "turn" "I") ∈ eTB := tb_1 (List.mem_of_getElem? (i := 125) rfl) rfl
theorem wd_1_127 : (.lays "BasketFlock$Flock" "BasketFlock$Flock" "goalX" "I") ∈ eTB := tb_1 (List.mem_of_getElem? (i := 127) rfl) rfl
theorem wd_1_129 : (.lays "BasketFlock$Flock" "BasketFlock$Flock" "goalY" "I") ∈ eTB := tb_1 (List.mem_of_getElem? (i := 129) rfl) rfl
theorem wd_1_131 : (.lays "BasketFlock$Flock" "BasketFlock$Flock" "kept" "I") ∈ eTB := tb_1 (List.mem_of_getElem? (i := 131) rfl) rfl
theorem wd_1_133 : (.lays "BasketFlock$Flock" "BasketFlock$Flock" "steps" "I") ∈ eTB := tb_1 (List.mem_of_getElem? (i := 133) rfl) rfl
theorem wd_1_135 : (.lays "BasketFlock$Flock" "BasketFlock$Flock" "waits" "I") ∈ eTB := tb_1 (List.mem_of_getElem? (i := 135) rfl) rfl
theorem wd_1_137 : (.superclass "BasketFlock$Flock" "java/lang/Object") ∈ eTB := tb_1 (List.mem_of_getElem? (i := 137) rfl) rfl
theorem wd_1_138 : (.classLink RX6 26 RX4) ∈ eTB := tb_1 (List.mem_of_getElem? (i := 138) rfl) rfl
theorem wd_1_139 : (.instantiable RX4 3) ∈ eTB := tb_1 (List.mem_of_getElem? (i := 139) rfl) rfl
theorem wd_1_140 : (.methodLink RX6 28 yX4_init) ∈ eTB := tb_1 (List.mem_of_getElem? (i := 140) rfl) rfl
theorem wd_1_141 : (.instanceMethod yX4_init) ∈ eTB := tb_1 (List.mem_of_getElem? (i := 141) rfl) rfl
theorem wd_1_142 : (mWord mX4_init) ∈ eTB := tb_1 (List.mem_of_getElem? (i := 142) rfl) rfl
theorem wd_1_143 : (.methodLink RX4 3 Lib.objectInit) ∈ eTB := tb_1 (List.mem_of_getElem? (i := 143) rfl) rfl
theorem wd_1_144 : (.classLink RX4 9 RX2) ∈ eTB := tb_1 (List.mem_of_getElem? (i := 144) rfl) rfl
theorem wd_1_147 : (.fieldLink RX4 11 RX4 "befores" "[LBasketFlock$Flock;") ∈ eTB := tb_1 (List.mem_of_getElem? (i := 147) rfl) rfl
theorem wd_1_148 : (.fieldLink RX4 17 RX4 "count" "I") ∈ eTB := tb_1 (List.mem_of_getElem? (i := 148) rfl) rfl
theorem wd_1_149 : (.fieldLink RX4 21 RX4 "next" "I") ∈ eTB := tb_1 (List.mem_of_getElem? (i := 149) rfl) rfl
theorem wd_1_150 : (.laysFinal "BasketFlock$History" "BasketFlock$History" "befores" "[LBasketFlock$Flock;") ∈ eTB := tb_1 (List.mem_of_getElem? (i := 150) rfl) rfl
theorem wd_1_152 : (.lays "BasketFlock$History" "BasketFlock$History" "count" "I") ∈ eTB := tb_1 (List.mem_of_getElem? (i := 152) rfl) rfl
theorem wd_1_154 : (.lays "BasketFlock$History" "BasketFlock$History" "next" "I") ∈ eTB := tb_1 (List.mem_of_getElem? (i := 154) rfl) rfl
theorem wd_1_156 : (.superclass "BasketFlock$History" "java/lang/Object") ∈ eTB := tb_1 (List.mem_of_getElem? (i := 156) rfl) rfl
theorem wd_1_157 : (.classLink RX6 33 RX3) ∈ eTB := tb_1 (List.mem_of_getElem? (i := 157) rfl) rfl
theorem wd_1_158 : (.instantiable RX3 2) ∈ eTB := tb_1 (List.mem_of_getElem? (i := 158) rfl) rfl
theorem wd_1_160 : (.instanceMethod yX3_init) ∈ eTB := tb_1 (List.mem_of_getElem? (i := 160) rfl) rfl
theorem wd_1_161 : (mWord mX3_init) ∈ eTB := tb_1 (List.mem_of_getElem? (i := 161) rfl) rfl
theorem wd_1_162 : (.methodLink RX3 3 Lib.objectInit) ∈ eTB := tb_1 (List.mem_of_getElem? (i := 162) rfl) rfl
theorem wd_1_163 : (.fieldLink RX3 9 RX3 "groups" "[I") ∈ eTB := tb_1 (List.mem_of_getElem? (i := 163) rfl) rfl
theorem wd_1_164 : (.fieldLink RX3 15 RX3 "reached" "[I") ∈ eTB := tb_1 (List.mem_of_getElem? (i := 164) rfl) rfl
theorem wd_1_165 : (.laysFinal "BasketFlock$Formations" "BasketFlock$Formations" "groups" "[I") ∈ eTB := tb_1 (List.mem_of_getElem? (i := 165) rfl) rfl
theorem wd_1_167 : (.laysFinal "BasketFlock$Formations" "BasketFlock$Formations" "reached" "[I") ∈ eTB := tb_1 (List.mem_of_getElem? (i := 167) rfl) rfl
theorem wd_1_169 : (.superclass "BasketFlock$Formations" "java/lang/Object") ∈ eTB := tb_1 (List.mem_of_getElem? (i := 169) rfl) rfl
theorem wd_1_170 : (.classLink RX6 40 RX1) ∈ eTB := tb_1 (List.mem_of_getElem? (i := 170) rfl) rfl
theorem wd_1_171 : (.instantiable RX1 6) ∈ eTB := tb_1 (List.mem_of_getElem? (i := 171) rfl) rfl
theorem wd_1_173 : (.instanceMethod yX1_init) ∈ eTB := tb_1 (List.mem_of_getElem? (i := 173) rfl) rfl
theorem wd_1_174 : (mWord mX1_init) ∈ eTB := tb_1 (List.mem_of_getElem? (i := 174) rfl) rfl
theorem wd_1_175 : (.methodLink RX1 3 Lib.objectInit) ∈ eTB := tb_1 (List.mem_of_getElem? (i := 175) rfl) rfl
theorem wd_1_176 : (.classLink RX1 23 "[[I") ∈ eTB := tb_1 (List.mem_of_getElem? (i := 176) rfl) rfl
theorem wd_1_178 : (.fieldLink RX1 9 RX1 "characters" "[C") ∈ eTB := tb_1 (List.mem_of_getElem? (i := 178) rfl) rfl
theorem wd_1_179 : (.fieldLink RX1 15 RX1 "length" "I") ∈ eTB := tb_1 (List.mem_of_getElem? (i := 179) rfl) rfl
theorem wd_1_180 : (.fieldLink RX1 19 RX1 "kinds" "[I") ∈ eTB := tb_1 (List.mem_of_getElem? (i := 180) rfl) rfl
theorem wd_1_181 : (.fieldLink RX1 25 RX1 "numbers" "[[I") ∈ eTB := tb_1 (List.mem_of_getElem? (i := 181) rfl) rfl
theorem wd_1_182 : (.fieldLink RX1 28 RX1 "commands" "I") ∈ eTB := tb_1 (List.mem_of_getElem? (i := 182) rfl) rfl
theorem wd_1_183 : (.fieldLink RX1 31 RX1 "position" "I") ∈ eTB := tb_1 (List.mem_of_getElem? (i := 183) rfl) rfl
theorem wd_1_184 : (.laysFinal "BasketFlock$CommandText" "BasketFlock$CommandText" "characters" "[C") ∈ eTB := tb_1 (List.mem_of_getElem? (i := 184) rfl) rfl
theorem wd_1_186 : (.lays "BasketFlock$CommandText" "BasketFlock$CommandText" "length" "I") ∈ eTB := tb_1 (List.mem_of_getElem? (i := 186) rfl) rfl
theorem wd_1_188 : (.laysFinal "BasketFlock$CommandText" "BasketFlock$CommandText" "kinds" "[I") ∈ eTB := tb_1 (List.mem_of_getElem? (i := 188) rfl) rfl
theorem wd_1_190 : (.laysFinal "BasketFlock$CommandText" "BasketFlock$CommandText" "numbers" "[[I") ∈ eTB := tb_1 (List.mem_of_getElem? (i := 190) rfl) rfl
theorem wd_1_192 : (.lays "BasketFlock$CommandText" "BasketFlock$CommandText" "commands" "I") ∈ eTB := tb_1 (List.mem_of_getElem? (i := 192) rfl) rfl
theorem wd_1_194 : (.lays "BasketFlock$CommandText" "BasketFlock$CommandText" "position" "I") ∈ eTB := tb_1 (List.mem_of_getElem? (i := 194) rfl) rfl
theorem wd_1_196 : (.superclass "BasketFlock$CommandText" "java/lang/Object") ∈ eTB := tb_1 (List.mem_of_getElem? (i := 196) rfl) rfl
theorem wd_1_197 : (.arrayClass .char) ∈ eTB := tb_1 (List.mem_of_getElem? (i := 197) rfl) rfl
theorem wd_1_198 : (.fieldLink RX6 10 RX6 "now" "LBasketFlock$Flock;") ∈ eTB := tb_1 (List.mem_of_getElem? (i := 198) rfl) rfl
theorem wd_1_199 : (.fieldLink RX6 16 RX6 "draft" "LBasketFlock$Flock;") ∈ eTB := tb_1 (List.mem_of_getElem? (i := 199) rfl) rfl
theorem wd_1_200 : (.fieldLink RX6 19 RX6 "snapshot" "LBasketFlock$Flock;") ∈ eTB := tb_1 (List.mem_of_getElem? (i := 200) rfl) rfl
theorem wd_1_201 : (.fieldLink RX6 22 RX6 "hasSnapshot" "Z") ∈ eTB := tb_1 (List.mem_of_getElem? (i := 201) rfl) rfl
theorem wd_1_202 : (.fieldLink RX6 29 RX6 "history" "LBasketFlock$History;") ∈ eTB := tb_1 (List.mem_of_getElem? (i := 202) rfl) rfl
theorem wd_1_203 : (.fieldLink RX6 36 RX6 "formations" "LBasketFlock$Formations;") ∈ eTB := tb_1 (List.mem_of_getElem? (i := 203) rfl) rfl
theorem wd_1_204 : (.fieldLink RX6 43 RX6 "text" "LBasketFlock$CommandText;") ∈ eTB := tb_1 (List.mem_of_getElem? (i := 204) rfl) rfl
theorem wd_1_205 : (.fieldLink RX6 47 RX6 "latestErrorPosition" "I") ∈ eTB := tb_1 (List.mem_of_getElem? (i := 205) rfl) rfl
theorem wd_1_206 : (.fieldLink RX6 51 RX6 "latestFailedCommand" "I") ∈ eTB := tb_1 (List.mem_of_getElem? (i := 206) rfl) rfl
theorem wd_1_207 : (.fieldLink RX6 54 RX6 "latestReason" "I") ∈ eTB := tb_1 (List.mem_of_getElem? (i := 207) rfl) rfl
theorem wd_1_208 : (.fieldLink RX6 57 RX6 "latestDetail" "I") ∈ eTB := tb_1 (List.mem_of_getElem? (i := 208) rfl) rfl
theorem wd_1_209 : (.fieldLink RX6 60 RX6 "line" "[C") ∈ eTB := tb_1 (List.mem_of_getElem? (i := 209) rfl) rfl
theorem wd_1_210 : (.fieldLink RX6 64 RX6 "lineLength" "I") ∈ eTB := tb_1 (List.mem_of_getElem? (i := 210) rfl) rfl
theorem wd_1_211 : (.laysFinal "BasketFlock" "BasketFlock" "now" "LBasketFlock$Flock;") ∈ eTB := tb_1 (List.mem_of_getElem? (i := 211) rfl) rfl
theorem wd_1_213 : (.laysFinal "BasketFlock" "BasketFlock" "draft" "LBasketFlock$Flock;") ∈ eTB := tb_1 (List.mem_of_getElem? (i := 213) rfl) rfl
theorem wd_1_215 : (.laysFinal "BasketFlock" "BasketFlock" "snapshot" "LBasketFlock$Flock;") ∈ eTB := tb_1 (List.mem_of_getElem? (i := 215) rfl) rfl
theorem wd_1_217 : (.lays "BasketFlock" "BasketFlock" "hasSnapshot" "Z") ∈ eTB := tb_1 (List.mem_of_getElem? (i := 217) rfl) rfl
theorem wd_1_219 : (.laysFinal "BasketFlock" "BasketFlock" "history" "LBasketFlock$History;") ∈ eTB := tb_1 (List.mem_of_getElem? (i := 219) rfl) rfl
theorem wd_1_221 : (.laysFinal "BasketFlock" "BasketFlock" "formations" "LBasketFlock$Formations;") ∈ eTB := tb_1 (List.mem_of_getElem? (i := 221) rfl) rfl
theorem wd_1_223 : (.laysFinal "BasketFlock" "BasketFlock" "text" "LBasketFlock$CommandText;") ∈ eTB := tb_1 (List.mem_of_getElem? (i := 223) rfl) rfl
theorem wd_1_225 : (.lays "BasketFlock" "BasketFlock" "latestErrorPosition" "I") ∈ eTB := tb_1 (List.mem_of_getElem? (i := 225) rfl) rfl
theorem wd_1_227 : (.lays "BasketFlock" "BasketFlock" "latestFailedCommand" "I") ∈ eTB := tb_1 (List.mem_of_getElem? (i := 227) rfl) rfl
theorem wd_1_229 : (.lays "BasketFlock" "BasketFlock" "latestReason" "I") ∈ eTB := tb_1 (List.mem_of_getElem? (i := 229) rfl) rfl
theorem wd_1_231 : (.lays "BasketFlock" "BasketFlock" "latestDetail" "I") ∈ eTB := tb_1 (List.mem_of_getElem? (i := 231) rfl) rfl
theorem wd_1_233 : (.laysFinal "BasketFlock" "BasketFlock" "line" "[C") ∈ eTB := tb_1 (List.mem_of_getElem? (i := 233) rfl) rfl
theorem wd_1_235 : (.lays "BasketFlock" "BasketFlock" "lineLength" "I") ∈ eTB := tb_1 (List.mem_of_getElem? (i := 235) rfl) rfl
theorem wd_1_237 : (.superclass "BasketFlock" "java/lang/Object") ∈ eTB := tb_1 (List.mem_of_getElem? (i := 237) rfl) rfl
theorem wd_1_238 : (.methodLink RL 90 yX6_basketCount) ∈ eTB := tb_1 (List.mem_of_getElem? (i := 238) rfl) rfl
theorem wd_1_239 : (.instanceMethod yX6_basketCount) ∈ eTB := tb_1 (List.mem_of_getElem? (i := 239) rfl) rfl
theorem wd_2_0 : (.selects RX6 yX6_basketCount yX6_basketCount) ∈ eTB := tb_2 (List.mem_of_getElem? (i := 0) rfl) rfl
theorem wd_2_1 : (mWord mX6_basketCount) ∈ eTB := tb_2 (List.mem_of_getElem? (i := 1) rfl) rfl
theorem wd_2_2 : (.methodLink RL 137 yX6_xOf) ∈ eTB := tb_2 (List.mem_of_getElem? (i := 2) rfl) rfl
theorem wd_2_3 : (.instanceMethod yX6_xOf) ∈ eTB := tb_2 (List.mem_of_getElem? (i := 3) rfl) rfl
theorem wd_2_4 : (.selects RX6 yX6_xOf yX6_xOf) ∈ eTB := tb_2 (List.mem_of_getElem? (i := 4) rfl) rfl
theorem wd_2_5 : (mWord mX6_xOf) ∈ eTB := tb_2 (List.mem_of_getElem? (i := 5) rfl) rfl
theorem wd_2_6 : (.methodLink RX6 85 yX6_demandBasket) ∈ eTB := tb_2 (List.mem_of_getElem? (i := 6) rfl) rfl
theorem wd_2_8 : (.instanceMethod yX6_demandBasket) ∈ eTB := tb_2 (List.mem_of_getElem? (i := 8) rfl) rfl
theorem wd_2_9 : (mWord mX6_demandBasket) ∈ eTB := tb_2 (List.mem_of_getElem? (i := 9) rfl) rfl
theorem wd_2_10 : (.methodLink RX6 364 yX2_has) ∈ eTB := tb_2 (List.mem_of_getElem? (i := 10) rfl) rfl
theorem wd_2_11 : (.instanceMethod yX2_has) ∈ eTB := tb_2 (List.mem_of_getElem? (i := 11) rfl) rfl
theorem wd_2_12 : (.selects RX2 yX2_has yX2_has) ∈ eTB := tb_2 (List.mem_of_getElem? (i := 12) rfl) rfl
theorem wd_2_13 : (mWord mX2_has) ∈ eTB := tb_2 (List.mem_of_getElem? (i := 13) rfl) rfl
theorem wd_2_14 : (.classLink RX6 301 "java/lang/IndexOutOfBoundsException") ∈ eTB := tb_2 (List.mem_of_getElem? (i := 14) rfl) rfl
theorem wd_2_15 : (.instantiable "java/lang/IndexOutOfBoundsException" 6) ∈ eTB := tb_2 (List.mem_of_getElem? (i := 15) rfl) rfl
theorem wd_2_23 : (.selects "java/lang/IndexOutOfBoundsException" ⟨"java/lang/Throwable", "fillInStackTrace", "(I)Ljava/lang/Throwable;"⟩ ⟨"java/lang/Throwable", "fillInStackTrace", "(I)Ljava/lang/Throwable;"⟩) ∈ eTB := tb_2 (List.mem_of_getElem? (i := 23) rfl) rfl
theorem wd_2_24 : (.selects "java/lang/IndexOutOfBoundsException" ⟨"java/lang/Throwable", "fillInStackTrace", "()Ljava/lang/Throwable;"⟩ ⟨"java/lang/Throwable", "fillInStackTrace", "()Ljava/lang/Throwable;"⟩) ∈ eTB := tb_2 (List.mem_of_getElem? (i := 24) rfl) rfl
theorem wd_2_25 : (.lays "java/lang/IndexOutOfBoundsException" "java/lang/Throwable" "cause" "Ljava/lang/Throwable;") ∈ eTB := tb_2 (List.mem_of_getElem? (i := 25) rfl) rfl
theorem wd_2_26 : (.lays "java/lang/Throwable" "java/lang/Throwable" "cause" "Ljava/lang/Throwable;") ∈ eTB := tb_2 (List.mem_of_getElem? (i := 26) rfl) rfl
theorem wd_2_27 : (.lays "java/lang/IndexOutOfBoundsException" "java/lang/Throwable" "stackTrace" "[Ljava/lang/StackTraceElement;") ∈ eTB := tb_2 (List.mem_of_getElem? (i := 27) rfl) rfl
theorem wd_2_28 : (.lays "java/lang/Throwable" "java/lang/Throwable" "stackTrace" "[Ljava/lang/StackTraceElement;") ∈ eTB := tb_2 (List.mem_of_getElem? (i := 28) rfl) rfl
theorem wd_2_29 : (.lays "java/lang/IndexOutOfBoundsException" "java/lang/Throwable" "suppressedExceptions" "Ljava/util/List;") ∈ eTB := tb_2 (List.mem_of_getElem? (i := 29) rfl) rfl
theorem wd_2_30 : (.lays "java/lang/Throwable" "java/lang/Throwable" "suppressedExceptions" "Ljava/util/List;") ∈ eTB := tb_2 (List.mem_of_getElem? (i := 30) rfl) rfl
theorem wd_2_31 : (.lays "java/lang/IndexOutOfBoundsException" "java/lang/Throwable" "detailMessage" "Ljava/lang/String;") ∈ eTB := tb_2 (List.mem_of_getElem? (i := 31) rfl) rfl
theorem wd_2_32 : (.lays "java/lang/Throwable" "java/lang/Throwable" "detailMessage" "Ljava/lang/String;") ∈ eTB := tb_2 (List.mem_of_getElem? (i := 32) rfl) rfl
theorem wd_2_33 : (.lays "java/lang/IndexOutOfBoundsException" "java/lang/Throwable" "backtrace" "Ljava/lang/Object;") ∈ eTB := tb_2 (List.mem_of_getElem? (i := 33) rfl) rfl
theorem wd_2_34 : (.lays "java/lang/Throwable" "java/lang/Throwable" "backtrace" "Ljava/lang/Object;") ∈ eTB := tb_2 (List.mem_of_getElem? (i := 34) rfl) rfl
theorem wd_2_35 : (.fieldLink "java/lang/Throwable" 198 "java/lang/Throwable" "backtrace" "Ljava/lang/Object;") ∈ eTB := tb_2 (List.mem_of_getElem? (i := 35) rfl) rfl
theorem wd_2_36 : (.superclass "java/lang/Throwable" "java/lang/Object") ∈ eTB := tb_2 (List.mem_of_getElem? (i := 36) rfl) rfl
theorem wd_2_37 : (.instanceMethod ⟨"java/lang/Throwable", "<init>", "()V"⟩) ∈ eTB := tb_2 (List.mem_of_getElem? (i := 37) rfl) rfl
theorem wd_2_38 : (.code ⟨"java/lang/Throwable", "<init>", "()V"⟩ prog_31_method_1_code 1 none) ∈ eTB := tb_2 (List.mem_of_getElem? (i := 38) rfl) rfl
theorem wd_2_39 : (.methodLink "java/lang/Throwable" 1 Lib.objectInit) ∈ eTB := tb_2 (List.mem_of_getElem? (i := 39) rfl) rfl
theorem wd_2_40 : (.fieldLink "java/lang/Throwable" 13 "java/lang/Throwable" "UNASSIGNED_STACK" "[Ljava/lang/StackTraceElement;") ∈ eTB := tb_2 (List.mem_of_getElem? (i := 40) rfl) rfl
theorem wd_2_42 : (.fieldLink "java/lang/Throwable" 20 "java/lang/Throwable" "SUPPRESSED_SENTINEL" "Ljava/util/List;") ∈ eTB := tb_2 (List.mem_of_getElem? (i := 42) rfl) rfl
theorem wd_2_44 : (.methodLink "java/lang/Throwable" 27 ⟨"java/lang/Throwable", "fillInStackTrace", "()Ljava/lang/Throwable;"⟩) ∈ eTB := tb_2 (List.mem_of_getElem? (i := 44) rfl) rfl
theorem wd_2_45 : (.instanceMethod ⟨"java/lang/Throwable", "fillInStackTrace", "()Ljava/lang/Throwable;"⟩) ∈ eTB := tb_2 (List.mem_of_getElem? (i := 45) rfl) rfl
theorem wd_2_46 : (.sameMethod "java/lang/Throwable" "java/lang/Throwable" "fillInStackTrace" "()Ljava/lang/Throwable;") ∈ eTB := tb_2 (List.mem_of_getElem? (i := 46) rfl) rfl
theorem wd_2_47 : (.selects "java/lang/ArithmeticException" ⟨"java/lang/Throwable", "fillInStackTrace", "()Ljava/lang/Throwable;"⟩ ⟨"java/lang/Throwable", "fillInStackTrace", "()Ljava/lang/Throwable;"⟩) ∈ eTB := tb_2 (List.mem_of_getElem? (i := 47) rfl) rfl
theorem wd_2_48 : (.selects RJx00060 ⟨"java/lang/Throwable", "fillInStackTrace", "()Ljava/lang/Throwable;"⟩ ⟨"java/lang/Throwable", "fillInStackTrace", "()Ljava/lang/Throwable;"⟩) ∈ eTB := tb_2 (List.mem_of_getElem? (i := 48) rfl) rfl
theorem wd_2_49 : (.selects "java/lang/IllegalArgumentException" ⟨"java/lang/Throwable", "fillInStackTrace", "()Ljava/lang/Throwable;"⟩ ⟨"java/lang/Throwable", "fillInStackTrace", "()Ljava/lang/Throwable;"⟩) ∈ eTB := tb_2 (List.mem_of_getElem? (i := 49) rfl) rfl
theorem wd_2_50 : (.selects "java/lang/IllegalStateException" ⟨"java/lang/Throwable", "fillInStackTrace", "()Ljava/lang/Throwable;"⟩ ⟨"java/lang/Throwable", "fillInStackTrace", "()Ljava/lang/Throwable;"⟩) ∈ eTB := tb_2 (List.mem_of_getElem? (i := 50) rfl) rfl
theorem wd_2_51 : (.selects "java/lang/UnsupportedOperationException" ⟨"java/lang/Throwable", "fillInStackTrace", "()Ljava/lang/Throwable;"⟩ ⟨"java/lang/Throwable", "fillInStackTrace", "()Ljava/lang/Throwable;"⟩) ∈ eTB := tb_2 (List.mem_of_getElem? (i := 51) rfl) rfl
theorem wd_2_52 : (.selects "java/util/NoSuchElementException" ⟨"java/lang/Throwable", "fillInStackTrace", "()Ljava/lang/Throwable;"⟩ ⟨"java/lang/Throwable", "fillInStackTrace", "()Ljava/lang/Throwable;"⟩) ∈ eTB := tb_2 (List.mem_of_getElem? (i := 52) rfl) rfl
theorem wd_2_54 : (.methodLink "java/lang/Throwable" 202 ⟨"java/lang/Throwable", "fillInStackTrace", "(I)Ljava/lang/Throwable;"⟩) ∈ eTB := tb_2 (List.mem_of_getElem? (i := 54) rfl) rfl
theorem wd_2_56 : (.instanceMethod ⟨"java/lang/Throwable", "fillInStackTrace", "(I)Ljava/lang/Throwable;"⟩) ∈ eTB := tb_2 (List.mem_of_getElem? (i := 56) rfl) rfl
theorem wd_2_57 : (.instantiable "java/lang/Throwable" 6) ∈ eTB := tb_2 (List.mem_of_getElem? (i := 57) rfl) rfl
theorem wd_2_58 : (.native ⟨"java/lang/Throwable", "fillInStackTrace", "(I)Ljava/lang/Throwable;"⟩) ∈ eTB := tb_2 (List.mem_of_getElem? (i := 58) rfl) rfl
theorem wd_2_60 : (.methodLink RX6 305 ⟨"java/lang/IndexOutOfBoundsException", "<init>", "(Ljava/lang/String;)V"⟩) ∈ eTB := tb_2 (List.mem_of_getElem? (i := 60) rfl) rfl
theorem wd_2_61 : (.instanceMethod ⟨"java/lang/IndexOutOfBoundsException", "<init>", "(Ljava/lang/String;)V"⟩) ∈ eTB := tb_2 (List.mem_of_getElem? (i := 61) rfl) rfl
theorem wd_2_62 : (.code ⟨"java/lang/IndexOutOfBoundsException", "<init>", "(Ljava/lang/String;)V"⟩ prog_21_method_2_code 2 none) ∈ eTB := tb_2 (List.mem_of_getElem? (i := 62) rfl) rfl
theorem wd_2_63 : (.methodLink "java/lang/IndexOutOfBoundsException" 7 ⟨"java/lang/RuntimeException", "<init>", "(Ljava/lang/String;)V"⟩) ∈ eTB := tb_2 (List.mem_of_getElem? (i := 63) rfl) rfl
theorem wd_2_64 : (.instanceMethod ⟨"java/lang/RuntimeException", "<init>", "(Ljava/lang/String;)V"⟩) ∈ eTB := tb_2 (List.mem_of_getElem? (i := 64) rfl) rfl
theorem wd_2_65 : (.code ⟨"java/lang/RuntimeException", "<init>", "(Ljava/lang/String;)V"⟩ prog_25_method_2_code 2 none) ∈ eTB := tb_2 (List.mem_of_getElem? (i := 65) rfl) rfl
theorem wd_2_66 : (.methodLink "java/lang/RuntimeException" 7 ⟨"java/lang/Exception", "<init>", "(Ljava/lang/String;)V"⟩) ∈ eTB := tb_2 (List.mem_of_getElem? (i := 66) rfl) rfl
theorem wd_2_67 : (.instanceMethod ⟨"java/lang/Exception", "<init>", "(Ljava/lang/String;)V"⟩) ∈ eTB := tb_2 (List.mem_of_getElem? (i := 67) rfl) rfl
theorem wd_2_68 : (.code ⟨"java/lang/Exception", "<init>", "(Ljava/lang/String;)V"⟩ prog_18_method_2_code 2 none) ∈ eTB := tb_2 (List.mem_of_getElem? (i := 68) rfl) rfl
theorem wd_2_69 : (.methodLink "java/lang/Exception" 7 ⟨"java/lang/Throwable", "<init>", "(Ljava/lang/String;)V"⟩) ∈ eTB := tb_2 (List.mem_of_getElem? (i := 69) rfl) rfl
theorem wd_2_70 : (.instanceMethod ⟨"java/lang/Throwable", "<init>", "(Ljava/lang/String;)V"⟩) ∈ eTB := tb_2 (List.mem_of_getElem? (i := 70) rfl) rfl
theorem wd_2_71 : (.code ⟨"java/lang/Throwable", "<init>", "(Ljava/lang/String;)V"⟩ prog_31_method_2_code 2 none) ∈ eTB := tb_2 (List.mem_of_getElem? (i := 71) rfl) rfl
theorem wd_2_73 : (.fieldLink "java/lang/Throwable" 31 "java/lang/Throwable" "detailMessage" "Ljava/lang/String;") ∈ eTB := tb_2 (List.mem_of_getElem? (i := 73) rfl) rfl
theorem wd_2_74 : (.fieldLink "java/lang/Throwable" 7 "java/lang/Throwable" "cause" "Ljava/lang/Throwable;") ∈ eTB := tb_2 (List.mem_of_getElem? (i := 74) rfl) rfl
theorem wd_2_75 : (.fieldLink "java/lang/Throwable" 17 "java/lang/Throwable" "stackTrace" "[Ljava/lang/StackTraceElement;") ∈ eTB := tb_2 (List.mem_of_getElem? (i := 75) rfl) rfl
theorem wd_2_76 : (.fieldLink "java/lang/Throwable" 24 "java/lang/Throwable" "suppressedExceptions" "Ljava/util/List;") ∈ eTB := tb_2 (List.mem_of_getElem? (i := 76) rfl) rfl
theorem wd_2_81 : (.lays "java/lang/IndexOutOfBoundsException" "java/lang/Throwable" "depth" "I") ∈ eTB := tb_2 (List.mem_of_getElem? (i := 81) rfl) rfl
theorem wd_2_84 : (.superclass "java/lang/IndexOutOfBoundsException" "java/lang/RuntimeException") ∈ eTB := tb_2 (List.mem_of_getElem? (i := 84) rfl) rfl
theorem wd_2_85 : (.arrayClass .byte) ∈ eTB := tb_2 (List.mem_of_getElem? (i := 85) rfl) rfl
theorem wd_2_86 : (.methodLink RL 143 yX6_yOf) ∈ eTB := tb_2 (List.mem_of_getElem? (i := 86) rfl) rfl
theorem wd_2_87 : (.instanceMethod yX6_yOf) ∈ eTB := tb_2 (List.mem_of_getElem? (i := 87) rfl) rfl
theorem wd_2_88 : (.selects RX6 yX6_yOf yX6_yOf) ∈ eTB := tb_2 (List.mem_of_getElem? (i := 88) rfl) rfl
theorem wd_2_89 : (mWord mX6_yOf) ∈ eTB := tb_2 (List.mem_of_getElem? (i := 89) rfl) rfl
theorem wd_2_90 : (.methodLink RL 146 yX6_handleOf) ∈ eTB := tb_2 (List.mem_of_getElem? (i := 90) rfl) rfl
theorem wd_2_91 : (.instanceMethod yX6_handleOf) ∈ eTB := tb_2 (List.mem_of_getElem? (i := 91) rfl) rfl
theorem wd_2_92 : (.selects RX6 yX6_handleOf yX6_handleOf) ∈ eTB := tb_2 (List.mem_of_getElem? (i := 92) rfl) rfl
theorem wd_2_93 : (mWord mX6_handleOf) ∈ eTB := tb_2 (List.mem_of_getElem? (i := 93) rfl) rfl
theorem wd_2_94 : (.methodLink RL 34 yX6_basketAt) ∈ eTB := tb_2 (List.mem_of_getElem? (i := 94) rfl) rfl
theorem wd_2_95 : (.instanceMethod yX6_basketAt) ∈ eTB := tb_2 (List.mem_of_getElem? (i := 95) rfl) rfl
theorem wd_2_96 : (.selects RX6 yX6_basketAt yX6_basketAt) ∈ eTB := tb_2 (List.mem_of_getElem? (i := 96) rfl) rfl
theorem wd_2_97 : (mWord mX6_basketAt) ∈ eTB := tb_2 (List.mem_of_getElem? (i := 97) rfl) rfl
theorem wd_2_98 : (.methodLink RX6 99 yX6_demandCell) ∈ eTB := tb_2 (List.mem_of_getElem? (i := 98) rfl) rfl
theorem wd_2_100 : (.instanceMethod yX6_demandCell) ∈ eTB := tb_2 (List.mem_of_getElem? (i := 100) rfl) rfl
theorem wd_2_101 : (mWord mX6_demandCell) ∈ eTB := tb_2 (List.mem_of_getElem? (i := 101) rfl) rfl
theorem wd_2_102 : (.methodLink RX6 370 yX0_inSky) ∈ eTB := tb_2 (List.mem_of_getElem? (i := 102) rfl) rfl
theorem wd_2_103 : (.static yX0_inSky) ∈ eTB := tb_2 (List.mem_of_getElem? (i := 103) rfl) rfl
theorem wd_2_104 : (mWord mX0_inSky) ∈ eTB := tb_2 (List.mem_of_getElem? (i := 104) rfl) rfl
theorem wd_2_105 : (.classLink RX6 247 "java/lang/IllegalArgumentException") ∈ eTB := tb_2 (List.mem_of_getElem? (i := 105) rfl) rfl
theorem wd_2_106 : (.instantiable "java/lang/IllegalArgumentException" 6) ∈ eTB := tb_2 (List.mem_of_getElem? (i := 106) rfl) rfl
theorem wd_2_108 : (.selects "java/lang/IllegalArgumentException" ⟨"java/lang/Throwable", "fillInStackTrace", "(I)Ljava/lang/Throwable;"⟩ ⟨"java/lang/Throwable", "fillInStackTrace", "(I)Ljava/lang/Throwable;"⟩) ∈ eTB := tb_2 (List.mem_of_getElem? (i := 108) rfl) rfl
theorem wd_2_109 : (.lays "java/lang/IllegalArgumentException" "java/lang/Throwable" "cause" "Ljava/lang/Throwable;") ∈ eTB := tb_2 (List.mem_of_getElem? (i := 109) rfl) rfl
theorem wd_2_110 : (.lays "java/lang/IllegalArgumentException" "java/lang/Throwable" "stackTrace" "[Ljava/lang/StackTraceElement;") ∈ eTB := tb_2 (List.mem_of_getElem? (i := 110) rfl) rfl
theorem wd_2_111 : (.lays "java/lang/IllegalArgumentException" "java/lang/Throwable" "suppressedExceptions" "Ljava/util/List;") ∈ eTB := tb_2 (List.mem_of_getElem? (i := 111) rfl) rfl
theorem wd_2_112 : (.lays "java/lang/IllegalArgumentException" "java/lang/Throwable" "detailMessage" "Ljava/lang/String;") ∈ eTB := tb_2 (List.mem_of_getElem? (i := 112) rfl) rfl
theorem wd_2_113 : (.lays "java/lang/IllegalArgumentException" "java/lang/Throwable" "backtrace" "Ljava/lang/Object;") ∈ eTB := tb_2 (List.mem_of_getElem? (i := 113) rfl) rfl
theorem wd_2_115 : (.methodLink RX6 251 ⟨"java/lang/IllegalArgumentException", "<init>", "(Ljava/lang/String;)V"⟩) ∈ eTB := tb_2 (List.mem_of_getElem? (i := 115) rfl) rfl
theorem wd_2_116 : (.instanceMethod ⟨"java/lang/IllegalArgumentException", "<init>", "(Ljava/lang/String;)V"⟩) ∈ eTB := tb_2 (List.mem_of_getElem? (i := 116) rfl) rfl
theorem wd_2_117 : (.code ⟨"java/lang/IllegalArgumentException", "<init>", "(Ljava/lang/String;)V"⟩ prog_19_method_2_code 2 none) ∈ eTB := tb_2 (List.mem_of_getElem? (i := 117) rfl) rfl
theorem wd_2_118 : (.methodLink "java/lang/IllegalArgumentException" 7 ⟨"java/lang/RuntimeException", "<init>", "(Ljava/lang/String;)V"⟩) ∈ eTB := tb_2 (List.mem_of_getElem? (i := 118) rfl) rfl
theorem wd_2_119 : (.lays "java/lang/IllegalArgumentException" "java/lang/Throwable" "depth" "I") ∈ eTB := tb_2 (List.mem_of_getElem? (i := 119) rfl) rfl
theorem wd_2_120 : (.superclass "java/lang/IllegalArgumentException" "java/lang/RuntimeException") ∈ eTB := tb_2 (List.mem_of_getElem? (i := 120) rfl) rfl
theorem wd_2_121 : (.methodLink RX6 103 yX2_basketIn) ∈ eTB := tb_2 (List.mem_of_getElem? (i := 121) rfl) rfl
theorem wd_2_122 : (.instanceMethod yX2_basketIn) ∈ eTB := tb_2 (List.mem_of_getElem? (i := 122) rfl) rfl
theorem wd_2_123 : (.selects RX2 yX2_basketIn yX2_basketIn) ∈ eTB := tb_2 (List.mem_of_getElem? (i := 123) rfl) rfl
theorem wd_2_124 : (mWord mX2_basketIn) ∈ eTB := tb_2 (List.mem_of_getElem? (i := 124) rfl) rfl
theorem wd_2_125 : (.classLink RX6 106 "java/util/NoSuchElementException") ∈ eTB := tb_2 (List.mem_of_getElem? (i := 125) rfl) rfl
theorem wd_2_126 : (.instantiable "java/util/NoSuchElementException" 6) ∈ eTB := tb_2 (List.mem_of_getElem? (i := 126) rfl) rfl
theorem wd_2_128 : (.selects "java/util/NoSuchElementException" ⟨"java/lang/Throwable", "fillInStackTrace", "(I)Ljava/lang/Throwable;"⟩ ⟨"java/lang/Throwable", "fillInStackTrace", "(I)Ljava/lang/Throwable;"⟩) ∈ eTB := tb_2 (List.mem_of_getElem? (i := 128) rfl) rfl
theorem wd_2_129 : (.lays "java/util/NoSuchElementException" "java/lang/Throwable" "cause" "Ljava/lang/Throwable;") ∈ eTB := tb_2 (List.mem_of_getElem? (i := 129) rfl) rfl
theorem wd_2_130 : (.lays "java/util/NoSuchElementException" "java/lang/Throwable" "stackTrace" "[Ljava/lang/StackTraceElement;") ∈ eTB := tb_2 (List.mem_of_getElem? (i := 130) rfl) rfl
theorem wd_2_131 : (.lays "java/util/NoSuchElementException" "java/lang/Throwable" "suppressedExceptions" "Ljava/util/List;") ∈ eTB := tb_2 (List.mem_of_getElem? (i := 131) rfl) rfl
theorem wd_2_132 : (.lays "java/util/NoSuchElementException" "java/lang/Throwable" "detailMessage" "Ljava/lang/String;") ∈ eTB := tb_2 (List.mem_of_getElem? (i := 132) rfl) rfl
theorem wd_2_133 : (.lays "java/util/NoSuchElementException" "java/lang/Throwable" "backtrace" "Ljava/lang/Object;") ∈ eTB := tb_2 (List.mem_of_getElem? (i := 133) rfl) rfl
theorem wd_2_135 : (.methodLink RX6 110 ⟨"java/util/NoSuchElementException", "<init>", "(Ljava/lang/String;)V"⟩) ∈ eTB := tb_2 (List.mem_of_getElem? (i := 135) rfl) rfl
theorem wd_2_136 : (.instanceMethod ⟨"java/util/NoSuchElementException", "<init>", "(Ljava/lang/String;)V"⟩) ∈ eTB := tb_2 (List.mem_of_getElem? (i := 136) rfl) rfl
theorem wd_2_137 : (.code ⟨"java/util/NoSuchElementException", "<init>", "(Ljava/lang/String;)V"⟩ prog_36_method_4_code 2 none) ∈ eTB := tb_2 (List.mem_of_getElem? (i := 137) rfl) rfl
theorem wd_2_138 : (.methodLink "java/util/NoSuchElementException" 13 ⟨"java/lang/RuntimeException", "<init>", "(Ljava/lang/String;)V"⟩) ∈ eTB := tb_2 (List.mem_of_getElem? (i := 138) rfl) rfl
theorem wd_2_139 : (.lays "java/util/NoSuchElementException" "java/lang/Throwable" "depth" "I") ∈ eTB := tb_2 (List.mem_of_getElem? (i := 139) rfl) rfl
theorem wd_2_140 : (.superclass "java/util/NoSuchElementException" "java/lang/RuntimeException") ∈ eTB := tb_2 (List.mem_of_getElem? (i := 140) rfl) rfl
theorem wd_2_141 : (.methodLink RL 129 yX6_distance) ∈ eTB := tb_2 (List.mem_of_getElem? (i := 141) rfl) rfl
theorem wd_2_142 : (.instanceMethod yX6_distance) ∈ eTB := tb_2 (List.mem_of_getElem? (i := 142) rfl) rfl
theorem wd_2_143 : (.selects RX6 yX6_distance yX6_distance) ∈ eTB := tb_2 (List.mem_of_getElem? (i := 143) rfl) rfl
theorem wd_2_144 : (mWord mX6_distance) ∈ eTB := tb_2 (List.mem_of_getElem? (i := 144) rfl) rfl
theorem wd_2_145 : (.methodLink RX6 113 yX2_distanceOf) ∈ eTB := tb_2 (List.mem_of_getElem? (i := 145) rfl) rfl
theorem wd_2_146 : (.instanceMethod yX2_distanceOf) ∈ eTB := tb_2 (List.mem_of_getElem? (i := 146) rfl) rfl
theorem wd_2_147 : (.selects RX2 yX2_distanceOf yX2_distanceOf) ∈ eTB := tb_2 (List.mem_of_getElem? (i := 147) rfl) rfl
theorem wd_2_148 : (mWord mX2_distanceOf) ∈ eTB := tb_2 (List.mem_of_getElem? (i := 148) rfl) rfl
theorem wd_2_149 : (.methodLink RX2 90 yX2_has) ∈ eTB := tb_2 (List.mem_of_getElem? (i := 149) rfl) rfl
theorem wd_2_150 : (.methodLink RX2 149 yX2_distanceFrom) ∈ eTB := tb_2 (List.mem_of_getElem? (i := 150) rfl) rfl
theorem wd_2_151 : (.instanceMethod yX2_distanceFrom) ∈ eTB := tb_2 (List.mem_of_getElem? (i := 151) rfl) rfl
theorem wd_2_152 : (.selects RX2 yX2_distanceFrom yX2_distanceFrom) ∈ eTB := tb_2 (List.mem_of_getElem? (i := 152) rfl) rfl
theorem wd_2_153 : (mWord mX2_distanceFrom) ∈ eTB := tb_2 (List.mem_of_getElem? (i := 153) rfl) rfl
theorem wd_2_154 : (.methodLink RX2 175 yJ9_abs_0f7a4) ∈ eTB := tb_2 (List.mem_of_getElem? (i := 154) rfl) rfl
theorem wd_2_155 : (.static yJ9_abs_0f7a4) ∈ eTB := tb_2 (List.mem_of_getElem? (i := 155) rfl) rfl
theorem wd_2_156 : (mWord mJ9_abs_0f7a4) ∈ eTB := tb_2 (List.mem_of_getElem? (i := 156) rfl) rfl
theorem wd_2_157 : (.methodLink RL 154 yX6_isCloud) ∈ eTB := tb_2 (List.mem_of_getElem? (i := 157) rfl) rfl
theorem wd_2_158 : (.instanceMethod yX6_isCloud) ∈ eTB := tb_2 (List.mem_of_getElem? (i := 158) rfl) rfl
theorem wd_2_159 : (.selects RX6 yX6_isCloud yX6_isCloud) ∈ eTB := tb_2 (List.mem_of_getElem? (i := 159) rfl) rfl
theorem wd_2_160 : (mWord mX6_isCloud) ∈ eTB := tb_2 (List.mem_of_getElem? (i := 160) rfl) rfl
theorem wd_2_161 : (.methodLink RX6 136 yX0_covers) ∈ eTB := tb_2 (List.mem_of_getElem? (i := 161) rfl) rfl
theorem wd_2_162 : (.instanceMethod yX0_covers) ∈ eTB := tb_2 (List.mem_of_getElem? (i := 162) rfl) rfl
theorem wd_2_163 : (.selects RX0 yX0_covers yX0_covers) ∈ eTB := tb_2 (List.mem_of_getElem? (i := 163) rfl) rfl
theorem wd_2_164 : (mWord mX0_covers) ∈ eTB := tb_2 (List.mem_of_getElem? (i := 164) rfl) rfl
theorem wd_2_165 : (.methodLink RX0 19 yX0_inSky) ∈ eTB := tb_2 (List.mem_of_getElem? (i := 165) rfl) rfl
theorem wd_2_166 : (.methodLink RL 203 yX6_cloudCount) ∈ eTB := tb_2 (List.mem_of_getElem? (i := 166) rfl) rfl
theorem wd_2_167 : (.instanceMethod yX6_cloudCount) ∈ eTB := tb_2 (List.mem_of_getElem? (i := 167) rfl) rfl
theorem wd_2_168 : (.selects RX6 yX6_cloudCount yX6_cloudCount) ∈ eTB := tb_2 (List.mem_of_getElem? (i := 168) rfl) rfl
theorem wd_2_169 : (mWord mX6_cloudCount) ∈ eTB := tb_2 (List.mem_of_getElem? (i := 169) rfl) rfl
theorem wd_2_170 : (.methodLink RL 123 yX6_leader) ∈ eTB := tb_2 (List.mem_of_getElem? (i := 170) rfl) rfl
theorem wd_2_171 : (.instanceMethod yX6_leader) ∈ eTB := tb_2 (List.mem_of_getElem? (i := 171) rfl) rfl
theorem wd_2_172 : (.selects RX6 yX6_leader yX6_leader) ∈ eTB := tb_2 (List.mem_of_getElem? (i := 172) rfl) rfl
theorem wd_2_173 : (mWord mX6_leader) ∈ eTB := tb_2 (List.mem_of_getElem? (i := 173) rfl) rfl
theorem wd_2_174 : (.methodLink RX6 147 yX6_demandAnyBasket) ∈ eTB := tb_2 (List.mem_of_getElem? (i := 174) rfl) rfl
theorem wd_2_176 : (.instanceMethod yX6_demandAnyBasket) ∈ eTB := tb_2 (List.mem_of_getElem? (i := 176) rfl) rfl
theorem wd_2_177 : (mWord mX6_demandAnyBasket) ∈ eTB := tb_2 (List.mem_of_getElem? (i := 177) rfl) rfl
theorem wd_2_179 : (.methodLink RL 126 yX6_keep) ∈ eTB := tb_2 (List.mem_of_getElem? (i := 179) rfl) rfl
theorem wd_2_180 : (.instanceMethod yX6_keep) ∈ eTB := tb_2 (List.mem_of_getElem? (i := 180) rfl) rfl
theorem wd_2_181 : (.selects RX6 yX6_keep yX6_keep) ∈ eTB := tb_2 (List.mem_of_getElem? (i := 181) rfl) rfl
theorem wd_2_182 : (mWord mX6_keep) ∈ eTB := tb_2 (List.mem_of_getElem? (i := 182) rfl) rfl
theorem wd_2_183 : (.methodLink RL 225 yX6_stepCount) ∈ eTB := tb_2 (List.mem_of_getElem? (i := 183) rfl) rfl
theorem wd_2_184 : (.instanceMethod yX6_stepCount) ∈ eTB := tb_2 (List.mem_of_getElem? (i := 184) rfl) rfl
theorem wd_2_185 : (.selects RX6 yX6_stepCount yX6_stepCount) ∈ eTB := tb_2 (List.mem_of_getElem? (i := 185) rfl) rfl
theorem wd_2_186 : (mWord mX6_stepCount) ∈ eTB := tb_2 (List.mem_of_getElem? (i := 186) rfl) rfl
theorem wd_2_187 : (.methodLink RL 158 yX6_movesOf) ∈ eTB := tb_2 (List.mem_of_getElem? (i := 187) rfl) rfl
theorem wd_2_188 : (.instanceMethod yX6_movesOf) ∈ eTB := tb_2 (List.mem_of_getElem? (i := 188) rfl) rfl
theorem wd_2_189 : (.selects RX6 yX6_movesOf yX6_movesOf) ∈ eTB := tb_2 (List.mem_of_getElem? (i := 189) rfl) rfl
theorem wd_2_190 : (mWord mX6_movesOf) ∈ eTB := tb_2 (List.mem_of_getElem? (i := 190) rfl) rfl
theorem wd_2_191 : (.methodLink RL 221 yX6_moveTotal) ∈ eTB := tb_2 (List.mem_of_getElem? (i := 191) rfl) rfl
theorem wd_2_192 : (.instanceMethod yX6_moveTotal) ∈ eTB := tb_2 (List.mem_of_getElem? (i := 192) rfl) rfl
theorem wd_2_193 : (.selects RX6 yX6_moveTotal yX6_moveTotal) ∈ eTB := tb_2 (List.mem_of_getElem? (i := 193) rfl) rfl
theorem wd_2_194 : (mWord mX6_moveTotal) ∈ eTB := tb_2 (List.mem_of_getElem? (i := 194) rfl) rfl
theorem wd_2_195 : (.methodLink RX6 199 yX2_sumOfMoves) ∈ eTB := tb_2 (List.mem_of_getElem? (i := 195) rfl) rfl
theorem wd_2_196 : (.instanceMethod yX2_sumOfMoves) ∈ eTB := tb_2 (List.mem_of_getElem? (i := 196) rfl) rfl
theorem wd_2_197 : (.selects RX2 yX2_sumOfMoves yX2_sumOfMoves) ∈ eTB := tb_2 (List.mem_of_getElem? (i := 197) rfl) rfl
theorem wd_2_198 : (mWord mX2_sumOfMoves) ∈ eTB := tb_2 (List.mem_of_getElem? (i := 198) rfl) rfl
theorem wd_2_199 : (.methodLink RL 206 yX6_formationCount) ∈ eTB := tb_2 (List.mem_of_getElem? (i := 199) rfl) rfl
theorem wd_2_200 : (.instanceMethod yX6_formationCount) ∈ eTB := tb_2 (List.mem_of_getElem? (i := 200) rfl) rfl
theorem wd_2_201 : (.selects RX6 yX6_formationCount yX6_formationCount) ∈ eTB := tb_2 (List.mem_of_getElem? (i := 201) rfl) rfl
theorem wd_2_202 : (mWord mX6_formationCount) ∈ eTB := tb_2 (List.mem_of_getElem? (i := 202) rfl) rfl
theorem wd_2_203 : (.methodLink RX6 206 yX3_countByGoing) ∈ eTB := tb_2 (List.mem_of_getElem? (i := 203) rfl) rfl
theorem wd_2_204 : (.instanceMethod yX3_countByGoing) ∈ eTB := tb_2 (List.mem_of_getElem? (i := 204) rfl) rfl
theorem wd_2_205 : (.selects RX3 yX3_countByGoing yX3_countByGoing) ∈ eTB := tb_2 (List.mem_of_getElem? (i := 205) rfl) rfl
theorem wd_2_206 : (mWord mX3_countByGoing) ∈ eTB := tb_2 (List.mem_of_getElem? (i := 206) rfl) rfl
theorem wd_2_207 : (.methodLink RX3 18 yX3_goThrough) ∈ eTB := tb_2 (List.mem_of_getElem? (i := 207) rfl) rfl
theorem wd_2_208 : (.instanceMethod yX3_goThrough) ∈ eTB := tb_2 (List.mem_of_getElem? (i := 208) rfl) rfl
theorem wd_2_209 : (.selects RX3 yX3_goThrough yX3_goThrough) ∈ eTB := tb_2 (List.mem_of_getElem? (i := 209) rfl) rfl
theorem wd_2_210 : (mWord mX3_goThrough) ∈ eTB := tb_2 (List.mem_of_getElem? (i := 210) rfl) rfl
theorem wd_2_211 : (.methodLink RX3 42 yX3_goFrom) ∈ eTB := tb_2 (List.mem_of_getElem? (i := 211) rfl) rfl
theorem wd_2_212 : (.instanceMethod yX3_goFrom) ∈ eTB := tb_2 (List.mem_of_getElem? (i := 212) rfl) rfl
theorem wd_2_213 : (.selects RX3 yX3_goFrom yX3_goFrom) ∈ eTB := tb_2 (List.mem_of_getElem? (i := 213) rfl) rfl
theorem wd_2_214 : (mWord mX3_goFrom) ∈ eTB := tb_2 (List.mem_of_getElem? (i := 214) rfl) rfl
theorem wd_2_215 : (.methodLink RX3 46 yX2_linked) ∈ eTB := tb_2 (List.mem_of_getElem? (i := 215) rfl) rfl
theorem wd_2_216 : (.instanceMethod yX2_linked) ∈ eTB := tb_2 (List.mem_of_getElem? (i := 216) rfl) rfl
theorem wd_2_217 : (.selects RX2 yX2_linked yX2_linked) ∈ eTB := tb_2 (List.mem_of_getElem? (i := 217) rfl) rfl
theorem wd_2_218 : (mWord mX2_linked) ∈ eTB := tb_2 (List.mem_of_getElem? (i := 218) rfl) rfl
theorem wd_2_219 : (.methodLink RX2 183 yX2_distanceOf) ∈ eTB := tb_2 (List.mem_of_getElem? (i := 219) rfl) rfl
theorem wd_2_220 : (.methodLink RL 209 yX6_formationCountByMerging) ∈ eTB := tb_2 (List.mem_of_getElem? (i := 220) rfl) rfl
theorem wd_2_221 : (.instanceMethod yX6_formationCountByMerging) ∈ eTB := tb_2 (List.mem_of_getElem? (i := 221) rfl) rfl
theorem wd_2_222 : (.selects RX6 yX6_formationCountByMerging yX6_formationCountByMerging) ∈ eTB := tb_2 (List.mem_of_getElem? (i := 222) rfl) rfl
theorem wd_2_223 : (mWord mX6_formationCountByMerging) ∈ eTB := tb_2 (List.mem_of_getElem? (i := 223) rfl) rfl
theorem wd_2_224 : (.methodLink RX6 210 yX3_countByMerging) ∈ eTB := tb_2 (List.mem_of_getElem? (i := 224) rfl) rfl
theorem wd_2_225 : (.instanceMethod yX3_countByMerging) ∈ eTB := tb_2 (List.mem_of_getElem? (i := 225) rfl) rfl
theorem wd_2_226 : (.selects RX3 yX3_countByMerging yX3_countByMerging) ∈ eTB := tb_2 (List.mem_of_getElem? (i := 226) rfl) rfl
theorem wd_2_227 : (mWord mX3_countByMerging) ∈ eTB := tb_2 (List.mem_of_getElem? (i := 227) rfl) rfl
theorem wd_2_228 : (.methodLink RX3 50 yX3_merge) ∈ eTB := tb_2 (List.mem_of_getElem? (i := 228) rfl) rfl
theorem wd_2_229 : (.instanceMethod yX3_merge) ∈ eTB := tb_2 (List.mem_of_getElem? (i := 229) rfl) rfl
theorem wd_2_230 : (.selects RX3 yX3_merge yX3_merge) ∈ eTB := tb_2 (List.mem_of_getElem? (i := 230) rfl) rfl
theorem wd_2_231 : (mWord mX3_merge) ∈ eTB := tb_2 (List.mem_of_getElem? (i := 231) rfl) rfl
theorem wd_2_232 : (.methodLink RL 212 yX6_largestFormation) ∈ eTB := tb_2 (List.mem_of_getElem? (i := 232) rfl) rfl
theorem wd_2_233 : (.instanceMethod yX6_largestFormation) ∈ eTB := tb_2 (List.mem_of_getElem? (i := 233) rfl) rfl
theorem wd_2_234 : (.selects RX6 yX6_largestFormation yX6_largestFormation) ∈ eTB := tb_2 (List.mem_of_getElem? (i := 234) rfl) rfl
theorem wd_2_235 : (mWord mX6_largestFormation) ∈ eTB := tb_2 (List.mem_of_getElem? (i := 235) rfl) rfl
theorem wd_2_236 : (.methodLink RX6 213 yX3_largest) ∈ eTB := tb_2 (List.mem_of_getElem? (i := 236) rfl) rfl
theorem wd_2_237 : (.instanceMethod yX3_largest) ∈ eTB := tb_2 (List.mem_of_getElem? (i := 237) rfl) rfl
theorem wd_2_238 : (.selects RX3 yX3_largest yX3_largest) ∈ eTB := tb_2 (List.mem_of_getElem? (i := 238) rfl) rfl
theorem wd_2_239 : (mWord mX3_largest) ∈ eTB := tb_2 (List.mem_of_getElem? (i := 239) rfl) rfl
theorem wd_3_0 : (.methodLink RX3 32 yX3_sizeOfGroup) ∈ eTB := tb_3 (List.mem_of_getElem? (i := 0) rfl) rfl
theorem wd_3_1 : (.instanceMethod yX3_sizeOfGroup) ∈ eTB := tb_3 (List.mem_of_getElem? (i := 1) rfl) rfl
theorem wd_3_2 : (.selects RX3 yX3_sizeOfGroup yX3_sizeOfGroup) ∈ eTB := tb_3 (List.mem_of_getElem? (i := 2) rfl) rfl
theorem wd_3_3 : (mWord mX3_sizeOfGroup) ∈ eTB := tb_3 (List.mem_of_getElem? (i := 3) rfl) rfl
theorem wd_3_4 : (.methodLink RX3 36 yJ9_max_7cf53) ∈ eTB := tb_3 (List.mem_of_getElem? (i := 4) rfl) rfl
theorem wd_3_5 : (.static yJ9_max_7cf53) ∈ eTB := tb_3 (List.mem_of_getElem? (i := 5) rfl) rfl
theorem wd_3_6 : (mWord mJ9_max_7cf53) ∈ eTB := tb_3 (List.mem_of_getElem? (i := 6) rfl) rfl
theorem wd_3_7 : (.methodLink RL 151 yX6_formationOf) ∈ eTB := tb_3 (List.mem_of_getElem? (i := 7) rfl) rfl
theorem wd_3_8 : (.instanceMethod yX6_formationOf) ∈ eTB := tb_3 (List.mem_of_getElem? (i := 8) rfl) rfl
theorem wd_3_9 : (.selects RX6 yX6_formationOf yX6_formationOf) ∈ eTB := tb_3 (List.mem_of_getElem? (i := 9) rfl) rfl
theorem wd_3_10 : (mWord mX6_formationOf) ∈ eTB := tb_3 (List.mem_of_getElem? (i := 10) rfl) rfl
theorem wd_3_11 : (.methodLink RX6 216 yX3_lowestWith) ∈ eTB := tb_3 (List.mem_of_getElem? (i := 11) rfl) rfl
theorem wd_3_12 : (.instanceMethod yX3_lowestWith) ∈ eTB := tb_3 (List.mem_of_getElem? (i := 12) rfl) rfl
theorem wd_3_13 : (.selects RX3 yX3_lowestWith yX3_lowestWith) ∈ eTB := tb_3 (List.mem_of_getElem? (i := 13) rfl) rfl
theorem wd_3_14 : (mWord mX3_lowestWith) ∈ eTB := tb_3 (List.mem_of_getElem? (i := 14) rfl) rfl
theorem wd_3_15 : (.methodLink RX3 28 yX2_has) ∈ eTB := tb_3 (List.mem_of_getElem? (i := 15) rfl) rfl
theorem wd_3_16 : (.methodLink RL 215 yX6_mixedPairs) ∈ eTB := tb_3 (List.mem_of_getElem? (i := 16) rfl) rfl
theorem wd_3_17 : (.instanceMethod yX6_mixedPairs) ∈ eTB := tb_3 (List.mem_of_getElem? (i := 17) rfl) rfl
theorem wd_3_18 : (.selects RX6 yX6_mixedPairs yX6_mixedPairs) ∈ eTB := tb_3 (List.mem_of_getElem? (i := 18) rfl) rfl
theorem wd_3_19 : (mWord mX6_mixedPairs) ∈ eTB := tb_3 (List.mem_of_getElem? (i := 19) rfl) rfl
theorem wd_3_20 : (.methodLink RX6 220 yX2_mixedByComparing) ∈ eTB := tb_3 (List.mem_of_getElem? (i := 20) rfl) rfl
theorem wd_3_21 : (.instanceMethod yX2_mixedByComparing) ∈ eTB := tb_3 (List.mem_of_getElem? (i := 21) rfl) rfl
theorem wd_3_22 : (.selects RX2 yX2_mixedByComparing yX2_mixedByComparing) ∈ eTB := tb_3 (List.mem_of_getElem? (i := 22) rfl) rfl
theorem wd_3_23 : (mWord mX2_mixedByComparing) ∈ eTB := tb_3 (List.mem_of_getElem? (i := 23) rfl) rfl
theorem wd_3_24 : (.methodLink RX2 199 yX2_linked) ∈ eTB := tb_3 (List.mem_of_getElem? (i := 24) rfl) rfl
theorem wd_3_25 : (.methodLink RL 218 yX6_mixedPairsByHandles) ∈ eTB := tb_3 (List.mem_of_getElem? (i := 25) rfl) rfl
theorem wd_3_26 : (.instanceMethod yX6_mixedPairsByHandles) ∈ eTB := tb_3 (List.mem_of_getElem? (i := 26) rfl) rfl
theorem wd_3_27 : (.selects RX6 yX6_mixedPairsByHandles yX6_mixedPairsByHandles) ∈ eTB := tb_3 (List.mem_of_getElem? (i := 27) rfl) rfl
theorem wd_3_28 : (mWord mX6_mixedPairsByHandles) ∈ eTB := tb_3 (List.mem_of_getElem? (i := 28) rfl) rfl
theorem wd_3_29 : (.methodLink RX6 224 yX2_mixedByHandles) ∈ eTB := tb_3 (List.mem_of_getElem? (i := 29) rfl) rfl
theorem wd_3_30 : (.instanceMethod yX2_mixedByHandles) ∈ eTB := tb_3 (List.mem_of_getElem? (i := 30) rfl) rfl
theorem wd_3_31 : (.selects RX2 yX2_mixedByHandles yX2_mixedByHandles) ∈ eTB := tb_3 (List.mem_of_getElem? (i := 31) rfl) rfl
theorem wd_3_32 : (mWord mX2_mixedByHandles) ∈ eTB := tb_3 (List.mem_of_getElem? (i := 32) rfl) rfl
theorem wd_3_33 : (.methodLink RX2 202 yX2_linkedPairs) ∈ eTB := tb_3 (List.mem_of_getElem? (i := 33) rfl) rfl
theorem wd_3_34 : (.instanceMethod yX2_linkedPairs) ∈ eTB := tb_3 (List.mem_of_getElem? (i := 34) rfl) rfl
theorem wd_3_35 : (.selects RX2 yX2_linkedPairs yX2_linkedPairs) ∈ eTB := tb_3 (List.mem_of_getElem? (i := 35) rfl) rfl
theorem wd_3_36 : (mWord mX2_linkedPairs) ∈ eTB := tb_3 (List.mem_of_getElem? (i := 36) rfl) rfl
theorem wd_3_37 : (.methodLink RX2 205 yX2_linkedPairsOfHandle) ∈ eTB := tb_3 (List.mem_of_getElem? (i := 37) rfl) rfl
theorem wd_3_38 : (.instanceMethod yX2_linkedPairsOfHandle) ∈ eTB := tb_3 (List.mem_of_getElem? (i := 38) rfl) rfl
theorem wd_3_39 : (.selects RX2 yX2_linkedPairsOfHandle yX2_linkedPairsOfHandle) ∈ eTB := tb_3 (List.mem_of_getElem? (i := 39) rfl) rfl
theorem wd_3_40 : (mWord mX2_linkedPairsOfHandle) ∈ eTB := tb_3 (List.mem_of_getElem? (i := 40) rfl) rfl
theorem wd_3_41 : (.methodLink RL 200 yX6_shapeCount) ∈ eTB := tb_3 (List.mem_of_getElem? (i := 41) rfl) rfl
theorem wd_3_42 : (.instanceMethod yX6_shapeCount) ∈ eTB := tb_3 (List.mem_of_getElem? (i := 42) rfl) rfl
theorem wd_3_43 : (.selects RX6 yX6_shapeCount yX6_shapeCount) ∈ eTB := tb_3 (List.mem_of_getElem? (i := 43) rfl) rfl
theorem wd_3_44 : (mWord mX6_shapeCount) ∈ eTB := tb_3 (List.mem_of_getElem? (i := 44) rfl) rfl
theorem wd_3_45 : (.methodLink RL 228 yX6_differentShapes) ∈ eTB := tb_3 (List.mem_of_getElem? (i := 45) rfl) rfl
theorem wd_3_46 : (.instanceMethod yX6_differentShapes) ∈ eTB := tb_3 (List.mem_of_getElem? (i := 46) rfl) rfl
theorem wd_3_47 : (.selects RX6 yX6_differentShapes yX6_differentShapes) ∈ eTB := tb_3 (List.mem_of_getElem? (i := 47) rfl) rfl
theorem wd_3_48 : (mWord mX6_differentShapes) ∈ eTB := tb_3 (List.mem_of_getElem? (i := 48) rfl) rfl
theorem wd_3_49 : (.methodLink RX6 234 yX5_countDifferent) ∈ eTB := tb_3 (List.mem_of_getElem? (i := 49) rfl) rfl
theorem wd_3_50 : (.instanceMethod yX5_countDifferent) ∈ eTB := tb_3 (List.mem_of_getElem? (i := 50) rfl) rfl
theorem wd_3_51 : (.selects RX5 yX5_countDifferent yX5_countDifferent) ∈ eTB := tb_3 (List.mem_of_getElem? (i := 51) rfl) rfl
theorem wd_3_52 : (mWord mX5_countDifferent) ∈ eTB := tb_3 (List.mem_of_getElem? (i := 52) rfl) rfl
theorem wd_3_53 : (.methodLink RX5 38 yX5_standsBefore) ∈ eTB := tb_3 (List.mem_of_getElem? (i := 53) rfl) rfl
theorem wd_3_54 : (.instanceMethod yX5_standsBefore) ∈ eTB := tb_3 (List.mem_of_getElem? (i := 54) rfl) rfl
theorem wd_3_55 : (.selects RX5 yX5_standsBefore yX5_standsBefore) ∈ eTB := tb_3 (List.mem_of_getElem? (i := 55) rfl) rfl
theorem wd_3_56 : (mWord mX5_standsBefore) ∈ eTB := tb_3 (List.mem_of_getElem? (i := 56) rfl) rfl
theorem wd_3_57 : (.methodLink RX5 34 yX5_holds) ∈ eTB := tb_3 (List.mem_of_getElem? (i := 57) rfl) rfl
theorem wd_3_58 : (.instanceMethod yX5_holds) ∈ eTB := tb_3 (List.mem_of_getElem? (i := 58) rfl) rfl
theorem wd_3_59 : (.selects RX5 yX5_holds yX5_holds) ∈ eTB := tb_3 (List.mem_of_getElem? (i := 59) rfl) rfl
theorem wd_3_60 : (mWord mX5_holds) ∈ eTB := tb_3 (List.mem_of_getElem? (i := 60) rfl) rfl
theorem wd_3_61 : (.methodLink RL 71 yX6_basketAtRank) ∈ eTB := tb_3 (List.mem_of_getElem? (i := 61) rfl) rfl
theorem wd_3_62 : (.instanceMethod yX6_basketAtRank) ∈ eTB := tb_3 (List.mem_of_getElem? (i := 62) rfl) rfl
theorem wd_3_63 : (.selects RX6 yX6_basketAtRank yX6_basketAtRank) ∈ eTB := tb_3 (List.mem_of_getElem? (i := 63) rfl) rfl
theorem wd_3_64 : (mWord mX6_basketAtRank) ∈ eTB := tb_3 (List.mem_of_getElem? (i := 64) rfl) rfl
theorem wd_3_65 : (.methodLink RX6 242 yX2_basketWithRank) ∈ eTB := tb_3 (List.mem_of_getElem? (i := 65) rfl) rfl
theorem wd_3_66 : (.instanceMethod yX2_basketWithRank) ∈ eTB := tb_3 (List.mem_of_getElem? (i := 66) rfl) rfl
theorem wd_3_67 : (.selects RX2 yX2_basketWithRank yX2_basketWithRank) ∈ eTB := tb_3 (List.mem_of_getElem? (i := 67) rfl) rfl
theorem wd_3_68 : (mWord mX2_basketWithRank) ∈ eTB := tb_3 (List.mem_of_getElem? (i := 68) rfl) rfl
theorem wd_3_69 : (.methodLink RX2 196 yX2_rankOf) ∈ eTB := tb_3 (List.mem_of_getElem? (i := 69) rfl) rfl
theorem wd_3_70 : (.instanceMethod yX2_rankOf) ∈ eTB := tb_3 (List.mem_of_getElem? (i := 70) rfl) rfl
theorem wd_3_71 : (.selects RX2 yX2_rankOf yX2_rankOf) ∈ eTB := tb_3 (List.mem_of_getElem? (i := 71) rfl) rfl
theorem wd_3_72 : (mWord mX2_rankOf) ∈ eTB := tb_3 (List.mem_of_getElem? (i := 72) rfl) rfl
theorem wd_3_74 : (.methodLink RL 186 yX6_describeRow) ∈ eTB := tb_3 (List.mem_of_getElem? (i := 74) rfl) rfl
theorem wd_3_75 : (.instanceMethod yX6_describeRow) ∈ eTB := tb_3 (List.mem_of_getElem? (i := 75) rfl) rfl
theorem wd_3_76 : (.selects RX6 yX6_describeRow yX6_describeRow) ∈ eTB := tb_3 (List.mem_of_getElem? (i := 76) rfl) rfl
theorem wd_3_77 : (mWord mX6_describeRow) ∈ eTB := tb_3 (List.mem_of_getElem? (i := 77) rfl) rfl
theorem wd_3_78 : (.methodLink RX6 297 yX2_signOf) ∈ eTB := tb_3 (List.mem_of_getElem? (i := 78) rfl) rfl
theorem wd_3_79 : (.instanceMethod yX2_signOf) ∈ eTB := tb_3 (List.mem_of_getElem? (i := 79) rfl) rfl
theorem wd_3_80 : (.selects RX2 yX2_signOf yX2_signOf) ∈ eTB := tb_3 (List.mem_of_getElem? (i := 80) rfl) rfl
theorem wd_3_81 : (mWord mX2_signOf) ∈ eTB := tb_3 (List.mem_of_getElem? (i := 81) rfl) rfl
theorem wd_3_82 : (.methodLink RX2 119 yX2_basketIn) ∈ eTB := tb_3 (List.mem_of_getElem? (i := 82) rfl) rfl
theorem wd_3_83 : (.methodLink RX2 116 yX0_covers) ∈ eTB := tb_3 (List.mem_of_getElem? (i := 83) rfl) rfl
theorem wd_3_84 : (.methodLink RL 237 yX6_meanDistance) ∈ eTB := tb_3 (List.mem_of_getElem? (i := 84) rfl) rfl
theorem wd_3_85 : (.instanceMethod yX6_meanDistance) ∈ eTB := tb_3 (List.mem_of_getElem? (i := 85) rfl) rfl
theorem wd_3_86 : (.selects RX6 yX6_meanDistance yX6_meanDistance) ∈ eTB := tb_3 (List.mem_of_getElem? (i := 86) rfl) rfl
theorem wd_3_87 : (mWord mX6_meanDistance) ∈ eTB := tb_3 (List.mem_of_getElem? (i := 87) rfl) rfl
theorem wd_3_88 : (.classLink RX6 306 "java/lang/ArithmeticException") ∈ eTB := tb_3 (List.mem_of_getElem? (i := 88) rfl) rfl
theorem wd_3_89 : (.instantiable "java/lang/ArithmeticException" 6) ∈ eTB := tb_3 (List.mem_of_getElem? (i := 89) rfl) rfl
theorem wd_3_91 : (.selects "java/lang/ArithmeticException" ⟨"java/lang/Throwable", "fillInStackTrace", "(I)Ljava/lang/Throwable;"⟩ ⟨"java/lang/Throwable", "fillInStackTrace", "(I)Ljava/lang/Throwable;"⟩) ∈ eTB := tb_3 (List.mem_of_getElem? (i := 91) rfl) rfl
theorem wd_3_92 : (.lays "java/lang/ArithmeticException" "java/lang/Throwable" "cause" "Ljava/lang/Throwable;") ∈ eTB := tb_3 (List.mem_of_getElem? (i := 92) rfl) rfl
theorem wd_3_93 : (.lays "java/lang/ArithmeticException" "java/lang/Throwable" "stackTrace" "[Ljava/lang/StackTraceElement;") ∈ eTB := tb_3 (List.mem_of_getElem? (i := 93) rfl) rfl
theorem wd_3_94 : (.lays "java/lang/ArithmeticException" "java/lang/Throwable" "suppressedExceptions" "Ljava/util/List;") ∈ eTB := tb_3 (List.mem_of_getElem? (i := 94) rfl) rfl
theorem wd_3_95 : (.lays "java/lang/ArithmeticException" "java/lang/Throwable" "detailMessage" "Ljava/lang/String;") ∈ eTB := tb_3 (List.mem_of_getElem? (i := 95) rfl) rfl
theorem wd_3_96 : (.lays "java/lang/ArithmeticException" "java/lang/Throwable" "backtrace" "Ljava/lang/Object;") ∈ eTB := tb_3 (List.mem_of_getElem? (i := 96) rfl) rfl
theorem wd_3_98 : (.methodLink RX6 310 ⟨"java/lang/ArithmeticException", "<init>", "(Ljava/lang/String;)V"⟩) ∈ eTB := tb_3 (List.mem_of_getElem? (i := 98) rfl) rfl
theorem wd_3_99 : (.instanceMethod ⟨"java/lang/ArithmeticException", "<init>", "(Ljava/lang/String;)V"⟩) ∈ eTB := tb_3 (List.mem_of_getElem? (i := 99) rfl) rfl
theorem wd_3_100 : (.code ⟨"java/lang/ArithmeticException", "<init>", "(Ljava/lang/String;)V"⟩ prog_13_method_2_code 2 none) ∈ eTB := tb_3 (List.mem_of_getElem? (i := 100) rfl) rfl
theorem wd_3_101 : (.methodLink "java/lang/ArithmeticException" 7 ⟨"java/lang/RuntimeException", "<init>", "(Ljava/lang/String;)V"⟩) ∈ eTB := tb_3 (List.mem_of_getElem? (i := 101) rfl) rfl
theorem wd_3_102 : (.lays "java/lang/ArithmeticException" "java/lang/Throwable" "depth" "I") ∈ eTB := tb_3 (List.mem_of_getElem? (i := 102) rfl) rfl
theorem wd_3_103 : (.superclass "java/lang/ArithmeticException" "java/lang/RuntimeException") ∈ eTB := tb_3 (List.mem_of_getElem? (i := 103) rfl) rfl
theorem wd_3_104 : (.methodLink RX6 311 yX2_sumOfDistancesFromLeader) ∈ eTB := tb_3 (List.mem_of_getElem? (i := 104) rfl) rfl
theorem wd_3_105 : (.instanceMethod yX2_sumOfDistancesFromLeader) ∈ eTB := tb_3 (List.mem_of_getElem? (i := 105) rfl) rfl
theorem wd_3_106 : (.selects RX2 yX2_sumOfDistancesFromLeader yX2_sumOfDistancesFromLeader) ∈ eTB := tb_3 (List.mem_of_getElem? (i := 106) rfl) rfl
theorem wd_3_107 : (mWord mX2_sumOfDistancesFromLeader) ∈ eTB := tb_3 (List.mem_of_getElem? (i := 107) rfl) rfl
theorem wd_3_108 : (.methodLink RL 241 yX6_mixedShare) ∈ eTB := tb_3 (List.mem_of_getElem? (i := 108) rfl) rfl
theorem wd_3_109 : (.instanceMethod yX6_mixedShare) ∈ eTB := tb_3 (List.mem_of_getElem? (i := 109) rfl) rfl
theorem wd_3_110 : (.selects RX6 yX6_mixedShare yX6_mixedShare) ∈ eTB := tb_3 (List.mem_of_getElem? (i := 110) rfl) rfl
theorem wd_3_111 : (mWord mX6_mixedShare) ∈ eTB := tb_3 (List.mem_of_getElem? (i := 111) rfl) rfl
theorem wd_3_112 : (.methodLink RX6 314 yX2_linkedPairs) ∈ eTB := tb_3 (List.mem_of_getElem? (i := 112) rfl) rfl
theorem wd_3_114 : (.methodLink RL 233 yX6_isConsistent) ∈ eTB := tb_3 (List.mem_of_getElem? (i := 114) rfl) rfl
theorem wd_3_115 : (.instanceMethod yX6_isConsistent) ∈ eTB := tb_3 (List.mem_of_getElem? (i := 115) rfl) rfl
theorem wd_3_116 : (.selects RX6 yX6_isConsistent yX6_isConsistent) ∈ eTB := tb_3 (List.mem_of_getElem? (i := 116) rfl) rfl
theorem wd_3_117 : (mWord mX6_isConsistent) ∈ eTB := tb_3 (List.mem_of_getElem? (i := 117) rfl) rfl
theorem wd_3_118 : (.methodLink RX6 319 yX2_isApartAndClear) ∈ eTB := tb_3 (List.mem_of_getElem? (i := 118) rfl) rfl
theorem wd_3_119 : (.instanceMethod yX2_isApartAndClear) ∈ eTB := tb_3 (List.mem_of_getElem? (i := 119) rfl) rfl
theorem wd_3_120 : (.selects RX2 yX2_isApartAndClear yX2_isApartAndClear) ∈ eTB := tb_3 (List.mem_of_getElem? (i := 120) rfl) rfl
theorem wd_3_121 : (mWord mX2_isApartAndClear) ∈ eTB := tb_3 (List.mem_of_getElem? (i := 121) rfl) rfl
theorem wd_3_122 : (.methodLink RX2 111 yX2_isPossible) ∈ eTB := tb_3 (List.mem_of_getElem? (i := 122) rfl) rfl
theorem wd_3_123 : (.instanceMethod yX2_isPossible) ∈ eTB := tb_3 (List.mem_of_getElem? (i := 123) rfl) rfl
theorem wd_3_124 : (.selects RX2 yX2_isPossible yX2_isPossible) ∈ eTB := tb_3 (List.mem_of_getElem? (i := 124) rfl) rfl
theorem wd_3_125 : (mWord mX2_isPossible) ∈ eTB := tb_3 (List.mem_of_getElem? (i := 125) rfl) rfl
theorem wd_3_126 : (.methodLink RX2 107 yX0_inSky) ∈ eTB := tb_3 (List.mem_of_getElem? (i := 126) rfl) rfl
theorem wd_3_127 : (.methodLink RX2 193 yX2_lowestTouched) ∈ eTB := tb_3 (List.mem_of_getElem? (i := 127) rfl) rfl
theorem wd_3_128 : (.instanceMethod yX2_lowestTouched) ∈ eTB := tb_3 (List.mem_of_getElem? (i := 128) rfl) rfl
theorem wd_3_129 : (.selects RX2 yX2_lowestTouched yX2_lowestTouched) ∈ eTB := tb_3 (List.mem_of_getElem? (i := 129) rfl) rfl
theorem wd_3_130 : (mWord mX2_lowestTouched) ∈ eTB := tb_3 (List.mem_of_getElem? (i := 130) rfl) rfl
theorem wd_3_131 : (.methodLink RX6 322 yX6_leadersAgree) ∈ eTB := tb_3 (List.mem_of_getElem? (i := 131) rfl) rfl
theorem wd_3_133 : (.instanceMethod yX6_leadersAgree) ∈ eTB := tb_3 (List.mem_of_getElem? (i := 133) rfl) rfl
theorem wd_3_134 : (mWord mX6_leadersAgree) ∈ eTB := tb_3 (List.mem_of_getElem? (i := 134) rfl) rfl
theorem wd_3_135 : (.methodLink RX6 156 yX2_leaderByFormula) ∈ eTB := tb_3 (List.mem_of_getElem? (i := 135) rfl) rfl
theorem wd_3_136 : (.instanceMethod yX2_leaderByFormula) ∈ eTB := tb_3 (List.mem_of_getElem? (i := 136) rfl) rfl
theorem wd_3_137 : (.selects RX2 yX2_leaderByFormula yX2_leaderByFormula) ∈ eTB := tb_3 (List.mem_of_getElem? (i := 137) rfl) rfl
theorem wd_3_138 : (mWord mX2_leaderByFormula) ∈ eTB := tb_3 (List.mem_of_getElem? (i := 138) rfl) rfl
theorem wd_3_139 : (.methodLink RX6 159 yX2_leaderByCounting) ∈ eTB := tb_3 (List.mem_of_getElem? (i := 139) rfl) rfl
theorem wd_3_140 : (.instanceMethod yX2_leaderByCounting) ∈ eTB := tb_3 (List.mem_of_getElem? (i := 140) rfl) rfl
theorem wd_3_141 : (.selects RX2 yX2_leaderByCounting yX2_leaderByCounting) ∈ eTB := tb_3 (List.mem_of_getElem? (i := 141) rfl) rfl
theorem wd_3_142 : (mWord mX2_leaderByCounting) ∈ eTB := tb_3 (List.mem_of_getElem? (i := 142) rfl) rfl
theorem wd_3_143 : (.methodLink RL 166 yL_basketAt) ∈ eTB := tb_3 (List.mem_of_getElem? (i := 143) rfl) rfl
theorem wd_3_144 : (.static yL_basketAt) ∈ eTB := tb_3 (List.mem_of_getElem? (i := 144) rfl) rfl
theorem wd_3_145 : (mWord mL_basketAt) ∈ eTB := tb_3 (List.mem_of_getElem? (i := 145) rfl) rfl
theorem wd_3_146 : (.classLink RL 19 "java/lang/IllegalArgumentException") ∈ eTB := tb_3 (List.mem_of_getElem? (i := 146) rfl) rfl
theorem wd_3_147 : (.classLink RL 37 "java/util/NoSuchElementException") ∈ eTB := tb_3 (List.mem_of_getElem? (i := 147) rfl) rfl
theorem wd_3_148 : (.methodLink RL 149 yL_nearestTo) ∈ eTB := tb_3 (List.mem_of_getElem? (i := 148) rfl) rfl
theorem wd_3_149 : (.static yL_nearestTo) ∈ eTB := tb_3 (List.mem_of_getElem? (i := 149) rfl) rfl
theorem wd_3_150 : (mWord mL_nearestTo) ∈ eTB := tb_3 (List.mem_of_getElem? (i := 150) rfl) rfl
theorem wd_3_151 : (.classLink RL 28 "java/lang/IndexOutOfBoundsException") ∈ eTB := tb_3 (List.mem_of_getElem? (i := 151) rfl) rfl
theorem wd_3_152 : (.instantiable RJx00060 6) ∈ eTB := tb_3 (List.mem_of_getElem? (i := 152) rfl) rfl
theorem wd_3_153 : (.instanceMethod yJx00060_init_a7421) ∈ eTB := tb_3 (List.mem_of_getElem? (i := 153) rfl) rfl
theorem wd_3_154 : (mWord mJx00060_init_a7421) ∈ eTB := tb_3 (List.mem_of_getElem? (i := 154) rfl) rfl
theorem wd_3_155 : (.methodLink RJx00060 7 ⟨"java/lang/IndexOutOfBoundsException", "<init>", "(Ljava/lang/String;)V"⟩) ∈ eTB := tb_3 (List.mem_of_getElem? (i := 155) rfl) rfl
theorem wd_3_156 : (.lays "java/lang/ArrayIndexOutOfBoundsException" "java/lang/Throwable" "backtrace" "Ljava/lang/Object;") ∈ eTB := tb_3 (List.mem_of_getElem? (i := 156) rfl) rfl
theorem wd_3_157 : (.lays "java/lang/ArrayIndexOutOfBoundsException" "java/lang/Throwable" "detailMessage" "Ljava/lang/String;") ∈ eTB := tb_3 (List.mem_of_getElem? (i := 157) rfl) rfl
theorem wd_3_158 : (.lays "java/lang/ArrayIndexOutOfBoundsException" "java/lang/Throwable" "cause" "Ljava/lang/Throwable;") ∈ eTB := tb_3 (List.mem_of_getElem? (i := 158) rfl) rfl
theorem wd_3_159 : (.lays "java/lang/ArrayIndexOutOfBoundsException" "java/lang/Throwable" "stackTrace" "[Ljava/lang/StackTraceElement;") ∈ eTB := tb_3 (List.mem_of_getElem? (i := 159) rfl) rfl
theorem wd_3_160 : (.lays "java/lang/ArrayIndexOutOfBoundsException" "java/lang/Throwable" "depth" "I") ∈ eTB := tb_3 (List.mem_of_getElem? (i := 160) rfl) rfl
theorem wd_3_161 : (.lays "java/lang/ArrayIndexOutOfBoundsException" "java/lang/Throwable" "suppressedExceptions" "Ljava/util/List;") ∈ eTB := tb_3 (List.mem_of_getElem? (i := 161) rfl) rfl
theorem wd_3_162 : (.superclass "java/lang/ArrayIndexOutOfBoundsException" "java/lang/IndexOutOfBoundsException") ∈ eTB := tb_3 (List.mem_of_getElem? (i := 162) rfl) rfl
theorem wd_3_166 : (.selects RJx00060 ⟨"java/lang/Throwable", "fillInStackTrace", "(I)Ljava/lang/Throwable;"⟩ ⟨"java/lang/Throwable", "fillInStackTrace", "(I)Ljava/lang/Throwable;"⟩) ∈ eTB := tb_3 (List.mem_of_getElem? (i := 166) rfl) rfl
theorem wd_3_167 : (.instantiable RJ0 4) ∈ eTB := tb_3 (List.mem_of_getElem? (i := 167) rfl) rfl
theorem wd_3_168 : (.laysFinal "java/lang/String" "java/lang/String" "value" "[B") ∈ eTB := tb_3 (List.mem_of_getElem? (i := 168) rfl) rfl
theorem wd_3_170 : (.laysFinal "java/lang/String" "java/lang/String" "coder" "B") ∈ eTB := tb_3 (List.mem_of_getElem? (i := 170) rfl) rfl
theorem wd_3_172 : (.methodLink RL 39 yX6_nearestTo) ∈ eTB := tb_3 (List.mem_of_getElem? (i := 172) rfl) rfl
theorem wd_3_173 : (.instanceMethod yX6_nearestTo) ∈ eTB := tb_3 (List.mem_of_getElem? (i := 173) rfl) rfl
theorem wd_3_174 : (.selects RX6 yX6_nearestTo yX6_nearestTo) ∈ eTB := tb_3 (List.mem_of_getElem? (i := 174) rfl) rfl
theorem wd_3_175 : (mWord mX6_nearestTo) ∈ eTB := tb_3 (List.mem_of_getElem? (i := 175) rfl) rfl
theorem wd_3_176 : (.methodLink RX6 116 yX2_nearestOther) ∈ eTB := tb_3 (List.mem_of_getElem? (i := 176) rfl) rfl
theorem wd_3_177 : (.instanceMethod yX2_nearestOther) ∈ eTB := tb_3 (List.mem_of_getElem? (i := 177) rfl) rfl
theorem wd_3_178 : (.selects RX2 yX2_nearestOther yX2_nearestOther) ∈ eTB := tb_3 (List.mem_of_getElem? (i := 178) rfl) rfl
theorem wd_3_179 : (mWord mX2_nearestOther) ∈ eTB := tb_3 (List.mem_of_getElem? (i := 179) rfl) rfl
theorem wd_3_181 : (.methodLink RL 193 yL_leaderAfter) ∈ eTB := tb_3 (List.mem_of_getElem? (i := 181) rfl) rfl
theorem wd_3_182 : (.static yL_leaderAfter) ∈ eTB := tb_3 (List.mem_of_getElem? (i := 182) rfl) rfl
theorem wd_3_183 : (mWord mL_leaderAfter) ∈ eTB := tb_3 (List.mem_of_getElem? (i := 183) rfl) rfl
theorem wd_3_184 : (.methodLink RL 52 yX6_leaderAfter) ∈ eTB := tb_3 (List.mem_of_getElem? (i := 184) rfl) rfl
theorem wd_3_185 : (.instanceMethod yX6_leaderAfter) ∈ eTB := tb_3 (List.mem_of_getElem? (i := 185) rfl) rfl
theorem wd_3_186 : (.selects RX6 yX6_leaderAfter yX6_leaderAfter) ∈ eTB := tb_3 (List.mem_of_getElem? (i := 186) rfl) rfl
theorem wd_3_187 : (mWord mX6_leaderAfter) ∈ eTB := tb_3 (List.mem_of_getElem? (i := 187) rfl) rfl
theorem wd_3_188 : (.methodLink RX6 153 yX6_demandStepsAhead) ∈ eTB := tb_3 (List.mem_of_getElem? (i := 188) rfl) rfl
theorem wd_3_190 : (.instanceMethod yX6_demandStepsAhead) ∈ eTB := tb_3 (List.mem_of_getElem? (i := 190) rfl) rfl
theorem wd_3_191 : (mWord mX6_demandStepsAhead) ∈ eTB := tb_3 (List.mem_of_getElem? (i := 191) rfl) rfl
theorem wd_3_193 : (.methodLink RL 195 yL_leaderAfterByCounting) ∈ eTB := tb_3 (List.mem_of_getElem? (i := 193) rfl) rfl
theorem wd_3_194 : (.static yL_leaderAfterByCounting) ∈ eTB := tb_3 (List.mem_of_getElem? (i := 194) rfl) rfl
theorem wd_3_195 : (mWord mL_leaderAfterByCounting) ∈ eTB := tb_3 (List.mem_of_getElem? (i := 195) rfl) rfl
theorem wd_3_196 : (.methodLink RL 55 yX6_leaderAfterByCounting) ∈ eTB := tb_3 (List.mem_of_getElem? (i := 196) rfl) rfl
theorem wd_3_197 : (.instanceMethod yX6_leaderAfterByCounting) ∈ eTB := tb_3 (List.mem_of_getElem? (i := 197) rfl) rfl
theorem wd_3_198 : (.selects RX6 yX6_leaderAfterByCounting yX6_leaderAfterByCounting) ∈ eTB := tb_3 (List.mem_of_getElem? (i := 198) rfl) rfl
theorem wd_3_199 : (mWord mX6_leaderAfterByCounting) ∈ eTB := tb_3 (List.mem_of_getElem? (i := 199) rfl) rfl
theorem wd_3_200 : (.methodLink RL 197 yL_stepsSinceShape) ∈ eTB := tb_3 (List.mem_of_getElem? (i := 200) rfl) rfl
theorem wd_3_201 : (.static yL_stepsSinceShape) ∈ eTB := tb_3 (List.mem_of_getElem? (i := 201) rfl) rfl
theorem wd_3_202 : (mWord mL_stepsSinceShape) ∈ eTB := tb_3 (List.mem_of_getElem? (i := 202) rfl) rfl
theorem wd_3_203 : (.methodLink RL 67 yX6_stepsSinceShape) ∈ eTB := tb_3 (List.mem_of_getElem? (i := 203) rfl) rfl
theorem wd_3_204 : (.instanceMethod yX6_stepsSinceShape) ∈ eTB := tb_3 (List.mem_of_getElem? (i := 204) rfl) rfl
theorem wd_3_205 : (.selects RX6 yX6_stepsSinceShape yX6_stepsSinceShape) ∈ eTB := tb_3 (List.mem_of_getElem? (i := 205) rfl) rfl
theorem wd_3_206 : (mWord mX6_stepsSinceShape) ∈ eTB := tb_3 (List.mem_of_getElem? (i := 206) rfl) rfl
theorem wd_3_207 : (.methodLink RX6 237 yX2_stepsSincePresentShape) ∈ eTB := tb_3 (List.mem_of_getElem? (i := 207) rfl) rfl
theorem wd_3_208 : (.instanceMethod yX2_stepsSincePresentShape) ∈ eTB := tb_3 (List.mem_of_getElem? (i := 208) rfl) rfl
theorem wd_3_209 : (.selects RX2 yX2_stepsSincePresentShape yX2_stepsSincePresentShape) ∈ eTB := tb_3 (List.mem_of_getElem? (i := 209) rfl) rfl
theorem wd_3_210 : (mWord mX2_stepsSincePresentShape) ∈ eTB := tb_3 (List.mem_of_getElem? (i := 210) rfl) rfl
theorem wd_3_211 : (.methodLink RX2 186 yX2_drawPresentShape) ∈ eTB := tb_3 (List.mem_of_getElem? (i := 211) rfl) rfl
theorem wd_3_212 : (.instanceMethod yX2_drawPresentShape) ∈ eTB := tb_3 (List.mem_of_getElem? (i := 212) rfl) rfl
theorem wd_3_213 : (.selects RX2 yX2_drawPresentShape yX2_drawPresentShape) ∈ eTB := tb_3 (List.mem_of_getElem? (i := 213) rfl) rfl
theorem wd_3_214 : (mWord mX2_drawPresentShape) ∈ eTB := tb_3 (List.mem_of_getElem? (i := 214) rfl) rfl
theorem wd_3_215 : (.methodLink RX2 212 yJ9_min_7cf53) ∈ eTB := tb_3 (List.mem_of_getElem? (i := 215) rfl) rfl
theorem wd_3_216 : (.static yJ9_min_7cf53) ∈ eTB := tb_3 (List.mem_of_getElem? (i := 216) rfl) rfl
theorem wd_3_217 : (mWord mJ9_min_7cf53) ∈ eTB := tb_3 (List.mem_of_getElem? (i := 217) rfl) rfl
theorem wd_3_218 : (.methodLink RX2 208 yX5_stepsSince) ∈ eTB := tb_3 (List.mem_of_getElem? (i := 218) rfl) rfl
theorem wd_3_219 : (.instanceMethod yX5_stepsSince) ∈ eTB := tb_3 (List.mem_of_getElem? (i := 219) rfl) rfl
theorem wd_3_220 : (.selects RX5 yX5_stepsSince yX5_stepsSince) ∈ eTB := tb_3 (List.mem_of_getElem? (i := 220) rfl) rfl
theorem wd_3_221 : (mWord mX5_stepsSince) ∈ eTB := tb_3 (List.mem_of_getElem? (i := 221) rfl) rfl
theorem wd_3_223 : (.methodLink RL 231 yL_basketAtRank) ∈ eTB := tb_3 (List.mem_of_getElem? (i := 223) rfl) rfl
theorem wd_3_224 : (.static yL_basketAtRank) ∈ eTB := tb_3 (List.mem_of_getElem? (i := 224) rfl) rfl
theorem wd_3_225 : (mWord mL_basketAtRank) ∈ eTB := tb_3 (List.mem_of_getElem? (i := 225) rfl) rfl
theorem wd_3_226 : (.methodLink RL 119 yL_build) ∈ eTB := tb_3 (List.mem_of_getElem? (i := 226) rfl) rfl
theorem wd_3_227 : (.static yL_build) ∈ eTB := tb_3 (List.mem_of_getElem? (i := 227) rfl) rfl
theorem wd_3_228 : (mWord mL_build) ∈ eTB := tb_3 (List.mem_of_getElem? (i := 228) rfl) rfl
theorem wd_3_229 : (.methodLink RL 74 yL_some) ∈ eTB := tb_3 (List.mem_of_getElem? (i := 229) rfl) rfl
theorem wd_3_230 : (.static yL_some) ∈ eTB := tb_3 (List.mem_of_getElem? (i := 230) rfl) rfl
theorem wd_3_231 : (mWord mL_some) ∈ eTB := tb_3 (List.mem_of_getElem? (i := 231) rfl) rfl
theorem wd_3_232 : (.methodLink RL 7 yL_cell) ∈ eTB := tb_3 (List.mem_of_getElem? (i := 232) rfl) rfl
theorem wd_3_233 : (.static yL_cell) ∈ eTB := tb_3 (List.mem_of_getElem? (i := 233) rfl) rfl
theorem wd_3_234 : (mWord mL_cell) ∈ eTB := tb_3 (List.mem_of_getElem? (i := 234) rfl) rfl
theorem wd_3_235 : (.methodLink RL 78 yL_addBasket) ∈ eTB := tb_3 (List.mem_of_getElem? (i := 235) rfl) rfl
theorem wd_3_236 : (.static yL_addBasket) ∈ eTB := tb_3 (List.mem_of_getElem? (i := 236) rfl) rfl
theorem wd_3_237 : (mWord mL_addBasket) ∈ eTB := tb_3 (List.mem_of_getElem? (i := 237) rfl) rfl
theorem wd_3_238 : (.classLink RL 21 "java/lang/IllegalStateException") ∈ eTB := tb_3 (List.mem_of_getElem? (i := 238) rfl) rfl
theorem wd_3_239 : (.classLink RL 23 "java/lang/UnsupportedOperationException") ∈ eTB := tb_3 (List.mem_of_getElem? (i := 239) rfl) rfl
theorem wd_4_0 : (.methodLink RL 13 yX6_addBasket) ∈ eTB := tb_4 (List.mem_of_getElem? (i := 0) rfl) rfl
theorem wd_4_1 : (.instanceMethod yX6_addBasket) ∈ eTB := tb_4 (List.mem_of_getElem? (i := 1) rfl) rfl
theorem wd_4_2 : (.selects RX6 yX6_addBasket yX6_addBasket) ∈ eTB := tb_4 (List.mem_of_getElem? (i := 2) rfl) rfl
theorem wd_4_3 : (mWord mX6_addBasket) ∈ eTB := tb_4 (List.mem_of_getElem? (i := 3) rfl) rfl
theorem wd_4_4 : (.methodLink RX6 67 yX6_prepare) ∈ eTB := tb_4 (List.mem_of_getElem? (i := 4) rfl) rfl
theorem wd_4_6 : (.instanceMethod yX6_prepare) ∈ eTB := tb_4 (List.mem_of_getElem? (i := 6) rfl) rfl
theorem wd_4_7 : (mWord mX6_prepare) ∈ eTB := tb_4 (List.mem_of_getElem? (i := 7) rfl) rfl
theorem wd_4_8 : (.methodLink RX6 280 yX6_hindranceIn) ∈ eTB := tb_4 (List.mem_of_getElem? (i := 8) rfl) rfl
theorem wd_4_10 : (.instanceMethod yX6_hindranceIn) ∈ eTB := tb_4 (List.mem_of_getElem? (i := 10) rfl) rfl
theorem wd_4_11 : (mWord mX6_hindranceIn) ∈ eTB := tb_4 (List.mem_of_getElem? (i := 11) rfl) rfl
theorem wd_4_12 : (.methodLink RX6 339 yX2_hindrance) ∈ eTB := tb_4 (List.mem_of_getElem? (i := 12) rfl) rfl
theorem wd_4_13 : (.instanceMethod yX2_hindrance) ∈ eTB := tb_4 (List.mem_of_getElem? (i := 13) rfl) rfl
theorem wd_4_14 : (.selects RX2 yX2_hindrance yX2_hindrance) ∈ eTB := tb_4 (List.mem_of_getElem? (i := 14) rfl) rfl
theorem wd_4_15 : (mWord mX2_hindrance) ∈ eTB := tb_4 (List.mem_of_getElem? (i := 15) rfl) rfl
theorem wd_4_16 : (.methodLink RX2 83 yX2_hindranceToAdd) ∈ eTB := tb_4 (List.mem_of_getElem? (i := 16) rfl) rfl
theorem wd_4_17 : (.instanceMethod yX2_hindranceToAdd) ∈ eTB := tb_4 (List.mem_of_getElem? (i := 17) rfl) rfl
theorem wd_4_18 : (.selects RX2 yX2_hindranceToAdd yX2_hindranceToAdd) ∈ eTB := tb_4 (List.mem_of_getElem? (i := 18) rfl) rfl
theorem wd_4_19 : (mWord mX2_hindranceToAdd) ∈ eTB := tb_4 (List.mem_of_getElem? (i := 19) rfl) rfl
theorem wd_4_20 : (.methodLink RX2 87 yX2_hindranceToJump) ∈ eTB := tb_4 (List.mem_of_getElem? (i := 20) rfl) rfl
theorem wd_4_21 : (.instanceMethod yX2_hindranceToJump) ∈ eTB := tb_4 (List.mem_of_getElem? (i := 21) rfl) rfl
theorem wd_4_22 : (.selects RX2 yX2_hindranceToJump yX2_hindranceToJump) ∈ eTB := tb_4 (List.mem_of_getElem? (i := 22) rfl) rfl
theorem wd_4_23 : (mWord mX2_hindranceToJump) ∈ eTB := tb_4 (List.mem_of_getElem? (i := 23) rfl) rfl
theorem wd_4_24 : (.methodLink RX2 94 yX2_hindranceOutside) ∈ eTB := tb_4 (List.mem_of_getElem? (i := 24) rfl) rfl
theorem wd_4_25 : (.static yX2_hindranceOutside) ∈ eTB := tb_4 (List.mem_of_getElem? (i := 25) rfl) rfl
theorem wd_4_26 : (mWord mX2_hindranceOutside) ∈ eTB := tb_4 (List.mem_of_getElem? (i := 26) rfl) rfl
theorem wd_4_27 : (.methodLink RX2 97 yX2_hindranceToCloud) ∈ eTB := tb_4 (List.mem_of_getElem? (i := 27) rfl) rfl
theorem wd_4_28 : (.instanceMethod yX2_hindranceToCloud) ∈ eTB := tb_4 (List.mem_of_getElem? (i := 28) rfl) rfl
theorem wd_4_29 : (.selects RX2 yX2_hindranceToCloud yX2_hindranceToCloud) ∈ eTB := tb_4 (List.mem_of_getElem? (i := 29) rfl) rfl
theorem wd_4_30 : (mWord mX2_hindranceToCloud) ∈ eTB := tb_4 (List.mem_of_getElem? (i := 30) rfl) rfl
theorem wd_4_31 : (.methodLink RX2 101 yX2_hindranceToClear) ∈ eTB := tb_4 (List.mem_of_getElem? (i := 31) rfl) rfl
theorem wd_4_32 : (.instanceMethod yX2_hindranceToClear) ∈ eTB := tb_4 (List.mem_of_getElem? (i := 32) rfl) rfl
theorem wd_4_33 : (.selects RX2 yX2_hindranceToClear yX2_hindranceToClear) ∈ eTB := tb_4 (List.mem_of_getElem? (i := 33) rfl) rfl
theorem wd_4_34 : (mWord mX2_hindranceToClear) ∈ eTB := tb_4 (List.mem_of_getElem? (i := 34) rfl) rfl
theorem wd_4_35 : (.methodLink RX2 104 yX2_hindranceToGoal) ∈ eTB := tb_4 (List.mem_of_getElem? (i := 35) rfl) rfl
theorem wd_4_36 : (.instanceMethod yX2_hindranceToGoal) ∈ eTB := tb_4 (List.mem_of_getElem? (i := 36) rfl) rfl
theorem wd_4_37 : (.selects RX2 yX2_hindranceToGoal yX2_hindranceToGoal) ∈ eTB := tb_4 (List.mem_of_getElem? (i := 37) rfl) rfl
theorem wd_4_38 : (mWord mX2_hindranceToGoal) ∈ eTB := tb_4 (List.mem_of_getElem? (i := 38) rfl) rfl
theorem wd_4_39 : (.methodLink RX6 342 yX6_keepRefusal) ∈ eTB := tb_4 (List.mem_of_getElem? (i := 39) rfl) rfl
theorem wd_4_41 : (.instanceMethod yX6_keepRefusal) ∈ eTB := tb_4 (List.mem_of_getElem? (i := 41) rfl) rfl
theorem wd_4_42 : (mWord mX6_keepRefusal) ∈ eTB := tb_4 (List.mem_of_getElem? (i := 42) rfl) rfl
theorem wd_4_43 : (.methodLink RX6 346 yX2_lowestTouched) ∈ eTB := tb_4 (List.mem_of_getElem? (i := 43) rfl) rfl
theorem wd_4_44 : (.methodLink RX6 336 yX6_throwFor) ∈ eTB := tb_4 (List.mem_of_getElem? (i := 44) rfl) rfl
theorem wd_4_45 : (.static yX6_throwFor) ∈ eTB := tb_4 (List.mem_of_getElem? (i := 45) rfl) rfl
theorem wd_4_46 : (mWord mX6_throwFor) ∈ eTB := tb_4 (List.mem_of_getElem? (i := 46) rfl) rfl
theorem wd_4_48 : (.classLink RX6 255 "java/lang/IllegalStateException") ∈ eTB := tb_4 (List.mem_of_getElem? (i := 48) rfl) rfl
theorem wd_4_49 : (.instantiable "java/lang/IllegalStateException" 6) ∈ eTB := tb_4 (List.mem_of_getElem? (i := 49) rfl) rfl
theorem wd_4_51 : (.selects "java/lang/IllegalStateException" ⟨"java/lang/Throwable", "fillInStackTrace", "(I)Ljava/lang/Throwable;"⟩ ⟨"java/lang/Throwable", "fillInStackTrace", "(I)Ljava/lang/Throwable;"⟩) ∈ eTB := tb_4 (List.mem_of_getElem? (i := 51) rfl) rfl
theorem wd_4_52 : (.lays "java/lang/IllegalStateException" "java/lang/Throwable" "cause" "Ljava/lang/Throwable;") ∈ eTB := tb_4 (List.mem_of_getElem? (i := 52) rfl) rfl
theorem wd_4_53 : (.lays "java/lang/IllegalStateException" "java/lang/Throwable" "stackTrace" "[Ljava/lang/StackTraceElement;") ∈ eTB := tb_4 (List.mem_of_getElem? (i := 53) rfl) rfl
theorem wd_4_54 : (.lays "java/lang/IllegalStateException" "java/lang/Throwable" "suppressedExceptions" "Ljava/util/List;") ∈ eTB := tb_4 (List.mem_of_getElem? (i := 54) rfl) rfl
theorem wd_4_55 : (.lays "java/lang/IllegalStateException" "java/lang/Throwable" "detailMessage" "Ljava/lang/String;") ∈ eTB := tb_4 (List.mem_of_getElem? (i := 55) rfl) rfl
theorem wd_4_56 : (.lays "java/lang/IllegalStateException" "java/lang/Throwable" "backtrace" "Ljava/lang/Object;") ∈ eTB := tb_4 (List.mem_of_getElem? (i := 56) rfl) rfl
theorem wd_4_58 : (.methodLink RX6 259 ⟨"java/lang/IllegalStateException", "<init>", "(Ljava/lang/String;)V"⟩) ∈ eTB := tb_4 (List.mem_of_getElem? (i := 58) rfl) rfl
theorem wd_4_59 : (.instanceMethod ⟨"java/lang/IllegalStateException", "<init>", "(Ljava/lang/String;)V"⟩) ∈ eTB := tb_4 (List.mem_of_getElem? (i := 59) rfl) rfl
theorem wd_4_60 : (.code ⟨"java/lang/IllegalStateException", "<init>", "(Ljava/lang/String;)V"⟩ prog_20_method_2_code 2 none) ∈ eTB := tb_4 (List.mem_of_getElem? (i := 60) rfl) rfl
theorem wd_4_61 : (.methodLink "java/lang/IllegalStateException" 7 ⟨"java/lang/RuntimeException", "<init>", "(Ljava/lang/String;)V"⟩) ∈ eTB := tb_4 (List.mem_of_getElem? (i := 61) rfl) rfl
theorem wd_4_62 : (.lays "java/lang/IllegalStateException" "java/lang/Throwable" "depth" "I") ∈ eTB := tb_4 (List.mem_of_getElem? (i := 62) rfl) rfl
theorem wd_4_63 : (.superclass "java/lang/IllegalStateException" "java/lang/RuntimeException") ∈ eTB := tb_4 (List.mem_of_getElem? (i := 63) rfl) rfl
theorem wd_4_65 : (.classLink RX6 357 "java/lang/UnsupportedOperationException") ∈ eTB := tb_4 (List.mem_of_getElem? (i := 65) rfl) rfl
theorem wd_4_66 : (.instantiable "java/lang/UnsupportedOperationException" 6) ∈ eTB := tb_4 (List.mem_of_getElem? (i := 66) rfl) rfl
theorem wd_4_68 : (.selects "java/lang/UnsupportedOperationException" ⟨"java/lang/Throwable", "fillInStackTrace", "(I)Ljava/lang/Throwable;"⟩ ⟨"java/lang/Throwable", "fillInStackTrace", "(I)Ljava/lang/Throwable;"⟩) ∈ eTB := tb_4 (List.mem_of_getElem? (i := 68) rfl) rfl
theorem wd_4_69 : (.lays "java/lang/UnsupportedOperationException" "java/lang/Throwable" "cause" "Ljava/lang/Throwable;") ∈ eTB := tb_4 (List.mem_of_getElem? (i := 69) rfl) rfl
theorem wd_4_70 : (.lays "java/lang/UnsupportedOperationException" "java/lang/Throwable" "stackTrace" "[Ljava/lang/StackTraceElement;") ∈ eTB := tb_4 (List.mem_of_getElem? (i := 70) rfl) rfl
theorem wd_4_71 : (.lays "java/lang/UnsupportedOperationException" "java/lang/Throwable" "suppressedExceptions" "Ljava/util/List;") ∈ eTB := tb_4 (List.mem_of_getElem? (i := 71) rfl) rfl
theorem wd_4_72 : (.lays "java/lang/UnsupportedOperationException" "java/lang/Throwable" "detailMessage" "Ljava/lang/String;") ∈ eTB := tb_4 (List.mem_of_getElem? (i := 72) rfl) rfl
theorem wd_4_73 : (.lays "java/lang/UnsupportedOperationException" "java/lang/Throwable" "backtrace" "Ljava/lang/Object;") ∈ eTB := tb_4 (List.mem_of_getElem? (i := 73) rfl) rfl
theorem wd_4_75 : (.methodLink RX6 361 ⟨"java/lang/UnsupportedOperationException", "<init>", "(Ljava/lang/String;)V"⟩) ∈ eTB := tb_4 (List.mem_of_getElem? (i := 75) rfl) rfl
theorem wd_4_76 : (.instanceMethod ⟨"java/lang/UnsupportedOperationException", "<init>", "(Ljava/lang/String;)V"⟩) ∈ eTB := tb_4 (List.mem_of_getElem? (i := 76) rfl) rfl
theorem wd_4_77 : (.code ⟨"java/lang/UnsupportedOperationException", "<init>", "(Ljava/lang/String;)V"⟩ prog_32_method_2_code 2 none) ∈ eTB := tb_4 (List.mem_of_getElem? (i := 77) rfl) rfl
theorem wd_4_78 : (.methodLink "java/lang/UnsupportedOperationException" 7 ⟨"java/lang/RuntimeException", "<init>", "(Ljava/lang/String;)V"⟩) ∈ eTB := tb_4 (List.mem_of_getElem? (i := 78) rfl) rfl
theorem wd_4_79 : (.lays "java/lang/UnsupportedOperationException" "java/lang/Throwable" "depth" "I") ∈ eTB := tb_4 (List.mem_of_getElem? (i := 79) rfl) rfl
theorem wd_4_80 : (.superclass "java/lang/UnsupportedOperationException" "java/lang/RuntimeException") ∈ eTB := tb_4 (List.mem_of_getElem? (i := 80) rfl) rfl
theorem wd_4_82 : (.methodLink RX6 290 yX4_push) ∈ eTB := tb_4 (List.mem_of_getElem? (i := 82) rfl) rfl
theorem wd_4_83 : (.instanceMethod yX4_push) ∈ eTB := tb_4 (List.mem_of_getElem? (i := 83) rfl) rfl
theorem wd_4_84 : (.selects RX4 yX4_push yX4_push) ∈ eTB := tb_4 (List.mem_of_getElem? (i := 84) rfl) rfl
theorem wd_4_85 : (mWord mX4_push) ∈ eTB := tb_4 (List.mem_of_getElem? (i := 85) rfl) rfl
theorem wd_4_86 : (.methodLink RX4 25 yX2_copyFrom) ∈ eTB := tb_4 (List.mem_of_getElem? (i := 86) rfl) rfl
theorem wd_4_87 : (.instanceMethod yX2_copyFrom) ∈ eTB := tb_4 (List.mem_of_getElem? (i := 87) rfl) rfl
theorem wd_4_88 : (.selects RX2 yX2_copyFrom yX2_copyFrom) ∈ eTB := tb_4 (List.mem_of_getElem? (i := 88) rfl) rfl
theorem wd_4_89 : (mWord mX2_copyFrom) ∈ eTB := tb_4 (List.mem_of_getElem? (i := 89) rfl) rfl
theorem wd_4_90 : (.methodLink RX2 70 ⟨"java/lang/System", "arraycopy", "(Ljava/lang/Object;ILjava/lang/Object;II)V"⟩) ∈ eTB := tb_4 (List.mem_of_getElem? (i := 90) rfl) rfl
theorem wd_4_91 : (.static ⟨"java/lang/System", "arraycopy", "(Ljava/lang/Object;ILjava/lang/Object;II)V"⟩) ∈ eTB := tb_4 (List.mem_of_getElem? (i := 91) rfl) rfl
theorem wd_4_92 : (.native ⟨"java/lang/System", "arraycopy", "(Ljava/lang/Object;ILjava/lang/Object;II)V"⟩) ∈ eTB := tb_4 (List.mem_of_getElem? (i := 92) rfl) rfl
theorem wd_4_93 : (.methodLink RX2 76 yX0_copyFrom) ∈ eTB := tb_4 (List.mem_of_getElem? (i := 93) rfl) rfl
theorem wd_4_94 : (.instanceMethod yX0_copyFrom) ∈ eTB := tb_4 (List.mem_of_getElem? (i := 94) rfl) rfl
theorem wd_4_95 : (.selects RX0 yX0_copyFrom yX0_copyFrom) ∈ eTB := tb_4 (List.mem_of_getElem? (i := 95) rfl) rfl
theorem wd_4_96 : (mWord mX0_copyFrom) ∈ eTB := tb_4 (List.mem_of_getElem? (i := 96) rfl) rfl
theorem wd_4_97 : (.methodLink RX0 26 ⟨"java/lang/System", "arraycopy", "(Ljava/lang/Object;ILjava/lang/Object;II)V"⟩) ∈ eTB := tb_4 (List.mem_of_getElem? (i := 97) rfl) rfl
theorem wd_4_98 : (.methodLink RX2 80 yX5_copyFrom) ∈ eTB := tb_4 (List.mem_of_getElem? (i := 98) rfl) rfl
theorem wd_4_99 : (.instanceMethod yX5_copyFrom) ∈ eTB := tb_4 (List.mem_of_getElem? (i := 99) rfl) rfl
theorem wd_4_100 : (.selects RX5 yX5_copyFrom yX5_copyFrom) ∈ eTB := tb_4 (List.mem_of_getElem? (i := 100) rfl) rfl
theorem wd_4_101 : (mWord mX5_copyFrom) ∈ eTB := tb_4 (List.mem_of_getElem? (i := 101) rfl) rfl
theorem wd_4_102 : (.methodLink RX5 22 ⟨"java/lang/System", "arraycopy", "(Ljava/lang/Object;ILjava/lang/Object;II)V"⟩) ∈ eTB := tb_4 (List.mem_of_getElem? (i := 102) rfl) rfl
theorem wd_4_103 : (.methodLink RX4 29 yJ9_min_7cf53) ∈ eTB := tb_4 (List.mem_of_getElem? (i := 103) rfl) rfl
theorem wd_4_104 : (.methodLink RX6 71 yX2_add) ∈ eTB := tb_4 (List.mem_of_getElem? (i := 104) rfl) rfl
theorem wd_4_105 : (.instanceMethod yX2_add) ∈ eTB := tb_4 (List.mem_of_getElem? (i := 105) rfl) rfl
theorem wd_4_106 : (.selects RX2 yX2_add yX2_add) ∈ eTB := tb_4 (List.mem_of_getElem? (i := 106) rfl) rfl
theorem wd_4_107 : (mWord mX2_add) ∈ eTB := tb_4 (List.mem_of_getElem? (i := 107) rfl) rfl
theorem wd_4_108 : (.methodLink RL 81 yL_addCloud) ∈ eTB := tb_4 (List.mem_of_getElem? (i := 108) rfl) rfl
theorem wd_4_109 : (.static yL_addCloud) ∈ eTB := tb_4 (List.mem_of_getElem? (i := 109) rfl) rfl
theorem wd_4_110 : (mWord mL_addCloud) ∈ eTB := tb_4 (List.mem_of_getElem? (i := 110) rfl) rfl
theorem wd_4_111 : (.methodLink RL 43 yX6_addCloud) ∈ eTB := tb_4 (List.mem_of_getElem? (i := 111) rfl) rfl
theorem wd_4_112 : (.instanceMethod yX6_addCloud) ∈ eTB := tb_4 (List.mem_of_getElem? (i := 112) rfl) rfl
theorem wd_4_113 : (.selects RX6 yX6_addCloud yX6_addCloud) ∈ eTB := tb_4 (List.mem_of_getElem? (i := 113) rfl) rfl
theorem wd_4_114 : (mWord mX6_addCloud) ∈ eTB := tb_4 (List.mem_of_getElem? (i := 114) rfl) rfl
theorem wd_4_115 : (.methodLink RX6 129 yX0_put) ∈ eTB := tb_4 (List.mem_of_getElem? (i := 115) rfl) rfl
theorem wd_4_116 : (.instanceMethod yX0_put) ∈ eTB := tb_4 (List.mem_of_getElem? (i := 116) rfl) rfl
theorem wd_4_117 : (.selects RX0 yX0_put yX0_put) ∈ eTB := tb_4 (List.mem_of_getElem? (i := 117) rfl) rfl
theorem wd_4_118 : (mWord mX0_put) ∈ eTB := tb_4 (List.mem_of_getElem? (i := 118) rfl) rfl
theorem wd_4_119 : (.methodLink RX0 23 yX0_covers) ∈ eTB := tb_4 (List.mem_of_getElem? (i := 119) rfl) rfl
theorem wd_4_120 : (.methodLink RL 84 yL_setTarget) ∈ eTB := tb_4 (List.mem_of_getElem? (i := 120) rfl) rfl
theorem wd_4_121 : (.static yL_setTarget) ∈ eTB := tb_4 (List.mem_of_getElem? (i := 121) rfl) rfl
theorem wd_4_122 : (mWord mL_setTarget) ∈ eTB := tb_4 (List.mem_of_getElem? (i := 122) rfl) rfl
theorem wd_4_123 : (.methodLink RL 58 yX6_setTarget) ∈ eTB := tb_4 (List.mem_of_getElem? (i := 123) rfl) rfl
theorem wd_4_124 : (.instanceMethod yX6_setTarget) ∈ eTB := tb_4 (List.mem_of_getElem? (i := 124) rfl) rfl
theorem wd_4_125 : (.selects RX6 yX6_setTarget yX6_setTarget) ∈ eTB := tb_4 (List.mem_of_getElem? (i := 125) rfl) rfl
theorem wd_4_126 : (mWord mX6_setTarget) ∈ eTB := tb_4 (List.mem_of_getElem? (i := 126) rfl) rfl
theorem wd_4_127 : (.methodLink RX6 162 yX2_replaceGoal) ∈ eTB := tb_4 (List.mem_of_getElem? (i := 127) rfl) rfl
theorem wd_4_128 : (.instanceMethod yX2_replaceGoal) ∈ eTB := tb_4 (List.mem_of_getElem? (i := 128) rfl) rfl
theorem wd_4_129 : (.selects RX2 yX2_replaceGoal yX2_replaceGoal) ∈ eTB := tb_4 (List.mem_of_getElem? (i := 129) rfl) rfl
theorem wd_4_130 : (mWord mX2_replaceGoal) ∈ eTB := tb_4 (List.mem_of_getElem? (i := 130) rfl) rfl
theorem wd_4_131 : (.methodLink RL 86 yL_acts) ∈ eTB := tb_4 (List.mem_of_getElem? (i := 131) rfl) rfl
theorem wd_4_132 : (.static yL_acts) ∈ eTB := tb_4 (List.mem_of_getElem? (i := 132) rfl) rfl
theorem wd_4_133 : (mWord mL_acts) ∈ eTB := tb_4 (List.mem_of_getElem? (i := 133) rfl) rfl
theorem wd_4_134 : (.methodLink RL 93 yL_jump) ∈ eTB := tb_4 (List.mem_of_getElem? (i := 134) rfl) rfl
theorem wd_4_135 : (.static yL_jump) ∈ eTB := tb_4 (List.mem_of_getElem? (i := 135) rfl) rfl
theorem wd_4_136 : (mWord mL_jump) ∈ eTB := tb_4 (List.mem_of_getElem? (i := 136) rfl) rfl
theorem wd_4_137 : (.methodLink RL 25 yX6_jump) ∈ eTB := tb_4 (List.mem_of_getElem? (i := 137) rfl) rfl
theorem wd_4_138 : (.instanceMethod yX6_jump) ∈ eTB := tb_4 (List.mem_of_getElem? (i := 138) rfl) rfl
theorem wd_4_139 : (.selects RX6 yX6_jump yX6_jump) ∈ eTB := tb_4 (List.mem_of_getElem? (i := 139) rfl) rfl
theorem wd_4_140 : (mWord mX6_jump) ∈ eTB := tb_4 (List.mem_of_getElem? (i := 140) rfl) rfl
theorem wd_4_141 : (.methodLink RX6 75 yX2_put) ∈ eTB := tb_4 (List.mem_of_getElem? (i := 141) rfl) rfl
theorem wd_4_142 : (.instanceMethod yX2_put) ∈ eTB := tb_4 (List.mem_of_getElem? (i := 142) rfl) rfl
theorem wd_4_143 : (.selects RX2 yX2_put yX2_put) ∈ eTB := tb_4 (List.mem_of_getElem? (i := 143) rfl) rfl
theorem wd_4_144 : (mWord mX2_put) ∈ eTB := tb_4 (List.mem_of_getElem? (i := 144) rfl) rfl
theorem wd_4_145 : (.methodLink RL 95 yL_setHandle) ∈ eTB := tb_4 (List.mem_of_getElem? (i := 145) rfl) rfl
theorem wd_4_146 : (.static yL_setHandle) ∈ eTB := tb_4 (List.mem_of_getElem? (i := 146) rfl) rfl
theorem wd_4_147 : (mWord mL_setHandle) ∈ eTB := tb_4 (List.mem_of_getElem? (i := 147) rfl) rfl
theorem wd_4_148 : (.methodLink RL 30 yX6_setHandle) ∈ eTB := tb_4 (List.mem_of_getElem? (i := 148) rfl) rfl
theorem wd_4_149 : (.instanceMethod yX6_setHandle) ∈ eTB := tb_4 (List.mem_of_getElem? (i := 149) rfl) rfl
theorem wd_4_150 : (.selects RX6 yX6_setHandle yX6_setHandle) ∈ eTB := tb_4 (List.mem_of_getElem? (i := 150) rfl) rfl
theorem wd_4_151 : (mWord mX6_setHandle) ∈ eTB := tb_4 (List.mem_of_getElem? (i := 151) rfl) rfl
theorem wd_4_152 : (.methodLink RX6 78 yX2_replaceHandle) ∈ eTB := tb_4 (List.mem_of_getElem? (i := 152) rfl) rfl
theorem wd_4_153 : (.instanceMethod yX2_replaceHandle) ∈ eTB := tb_4 (List.mem_of_getElem? (i := 153) rfl) rfl
theorem wd_4_154 : (.selects RX2 yX2_replaceHandle yX2_replaceHandle) ∈ eTB := tb_4 (List.mem_of_getElem? (i := 154) rfl) rfl
theorem wd_4_155 : (mWord mX2_replaceHandle) ∈ eTB := tb_4 (List.mem_of_getElem? (i := 155) rfl) rfl
theorem wd_4_156 : (.methodLink RL 97 yL_removeCloud) ∈ eTB := tb_4 (List.mem_of_getElem? (i := 156) rfl) rfl
theorem wd_4_157 : (.static yL_removeCloud) ∈ eTB := tb_4 (List.mem_of_getElem? (i := 157) rfl) rfl
theorem wd_4_158 : (mWord mL_removeCloud) ∈ eTB := tb_4 (List.mem_of_getElem? (i := 158) rfl) rfl
theorem wd_4_159 : (.methodLink RL 46 yX6_removeCloud) ∈ eTB := tb_4 (List.mem_of_getElem? (i := 159) rfl) rfl
theorem wd_4_160 : (.instanceMethod yX6_removeCloud) ∈ eTB := tb_4 (List.mem_of_getElem? (i := 160) rfl) rfl
theorem wd_4_161 : (.selects RX6 yX6_removeCloud yX6_removeCloud) ∈ eTB := tb_4 (List.mem_of_getElem? (i := 161) rfl) rfl
theorem wd_4_162 : (mWord mX6_removeCloud) ∈ eTB := tb_4 (List.mem_of_getElem? (i := 162) rfl) rfl
theorem wd_4_163 : (.methodLink RX6 133 yX0_remove) ∈ eTB := tb_4 (List.mem_of_getElem? (i := 163) rfl) rfl
theorem wd_4_164 : (.instanceMethod yX0_remove) ∈ eTB := tb_4 (List.mem_of_getElem? (i := 164) rfl) rfl
theorem wd_4_165 : (.selects RX0 yX0_remove yX0_remove) ∈ eTB := tb_4 (List.mem_of_getElem? (i := 165) rfl) rfl
theorem wd_4_166 : (mWord mX0_remove) ∈ eTB := tb_4 (List.mem_of_getElem? (i := 166) rfl) rfl
theorem wd_4_167 : (.methodLink RL 99 yL_setTurnLength) ∈ eTB := tb_4 (List.mem_of_getElem? (i := 167) rfl) rfl
theorem wd_4_168 : (.static yL_setTurnLength) ∈ eTB := tb_4 (List.mem_of_getElem? (i := 168) rfl) rfl
theorem wd_4_169 : (mWord mL_setTurnLength) ∈ eTB := tb_4 (List.mem_of_getElem? (i := 169) rfl) rfl
theorem wd_4_170 : (.methodLink RL 49 yX6_setTurnLength) ∈ eTB := tb_4 (List.mem_of_getElem? (i := 170) rfl) rfl
theorem wd_4_171 : (.instanceMethod yX6_setTurnLength) ∈ eTB := tb_4 (List.mem_of_getElem? (i := 171) rfl) rfl
theorem wd_4_172 : (.selects RX6 yX6_setTurnLength yX6_setTurnLength) ∈ eTB := tb_4 (List.mem_of_getElem? (i := 172) rfl) rfl
theorem wd_4_173 : (mWord mX6_setTurnLength) ∈ eTB := tb_4 (List.mem_of_getElem? (i := 173) rfl) rfl
theorem wd_4_174 : (.methodLink RX6 141 yX2_replaceTurn) ∈ eTB := tb_4 (List.mem_of_getElem? (i := 174) rfl) rfl
theorem wd_4_175 : (.instanceMethod yX2_replaceTurn) ∈ eTB := tb_4 (List.mem_of_getElem? (i := 175) rfl) rfl
theorem wd_4_176 : (.selects RX2 yX2_replaceTurn yX2_replaceTurn) ∈ eTB := tb_4 (List.mem_of_getElem? (i := 176) rfl) rfl
theorem wd_4_177 : (mWord mX2_replaceTurn) ∈ eTB := tb_4 (List.mem_of_getElem? (i := 177) rfl) rfl
theorem wd_4_178 : (.methodLink RL 102 yL_setKeep) ∈ eTB := tb_4 (List.mem_of_getElem? (i := 178) rfl) rfl
theorem wd_4_179 : (.static yL_setKeep) ∈ eTB := tb_4 (List.mem_of_getElem? (i := 179) rfl) rfl
theorem wd_4_180 : (mWord mL_setKeep) ∈ eTB := tb_4 (List.mem_of_getElem? (i := 180) rfl) rfl
theorem wd_4_181 : (.methodLink RL 61 yX6_setKeep) ∈ eTB := tb_4 (List.mem_of_getElem? (i := 181) rfl) rfl
theorem wd_4_182 : (.instanceMethod yX6_setKeep) ∈ eTB := tb_4 (List.mem_of_getElem? (i := 182) rfl) rfl
theorem wd_4_183 : (.selects RX6 yX6_setKeep yX6_setKeep) ∈ eTB := tb_4 (List.mem_of_getElem? (i := 183) rfl) rfl
theorem wd_4_184 : (mWord mX6_setKeep) ∈ eTB := tb_4 (List.mem_of_getElem? (i := 184) rfl) rfl
theorem wd_4_185 : (.methodLink RX6 187 yX2_replaceKept) ∈ eTB := tb_4 (List.mem_of_getElem? (i := 185) rfl) rfl
theorem wd_4_186 : (.instanceMethod yX2_replaceKept) ∈ eTB := tb_4 (List.mem_of_getElem? (i := 186) rfl) rfl
theorem wd_4_187 : (.selects RX2 yX2_replaceKept yX2_replaceKept) ∈ eTB := tb_4 (List.mem_of_getElem? (i := 187) rfl) rfl
theorem wd_4_188 : (mWord mX2_replaceKept) ∈ eTB := tb_4 (List.mem_of_getElem? (i := 188) rfl) rfl
theorem wd_4_189 : (.methodLink RL 104 yL_advance) ∈ eTB := tb_4 (List.mem_of_getElem? (i := 189) rfl) rfl
theorem wd_4_190 : (.static yL_advance) ∈ eTB := tb_4 (List.mem_of_getElem? (i := 190) rfl) rfl
theorem wd_4_191 : (mWord mL_advance) ∈ eTB := tb_4 (List.mem_of_getElem? (i := 191) rfl) rfl
theorem wd_4_192 : (.methodLink RL 64 yX6_advance) ∈ eTB := tb_4 (List.mem_of_getElem? (i := 192) rfl) rfl
theorem wd_4_193 : (.instanceMethod yX6_advance) ∈ eTB := tb_4 (List.mem_of_getElem? (i := 193) rfl) rfl
theorem wd_4_194 : (.selects RX6 yX6_advance yX6_advance) ∈ eTB := tb_4 (List.mem_of_getElem? (i := 194) rfl) rfl
theorem wd_4_195 : (mWord mX6_advance) ∈ eTB := tb_4 (List.mem_of_getElem? (i := 195) rfl) rfl
theorem wd_4_196 : (.methodLink RX6 182 yX2_passSteps) ∈ eTB := tb_4 (List.mem_of_getElem? (i := 196) rfl) rfl
theorem wd_4_197 : (.instanceMethod yX2_passSteps) ∈ eTB := tb_4 (List.mem_of_getElem? (i := 197) rfl) rfl
theorem wd_4_198 : (.selects RX2 yX2_passSteps yX2_passSteps) ∈ eTB := tb_4 (List.mem_of_getElem? (i := 198) rfl) rfl
theorem wd_4_199 : (mWord mX2_passSteps) ∈ eTB := tb_4 (List.mem_of_getElem? (i := 199) rfl) rfl
theorem wd_4_200 : (.methodLink RX2 152 yX2_moveLeader) ∈ eTB := tb_4 (List.mem_of_getElem? (i := 200) rfl) rfl
theorem wd_4_201 : (.instanceMethod yX2_moveLeader) ∈ eTB := tb_4 (List.mem_of_getElem? (i := 201) rfl) rfl
theorem wd_4_202 : (.selects RX2 yX2_moveLeader yX2_moveLeader) ∈ eTB := tb_4 (List.mem_of_getElem? (i := 202) rfl) rfl
theorem wd_4_203 : (mWord mX2_moveLeader) ∈ eTB := tb_4 (List.mem_of_getElem? (i := 203) rfl) rfl
theorem wd_4_204 : (.methodLink RX2 165 yX2_hasTarget) ∈ eTB := tb_4 (List.mem_of_getElem? (i := 204) rfl) rfl
theorem wd_4_205 : (.instanceMethod yX2_hasTarget) ∈ eTB := tb_4 (List.mem_of_getElem? (i := 205) rfl) rfl
theorem wd_4_206 : (.selects RX2 yX2_hasTarget yX2_hasTarget) ∈ eTB := tb_4 (List.mem_of_getElem? (i := 206) rfl) rfl
theorem wd_4_207 : (mWord mX2_hasTarget) ∈ eTB := tb_4 (List.mem_of_getElem? (i := 207) rfl) rfl
theorem wd_4_208 : (.methodLink RX2 169 yX2_leaderIsOnTarget) ∈ eTB := tb_4 (List.mem_of_getElem? (i := 208) rfl) rfl
theorem wd_4_209 : (.instanceMethod yX2_leaderIsOnTarget) ∈ eTB := tb_4 (List.mem_of_getElem? (i := 209) rfl) rfl
theorem wd_4_210 : (.selects RX2 yX2_leaderIsOnTarget yX2_leaderIsOnTarget) ∈ eTB := tb_4 (List.mem_of_getElem? (i := 210) rfl) rfl
theorem wd_4_211 : (mWord mX2_leaderIsOnTarget) ∈ eTB := tb_4 (List.mem_of_getElem? (i := 211) rfl) rfl
theorem wd_4_212 : (.methodLink RX2 172 yX2_oneTowards) ∈ eTB := tb_4 (List.mem_of_getElem? (i := 212) rfl) rfl
theorem wd_4_213 : (.static yX2_oneTowards) ∈ eTB := tb_4 (List.mem_of_getElem? (i := 213) rfl) rfl
theorem wd_4_214 : (mWord mX2_oneTowards) ∈ eTB := tb_4 (List.mem_of_getElem? (i := 214) rfl) rfl
theorem wd_4_215 : (.methodLink RX2 180 yX2_goTo) ∈ eTB := tb_4 (List.mem_of_getElem? (i := 215) rfl) rfl
theorem wd_4_216 : (.instanceMethod yX2_goTo) ∈ eTB := tb_4 (List.mem_of_getElem? (i := 216) rfl) rfl
theorem wd_4_217 : (.selects RX2 yX2_goTo yX2_goTo) ∈ eTB := tb_4 (List.mem_of_getElem? (i := 217) rfl) rfl
theorem wd_4_218 : (mWord mX2_goTo) ∈ eTB := tb_4 (List.mem_of_getElem? (i := 218) rfl) rfl
theorem wd_4_219 : (.methodLink RX2 156 yX2_moveFollower) ∈ eTB := tb_4 (List.mem_of_getElem? (i := 219) rfl) rfl
theorem wd_4_220 : (.instanceMethod yX2_moveFollower) ∈ eTB := tb_4 (List.mem_of_getElem? (i := 220) rfl) rfl
theorem wd_4_221 : (.selects RX2 yX2_moveFollower yX2_moveFollower) ∈ eTB := tb_4 (List.mem_of_getElem? (i := 221) rfl) rfl
theorem wd_4_222 : (mWord mX2_moveFollower) ∈ eTB := tb_4 (List.mem_of_getElem? (i := 222) rfl) rfl
theorem wd_4_223 : (.methodLink RX2 159 yX2_rememberShape) ∈ eTB := tb_4 (List.mem_of_getElem? (i := 223) rfl) rfl
theorem wd_4_224 : (.instanceMethod yX2_rememberShape) ∈ eTB := tb_4 (List.mem_of_getElem? (i := 224) rfl) rfl
theorem wd_4_225 : (.selects RX2 yX2_rememberShape yX2_rememberShape) ∈ eTB := tb_4 (List.mem_of_getElem? (i := 225) rfl) rfl
theorem wd_4_226 : (mWord mX2_rememberShape) ∈ eTB := tb_4 (List.mem_of_getElem? (i := 226) rfl) rfl
theorem wd_4_227 : (.methodLink RX2 189 yX5_remember) ∈ eTB := tb_4 (List.mem_of_getElem? (i := 227) rfl) rfl
theorem wd_4_228 : (.instanceMethod yX5_remember) ∈ eTB := tb_4 (List.mem_of_getElem? (i := 228) rfl) rfl
theorem wd_4_229 : (.selects RX5 yX5_remember yX5_remember) ∈ eTB := tb_4 (List.mem_of_getElem? (i := 229) rfl) rfl
theorem wd_4_230 : (mWord mX5_remember) ∈ eTB := tb_4 (List.mem_of_getElem? (i := 230) rfl) rfl
theorem wd_4_231 : (.methodLink RX5 28 yJ9_min_7cf53) ∈ eTB := tb_4 (List.mem_of_getElem? (i := 231) rfl) rfl
theorem wd_4_232 : (.methodLink RX2 162 yX2_passLead) ∈ eTB := tb_4 (List.mem_of_getElem? (i := 232) rfl) rfl
theorem wd_4_233 : (.instanceMethod yX2_passLead) ∈ eTB := tb_4 (List.mem_of_getElem? (i := 233) rfl) rfl
theorem wd_4_234 : (.selects RX2 yX2_passLead yX2_passLead) ∈ eTB := tb_4 (List.mem_of_getElem? (i := 234) rfl) rfl
theorem wd_4_235 : (mWord mX2_passLead) ∈ eTB := tb_4 (List.mem_of_getElem? (i := 235) rfl) rfl
theorem wd_4_236 : (.methodLink RL 189 yL_isLine) ∈ eTB := tb_4 (List.mem_of_getElem? (i := 236) rfl) rfl
theorem wd_4_237 : (.static yL_isLine) ∈ eTB := tb_4 (List.mem_of_getElem? (i := 237) rfl) rfl
theorem wd_4_238 : (mWord mL_isLine) ∈ eTB := tb_4 (List.mem_of_getElem? (i := 238) rfl) rfl
theorem wd_4_239 : (.methodLink RL 106 yJ0_length_8abf5) ∈ eTB := tb_4 (List.mem_of_getElem? (i := 239) rfl) rfl
theorem wd_5_0 : (.instanceMethod yJ0_length_8abf5) ∈ eTB := tb_5 (List.mem_of_getElem? (i := 0) rfl) rfl
theorem wd_5_1 : (.selects RJ0 yJ0_length_8abf5 yJ0_length_8abf5) ∈ eTB := tb_5 (List.mem_of_getElem? (i := 1) rfl) rfl
theorem wd_5_2 : (mWord mJ0_length_8abf5) ∈ eTB := tb_5 (List.mem_of_getElem? (i := 2) rfl) rfl
theorem wd_5_3 : (.methodLink RJ0 335 yJ0_coder_7d493) ∈ eTB := tb_5 (List.mem_of_getElem? (i := 3) rfl) rfl
theorem wd_5_4 : (.instanceMethod yJ0_coder_7d493) ∈ eTB := tb_5 (List.mem_of_getElem? (i := 4) rfl) rfl
theorem wd_5_5 : (.selects RJ0 yJ0_coder_7d493 yJ0_coder_7d493) ∈ eTB := tb_5 (List.mem_of_getElem? (i := 5) rfl) rfl
theorem wd_5_6 : (mWord mJ0_coder_7d493) ∈ eTB := tb_5 (List.mem_of_getElem? (i := 6) rfl) rfl
theorem wd_5_7 : (.fieldLink RJ0 38 RJ0 "COMPACT_STRINGS" "Z") ∈ eTB := tb_5 (List.mem_of_getElem? (i := 7) rfl) rfl
theorem wd_5_9 : (.methodLink RL 111 yX6_lineAt) ∈ eTB := tb_5 (List.mem_of_getElem? (i := 9) rfl) rfl
theorem wd_5_10 : (.instanceMethod yX6_lineAt) ∈ eTB := tb_5 (List.mem_of_getElem? (i := 10) rfl) rfl
theorem wd_5_11 : (.selects RX6 yX6_lineAt yX6_lineAt) ∈ eTB := tb_5 (List.mem_of_getElem? (i := 11) rfl) rfl
theorem wd_5_12 : (mWord mX6_lineAt) ∈ eTB := tb_5 (List.mem_of_getElem? (i := 12) rfl) rfl
theorem wd_5_14 : (.methodLink RL 115 yJ0_charAt_5068e) ∈ eTB := tb_5 (List.mem_of_getElem? (i := 14) rfl) rfl
theorem wd_5_15 : (.instanceMethod yJ0_charAt_5068e) ∈ eTB := tb_5 (List.mem_of_getElem? (i := 15) rfl) rfl
theorem wd_5_16 : (.selects RJ0 yJ0_charAt_5068e yJ0_charAt_5068e) ∈ eTB := tb_5 (List.mem_of_getElem? (i := 16) rfl) rfl
theorem wd_5_17 : (mWord mJ0_charAt_5068e) ∈ eTB := tb_5 (List.mem_of_getElem? (i := 17) rfl) rfl
theorem wd_5_18 : (.methodLink RJ0 492 yJ0_isLatin1_aae02) ∈ eTB := tb_5 (List.mem_of_getElem? (i := 18) rfl) rfl
theorem wd_5_19 : (.instanceMethod yJ0_isLatin1_aae02) ∈ eTB := tb_5 (List.mem_of_getElem? (i := 19) rfl) rfl
theorem wd_5_20 : (.selects RJ0 yJ0_isLatin1_aae02 yJ0_isLatin1_aae02) ∈ eTB := tb_5 (List.mem_of_getElem? (i := 20) rfl) rfl
theorem wd_5_21 : (mWord mJ0_isLatin1_aae02) ∈ eTB := tb_5 (List.mem_of_getElem? (i := 21) rfl) rfl
theorem wd_5_22 : (.methodLink RJ0 495 yJ1_charAt_3b067) ∈ eTB := tb_5 (List.mem_of_getElem? (i := 22) rfl) rfl
theorem wd_5_23 : (.static yJ1_charAt_3b067) ∈ eTB := tb_5 (List.mem_of_getElem? (i := 23) rfl) rfl
theorem wd_5_24 : (mWord mJ1_charAt_3b067) ∈ eTB := tb_5 (List.mem_of_getElem? (i := 24) rfl) rfl
theorem wd_5_25 : (.methodLink RJ1 9 yJ0_checkIndex_df160) ∈ eTB := tb_5 (List.mem_of_getElem? (i := 25) rfl) rfl
theorem wd_5_26 : (.static yJ0_checkIndex_df160) ∈ eTB := tb_5 (List.mem_of_getElem? (i := 26) rfl) rfl
theorem wd_5_27 : (mWord mJ0_checkIndex_df160) ∈ eTB := tb_5 (List.mem_of_getElem? (i := 27) rfl) rfl
theorem wd_5_28 : (.fieldLink RJ0 1053 RJ3 "SIOOBE_FORMATTER" "Ljava/util/function/BiFunction;") ∈ eTB := tb_5 (List.mem_of_getElem? (i := 28) rfl) rfl
theorem wd_5_30 : (.methodLink RJ0 1059 yJ3_checkIndex_8e157) ∈ eTB := tb_5 (List.mem_of_getElem? (i := 30) rfl) rfl
theorem wd_5_31 : (.static yJ3_checkIndex_8e157) ∈ eTB := tb_5 (List.mem_of_getElem? (i := 31) rfl) rfl
theorem wd_5_32 : (mWord mJ3_checkIndex_8e157) ∈ eTB := tb_5 (List.mem_of_getElem? (i := 32) rfl) rfl
theorem wd_5_33 : (.methodLink RJ0 498 yJ2_charAt_3b067) ∈ eTB := tb_5 (List.mem_of_getElem? (i := 33) rfl) rfl
theorem wd_5_34 : (.static yJ2_charAt_3b067) ∈ eTB := tb_5 (List.mem_of_getElem? (i := 34) rfl) rfl
theorem wd_5_35 : (mWord mJ2_charAt_3b067) ∈ eTB := tb_5 (List.mem_of_getElem? (i := 35) rfl) rfl
theorem wd_5_36 : (.methodLink RJ2 67 yJ2_checkIndex_2214a) ∈ eTB := tb_5 (List.mem_of_getElem? (i := 36) rfl) rfl
theorem wd_5_37 : (.static yJ2_checkIndex_2214a) ∈ eTB := tb_5 (List.mem_of_getElem? (i := 37) rfl) rfl
theorem wd_5_38 : (mWord mJ2_checkIndex_2214a) ∈ eTB := tb_5 (List.mem_of_getElem? (i := 38) rfl) rfl
theorem wd_5_39 : (.methodLink RJ2 48 yJ2_length_9d52b) ∈ eTB := tb_5 (List.mem_of_getElem? (i := 39) rfl) rfl
theorem wd_5_40 : (.static yJ2_length_9d52b) ∈ eTB := tb_5 (List.mem_of_getElem? (i := 40) rfl) rfl
theorem wd_5_41 : (mWord mJ2_length_9d52b) ∈ eTB := tb_5 (List.mem_of_getElem? (i := 41) rfl) rfl
theorem wd_5_42 : (.methodLink RJ2 414 yJ0_checkIndex_df160) ∈ eTB := tb_5 (List.mem_of_getElem? (i := 42) rfl) rfl
theorem wd_5_43 : (.methodLink RJ2 71 yJ2_getChar_3b067) ∈ eTB := tb_5 (List.mem_of_getElem? (i := 43) rfl) rfl
theorem wd_5_44 : (.static yJ2_getChar_3b067) ∈ eTB := tb_5 (List.mem_of_getElem? (i := 44) rfl) rfl
theorem wd_5_45 : (mWord mJ2_getChar_3b067) ∈ eTB := tb_5 (List.mem_of_getElem? (i := 45) rfl) rfl
theorem wd_5_46 : (.fieldLink RJ2 44 RJ2 "$assertionsDisabled" "Z") ∈ eTB := tb_5 (List.mem_of_getElem? (i := 46) rfl) rfl
theorem wd_5_48 : (.fieldLink RJ2 59 RJ2 "HI_BYTE_SHIFT" "I") ∈ eTB := tb_5 (List.mem_of_getElem? (i := 48) rfl) rfl
theorem wd_5_50 : (.fieldLink RJ2 63 RJ2 "LO_BYTE_SHIFT" "I") ∈ eTB := tb_5 (List.mem_of_getElem? (i := 50) rfl) rfl
theorem wd_5_52 : (.methodLink RL 140 yJ9_abs_0f7a4) ∈ eTB := tb_5 (List.mem_of_getElem? (i := 52) rfl) rfl
theorem wd_5_53 : (.methodLink RL 161 yJ9_max_7cf53) ∈ eTB := tb_5 (List.mem_of_getElem? (i := 53) rfl) rfl
theorem wd_5_54 : (.methodLink RL 132 yJ9_min_7cf53) ∈ eTB := tb_5 (List.mem_of_getElem? (i := 54) rfl) rfl
theorem wd_5_55 : (.classLink RL 168 RJ4) ∈ eTB := tb_5 (List.mem_of_getElem? (i := 55) rfl) rfl
theorem wd_5_56 : (.instantiable RJ4 4) ∈ eTB := tb_5 (List.mem_of_getElem? (i := 56) rfl) rfl
theorem wd_5_57 : (.methodLink RL 170 yJ4_init_da8c8) ∈ eTB := tb_5 (List.mem_of_getElem? (i := 57) rfl) rfl
theorem wd_5_58 : (.instanceMethod yJ4_init_da8c8) ∈ eTB := tb_5 (List.mem_of_getElem? (i := 58) rfl) rfl
theorem wd_5_59 : (mWord mJ4_init_da8c8) ∈ eTB := tb_5 (List.mem_of_getElem? (i := 59) rfl) rfl
theorem wd_5_60 : (.methodLink RJ4 1 yJ5_init_d00df) ∈ eTB := tb_5 (List.mem_of_getElem? (i := 60) rfl) rfl
theorem wd_5_61 : (.instanceMethod yJ5_init_d00df) ∈ eTB := tb_5 (List.mem_of_getElem? (i := 61) rfl) rfl
theorem wd_5_62 : (mWord mJ5_init_d00df) ∈ eTB := tb_5 (List.mem_of_getElem? (i := 62) rfl) rfl
theorem wd_5_63 : (.methodLink RJ5 3 Lib.objectInit) ∈ eTB := tb_5 (List.mem_of_getElem? (i := 63) rfl) rfl
theorem wd_5_64 : (.fieldLink RJ5 18 RJ0 "COMPACT_STRINGS" "Z") ∈ eTB := tb_5 (List.mem_of_getElem? (i := 64) rfl) rfl
theorem wd_5_65 : (.methodLink RJ5 26 yJ2_newBytesFor_77867) ∈ eTB := tb_5 (List.mem_of_getElem? (i := 65) rfl) rfl
theorem wd_5_66 : (.static yJ2_newBytesFor_77867) ∈ eTB := tb_5 (List.mem_of_getElem? (i := 66) rfl) rfl
theorem wd_5_67 : (mWord mJ2_newBytesFor_77867) ∈ eTB := tb_5 (List.mem_of_getElem? (i := 67) rfl) rfl
theorem wd_5_68 : (.methodLink RJ2 11 yJ2_newBytesLength_0f7a4) ∈ eTB := tb_5 (List.mem_of_getElem? (i := 68) rfl) rfl
theorem wd_5_69 : (.static yJ2_newBytesLength_0f7a4) ∈ eTB := tb_5 (List.mem_of_getElem? (i := 69) rfl) rfl
theorem wd_5_70 : (mWord mJ2_newBytesLength_0f7a4) ∈ eTB := tb_5 (List.mem_of_getElem? (i := 70) rfl) rfl
theorem wd_5_72 : (.fieldLink RJ5 15 RJ5 "value" "[B") ∈ eTB := tb_5 (List.mem_of_getElem? (i := 72) rfl) rfl
theorem wd_5_73 : (.fieldLink RJ5 22 RJ5 "coder" "B") ∈ eTB := tb_5 (List.mem_of_getElem? (i := 73) rfl) rfl
theorem wd_5_74 : (.fieldLink RJ0 1048 RJ5 "maybeLatin1" "Z") ∈ eTB := tb_5 (List.mem_of_getElem? (i := 74) rfl) rfl
theorem wd_5_75 : (.fieldLink RJ5 79 RJ5 "count" "I") ∈ eTB := tb_5 (List.mem_of_getElem? (i := 75) rfl) rfl
theorem wd_5_76 : (.lays "java/lang/StringBuilder" "java/lang/AbstractStringBuilder" "value" "[B") ∈ eTB := tb_5 (List.mem_of_getElem? (i := 76) rfl) rfl
theorem wd_5_78 : (.lays "java/lang/StringBuilder" "java/lang/AbstractStringBuilder" "coder" "B") ∈ eTB := tb_5 (List.mem_of_getElem? (i := 78) rfl) rfl
theorem wd_5_80 : (.lays "java/lang/StringBuilder" "java/lang/AbstractStringBuilder" "maybeLatin1" "Z") ∈ eTB := tb_5 (List.mem_of_getElem? (i := 80) rfl) rfl
theorem wd_5_82 : (.lays "java/lang/StringBuilder" "java/lang/AbstractStringBuilder" "count" "I") ∈ eTB := tb_5 (List.mem_of_getElem? (i := 82) rfl) rfl
theorem wd_5_84 : (.superclass "java/lang/StringBuilder" "java/lang/AbstractStringBuilder") ∈ eTB := tb_5 (List.mem_of_getElem? (i := 84) rfl) rfl
theorem wd_5_85 : (.methodLink RL 171 yJ4_append_15ec4) ∈ eTB := tb_5 (List.mem_of_getElem? (i := 85) rfl) rfl
theorem wd_5_86 : (.instanceMethod yJ4_append_15ec4) ∈ eTB := tb_5 (List.mem_of_getElem? (i := 86) rfl) rfl
theorem wd_5_87 : (.selects RJ4 yJ4_append_15ec4 yJ4_append_15ec4) ∈ eTB := tb_5 (List.mem_of_getElem? (i := 87) rfl) rfl
theorem wd_5_88 : (mWord mJ4_append_15ec4) ∈ eTB := tb_5 (List.mem_of_getElem? (i := 88) rfl) rfl
theorem wd_5_89 : (.methodLink RJ4 29 yJ5_append_cf1ce) ∈ eTB := tb_5 (List.mem_of_getElem? (i := 89) rfl) rfl
theorem wd_5_90 : (.instanceMethod yJ5_append_cf1ce) ∈ eTB := tb_5 (List.mem_of_getElem? (i := 90) rfl) rfl
theorem wd_5_91 : (mWord mJ5_append_cf1ce) ∈ eTB := tb_5 (List.mem_of_getElem? (i := 91) rfl) rfl
theorem wd_5_92 : (.methodLink RJ5 204 yJ5_appendNull_278bc) ∈ eTB := tb_5 (List.mem_of_getElem? (i := 92) rfl) rfl
theorem wd_5_94 : (.instanceMethod yJ5_appendNull_278bc) ∈ eTB := tb_5 (List.mem_of_getElem? (i := 94) rfl) rfl
theorem wd_5_95 : (mWord mJ5_appendNull_278bc) ∈ eTB := tb_5 (List.mem_of_getElem? (i := 95) rfl) rfl
theorem wd_5_96 : (.methodLink RJ5 100 yJ5_ensureCapacityInternal_d00df) ∈ eTB := tb_5 (List.mem_of_getElem? (i := 96) rfl) rfl
theorem wd_5_98 : (.instanceMethod yJ5_ensureCapacityInternal_d00df) ∈ eTB := tb_5 (List.mem_of_getElem? (i := 98) rfl) rfl
theorem wd_5_99 : (mWord mJ5_ensureCapacityInternal_d00df) ∈ eTB := tb_5 (List.mem_of_getElem? (i := 99) rfl) rfl
theorem wd_5_100 : (.methodLink RJ5 104 yJ5_newCapacity_0f7a4) ∈ eTB := tb_5 (List.mem_of_getElem? (i := 100) rfl) rfl
theorem wd_5_102 : (.instanceMethod yJ5_newCapacity_0f7a4) ∈ eTB := tb_5 (List.mem_of_getElem? (i := 102) rfl) rfl
theorem wd_5_103 : (mWord mJ5_newCapacity_0f7a4) ∈ eTB := tb_5 (List.mem_of_getElem? (i := 103) rfl) rfl
theorem wd_5_104 : (.methodLink RJ5 114 yJ8_newLength_cabcc) ∈ eTB := tb_5 (List.mem_of_getElem? (i := 104) rfl) rfl
theorem wd_5_105 : (.static yJ8_newLength_cabcc) ∈ eTB := tb_5 (List.mem_of_getElem? (i := 105) rfl) rfl
theorem wd_5_106 : (mWord mJ8_newLength_cabcc) ∈ eTB := tb_5 (List.mem_of_getElem? (i := 106) rfl) rfl
theorem wd_5_107 : (.methodLink RJ8 194 yJ9_max_7cf53) ∈ eTB := tb_5 (List.mem_of_getElem? (i := 107) rfl) rfl
theorem wd_5_109 : (.methodLink RJ8 201 yJ8_hugeLength_7cf53) ∈ eTB := tb_5 (List.mem_of_getElem? (i := 109) rfl) rfl
theorem wd_5_110 : (.static yJ8_hugeLength_7cf53) ∈ eTB := tb_5 (List.mem_of_getElem? (i := 110) rfl) rfl
theorem wd_5_111 : (mWord mJ8_hugeLength_7cf53) ∈ eTB := tb_5 (List.mem_of_getElem? (i := 111) rfl) rfl
theorem wd_5_113 : (.methodLink RJ5 108 yJ7_copyOf_9075b) ∈ eTB := tb_5 (List.mem_of_getElem? (i := 113) rfl) rfl
theorem wd_5_114 : (.static yJ7_copyOf_9075b) ∈ eTB := tb_5 (List.mem_of_getElem? (i := 114) rfl) rfl
theorem wd_5_115 : (mWord mJ7_copyOf_9075b) ∈ eTB := tb_5 (List.mem_of_getElem? (i := 115) rfl) rfl
theorem wd_5_116 : (.methodLink RJ7 310 ⟨"[B", "clone", "()Ljava/lang/Object;"⟩) ∈ eTB := tb_5 (List.mem_of_getElem? (i := 116) rfl) rfl
theorem wd_5_118 : (.native ⟨"java/lang/Object", "clone", "()Ljava/lang/Object;"⟩) ∈ eTB := tb_5 (List.mem_of_getElem? (i := 118) rfl) rfl
theorem wd_5_119 : (.instanceMethod ⟨"java/lang/Object", "clone", "()Ljava/lang/Object;"⟩) ∈ eTB := tb_5 (List.mem_of_getElem? (i := 119) rfl) rfl
theorem wd_5_120 : (.selects "[B" ⟨"[B", "clone", "()Ljava/lang/Object;"⟩ ⟨"java/lang/Object", "clone", "()Ljava/lang/Object;"⟩) ∈ eTB := tb_5 (List.mem_of_getElem? (i := 120) rfl) rfl
theorem wd_5_122 : (.classLink RJ7 311 "[B") ∈ eTB := tb_5 (List.mem_of_getElem? (i := 122) rfl) rfl
theorem wd_5_123 : (.methodLink RJ7 304 yJ9_min_7cf53) ∈ eTB := tb_5 (List.mem_of_getElem? (i := 123) rfl) rfl
theorem wd_5_124 : (.methodLink RJ7 150 ⟨"java/lang/System", "arraycopy", "(Ljava/lang/Object;ILjava/lang/Object;II)V"⟩) ∈ eTB := tb_5 (List.mem_of_getElem? (i := 124) rfl) rfl
theorem wd_5_125 : (.methodLink RJ5 83 yJ5_isLatin1_aae02) ∈ eTB := tb_5 (List.mem_of_getElem? (i := 125) rfl) rfl
theorem wd_5_126 : (.instanceMethod yJ5_isLatin1_aae02) ∈ eTB := tb_5 (List.mem_of_getElem? (i := 126) rfl) rfl
theorem wd_5_127 : (.sameMethod "java/lang/AbstractStringBuilder" "java/lang/AbstractStringBuilder" "isLatin1" "()Z") ∈ eTB := tb_5 (List.mem_of_getElem? (i := 127) rfl) rfl
theorem wd_5_128 : (.selects RJ4 yJ5_isLatin1_aae02 yJ5_isLatin1_aae02) ∈ eTB := tb_5 (List.mem_of_getElem? (i := 128) rfl) rfl
theorem wd_5_129 : (mWord mJ5_isLatin1_aae02) ∈ eTB := tb_5 (List.mem_of_getElem? (i := 129) rfl) rfl
theorem wd_5_130 : (.methodLink RJ5 226 yJ2_putCharsAt_cd4e5) ∈ eTB := tb_5 (List.mem_of_getElem? (i := 130) rfl) rfl
theorem wd_5_131 : (.static yJ2_putCharsAt_cd4e5) ∈ eTB := tb_5 (List.mem_of_getElem? (i := 131) rfl) rfl
theorem wd_5_132 : (mWord mJ2_putCharsAt_cd4e5) ∈ eTB := tb_5 (List.mem_of_getElem? (i := 132) rfl) rfl
theorem wd_5_133 : (.methodLink RJ2 96 yJ2_checkBoundsBeginEnd_d044e) ∈ eTB := tb_5 (List.mem_of_getElem? (i := 133) rfl) rfl
theorem wd_5_134 : (.static yJ2_checkBoundsBeginEnd_d044e) ∈ eTB := tb_5 (List.mem_of_getElem? (i := 134) rfl) rfl
theorem wd_5_135 : (mWord mJ2_checkBoundsBeginEnd_d044e) ∈ eTB := tb_5 (List.mem_of_getElem? (i := 135) rfl) rfl
theorem wd_5_136 : (.methodLink RJ2 241 yJ0_checkBoundsBeginEnd_23922) ∈ eTB := tb_5 (List.mem_of_getElem? (i := 136) rfl) rfl
theorem wd_5_137 : (.static yJ0_checkBoundsBeginEnd_23922) ∈ eTB := tb_5 (List.mem_of_getElem? (i := 137) rfl) rfl
theorem wd_5_138 : (mWord mJ0_checkBoundsBeginEnd_23922) ∈ eTB := tb_5 (List.mem_of_getElem? (i := 138) rfl) rfl
theorem wd_5_139 : (.methodLink RJ0 1062 yJ3_checkFromToIndex_8c36e) ∈ eTB := tb_5 (List.mem_of_getElem? (i := 139) rfl) rfl
theorem wd_5_140 : (.static yJ3_checkFromToIndex_8c36e) ∈ eTB := tb_5 (List.mem_of_getElem? (i := 140) rfl) rfl
theorem wd_5_141 : (mWord mJ3_checkFromToIndex_8c36e) ∈ eTB := tb_5 (List.mem_of_getElem? (i := 141) rfl) rfl
theorem wd_5_142 : (.methodLink RJ2 111 yJ2_putChar_b72d1) ∈ eTB := tb_5 (List.mem_of_getElem? (i := 142) rfl) rfl
theorem wd_5_143 : (.static yJ2_putChar_b72d1) ∈ eTB := tb_5 (List.mem_of_getElem? (i := 143) rfl) rfl
theorem wd_5_144 : (mWord mJ2_putChar_b72d1) ∈ eTB := tb_5 (List.mem_of_getElem? (i := 144) rfl) rfl
theorem wd_5_145 : (.methodLink RJ5 32 yJ0_length_8abf5) ∈ eTB := tb_5 (List.mem_of_getElem? (i := 145) rfl) rfl
theorem wd_5_146 : (.methodLink RJ5 208 yJ5_putStringAt_47b60) ∈ eTB := tb_5 (List.mem_of_getElem? (i := 146) rfl) rfl
theorem wd_5_148 : (.instanceMethod yJ5_putStringAt_47b60) ∈ eTB := tb_5 (List.mem_of_getElem? (i := 148) rfl) rfl
theorem wd_5_149 : (mWord mJ5_putStringAt_47b60) ∈ eTB := tb_5 (List.mem_of_getElem? (i := 149) rfl) rfl
theorem wd_5_150 : (.methodLink RJ5 397 yJ5_inflateIfNeededFor_a7421) ∈ eTB := tb_5 (List.mem_of_getElem? (i := 150) rfl) rfl
theorem wd_5_152 : (.instanceMethod yJ5_inflateIfNeededFor_a7421) ∈ eTB := tb_5 (List.mem_of_getElem? (i := 152) rfl) rfl
theorem wd_5_153 : (mWord mJ5_inflateIfNeededFor_a7421) ∈ eTB := tb_5 (List.mem_of_getElem? (i := 153) rfl) rfl
theorem wd_5_154 : (.methodLink RJ5 40 yJ0_coder_7d493) ∈ eTB := tb_5 (List.mem_of_getElem? (i := 154) rfl) rfl
theorem wd_5_155 : (.methodLink RJ5 195 yJ5_inflate_da8c8) ∈ eTB := tb_5 (List.mem_of_getElem? (i := 155) rfl) rfl
theorem wd_5_157 : (.instanceMethod yJ5_inflate_da8c8) ∈ eTB := tb_5 (List.mem_of_getElem? (i := 157) rfl) rfl
theorem wd_5_158 : (mWord mJ5_inflate_da8c8) ∈ eTB := tb_5 (List.mem_of_getElem? (i := 158) rfl) rfl
theorem wd_5_159 : (.methodLink RJ5 125 yJ1_inflate_0e8fd) ∈ eTB := tb_5 (List.mem_of_getElem? (i := 159) rfl) rfl
theorem wd_5_160 : (.static yJ1_inflate_0e8fd) ∈ eTB := tb_5 (List.mem_of_getElem? (i := 160) rfl) rfl
theorem wd_5_161 : (mWord mJ1_inflate_0e8fd) ∈ eTB := tb_5 (List.mem_of_getElem? (i := 161) rfl) rfl
theorem wd_5_162 : (.methodLink RJ1 240 yJ2_inflate_0e8fd) ∈ eTB := tb_5 (List.mem_of_getElem? (i := 162) rfl) rfl
theorem wd_5_163 : (.static yJ2_inflate_0e8fd) ∈ eTB := tb_5 (List.mem_of_getElem? (i := 163) rfl) rfl
theorem wd_5_164 : (mWord mJ2_inflate_0e8fd) ∈ eTB := tb_5 (List.mem_of_getElem? (i := 164) rfl) rfl
theorem wd_5_165 : (.methodLink RJ2 173 yJ2_checkBoundsOffCount_d044e) ∈ eTB := tb_5 (List.mem_of_getElem? (i := 165) rfl) rfl
theorem wd_5_166 : (.static yJ2_checkBoundsOffCount_d044e) ∈ eTB := tb_5 (List.mem_of_getElem? (i := 166) rfl) rfl
theorem wd_5_167 : (mWord mJ2_checkBoundsOffCount_d044e) ∈ eTB := tb_5 (List.mem_of_getElem? (i := 167) rfl) rfl
theorem wd_5_168 : (.methodLink RJ2 419 yJ0_checkBoundsOffCount_cabcc) ∈ eTB := tb_5 (List.mem_of_getElem? (i := 168) rfl) rfl
theorem wd_5_169 : (.static yJ0_checkBoundsOffCount_cabcc) ∈ eTB := tb_5 (List.mem_of_getElem? (i := 169) rfl) rfl
theorem wd_5_170 : (mWord mJ0_checkBoundsOffCount_cabcc) ∈ eTB := tb_5 (List.mem_of_getElem? (i := 170) rfl) rfl
theorem wd_5_171 : (.methodLink RJ0 1065 yJ3_checkFromIndexSize_8c36e) ∈ eTB := tb_5 (List.mem_of_getElem? (i := 171) rfl) rfl
theorem wd_5_172 : (.static yJ3_checkFromIndexSize_8c36e) ∈ eTB := tb_5 (List.mem_of_getElem? (i := 172) rfl) rfl
theorem wd_5_173 : (mWord mJ3_checkFromIndexSize_8c36e) ∈ eTB := tb_5 (List.mem_of_getElem? (i := 173) rfl) rfl
theorem wd_5_174 : (.methodLink RJ5 399 yJ0_getBytes_840e7) ∈ eTB := tb_5 (List.mem_of_getElem? (i := 174) rfl) rfl
theorem wd_5_175 : (.instanceMethod yJ0_getBytes_840e7) ∈ eTB := tb_5 (List.mem_of_getElem? (i := 175) rfl) rfl
theorem wd_5_176 : (.selects RJ0 yJ0_getBytes_840e7 yJ0_getBytes_840e7) ∈ eTB := tb_5 (List.mem_of_getElem? (i := 176) rfl) rfl
theorem wd_5_177 : (mWord mJ0_getBytes_840e7) ∈ eTB := tb_5 (List.mem_of_getElem? (i := 177) rfl) rfl
theorem wd_5_178 : (.methodLink RJ0 212 ⟨"java/lang/System", "arraycopy", "(Ljava/lang/Object;ILjava/lang/Object;II)V"⟩) ∈ eTB := tb_5 (List.mem_of_getElem? (i := 178) rfl) rfl
theorem wd_5_179 : (.methodLink RJ0 106 yJ1_inflate_0e8fd) ∈ eTB := tb_5 (List.mem_of_getElem? (i := 179) rfl) rfl
theorem wd_5_180 : (.methodLink RL 175 yJ4_append_bf812) ∈ eTB := tb_5 (List.mem_of_getElem? (i := 180) rfl) rfl
theorem wd_5_181 : (.instanceMethod yJ4_append_bf812) ∈ eTB := tb_5 (List.mem_of_getElem? (i := 181) rfl) rfl
theorem wd_5_182 : (.selects RJ4 yJ4_append_bf812 yJ4_append_bf812) ∈ eTB := tb_5 (List.mem_of_getElem? (i := 182) rfl) rfl
theorem wd_5_183 : (mWord mJ4_append_bf812) ∈ eTB := tb_5 (List.mem_of_getElem? (i := 183) rfl) rfl
theorem wd_5_184 : (.methodLink RJ4 53 yJ5_append_c97b9) ∈ eTB := tb_5 (List.mem_of_getElem? (i := 184) rfl) rfl
theorem wd_5_185 : (.instanceMethod yJ5_append_c97b9) ∈ eTB := tb_5 (List.mem_of_getElem? (i := 185) rfl) rfl
theorem wd_5_186 : (mWord mJ5_append_c97b9) ∈ eTB := tb_5 (List.mem_of_getElem? (i := 186) rfl) rfl
theorem wd_5_187 : (.methodLink RJ5 245 yJ6_stringSize_0f7a4) ∈ eTB := tb_5 (List.mem_of_getElem? (i := 187) rfl) rfl
theorem wd_5_188 : (.static yJ6_stringSize_0f7a4) ∈ eTB := tb_5 (List.mem_of_getElem? (i := 188) rfl) rfl
theorem wd_5_189 : (mWord mJ6_stringSize_0f7a4) ∈ eTB := tb_5 (List.mem_of_getElem? (i := 189) rfl) rfl
theorem wd_5_190 : (.methodLink RJ5 248 yJ6_getChars_ba4f3) ∈ eTB := tb_5 (List.mem_of_getElem? (i := 190) rfl) rfl
theorem wd_5_191 : (.static yJ6_getChars_ba4f3) ∈ eTB := tb_5 (List.mem_of_getElem? (i := 191) rfl) rfl
theorem wd_5_192 : (mWord mJ6_getChars_ba4f3) ∈ eTB := tb_5 (List.mem_of_getElem? (i := 192) rfl) rfl
theorem wd_5_193 : (.fieldLink RJ6 83 RJ6 "DigitOnes" "[B") ∈ eTB := tb_5 (List.mem_of_getElem? (i := 193) rfl) rfl
theorem wd_5_195 : (.fieldLink RJ6 87 RJ6 "DigitTens" "[B") ∈ eTB := tb_5 (List.mem_of_getElem? (i := 195) rfl) rfl
theorem wd_5_197 : (.methodLink RJ5 251 yJ2_getChars_46870) ∈ eTB := tb_5 (List.mem_of_getElem? (i := 197) rfl) rfl
theorem wd_5_198 : (.static yJ2_getChars_46870) ∈ eTB := tb_5 (List.mem_of_getElem? (i := 198) rfl) rfl
theorem wd_5_199 : (mWord mJ2_getChars_46870) ∈ eTB := tb_5 (List.mem_of_getElem? (i := 199) rfl) rfl
theorem wd_5_200 : (.methodLink RJ2 393 yJ2_getChars_ba4f3) ∈ eTB := tb_5 (List.mem_of_getElem? (i := 200) rfl) rfl
theorem wd_5_201 : (.static yJ2_getChars_ba4f3) ∈ eTB := tb_5 (List.mem_of_getElem? (i := 201) rfl) rfl
theorem wd_5_202 : (mWord mJ2_getChars_ba4f3) ∈ eTB := tb_5 (List.mem_of_getElem? (i := 202) rfl) rfl
theorem wd_5_203 : (.fieldLink RJ2 403 RJ6 "DigitOnes" "[B") ∈ eTB := tb_5 (List.mem_of_getElem? (i := 203) rfl) rfl
theorem wd_5_204 : (.fieldLink RJ2 407 RJ6 "DigitTens" "[B") ∈ eTB := tb_5 (List.mem_of_getElem? (i := 204) rfl) rfl
theorem wd_5_205 : (.methodLink RL 178 yJ4_toString_0e30d) ∈ eTB := tb_5 (List.mem_of_getElem? (i := 205) rfl) rfl
theorem wd_5_206 : (.instanceMethod yJ4_toString_0e30d) ∈ eTB := tb_5 (List.mem_of_getElem? (i := 206) rfl) rfl
theorem wd_5_207 : (.selects RJ4 yJ4_toString_0e30d yJ4_toString_0e30d) ∈ eTB := tb_5 (List.mem_of_getElem? (i := 207) rfl) rfl
theorem wd_5_208 : (mWord mJ4_toString_0e30d) ∈ eTB := tb_5 (List.mem_of_getElem? (i := 208) rfl) rfl
theorem wd_5_209 : (.classLink RJ4 18 RJ0) ∈ eTB := tb_5 (List.mem_of_getElem? (i := 209) rfl) rfl
theorem wd_5_210 : (.methodLink RJ4 137 yJ0_init_81219) ∈ eTB := tb_5 (List.mem_of_getElem? (i := 210) rfl) rfl
theorem wd_5_211 : (.instanceMethod yJ0_init_81219) ∈ eTB := tb_5 (List.mem_of_getElem? (i := 211) rfl) rfl
theorem wd_5_212 : (mWord mJ0_init_81219) ∈ eTB := tb_5 (List.mem_of_getElem? (i := 212) rfl) rfl
theorem wd_5_213 : (.methodLink RJ0 489 yJ0_init_db425) ∈ eTB := tb_5 (List.mem_of_getElem? (i := 213) rfl) rfl
theorem wd_5_214 : (.instanceMethod yJ0_init_db425) ∈ eTB := tb_5 (List.mem_of_getElem? (i := 214) rfl) rfl
theorem wd_5_215 : (mWord mJ0_init_db425) ∈ eTB := tb_5 (List.mem_of_getElem? (i := 215) rfl) rfl
theorem wd_5_216 : (.methodLink RJ0 1 Lib.objectInit) ∈ eTB := tb_5 (List.mem_of_getElem? (i := 216) rfl) rfl
theorem wd_5_217 : (.methodLink RJ0 552 yJ5_getValue_6d5f1) ∈ eTB := tb_5 (List.mem_of_getElem? (i := 217) rfl) rfl
theorem wd_5_218 : (.instanceMethod yJ5_getValue_6d5f1) ∈ eTB := tb_5 (List.mem_of_getElem? (i := 218) rfl) rfl
theorem wd_5_219 : (.sameMethod "java/lang/AbstractStringBuilder" "java/lang/AbstractStringBuilder" "getValue" "()[B") ∈ eTB := tb_5 (List.mem_of_getElem? (i := 219) rfl) rfl
theorem wd_5_220 : (.selects RJ4 yJ5_getValue_6d5f1 yJ5_getValue_6d5f1) ∈ eTB := tb_5 (List.mem_of_getElem? (i := 220) rfl) rfl
theorem wd_5_221 : (mWord mJ5_getValue_6d5f1) ∈ eTB := tb_5 (List.mem_of_getElem? (i := 221) rfl) rfl
theorem wd_5_222 : (.methodLink RJ0 549 yJ5_length_8abf5) ∈ eTB := tb_5 (List.mem_of_getElem? (i := 222) rfl) rfl
theorem wd_5_223 : (.instanceMethod yJ5_length_8abf5) ∈ eTB := tb_5 (List.mem_of_getElem? (i := 223) rfl) rfl
theorem wd_5_224 : (.sameMethod "java/lang/AbstractStringBuilder" "java/lang/AbstractStringBuilder" "length" "()I") ∈ eTB := tb_5 (List.mem_of_getElem? (i := 224) rfl) rfl
theorem wd_5_225 : (.selects RJ4 yJ5_length_8abf5 yJ4_length_8abf5) ∈ eTB := tb_5 (List.mem_of_getElem? (i := 225) rfl) rfl
theorem wd_5_226 : (.instanceMethod yJ4_length_8abf5) ∈ eTB := tb_5 (List.mem_of_getElem? (i := 226) rfl) rfl
theorem wd_5_227 : (mWord mJ4_length_8abf5) ∈ eTB := tb_5 (List.mem_of_getElem? (i := 227) rfl) rfl
theorem wd_5_228 : (.methodLink RJ4 343 yJ5_length_8abf5) ∈ eTB := tb_5 (List.mem_of_getElem? (i := 228) rfl) rfl
theorem wd_5_229 : (mWord mJ5_length_8abf5) ∈ eTB := tb_5 (List.mem_of_getElem? (i := 229) rfl) rfl
theorem wd_5_230 : (.methodLink RJ0 1047 yJ5_isLatin1_aae02) ∈ eTB := tb_5 (List.mem_of_getElem? (i := 230) rfl) rfl
theorem wd_5_231 : (.methodLink RJ0 54 yJ7_copyOfRange_39247) ∈ eTB := tb_5 (List.mem_of_getElem? (i := 231) rfl) rfl
theorem wd_5_232 : (.static yJ7_copyOfRange_39247) ∈ eTB := tb_5 (List.mem_of_getElem? (i := 232) rfl) rfl
theorem wd_5_233 : (mWord mJ7_copyOfRange_39247) ∈ eTB := tb_5 (List.mem_of_getElem? (i := 233) rfl) rfl
theorem wd_5_234 : (.methodLink RJ7 339 yJ7_copyOfRangeByte_39247) ∈ eTB := tb_5 (List.mem_of_getElem? (i := 234) rfl) rfl
theorem wd_5_235 : (.static yJ7_copyOfRangeByte_39247) ∈ eTB := tb_5 (List.mem_of_getElem? (i := 235) rfl) rfl
theorem wd_5_236 : (mWord mJ7_copyOfRangeByte_39247) ∈ eTB := tb_5 (List.mem_of_getElem? (i := 236) rfl) rfl
theorem wd_5_237 : (.methodLink RJ7 343 yJ7_checkLength_df160) ∈ eTB := tb_5 (List.mem_of_getElem? (i := 237) rfl) rfl
theorem wd_5_238 : (.static yJ7_checkLength_df160) ∈ eTB := tb_5 (List.mem_of_getElem? (i := 238) rfl) rfl
theorem wd_5_239 : (mWord mJ7_checkLength_df160) ∈ eTB := tb_5 (List.mem_of_getElem? (i := 239) rfl) rfl
theorem wd_6_0 : (.classLink RJ7 43 "java/lang/IllegalArgumentException") ∈ eTB := tb_6 (List.mem_of_getElem? (i := 0) rfl) rfl
theorem wd_6_1 : (.classLink RJ7 45 RJ4) ∈ eTB := tb_6 (List.mem_of_getElem? (i := 1) rfl) rfl
theorem wd_6_2 : (.methodLink RJ7 47 yJ4_init_da8c8) ∈ eTB := tb_6 (List.mem_of_getElem? (i := 2) rfl) rfl
theorem wd_6_3 : (.methodLink RJ7 54 yJ4_append_bf812) ∈ eTB := tb_6 (List.mem_of_getElem? (i := 3) rfl) rfl
theorem wd_6_5 : (.methodLink RJ7 50 yJ4_append_15ec4) ∈ eTB := tb_6 (List.mem_of_getElem? (i := 5) rfl) rfl
theorem wd_6_6 : (.methodLink RJ7 61 yJ4_toString_0e30d) ∈ eTB := tb_6 (List.mem_of_getElem? (i := 6) rfl) rfl
theorem wd_6_7 : (.methodLink RJ7 65 ⟨"java/lang/IllegalArgumentException", "<init>", "(Ljava/lang/String;)V"⟩) ∈ eTB := tb_6 (List.mem_of_getElem? (i := 7) rfl) rfl
theorem wd_6_8 : (.methodLink RJ0 1051 yJ2_compress_39247) ∈ eTB := tb_6 (List.mem_of_getElem? (i := 8) rfl) rfl
theorem wd_6_9 : (.static yJ2_compress_39247) ∈ eTB := tb_6 (List.mem_of_getElem? (i := 9) rfl) rfl
theorem wd_6_10 : (mWord mJ2_compress_39247) ∈ eTB := tb_6 (List.mem_of_getElem? (i := 10) rfl) rfl
theorem wd_6_11 : (.methodLink RJ2 123 yJ2_compress_5af95) ∈ eTB := tb_6 (List.mem_of_getElem? (i := 11) rfl) rfl
theorem wd_6_12 : (.static yJ2_compress_5af95) ∈ eTB := tb_6 (List.mem_of_getElem? (i := 12) rfl) rfl
theorem wd_6_13 : (mWord mJ2_compress_5af95) ∈ eTB := tb_6 (List.mem_of_getElem? (i := 13) rfl) rfl
theorem wd_6_14 : (.methodLink RJ2 126 yJ7_copyOfRange_39247) ∈ eTB := tb_6 (List.mem_of_getElem? (i := 14) rfl) rfl
theorem wd_6_15 : (.methodLink RJ0 47 yJ2_coderFromArrayLen_85cad) ∈ eTB := tb_6 (List.mem_of_getElem? (i := 15) rfl) rfl
theorem wd_6_16 : (.static yJ2_coderFromArrayLen_85cad) ∈ eTB := tb_6 (List.mem_of_getElem? (i := 16) rfl) rfl
theorem wd_6_17 : (mWord mJ2_coderFromArrayLen_85cad) ∈ eTB := tb_6 (List.mem_of_getElem? (i := 17) rfl) rfl
theorem wd_6_18 : (.fieldLink RJ0 9 RJ0 "value" "[B") ∈ eTB := tb_6 (List.mem_of_getElem? (i := 18) rfl) rfl
theorem wd_6_19 : (.fieldLink RJ0 15 RJ0 "coder" "B") ∈ eTB := tb_6 (List.mem_of_getElem? (i := 19) rfl) rfl
theorem wd_6_20 : (.lays "java/lang/String" "java/lang/String" "hash" "I") ∈ eTB := tb_6 (List.mem_of_getElem? (i := 20) rfl) rfl
theorem wd_6_22 : (.lays "java/lang/String" "java/lang/String" "hashIsZero" "Z") ∈ eTB := tb_6 (List.mem_of_getElem? (i := 22) rfl) rfl
theorem wd_6_24 : (.superclass "java/lang/String" "java/lang/Object") ∈ eTB := tb_6 (List.mem_of_getElem? (i := 24) rfl) rfl
theorem wd_6_28 : (.sameMethod "java/lang/Throwable" "java/lang/Throwable" "fillInStackTrace" "(I)Ljava/lang/Throwable;") ∈ eTB := tb_6 (List.mem_of_getElem? (i := 28) rfl) rfl
theorem wd_6_29 : (.sameMethod "java/lang/AbstractStringBuilder" "java/lang/AbstractStringBuilder" "append" "(Ljava/lang/String;)Ljava/lang/AbstractStringBuilder;") ∈ eTB := tb_6 (List.mem_of_getElem? (i := 29) rfl) rfl
theorem wd_6_30 : (.sameMethod "java/lang/AbstractStringBuilder" "java/lang/AbstractStringBuilder" "appendNull" "()Ljava/lang/AbstractStringBuilder;") ∈ eTB := tb_6 (List.mem_of_getElem? (i := 30) rfl) rfl
theorem wd_6_31 : (.sameMethod "java/lang/AbstractStringBuilder" "java/lang/AbstractStringBuilder" "ensureCapacityInternal" "(I)V") ∈ eTB := tb_6 (List.mem_of_getElem? (i := 31) rfl) rfl
theorem wd_6_32 : (.sameMethod "java/lang/AbstractStringBuilder" "java/lang/AbstractStringBuilder" "newCapacity" "(I)I") ∈ eTB := tb_6 (List.mem_of_getElem? (i := 32) rfl) rfl
theorem wd_6_33 : (.sameMethod "java/lang/AbstractStringBuilder" "java/lang/AbstractStringBuilder" "putStringAt" "(ILjava/lang/String;)V") ∈ eTB := tb_6 (List.mem_of_getElem? (i := 33) rfl) rfl
theorem wd_6_34 : (.sameMethod "java/lang/AbstractStringBuilder" "java/lang/AbstractStringBuilder" "inflateIfNeededFor" "(Ljava/lang/String;)V") ∈ eTB := tb_6 (List.mem_of_getElem? (i := 34) rfl) rfl
theorem wd_6_35 : (.sameMethod "java/lang/AbstractStringBuilder" "java/lang/AbstractStringBuilder" "inflate" "()V") ∈ eTB := tb_6 (List.mem_of_getElem? (i := 35) rfl) rfl
theorem wd_6_36 : (.sameMethod "java/lang/AbstractStringBuilder" "java/lang/AbstractStringBuilder" "append" "(I)Ljava/lang/AbstractStringBuilder;") ∈ eTB := tb_6 (List.mem_of_getElem? (i := 36) rfl) rfl
theorem ws_X6_demandBasket : (.selects yX6_demandBasket.cls yX6_demandBasket yX6_demandBasket) ∈ eTB := eTB_in (List.mem_append_left _ (List.mem_map.mpr ⟨(yX6_demandBasket, 13), List.mem_of_getElem? (i := 0) rfl, rfl⟩)) rfl
theorem ws_X6_demandCell : (.selects yX6_demandCell.cls yX6_demandCell yX6_demandCell) ∈ eTB := eTB_in (List.mem_append_left _ (List.mem_map.mpr ⟨(yX6_demandCell, 13), List.mem_of_getElem? (i := 2) rfl, rfl⟩)) rfl
theorem ws_X6_demandAnyBasket : (.selects yX6_demandAnyBasket.cls yX6_demandAnyBasket yX6_demandAnyBasket) ∈ eTB := eTB_in (List.mem_append_left _ (List.mem_map.mpr ⟨(yX6_demandAnyBasket, 13), List.mem_of_getElem? (i := 3) rfl, rfl⟩)) rfl
theorem ws_X6_leadersAgree : (.selects yX6_leadersAgree.cls yX6_leadersAgree yX6_leadersAgree) ∈ eTB := eTB_in (List.mem_append_left _ (List.mem_map.mpr ⟨(yX6_leadersAgree, 13), List.mem_of_getElem? (i := 4) rfl, rfl⟩)) rfl
theorem ws_X6_demandStepsAhead : (.selects yX6_demandStepsAhead.cls yX6_demandStepsAhead yX6_demandStepsAhead) ∈ eTB := eTB_in (List.mem_append_left _ (List.mem_map.mpr ⟨(yX6_demandStepsAhead, 13), List.mem_of_getElem? (i := 5) rfl, rfl⟩)) rfl
theorem ws_X6_prepare : (.selects yX6_prepare.cls yX6_prepare yX6_prepare) ∈ eTB := eTB_in (List.mem_append_left _ (List.mem_map.mpr ⟨(yX6_prepare, 13), List.mem_of_getElem? (i := 6) rfl, rfl⟩)) rfl
theorem ws_X6_hindranceIn : (.selects yX6_hindranceIn.cls yX6_hindranceIn yX6_hindranceIn) ∈ eTB := eTB_in (List.mem_append_left _ (List.mem_map.mpr ⟨(yX6_hindranceIn, 13), List.mem_of_getElem? (i := 7) rfl, rfl⟩)) rfl
theorem ws_X6_keepRefusal : (.selects yX6_keepRefusal.cls yX6_keepRefusal yX6_keepRefusal) ∈ eTB := eTB_in (List.mem_append_left _ (List.mem_map.mpr ⟨(yX6_keepRefusal, 13), List.mem_of_getElem? (i := 8) rfl, rfl⟩)) rfl
theorem inX0 : ∀ w ∈ u_ws RX0 TX0 2, w ∈ eTB := List.forall_mem_cons.mpr ⟨wd_1_54, List.forall_mem_cons.mpr ⟨wd_1_56, fun _ h => nomatch h⟩⟩
theorem inX1 : ∀ w ∈ u_ws RX1 TX1 6, w ∈ eTB := List.forall_mem_cons.mpr ⟨wd_1_184, List.forall_mem_cons.mpr ⟨wd_1_186, List.forall_mem_cons.mpr ⟨wd_1_188, List.forall_mem_cons.mpr ⟨wd_1_190, List.forall_mem_cons.mpr ⟨wd_1_192, List.forall_mem_cons.mpr ⟨wd_1_194, fun _ h => nomatch h⟩⟩⟩⟩⟩⟩
theorem inX2 : ∀ w ∈ u_ws RX2 TX2 16, w ∈ eTB := List.forall_mem_cons.mpr ⟨wd_1_105, List.forall_mem_cons.mpr ⟨wd_1_107, List.forall_mem_cons.mpr ⟨wd_1_109, List.forall_mem_cons.mpr ⟨wd_1_111, List.forall_mem_cons.mpr ⟨wd_1_113, List.forall_mem_cons.mpr ⟨wd_1_115, List.forall_mem_cons.mpr ⟨wd_1_117, List.forall_mem_cons.mpr ⟨wd_1_119, List.forall_mem_cons.mpr ⟨wd_1_121, List.forall_mem_cons.mpr ⟨wd_1_123, List.forall_mem_cons.mpr ⟨wd_1_125, List.forall_mem_cons.mpr ⟨wd_1_127, List.forall_mem_cons.mpr ⟨wd_1_129, List.forall_mem_cons.mpr ⟨wd_1_131, List.forall_mem_cons.mpr ⟨wd_1_133, List.forall_mem_cons.mpr ⟨wd_1_135, fun _ h => nomatch h⟩⟩⟩⟩⟩⟩⟩⟩⟩⟩⟩⟩⟩⟩⟩⟩
theorem inX3 : ∀ w ∈ u_ws RX3 TX3 2, w ∈ eTB := List.forall_mem_cons.mpr ⟨wd_1_165, List.forall_mem_cons.mpr ⟨wd_1_167, fun _ h => nomatch h⟩⟩
theorem inX4 : ∀ w ∈ u_ws RX4 TX4 3, w ∈ eTB := List.forall_mem_cons.mpr ⟨wd_1_150, List.forall_mem_cons.mpr ⟨wd_1_152, List.forall_mem_cons.mpr ⟨wd_1_154, fun _ h => nomatch h⟩⟩⟩
theorem inX5 : ∀ w ∈ u_ws RX5 TX5 3, w ∈ eTB := List.forall_mem_cons.mpr ⟨wd_1_70, List.forall_mem_cons.mpr ⟨wd_1_72, List.forall_mem_cons.mpr ⟨wd_1_74, fun _ h => nomatch h⟩⟩⟩
theorem inX6 : ∀ w ∈ u_ws RX6 TX6 13, w ∈ eTB := List.forall_mem_cons.mpr ⟨wd_1_211, List.forall_mem_cons.mpr ⟨wd_1_213, List.forall_mem_cons.mpr ⟨wd_1_215, List.forall_mem_cons.mpr ⟨wd_1_217, List.forall_mem_cons.mpr ⟨wd_1_219, List.forall_mem_cons.mpr ⟨wd_1_221, List.forall_mem_cons.mpr ⟨wd_1_223, List.forall_mem_cons.mpr ⟨wd_1_225, List.forall_mem_cons.mpr ⟨wd_1_227, List.forall_mem_cons.mpr ⟨wd_1_229, List.forall_mem_cons.mpr ⟨wd_1_231, List.forall_mem_cons.mpr ⟨wd_1_233, List.forall_mem_cons.mpr ⟨wd_1_235, fun _ h => nomatch h⟩⟩⟩⟩⟩⟩⟩⟩⟩⟩⟩⟩⟩
theorem inJ4 : ∀ w ∈ u_ws RJ4 TJ4 4, w ∈ eTB := List.forall_mem_cons.mpr ⟨wd_5_76, List.forall_mem_cons.mpr ⟨wd_5_78, List.forall_mem_cons.mpr ⟨wd_5_80, List.forall_mem_cons.mpr ⟨wd_5_82, fun _ h => nomatch h⟩⟩⟩⟩
theorem inJ0 : ∀ w ∈ u_ws RJ0 TJ0 4, w ∈ eTB := List.forall_mem_cons.mpr ⟨wd_3_168, List.forall_mem_cons.mpr ⟨wd_3_170, List.forall_mem_cons.mpr ⟨wd_6_20, List.forall_mem_cons.mpr ⟨wd_6_22, fun _ h => nomatch h⟩⟩⟩⟩
theorem fd_X0_9 : eFd RX0 9 0 0 (.array .int) true := ⟨RX0, TX0, 2, tyX0, rfl, inX0, by decide, wd_1_50, tyX0_ok, nmX0, tyX0_ok 0 (by decide), rfl, (fun _ => rfl)⟩
theorem fd_X0_15 : eFd RX0 15 0 1 .int false := ⟨RX0, TX0, 2, tyX0, rfl, inX0, by decide, wd_1_51, tyX0_ok, nmX0, tyX0_ok 1 (by decide), rfl, (fun _ => rfl)⟩
theorem fd_X2_115 : eFd RX2 115 0 1 .int false := ⟨RX0, TX0, 2, tyX0, rfl, inX0, by decide, wd_1_52, tyX0_ok, nmX0, tyX0_ok 1 (by decide), rfl, (fun _ => rfl)⟩
theorem fd_X6_140 : eFd RX6 140 0 1 .int false := ⟨RX0, TX0, 2, tyX0, rfl, inX0, by decide, wd_1_53, tyX0_ok, nmX0, tyX0_ok 1 (by decide), rfl, (fun _ => rfl)⟩
theorem fd_X5_11 : eFd RX5 11 5 0 (.array .long) true := ⟨RX5, TX5, 3, tyX5, rfl, inX5, by decide, wd_1_66, tyX5_ok, nmX5, tyX5_ok 0 (by decide), rfl, (fun _ => rfl)⟩
theorem fd_X5_15 : eFd RX5 15 5 1 .int false := ⟨RX5, TX5, 3, tyX5, rfl, inX5, by decide, wd_1_67, tyX5_ok, nmX5, tyX5_ok 1 (by decide), rfl, (fun _ => rfl)⟩
theorem fd_X6_231 : eFd RX6 231 5 1 .int false := ⟨RX5, TX5, 3, tyX5, rfl, inX5, by decide, wd_1_68, tyX5_ok, nmX5, tyX5_ok 1 (by decide), rfl, (fun _ => rfl)⟩
theorem fd_X5_19 : eFd RX5 19 5 2 .int false := ⟨RX5, TX5, 3, tyX5, rfl, inX5, by decide, wd_1_69, tyX5_ok, nmX5, tyX5_ok 2 (by decide), rfl, (fun _ => rfl)⟩
theorem fd_X2_9 : eFd RX2 9 2 0 (.array .int) true := ⟨RX2, TX2, 16, tyX2, rfl, inX2, by decide, wd_1_78, tyX2_ok, nmX2, tyX2_ok 0 (by decide), rfl, (fun _ => rfl)⟩
theorem fd_X6_89 : eFd RX6 89 2 0 (.array .int) true := ⟨RX2, TX2, 16, tyX2, rfl, inX2, by decide, wd_1_79, tyX2_ok, nmX2, tyX2_ok 0 (by decide), rfl, (fun _ => rfl)⟩
theorem fd_X2_15 : eFd RX2 15 2 1 (.array .int) true := ⟨RX2, TX2, 16, tyX2, rfl, inX2, by decide, wd_1_80, tyX2_ok, nmX2, tyX2_ok 1 (by decide), rfl, (fun _ => rfl)⟩
theorem fd_X6_93 : eFd RX6 93 2 1 (.array .int) true := ⟨RX2, TX2, 16, tyX2, rfl, inX2, by decide, wd_1_81, tyX2_ok, nmX2, tyX2_ok 1 (by decide), rfl, (fun _ => rfl)⟩
theorem fd_X2_18 : eFd RX2 18 2 2 (.array .int) true := ⟨RX2, TX2, 16, tyX2, rfl, inX2, by decide, wd_1_82, tyX2_ok, nmX2, tyX2_ok 2 (by decide), rfl, (fun _ => rfl)⟩
theorem fd_X6_96 : eFd RX6 96 2 2 (.array .int) true := ⟨RX2, TX2, 16, tyX2, rfl, inX2, by decide, wd_1_83, tyX2_ok, nmX2, tyX2_ok 2 (by decide), rfl, (fun _ => rfl)⟩
theorem fd_X2_21 : eFd RX2 21 2 3 (.array .int) true := ⟨RX2, TX2, 16, tyX2, rfl, inX2, by decide, wd_1_84, tyX2_ok, nmX2, tyX2_ok 3 (by decide), rfl, (fun _ => rfl)⟩
theorem fd_X6_196 : eFd RX6 196 2 3 (.array .int) true := ⟨RX2, TX2, 16, tyX2, rfl, inX2, by decide, wd_1_85, tyX2_ok, nmX2, tyX2_ok 3 (by decide), rfl, (fun _ => rfl)⟩
theorem fd_X2_24 : eFd RX2 24 2 4 .int false := ⟨RX2, TX2, 16, tyX2, rfl, inX2, by decide, wd_1_86, tyX2_ok, nmX2, tyX2_ok 4 (by decide), rfl, (fun _ => rfl)⟩
theorem fd_X3_22 : eFd RX3 22 2 4 .int false := ⟨RX2, TX2, 16, tyX2, rfl, inX2, by decide, wd_1_87, tyX2_ok, nmX2, tyX2_ok 4 (by decide), rfl, (fun _ => rfl)⟩
theorem fd_X6_82 : eFd RX6 82 2 4 .int false := ⟨RX2, TX2, 16, tyX2, rfl, inX2, by decide, wd_1_88, tyX2_ok, nmX2, tyX2_ok 4 (by decide), rfl, (fun _ => rfl)⟩
theorem fd_X2_31 : eFd RX2 31 2 5 (.object "BasketFlock$Clouds") true := ⟨RX2, TX2, 16, tyX2, rfl, inX2, by decide, wd_1_89, tyX2_ok, nmX2, tyX2_ok 5 (by decide), rfl, (fun _ => rfl)⟩
theorem fd_X6_125 : eFd RX6 125 2 5 (.object "BasketFlock$Clouds") true := ⟨RX2, TX2, 16, tyX2, rfl, inX2, by decide, wd_1_90, tyX2_ok, nmX2, tyX2_ok 5 (by decide), rfl, (fun _ => rfl)⟩
theorem fd_X2_38 : eFd RX2 38 2 6 (.object "BasketFlock$Shapes") true := ⟨RX2, TX2, 16, tyX2, rfl, inX2, by decide, wd_1_91, tyX2_ok, nmX2, tyX2_ok 6 (by decide), rfl, (fun _ => rfl)⟩
theorem fd_X6_227 : eFd RX6 227 2 6 (.object "BasketFlock$Shapes") true := ⟨RX2, TX2, 16, tyX2, rfl, inX2, by decide, wd_1_92, tyX2_ok, nmX2, tyX2_ok 6 (by decide), rfl, (fun _ => rfl)⟩
theorem fd_X2_42 : eFd RX2 42 2 7 (.array .long) true := ⟨RX2, TX2, 16, tyX2, rfl, inX2, by decide, wd_1_93, tyX2_ok, nmX2, tyX2_ok 7 (by decide), rfl, (fun _ => rfl)⟩
theorem fd_X2_46 : eFd RX2 46 2 8 .int false := ⟨RX2, TX2, 16, tyX2, rfl, inX2, by decide, wd_1_94, tyX2_ok, nmX2, tyX2_ok 8 (by decide), rfl, (fun _ => rfl)⟩
theorem fd_X6_150 : eFd RX6 150 2 8 .int false := ⟨RX2, TX2, 16, tyX2, rfl, inX2, by decide, wd_1_95, tyX2_ok, nmX2, tyX2_ok 8 (by decide), rfl, (fun _ => rfl)⟩
theorem fd_X2_49 : eFd RX2 49 2 9 .int false := ⟨RX2, TX2, 16, tyX2, rfl, inX2, by decide, wd_1_96, tyX2_ok, nmX2, tyX2_ok 9 (by decide), rfl, (fun _ => rfl)⟩
theorem fd_X2_52 : eFd RX2 52 2 10 .int false := ⟨RX2, TX2, 16, tyX2, rfl, inX2, by decide, wd_1_97, tyX2_ok, nmX2, tyX2_ok 10 (by decide), rfl, (fun _ => rfl)⟩
theorem fd_X2_55 : eFd RX2 55 2 11 .int false := ⟨RX2, TX2, 16, tyX2, rfl, inX2, by decide, wd_1_98, tyX2_ok, nmX2, tyX2_ok 11 (by decide), rfl, (fun _ => rfl)⟩
theorem fd_X2_58 : eFd RX2 58 2 12 .int false := ⟨RX2, TX2, 16, tyX2, rfl, inX2, by decide, wd_1_99, tyX2_ok, nmX2, tyX2_ok 12 (by decide), rfl, (fun _ => rfl)⟩
theorem fd_X2_61 : eFd RX2 61 2 13 .int false := ⟨RX2, TX2, 16, tyX2, rfl, inX2, by decide, wd_1_100, tyX2_ok, nmX2, tyX2_ok 13 (by decide), rfl, (fun _ => rfl)⟩
theorem fd_X6_190 : eFd RX6 190 2 13 .int false := ⟨RX2, TX2, 16, tyX2, rfl, inX2, by decide, wd_1_101, tyX2_ok, nmX2, tyX2_ok 13 (by decide), rfl, (fun _ => rfl)⟩
theorem fd_X2_64 : eFd RX2 64 2 14 .int false := ⟨RX2, TX2, 16, tyX2, rfl, inX2, by decide, wd_1_102, tyX2_ok, nmX2, tyX2_ok 14 (by decide), rfl, (fun _ => rfl)⟩
theorem fd_X6_193 : eFd RX6 193 2 14 .int false := ⟨RX2, TX2, 16, tyX2, rfl, inX2, by decide, wd_1_103, tyX2_ok, nmX2, tyX2_ok 14 (by decide), rfl, (fun _ => rfl)⟩
theorem fd_X2_67 : eFd RX2 67 2 15 .int false := ⟨RX2, TX2, 16, tyX2, rfl, inX2, by decide, wd_1_104, tyX2_ok, nmX2, tyX2_ok 15 (by decide), rfl, (fun _ => rfl)⟩
theorem fd_X4_11 : eFd RX4 11 4 0 (.array (.object "BasketFlock$Flock")) true := ⟨RX4, TX4, 3, tyX4, rfl, inX4, by decide, wd_1_147, tyX4_ok, nmX4, tyX4_ok 0 (by decide), rfl, (fun _ => rfl)⟩
theorem fd_X4_17 : eFd RX4 17 4 1 .int false := ⟨RX4, TX4, 3, tyX4, rfl, inX4, by decide, wd_1_148, tyX4_ok, nmX4, tyX4_ok 1 (by decide), rfl, (fun _ => rfl)⟩
theorem fd_X4_21 : eFd RX4 21 4 2 .int false := ⟨RX4, TX4, 3, tyX4, rfl, inX4, by decide, wd_1_149, tyX4_ok, nmX4, tyX4_ok 2 (by decide), rfl, (fun _ => rfl)⟩
theorem fd_X3_9 : eFd RX3 9 3 0 (.array .int) true := ⟨RX3, TX3, 2, tyX3, rfl, inX3, by decide, wd_1_163, tyX3_ok, nmX3, tyX3_ok 0 (by decide), rfl, (fun _ => rfl)⟩
theorem fd_X3_15 : eFd RX3 15 3 1 (.array .int) true := ⟨RX3, TX3, 2, tyX3, rfl, inX3, by decide, wd_1_164, tyX3_ok, nmX3, tyX3_ok 1 (by decide), rfl, (fun _ => rfl)⟩
theorem fd_X1_9 : eFd RX1 9 1 0 (.array .char) true := ⟨RX1, TX1, 6, tyX1, rfl, inX1, by decide, wd_1_178, tyX1_ok, nmX1, tyX1_ok 0 (by decide), rfl, (fun _ => rfl)⟩
theorem fd_X1_15 : eFd RX1 15 1 1 .int false := ⟨RX1, TX1, 6, tyX1, rfl, inX1, by decide, wd_1_179, tyX1_ok, nmX1, tyX1_ok 1 (by decide), rfl, (fun _ => rfl)⟩
theorem fd_X1_19 : eFd RX1 19 1 2 (.array .int) true := ⟨RX1, TX1, 6, tyX1, rfl, inX1, by decide, wd_1_180, tyX1_ok, nmX1, tyX1_ok 2 (by decide), rfl, (fun _ => rfl)⟩
theorem fd_X1_25 : eFd RX1 25 1 3 (.array (.array .int)) true := ⟨RX1, TX1, 6, tyX1, rfl, inX1, by decide, wd_1_181, tyX1_ok, nmX1, tyX1_ok 3 (by decide), rfl, (fun _ => rfl)⟩
theorem fd_X1_28 : eFd RX1 28 1 4 .int false := ⟨RX1, TX1, 6, tyX1, rfl, inX1, by decide, wd_1_182, tyX1_ok, nmX1, tyX1_ok 4 (by decide), rfl, (fun _ => rfl)⟩
theorem fd_X1_31 : eFd RX1 31 1 5 .int false := ⟨RX1, TX1, 6, tyX1, rfl, inX1, by decide, wd_1_183, tyX1_ok, nmX1, tyX1_ok 5 (by decide), rfl, (fun _ => rfl)⟩
theorem fd_X6_10 : eFd RX6 10 6 0 (.object "BasketFlock$Flock") true := ⟨RX6, TX6, 13, tyX6, rfl, inX6, by decide, wd_1_198, tyX6_ok, nmX6, tyX6_ok 0 (by decide), rfl, (fun _ => rfl)⟩
theorem fd_X6_16 : eFd RX6 16 6 1 (.object "BasketFlock$Flock") true := ⟨RX6, TX6, 13, tyX6, rfl, inX6, by decide, wd_1_199, tyX6_ok, nmX6, tyX6_ok 1 (by decide), rfl, (fun _ => rfl)⟩
theorem fd_X6_19 : eFd RX6 19 6 2 (.object "BasketFlock$Flock") true := ⟨RX6, TX6, 13, tyX6, rfl, inX6, by decide, wd_1_200, tyX6_ok, nmX6, tyX6_ok 2 (by decide), rfl, (fun _ => rfl)⟩
theorem fd_X6_22 : eFd RX6 22 6 3 .boolean false := ⟨RX6, TX6, 13, tyX6, rfl, inX6, by decide, wd_1_201, tyX6_ok, nmX6, tyX6_ok 3 (by decide), rfl, (fun _ => rfl)⟩
theorem fd_X6_29 : eFd RX6 29 6 4 (.object "BasketFlock$History") true := ⟨RX6, TX6, 13, tyX6, rfl, inX6, by decide, wd_1_202, tyX6_ok, nmX6, tyX6_ok 4 (by decide), rfl, (fun _ => rfl)⟩
theorem fd_X6_36 : eFd RX6 36 6 5 (.object "BasketFlock$Formations") true := ⟨RX6, TX6, 13, tyX6, rfl, inX6, by decide, wd_1_203, tyX6_ok, nmX6, tyX6_ok 5 (by decide), rfl, (fun _ => rfl)⟩
theorem fd_X6_43 : eFd RX6 43 6 6 (.object "BasketFlock$CommandText") true := ⟨RX6, TX6, 13, tyX6, rfl, inX6, by decide, wd_1_204, tyX6_ok, nmX6, tyX6_ok 6 (by decide), rfl, (fun _ => rfl)⟩
theorem fd_X6_47 : eFd RX6 47 6 7 .int false := ⟨RX6, TX6, 13, tyX6, rfl, inX6, by decide, wd_1_205, tyX6_ok, nmX6, tyX6_ok 7 (by decide), rfl, (fun _ => rfl)⟩
theorem fd_X6_51 : eFd RX6 51 6 8 .int false := ⟨RX6, TX6, 13, tyX6, rfl, inX6, by decide, wd_1_206, tyX6_ok, nmX6, tyX6_ok 8 (by decide), rfl, (fun _ => rfl)⟩
theorem fd_X6_54 : eFd RX6 54 6 9 .int false := ⟨RX6, TX6, 13, tyX6, rfl, inX6, by decide, wd_1_207, tyX6_ok, nmX6, tyX6_ok 9 (by decide), rfl, (fun _ => rfl)⟩
theorem fd_X6_57 : eFd RX6 57 6 10 .int false := ⟨RX6, TX6, 13, tyX6, rfl, inX6, by decide, wd_1_208, tyX6_ok, nmX6, tyX6_ok 10 (by decide), rfl, (fun _ => rfl)⟩
theorem fd_X6_60 : eFd RX6 60 6 11 (.array .char) true := ⟨RX6, TX6, 13, tyX6, rfl, inX6, by decide, wd_1_209, tyX6_ok, nmX6, tyX6_ok 11 (by decide), rfl, (fun _ => rfl)⟩
theorem fd_X6_64 : eFd RX6 64 6 12 .int false := ⟨RX6, TX6, 13, tyX6, rfl, inX6, by decide, wd_1_210, tyX6_ok, nmX6, tyX6_ok 12 (by decide), rfl, (fun _ => rfl)⟩
theorem fd_J5_15 : eFd RJ5 15 7 0 (.array .byte) false := ⟨RJ4, TJ4, 4, tyJ4, rfl, inJ4, by decide, wd_5_72, tyJ4_ok, nmJ4, tyJ4_ok 0 (by decide), rfl, (fun h => absurd h (by decide))⟩
theorem fd_J5_22 : eFd RJ5 22 7 1 .byte false := ⟨RJ4, TJ4, 4, tyJ4, rfl, inJ4, by decide, wd_5_73, tyJ4_ok, nmJ4, tyJ4_ok 1 (by decide), rfl, (fun h => absurd h (by decide))⟩
theorem fd_J0_1048 : eFd RJ0 1048 7 2 .boolean false := ⟨RJ4, TJ4, 4, tyJ4, rfl, inJ4, by decide, wd_5_74, tyJ4_ok, nmJ4, tyJ4_ok 2 (by decide), rfl, (fun h => absurd h (by decide))⟩
theorem fd_J5_79 : eFd RJ5 79 7 3 .int false := ⟨RJ4, TJ4, 4, tyJ4, rfl, inJ4, by decide, wd_5_75, tyJ4_ok, nmJ4, tyJ4_ok 3 (by decide), rfl, (fun h => absurd h (by decide))⟩
theorem fd_J0_9 : eFd RJ0 9 8 0 (.array .byte) true := ⟨RJ0, TJ0, 4, tyJ0, rfl, inJ0, by decide, wd_6_18, tyJ0_ok, nmJ0, tyJ0_ok 0 (by decide), rfl, (fun _ => rfl)⟩
theorem fd_J0_15 : eFd RJ0 15 8 1 .byte true := ⟨RJ0, TJ0, 4, tyJ0, rfl, inJ0, by decide, wd_6_19, tyJ0_ok, nmJ0, tyJ0_ok 1 (by decide), rfl, (fun _ => rfl)⟩
theorem ca_X0_init : Cond.initialized yX0_init.cls ∈ eTB ∧ mWord mX0_init ∈ eTB ∧ (yX0_init.cls ≠ "java/lang/invoke/MethodHandle" ∧ yX0_init.cls ≠ "java/lang/invoke/VarHandle") ∧ (parseMethodDescriptor yX0_init.desc).map (fun d => d.parameters.length) = some 0 := ⟨wd_1_3, wd_1_48, ⟨by decide +kernel, by decide +kernel⟩, by decide +kernel⟩
theorem ca_X0_inSky : Cond.initialized yX0_inSky.cls ∈ eTB ∧ mWord mX0_inSky ∈ eTB ∧ (yX0_inSky.cls ≠ "java/lang/invoke/MethodHandle" ∧ yX0_inSky.cls ≠ "java/lang/invoke/VarHandle") ∧ (parseMethodDescriptor yX0_inSky.desc).map (fun d => d.parameters.length) = some 2 := ⟨wd_1_3, wd_2_104, ⟨by decide +kernel, by decide +kernel⟩, by decide +kernel⟩
theorem ca_X0_covers : Cond.initialized yX0_covers.cls ∈ eTB ∧ mWord mX0_covers ∈ eTB ∧ (yX0_covers.cls ≠ "java/lang/invoke/MethodHandle" ∧ yX0_covers.cls ≠ "java/lang/invoke/VarHandle") ∧ (parseMethodDescriptor yX0_covers.desc).map (fun d => d.parameters.length) = some 2 := ⟨wd_1_3, wd_2_164, ⟨by decide +kernel, by decide +kernel⟩, by decide +kernel⟩
theorem ca_X0_put : Cond.initialized yX0_put.cls ∈ eTB ∧ mWord mX0_put ∈ eTB ∧ (yX0_put.cls ≠ "java/lang/invoke/MethodHandle" ∧ yX0_put.cls ≠ "java/lang/invoke/VarHandle") ∧ (parseMethodDescriptor yX0_put.desc).map (fun d => d.parameters.length) = some 2 := ⟨wd_1_3, wd_4_118, ⟨by decide +kernel, by decide +kernel⟩, by decide +kernel⟩
theorem ca_X0_remove : Cond.initialized yX0_remove.cls ∈ eTB ∧ mWord mX0_remove ∈ eTB ∧ (yX0_remove.cls ≠ "java/lang/invoke/MethodHandle" ∧ yX0_remove.cls ≠ "java/lang/invoke/VarHandle") ∧ (parseMethodDescriptor yX0_remove.desc).map (fun d => d.parameters.length) = some 2 := ⟨wd_1_3, wd_4_166, ⟨by decide +kernel, by decide +kernel⟩, by decide +kernel⟩
theorem ca_X0_copyFrom : Cond.initialized yX0_copyFrom.cls ∈ eTB ∧ mWord mX0_copyFrom ∈ eTB ∧ (yX0_copyFrom.cls ≠ "java/lang/invoke/MethodHandle" ∧ yX0_copyFrom.cls ≠ "java/lang/invoke/VarHandle") ∧ (parseMethodDescriptor yX0_copyFrom.desc).map (fun d => d.parameters.length) = some 1 := ⟨wd_1_3, wd_4_96, ⟨by decide +kernel, by decide +kernel⟩, by decide +kernel⟩
theorem ca_X1_init : Cond.initialized yX1_init.cls ∈ eTB ∧ mWord mX1_init ∈ eTB ∧ (yX1_init.cls ≠ "java/lang/invoke/MethodHandle" ∧ yX1_init.cls ≠ "java/lang/invoke/VarHandle") ∧ (parseMethodDescriptor yX1_init.desc).map (fun d => d.parameters.length) = some 0 := ⟨wd_1_7, wd_1_174, ⟨by decide +kernel, by decide +kernel⟩, by decide +kernel⟩
theorem ca_X2_init : Cond.initialized yX2_init.cls ∈ eTB ∧ mWord mX2_init ∈ eTB ∧ (yX2_init.cls ≠ "java/lang/invoke/MethodHandle" ∧ yX2_init.cls ≠ "java/lang/invoke/VarHandle") ∧ (parseMethodDescriptor yX2_init.desc).map (fun d => d.parameters.length) = some 0 := ⟨wd_1_2, wd_1_42, ⟨by decide +kernel, by decide +kernel⟩, by decide +kernel⟩
theorem ca_X2_copyFrom : Cond.initialized yX2_copyFrom.cls ∈ eTB ∧ mWord mX2_copyFrom ∈ eTB ∧ (yX2_copyFrom.cls ≠ "java/lang/invoke/MethodHandle" ∧ yX2_copyFrom.cls ≠ "java/lang/invoke/VarHandle") ∧ (parseMethodDescriptor yX2_copyFrom.desc).map (fun d => d.parameters.length) = some 1 := ⟨wd_1_2, wd_4_89, ⟨by decide +kernel, by decide +kernel⟩, by decide +kernel⟩
theorem ca_X2_hindrance : Cond.initialized yX2_hindrance.cls ∈ eTB ∧ mWord mX2_hindrance ∈ eTB ∧ (yX2_hindrance.cls ≠ "java/lang/invoke/MethodHandle" ∧ yX2_hindrance.cls ≠ "java/lang/invoke/VarHandle") ∧ (parseMethodDescriptor yX2_hindrance.desc).map (fun d => d.parameters.length) = some 4 := ⟨wd_1_2, wd_4_15, ⟨by decide +kernel, by decide +kernel⟩, by decide +kernel⟩
theorem ca_X2_hindranceOutside : Cond.initialized yX2_hindranceOutside.cls ∈ eTB ∧ mWord mX2_hindranceOutside ∈ eTB ∧ (yX2_hindranceOutside.cls ≠ "java/lang/invoke/MethodHandle" ∧ yX2_hindranceOutside.cls ≠ "java/lang/invoke/VarHandle") ∧ (parseMethodDescriptor yX2_hindranceOutside.desc).map (fun d => d.parameters.length) = some 3 := ⟨wd_1_2, wd_4_26, ⟨by decide +kernel, by decide +kernel⟩, by decide +kernel⟩
theorem ca_X2_hindranceToAdd : Cond.initialized yX2_hindranceToAdd.cls ∈ eTB ∧ mWord mX2_hindranceToAdd ∈ eTB ∧ (yX2_hindranceToAdd.cls ≠ "java/lang/invoke/MethodHandle" ∧ yX2_hindranceToAdd.cls ≠ "java/lang/invoke/VarHandle") ∧ (parseMethodDescriptor yX2_hindranceToAdd.desc).map (fun d => d.parameters.length) = some 3 := ⟨wd_1_2, wd_4_19, ⟨by decide +kernel, by decide +kernel⟩, by decide +kernel⟩
theorem ca_X2_hindranceToJump : Cond.initialized yX2_hindranceToJump.cls ∈ eTB ∧ mWord mX2_hindranceToJump ∈ eTB ∧ (yX2_hindranceToJump.cls ≠ "java/lang/invoke/MethodHandle" ∧ yX2_hindranceToJump.cls ≠ "java/lang/invoke/VarHandle") ∧ (parseMethodDescriptor yX2_hindranceToJump.desc).map (fun d => d.parameters.length) = some 3 := ⟨wd_1_2, wd_4_23, ⟨by decide +kernel, by decide +kernel⟩, by decide +kernel⟩
theorem ca_X2_hindranceToCloud : Cond.initialized yX2_hindranceToCloud.cls ∈ eTB ∧ mWord mX2_hindranceToCloud ∈ eTB ∧ (yX2_hindranceToCloud.cls ≠ "java/lang/invoke/MethodHandle" ∧ yX2_hindranceToCloud.cls ≠ "java/lang/invoke/VarHandle") ∧ (parseMethodDescriptor yX2_hindranceToCloud.desc).map (fun d => d.parameters.length) = some 2 := ⟨wd_1_2, wd_4_30, ⟨by decide +kernel, by decide +kernel⟩, by decide +kernel⟩
theorem ca_X2_hindranceToClear : Cond.initialized yX2_hindranceToClear.cls ∈ eTB ∧ mWord mX2_hindranceToClear ∈ eTB ∧ (yX2_hindranceToClear.cls ≠ "java/lang/invoke/MethodHandle" ∧ yX2_hindranceToClear.cls ≠ "java/lang/invoke/VarHandle") ∧ (parseMethodDescriptor yX2_hindranceToClear.desc).map (fun d => d.parameters.length) = some 2 := ⟨wd_1_2, wd_4_34, ⟨by decide +kernel, by decide +kernel⟩, by decide +kernel⟩
theorem ca_X2_hindranceToGoal : Cond.initialized yX2_hindranceToGoal.cls ∈ eTB ∧ mWord mX2_hindranceToGoal ∈ eTB ∧ (yX2_hindranceToGoal.cls ≠ "java/lang/invoke/MethodHandle" ∧ yX2_hindranceToGoal.cls ≠ "java/lang/invoke/VarHandle") ∧ (parseMethodDescriptor yX2_hindranceToGoal.desc).map (fun d => d.parameters.length) = some 2 := ⟨wd_1_2, wd_4_38, ⟨by decide +kernel, by decide +kernel⟩, by decide +kernel⟩
theorem ca_X2_add : Cond.initialized yX2_add.cls ∈ eTB ∧ mWord mX2_add ∈ eTB ∧ (yX2_add.cls ≠ "java/lang/invoke/MethodHandle" ∧ yX2_add.cls ≠ "java/lang/invoke/VarHandle") ∧ (parseMethodDescriptor yX2_add.desc).map (fun d => d.parameters.length) = some 3 := ⟨wd_1_2, wd_4_107, ⟨by decide +kernel, by decide +kernel⟩, by decide +kernel⟩
theorem ca_X2_put : Cond.initialized yX2_put.cls ∈ eTB ∧ mWord mX2_put ∈ eTB ∧ (yX2_put.cls ≠ "java/lang/invoke/MethodHandle" ∧ yX2_put.cls ≠ "java/lang/invoke/VarHandle") ∧ (parseMethodDescriptor yX2_put.desc).map (fun d => d.parameters.length) = some 3 := ⟨wd_1_2, wd_4_144, ⟨by decide +kernel, by decide +kernel⟩, by decide +kernel⟩
theorem ca_X2_replaceHandle : Cond.initialized yX2_replaceHandle.cls ∈ eTB ∧ mWord mX2_replaceHandle ∈ eTB ∧ (yX2_replaceHandle.cls ≠ "java/lang/invoke/MethodHandle" ∧ yX2_replaceHandle.cls ≠ "java/lang/invoke/VarHandle") ∧ (parseMethodDescriptor yX2_replaceHandle.desc).map (fun d => d.parameters.length) = some 2 := ⟨wd_1_2, wd_4_155, ⟨by decide +kernel, by decide +kernel⟩, by decide +kernel⟩
theorem ca_X2_replaceTurn : Cond.initialized yX2_replaceTurn.cls ∈ eTB ∧ mWord mX2_replaceTurn ∈ eTB ∧ (yX2_replaceTurn.cls ≠ "java/lang/invoke/MethodHandle" ∧ yX2_replaceTurn.cls ≠ "java/lang/invoke/VarHandle") ∧ (parseMethodDescriptor yX2_replaceTurn.desc).map (fun d => d.parameters.length) = some 1 := ⟨wd_1_2, wd_4_177, ⟨by decide +kernel, by decide +kernel⟩, by decide +kernel⟩
theorem ca_X2_replaceGoal : Cond.initialized yX2_replaceGoal.cls ∈ eTB ∧ mWord mX2_replaceGoal ∈ eTB ∧ (yX2_replaceGoal.cls ≠ "java/lang/invoke/MethodHandle" ∧ yX2_replaceGoal.cls ≠ "java/lang/invoke/VarHandle") ∧ (parseMethodDescriptor yX2_replaceGoal.desc).map (fun d => d.parameters.length) = some 2 := ⟨wd_1_2, wd_4_130, ⟨by decide +kernel, by decide +kernel⟩, by decide +kernel⟩
theorem ca_X2_replaceKept : Cond.initialized yX2_replaceKept.cls ∈ eTB ∧ mWord mX2_replaceKept ∈ eTB ∧ (yX2_replaceKept.cls ≠ "java/lang/invoke/MethodHandle" ∧ yX2_replaceKept.cls ≠ "java/lang/invoke/VarHandle") ∧ (parseMethodDescriptor yX2_replaceKept.desc).map (fun d => d.parameters.length) = some 1 := ⟨wd_1_2, wd_4_188, ⟨by decide +kernel, by decide +kernel⟩, by decide +kernel⟩
theorem ca_X2_passSteps : Cond.initialized yX2_passSteps.cls ∈ eTB ∧ mWord mX2_passSteps ∈ eTB ∧ (yX2_passSteps.cls ≠ "java/lang/invoke/MethodHandle" ∧ yX2_passSteps.cls ≠ "java/lang/invoke/VarHandle") ∧ (parseMethodDescriptor yX2_passSteps.desc).map (fun d => d.parameters.length) = some 1 := ⟨wd_1_2, wd_4_199, ⟨by decide +kernel, by decide +kernel⟩, by decide +kernel⟩
theorem ca_X2_moveLeader : Cond.initialized yX2_moveLeader.cls ∈ eTB ∧ mWord mX2_moveLeader ∈ eTB ∧ (yX2_moveLeader.cls ≠ "java/lang/invoke/MethodHandle" ∧ yX2_moveLeader.cls ≠ "java/lang/invoke/VarHandle") ∧ (parseMethodDescriptor yX2_moveLeader.desc).map (fun d => d.parameters.length) = some 0 := ⟨wd_1_2, wd_4_203, ⟨by decide +kernel, by decide +kernel⟩, by decide +kernel⟩
theorem ca_X2_oneTowards : Cond.initialized yX2_oneTowards.cls ∈ eTB ∧ mWord mX2_oneTowards ∈ eTB ∧ (yX2_oneTowards.cls ≠ "java/lang/invoke/MethodHandle" ∧ yX2_oneTowards.cls ≠ "java/lang/invoke/VarHandle") ∧ (parseMethodDescriptor yX2_oneTowards.desc).map (fun d => d.parameters.length) = some 2 := ⟨wd_1_2, wd_4_214, ⟨by decide +kernel, by decide +kernel⟩, by decide +kernel⟩
theorem ca_X2_moveFollower : Cond.initialized yX2_moveFollower.cls ∈ eTB ∧ mWord mX2_moveFollower ∈ eTB ∧ (yX2_moveFollower.cls ≠ "java/lang/invoke/MethodHandle" ∧ yX2_moveFollower.cls ≠ "java/lang/invoke/VarHandle") ∧ (parseMethodDescriptor yX2_moveFollower.desc).map (fun d => d.parameters.length) = some 1 := ⟨wd_1_2, wd_4_222, ⟨by decide +kernel, by decide +kernel⟩, by decide +kernel⟩
theorem ca_X2_goTo : Cond.initialized yX2_goTo.cls ∈ eTB ∧ mWord mX2_goTo ∈ eTB ∧ (yX2_goTo.cls ≠ "java/lang/invoke/MethodHandle" ∧ yX2_goTo.cls ≠ "java/lang/invoke/VarHandle") ∧ (parseMethodDescriptor yX2_goTo.desc).map (fun d => d.parameters.length) = some 3 := ⟨wd_1_2, wd_4_218, ⟨by decide +kernel, by decide +kernel⟩, by decide +kernel⟩
theorem ca_X2_rememberShape : Cond.initialized yX2_rememberShape.cls ∈ eTB ∧ mWord mX2_rememberShape ∈ eTB ∧ (yX2_rememberShape.cls ≠ "java/lang/invoke/MethodHandle" ∧ yX2_rememberShape.cls ≠ "java/lang/invoke/VarHandle") ∧ (parseMethodDescriptor yX2_rememberShape.desc).map (fun d => d.parameters.length) = some 0 := ⟨wd_1_2, wd_4_226, ⟨by decide +kernel, by decide +kernel⟩, by decide +kernel⟩
theorem ca_X2_passLead : Cond.initialized yX2_passLead.cls ∈ eTB ∧ mWord mX2_passLead ∈ eTB ∧ (yX2_passLead.cls ≠ "java/lang/invoke/MethodHandle" ∧ yX2_passLead.cls ≠ "java/lang/invoke/VarHandle") ∧ (parseMethodDescriptor yX2_passLead.desc).map (fun d => d.parameters.length) = some 0 := ⟨wd_1_2, wd_4_235, ⟨by decide +kernel, by decide +kernel⟩, by decide +kernel⟩
theorem ca_X2_isPossible : Cond.initialized yX2_isPossible.cls ∈ eTB ∧ mWord mX2_isPossible ∈ eTB ∧ (yX2_isPossible.cls ≠ "java/lang/invoke/MethodHandle" ∧ yX2_isPossible.cls ≠ "java/lang/invoke/VarHandle") ∧ (parseMethodDescriptor yX2_isPossible.desc).map (fun d => d.parameters.length) = some 3 := ⟨wd_1_2, wd_3_125, ⟨by decide +kernel, by decide +kernel⟩, by decide +kernel⟩
theorem ca_X2_lowestTouched : Cond.initialized yX2_lowestTouched.cls ∈ eTB ∧ mWord mX2_lowestTouched ∈ eTB ∧ (yX2_lowestTouched.cls ≠ "java/lang/invoke/MethodHandle" ∧ yX2_lowestTouched.cls ≠ "java/lang/invoke/VarHandle") ∧ (parseMethodDescriptor yX2_lowestTouched.desc).map (fun d => d.parameters.length) = some 3 := ⟨wd_1_2, wd_3_130, ⟨by decide +kernel, by decide +kernel⟩, by decide +kernel⟩
theorem ca_X2_basketIn : Cond.initialized yX2_basketIn.cls ∈ eTB ∧ mWord mX2_basketIn ∈ eTB ∧ (yX2_basketIn.cls ≠ "java/lang/invoke/MethodHandle" ∧ yX2_basketIn.cls ≠ "java/lang/invoke/VarHandle") ∧ (parseMethodDescriptor yX2_basketIn.desc).map (fun d => d.parameters.length) = some 2 := ⟨wd_1_2, wd_2_124, ⟨by decide +kernel, by decide +kernel⟩, by decide +kernel⟩
theorem ca_X2_signOf : Cond.initialized yX2_signOf.cls ∈ eTB ∧ mWord mX2_signOf ∈ eTB ∧ (yX2_signOf.cls ≠ "java/lang/invoke/MethodHandle" ∧ yX2_signOf.cls ≠ "java/lang/invoke/VarHandle") ∧ (parseMethodDescriptor yX2_signOf.desc).map (fun d => d.parameters.length) = some 2 := ⟨wd_1_2, wd_3_81, ⟨by decide +kernel, by decide +kernel⟩, by decide +kernel⟩
theorem ca_X2_isApartAndClear : Cond.initialized yX2_isApartAndClear.cls ∈ eTB ∧ mWord mX2_isApartAndClear ∈ eTB ∧ (yX2_isApartAndClear.cls ≠ "java/lang/invoke/MethodHandle" ∧ yX2_isApartAndClear.cls ≠ "java/lang/invoke/VarHandle") ∧ (parseMethodDescriptor yX2_isApartAndClear.desc).map (fun d => d.parameters.length) = some 0 := ⟨wd_1_2, wd_3_121, ⟨by decide +kernel, by decide +kernel⟩, by decide +kernel⟩
theorem ca_X2_has : Cond.initialized yX2_has.cls ∈ eTB ∧ mWord mX2_has ∈ eTB ∧ (yX2_has.cls ≠ "java/lang/invoke/MethodHandle" ∧ yX2_has.cls ≠ "java/lang/invoke/VarHandle") ∧ (parseMethodDescriptor yX2_has.desc).map (fun d => d.parameters.length) = some 1 := ⟨wd_1_2, wd_2_13, ⟨by decide +kernel, by decide +kernel⟩, by decide +kernel⟩
theorem ca_X2_distanceFrom : Cond.initialized yX2_distanceFrom.cls ∈ eTB ∧ mWord mX2_distanceFrom ∈ eTB ∧ (yX2_distanceFrom.cls ≠ "java/lang/invoke/MethodHandle" ∧ yX2_distanceFrom.cls ≠ "java/lang/invoke/VarHandle") ∧ (parseMethodDescriptor yX2_distanceFrom.desc).map (fun d => d.parameters.length) = some 3 := ⟨wd_1_2, wd_2_153, ⟨by decide +kernel, by decide +kernel⟩, by decide +kernel⟩
theorem ca_X2_distanceOf : Cond.initialized yX2_distanceOf.cls ∈ eTB ∧ mWord mX2_distanceOf ∈ eTB ∧ (yX2_distanceOf.cls ≠ "java/lang/invoke/MethodHandle" ∧ yX2_distanceOf.cls ≠ "java/lang/invoke/VarHandle") ∧ (parseMethodDescriptor yX2_distanceOf.desc).map (fun d => d.parameters.length) = some 2 := ⟨wd_1_2, wd_2_148, ⟨by decide +kernel, by decide +kernel⟩, by decide +kernel⟩
theorem ca_X2_nearestOther : Cond.initialized yX2_nearestOther.cls ∈ eTB ∧ mWord mX2_nearestOther ∈ eTB ∧ (yX2_nearestOther.cls ≠ "java/lang/invoke/MethodHandle" ∧ yX2_nearestOther.cls ≠ "java/lang/invoke/VarHandle") ∧ (parseMethodDescriptor yX2_nearestOther.desc).map (fun d => d.parameters.length) = some 1 := ⟨wd_1_2, wd_3_179, ⟨by decide +kernel, by decide +kernel⟩, by decide +kernel⟩
theorem ca_X2_basketWithRank : Cond.initialized yX2_basketWithRank.cls ∈ eTB ∧ mWord mX2_basketWithRank ∈ eTB ∧ (yX2_basketWithRank.cls ≠ "java/lang/invoke/MethodHandle" ∧ yX2_basketWithRank.cls ≠ "java/lang/invoke/VarHandle") ∧ (parseMethodDescriptor yX2_basketWithRank.desc).map (fun d => d.parameters.length) = some 1 := ⟨wd_1_2, wd_3_68, ⟨by decide +kernel, by decide +kernel⟩, by decide +kernel⟩
theorem ca_X2_rankOf : Cond.initialized yX2_rankOf.cls ∈ eTB ∧ mWord mX2_rankOf ∈ eTB ∧ (yX2_rankOf.cls ≠ "java/lang/invoke/MethodHandle" ∧ yX2_rankOf.cls ≠ "java/lang/invoke/VarHandle") ∧ (parseMethodDescriptor yX2_rankOf.desc).map (fun d => d.parameters.length) = some 1 := ⟨wd_1_2, wd_3_72, ⟨by decide +kernel, by decide +kernel⟩, by decide +kernel⟩
theorem ca_X2_sumOfDistancesFromLeader : Cond.initialized yX2_sumOfDistancesFromLeader.cls ∈ eTB ∧ mWord mX2_sumOfDistancesFromLeader ∈ eTB ∧ (yX2_sumOfDistancesFromLeader.cls ≠ "java/lang/invoke/MethodHandle" ∧ yX2_sumOfDistancesFromLeader.cls ≠ "java/lang/invoke/VarHandle") ∧ (parseMethodDescriptor yX2_sumOfDistancesFromLeader.desc).map (fun d => d.parameters.length) = some 0 := ⟨wd_1_2, wd_3_107, ⟨by decide +kernel, by decide +kernel⟩, by decide +kernel⟩
theorem ca_X2_hasTarget : Cond.initialized yX2_hasTarget.cls ∈ eTB ∧ mWord mX2_hasTarget ∈ eTB ∧ (yX2_hasTarget.cls ≠ "java/lang/invoke/MethodHandle" ∧ yX2_hasTarget.cls ≠ "java/lang/invoke/VarHandle") ∧ (parseMethodDescriptor yX2_hasTarget.desc).map (fun d => d.parameters.length) = some 0 := ⟨wd_1_2, wd_4_207, ⟨by decide +kernel, by decide +kernel⟩, by decide +kernel⟩
theorem ca_X2_leaderIsOnTarget : Cond.initialized yX2_leaderIsOnTarget.cls ∈ eTB ∧ mWord mX2_leaderIsOnTarget ∈ eTB ∧ (yX2_leaderIsOnTarget.cls ≠ "java/lang/invoke/MethodHandle" ∧ yX2_leaderIsOnTarget.cls ≠ "java/lang/invoke/VarHandle") ∧ (parseMethodDescriptor yX2_leaderIsOnTarget.desc).map (fun d => d.parameters.length) = some 0 := ⟨wd_1_2, wd_4_211, ⟨by decide +kernel, by decide +kernel⟩, by decide +kernel⟩
theorem ca_X2_leaderByFormula : Cond.initialized yX2_leaderByFormula.cls ∈ eTB ∧ mWord mX2_leaderByFormula ∈ eTB ∧ (yX2_leaderByFormula.cls ≠ "java/lang/invoke/MethodHandle" ∧ yX2_leaderByFormula.cls ≠ "java/lang/invoke/VarHandle") ∧ (parseMethodDescriptor yX2_leaderByFormula.desc).map (fun d => d.parameters.length) = some 1 := ⟨wd_1_2, wd_3_138, ⟨by decide +kernel, by decide +kernel⟩, by decide +kernel⟩
theorem ca_X2_leaderByCounting : Cond.initialized yX2_leaderByCounting.cls ∈ eTB ∧ mWord mX2_leaderByCounting ∈ eTB ∧ (yX2_leaderByCounting.cls ≠ "java/lang/invoke/MethodHandle" ∧ yX2_leaderByCounting.cls ≠ "java/lang/invoke/VarHandle") ∧ (parseMethodDescriptor yX2_leaderByCounting.desc).map (fun d => d.parameters.length) = some 1 := ⟨wd_1_2, wd_3_142, ⟨by decide +kernel, by decide +kernel⟩, by decide +kernel⟩
theorem ca_X2_sumOfMoves : Cond.initialized yX2_sumOfMoves.cls ∈ eTB ∧ mWord mX2_sumOfMoves ∈ eTB ∧ (yX2_sumOfMoves.cls ≠ "java/lang/invoke/MethodHandle" ∧ yX2_sumOfMoves.cls ≠ "java/lang/invoke/VarHandle") ∧ (parseMethodDescriptor yX2_sumOfMoves.desc).map (fun d => d.parameters.length) = some 0 := ⟨wd_1_2, wd_2_198, ⟨by decide +kernel, by decide +kernel⟩, by decide +kernel⟩
theorem ca_X2_linked : Cond.initialized yX2_linked.cls ∈ eTB ∧ mWord mX2_linked ∈ eTB ∧ (yX2_linked.cls ≠ "java/lang/invoke/MethodHandle" ∧ yX2_linked.cls ≠ "java/lang/invoke/VarHandle") ∧ (parseMethodDescriptor yX2_linked.desc).map (fun d => d.parameters.length) = some 2 := ⟨wd_1_2, wd_2_218, ⟨by decide +kernel, by decide +kernel⟩, by decide +kernel⟩
theorem ca_X2_linkedPairs : Cond.initialized yX2_linkedPairs.cls ∈ eTB ∧ mWord mX2_linkedPairs ∈ eTB ∧ (yX2_linkedPairs.cls ≠ "java/lang/invoke/MethodHandle" ∧ yX2_linkedPairs.cls ≠ "java/lang/invoke/VarHandle") ∧ (parseMethodDescriptor yX2_linkedPairs.desc).map (fun d => d.parameters.length) = some 0 := ⟨wd_1_2, wd_3_36, ⟨by decide +kernel, by decide +kernel⟩, by decide +kernel⟩
theorem ca_X2_mixedByComparing : Cond.initialized yX2_mixedByComparing.cls ∈ eTB ∧ mWord mX2_mixedByComparing ∈ eTB ∧ (yX2_mixedByComparing.cls ≠ "java/lang/invoke/MethodHandle" ∧ yX2_mixedByComparing.cls ≠ "java/lang/invoke/VarHandle") ∧ (parseMethodDescriptor yX2_mixedByComparing.desc).map (fun d => d.parameters.length) = some 0 := ⟨wd_1_2, wd_3_23, ⟨by decide +kernel, by decide +kernel⟩, by decide +kernel⟩
theorem ca_X2_mixedByHandles : Cond.initialized yX2_mixedByHandles.cls ∈ eTB ∧ mWord mX2_mixedByHandles ∈ eTB ∧ (yX2_mixedByHandles.cls ≠ "java/lang/invoke/MethodHandle" ∧ yX2_mixedByHandles.cls ≠ "java/lang/invoke/VarHandle") ∧ (parseMethodDescriptor yX2_mixedByHandles.desc).map (fun d => d.parameters.length) = some 0 := ⟨wd_1_2, wd_3_32, ⟨by decide +kernel, by decide +kernel⟩, by decide +kernel⟩
theorem ca_X2_linkedPairsOfHandle : Cond.initialized yX2_linkedPairsOfHandle.cls ∈ eTB ∧ mWord mX2_linkedPairsOfHandle ∈ eTB ∧ (yX2_linkedPairsOfHandle.cls ≠ "java/lang/invoke/MethodHandle" ∧ yX2_linkedPairsOfHandle.cls ≠ "java/lang/invoke/VarHandle") ∧ (parseMethodDescriptor yX2_linkedPairsOfHandle.desc).map (fun d => d.parameters.length) = some 1 := ⟨wd_1_2, wd_3_40, ⟨by decide +kernel, by decide +kernel⟩, by decide +kernel⟩
theorem ca_X2_stepsSincePresentShape : Cond.initialized yX2_stepsSincePresentShape.cls ∈ eTB ∧ mWord mX2_stepsSincePresentShape ∈ eTB ∧ (yX2_stepsSincePresentShape.cls ≠ "java/lang/invoke/MethodHandle" ∧ yX2_stepsSincePresentShape.cls ≠ "java/lang/invoke/VarHandle") ∧ (parseMethodDescriptor yX2_stepsSincePresentShape.desc).map (fun d => d.parameters.length) = some 0 := ⟨wd_1_2, wd_3_210, ⟨by decide +kernel, by decide +kernel⟩, by decide +kernel⟩
theorem ca_X2_drawPresentShape : Cond.initialized yX2_drawPresentShape.cls ∈ eTB ∧ mWord mX2_drawPresentShape ∈ eTB ∧ (yX2_drawPresentShape.cls ≠ "java/lang/invoke/MethodHandle" ∧ yX2_drawPresentShape.cls ≠ "java/lang/invoke/VarHandle") ∧ (parseMethodDescriptor yX2_drawPresentShape.desc).map (fun d => d.parameters.length) = some 0 := ⟨wd_1_2, wd_3_214, ⟨by decide +kernel, by decide +kernel⟩, by decide +kernel⟩
theorem ca_X3_init : Cond.initialized yX3_init.cls ∈ eTB ∧ mWord mX3_init ∈ eTB ∧ (yX3_init.cls ≠ "java/lang/invoke/MethodHandle" ∧ yX3_init.cls ≠ "java/lang/invoke/VarHandle") ∧ (parseMethodDescriptor yX3_init.desc).map (fun d => d.parameters.length) = some 0 := ⟨wd_1_6, wd_1_161, ⟨by decide +kernel, by decide +kernel⟩, by decide +kernel⟩
theorem ca_X3_countByGoing : Cond.initialized yX3_countByGoing.cls ∈ eTB ∧ mWord mX3_countByGoing ∈ eTB ∧ (yX3_countByGoing.cls ≠ "java/lang/invoke/MethodHandle" ∧ yX3_countByGoing.cls ≠ "java/lang/invoke/VarHandle") ∧ (parseMethodDescriptor yX3_countByGoing.desc).map (fun d => d.parameters.length) = some 1 := ⟨wd_1_6, wd_2_206, ⟨by decide +kernel, by decide +kernel⟩, by decide +kernel⟩
theorem ca_X3_lowestWith : Cond.initialized yX3_lowestWith.cls ∈ eTB ∧ mWord mX3_lowestWith ∈ eTB ∧ (yX3_lowestWith.cls ≠ "java/lang/invoke/MethodHandle" ∧ yX3_lowestWith.cls ≠ "java/lang/invoke/VarHandle") ∧ (parseMethodDescriptor yX3_lowestWith.desc).map (fun d => d.parameters.length) = some 2 := ⟨wd_1_6, wd_3_14, ⟨by decide +kernel, by decide +kernel⟩, by decide +kernel⟩
theorem ca_X3_largest : Cond.initialized yX3_largest.cls ∈ eTB ∧ mWord mX3_largest ∈ eTB ∧ (yX3_largest.cls ≠ "java/lang/invoke/MethodHandle" ∧ yX3_largest.cls ≠ "java/lang/invoke/VarHandle") ∧ (parseMethodDescriptor yX3_largest.desc).map (fun d => d.parameters.length) = some 1 := ⟨wd_1_6, wd_2_239, ⟨by decide +kernel, by decide +kernel⟩, by decide +kernel⟩
theorem ca_X3_sizeOfGroup : Cond.initialized yX3_sizeOfGroup.cls ∈ eTB ∧ mWord mX3_sizeOfGroup ∈ eTB ∧ (yX3_sizeOfGroup.cls ≠ "java/lang/invoke/MethodHandle" ∧ yX3_sizeOfGroup.cls ≠ "java/lang/invoke/VarHandle") ∧ (parseMethodDescriptor yX3_sizeOfGroup.desc).map (fun d => d.parameters.length) = some 2 := ⟨wd_1_6, wd_3_3, ⟨by decide +kernel, by decide +kernel⟩, by decide +kernel⟩
theorem ca_X3_goThrough : Cond.initialized yX3_goThrough.cls ∈ eTB ∧ mWord mX3_goThrough ∈ eTB ∧ (yX3_goThrough.cls ≠ "java/lang/invoke/MethodHandle" ∧ yX3_goThrough.cls ≠ "java/lang/invoke/VarHandle") ∧ (parseMethodDescriptor yX3_goThrough.desc).map (fun d => d.parameters.length) = some 1 := ⟨wd_1_6, wd_2_210, ⟨by decide +kernel, by decide +kernel⟩, by decide +kernel⟩
theorem ca_X3_goFrom : Cond.initialized yX3_goFrom.cls ∈ eTB ∧ mWord mX3_goFrom ∈ eTB ∧ (yX3_goFrom.cls ≠ "java/lang/invoke/MethodHandle" ∧ yX3_goFrom.cls ≠ "java/lang/invoke/VarHandle") ∧ (parseMethodDescriptor yX3_goFrom.desc).map (fun d => d.parameters.length) = some 2 := ⟨wd_1_6, wd_2_214, ⟨by decide +kernel, by decide +kernel⟩, by decide +kernel⟩
theorem ca_X3_countByMerging : Cond.initialized yX3_countByMerging.cls ∈ eTB ∧ mWord mX3_countByMerging ∈ eTB ∧ (yX3_countByMerging.cls ≠ "java/lang/invoke/MethodHandle" ∧ yX3_countByMerging.cls ≠ "java/lang/invoke/VarHandle") ∧ (parseMethodDescriptor yX3_countByMerging.desc).map (fun d => d.parameters.length) = some 1 := ⟨wd_1_6, wd_2_227, ⟨by decide +kernel, by decide +kernel⟩, by decide +kernel⟩
theorem ca_X3_merge : Cond.initialized yX3_merge.cls ∈ eTB ∧ mWord mX3_merge ∈ eTB ∧ (yX3_merge.cls ≠ "java/lang/invoke/MethodHandle" ∧ yX3_merge.cls ≠ "java/lang/invoke/VarHandle") ∧ (parseMethodDescriptor yX3_merge.desc).map (fun d => d.parameters.length) = some 3 := ⟨wd_1_6, wd_2_231, ⟨by decide +kernel, by decide +kernel⟩, by decide +kernel⟩
theorem ca_X4_init : Cond.initialized yX4_init.cls ∈ eTB ∧ mWord mX4_init ∈ eTB ∧ (yX4_init.cls ≠ "java/lang/invoke/MethodHandle" ∧ yX4_init.cls ≠ "java/lang/invoke/VarHandle") ∧ (parseMethodDescriptor yX4_init.desc).map (fun d => d.parameters.length) = some 0 := ⟨wd_1_5, wd_1_142, ⟨by decide +kernel, by decide +kernel⟩, by decide +kernel⟩
theorem ca_X4_push : Cond.initialized yX4_push.cls ∈ eTB ∧ mWord mX4_push ∈ eTB ∧ (yX4_push.cls ≠ "java/lang/invoke/MethodHandle" ∧ yX4_push.cls ≠ "java/lang/invoke/VarHandle") ∧ (parseMethodDescriptor yX4_push.desc).map (fun d => d.parameters.length) = some 1 := ⟨wd_1_5, wd_4_85, ⟨by decide +kernel, by decide +kernel⟩, by decide +kernel⟩
theorem ca_X5_init : Cond.initialized yX5_init.cls ∈ eTB ∧ mWord mX5_init ∈ eTB ∧ (yX5_init.cls ≠ "java/lang/invoke/MethodHandle" ∧ yX5_init.cls ≠ "java/lang/invoke/VarHandle") ∧ (parseMethodDescriptor yX5_init.desc).map (fun d => d.parameters.length) = some 0 := ⟨wd_1_4, wd_1_64, ⟨by decide +kernel, by decide +kernel⟩, by decide +kernel⟩
theorem ca_X5_remember : Cond.initialized yX5_remember.cls ∈ eTB ∧ mWord mX5_remember ∈ eTB ∧ (yX5_remember.cls ≠ "java/lang/invoke/MethodHandle" ∧ yX5_remember.cls ≠ "java/lang/invoke/VarHandle") ∧ (parseMethodDescriptor yX5_remember.desc).map (fun d => d.parameters.length) = some 1 := ⟨wd_1_4, wd_4_230, ⟨by decide +kernel, by decide +kernel⟩, by decide +kernel⟩
theorem ca_X5_stepsSince : Cond.initialized yX5_stepsSince.cls ∈ eTB ∧ mWord mX5_stepsSince ∈ eTB ∧ (yX5_stepsSince.cls ≠ "java/lang/invoke/MethodHandle" ∧ yX5_stepsSince.cls ≠ "java/lang/invoke/VarHandle") ∧ (parseMethodDescriptor yX5_stepsSince.desc).map (fun d => d.parameters.length) = some 1 := ⟨wd_1_4, wd_3_221, ⟨by decide +kernel, by decide +kernel⟩, by decide +kernel⟩
theorem ca_X5_countDifferent : Cond.initialized yX5_countDifferent.cls ∈ eTB ∧ mWord mX5_countDifferent ∈ eTB ∧ (yX5_countDifferent.cls ≠ "java/lang/invoke/MethodHandle" ∧ yX5_countDifferent.cls ≠ "java/lang/invoke/VarHandle") ∧ (parseMethodDescriptor yX5_countDifferent.desc).map (fun d => d.parameters.length) = some 0 := ⟨wd_1_4, wd_3_52, ⟨by decide +kernel, by decide +kernel⟩, by decide +kernel⟩
theorem ca_X5_standsBefore : Cond.initialized yX5_standsBefore.cls ∈ eTB ∧ mWord mX5_standsBefore ∈ eTB ∧ (yX5_standsBefore.cls ≠ "java/lang/invoke/MethodHandle" ∧ yX5_standsBefore.cls ≠ "java/lang/invoke/VarHandle") ∧ (parseMethodDescriptor yX5_standsBefore.desc).map (fun d => d.parameters.length) = some 1 := ⟨wd_1_4, wd_3_56, ⟨by decide +kernel, by decide +kernel⟩, by decide +kernel⟩
theorem ca_X5_holds : Cond.initialized yX5_holds.cls ∈ eTB ∧ mWord mX5_holds ∈ eTB ∧ (yX5_holds.cls ≠ "java/lang/invoke/MethodHandle" ∧ yX5_holds.cls ≠ "java/lang/invoke/VarHandle") ∧ (parseMethodDescriptor yX5_holds.desc).map (fun d => d.parameters.length) = some 3 := ⟨wd_1_4, wd_3_60, ⟨by decide +kernel, by decide +kernel⟩, by decide +kernel⟩
theorem ca_X5_copyFrom : Cond.initialized yX5_copyFrom.cls ∈ eTB ∧ mWord mX5_copyFrom ∈ eTB ∧ (yX5_copyFrom.cls ≠ "java/lang/invoke/MethodHandle" ∧ yX5_copyFrom.cls ≠ "java/lang/invoke/VarHandle") ∧ (parseMethodDescriptor yX5_copyFrom.desc).map (fun d => d.parameters.length) = some 1 := ⟨wd_1_4, wd_4_101, ⟨by decide +kernel, by decide +kernel⟩, by decide +kernel⟩
theorem ca_X6_init : Cond.initialized yX6_init.cls ∈ eTB ∧ mWord mX6_init ∈ eTB ∧ (yX6_init.cls ≠ "java/lang/invoke/MethodHandle" ∧ yX6_init.cls ≠ "java/lang/invoke/VarHandle") ∧ (parseMethodDescriptor yX6_init.desc).map (fun d => d.parameters.length) = some 0 := ⟨wd_1_1, wd_1_34, ⟨by decide +kernel, by decide +kernel⟩, by decide +kernel⟩
theorem ca_X6_addBasket : Cond.initialized yX6_addBasket.cls ∈ eTB ∧ mWord mX6_addBasket ∈ eTB ∧ (yX6_addBasket.cls ≠ "java/lang/invoke/MethodHandle" ∧ yX6_addBasket.cls ≠ "java/lang/invoke/VarHandle") ∧ (parseMethodDescriptor yX6_addBasket.desc).map (fun d => d.parameters.length) = some 3 := ⟨wd_1_1, wd_4_3, ⟨by decide +kernel, by decide +kernel⟩, by decide +kernel⟩
theorem ca_X6_jump : Cond.initialized yX6_jump.cls ∈ eTB ∧ mWord mX6_jump ∈ eTB ∧ (yX6_jump.cls ≠ "java/lang/invoke/MethodHandle" ∧ yX6_jump.cls ≠ "java/lang/invoke/VarHandle") ∧ (parseMethodDescriptor yX6_jump.desc).map (fun d => d.parameters.length) = some 3 := ⟨wd_1_1, wd_4_140, ⟨by decide +kernel, by decide +kernel⟩, by decide +kernel⟩
theorem ca_X6_setHandle : Cond.initialized yX6_setHandle.cls ∈ eTB ∧ mWord mX6_setHandle ∈ eTB ∧ (yX6_setHandle.cls ≠ "java/lang/invoke/MethodHandle" ∧ yX6_setHandle.cls ≠ "java/lang/invoke/VarHandle") ∧ (parseMethodDescriptor yX6_setHandle.desc).map (fun d => d.parameters.length) = some 2 := ⟨wd_1_1, wd_4_151, ⟨by decide +kernel, by decide +kernel⟩, by decide +kernel⟩
theorem ca_X6_basketCount : Cond.initialized yX6_basketCount.cls ∈ eTB ∧ mWord mX6_basketCount ∈ eTB ∧ (yX6_basketCount.cls ≠ "java/lang/invoke/MethodHandle" ∧ yX6_basketCount.cls ≠ "java/lang/invoke/VarHandle") ∧ (parseMethodDescriptor yX6_basketCount.desc).map (fun d => d.parameters.length) = some 0 := ⟨wd_1_1, wd_2_1, ⟨by decide +kernel, by decide +kernel⟩, by decide +kernel⟩
theorem ca_X6_xOf : Cond.initialized yX6_xOf.cls ∈ eTB ∧ mWord mX6_xOf ∈ eTB ∧ (yX6_xOf.cls ≠ "java/lang/invoke/MethodHandle" ∧ yX6_xOf.cls ≠ "java/lang/invoke/VarHandle") ∧ (parseMethodDescriptor yX6_xOf.desc).map (fun d => d.parameters.length) = some 1 := ⟨wd_1_1, wd_2_5, ⟨by decide +kernel, by decide +kernel⟩, by decide +kernel⟩
theorem ca_X6_yOf : Cond.initialized yX6_yOf.cls ∈ eTB ∧ mWord mX6_yOf ∈ eTB ∧ (yX6_yOf.cls ≠ "java/lang/invoke/MethodHandle" ∧ yX6_yOf.cls ≠ "java/lang/invoke/VarHandle") ∧ (parseMethodDescriptor yX6_yOf.desc).map (fun d => d.parameters.length) = some 1 := ⟨wd_1_1, wd_2_89, ⟨by decide +kernel, by decide +kernel⟩, by decide +kernel⟩
theorem ca_X6_handleOf : Cond.initialized yX6_handleOf.cls ∈ eTB ∧ mWord mX6_handleOf ∈ eTB ∧ (yX6_handleOf.cls ≠ "java/lang/invoke/MethodHandle" ∧ yX6_handleOf.cls ≠ "java/lang/invoke/VarHandle") ∧ (parseMethodDescriptor yX6_handleOf.desc).map (fun d => d.parameters.length) = some 1 := ⟨wd_1_1, wd_2_93, ⟨by decide +kernel, by decide +kernel⟩, by decide +kernel⟩
theorem ca_X6_basketAt : Cond.initialized yX6_basketAt.cls ∈ eTB ∧ mWord mX6_basketAt ∈ eTB ∧ (yX6_basketAt.cls ≠ "java/lang/invoke/MethodHandle" ∧ yX6_basketAt.cls ≠ "java/lang/invoke/VarHandle") ∧ (parseMethodDescriptor yX6_basketAt.desc).map (fun d => d.parameters.length) = some 2 := ⟨wd_1_1, wd_2_97, ⟨by decide +kernel, by decide +kernel⟩, by decide +kernel⟩
theorem ca_X6_distance : Cond.initialized yX6_distance.cls ∈ eTB ∧ mWord mX6_distance ∈ eTB ∧ (yX6_distance.cls ≠ "java/lang/invoke/MethodHandle" ∧ yX6_distance.cls ≠ "java/lang/invoke/VarHandle") ∧ (parseMethodDescriptor yX6_distance.desc).map (fun d => d.parameters.length) = some 2 := ⟨wd_1_1, wd_2_144, ⟨by decide +kernel, by decide +kernel⟩, by decide +kernel⟩
theorem ca_X6_nearestTo : Cond.initialized yX6_nearestTo.cls ∈ eTB ∧ mWord mX6_nearestTo ∈ eTB ∧ (yX6_nearestTo.cls ≠ "java/lang/invoke/MethodHandle" ∧ yX6_nearestTo.cls ≠ "java/lang/invoke/VarHandle") ∧ (parseMethodDescriptor yX6_nearestTo.desc).map (fun d => d.parameters.length) = some 1 := ⟨wd_1_1, wd_3_175, ⟨by decide +kernel, by decide +kernel⟩, by decide +kernel⟩
theorem ca_X6_addCloud : Cond.initialized yX6_addCloud.cls ∈ eTB ∧ mWord mX6_addCloud ∈ eTB ∧ (yX6_addCloud.cls ≠ "java/lang/invoke/MethodHandle" ∧ yX6_addCloud.cls ≠ "java/lang/invoke/VarHandle") ∧ (parseMethodDescriptor yX6_addCloud.desc).map (fun d => d.parameters.length) = some 2 := ⟨wd_1_1, wd_4_114, ⟨by decide +kernel, by decide +kernel⟩, by decide +kernel⟩
theorem ca_X6_removeCloud : Cond.initialized yX6_removeCloud.cls ∈ eTB ∧ mWord mX6_removeCloud ∈ eTB ∧ (yX6_removeCloud.cls ≠ "java/lang/invoke/MethodHandle" ∧ yX6_removeCloud.cls ≠ "java/lang/invoke/VarHandle") ∧ (parseMethodDescriptor yX6_removeCloud.desc).map (fun d => d.parameters.length) = some 2 := ⟨wd_1_1, wd_4_162, ⟨by decide +kernel, by decide +kernel⟩, by decide +kernel⟩
theorem ca_X6_isCloud : Cond.initialized yX6_isCloud.cls ∈ eTB ∧ mWord mX6_isCloud ∈ eTB ∧ (yX6_isCloud.cls ≠ "java/lang/invoke/MethodHandle" ∧ yX6_isCloud.cls ≠ "java/lang/invoke/VarHandle") ∧ (parseMethodDescriptor yX6_isCloud.desc).map (fun d => d.parameters.length) = some 2 := ⟨wd_1_1, wd_2_160, ⟨by decide +kernel, by decide +kernel⟩, by decide +kernel⟩
theorem ca_X6_cloudCount : Cond.initialized yX6_cloudCount.cls ∈ eTB ∧ mWord mX6_cloudCount ∈ eTB ∧ (yX6_cloudCount.cls ≠ "java/lang/invoke/MethodHandle" ∧ yX6_cloudCount.cls ≠ "java/lang/invoke/VarHandle") ∧ (parseMethodDescriptor yX6_cloudCount.desc).map (fun d => d.parameters.length) = some 0 := ⟨wd_1_1, wd_2_169, ⟨by decide +kernel, by decide +kernel⟩, by decide +kernel⟩
theorem ca_X6_setTurnLength : Cond.initialized yX6_setTurnLength.cls ∈ eTB ∧ mWord mX6_setTurnLength ∈ eTB ∧ (yX6_setTurnLength.cls ≠ "java/lang/invoke/MethodHandle" ∧ yX6_setTurnLength.cls ≠ "java/lang/invoke/VarHandle") ∧ (parseMethodDescriptor yX6_setTurnLength.desc).map (fun d => d.parameters.length) = some 1 := ⟨wd_1_1, wd_4_173, ⟨by decide +kernel, by decide +kernel⟩, by decide +kernel⟩
theorem ca_X6_leader : Cond.initialized yX6_leader.cls ∈ eTB ∧ mWord mX6_leader ∈ eTB ∧ (yX6_leader.cls ≠ "java/lang/invoke/MethodHandle" ∧ yX6_leader.cls ≠ "java/lang/invoke/VarHandle") ∧ (parseMethodDescriptor yX6_leader.desc).map (fun d => d.parameters.length) = some 0 := ⟨wd_1_1, wd_2_173, ⟨by decide +kernel, by decide +kernel⟩, by decide +kernel⟩
theorem ca_X6_leaderAfter : Cond.initialized yX6_leaderAfter.cls ∈ eTB ∧ mWord mX6_leaderAfter ∈ eTB ∧ (yX6_leaderAfter.cls ≠ "java/lang/invoke/MethodHandle" ∧ yX6_leaderAfter.cls ≠ "java/lang/invoke/VarHandle") ∧ (parseMethodDescriptor yX6_leaderAfter.desc).map (fun d => d.parameters.length) = some 1 := ⟨wd_1_1, wd_3_187, ⟨by decide +kernel, by decide +kernel⟩, by decide +kernel⟩
theorem ca_X6_leaderAfterByCounting : Cond.initialized yX6_leaderAfterByCounting.cls ∈ eTB ∧ mWord mX6_leaderAfterByCounting ∈ eTB ∧ (yX6_leaderAfterByCounting.cls ≠ "java/lang/invoke/MethodHandle" ∧ yX6_leaderAfterByCounting.cls ≠ "java/lang/invoke/VarHandle") ∧ (parseMethodDescriptor yX6_leaderAfterByCounting.desc).map (fun d => d.parameters.length) = some 1 := ⟨wd_1_1, wd_3_199, ⟨by decide +kernel, by decide +kernel⟩, by decide +kernel⟩
theorem ca_X6_setTarget : Cond.initialized yX6_setTarget.cls ∈ eTB ∧ mWord mX6_setTarget ∈ eTB ∧ (yX6_setTarget.cls ≠ "java/lang/invoke/MethodHandle" ∧ yX6_setTarget.cls ≠ "java/lang/invoke/VarHandle") ∧ (parseMethodDescriptor yX6_setTarget.desc).map (fun d => d.parameters.length) = some 2 := ⟨wd_1_1, wd_4_126, ⟨by decide +kernel, by decide +kernel⟩, by decide +kernel⟩
theorem ca_X6_setKeep : Cond.initialized yX6_setKeep.cls ∈ eTB ∧ mWord mX6_setKeep ∈ eTB ∧ (yX6_setKeep.cls ≠ "java/lang/invoke/MethodHandle" ∧ yX6_setKeep.cls ≠ "java/lang/invoke/VarHandle") ∧ (parseMethodDescriptor yX6_setKeep.desc).map (fun d => d.parameters.length) = some 1 := ⟨wd_1_1, wd_4_184, ⟨by decide +kernel, by decide +kernel⟩, by decide +kernel⟩
theorem ca_X6_keep : Cond.initialized yX6_keep.cls ∈ eTB ∧ mWord mX6_keep ∈ eTB ∧ (yX6_keep.cls ≠ "java/lang/invoke/MethodHandle" ∧ yX6_keep.cls ≠ "java/lang/invoke/VarHandle") ∧ (parseMethodDescriptor yX6_keep.desc).map (fun d => d.parameters.length) = some 0 := ⟨wd_1_1, wd_2_182, ⟨by decide +kernel, by decide +kernel⟩, by decide +kernel⟩
theorem ca_X6_advance : Cond.initialized yX6_advance.cls ∈ eTB ∧ mWord mX6_advance ∈ eTB ∧ (yX6_advance.cls ≠ "java/lang/invoke/MethodHandle" ∧ yX6_advance.cls ≠ "java/lang/invoke/VarHandle") ∧ (parseMethodDescriptor yX6_advance.desc).map (fun d => d.parameters.length) = some 1 := ⟨wd_1_1, wd_4_195, ⟨by decide +kernel, by decide +kernel⟩, by decide +kernel⟩
theorem ca_X6_stepCount : Cond.initialized yX6_stepCount.cls ∈ eTB ∧ mWord mX6_stepCount ∈ eTB ∧ (yX6_stepCount.cls ≠ "java/lang/invoke/MethodHandle" ∧ yX6_stepCount.cls ≠ "java/lang/invoke/VarHandle") ∧ (parseMethodDescriptor yX6_stepCount.desc).map (fun d => d.parameters.length) = some 0 := ⟨wd_1_1, wd_2_186, ⟨by decide +kernel, by decide +kernel⟩, by decide +kernel⟩
theorem ca_X6_movesOf : Cond.initialized yX6_movesOf.cls ∈ eTB ∧ mWord mX6_movesOf ∈ eTB ∧ (yX6_movesOf.cls ≠ "java/lang/invoke/MethodHandle" ∧ yX6_movesOf.cls ≠ "java/lang/invoke/VarHandle") ∧ (parseMethodDescriptor yX6_movesOf.desc).map (fun d => d.parameters.length) = some 1 := ⟨wd_1_1, wd_2_190, ⟨by decide +kernel, by decide +kernel⟩, by decide +kernel⟩
theorem ca_X6_moveTotal : Cond.initialized yX6_moveTotal.cls ∈ eTB ∧ mWord mX6_moveTotal ∈ eTB ∧ (yX6_moveTotal.cls ≠ "java/lang/invoke/MethodHandle" ∧ yX6_moveTotal.cls ≠ "java/lang/invoke/VarHandle") ∧ (parseMethodDescriptor yX6_moveTotal.desc).map (fun d => d.parameters.length) = some 0 := ⟨wd_1_1, wd_2_194, ⟨by decide +kernel, by decide +kernel⟩, by decide +kernel⟩
theorem ca_X6_formationCount : Cond.initialized yX6_formationCount.cls ∈ eTB ∧ mWord mX6_formationCount ∈ eTB ∧ (yX6_formationCount.cls ≠ "java/lang/invoke/MethodHandle" ∧ yX6_formationCount.cls ≠ "java/lang/invoke/VarHandle") ∧ (parseMethodDescriptor yX6_formationCount.desc).map (fun d => d.parameters.length) = some 0 := ⟨wd_1_1, wd_2_202, ⟨by decide +kernel, by decide +kernel⟩, by decide +kernel⟩
theorem ca_X6_formationCountByMerging : Cond.initialized yX6_formationCountByMerging.cls ∈ eTB ∧ mWord mX6_formationCountByMerging ∈ eTB ∧ (yX6_formationCountByMerging.cls ≠ "java/lang/invoke/MethodHandle" ∧ yX6_formationCountByMerging.cls ≠ "java/lang/invoke/VarHandle") ∧ (parseMethodDescriptor yX6_formationCountByMerging.desc).map (fun d => d.parameters.length) = some 0 := ⟨wd_1_1, wd_2_223, ⟨by decide +kernel, by decide +kernel⟩, by decide +kernel⟩
theorem ca_X6_largestFormation : Cond.initialized yX6_largestFormation.cls ∈ eTB ∧ mWord mX6_largestFormation ∈ eTB ∧ (yX6_largestFormation.cls ≠ "java/lang/invoke/MethodHandle" ∧ yX6_largestFormation.cls ≠ "java/lang/invoke/VarHandle") ∧ (parseMethodDescriptor yX6_largestFormation.desc).map (fun d => d.parameters.length) = some 0 := ⟨wd_1_1, wd_2_235, ⟨by decide +kernel, by decide +kernel⟩, by decide +kernel⟩
theorem ca_X6_formationOf : Cond.initialized yX6_formationOf.cls ∈ eTB ∧ mWord mX6_formationOf ∈ eTB ∧ (yX6_formationOf.cls ≠ "java/lang/invoke/MethodHandle" ∧ yX6_formationOf.cls ≠ "java/lang/invoke/VarHandle") ∧ (parseMethodDescriptor yX6_formationOf.desc).map (fun d => d.parameters.length) = some 1 := ⟨wd_1_1, wd_3_10, ⟨by decide +kernel, by decide +kernel⟩, by decide +kernel⟩
theorem ca_X6_mixedPairs : Cond.initialized yX6_mixedPairs.cls ∈ eTB ∧ mWord mX6_mixedPairs ∈ eTB ∧ (yX6_mixedPairs.cls ≠ "java/lang/invoke/MethodHandle" ∧ yX6_mixedPairs.cls ≠ "java/lang/invoke/VarHandle") ∧ (parseMethodDescriptor yX6_mixedPairs.desc).map (fun d => d.parameters.length) = some 0 := ⟨wd_1_1, wd_3_19, ⟨by decide +kernel, by decide +kernel⟩, by decide +kernel⟩
theorem ca_X6_mixedPairsByHandles : Cond.initialized yX6_mixedPairsByHandles.cls ∈ eTB ∧ mWord mX6_mixedPairsByHandles ∈ eTB ∧ (yX6_mixedPairsByHandles.cls ≠ "java/lang/invoke/MethodHandle" ∧ yX6_mixedPairsByHandles.cls ≠ "java/lang/invoke/VarHandle") ∧ (parseMethodDescriptor yX6_mixedPairsByHandles.desc).map (fun d => d.parameters.length) = some 0 := ⟨wd_1_1, wd_3_28, ⟨by decide +kernel, by decide +kernel⟩, by decide +kernel⟩
theorem ca_X6_shapeCount : Cond.initialized yX6_shapeCount.cls ∈ eTB ∧ mWord mX6_shapeCount ∈ eTB ∧ (yX6_shapeCount.cls ≠ "java/lang/invoke/MethodHandle" ∧ yX6_shapeCount.cls ≠ "java/lang/invoke/VarHandle") ∧ (parseMethodDescriptor yX6_shapeCount.desc).map (fun d => d.parameters.length) = some 0 := ⟨wd_1_1, wd_3_44, ⟨by decide +kernel, by decide +kernel⟩, by decide +kernel⟩
theorem ca_X6_differentShapes : Cond.initialized yX6_differentShapes.cls ∈ eTB ∧ mWord mX6_differentShapes ∈ eTB ∧ (yX6_differentShapes.cls ≠ "java/lang/invoke/MethodHandle" ∧ yX6_differentShapes.cls ≠ "java/lang/invoke/VarHandle") ∧ (parseMethodDescriptor yX6_differentShapes.desc).map (fun d => d.parameters.length) = some 0 := ⟨wd_1_1, wd_3_48, ⟨by decide +kernel, by decide +kernel⟩, by decide +kernel⟩
theorem ca_X6_stepsSinceShape : Cond.initialized yX6_stepsSinceShape.cls ∈ eTB ∧ mWord mX6_stepsSinceShape ∈ eTB ∧ (yX6_stepsSinceShape.cls ≠ "java/lang/invoke/MethodHandle" ∧ yX6_stepsSinceShape.cls ≠ "java/lang/invoke/VarHandle") ∧ (parseMethodDescriptor yX6_stepsSinceShape.desc).map (fun d => d.parameters.length) = some 0 := ⟨wd_1_1, wd_3_206, ⟨by decide +kernel, by decide +kernel⟩, by decide +kernel⟩
theorem ca_X6_basketAtRank : Cond.initialized yX6_basketAtRank.cls ∈ eTB ∧ mWord mX6_basketAtRank ∈ eTB ∧ (yX6_basketAtRank.cls ≠ "java/lang/invoke/MethodHandle" ∧ yX6_basketAtRank.cls ≠ "java/lang/invoke/VarHandle") ∧ (parseMethodDescriptor yX6_basketAtRank.desc).map (fun d => d.parameters.length) = some 1 := ⟨wd_1_1, wd_3_64, ⟨by decide +kernel, by decide +kernel⟩, by decide +kernel⟩
theorem ca_X6_describeRow : Cond.initialized yX6_describeRow.cls ∈ eTB ∧ mWord mX6_describeRow ∈ eTB ∧ (yX6_describeRow.cls ≠ "java/lang/invoke/MethodHandle" ∧ yX6_describeRow.cls ≠ "java/lang/invoke/VarHandle") ∧ (parseMethodDescriptor yX6_describeRow.desc).map (fun d => d.parameters.length) = some 1 := ⟨wd_1_1, wd_3_77, ⟨by decide +kernel, by decide +kernel⟩, by decide +kernel⟩
theorem ca_X6_lineAt : Cond.initialized yX6_lineAt.cls ∈ eTB ∧ mWord mX6_lineAt ∈ eTB ∧ (yX6_lineAt.cls ≠ "java/lang/invoke/MethodHandle" ∧ yX6_lineAt.cls ≠ "java/lang/invoke/VarHandle") ∧ (parseMethodDescriptor yX6_lineAt.desc).map (fun d => d.parameters.length) = some 1 := ⟨wd_1_1, wd_5_12, ⟨by decide +kernel, by decide +kernel⟩, by decide +kernel⟩
theorem ca_X6_meanDistance : Cond.initialized yX6_meanDistance.cls ∈ eTB ∧ mWord mX6_meanDistance ∈ eTB ∧ (yX6_meanDistance.cls ≠ "java/lang/invoke/MethodHandle" ∧ yX6_meanDistance.cls ≠ "java/lang/invoke/VarHandle") ∧ (parseMethodDescriptor yX6_meanDistance.desc).map (fun d => d.parameters.length) = some 0 := ⟨wd_1_1, wd_3_87, ⟨by decide +kernel, by decide +kernel⟩, by decide +kernel⟩
theorem ca_X6_mixedShare : Cond.initialized yX6_mixedShare.cls ∈ eTB ∧ mWord mX6_mixedShare ∈ eTB ∧ (yX6_mixedShare.cls ≠ "java/lang/invoke/MethodHandle" ∧ yX6_mixedShare.cls ≠ "java/lang/invoke/VarHandle") ∧ (parseMethodDescriptor yX6_mixedShare.desc).map (fun d => d.parameters.length) = some 0 := ⟨wd_1_1, wd_3_111, ⟨by decide +kernel, by decide +kernel⟩, by decide +kernel⟩
theorem ca_X6_isConsistent : Cond.initialized yX6_isConsistent.cls ∈ eTB ∧ mWord mX6_isConsistent ∈ eTB ∧ (yX6_isConsistent.cls ≠ "java/lang/invoke/MethodHandle" ∧ yX6_isConsistent.cls ≠ "java/lang/invoke/VarHandle") ∧ (parseMethodDescriptor yX6_isConsistent.desc).map (fun d => d.parameters.length) = some 0 := ⟨wd_1_1, wd_3_117, ⟨by decide +kernel, by decide +kernel⟩, by decide +kernel⟩
theorem ca_X6_prepare : Cond.initialized yX6_prepare.cls ∈ eTB ∧ mWord mX6_prepare ∈ eTB ∧ (yX6_prepare.cls ≠ "java/lang/invoke/MethodHandle" ∧ yX6_prepare.cls ≠ "java/lang/invoke/VarHandle") ∧ (parseMethodDescriptor yX6_prepare.desc).map (fun d => d.parameters.length) = some 4 := ⟨wd_1_1, wd_4_7, ⟨by decide +kernel, by decide +kernel⟩, by decide +kernel⟩
theorem ca_X6_hindranceIn : Cond.initialized yX6_hindranceIn.cls ∈ eTB ∧ mWord mX6_hindranceIn ∈ eTB ∧ (yX6_hindranceIn.cls ≠ "java/lang/invoke/MethodHandle" ∧ yX6_hindranceIn.cls ≠ "java/lang/invoke/VarHandle") ∧ (parseMethodDescriptor yX6_hindranceIn.desc).map (fun d => d.parameters.length) = some 5 := ⟨wd_1_1, wd_4_11, ⟨by decide +kernel, by decide +kernel⟩, by decide +kernel⟩
theorem ca_X6_keepRefusal : Cond.initialized yX6_keepRefusal.cls ∈ eTB ∧ mWord mX6_keepRefusal ∈ eTB ∧ (yX6_keepRefusal.cls ≠ "java/lang/invoke/MethodHandle" ∧ yX6_keepRefusal.cls ≠ "java/lang/invoke/VarHandle") ∧ (parseMethodDescriptor yX6_keepRefusal.desc).map (fun d => d.parameters.length) = some 5 := ⟨wd_1_1, wd_4_42, ⟨by decide +kernel, by decide +kernel⟩, by decide +kernel⟩
theorem ca_X6_throwFor : Cond.initialized yX6_throwFor.cls ∈ eTB ∧ mWord mX6_throwFor ∈ eTB ∧ (yX6_throwFor.cls ≠ "java/lang/invoke/MethodHandle" ∧ yX6_throwFor.cls ≠ "java/lang/invoke/VarHandle") ∧ (parseMethodDescriptor yX6_throwFor.desc).map (fun d => d.parameters.length) = some 1 := ⟨wd_1_1, wd_4_46, ⟨by decide +kernel, by decide +kernel⟩, by decide +kernel⟩
theorem ca_X6_demandBasket : Cond.initialized yX6_demandBasket.cls ∈ eTB ∧ mWord mX6_demandBasket ∈ eTB ∧ (yX6_demandBasket.cls ≠ "java/lang/invoke/MethodHandle" ∧ yX6_demandBasket.cls ≠ "java/lang/invoke/VarHandle") ∧ (parseMethodDescriptor yX6_demandBasket.desc).map (fun d => d.parameters.length) = some 1 := ⟨wd_1_1, wd_2_9, ⟨by decide +kernel, by decide +kernel⟩, by decide +kernel⟩
theorem ca_X6_demandAnyBasket : Cond.initialized yX6_demandAnyBasket.cls ∈ eTB ∧ mWord mX6_demandAnyBasket ∈ eTB ∧ (yX6_demandAnyBasket.cls ≠ "java/lang/invoke/MethodHandle" ∧ yX6_demandAnyBasket.cls ≠ "java/lang/invoke/VarHandle") ∧ (parseMethodDescriptor yX6_demandAnyBasket.desc).map (fun d => d.parameters.length) = some 0 := ⟨wd_1_1, wd_2_177, ⟨by decide +kernel, by decide +kernel⟩, by decide +kernel⟩
theorem ca_X6_demandCell : Cond.initialized yX6_demandCell.cls ∈ eTB ∧ mWord mX6_demandCell ∈ eTB ∧ (yX6_demandCell.cls ≠ "java/lang/invoke/MethodHandle" ∧ yX6_demandCell.cls ≠ "java/lang/invoke/VarHandle") ∧ (parseMethodDescriptor yX6_demandCell.desc).map (fun d => d.parameters.length) = some 2 := ⟨wd_1_1, wd_2_101, ⟨by decide +kernel, by decide +kernel⟩, by decide +kernel⟩
theorem ca_X6_demandStepsAhead : Cond.initialized yX6_demandStepsAhead.cls ∈ eTB ∧ mWord mX6_demandStepsAhead ∈ eTB ∧ (yX6_demandStepsAhead.cls ≠ "java/lang/invoke/MethodHandle" ∧ yX6_demandStepsAhead.cls ≠ "java/lang/invoke/VarHandle") ∧ (parseMethodDescriptor yX6_demandStepsAhead.desc).map (fun d => d.parameters.length) = some 1 := ⟨wd_1_1, wd_3_191, ⟨by decide +kernel, by decide +kernel⟩, by decide +kernel⟩
theorem ca_X6_leadersAgree : Cond.initialized yX6_leadersAgree.cls ∈ eTB ∧ mWord mX6_leadersAgree ∈ eTB ∧ (yX6_leadersAgree.cls ≠ "java/lang/invoke/MethodHandle" ∧ yX6_leadersAgree.cls ≠ "java/lang/invoke/VarHandle") ∧ (parseMethodDescriptor yX6_leadersAgree.desc).map (fun d => d.parameters.length) = some 0 := ⟨wd_1_1, wd_3_134, ⟨by decide +kernel, by decide +kernel⟩, by decide +kernel⟩
theorem ca_J5_init_d00df : Cond.initialized yJ5_init_d00df.cls ∈ eTB ∧ mWord mJ5_init_d00df ∈ eTB ∧ (yJ5_init_d00df.cls ≠ "java/lang/invoke/MethodHandle" ∧ yJ5_init_d00df.cls ≠ "java/lang/invoke/VarHandle") ∧ (parseMethodDescriptor yJ5_init_d00df.desc).map (fun d => d.parameters.length) = some 1 := ⟨wd_1_20, wd_5_62, ⟨by decide +kernel, by decide +kernel⟩, by decide +kernel⟩
theorem ca_J5_length_8abf5 : Cond.initialized yJ5_length_8abf5.cls ∈ eTB ∧ mWord mJ5_length_8abf5 ∈ eTB ∧ (yJ5_length_8abf5.cls ≠ "java/lang/invoke/MethodHandle" ∧ yJ5_length_8abf5.cls ≠ "java/lang/invoke/VarHandle") ∧ (parseMethodDescriptor yJ5_length_8abf5.desc).map (fun d => d.parameters.length) = some 0 := ⟨wd_1_20, wd_5_229, ⟨by decide +kernel, by decide +kernel⟩, by decide +kernel⟩
theorem ca_J5_ensureCapacityInternal_d00df : Cond.initialized yJ5_ensureCapacityInternal_d00df.cls ∈ eTB ∧ mWord mJ5_ensureCapacityInternal_d00df ∈ eTB ∧ (yJ5_ensureCapacityInternal_d00df.cls ≠ "java/lang/invoke/MethodHandle" ∧ yJ5_ensureCapacityInternal_d00df.cls ≠ "java/lang/invoke/VarHandle") ∧ (parseMethodDescriptor yJ5_ensureCapacityInternal_d00df.desc).map (fun d => d.parameters.length) = some 1 := ⟨wd_1_20, wd_5_99, ⟨by decide +kernel, by decide +kernel⟩, by decide +kernel⟩
theorem ca_J5_newCapacity_0f7a4 : Cond.initialized yJ5_newCapacity_0f7a4.cls ∈ eTB ∧ mWord mJ5_newCapacity_0f7a4 ∈ eTB ∧ (yJ5_newCapacity_0f7a4.cls ≠ "java/lang/invoke/MethodHandle" ∧ yJ5_newCapacity_0f7a4.cls ≠ "java/lang/invoke/VarHandle") ∧ (parseMethodDescriptor yJ5_newCapacity_0f7a4.desc).map (fun d => d.parameters.length) = some 1 := ⟨wd_1_20, wd_5_103, ⟨by decide +kernel, by decide +kernel⟩, by decide +kernel⟩
theorem ca_J5_inflate_da8c8 : Cond.initialized yJ5_inflate_da8c8.cls ∈ eTB ∧ mWord mJ5_inflate_da8c8 ∈ eTB ∧ (yJ5_inflate_da8c8.cls ≠ "java/lang/invoke/MethodHandle" ∧ yJ5_inflate_da8c8.cls ≠ "java/lang/invoke/VarHandle") ∧ (parseMethodDescriptor yJ5_inflate_da8c8.desc).map (fun d => d.parameters.length) = some 0 := ⟨wd_1_20, wd_5_158, ⟨by decide +kernel, by decide +kernel⟩, by decide +kernel⟩
theorem ca_J5_append_cf1ce : Cond.initialized yJ5_append_cf1ce.cls ∈ eTB ∧ mWord mJ5_append_cf1ce ∈ eTB ∧ (yJ5_append_cf1ce.cls ≠ "java/lang/invoke/MethodHandle" ∧ yJ5_append_cf1ce.cls ≠ "java/lang/invoke/VarHandle") ∧ (parseMethodDescriptor yJ5_append_cf1ce.desc).map (fun d => d.parameters.length) = some 1 := ⟨wd_1_20, wd_5_91, ⟨by decide +kernel, by decide +kernel⟩, by decide +kernel⟩
theorem ca_J5_appendNull_278bc : Cond.initialized yJ5_appendNull_278bc.cls ∈ eTB ∧ mWord mJ5_appendNull_278bc ∈ eTB ∧ (yJ5_appendNull_278bc.cls ≠ "java/lang/invoke/MethodHandle" ∧ yJ5_appendNull_278bc.cls ≠ "java/lang/invoke/VarHandle") ∧ (parseMethodDescriptor yJ5_appendNull_278bc.desc).map (fun d => d.parameters.length) = some 0 := ⟨wd_1_20, wd_5_95, ⟨by decide +kernel, by decide +kernel⟩, by decide +kernel⟩
theorem ca_J5_append_c97b9 : Cond.initialized yJ5_append_c97b9.cls ∈ eTB ∧ mWord mJ5_append_c97b9 ∈ eTB ∧ (yJ5_append_c97b9.cls ≠ "java/lang/invoke/MethodHandle" ∧ yJ5_append_c97b9.cls ≠ "java/lang/invoke/VarHandle") ∧ (parseMethodDescriptor yJ5_append_c97b9.desc).map (fun d => d.parameters.length) = some 1 := ⟨wd_1_20, wd_5_186, ⟨by decide +kernel, by decide +kernel⟩, by decide +kernel⟩
theorem ca_J5_getValue_6d5f1 : Cond.initialized yJ5_getValue_6d5f1.cls ∈ eTB ∧ mWord mJ5_getValue_6d5f1 ∈ eTB ∧ (yJ5_getValue_6d5f1.cls ≠ "java/lang/invoke/MethodHandle" ∧ yJ5_getValue_6d5f1.cls ≠ "java/lang/invoke/VarHandle") ∧ (parseMethodDescriptor yJ5_getValue_6d5f1.desc).map (fun d => d.parameters.length) = some 0 := ⟨wd_1_20, wd_5_221, ⟨by decide +kernel, by decide +kernel⟩, by decide +kernel⟩
theorem ca_J5_isLatin1_aae02 : Cond.initialized yJ5_isLatin1_aae02.cls ∈ eTB ∧ mWord mJ5_isLatin1_aae02 ∈ eTB ∧ (yJ5_isLatin1_aae02.cls ≠ "java/lang/invoke/MethodHandle" ∧ yJ5_isLatin1_aae02.cls ≠ "java/lang/invoke/VarHandle") ∧ (parseMethodDescriptor yJ5_isLatin1_aae02.desc).map (fun d => d.parameters.length) = some 0 := ⟨wd_1_20, wd_5_129, ⟨by decide +kernel, by decide +kernel⟩, by decide +kernel⟩
theorem ca_J5_inflateIfNeededFor_a7421 : Cond.initialized yJ5_inflateIfNeededFor_a7421.cls ∈ eTB ∧ mWord mJ5_inflateIfNeededFor_a7421 ∈ eTB ∧ (yJ5_inflateIfNeededFor_a7421.cls ≠ "java/lang/invoke/MethodHandle" ∧ yJ5_inflateIfNeededFor_a7421.cls ≠ "java/lang/invoke/VarHandle") ∧ (parseMethodDescriptor yJ5_inflateIfNeededFor_a7421.desc).map (fun d => d.parameters.length) = some 1 := ⟨wd_1_20, wd_5_153, ⟨by decide +kernel, by decide +kernel⟩, by decide +kernel⟩
theorem ca_J5_putStringAt_47b60 : Cond.initialized yJ5_putStringAt_47b60.cls ∈ eTB ∧ mWord mJ5_putStringAt_47b60 ∈ eTB ∧ (yJ5_putStringAt_47b60.cls ≠ "java/lang/invoke/MethodHandle" ∧ yJ5_putStringAt_47b60.cls ≠ "java/lang/invoke/VarHandle") ∧ (parseMethodDescriptor yJ5_putStringAt_47b60.desc).map (fun d => d.parameters.length) = some 2 := ⟨wd_1_20, wd_5_149, ⟨by decide +kernel, by decide +kernel⟩, by decide +kernel⟩
theorem ca_Jx00060_init_a7421 : Cond.initialized yJx00060_init_a7421.cls ∈ eTB ∧ mWord mJx00060_init_a7421 ∈ eTB ∧ (yJx00060_init_a7421.cls ≠ "java/lang/invoke/MethodHandle" ∧ yJx00060_init_a7421.cls ≠ "java/lang/invoke/VarHandle") ∧ (parseMethodDescriptor yJx00060_init_a7421.desc).map (fun d => d.parameters.length) = some 1 := ⟨wd_1_18, wd_3_154, ⟨by decide +kernel, by decide +kernel⟩, by decide +kernel⟩
theorem ca_J6_getChars_ba4f3 : Cond.initialized yJ6_getChars_ba4f3.cls ∈ eTB ∧ mWord mJ6_getChars_ba4f3 ∈ eTB ∧ (yJ6_getChars_ba4f3.cls ≠ "java/lang/invoke/MethodHandle" ∧ yJ6_getChars_ba4f3.cls ≠ "java/lang/invoke/VarHandle") ∧ (parseMethodDescriptor yJ6_getChars_ba4f3.desc).map (fun d => d.parameters.length) = some 3 := ⟨wd_1_28, wd_5_192, ⟨by decide +kernel, by decide +kernel⟩, by decide +kernel⟩
theorem ca_J6_stringSize_0f7a4 : Cond.initialized yJ6_stringSize_0f7a4.cls ∈ eTB ∧ mWord mJ6_stringSize_0f7a4 ∈ eTB ∧ (yJ6_stringSize_0f7a4.cls ≠ "java/lang/invoke/MethodHandle" ∧ yJ6_stringSize_0f7a4.cls ≠ "java/lang/invoke/VarHandle") ∧ (parseMethodDescriptor yJ6_stringSize_0f7a4.desc).map (fun d => d.parameters.length) = some 1 := ⟨wd_1_28, wd_5_189, ⟨by decide +kernel, by decide +kernel⟩, by decide +kernel⟩
theorem ca_J9_abs_0f7a4 : Cond.initialized yJ9_abs_0f7a4.cls ∈ eTB ∧ mWord mJ9_abs_0f7a4 ∈ eTB ∧ (yJ9_abs_0f7a4.cls ≠ "java/lang/invoke/MethodHandle" ∧ yJ9_abs_0f7a4.cls ≠ "java/lang/invoke/VarHandle") ∧ (parseMethodDescriptor yJ9_abs_0f7a4.desc).map (fun d => d.parameters.length) = some 1 := ⟨wd_1_8, wd_2_156, ⟨by decide +kernel, by decide +kernel⟩, by decide +kernel⟩
theorem ca_J9_max_7cf53 : Cond.initialized yJ9_max_7cf53.cls ∈ eTB ∧ mWord mJ9_max_7cf53 ∈ eTB ∧ (yJ9_max_7cf53.cls ≠ "java/lang/invoke/MethodHandle" ∧ yJ9_max_7cf53.cls ≠ "java/lang/invoke/VarHandle") ∧ (parseMethodDescriptor yJ9_max_7cf53.desc).map (fun d => d.parameters.length) = some 2 := ⟨wd_1_8, wd_3_6, ⟨by decide +kernel, by decide +kernel⟩, by decide +kernel⟩
theorem ca_J9_min_7cf53 : Cond.initialized yJ9_min_7cf53.cls ∈ eTB ∧ mWord mJ9_min_7cf53 ∈ eTB ∧ (yJ9_min_7cf53.cls ≠ "java/lang/invoke/MethodHandle" ∧ yJ9_min_7cf53.cls ≠ "java/lang/invoke/VarHandle") ∧ (parseMethodDescriptor yJ9_min_7cf53.desc).map (fun d => d.parameters.length) = some 2 := ⟨wd_1_8, wd_3_217, ⟨by decide +kernel, by decide +kernel⟩, by decide +kernel⟩
theorem ca_J0_init_81219 : Cond.initialized yJ0_init_81219.cls ∈ eTB ∧ mWord mJ0_init_81219 ∈ eTB ∧ (yJ0_init_81219.cls ≠ "java/lang/invoke/MethodHandle" ∧ yJ0_init_81219.cls ≠ "java/lang/invoke/VarHandle") ∧ (parseMethodDescriptor yJ0_init_81219.desc).map (fun d => d.parameters.length) = some 1 := ⟨wd_1_19, wd_5_212, ⟨by decide +kernel, by decide +kernel⟩, by decide +kernel⟩
theorem ca_J0_length_8abf5 : Cond.initialized yJ0_length_8abf5.cls ∈ eTB ∧ mWord mJ0_length_8abf5 ∈ eTB ∧ (yJ0_length_8abf5.cls ≠ "java/lang/invoke/MethodHandle" ∧ yJ0_length_8abf5.cls ≠ "java/lang/invoke/VarHandle") ∧ (parseMethodDescriptor yJ0_length_8abf5.desc).map (fun d => d.parameters.length) = some 0 := ⟨wd_1_19, wd_5_2, ⟨by decide +kernel, by decide +kernel⟩, by decide +kernel⟩
theorem ca_J0_charAt_5068e : Cond.initialized yJ0_charAt_5068e.cls ∈ eTB ∧ mWord mJ0_charAt_5068e ∈ eTB ∧ (yJ0_charAt_5068e.cls ≠ "java/lang/invoke/MethodHandle" ∧ yJ0_charAt_5068e.cls ≠ "java/lang/invoke/VarHandle") ∧ (parseMethodDescriptor yJ0_charAt_5068e.desc).map (fun d => d.parameters.length) = some 1 := ⟨wd_1_19, wd_5_17, ⟨by decide +kernel, by decide +kernel⟩, by decide +kernel⟩
theorem ca_J0_getBytes_840e7 : Cond.initialized yJ0_getBytes_840e7.cls ∈ eTB ∧ mWord mJ0_getBytes_840e7 ∈ eTB ∧ (yJ0_getBytes_840e7.cls ≠ "java/lang/invoke/MethodHandle" ∧ yJ0_getBytes_840e7.cls ≠ "java/lang/invoke/VarHandle") ∧ (parseMethodDescriptor yJ0_getBytes_840e7.desc).map (fun d => d.parameters.length) = some 3 := ⟨wd_1_19, wd_5_177, ⟨by decide +kernel, by decide +kernel⟩, by decide +kernel⟩
theorem ca_J0_init_db425 : Cond.initialized yJ0_init_db425.cls ∈ eTB ∧ mWord mJ0_init_db425 ∈ eTB ∧ (yJ0_init_db425.cls ≠ "java/lang/invoke/MethodHandle" ∧ yJ0_init_db425.cls ≠ "java/lang/invoke/VarHandle") ∧ (parseMethodDescriptor yJ0_init_db425.desc).map (fun d => d.parameters.length) = some 2 := ⟨wd_1_19, wd_5_215, ⟨by decide +kernel, by decide +kernel⟩, by decide +kernel⟩
theorem ca_J0_coder_7d493 : Cond.initialized yJ0_coder_7d493.cls ∈ eTB ∧ mWord mJ0_coder_7d493 ∈ eTB ∧ (yJ0_coder_7d493.cls ≠ "java/lang/invoke/MethodHandle" ∧ yJ0_coder_7d493.cls ≠ "java/lang/invoke/VarHandle") ∧ (parseMethodDescriptor yJ0_coder_7d493.desc).map (fun d => d.parameters.length) = some 0 := ⟨wd_1_19, wd_5_6, ⟨by decide +kernel, by decide +kernel⟩, by decide +kernel⟩
theorem ca_J0_isLatin1_aae02 : Cond.initialized yJ0_isLatin1_aae02.cls ∈ eTB ∧ mWord mJ0_isLatin1_aae02 ∈ eTB ∧ (yJ0_isLatin1_aae02.cls ≠ "java/lang/invoke/MethodHandle" ∧ yJ0_isLatin1_aae02.cls ≠ "java/lang/invoke/VarHandle") ∧ (parseMethodDescriptor yJ0_isLatin1_aae02.desc).map (fun d => d.parameters.length) = some 0 := ⟨wd_1_19, wd_5_21, ⟨by decide +kernel, by decide +kernel⟩, by decide +kernel⟩
theorem ca_J0_checkIndex_df160 : Cond.initialized yJ0_checkIndex_df160.cls ∈ eTB ∧ mWord mJ0_checkIndex_df160 ∈ eTB ∧ (yJ0_checkIndex_df160.cls ≠ "java/lang/invoke/MethodHandle" ∧ yJ0_checkIndex_df160.cls ≠ "java/lang/invoke/VarHandle") ∧ (parseMethodDescriptor yJ0_checkIndex_df160.desc).map (fun d => d.parameters.length) = some 2 := ⟨wd_1_19, wd_5_27, ⟨by decide +kernel, by decide +kernel⟩, by decide +kernel⟩
theorem ca_J0_checkBoundsOffCount_cabcc : Cond.initialized yJ0_checkBoundsOffCount_cabcc.cls ∈ eTB ∧ mWord mJ0_checkBoundsOffCount_cabcc ∈ eTB ∧ (yJ0_checkBoundsOffCount_cabcc.cls ≠ "java/lang/invoke/MethodHandle" ∧ yJ0_checkBoundsOffCount_cabcc.cls ≠ "java/lang/invoke/VarHandle") ∧ (parseMethodDescriptor yJ0_checkBoundsOffCount_cabcc.desc).map (fun d => d.parameters.length) = some 3 := ⟨wd_1_19, wd_5_170, ⟨by decide +kernel, by decide +kernel⟩, by decide +kernel⟩
theorem ca_J0_checkBoundsBeginEnd_23922 : Cond.initialized yJ0_checkBoundsBeginEnd_23922.cls ∈ eTB ∧ mWord mJ0_checkBoundsBeginEnd_23922 ∈ eTB ∧ (yJ0_checkBoundsBeginEnd_23922.cls ≠ "java/lang/invoke/MethodHandle" ∧ yJ0_checkBoundsBeginEnd_23922.cls ≠ "java/lang/invoke/VarHandle") ∧ (parseMethodDescriptor yJ0_checkBoundsBeginEnd_23922.desc).map (fun d => d.parameters.length) = some 3 := ⟨wd_1_19, wd_5_138, ⟨by decide +kernel, by decide +kernel⟩, by decide +kernel⟩
theorem ca_J4_init_da8c8 : Cond.initialized yJ4_init_da8c8.cls ∈ eTB ∧ mWord mJ4_init_da8c8 ∈ eTB ∧ (yJ4_init_da8c8.cls ≠ "java/lang/invoke/MethodHandle" ∧ yJ4_init_da8c8.cls ≠ "java/lang/invoke/VarHandle") ∧ (parseMethodDescriptor yJ4_init_da8c8.desc).map (fun d => d.parameters.length) = some 0 := ⟨wd_1_21, wd_5_59, ⟨by decide +kernel, by decide +kernel⟩, by decide +kernel⟩
theorem ca_J4_append_15ec4 : Cond.initialized yJ4_append_15ec4.cls ∈ eTB ∧ mWord mJ4_append_15ec4 ∈ eTB ∧ (yJ4_append_15ec4.cls ≠ "java/lang/invoke/MethodHandle" ∧ yJ4_append_15ec4.cls ≠ "java/lang/invoke/VarHandle") ∧ (parseMethodDescriptor yJ4_append_15ec4.desc).map (fun d => d.parameters.length) = some 1 := ⟨wd_1_21, wd_5_88, ⟨by decide +kernel, by decide +kernel⟩, by decide +kernel⟩
theorem ca_J4_append_bf812 : Cond.initialized yJ4_append_bf812.cls ∈ eTB ∧ mWord mJ4_append_bf812 ∈ eTB ∧ (yJ4_append_bf812.cls ≠ "java/lang/invoke/MethodHandle" ∧ yJ4_append_bf812.cls ≠ "java/lang/invoke/VarHandle") ∧ (parseMethodDescriptor yJ4_append_bf812.desc).map (fun d => d.parameters.length) = some 1 := ⟨wd_1_21, wd_5_183, ⟨by decide +kernel, by decide +kernel⟩, by decide +kernel⟩
theorem ca_J4_toString_0e30d : Cond.initialized yJ4_toString_0e30d.cls ∈ eTB ∧ mWord mJ4_toString_0e30d ∈ eTB ∧ (yJ4_toString_0e30d.cls ≠ "java/lang/invoke/MethodHandle" ∧ yJ4_toString_0e30d.cls ≠ "java/lang/invoke/VarHandle") ∧ (parseMethodDescriptor yJ4_toString_0e30d.desc).map (fun d => d.parameters.length) = some 0 := ⟨wd_1_21, wd_5_208, ⟨by decide +kernel, by decide +kernel⟩, by decide +kernel⟩
theorem ca_J4_length_8abf5 : Cond.initialized yJ4_length_8abf5.cls ∈ eTB ∧ mWord mJ4_length_8abf5 ∈ eTB ∧ (yJ4_length_8abf5.cls ≠ "java/lang/invoke/MethodHandle" ∧ yJ4_length_8abf5.cls ≠ "java/lang/invoke/VarHandle") ∧ (parseMethodDescriptor yJ4_length_8abf5.desc).map (fun d => d.parameters.length) = some 0 := ⟨wd_1_21, wd_5_227, ⟨by decide +kernel, by decide +kernel⟩, by decide +kernel⟩
theorem ca_J1_charAt_3b067 : Cond.initialized yJ1_charAt_3b067.cls ∈ eTB ∧ mWord mJ1_charAt_3b067 ∈ eTB ∧ (yJ1_charAt_3b067.cls ≠ "java/lang/invoke/MethodHandle" ∧ yJ1_charAt_3b067.cls ≠ "java/lang/invoke/VarHandle") ∧ (parseMethodDescriptor yJ1_charAt_3b067.desc).map (fun d => d.parameters.length) = some 2 := ⟨wd_1_26, wd_5_24, ⟨by decide +kernel, by decide +kernel⟩, by decide +kernel⟩
theorem ca_J1_inflate_0e8fd : Cond.initialized yJ1_inflate_0e8fd.cls ∈ eTB ∧ mWord mJ1_inflate_0e8fd ∈ eTB ∧ (yJ1_inflate_0e8fd.cls ≠ "java/lang/invoke/MethodHandle" ∧ yJ1_inflate_0e8fd.cls ≠ "java/lang/invoke/VarHandle") ∧ (parseMethodDescriptor yJ1_inflate_0e8fd.desc).map (fun d => d.parameters.length) = some 5 := ⟨wd_1_26, wd_5_161, ⟨by decide +kernel, by decide +kernel⟩, by decide +kernel⟩
theorem ca_J2_newBytesFor_77867 : Cond.initialized yJ2_newBytesFor_77867.cls ∈ eTB ∧ mWord mJ2_newBytesFor_77867 ∈ eTB ∧ (yJ2_newBytesFor_77867.cls ≠ "java/lang/invoke/MethodHandle" ∧ yJ2_newBytesFor_77867.cls ≠ "java/lang/invoke/VarHandle") ∧ (parseMethodDescriptor yJ2_newBytesFor_77867.desc).map (fun d => d.parameters.length) = some 1 := ⟨wd_1_22, wd_5_67, ⟨by decide +kernel, by decide +kernel⟩, by decide +kernel⟩
theorem ca_J2_newBytesLength_0f7a4 : Cond.initialized yJ2_newBytesLength_0f7a4.cls ∈ eTB ∧ mWord mJ2_newBytesLength_0f7a4 ∈ eTB ∧ (yJ2_newBytesLength_0f7a4.cls ≠ "java/lang/invoke/MethodHandle" ∧ yJ2_newBytesLength_0f7a4.cls ≠ "java/lang/invoke/VarHandle") ∧ (parseMethodDescriptor yJ2_newBytesLength_0f7a4.desc).map (fun d => d.parameters.length) = some 1 := ⟨wd_1_22, wd_5_70, ⟨by decide +kernel, by decide +kernel⟩, by decide +kernel⟩
theorem ca_J2_putChar_b72d1 : Cond.initialized yJ2_putChar_b72d1.cls ∈ eTB ∧ mWord mJ2_putChar_b72d1 ∈ eTB ∧ (yJ2_putChar_b72d1.cls ≠ "java/lang/invoke/MethodHandle" ∧ yJ2_putChar_b72d1.cls ≠ "java/lang/invoke/VarHandle") ∧ (parseMethodDescriptor yJ2_putChar_b72d1.desc).map (fun d => d.parameters.length) = some 3 := ⟨wd_1_22, wd_5_144, ⟨by decide +kernel, by decide +kernel⟩, by decide +kernel⟩
theorem ca_J2_getChar_3b067 : Cond.initialized yJ2_getChar_3b067.cls ∈ eTB ∧ mWord mJ2_getChar_3b067 ∈ eTB ∧ (yJ2_getChar_3b067.cls ≠ "java/lang/invoke/MethodHandle" ∧ yJ2_getChar_3b067.cls ≠ "java/lang/invoke/VarHandle") ∧ (parseMethodDescriptor yJ2_getChar_3b067.desc).map (fun d => d.parameters.length) = some 2 := ⟨wd_1_22, wd_5_45, ⟨by decide +kernel, by decide +kernel⟩, by decide +kernel⟩
theorem ca_J2_length_9d52b : Cond.initialized yJ2_length_9d52b.cls ∈ eTB ∧ mWord mJ2_length_9d52b ∈ eTB ∧ (yJ2_length_9d52b.cls ≠ "java/lang/invoke/MethodHandle" ∧ yJ2_length_9d52b.cls ≠ "java/lang/invoke/VarHandle") ∧ (parseMethodDescriptor yJ2_length_9d52b.desc).map (fun d => d.parameters.length) = some 1 := ⟨wd_1_22, wd_5_41, ⟨by decide +kernel, by decide +kernel⟩, by decide +kernel⟩
theorem ca_J2_coderFromArrayLen_85cad : Cond.initialized yJ2_coderFromArrayLen_85cad.cls ∈ eTB ∧ mWord mJ2_coderFromArrayLen_85cad ∈ eTB ∧ (yJ2_coderFromArrayLen_85cad.cls ≠ "java/lang/invoke/MethodHandle" ∧ yJ2_coderFromArrayLen_85cad.cls ≠ "java/lang/invoke/VarHandle") ∧ (parseMethodDescriptor yJ2_coderFromArrayLen_85cad.desc).map (fun d => d.parameters.length) = some 2 := ⟨wd_1_22, wd_6_17, ⟨by decide +kernel, by decide +kernel⟩, by decide +kernel⟩
theorem ca_J2_compress_39247 : Cond.initialized yJ2_compress_39247.cls ∈ eTB ∧ mWord mJ2_compress_39247 ∈ eTB ∧ (yJ2_compress_39247.cls ≠ "java/lang/invoke/MethodHandle" ∧ yJ2_compress_39247.cls ≠ "java/lang/invoke/VarHandle") ∧ (parseMethodDescriptor yJ2_compress_39247.desc).map (fun d => d.parameters.length) = some 3 := ⟨wd_1_22, wd_6_10, ⟨by decide +kernel, by decide +kernel⟩, by decide +kernel⟩
theorem ca_J2_compress_5af95 : Cond.initialized yJ2_compress_5af95.cls ∈ eTB ∧ mWord mJ2_compress_5af95 ∈ eTB ∧ (yJ2_compress_5af95.cls ≠ "java/lang/invoke/MethodHandle" ∧ yJ2_compress_5af95.cls ≠ "java/lang/invoke/VarHandle") ∧ (parseMethodDescriptor yJ2_compress_5af95.desc).map (fun d => d.parameters.length) = some 5 := ⟨wd_1_22, wd_6_13, ⟨by decide +kernel, by decide +kernel⟩, by decide +kernel⟩
theorem ca_J2_getChars_46870 : Cond.initialized yJ2_getChars_46870.cls ∈ eTB ∧ mWord mJ2_getChars_46870 ∈ eTB ∧ (yJ2_getChars_46870.cls ≠ "java/lang/invoke/MethodHandle" ∧ yJ2_getChars_46870.cls ≠ "java/lang/invoke/VarHandle") ∧ (parseMethodDescriptor yJ2_getChars_46870.desc).map (fun d => d.parameters.length) = some 4 := ⟨wd_1_22, wd_5_199, ⟨by decide +kernel, by decide +kernel⟩, by decide +kernel⟩
theorem ca_J2_putCharsAt_cd4e5 : Cond.initialized yJ2_putCharsAt_cd4e5.cls ∈ eTB ∧ mWord mJ2_putCharsAt_cd4e5 ∈ eTB ∧ (yJ2_putCharsAt_cd4e5.cls ≠ "java/lang/invoke/MethodHandle" ∧ yJ2_putCharsAt_cd4e5.cls ≠ "java/lang/invoke/VarHandle") ∧ (parseMethodDescriptor yJ2_putCharsAt_cd4e5.desc).map (fun d => d.parameters.length) = some 6 := ⟨wd_1_22, wd_5_132, ⟨by decide +kernel, by decide +kernel⟩, by decide +kernel⟩
theorem ca_J2_charAt_3b067 : Cond.initialized yJ2_charAt_3b067.cls ∈ eTB ∧ mWord mJ2_charAt_3b067 ∈ eTB ∧ (yJ2_charAt_3b067.cls ≠ "java/lang/invoke/MethodHandle" ∧ yJ2_charAt_3b067.cls ≠ "java/lang/invoke/VarHandle") ∧ (parseMethodDescriptor yJ2_charAt_3b067.desc).map (fun d => d.parameters.length) = some 2 := ⟨wd_1_22, wd_5_35, ⟨by decide +kernel, by decide +kernel⟩, by decide +kernel⟩
theorem ca_J2_inflate_0e8fd : Cond.initialized yJ2_inflate_0e8fd.cls ∈ eTB ∧ mWord mJ2_inflate_0e8fd ∈ eTB ∧ (yJ2_inflate_0e8fd.cls ≠ "java/lang/invoke/MethodHandle" ∧ yJ2_inflate_0e8fd.cls ≠ "java/lang/invoke/VarHandle") ∧ (parseMethodDescriptor yJ2_inflate_0e8fd.desc).map (fun d => d.parameters.length) = some 5 := ⟨wd_1_22, wd_5_164, ⟨by decide +kernel, by decide +kernel⟩, by decide +kernel⟩
theorem ca_J2_getChars_ba4f3 : Cond.initialized yJ2_getChars_ba4f3.cls ∈ eTB ∧ mWord mJ2_getChars_ba4f3 ∈ eTB ∧ (yJ2_getChars_ba4f3.cls ≠ "java/lang/invoke/MethodHandle" ∧ yJ2_getChars_ba4f3.cls ≠ "java/lang/invoke/VarHandle") ∧ (parseMethodDescriptor yJ2_getChars_ba4f3.desc).map (fun d => d.parameters.length) = some 3 := ⟨wd_1_22, wd_5_202, ⟨by decide +kernel, by decide +kernel⟩, by decide +kernel⟩
theorem ca_J2_checkIndex_2214a : Cond.initialized yJ2_checkIndex_2214a.cls ∈ eTB ∧ mWord mJ2_checkIndex_2214a ∈ eTB ∧ (yJ2_checkIndex_2214a.cls ≠ "java/lang/invoke/MethodHandle" ∧ yJ2_checkIndex_2214a.cls ≠ "java/lang/invoke/VarHandle") ∧ (parseMethodDescriptor yJ2_checkIndex_2214a.desc).map (fun d => d.parameters.length) = some 2 := ⟨wd_1_22, wd_5_38, ⟨by decide +kernel, by decide +kernel⟩, by decide +kernel⟩
theorem ca_J2_checkBoundsBeginEnd_d044e : Cond.initialized yJ2_checkBoundsBeginEnd_d044e.cls ∈ eTB ∧ mWord mJ2_checkBoundsBeginEnd_d044e ∈ eTB ∧ (yJ2_checkBoundsBeginEnd_d044e.cls ≠ "java/lang/invoke/MethodHandle" ∧ yJ2_checkBoundsBeginEnd_d044e.cls ≠ "java/lang/invoke/VarHandle") ∧ (parseMethodDescriptor yJ2_checkBoundsBeginEnd_d044e.desc).map (fun d => d.parameters.length) = some 3 := ⟨wd_1_22, wd_5_135, ⟨by decide +kernel, by decide +kernel⟩, by decide +kernel⟩
theorem ca_J2_checkBoundsOffCount_d044e : Cond.initialized yJ2_checkBoundsOffCount_d044e.cls ∈ eTB ∧ mWord mJ2_checkBoundsOffCount_d044e ∈ eTB ∧ (yJ2_checkBoundsOffCount_d044e.cls ≠ "java/lang/invoke/MethodHandle" ∧ yJ2_checkBoundsOffCount_d044e.cls ≠ "java/lang/invoke/VarHandle") ∧ (parseMethodDescriptor yJ2_checkBoundsOffCount_d044e.desc).map (fun d => d.parameters.length) = some 3 := ⟨wd_1_22, wd_5_167, ⟨by decide +kernel, by decide +kernel⟩, by decide +kernel⟩
theorem ca_J7_copyOf_9075b : Cond.initialized yJ7_copyOf_9075b.cls ∈ eTB ∧ mWord mJ7_copyOf_9075b ∈ eTB ∧ (yJ7_copyOf_9075b.cls ≠ "java/lang/invoke/MethodHandle" ∧ yJ7_copyOf_9075b.cls ≠ "java/lang/invoke/VarHandle") ∧ (parseMethodDescriptor yJ7_copyOf_9075b.desc).map (fun d => d.parameters.length) = some 2 := ⟨wd_1_24, wd_5_115, ⟨by decide +kernel, by decide +kernel⟩, by decide +kernel⟩
theorem ca_J7_checkLength_df160 : Cond.initialized yJ7_checkLength_df160.cls ∈ eTB ∧ mWord mJ7_checkLength_df160 ∈ eTB ∧ (yJ7_checkLength_df160.cls ≠ "java/lang/invoke/MethodHandle" ∧ yJ7_checkLength_df160.cls ≠ "java/lang/invoke/VarHandle") ∧ (parseMethodDescriptor yJ7_checkLength_df160.desc).map (fun d => d.parameters.length) = some 2 := ⟨wd_1_24, wd_5_239, ⟨by decide +kernel, by decide +kernel⟩, by decide +kernel⟩
theorem ca_J7_copyOfRange_39247 : Cond.initialized yJ7_copyOfRange_39247.cls ∈ eTB ∧ mWord mJ7_copyOfRange_39247 ∈ eTB ∧ (yJ7_copyOfRange_39247.cls ≠ "java/lang/invoke/MethodHandle" ∧ yJ7_copyOfRange_39247.cls ≠ "java/lang/invoke/VarHandle") ∧ (parseMethodDescriptor yJ7_copyOfRange_39247.desc).map (fun d => d.parameters.length) = some 3 := ⟨wd_1_24, wd_5_233, ⟨by decide +kernel, by decide +kernel⟩, by decide +kernel⟩
theorem ca_J7_copyOfRangeByte_39247 : Cond.initialized yJ7_copyOfRangeByte_39247.cls ∈ eTB ∧ mWord mJ7_copyOfRangeByte_39247 ∈ eTB ∧ (yJ7_copyOfRangeByte_39247.cls ≠ "java/lang/invoke/MethodHandle" ∧ yJ7_copyOfRangeByte_39247.cls ≠ "java/lang/invoke/VarHandle") ∧ (parseMethodDescriptor yJ7_copyOfRangeByte_39247.desc).map (fun d => d.parameters.length) = some 3 := ⟨wd_1_24, wd_5_236, ⟨by decide +kernel, by decide +kernel⟩, by decide +kernel⟩
theorem ca_J8_newLength_cabcc : Cond.initialized yJ8_newLength_cabcc.cls ∈ eTB ∧ mWord mJ8_newLength_cabcc ∈ eTB ∧ (yJ8_newLength_cabcc.cls ≠ "java/lang/invoke/MethodHandle" ∧ yJ8_newLength_cabcc.cls ≠ "java/lang/invoke/VarHandle") ∧ (parseMethodDescriptor yJ8_newLength_cabcc.desc).map (fun d => d.parameters.length) = some 3 := ⟨wd_1_23, wd_5_106, ⟨by decide +kernel, by decide +kernel⟩, by decide +kernel⟩
theorem ca_J8_hugeLength_7cf53 : Cond.initialized yJ8_hugeLength_7cf53.cls ∈ eTB ∧ mWord mJ8_hugeLength_7cf53 ∈ eTB ∧ (yJ8_hugeLength_7cf53.cls ≠ "java/lang/invoke/MethodHandle" ∧ yJ8_hugeLength_7cf53.cls ≠ "java/lang/invoke/VarHandle") ∧ (parseMethodDescriptor yJ8_hugeLength_7cf53.desc).map (fun d => d.parameters.length) = some 2 := ⟨wd_1_23, wd_5_111, ⟨by decide +kernel, by decide +kernel⟩, by decide +kernel⟩
theorem ca_J3_checkIndex_8e157 : Cond.initialized yJ3_checkIndex_8e157.cls ∈ eTB ∧ mWord mJ3_checkIndex_8e157 ∈ eTB ∧ (yJ3_checkIndex_8e157.cls ≠ "java/lang/invoke/MethodHandle" ∧ yJ3_checkIndex_8e157.cls ≠ "java/lang/invoke/VarHandle") ∧ (parseMethodDescriptor yJ3_checkIndex_8e157.desc).map (fun d => d.parameters.length) = some 3 := ⟨wd_1_25, wd_5_32, ⟨by decide +kernel, by decide +kernel⟩, by decide +kernel⟩
theorem ca_J3_checkFromToIndex_8c36e : Cond.initialized yJ3_checkFromToIndex_8c36e.cls ∈ eTB ∧ mWord mJ3_checkFromToIndex_8c36e ∈ eTB ∧ (yJ3_checkFromToIndex_8c36e.cls ≠ "java/lang/invoke/MethodHandle" ∧ yJ3_checkFromToIndex_8c36e.cls ≠ "java/lang/invoke/VarHandle") ∧ (parseMethodDescriptor yJ3_checkFromToIndex_8c36e.desc).map (fun d => d.parameters.length) = some 4 := ⟨wd_1_25, wd_5_141, ⟨by decide +kernel, by decide +kernel⟩, by decide +kernel⟩
theorem ca_J3_checkFromIndexSize_8c36e : Cond.initialized yJ3_checkFromIndexSize_8c36e.cls ∈ eTB ∧ mWord mJ3_checkFromIndexSize_8c36e ∈ eTB ∧ (yJ3_checkFromIndexSize_8c36e.cls ≠ "java/lang/invoke/MethodHandle" ∧ yJ3_checkFromIndexSize_8c36e.cls ≠ "java/lang/invoke/VarHandle") ∧ (parseMethodDescriptor yJ3_checkFromIndexSize_8c36e.desc).map (fun d => d.parameters.length) = some 4 := ⟨wd_1_25, wd_5_173, ⟨by decide +kernel, by decide +kernel⟩, by decide +kernel⟩
theorem ca_L_cell : Cond.initialized yL_cell.cls ∈ eTB ∧ mWord mL_cell ∈ eTB ∧ (yL_cell.cls ≠ "java/lang/invoke/MethodHandle" ∧ yL_cell.cls ≠ "java/lang/invoke/VarHandle") ∧ (parseMethodDescriptor yL_cell.desc).map (fun d => d.parameters.length) = some 2 := ⟨wd_1_0, wd_3_234, ⟨by decide +kernel, by decide +kernel⟩, by decide +kernel⟩
theorem ca_L_some : Cond.initialized yL_some.cls ∈ eTB ∧ mWord mL_some ∈ eTB ∧ (yL_some.cls ≠ "java/lang/invoke/MethodHandle" ∧ yL_some.cls ≠ "java/lang/invoke/VarHandle") ∧ (parseMethodDescriptor yL_some.desc).map (fun d => d.parameters.length) = some 3 := ⟨wd_1_0, wd_3_231, ⟨by decide +kernel, by decide +kernel⟩, by decide +kernel⟩
theorem ca_L_addBasket : Cond.initialized yL_addBasket.cls ∈ eTB ∧ mWord mL_addBasket ∈ eTB ∧ (yL_addBasket.cls ≠ "java/lang/invoke/MethodHandle" ∧ yL_addBasket.cls ≠ "java/lang/invoke/VarHandle") ∧ (parseMethodDescriptor yL_addBasket.desc).map (fun d => d.parameters.length) = some 4 := ⟨wd_1_0, wd_3_237, ⟨by decide +kernel, by decide +kernel⟩, by decide +kernel⟩
theorem ca_L_jump : Cond.initialized yL_jump.cls ∈ eTB ∧ mWord mL_jump ∈ eTB ∧ (yL_jump.cls ≠ "java/lang/invoke/MethodHandle" ∧ yL_jump.cls ≠ "java/lang/invoke/VarHandle") ∧ (parseMethodDescriptor yL_jump.desc).map (fun d => d.parameters.length) = some 4 := ⟨wd_1_0, wd_4_136, ⟨by decide +kernel, by decide +kernel⟩, by decide +kernel⟩
theorem ca_L_setHandle : Cond.initialized yL_setHandle.cls ∈ eTB ∧ mWord mL_setHandle ∈ eTB ∧ (yL_setHandle.cls ≠ "java/lang/invoke/MethodHandle" ∧ yL_setHandle.cls ≠ "java/lang/invoke/VarHandle") ∧ (parseMethodDescriptor yL_setHandle.desc).map (fun d => d.parameters.length) = some 3 := ⟨wd_1_0, wd_4_147, ⟨by decide +kernel, by decide +kernel⟩, by decide +kernel⟩
theorem ca_L_basketAt : Cond.initialized yL_basketAt.cls ∈ eTB ∧ mWord mL_basketAt ∈ eTB ∧ (yL_basketAt.cls ≠ "java/lang/invoke/MethodHandle" ∧ yL_basketAt.cls ≠ "java/lang/invoke/VarHandle") ∧ (parseMethodDescriptor yL_basketAt.desc).map (fun d => d.parameters.length) = some 3 := ⟨wd_1_0, wd_3_145, ⟨by decide +kernel, by decide +kernel⟩, by decide +kernel⟩
theorem ca_L_nearestTo : Cond.initialized yL_nearestTo.cls ∈ eTB ∧ mWord mL_nearestTo ∈ eTB ∧ (yL_nearestTo.cls ≠ "java/lang/invoke/MethodHandle" ∧ yL_nearestTo.cls ≠ "java/lang/invoke/VarHandle") ∧ (parseMethodDescriptor yL_nearestTo.desc).map (fun d => d.parameters.length) = some 2 := ⟨wd_1_0, wd_3_150, ⟨by decide +kernel, by decide +kernel⟩, by decide +kernel⟩
theorem ca_L_addCloud : Cond.initialized yL_addCloud.cls ∈ eTB ∧ mWord mL_addCloud ∈ eTB ∧ (yL_addCloud.cls ≠ "java/lang/invoke/MethodHandle" ∧ yL_addCloud.cls ≠ "java/lang/invoke/VarHandle") ∧ (parseMethodDescriptor yL_addCloud.desc).map (fun d => d.parameters.length) = some 3 := ⟨wd_1_0, wd_4_110, ⟨by decide +kernel, by decide +kernel⟩, by decide +kernel⟩
theorem ca_L_removeCloud : Cond.initialized yL_removeCloud.cls ∈ eTB ∧ mWord mL_removeCloud ∈ eTB ∧ (yL_removeCloud.cls ≠ "java/lang/invoke/MethodHandle" ∧ yL_removeCloud.cls ≠ "java/lang/invoke/VarHandle") ∧ (parseMethodDescriptor yL_removeCloud.desc).map (fun d => d.parameters.length) = some 3 := ⟨wd_1_0, wd_4_158, ⟨by decide +kernel, by decide +kernel⟩, by decide +kernel⟩
theorem ca_L_setTurnLength : Cond.initialized yL_setTurnLength.cls ∈ eTB ∧ mWord mL_setTurnLength ∈ eTB ∧ (yL_setTurnLength.cls ≠ "java/lang/invoke/MethodHandle" ∧ yL_setTurnLength.cls ≠ "java/lang/invoke/VarHandle") ∧ (parseMethodDescriptor yL_setTurnLength.desc).map (fun d => d.parameters.length) = some 2 := ⟨wd_1_0, wd_4_169, ⟨by decide +kernel, by decide +kernel⟩, by decide +kernel⟩
theorem ca_L_leaderAfter : Cond.initialized yL_leaderAfter.cls ∈ eTB ∧ mWord mL_leaderAfter ∈ eTB ∧ (yL_leaderAfter.cls ≠ "java/lang/invoke/MethodHandle" ∧ yL_leaderAfter.cls ≠ "java/lang/invoke/VarHandle") ∧ (parseMethodDescriptor yL_leaderAfter.desc).map (fun d => d.parameters.length) = some 2 := ⟨wd_1_0, wd_3_183, ⟨by decide +kernel, by decide +kernel⟩, by decide +kernel⟩
theorem ca_L_leaderAfterByCounting : Cond.initialized yL_leaderAfterByCounting.cls ∈ eTB ∧ mWord mL_leaderAfterByCounting ∈ eTB ∧ (yL_leaderAfterByCounting.cls ≠ "java/lang/invoke/MethodHandle" ∧ yL_leaderAfterByCounting.cls ≠ "java/lang/invoke/VarHandle") ∧ (parseMethodDescriptor yL_leaderAfterByCounting.desc).map (fun d => d.parameters.length) = some 2 := ⟨wd_1_0, wd_3_195, ⟨by decide +kernel, by decide +kernel⟩, by decide +kernel⟩
theorem ca_L_setTarget : Cond.initialized yL_setTarget.cls ∈ eTB ∧ mWord mL_setTarget ∈ eTB ∧ (yL_setTarget.cls ≠ "java/lang/invoke/MethodHandle" ∧ yL_setTarget.cls ≠ "java/lang/invoke/VarHandle") ∧ (parseMethodDescriptor yL_setTarget.desc).map (fun d => d.parameters.length) = some 3 := ⟨wd_1_0, wd_4_122, ⟨by decide +kernel, by decide +kernel⟩, by decide +kernel⟩
theorem ca_L_setKeep : Cond.initialized yL_setKeep.cls ∈ eTB ∧ mWord mL_setKeep ∈ eTB ∧ (yL_setKeep.cls ≠ "java/lang/invoke/MethodHandle" ∧ yL_setKeep.cls ≠ "java/lang/invoke/VarHandle") ∧ (parseMethodDescriptor yL_setKeep.desc).map (fun d => d.parameters.length) = some 2 := ⟨wd_1_0, wd_4_180, ⟨by decide +kernel, by decide +kernel⟩, by decide +kernel⟩
theorem ca_L_advance : Cond.initialized yL_advance.cls ∈ eTB ∧ mWord mL_advance ∈ eTB ∧ (yL_advance.cls ≠ "java/lang/invoke/MethodHandle" ∧ yL_advance.cls ≠ "java/lang/invoke/VarHandle") ∧ (parseMethodDescriptor yL_advance.desc).map (fun d => d.parameters.length) = some 2 := ⟨wd_1_0, wd_4_191, ⟨by decide +kernel, by decide +kernel⟩, by decide +kernel⟩
theorem ca_L_stepsSinceShape : Cond.initialized yL_stepsSinceShape.cls ∈ eTB ∧ mWord mL_stepsSinceShape ∈ eTB ∧ (yL_stepsSinceShape.cls ≠ "java/lang/invoke/MethodHandle" ∧ yL_stepsSinceShape.cls ≠ "java/lang/invoke/VarHandle") ∧ (parseMethodDescriptor yL_stepsSinceShape.desc).map (fun d => d.parameters.length) = some 1 := ⟨wd_1_0, wd_3_202, ⟨by decide +kernel, by decide +kernel⟩, by decide +kernel⟩
theorem ca_L_basketAtRank : Cond.initialized yL_basketAtRank.cls ∈ eTB ∧ mWord mL_basketAtRank ∈ eTB ∧ (yL_basketAtRank.cls ≠ "java/lang/invoke/MethodHandle" ∧ yL_basketAtRank.cls ≠ "java/lang/invoke/VarHandle") ∧ (parseMethodDescriptor yL_basketAtRank.desc).map (fun d => d.parameters.length) = some 2 := ⟨wd_1_0, wd_3_225, ⟨by decide +kernel, by decide +kernel⟩, by decide +kernel⟩
theorem ca_L_build : Cond.initialized yL_build.cls ∈ eTB ∧ mWord mL_build ∈ eTB ∧ (yL_build.cls ≠ "java/lang/invoke/MethodHandle" ∧ yL_build.cls ≠ "java/lang/invoke/VarHandle") ∧ (parseMethodDescriptor yL_build.desc).map (fun d => d.parameters.length) = some 2 := ⟨wd_1_0, wd_3_228, ⟨by decide +kernel, by decide +kernel⟩, by decide +kernel⟩
theorem ca_L_acts : Cond.initialized yL_acts.cls ∈ eTB ∧ mWord mL_acts ∈ eTB ∧ (yL_acts.cls ≠ "java/lang/invoke/MethodHandle" ∧ yL_acts.cls ≠ "java/lang/invoke/VarHandle") ∧ (parseMethodDescriptor yL_acts.desc).map (fun d => d.parameters.length) = some 3 := ⟨wd_1_0, wd_4_133, ⟨by decide +kernel, by decide +kernel⟩, by decide +kernel⟩
theorem ca_L_isLine : Cond.initialized yL_isLine.cls ∈ eTB ∧ mWord mL_isLine ∈ eTB ∧ (yL_isLine.cls ≠ "java/lang/invoke/MethodHandle" ∧ yL_isLine.cls ≠ "java/lang/invoke/VarHandle") ∧ (parseMethodDescriptor yL_isLine.desc).map (fun d => d.parameters.length) = some 3 := ⟨wd_1_0, wd_4_238, ⟨by decide +kernel, by decide +kernel⟩, by decide +kernel⟩
theorem li_L_118 : eLkI RL 118 mX6_init 0 := ⟨⟨wd_1_32, ca_X6_init.1, ca_X6_init.2.1, ca_X6_init.2.2.1, ca_X6_init.2.2.2⟩, wd_1_33, rfl⟩
theorem ln_X6_9 : eLkN RX6 9 mX2_init 0 := ⟨⟨"BasketFlock", by decide +kernel⟩, ca_X2_init.1, ca_X2_init.2.1, ca_X2_init.2.2.1, ca_X2_init.2.2.2, wd_1_41, rfl⟩
theorem ln_X2_30 : eLkN RX2 30 mX0_init 0 := ⟨⟨"BasketFlock", by decide +kernel⟩, ca_X0_init.1, ca_X0_init.2.1, ca_X0_init.2.2.1, ca_X0_init.2.2.2, wd_1_47, rfl⟩
theorem ln_X2_37 : eLkN RX2 37 mX5_init 0 := ⟨⟨"BasketFlock", by decide +kernel⟩, ca_X5_init.1, ca_X5_init.2.1, ca_X5_init.2.2.1, ca_X5_init.2.2.2, wd_1_63, rfl⟩
theorem li_X6_28 : eLkI RX6 28 mX4_init 0 := ⟨⟨wd_1_140, ca_X4_init.1, ca_X4_init.2.1, ca_X4_init.2.2.1, ca_X4_init.2.2.2⟩, wd_1_141, rfl⟩
theorem ln_X4_24 : eLkN RX4 24 mX2_init 0 := ⟨⟨"BasketFlock", by decide +kernel⟩, ca_X2_init.1, ca_X2_init.2.1, ca_X2_init.2.2.1, ca_X2_init.2.2.2, wd_1_41, rfl⟩
theorem ln_X6_35 : eLkN RX6 35 mX3_init 0 := ⟨⟨"BasketFlock", by decide +kernel⟩, ca_X3_init.1, ca_X3_init.2.1, ca_X3_init.2.2.1, ca_X3_init.2.2.2, wd_1_160, rfl⟩
theorem ln_X6_42 : eLkN RX6 42 mX1_init 0 := ⟨⟨"BasketFlock", by decide +kernel⟩, ca_X1_init.1, ca_X1_init.2.1, ca_X1_init.2.2.1, ca_X1_init.2.2.2, wd_1_173, rfl⟩
theorem lk_L_90 : eLkV RL 90 mX6_basketCount 0 := ⟨⟨wd_1_238, ca_X6_basketCount.1, ca_X6_basketCount.2.1, ca_X6_basketCount.2.2.1, ca_X6_basketCount.2.2.2⟩, wd_1_239, wd_2_0⟩
theorem lk_L_137 : eLkV RL 137 mX6_xOf 1 := ⟨⟨wd_2_2, ca_X6_xOf.1, ca_X6_xOf.2.1, ca_X6_xOf.2.2.1, ca_X6_xOf.2.2.2⟩, wd_2_3, wd_2_4⟩
theorem lk_X6_85 : eLkV RX6 85 mX6_demandBasket 1 := ⟨⟨wd_2_6, ca_X6_demandBasket.1, ca_X6_demandBasket.2.1, ca_X6_demandBasket.2.2.1, ca_X6_demandBasket.2.2.2⟩, wd_2_8, ws_X6_demandBasket⟩
theorem lk_X6_364 : eLkV RX6 364 mX2_has 1 := ⟨⟨wd_2_10, ca_X2_has.1, ca_X2_has.2.1, ca_X2_has.2.2.1, ca_X2_has.2.2.2⟩, wd_2_11, wd_2_12⟩
theorem lk_L_143 : eLkV RL 143 mX6_yOf 1 := ⟨⟨wd_2_86, ca_X6_yOf.1, ca_X6_yOf.2.1, ca_X6_yOf.2.2.1, ca_X6_yOf.2.2.2⟩, wd_2_87, wd_2_88⟩
theorem lk_L_146 : eLkV RL 146 mX6_handleOf 1 := ⟨⟨wd_2_90, ca_X6_handleOf.1, ca_X6_handleOf.2.1, ca_X6_handleOf.2.2.1, ca_X6_handleOf.2.2.2⟩, wd_2_91, wd_2_92⟩
theorem lk_L_34 : eLkV RL 34 mX6_basketAt 2 := ⟨⟨wd_2_94, ca_X6_basketAt.1, ca_X6_basketAt.2.1, ca_X6_basketAt.2.2.1, ca_X6_basketAt.2.2.2⟩, wd_2_95, wd_2_96⟩
theorem lk_X6_99 : eLkV RX6 99 mX6_demandCell 2 := ⟨⟨wd_2_98, ca_X6_demandCell.1, ca_X6_demandCell.2.1, ca_X6_demandCell.2.2.1, ca_X6_demandCell.2.2.2⟩, wd_2_100, ws_X6_demandCell⟩
theorem lk_X6_370 : eLkS RX6 370 mX0_inSky 2 := ⟨⟨wd_2_102, ca_X0_inSky.1, ca_X0_inSky.2.1, ca_X0_inSky.2.2.1, ca_X0_inSky.2.2.2⟩, wd_2_103⟩
theorem lk_X6_103 : eLkV RX6 103 mX2_basketIn 2 := ⟨⟨wd_2_121, ca_X2_basketIn.1, ca_X2_basketIn.2.1, ca_X2_basketIn.2.2.1, ca_X2_basketIn.2.2.2⟩, wd_2_122, wd_2_123⟩
theorem lk_L_129 : eLkV RL 129 mX6_distance 2 := ⟨⟨wd_2_141, ca_X6_distance.1, ca_X6_distance.2.1, ca_X6_distance.2.2.1, ca_X6_distance.2.2.2⟩, wd_2_142, wd_2_143⟩
theorem lk_X6_113 : eLkV RX6 113 mX2_distanceOf 2 := ⟨⟨wd_2_145, ca_X2_distanceOf.1, ca_X2_distanceOf.2.1, ca_X2_distanceOf.2.2.1, ca_X2_distanceOf.2.2.2⟩, wd_2_146, wd_2_147⟩
theorem lk_X2_90 : eLkV RX2 90 mX2_has 1 := ⟨⟨wd_2_149, ca_X2_has.1, ca_X2_has.2.1, ca_X2_has.2.2.1, ca_X2_has.2.2.2⟩, wd_2_11, wd_2_12⟩
theorem lk_X2_149 : eLkV RX2 149 mX2_distanceFrom 3 := ⟨⟨wd_2_150, ca_X2_distanceFrom.1, ca_X2_distanceFrom.2.1, ca_X2_distanceFrom.2.2.1, ca_X2_distanceFrom.2.2.2⟩, wd_2_151, wd_2_152⟩
theorem lk_X2_175 : eLkS RX2 175 mJ9_abs_0f7a4 1 := ⟨⟨wd_2_154, ca_J9_abs_0f7a4.1, ca_J9_abs_0f7a4.2.1, ca_J9_abs_0f7a4.2.2.1, ca_J9_abs_0f7a4.2.2.2⟩, wd_2_155⟩
theorem lk_L_154 : eLkV RL 154 mX6_isCloud 2 := ⟨⟨wd_2_157, ca_X6_isCloud.1, ca_X6_isCloud.2.1, ca_X6_isCloud.2.2.1, ca_X6_isCloud.2.2.2⟩, wd_2_158, wd_2_159⟩
theorem lk_X6_136 : eLkV RX6 136 mX0_covers 2 := ⟨⟨wd_2_161, ca_X0_covers.1, ca_X0_covers.2.1, ca_X0_covers.2.2.1, ca_X0_covers.2.2.2⟩, wd_2_162, wd_2_163⟩
theorem lk_X0_19 : eLkS RX0 19 mX0_inSky 2 := ⟨⟨wd_2_165, ca_X0_inSky.1, ca_X0_inSky.2.1, ca_X0_inSky.2.2.1, ca_X0_inSky.2.2.2⟩, wd_2_103⟩
theorem lk_L_203 : eLkV RL 203 mX6_cloudCount 0 := ⟨⟨wd_2_166, ca_X6_cloudCount.1, ca_X6_cloudCount.2.1, ca_X6_cloudCount.2.2.1, ca_X6_cloudCount.2.2.2⟩, wd_2_167, wd_2_168⟩
theorem lk_L_123 : eLkV RL 123 mX6_leader 0 := ⟨⟨wd_2_170, ca_X6_leader.1, ca_X6_leader.2.1, ca_X6_leader.2.2.1, ca_X6_leader.2.2.2⟩, wd_2_171, wd_2_172⟩
theorem lk_X6_147 : eLkV RX6 147 mX6_demandAnyBasket 0 := ⟨⟨wd_2_174, ca_X6_demandAnyBasket.1, ca_X6_demandAnyBasket.2.1, ca_X6_demandAnyBasket.2.2.1, ca_X6_demandAnyBasket.2.2.2⟩, wd_2_176, ws_X6_demandAnyBasket⟩
theorem lk_L_126 : eLkV RL 126 mX6_keep 0 := ⟨⟨wd_2_179, ca_X6_keep.1, ca_X6_keep.2.1, ca_X6_keep.2.2.1, ca_X6_keep.2.2.2⟩, wd_2_180, wd_2_181⟩
theorem lk_L_225 : eLkV RL 225 mX6_stepCount 0 := ⟨⟨wd_2_183, ca_X6_stepCount.1, ca_X6_stepCount.2.1, ca_X6_stepCount.2.2.1, ca_X6_stepCount.2.2.2⟩, wd_2_184, wd_2_185⟩
theorem lk_L_158 : eLkV RL 158 mX6_movesOf 1 := ⟨⟨wd_2_187, ca_X6_movesOf.1, ca_X6_movesOf.2.1, ca_X6_movesOf.2.2.1, ca_X6_movesOf.2.2.2⟩, wd_2_188, wd_2_189⟩
theorem lk_L_221 : eLkV RL 221 mX6_moveTotal 0 := ⟨⟨wd_2_191, ca_X6_moveTotal.1, ca_X6_moveTotal.2.1, ca_X6_moveTotal.2.2.1, ca_X6_moveTotal.2.2.2⟩, wd_2_192, wd_2_193⟩
theorem lk_X6_199 : eLkV RX6 199 mX2_sumOfMoves 0 := ⟨⟨wd_2_195, ca_X2_sumOfMoves.1, ca_X2_sumOfMoves.2.1, ca_X2_sumOfMoves.2.2.1, ca_X2_sumOfMoves.2.2.2⟩, wd_2_196, wd_2_197⟩
theorem lk_L_206 : eLkV RL 206 mX6_formationCount 0 := ⟨⟨wd_2_199, ca_X6_formationCount.1, ca_X6_formationCount.2.1, ca_X6_formationCount.2.2.1, ca_X6_formationCount.2.2.2⟩, wd_2_200, wd_2_201⟩
theorem lk_X6_206 : eLkV RX6 206 mX3_countByGoing 1 := ⟨⟨wd_2_203, ca_X3_countByGoing.1, ca_X3_countByGoing.2.1, ca_X3_countByGoing.2.2.1, ca_X3_countByGoing.2.2.2⟩, wd_2_204, wd_2_205⟩
theorem lk_X3_18 : eLkV RX3 18 mX3_goThrough 1 := ⟨⟨wd_2_207, ca_X3_goThrough.1, ca_X3_goThrough.2.1, ca_X3_goThrough.2.2.1, ca_X3_goThrough.2.2.2⟩, wd_2_208, wd_2_209⟩
theorem lk_X3_42 : eLkV RX3 42 mX3_goFrom 2 := ⟨⟨wd_2_211, ca_X3_goFrom.1, ca_X3_goFrom.2.1, ca_X3_goFrom.2.2.1, ca_X3_goFrom.2.2.2⟩, wd_2_212, wd_2_213⟩
theorem lk_X3_46 : eLkV RX3 46 mX2_linked 2 := ⟨⟨wd_2_215, ca_X2_linked.1, ca_X2_linked.2.1, ca_X2_linked.2.2.1, ca_X2_linked.2.2.2⟩, wd_2_216, wd_2_217⟩
theorem lk_X2_183 : eLkV RX2 183 mX2_distanceOf 2 := ⟨⟨wd_2_219, ca_X2_distanceOf.1, ca_X2_distanceOf.2.1, ca_X2_distanceOf.2.2.1, ca_X2_distanceOf.2.2.2⟩, wd_2_146, wd_2_147⟩
theorem lk_L_209 : eLkV RL 209 mX6_formationCountByMerging 0 := ⟨⟨wd_2_220, ca_X6_formationCountByMerging.1, ca_X6_formationCountByMerging.2.1, ca_X6_formationCountByMerging.2.2.1, ca_X6_formationCountByMerging.2.2.2⟩, wd_2_221, wd_2_222⟩
theorem lk_X6_210 : eLkV RX6 210 mX3_countByMerging 1 := ⟨⟨wd_2_224, ca_X3_countByMerging.1, ca_X3_countByMerging.2.1, ca_X3_countByMerging.2.2.1, ca_X3_countByMerging.2.2.2⟩, wd_2_225, wd_2_226⟩
theorem lk_X3_50 : eLkV RX3 50 mX3_merge 3 := ⟨⟨wd_2_228, ca_X3_merge.1, ca_X3_merge.2.1, ca_X3_merge.2.2.1, ca_X3_merge.2.2.2⟩, wd_2_229, wd_2_230⟩
theorem lk_L_212 : eLkV RL 212 mX6_largestFormation 0 := ⟨⟨wd_2_232, ca_X6_largestFormation.1, ca_X6_largestFormation.2.1, ca_X6_largestFormation.2.2.1, ca_X6_largestFormation.2.2.2⟩, wd_2_233, wd_2_234⟩
theorem lk_X6_213 : eLkV RX6 213 mX3_largest 1 := ⟨⟨wd_2_236, ca_X3_largest.1, ca_X3_largest.2.1, ca_X3_largest.2.2.1, ca_X3_largest.2.2.2⟩, wd_2_237, wd_2_238⟩
theorem lk_X3_32 : eLkV RX3 32 mX3_sizeOfGroup 2 := ⟨⟨wd_3_0, ca_X3_sizeOfGroup.1, ca_X3_sizeOfGroup.2.1, ca_X3_sizeOfGroup.2.2.1, ca_X3_sizeOfGroup.2.2.2⟩, wd_3_1, wd_3_2⟩
theorem lk_X3_36 : eLkS RX3 36 mJ9_max_7cf53 2 := ⟨⟨wd_3_4, ca_J9_max_7cf53.1, ca_J9_max_7cf53.2.1, ca_J9_max_7cf53.2.2.1, ca_J9_max_7cf53.2.2.2⟩, wd_3_5⟩
theorem lk_L_151 : eLkV RL 151 mX6_formationOf 1 := ⟨⟨wd_3_7, ca_X6_formationOf.1, ca_X6_formationOf.2.1, ca_X6_formationOf.2.2.1, ca_X6_formationOf.2.2.2⟩, wd_3_8, wd_3_9⟩
theorem lk_X6_216 : eLkV RX6 216 mX3_lowestWith 2 := ⟨⟨wd_3_11, ca_X3_lowestWith.1, ca_X3_lowestWith.2.1, ca_X3_lowestWith.2.2.1, ca_X3_lowestWith.2.2.2⟩, wd_3_12, wd_3_13⟩
theorem lk_X3_28 : eLkV RX3 28 mX2_has 1 := ⟨⟨wd_3_15, ca_X2_has.1, ca_X2_has.2.1, ca_X2_has.2.2.1, ca_X2_has.2.2.2⟩, wd_2_11, wd_2_12⟩
theorem lk_L_215 : eLkV RL 215 mX6_mixedPairs 0 := ⟨⟨wd_3_16, ca_X6_mixedPairs.1, ca_X6_mixedPairs.2.1, ca_X6_mixedPairs.2.2.1, ca_X6_mixedPairs.2.2.2⟩, wd_3_17, wd_3_18⟩
theorem lk_X6_220 : eLkV RX6 220 mX2_mixedByComparing 0 := ⟨⟨wd_3_20, ca_X2_mixedByComparing.1, ca_X2_mixedByComparing.2.1, ca_X2_mixedByComparing.2.2.1, ca_X2_mixedByComparing.2.2.2⟩, wd_3_21, wd_3_22⟩
theorem lk_X2_199 : eLkV RX2 199 mX2_linked 2 := ⟨⟨wd_3_24, ca_X2_linked.1, ca_X2_linked.2.1, ca_X2_linked.2.2.1, ca_X2_linked.2.2.2⟩, wd_2_216, wd_2_217⟩
theorem lk_L_218 : eLkV RL 218 mX6_mixedPairsByHandles 0 := ⟨⟨wd_3_25, ca_X6_mixedPairsByHandles.1, ca_X6_mixedPairsByHandles.2.1, ca_X6_mixedPairsByHandles.2.2.1, ca_X6_mixedPairsByHandles.2.2.2⟩, wd_3_26, wd_3_27⟩
theorem lk_X6_224 : eLkV RX6 224 mX2_mixedByHandles 0 := ⟨⟨wd_3_29, ca_X2_mixedByHandles.1, ca_X2_mixedByHandles.2.1, ca_X2_mixedByHandles.2.2.1, ca_X2_mixedByHandles.2.2.2⟩, wd_3_30, wd_3_31⟩
theorem lk_X2_202 : eLkV RX2 202 mX2_linkedPairs 0 := ⟨⟨wd_3_33, ca_X2_linkedPairs.1, ca_X2_linkedPairs.2.1, ca_X2_linkedPairs.2.2.1, ca_X2_linkedPairs.2.2.2⟩, wd_3_34, wd_3_35⟩
theorem lk_X2_205 : eLkV RX2 205 mX2_linkedPairsOfHandle 1 := ⟨⟨wd_3_37, ca_X2_linkedPairsOfHandle.1, ca_X2_linkedPairsOfHandle.2.1, ca_X2_linkedPairsOfHandle.2.2.1, ca_X2_linkedPairsOfHandle.2.2.2⟩, wd_3_38, wd_3_39⟩
theorem lk_L_200 : eLkV RL 200 mX6_shapeCount 0 := ⟨⟨wd_3_41, ca_X6_shapeCount.1, ca_X6_shapeCount.2.1, ca_X6_shapeCount.2.2.1, ca_X6_shapeCount.2.2.2⟩, wd_3_42, wd_3_43⟩
theorem lk_L_228 : eLkV RL 228 mX6_differentShapes 0 := ⟨⟨wd_3_45, ca_X6_differentShapes.1, ca_X6_differentShapes.2.1, ca_X6_differentShapes.2.2.1, ca_X6_differentShapes.2.2.2⟩, wd_3_46, wd_3_47⟩
theorem lk_X6_234 : eLkV RX6 234 mX5_countDifferent 0 := ⟨⟨wd_3_49, ca_X5_countDifferent.1, ca_X5_countDifferent.2.1, ca_X5_countDifferent.2.2.1, ca_X5_countDifferent.2.2.2⟩, wd_3_50, wd_3_51⟩
theorem lk_X5_38 : eLkV RX5 38 mX5_standsBefore 1 := ⟨⟨wd_3_53, ca_X5_standsBefore.1, ca_X5_standsBefore.2.1, ca_X5_standsBefore.2.2.1, ca_X5_standsBefore.2.2.2⟩, wd_3_54, wd_3_55⟩
theorem lk_X5_34 : eLkV RX5 34 mX5_holds 3 := ⟨⟨wd_3_57, ca_X5_holds.1, ca_X5_holds.2.1, ca_X5_holds.2.2.1, ca_X5_holds.2.2.2⟩, wd_3_58, wd_3_59⟩
theorem lk_L_71 : eLkV RL 71 mX6_basketAtRank 1 := ⟨⟨wd_3_61, ca_X6_basketAtRank.1, ca_X6_basketAtRank.2.1, ca_X6_basketAtRank.2.2.1, ca_X6_basketAtRank.2.2.2⟩, wd_3_62, wd_3_63⟩
theorem lk_X6_242 : eLkV RX6 242 mX2_basketWithRank 1 := ⟨⟨wd_3_65, ca_X2_basketWithRank.1, ca_X2_basketWithRank.2.1, ca_X2_basketWithRank.2.2.1, ca_X2_basketWithRank.2.2.2⟩, wd_3_66, wd_3_67⟩
theorem lk_X2_196 : eLkV RX2 196 mX2_rankOf 1 := ⟨⟨wd_3_69, ca_X2_rankOf.1, ca_X2_rankOf.2.1, ca_X2_rankOf.2.2.1, ca_X2_rankOf.2.2.2⟩, wd_3_70, wd_3_71⟩
theorem lk_L_186 : eLkV RL 186 mX6_describeRow 1 := ⟨⟨wd_3_74, ca_X6_describeRow.1, ca_X6_describeRow.2.1, ca_X6_describeRow.2.2.1, ca_X6_describeRow.2.2.2⟩, wd_3_75, wd_3_76⟩
theorem lk_X6_297 : eLkV RX6 297 mX2_signOf 2 := ⟨⟨wd_3_78, ca_X2_signOf.1, ca_X2_signOf.2.1, ca_X2_signOf.2.2.1, ca_X2_signOf.2.2.2⟩, wd_3_79, wd_3_80⟩
theorem lk_X2_119 : eLkV RX2 119 mX2_basketIn 2 := ⟨⟨wd_3_82, ca_X2_basketIn.1, ca_X2_basketIn.2.1, ca_X2_basketIn.2.2.1, ca_X2_basketIn.2.2.2⟩, wd_2_122, wd_2_123⟩
theorem lk_X2_116 : eLkV RX2 116 mX0_covers 2 := ⟨⟨wd_3_83, ca_X0_covers.1, ca_X0_covers.2.1, ca_X0_covers.2.2.1, ca_X0_covers.2.2.2⟩, wd_2_162, wd_2_163⟩
theorem lk_L_237 : eLkV RL 237 mX6_meanDistance 0 := ⟨⟨wd_3_84, ca_X6_meanDistance.1, ca_X6_meanDistance.2.1, ca_X6_meanDistance.2.2.1, ca_X6_meanDistance.2.2.2⟩, wd_3_85, wd_3_86⟩
theorem lk_X6_311 : eLkV RX6 311 mX2_sumOfDistancesFromLeader 0 := ⟨⟨wd_3_104, ca_X2_sumOfDistancesFromLeader.1, ca_X2_sumOfDistancesFromLeader.2.1, ca_X2_sumOfDistancesFromLeader.2.2.1, ca_X2_sumOfDistancesFromLeader.2.2.2⟩, wd_3_105, wd_3_106⟩
theorem lk_L_241 : eLkV RL 241 mX6_mixedShare 0 := ⟨⟨wd_3_108, ca_X6_mixedShare.1, ca_X6_mixedShare.2.1, ca_X6_mixedShare.2.2.1, ca_X6_mixedShare.2.2.2⟩, wd_3_109, wd_3_110⟩
theorem lk_X6_314 : eLkV RX6 314 mX2_linkedPairs 0 := ⟨⟨wd_3_112, ca_X2_linkedPairs.1, ca_X2_linkedPairs.2.1, ca_X2_linkedPairs.2.2.1, ca_X2_linkedPairs.2.2.2⟩, wd_3_34, wd_3_35⟩
theorem lk_L_233 : eLkV RL 233 mX6_isConsistent 0 := ⟨⟨wd_3_114, ca_X6_isConsistent.1, ca_X6_isConsistent.2.1, ca_X6_isConsistent.2.2.1, ca_X6_isConsistent.2.2.2⟩, wd_3_115, wd_3_116⟩
theorem lk_X6_319 : eLkV RX6 319 mX2_isApartAndClear 0 := ⟨⟨wd_3_118, ca_X2_isApartAndClear.1, ca_X2_isApartAndClear.2.1, ca_X2_isApartAndClear.2.2.1, ca_X2_isApartAndClear.2.2.2⟩, wd_3_119, wd_3_120⟩
theorem lk_X2_111 : eLkV RX2 111 mX2_isPossible 3 := ⟨⟨wd_3_122, ca_X2_isPossible.1, ca_X2_isPossible.2.1, ca_X2_isPossible.2.2.1, ca_X2_isPossible.2.2.2⟩, wd_3_123, wd_3_124⟩
theorem lk_X2_107 : eLkS RX2 107 mX0_inSky 2 := ⟨⟨wd_3_126, ca_X0_inSky.1, ca_X0_inSky.2.1, ca_X0_inSky.2.2.1, ca_X0_inSky.2.2.2⟩, wd_2_103⟩
theorem lk_X2_193 : eLkV RX2 193 mX2_lowestTouched 3 := ⟨⟨wd_3_127, ca_X2_lowestTouched.1, ca_X2_lowestTouched.2.1, ca_X2_lowestTouched.2.2.1, ca_X2_lowestTouched.2.2.2⟩, wd_3_128, wd_3_129⟩
theorem lk_X6_322 : eLkV RX6 322 mX6_leadersAgree 0 := ⟨⟨wd_3_131, ca_X6_leadersAgree.1, ca_X6_leadersAgree.2.1, ca_X6_leadersAgree.2.2.1, ca_X6_leadersAgree.2.2.2⟩, wd_3_133, ws_X6_leadersAgree⟩
theorem lk_X6_156 : eLkV RX6 156 mX2_leaderByFormula 1 := ⟨⟨wd_3_135, ca_X2_leaderByFormula.1, ca_X2_leaderByFormula.2.1, ca_X2_leaderByFormula.2.2.1, ca_X2_leaderByFormula.2.2.2⟩, wd_3_136, wd_3_137⟩
theorem lk_X6_159 : eLkV RX6 159 mX2_leaderByCounting 1 := ⟨⟨wd_3_139, ca_X2_leaderByCounting.1, ca_X2_leaderByCounting.2.1, ca_X2_leaderByCounting.2.2.1, ca_X2_leaderByCounting.2.2.2⟩, wd_3_140, wd_3_141⟩
theorem lk_L_166 : eLkS RL 166 mL_basketAt 3 := ⟨⟨wd_3_143, ca_L_basketAt.1, ca_L_basketAt.2.1, ca_L_basketAt.2.2.1, ca_L_basketAt.2.2.2⟩, wd_3_144⟩
theorem lk_L_149 : eLkS RL 149 mL_nearestTo 2 := ⟨⟨wd_3_148, ca_L_nearestTo.1, ca_L_nearestTo.2.1, ca_L_nearestTo.2.2.1, ca_L_nearestTo.2.2.2⟩, wd_3_149⟩
theorem lk_L_39 : eLkV RL 39 mX6_nearestTo 1 := ⟨⟨wd_3_172, ca_X6_nearestTo.1, ca_X6_nearestTo.2.1, ca_X6_nearestTo.2.2.1, ca_X6_nearestTo.2.2.2⟩, wd_3_173, wd_3_174⟩
theorem lk_X6_116 : eLkV RX6 116 mX2_nearestOther 1 := ⟨⟨wd_3_176, ca_X2_nearestOther.1, ca_X2_nearestOther.2.1, ca_X2_nearestOther.2.2.1, ca_X2_nearestOther.2.2.2⟩, wd_3_177, wd_3_178⟩
theorem lk_L_193 : eLkS RL 193 mL_leaderAfter 2 := ⟨⟨wd_3_181, ca_L_leaderAfter.1, ca_L_leaderAfter.2.1, ca_L_leaderAfter.2.2.1, ca_L_leaderAfter.2.2.2⟩, wd_3_182⟩
theorem lk_L_52 : eLkV RL 52 mX6_leaderAfter 1 := ⟨⟨wd_3_184, ca_X6_leaderAfter.1, ca_X6_leaderAfter.2.1, ca_X6_leaderAfter.2.2.1, ca_X6_leaderAfter.2.2.2⟩, wd_3_185, wd_3_186⟩
theorem lk_X6_153 : eLkV RX6 153 mX6_demandStepsAhead 1 := ⟨⟨wd_3_188, ca_X6_demandStepsAhead.1, ca_X6_demandStepsAhead.2.1, ca_X6_demandStepsAhead.2.2.1, ca_X6_demandStepsAhead.2.2.2⟩, wd_3_190, ws_X6_demandStepsAhead⟩
theorem lk_L_195 : eLkS RL 195 mL_leaderAfterByCounting 2 := ⟨⟨wd_3_193, ca_L_leaderAfterByCounting.1, ca_L_leaderAfterByCounting.2.1, ca_L_leaderAfterByCounting.2.2.1, ca_L_leaderAfterByCounting.2.2.2⟩, wd_3_194⟩
theorem lk_L_55 : eLkV RL 55 mX6_leaderAfterByCounting 1 := ⟨⟨wd_3_196, ca_X6_leaderAfterByCounting.1, ca_X6_leaderAfterByCounting.2.1, ca_X6_leaderAfterByCounting.2.2.1, ca_X6_leaderAfterByCounting.2.2.2⟩, wd_3_197, wd_3_198⟩
theorem lk_L_197 : eLkS RL 197 mL_stepsSinceShape 1 := ⟨⟨wd_3_200, ca_L_stepsSinceShape.1, ca_L_stepsSinceShape.2.1, ca_L_stepsSinceShape.2.2.1, ca_L_stepsSinceShape.2.2.2⟩, wd_3_201⟩
theorem lk_L_67 : eLkV RL 67 mX6_stepsSinceShape 0 := ⟨⟨wd_3_203, ca_X6_stepsSinceShape.1, ca_X6_stepsSinceShape.2.1, ca_X6_stepsSinceShape.2.2.1, ca_X6_stepsSinceShape.2.2.2⟩, wd_3_204, wd_3_205⟩
theorem lk_X6_237 : eLkV RX6 237 mX2_stepsSincePresentShape 0 := ⟨⟨wd_3_207, ca_X2_stepsSincePresentShape.1, ca_X2_stepsSincePresentShape.2.1, ca_X2_stepsSincePresentShape.2.2.1, ca_X2_stepsSincePresentShape.2.2.2⟩, wd_3_208, wd_3_209⟩
theorem lk_X2_186 : eLkV RX2 186 mX2_drawPresentShape 0 := ⟨⟨wd_3_211, ca_X2_drawPresentShape.1, ca_X2_drawPresentShape.2.1, ca_X2_drawPresentShape.2.2.1, ca_X2_drawPresentShape.2.2.2⟩, wd_3_212, wd_3_213⟩
theorem lk_X2_212 : eLkS RX2 212 mJ9_min_7cf53 2 := ⟨⟨wd_3_215, ca_J9_min_7cf53.1, ca_J9_min_7cf53.2.1, ca_J9_min_7cf53.2.2.1, ca_J9_min_7cf53.2.2.2⟩, wd_3_216⟩
theorem lk_X2_208 : eLkV RX2 208 mX5_stepsSince 1 := ⟨⟨wd_3_218, ca_X5_stepsSince.1, ca_X5_stepsSince.2.1, ca_X5_stepsSince.2.2.1, ca_X5_stepsSince.2.2.2⟩, wd_3_219, wd_3_220⟩
theorem lk_L_231 : eLkS RL 231 mL_basketAtRank 2 := ⟨⟨wd_3_223, ca_L_basketAtRank.1, ca_L_basketAtRank.2.1, ca_L_basketAtRank.2.2.1, ca_L_basketAtRank.2.2.2⟩, wd_3_224⟩
theorem lk_L_119 : eLkS RL 119 mL_build 2 := ⟨⟨wd_3_226, ca_L_build.1, ca_L_build.2.1, ca_L_build.2.2.1, ca_L_build.2.2.2⟩, wd_3_227⟩
theorem lk_L_74 : eLkS RL 74 mL_some 3 := ⟨⟨wd_3_229, ca_L_some.1, ca_L_some.2.1, ca_L_some.2.2.1, ca_L_some.2.2.2⟩, wd_3_230⟩
theorem lk_L_7 : eLkS RL 7 mL_cell 2 := ⟨⟨wd_3_232, ca_L_cell.1, ca_L_cell.2.1, ca_L_cell.2.2.1, ca_L_cell.2.2.2⟩, wd_3_233⟩
theorem lk_L_78 : eLkS RL 78 mL_addBasket 4 := ⟨⟨wd_3_235, ca_L_addBasket.1, ca_L_addBasket.2.1, ca_L_addBasket.2.2.1, ca_L_addBasket.2.2.2⟩, wd_3_236⟩
theorem lk_L_13 : eLkV RL 13 mX6_addBasket 3 := ⟨⟨wd_4_0, ca_X6_addBasket.1, ca_X6_addBasket.2.1, ca_X6_addBasket.2.2.1, ca_X6_addBasket.2.2.2⟩, wd_4_1, wd_4_2⟩
theorem lk_X6_67 : eLkV RX6 67 mX6_prepare 4 := ⟨⟨wd_4_4, ca_X6_prepare.1, ca_X6_prepare.2.1, ca_X6_prepare.2.2.1, ca_X6_prepare.2.2.2⟩, wd_4_6, ws_X6_prepare⟩
theorem lk_X6_280 : eLkV RX6 280 mX6_hindranceIn 5 := ⟨⟨wd_4_8, ca_X6_hindranceIn.1, ca_X6_hindranceIn.2.1, ca_X6_hindranceIn.2.2.1, ca_X6_hindranceIn.2.2.2⟩, wd_4_10, ws_X6_hindranceIn⟩
theorem lk_X6_339 : eLkV RX6 339 mX2_hindrance 4 := ⟨⟨wd_4_12, ca_X2_hindrance.1, ca_X2_hindrance.2.1, ca_X2_hindrance.2.2.1, ca_X2_hindrance.2.2.2⟩, wd_4_13, wd_4_14⟩
theorem lk_X2_83 : eLkV RX2 83 mX2_hindranceToAdd 3 := ⟨⟨wd_4_16, ca_X2_hindranceToAdd.1, ca_X2_hindranceToAdd.2.1, ca_X2_hindranceToAdd.2.2.1, ca_X2_hindranceToAdd.2.2.2⟩, wd_4_17, wd_4_18⟩
theorem lk_X2_87 : eLkV RX2 87 mX2_hindranceToJump 3 := ⟨⟨wd_4_20, ca_X2_hindranceToJump.1, ca_X2_hindranceToJump.2.1, ca_X2_hindranceToJump.2.2.1, ca_X2_hindranceToJump.2.2.2⟩, wd_4_21, wd_4_22⟩
theorem lk_X2_94 : eLkS RX2 94 mX2_hindranceOutside 3 := ⟨⟨wd_4_24, ca_X2_hindranceOutside.1, ca_X2_hindranceOutside.2.1, ca_X2_hindranceOutside.2.2.1, ca_X2_hindranceOutside.2.2.2⟩, wd_4_25⟩
theorem lk_X2_97 : eLkV RX2 97 mX2_hindranceToCloud 2 := ⟨⟨wd_4_27, ca_X2_hindranceToCloud.1, ca_X2_hindranceToCloud.2.1, ca_X2_hindranceToCloud.2.2.1, ca_X2_hindranceToCloud.2.2.2⟩, wd_4_28, wd_4_29⟩
theorem lk_X2_101 : eLkV RX2 101 mX2_hindranceToClear 2 := ⟨⟨wd_4_31, ca_X2_hindranceToClear.1, ca_X2_hindranceToClear.2.1, ca_X2_hindranceToClear.2.2.1, ca_X2_hindranceToClear.2.2.2⟩, wd_4_32, wd_4_33⟩
theorem lk_X2_104 : eLkV RX2 104 mX2_hindranceToGoal 2 := ⟨⟨wd_4_35, ca_X2_hindranceToGoal.1, ca_X2_hindranceToGoal.2.1, ca_X2_hindranceToGoal.2.2.1, ca_X2_hindranceToGoal.2.2.2⟩, wd_4_36, wd_4_37⟩
theorem lk_X6_342 : eLkV RX6 342 mX6_keepRefusal 5 := ⟨⟨wd_4_39, ca_X6_keepRefusal.1, ca_X6_keepRefusal.2.1, ca_X6_keepRefusal.2.2.1, ca_X6_keepRefusal.2.2.2⟩, wd_4_41, ws_X6_keepRefusal⟩
theorem lk_X6_346 : eLkV RX6 346 mX2_lowestTouched 3 := ⟨⟨wd_4_43, ca_X2_lowestTouched.1, ca_X2_lowestTouched.2.1, ca_X2_lowestTouched.2.2.1, ca_X2_lowestTouched.2.2.2⟩, wd_3_128, wd_3_129⟩
theorem lk_X6_336 : eLkS RX6 336 mX6_throwFor 1 := ⟨⟨wd_4_44, ca_X6_throwFor.1, ca_X6_throwFor.2.1, ca_X6_throwFor.2.2.1, ca_X6_throwFor.2.2.2⟩, wd_4_45⟩
theorem lk_X6_290 : eLkV RX6 290 mX4_push 1 := ⟨⟨wd_4_82, ca_X4_push.1, ca_X4_push.2.1, ca_X4_push.2.2.1, ca_X4_push.2.2.2⟩, wd_4_83, wd_4_84⟩
theorem lk_X4_25 : eLkV RX4 25 mX2_copyFrom 1 := ⟨⟨wd_4_86, ca_X2_copyFrom.1, ca_X2_copyFrom.2.1, ca_X2_copyFrom.2.2.1, ca_X2_copyFrom.2.2.2⟩, wd_4_87, wd_4_88⟩
theorem lk_X2_76 : eLkV RX2 76 mX0_copyFrom 1 := ⟨⟨wd_4_93, ca_X0_copyFrom.1, ca_X0_copyFrom.2.1, ca_X0_copyFrom.2.2.1, ca_X0_copyFrom.2.2.2⟩, wd_4_94, wd_4_95⟩
theorem lk_X2_80 : eLkV RX2 80 mX5_copyFrom 1 := ⟨⟨wd_4_98, ca_X5_copyFrom.1, ca_X5_copyFrom.2.1, ca_X5_copyFrom.2.2.1, ca_X5_copyFrom.2.2.2⟩, wd_4_99, wd_4_100⟩
theorem lk_X4_29 : eLkS RX4 29 mJ9_min_7cf53 2 := ⟨⟨wd_4_103, ca_J9_min_7cf53.1, ca_J9_min_7cf53.2.1, ca_J9_min_7cf53.2.2.1, ca_J9_min_7cf53.2.2.2⟩, wd_3_216⟩
theorem lk_X6_71 : eLkV RX6 71 mX2_add 3 := ⟨⟨wd_4_104, ca_X2_add.1, ca_X2_add.2.1, ca_X2_add.2.2.1, ca_X2_add.2.2.2⟩, wd_4_105, wd_4_106⟩
theorem lk_L_81 : eLkS RL 81 mL_addCloud 3 := ⟨⟨wd_4_108, ca_L_addCloud.1, ca_L_addCloud.2.1, ca_L_addCloud.2.2.1, ca_L_addCloud.2.2.2⟩, wd_4_109⟩
theorem lk_L_43 : eLkV RL 43 mX6_addCloud 2 := ⟨⟨wd_4_111, ca_X6_addCloud.1, ca_X6_addCloud.2.1, ca_X6_addCloud.2.2.1, ca_X6_addCloud.2.2.2⟩, wd_4_112, wd_4_113⟩
theorem lk_X6_129 : eLkV RX6 129 mX0_put 2 := ⟨⟨wd_4_115, ca_X0_put.1, ca_X0_put.2.1, ca_X0_put.2.2.1, ca_X0_put.2.2.2⟩, wd_4_116, wd_4_117⟩
theorem lk_X0_23 : eLkV RX0 23 mX0_covers 2 := ⟨⟨wd_4_119, ca_X0_covers.1, ca_X0_covers.2.1, ca_X0_covers.2.2.1, ca_X0_covers.2.2.2⟩, wd_2_162, wd_2_163⟩
theorem lk_L_84 : eLkS RL 84 mL_setTarget 3 := ⟨⟨wd_4_120, ca_L_setTarget.1, ca_L_setTarget.2.1, ca_L_setTarget.2.2.1, ca_L_setTarget.2.2.2⟩, wd_4_121⟩
theorem lk_L_58 : eLkV RL 58 mX6_setTarget 2 := ⟨⟨wd_4_123, ca_X6_setTarget.1, ca_X6_setTarget.2.1, ca_X6_setTarget.2.2.1, ca_X6_setTarget.2.2.2⟩, wd_4_124, wd_4_125⟩
theorem lk_X6_162 : eLkV RX6 162 mX2_replaceGoal 2 := ⟨⟨wd_4_127, ca_X2_replaceGoal.1, ca_X2_replaceGoal.2.1, ca_X2_replaceGoal.2.2.1, ca_X2_replaceGoal.2.2.2⟩, wd_4_128, wd_4_129⟩
theorem lk_L_86 : eLkS RL 86 mL_acts 3 := ⟨⟨wd_4_131, ca_L_acts.1, ca_L_acts.2.1, ca_L_acts.2.2.1, ca_L_acts.2.2.2⟩, wd_4_132⟩
theorem lk_L_93 : eLkS RL 93 mL_jump 4 := ⟨⟨wd_4_134, ca_L_jump.1, ca_L_jump.2.1, ca_L_jump.2.2.1, ca_L_jump.2.2.2⟩, wd_4_135⟩
theorem lk_L_25 : eLkV RL 25 mX6_jump 3 := ⟨⟨wd_4_137, ca_X6_jump.1, ca_X6_jump.2.1, ca_X6_jump.2.2.1, ca_X6_jump.2.2.2⟩, wd_4_138, wd_4_139⟩
theorem lk_X6_75 : eLkV RX6 75 mX2_put 3 := ⟨⟨wd_4_141, ca_X2_put.1, ca_X2_put.2.1, ca_X2_put.2.2.1, ca_X2_put.2.2.2⟩, wd_4_142, wd_4_143⟩
theorem lk_L_95 : eLkS RL 95 mL_setHandle 3 := ⟨⟨wd_4_145, ca_L_setHandle.1, ca_L_setHandle.2.1, ca_L_setHandle.2.2.1, ca_L_setHandle.2.2.2⟩, wd_4_146⟩
theorem lk_L_30 : eLkV RL 30 mX6_setHandle 2 := ⟨⟨wd_4_148, ca_X6_setHandle.1, ca_X6_setHandle.2.1, ca_X6_setHandle.2.2.1, ca_X6_setHandle.2.2.2⟩, wd_4_149, wd_4_150⟩
theorem lk_X6_78 : eLkV RX6 78 mX2_replaceHandle 2 := ⟨⟨wd_4_152, ca_X2_replaceHandle.1, ca_X2_replaceHandle.2.1, ca_X2_replaceHandle.2.2.1, ca_X2_replaceHandle.2.2.2⟩, wd_4_153, wd_4_154⟩
theorem lk_L_97 : eLkS RL 97 mL_removeCloud 3 := ⟨⟨wd_4_156, ca_L_removeCloud.1, ca_L_removeCloud.2.1, ca_L_removeCloud.2.2.1, ca_L_removeCloud.2.2.2⟩, wd_4_157⟩
theorem lk_L_46 : eLkV RL 46 mX6_removeCloud 2 := ⟨⟨wd_4_159, ca_X6_removeCloud.1, ca_X6_removeCloud.2.1, ca_X6_removeCloud.2.2.1, ca_X6_removeCloud.2.2.2⟩, wd_4_160, wd_4_161⟩
theorem lk_X6_133 : eLkV RX6 133 mX0_remove 2 := ⟨⟨wd_4_163, ca_X0_remove.1, ca_X0_remove.2.1, ca_X0_remove.2.2.1, ca_X0_remove.2.2.2⟩, wd_4_164, wd_4_165⟩
theorem lk_L_99 : eLkS RL 99 mL_setTurnLength 2 := ⟨⟨wd_4_167, ca_L_setTurnLength.1, ca_L_setTurnLength.2.1, ca_L_setTurnLength.2.2.1, ca_L_setTurnLength.2.2.2⟩, wd_4_168⟩
theorem lk_L_49 : eLkV RL 49 mX6_setTurnLength 1 := ⟨⟨wd_4_170, ca_X6_setTurnLength.1, ca_X6_setTurnLength.2.1, ca_X6_setTurnLength.2.2.1, ca_X6_setTurnLength.2.2.2⟩, wd_4_171, wd_4_172⟩
theorem lk_X6_141 : eLkV RX6 141 mX2_replaceTurn 1 := ⟨⟨wd_4_174, ca_X2_replaceTurn.1, ca_X2_replaceTurn.2.1, ca_X2_replaceTurn.2.2.1, ca_X2_replaceTurn.2.2.2⟩, wd_4_175, wd_4_176⟩
theorem lk_L_102 : eLkS RL 102 mL_setKeep 2 := ⟨⟨wd_4_178, ca_L_setKeep.1, ca_L_setKeep.2.1, ca_L_setKeep.2.2.1, ca_L_setKeep.2.2.2⟩, wd_4_179⟩
theorem lk_L_61 : eLkV RL 61 mX6_setKeep 1 := ⟨⟨wd_4_181, ca_X6_setKeep.1, ca_X6_setKeep.2.1, ca_X6_setKeep.2.2.1, ca_X6_setKeep.2.2.2⟩, wd_4_182, wd_4_183⟩
theorem lk_X6_187 : eLkV RX6 187 mX2_replaceKept 1 := ⟨⟨wd_4_185, ca_X2_replaceKept.1, ca_X2_replaceKept.2.1, ca_X2_replaceKept.2.2.1, ca_X2_replaceKept.2.2.2⟩, wd_4_186, wd_4_187⟩
theorem lk_L_104 : eLkS RL 104 mL_advance 2 := ⟨⟨wd_4_189, ca_L_advance.1, ca_L_advance.2.1, ca_L_advance.2.2.1, ca_L_advance.2.2.2⟩, wd_4_190⟩
theorem lk_L_64 : eLkV RL 64 mX6_advance 1 := ⟨⟨wd_4_192, ca_X6_advance.1, ca_X6_advance.2.1, ca_X6_advance.2.2.1, ca_X6_advance.2.2.2⟩, wd_4_193, wd_4_194⟩
theorem lk_X6_182 : eLkV RX6 182 mX2_passSteps 1 := ⟨⟨wd_4_196, ca_X2_passSteps.1, ca_X2_passSteps.2.1, ca_X2_passSteps.2.2.1, ca_X2_passSteps.2.2.2⟩, wd_4_197, wd_4_198⟩
theorem lk_X2_152 : eLkV RX2 152 mX2_moveLeader 0 := ⟨⟨wd_4_200, ca_X2_moveLeader.1, ca_X2_moveLeader.2.1, ca_X2_moveLeader.2.2.1, ca_X2_moveLeader.2.2.2⟩, wd_4_201, wd_4_202⟩
theorem lk_X2_165 : eLkV RX2 165 mX2_hasTarget 0 := ⟨⟨wd_4_204, ca_X2_hasTarget.1, ca_X2_hasTarget.2.1, ca_X2_hasTarget.2.2.1, ca_X2_hasTarget.2.2.2⟩, wd_4_205, wd_4_206⟩
theorem lk_X2_169 : eLkV RX2 169 mX2_leaderIsOnTarget 0 := ⟨⟨wd_4_208, ca_X2_leaderIsOnTarget.1, ca_X2_leaderIsOnTarget.2.1, ca_X2_leaderIsOnTarget.2.2.1, ca_X2_leaderIsOnTarget.2.2.2⟩, wd_4_209, wd_4_210⟩
theorem lk_X2_172 : eLkS RX2 172 mX2_oneTowards 2 := ⟨⟨wd_4_212, ca_X2_oneTowards.1, ca_X2_oneTowards.2.1, ca_X2_oneTowards.2.2.1, ca_X2_oneTowards.2.2.2⟩, wd_4_213⟩
theorem lk_X2_180 : eLkV RX2 180 mX2_goTo 3 := ⟨⟨wd_4_215, ca_X2_goTo.1, ca_X2_goTo.2.1, ca_X2_goTo.2.2.1, ca_X2_goTo.2.2.2⟩, wd_4_216, wd_4_217⟩
theorem lk_X2_156 : eLkV RX2 156 mX2_moveFollower 1 := ⟨⟨wd_4_219, ca_X2_moveFollower.1, ca_X2_moveFollower.2.1, ca_X2_moveFollower.2.2.1, ca_X2_moveFollower.2.2.2⟩, wd_4_220, wd_4_221⟩
theorem lk_X2_159 : eLkV RX2 159 mX2_rememberShape 0 := ⟨⟨wd_4_223, ca_X2_rememberShape.1, ca_X2_rememberShape.2.1, ca_X2_rememberShape.2.2.1, ca_X2_rememberShape.2.2.2⟩, wd_4_224, wd_4_225⟩
theorem lk_X2_189 : eLkV RX2 189 mX5_remember 1 := ⟨⟨wd_4_227, ca_X5_remember.1, ca_X5_remember.2.1, ca_X5_remember.2.2.1, ca_X5_remember.2.2.2⟩, wd_4_228, wd_4_229⟩
theorem lk_X5_28 : eLkS RX5 28 mJ9_min_7cf53 2 := ⟨⟨wd_4_231, ca_J9_min_7cf53.1, ca_J9_min_7cf53.2.1, ca_J9_min_7cf53.2.2.1, ca_J9_min_7cf53.2.2.2⟩, wd_3_216⟩
theorem lk_X2_162 : eLkV RX2 162 mX2_passLead 0 := ⟨⟨wd_4_232, ca_X2_passLead.1, ca_X2_passLead.2.1, ca_X2_passLead.2.2.1, ca_X2_passLead.2.2.2⟩, wd_4_233, wd_4_234⟩
theorem lk_L_189 : eLkS RL 189 mL_isLine 3 := ⟨⟨wd_4_236, ca_L_isLine.1, ca_L_isLine.2.1, ca_L_isLine.2.2.1, ca_L_isLine.2.2.2⟩, wd_4_237⟩
theorem lk_L_106 : eLkV RL 106 mJ0_length_8abf5 0 := ⟨⟨wd_4_239, ca_J0_length_8abf5.1, ca_J0_length_8abf5.2.1, ca_J0_length_8abf5.2.2.1, ca_J0_length_8abf5.2.2.2⟩, wd_5_0, wd_5_1⟩
theorem lk_J0_335 : eLkV RJ0 335 mJ0_coder_7d493 0 := ⟨⟨wd_5_3, ca_J0_coder_7d493.1, ca_J0_coder_7d493.2.1, ca_J0_coder_7d493.2.2.1, ca_J0_coder_7d493.2.2.2⟩, wd_5_4, wd_5_5⟩
theorem lk_L_111 : eLkV RL 111 mX6_lineAt 1 := ⟨⟨wd_5_9, ca_X6_lineAt.1, ca_X6_lineAt.2.1, ca_X6_lineAt.2.2.1, ca_X6_lineAt.2.2.2⟩, wd_5_10, wd_5_11⟩
theorem lk_L_115 : eLkV RL 115 mJ0_charAt_5068e 1 := ⟨⟨wd_5_14, ca_J0_charAt_5068e.1, ca_J0_charAt_5068e.2.1, ca_J0_charAt_5068e.2.2.1, ca_J0_charAt_5068e.2.2.2⟩, wd_5_15, wd_5_16⟩
theorem lk_J0_492 : eLkV RJ0 492 mJ0_isLatin1_aae02 0 := ⟨⟨wd_5_18, ca_J0_isLatin1_aae02.1, ca_J0_isLatin1_aae02.2.1, ca_J0_isLatin1_aae02.2.2.1, ca_J0_isLatin1_aae02.2.2.2⟩, wd_5_19, wd_5_20⟩
theorem lk_J0_495 : eLkS RJ0 495 mJ1_charAt_3b067 2 := ⟨⟨wd_5_22, ca_J1_charAt_3b067.1, ca_J1_charAt_3b067.2.1, ca_J1_charAt_3b067.2.2.1, ca_J1_charAt_3b067.2.2.2⟩, wd_5_23⟩
theorem lk_J1_9 : eLkS RJ1 9 mJ0_checkIndex_df160 2 := ⟨⟨wd_5_25, ca_J0_checkIndex_df160.1, ca_J0_checkIndex_df160.2.1, ca_J0_checkIndex_df160.2.2.1, ca_J0_checkIndex_df160.2.2.2⟩, wd_5_26⟩
theorem lk_J0_1059 : eLkS RJ0 1059 mJ3_checkIndex_8e157 3 := ⟨⟨wd_5_30, ca_J3_checkIndex_8e157.1, ca_J3_checkIndex_8e157.2.1, ca_J3_checkIndex_8e157.2.2.1, ca_J3_checkIndex_8e157.2.2.2⟩, wd_5_31⟩
theorem lk_J0_498 : eLkS RJ0 498 mJ2_charAt_3b067 2 := ⟨⟨wd_5_33, ca_J2_charAt_3b067.1, ca_J2_charAt_3b067.2.1, ca_J2_charAt_3b067.2.2.1, ca_J2_charAt_3b067.2.2.2⟩, wd_5_34⟩
theorem lk_J2_67 : eLkS RJ2 67 mJ2_checkIndex_2214a 2 := ⟨⟨wd_5_36, ca_J2_checkIndex_2214a.1, ca_J2_checkIndex_2214a.2.1, ca_J2_checkIndex_2214a.2.2.1, ca_J2_checkIndex_2214a.2.2.2⟩, wd_5_37⟩
theorem lk_J2_48 : eLkS RJ2 48 mJ2_length_9d52b 1 := ⟨⟨wd_5_39, ca_J2_length_9d52b.1, ca_J2_length_9d52b.2.1, ca_J2_length_9d52b.2.2.1, ca_J2_length_9d52b.2.2.2⟩, wd_5_40⟩
theorem lk_J2_414 : eLkS RJ2 414 mJ0_checkIndex_df160 2 := ⟨⟨wd_5_42, ca_J0_checkIndex_df160.1, ca_J0_checkIndex_df160.2.1, ca_J0_checkIndex_df160.2.2.1, ca_J0_checkIndex_df160.2.2.2⟩, wd_5_26⟩
theorem lk_J2_71 : eLkS RJ2 71 mJ2_getChar_3b067 2 := ⟨⟨wd_5_43, ca_J2_getChar_3b067.1, ca_J2_getChar_3b067.2.1, ca_J2_getChar_3b067.2.2.1, ca_J2_getChar_3b067.2.2.2⟩, wd_5_44⟩
theorem lk_L_140 : eLkS RL 140 mJ9_abs_0f7a4 1 := ⟨⟨wd_5_52, ca_J9_abs_0f7a4.1, ca_J9_abs_0f7a4.2.1, ca_J9_abs_0f7a4.2.2.1, ca_J9_abs_0f7a4.2.2.2⟩, wd_2_155⟩
theorem lk_L_161 : eLkS RL 161 mJ9_max_7cf53 2 := ⟨⟨wd_5_53, ca_J9_max_7cf53.1, ca_J9_max_7cf53.2.1, ca_J9_max_7cf53.2.2.1, ca_J9_max_7cf53.2.2.2⟩, wd_3_5⟩
theorem lk_L_132 : eLkS RL 132 mJ9_min_7cf53 2 := ⟨⟨wd_5_54, ca_J9_min_7cf53.1, ca_J9_min_7cf53.2.1, ca_J9_min_7cf53.2.2.1, ca_J9_min_7cf53.2.2.2⟩, wd_3_216⟩
theorem li_L_170 : eLkI RL 170 mJ4_init_da8c8 0 := ⟨⟨wd_5_57, ca_J4_init_da8c8.1, ca_J4_init_da8c8.2.1, ca_J4_init_da8c8.2.2.1, ca_J4_init_da8c8.2.2.2⟩, wd_5_58, rfl⟩
theorem li_J4_1 : eLkI RJ4 1 mJ5_init_d00df 1 := ⟨⟨wd_5_60, ca_J5_init_d00df.1, ca_J5_init_d00df.2.1, ca_J5_init_d00df.2.2.1, ca_J5_init_d00df.2.2.2⟩, wd_5_61, rfl⟩
theorem lk_J5_26 : eLkS RJ5 26 mJ2_newBytesFor_77867 1 := ⟨⟨wd_5_65, ca_J2_newBytesFor_77867.1, ca_J2_newBytesFor_77867.2.1, ca_J2_newBytesFor_77867.2.2.1, ca_J2_newBytesFor_77867.2.2.2⟩, wd_5_66⟩
theorem lk_J2_11 : eLkS RJ2 11 mJ2_newBytesLength_0f7a4 1 := ⟨⟨wd_5_68, ca_J2_newBytesLength_0f7a4.1, ca_J2_newBytesLength_0f7a4.2.1, ca_J2_newBytesLength_0f7a4.2.2.1, ca_J2_newBytesLength_0f7a4.2.2.2⟩, wd_5_69⟩
theorem lk_L_171 : eLkV RL 171 mJ4_append_15ec4 1 := ⟨⟨wd_5_85, ca_J4_append_15ec4.1, ca_J4_append_15ec4.2.1, ca_J4_append_15ec4.2.2.1, ca_J4_append_15ec4.2.2.2⟩, wd_5_86, wd_5_87⟩
theorem lu_J4_29 : eLkSU RJ4 29 mJ5_append_cf1ce 1 := ⟨⟨wd_5_89, ca_J5_append_cf1ce.1, ca_J5_append_cf1ce.2.1, ca_J5_append_cf1ce.2.2.1, ca_J5_append_cf1ce.2.2.2⟩, wd_6_29, wd_5_84, wd_5_90, by decide⟩
theorem lu_J5_204 : eLkU RJ5 204 mJ5_appendNull_278bc mJ5_appendNull_278bc RJ4 0 := ⟨wd_5_92, ca_J5_appendNull_278bc.1, ca_J5_appendNull_278bc.2.1, ca_J5_appendNull_278bc.2.2, wd_6_30, wd_5_94, ca_J5_appendNull_278bc.2.1, (eTB_sp (List.mem_of_getElem? (i := 0) rfl)), wd_5_94⟩
theorem lu_J5_100 : eLkU RJ5 100 mJ5_ensureCapacityInternal_d00df mJ5_ensureCapacityInternal_d00df RJ4 1 := ⟨wd_5_96, ca_J5_ensureCapacityInternal_d00df.1, ca_J5_ensureCapacityInternal_d00df.2.1, ca_J5_ensureCapacityInternal_d00df.2.2, wd_6_31, wd_5_98, ca_J5_ensureCapacityInternal_d00df.2.1, (eTB_sp (List.mem_of_getElem? (i := 1) rfl)), wd_5_98⟩
theorem lu_J5_104 : eLkU RJ5 104 mJ5_newCapacity_0f7a4 mJ5_newCapacity_0f7a4 RJ4 1 := ⟨wd_5_100, ca_J5_newCapacity_0f7a4.1, ca_J5_newCapacity_0f7a4.2.1, ca_J5_newCapacity_0f7a4.2.2, wd_6_32, wd_5_102, ca_J5_newCapacity_0f7a4.2.1, (eTB_sp (List.mem_of_getElem? (i := 2) rfl)), wd_5_102⟩
theorem lk_J5_114 : eLkS RJ5 114 mJ8_newLength_cabcc 3 := ⟨⟨wd_5_104, ca_J8_newLength_cabcc.1, ca_J8_newLength_cabcc.2.1, ca_J8_newLength_cabcc.2.2.1, ca_J8_newLength_cabcc.2.2.2⟩, wd_5_105⟩
theorem lk_J8_194 : eLkS RJ8 194 mJ9_max_7cf53 2 := ⟨⟨wd_5_107, ca_J9_max_7cf53.1, ca_J9_max_7cf53.2.1, ca_J9_max_7cf53.2.2.1, ca_J9_max_7cf53.2.2.2⟩, wd_3_5⟩
theorem lk_J8_201 : eLkS RJ8 201 mJ8_hugeLength_7cf53 2 := ⟨⟨wd_5_109, ca_J8_hugeLength_7cf53.1, ca_J8_hugeLength_7cf53.2.1, ca_J8_hugeLength_7cf53.2.2.1, ca_J8_hugeLength_7cf53.2.2.2⟩, wd_5_110⟩
theorem lk_J5_108 : eLkS RJ5 108 mJ7_copyOf_9075b 2 := ⟨⟨wd_5_113, ca_J7_copyOf_9075b.1, ca_J7_copyOf_9075b.2.1, ca_J7_copyOf_9075b.2.2.1, ca_J7_copyOf_9075b.2.2.2⟩, wd_5_114⟩
theorem lk_J7_304 : eLkS RJ7 304 mJ9_min_7cf53 2 := ⟨⟨wd_5_123, ca_J9_min_7cf53.1, ca_J9_min_7cf53.2.1, ca_J9_min_7cf53.2.2.1, ca_J9_min_7cf53.2.2.2⟩, wd_3_216⟩
theorem lu_J5_83 : eLkU RJ5 83 mJ5_isLatin1_aae02 mJ5_isLatin1_aae02 RJ4 0 := ⟨wd_5_125, ca_J5_isLatin1_aae02.1, ca_J5_isLatin1_aae02.2.1, ca_J5_isLatin1_aae02.2.2, wd_5_127, wd_5_126, ca_J5_isLatin1_aae02.2.1, wd_5_128, wd_5_126⟩
theorem lk_J5_226 : eLkS RJ5 226 mJ2_putCharsAt_cd4e5 6 := ⟨⟨wd_5_130, ca_J2_putCharsAt_cd4e5.1, ca_J2_putCharsAt_cd4e5.2.1, ca_J2_putCharsAt_cd4e5.2.2.1, ca_J2_putCharsAt_cd4e5.2.2.2⟩, wd_5_131⟩
theorem lk_J2_96 : eLkS RJ2 96 mJ2_checkBoundsBeginEnd_d044e 3 := ⟨⟨wd_5_133, ca_J2_checkBoundsBeginEnd_d044e.1, ca_J2_checkBoundsBeginEnd_d044e.2.1, ca_J2_checkBoundsBeginEnd_d044e.2.2.1, ca_J2_checkBoundsBeginEnd_d044e.2.2.2⟩, wd_5_134⟩
theorem lk_J2_241 : eLkS RJ2 241 mJ0_checkBoundsBeginEnd_23922 3 := ⟨⟨wd_5_136, ca_J0_checkBoundsBeginEnd_23922.1, ca_J0_checkBoundsBeginEnd_23922.2.1, ca_J0_checkBoundsBeginEnd_23922.2.2.1, ca_J0_checkBoundsBeginEnd_23922.2.2.2⟩, wd_5_137⟩
theorem lk_J0_1062 : eLkS RJ0 1062 mJ3_checkFromToIndex_8c36e 4 := ⟨⟨wd_5_139, ca_J3_checkFromToIndex_8c36e.1, ca_J3_checkFromToIndex_8c36e.2.1, ca_J3_checkFromToIndex_8c36e.2.2.1, ca_J3_checkFromToIndex_8c36e.2.2.2⟩, wd_5_140⟩
theorem lk_J2_111 : eLkS RJ2 111 mJ2_putChar_b72d1 3 := ⟨⟨wd_5_142, ca_J2_putChar_b72d1.1, ca_J2_putChar_b72d1.2.1, ca_J2_putChar_b72d1.2.2.1, ca_J2_putChar_b72d1.2.2.2⟩, wd_5_143⟩
theorem lk_J5_32 : eLkV RJ5 32 mJ0_length_8abf5 0 := ⟨⟨wd_5_145, ca_J0_length_8abf5.1, ca_J0_length_8abf5.2.1, ca_J0_length_8abf5.2.2.1, ca_J0_length_8abf5.2.2.2⟩, wd_5_0, wd_5_1⟩
theorem lu_J5_208 : eLkU RJ5 208 mJ5_putStringAt_47b60 mJ5_putStringAt_47b60 RJ4 2 := ⟨wd_5_146, ca_J5_putStringAt_47b60.1, ca_J5_putStringAt_47b60.2.1, ca_J5_putStringAt_47b60.2.2, wd_6_33, wd_5_148, ca_J5_putStringAt_47b60.2.1, (eTB_sp (List.mem_of_getElem? (i := 3) rfl)), wd_5_148⟩
theorem lu_J5_397 : eLkU RJ5 397 mJ5_inflateIfNeededFor_a7421 mJ5_inflateIfNeededFor_a7421 RJ4 1 := ⟨wd_5_150, ca_J5_inflateIfNeededFor_a7421.1, ca_J5_inflateIfNeededFor_a7421.2.1, ca_J5_inflateIfNeededFor_a7421.2.2, wd_6_34, wd_5_152, ca_J5_inflateIfNeededFor_a7421.2.1, (eTB_sp (List.mem_of_getElem? (i := 4) rfl)), wd_5_152⟩
theorem lk_J5_40 : eLkV RJ5 40 mJ0_coder_7d493 0 := ⟨⟨wd_5_154, ca_J0_coder_7d493.1, ca_J0_coder_7d493.2.1, ca_J0_coder_7d493.2.2.1, ca_J0_coder_7d493.2.2.2⟩, wd_5_4, wd_5_5⟩
theorem lu_J5_195 : eLkU RJ5 195 mJ5_inflate_da8c8 mJ5_inflate_da8c8 RJ4 0 := ⟨wd_5_155, ca_J5_inflate_da8c8.1, ca_J5_inflate_da8c8.2.1, ca_J5_inflate_da8c8.2.2, wd_6_35, wd_5_157, ca_J5_inflate_da8c8.2.1, (eTB_sp (List.mem_of_getElem? (i := 5) rfl)), wd_5_157⟩
theorem lk_J5_125 : eLkS RJ5 125 mJ1_inflate_0e8fd 5 := ⟨⟨wd_5_159, ca_J1_inflate_0e8fd.1, ca_J1_inflate_0e8fd.2.1, ca_J1_inflate_0e8fd.2.2.1, ca_J1_inflate_0e8fd.2.2.2⟩, wd_5_160⟩
theorem lk_J1_240 : eLkS RJ1 240 mJ2_inflate_0e8fd 5 := ⟨⟨wd_5_162, ca_J2_inflate_0e8fd.1, ca_J2_inflate_0e8fd.2.1, ca_J2_inflate_0e8fd.2.2.1, ca_J2_inflate_0e8fd.2.2.2⟩, wd_5_163⟩
theorem lk_J2_173 : eLkS RJ2 173 mJ2_checkBoundsOffCount_d044e 3 := ⟨⟨wd_5_165, ca_J2_checkBoundsOffCount_d044e.1, ca_J2_checkBoundsOffCount_d044e.2.1, ca_J2_checkBoundsOffCount_d044e.2.2.1, ca_J2_checkBoundsOffCount_d044e.2.2.2⟩, wd_5_166⟩
theorem lk_J2_419 : eLkS RJ2 419 mJ0_checkBoundsOffCount_cabcc 3 := ⟨⟨wd_5_168, ca_J0_checkBoundsOffCount_cabcc.1, ca_J0_checkBoundsOffCount_cabcc.2.1, ca_J0_checkBoundsOffCount_cabcc.2.2.1, ca_J0_checkBoundsOffCount_cabcc.2.2.2⟩, wd_5_169⟩
theorem lk_J0_1065 : eLkS RJ0 1065 mJ3_checkFromIndexSize_8c36e 4 := ⟨⟨wd_5_171, ca_J3_checkFromIndexSize_8c36e.1, ca_J3_checkFromIndexSize_8c36e.2.1, ca_J3_checkFromIndexSize_8c36e.2.2.1, ca_J3_checkFromIndexSize_8c36e.2.2.2⟩, wd_5_172⟩
theorem lk_J5_399 : eLkV RJ5 399 mJ0_getBytes_840e7 3 := ⟨⟨wd_5_174, ca_J0_getBytes_840e7.1, ca_J0_getBytes_840e7.2.1, ca_J0_getBytes_840e7.2.2.1, ca_J0_getBytes_840e7.2.2.2⟩, wd_5_175, wd_5_176⟩
theorem lk_J0_106 : eLkS RJ0 106 mJ1_inflate_0e8fd 5 := ⟨⟨wd_5_179, ca_J1_inflate_0e8fd.1, ca_J1_inflate_0e8fd.2.1, ca_J1_inflate_0e8fd.2.2.1, ca_J1_inflate_0e8fd.2.2.2⟩, wd_5_160⟩
theorem lk_L_175 : eLkV RL 175 mJ4_append_bf812 1 := ⟨⟨wd_5_180, ca_J4_append_bf812.1, ca_J4_append_bf812.2.1, ca_J4_append_bf812.2.2.1, ca_J4_append_bf812.2.2.2⟩, wd_5_181, wd_5_182⟩
theorem lu_J4_53 : eLkSU RJ4 53 mJ5_append_c97b9 1 := ⟨⟨wd_5_184, ca_J5_append_c97b9.1, ca_J5_append_c97b9.2.1, ca_J5_append_c97b9.2.2.1, ca_J5_append_c97b9.2.2.2⟩, wd_6_36, wd_5_84, wd_5_185, by decide⟩
theorem lk_J5_245 : eLkS RJ5 245 mJ6_stringSize_0f7a4 1 := ⟨⟨wd_5_187, ca_J6_stringSize_0f7a4.1, ca_J6_stringSize_0f7a4.2.1, ca_J6_stringSize_0f7a4.2.2.1, ca_J6_stringSize_0f7a4.2.2.2⟩, wd_5_188⟩
theorem lk_J5_248 : eLkS RJ5 248 mJ6_getChars_ba4f3 3 := ⟨⟨wd_5_190, ca_J6_getChars_ba4f3.1, ca_J6_getChars_ba4f3.2.1, ca_J6_getChars_ba4f3.2.2.1, ca_J6_getChars_ba4f3.2.2.2⟩, wd_5_191⟩
theorem lk_J5_251 : eLkS RJ5 251 mJ2_getChars_46870 4 := ⟨⟨wd_5_197, ca_J2_getChars_46870.1, ca_J2_getChars_46870.2.1, ca_J2_getChars_46870.2.2.1, ca_J2_getChars_46870.2.2.2⟩, wd_5_198⟩
theorem lk_J2_393 : eLkS RJ2 393 mJ2_getChars_ba4f3 3 := ⟨⟨wd_5_200, ca_J2_getChars_ba4f3.1, ca_J2_getChars_ba4f3.2.1, ca_J2_getChars_ba4f3.2.2.1, ca_J2_getChars_ba4f3.2.2.2⟩, wd_5_201⟩
theorem lk_L_178 : eLkV RL 178 mJ4_toString_0e30d 0 := ⟨⟨wd_5_205, ca_J4_toString_0e30d.1, ca_J4_toString_0e30d.2.1, ca_J4_toString_0e30d.2.2.1, ca_J4_toString_0e30d.2.2.2⟩, wd_5_206, wd_5_207⟩
theorem li_J4_137 : eLkI RJ4 137 mJ0_init_81219 1 := ⟨⟨wd_5_210, ca_J0_init_81219.1, ca_J0_init_81219.2.1, ca_J0_init_81219.2.2.1, ca_J0_init_81219.2.2.2⟩, wd_5_211, rfl⟩
theorem li_J0_489 : eLkI RJ0 489 mJ0_init_db425 2 := ⟨⟨wd_5_213, ca_J0_init_db425.1, ca_J0_init_db425.2.1, ca_J0_init_db425.2.2.1, ca_J0_init_db425.2.2.2⟩, wd_5_214, rfl⟩
theorem lu_J0_552 : eLkU RJ0 552 mJ5_getValue_6d5f1 mJ5_getValue_6d5f1 RJ4 0 := ⟨wd_5_217, ca_J5_getValue_6d5f1.1, ca_J5_getValue_6d5f1.2.1, ca_J5_getValue_6d5f1.2.2, wd_5_219, wd_5_218, ca_J5_getValue_6d5f1.2.1, wd_5_220, wd_5_218⟩
theorem lu_J0_549 : eLkU RJ0 549 mJ5_length_8abf5 mJ4_length_8abf5 RJ4 0 := ⟨wd_5_222, ca_J4_length_8abf5.1, ca_J4_length_8abf5.2.1, ca_J5_length_8abf5.2.2, wd_5_224, wd_5_223, ca_J5_length_8abf5.2.1, wd_5_225, wd_5_226⟩
theorem lu_J4_343 : eLkSU RJ4 343 mJ5_length_8abf5 0 := ⟨⟨wd_5_228, ca_J5_length_8abf5.1, ca_J5_length_8abf5.2.1, ca_J5_length_8abf5.2.2.1, ca_J5_length_8abf5.2.2.2⟩, wd_5_224, wd_5_84, wd_5_223, by decide⟩
theorem lu_J0_1047 : eLkU RJ0 1047 mJ5_isLatin1_aae02 mJ5_isLatin1_aae02 RJ4 0 := ⟨wd_5_230, ca_J5_isLatin1_aae02.1, ca_J5_isLatin1_aae02.2.1, ca_J5_isLatin1_aae02.2.2, wd_5_127, wd_5_126, ca_J5_isLatin1_aae02.2.1, wd_5_128, wd_5_126⟩
theorem lk_J0_54 : eLkS RJ0 54 mJ7_copyOfRange_39247 3 := ⟨⟨wd_5_231, ca_J7_copyOfRange_39247.1, ca_J7_copyOfRange_39247.2.1, ca_J7_copyOfRange_39247.2.2.1, ca_J7_copyOfRange_39247.2.2.2⟩, wd_5_232⟩
theorem lk_J7_339 : eLkS RJ7 339 mJ7_copyOfRangeByte_39247 3 := ⟨⟨wd_5_234, ca_J7_copyOfRangeByte_39247.1, ca_J7_copyOfRangeByte_39247.2.1, ca_J7_copyOfRangeByte_39247.2.2.1, ca_J7_copyOfRangeByte_39247.2.2.2⟩, wd_5_235⟩
theorem lk_J7_343 : eLkS RJ7 343 mJ7_checkLength_df160 2 := ⟨⟨wd_5_237, ca_J7_checkLength_df160.1, ca_J7_checkLength_df160.2.1, ca_J7_checkLength_df160.2.2.1, ca_J7_checkLength_df160.2.2.2⟩, wd_5_238⟩
theorem li_J7_47 : eLkI RJ7 47 mJ4_init_da8c8 0 := ⟨⟨wd_6_2, ca_J4_init_da8c8.1, ca_J4_init_da8c8.2.1, ca_J4_init_da8c8.2.2.1, ca_J4_init_da8c8.2.2.2⟩, wd_5_58, rfl⟩
theorem lk_J7_54 : eLkV RJ7 54 mJ4_append_bf812 1 := ⟨⟨wd_6_3, ca_J4_append_bf812.1, ca_J4_append_bf812.2.1, ca_J4_append_bf812.2.2.1, ca_J4_append_bf812.2.2.2⟩, wd_5_181, wd_5_182⟩
theorem lk_J7_50 : eLkV RJ7 50 mJ4_append_15ec4 1 := ⟨⟨wd_6_5, ca_J4_append_15ec4.1, ca_J4_append_15ec4.2.1, ca_J4_append_15ec4.2.2.1, ca_J4_append_15ec4.2.2.2⟩, wd_5_86, wd_5_87⟩
theorem lk_J7_61 : eLkV RJ7 61 mJ4_toString_0e30d 0 := ⟨⟨wd_6_6, ca_J4_toString_0e30d.1, ca_J4_toString_0e30d.2.1, ca_J4_toString_0e30d.2.2.1, ca_J4_toString_0e30d.2.2.2⟩, wd_5_206, wd_5_207⟩
theorem lk_J0_1051 : eLkS RJ0 1051 mJ2_compress_39247 3 := ⟨⟨wd_6_8, ca_J2_compress_39247.1, ca_J2_compress_39247.2.1, ca_J2_compress_39247.2.2.1, ca_J2_compress_39247.2.2.2⟩, wd_6_9⟩
theorem lk_J2_123 : eLkS RJ2 123 mJ2_compress_5af95 5 := ⟨⟨wd_6_11, ca_J2_compress_5af95.1, ca_J2_compress_5af95.2.1, ca_J2_compress_5af95.2.2.1, ca_J2_compress_5af95.2.2.2⟩, wd_6_12⟩
theorem lk_J2_126 : eLkS RJ2 126 mJ7_copyOfRange_39247 3 := ⟨⟨wd_6_14, ca_J7_copyOfRange_39247.1, ca_J7_copyOfRange_39247.2.1, ca_J7_copyOfRange_39247.2.2.1, ca_J7_copyOfRange_39247.2.2.2⟩, wd_5_232⟩
theorem lk_J0_47 : eLkS RJ0 47 mJ2_coderFromArrayLen_85cad 2 := ⟨⟨wd_6_15, ca_J2_coderFromArrayLen_85cad.1, ca_J2_coderFromArrayLen_85cad.2.1, ca_J2_coderFromArrayLen_85cad.2.2.1, ca_J2_coderFromArrayLen_85cad.2.2.2⟩, wd_6_16⟩
theorem ma_X2_175 : eMa RX2 175 Lib.Math.abs.name Lib.Math.abs.code 1 := ⟨wd_2_154, wd_2_155, wd_1_8, wd_2_156⟩
theorem ma_X3_36 : eMa RX3 36 Lib.Math.max.name Lib.Math.max.code 2 := ⟨wd_3_4, wd_3_5, wd_1_8, wd_3_6⟩
theorem ma_X2_212 : eMa RX2 212 Lib.Math.min.name Lib.Math.min.code 2 := ⟨wd_3_215, wd_3_216, wd_1_8, wd_3_217⟩
theorem cp_X2_70 : eCp RX2 70 := ⟨wd_4_90, wd_4_92, wd_4_91, wd_1_17⟩
theorem cp_X0_26 : eCp RX0 26 := ⟨wd_4_97, wd_4_92, wd_4_91, wd_1_17⟩
theorem cp_X5_22 : eCp RX5 22 := ⟨wd_4_102, wd_4_92, wd_4_91, wd_1_17⟩
theorem ma_X4_29 : eMa RX4 29 Lib.Math.min.name Lib.Math.min.code 2 := ⟨wd_4_103, wd_3_216, wd_1_8, wd_3_217⟩
theorem ma_X5_28 : eMa RX5 28 Lib.Math.min.name Lib.Math.min.code 2 := ⟨wd_4_231, wd_3_216, wd_1_8, wd_3_217⟩
theorem ma_L_140 : eMa RL 140 Lib.Math.abs.name Lib.Math.abs.code 1 := ⟨wd_5_52, wd_2_155, wd_1_8, wd_2_156⟩
theorem ma_L_161 : eMa RL 161 Lib.Math.max.name Lib.Math.max.code 2 := ⟨wd_5_53, wd_3_5, wd_1_8, wd_3_6⟩
theorem ma_L_132 : eMa RL 132 Lib.Math.min.name Lib.Math.min.code 2 := ⟨wd_5_54, wd_3_216, wd_1_8, wd_3_217⟩
theorem ma_J8_194 : eMa RJ8 194 Lib.Math.max.name Lib.Math.max.code 2 := ⟨wd_5_107, wd_3_5, wd_1_8, wd_3_6⟩
theorem ma_J7_304 : eMa RJ7 304 Lib.Math.min.name Lib.Math.min.code 2 := ⟨wd_5_123, wd_3_216, wd_1_8, wd_3_217⟩
theorem cp_J7_150 : eCp RJ7 150 := ⟨wd_5_124, wd_4_92, wd_4_91, wd_1_17⟩
theorem cp_J0_212 : eCp RJ0 212 := ⟨wd_5_178, wd_4_92, wd_4_91, wd_1_17⟩
theorem oi_1 : Cond.instanceMethod Lib.objectInit ∈ eTB := wd_1_36
theorem oi_2 : Cond.code Lib.objectInit ⟨#[0xb1]⟩ 1 none ∈ eTB := wd_1_37
