/-! ===== the words, by their places ===== -/
theorem tb_1 {w : Cond} (h : w ∈ tables_1_1) (g : goodWord w = true) : w ∈ eTB := eTB_in (List.mem_append_right _ (List.mem_append_left _ (h))) g
theorem tb_2 {w : Cond} (h : w ∈ tables_1_2) (g : goodWord w = true) : w ∈ eTB := eTB_in (List.mem_append_right _ (List.mem_append_right _ (List.mem_append_left _ (h)))) g
theorem tb_3 {w : Cond} (h : w ∈ tables_1_3) (g : goodWord w = true) : w ∈ eTB := eTB_in (List.mem_append_right _ (List.mem_append_right _ (List.mem_append_right _ (List.mem_append_left _ (h))))) g
theorem tb_4 {w : Cond} (h : w ∈ tables_1_4) (g : goodWord w = true) : w ∈ eTB := eTB_in (List.mem_append_right _ (List.mem_append_right _ (List.mem_append_right _ (List.mem_append_right _ (List.mem_append_left _ (h)))))) g
theorem tb_5 {w : Cond} (h : w ∈ tables_1_5) (g : goodWord w = true) : w ∈ eTB := eTB_in (List.mem_append_right _ (List.mem_append_right _ (List.mem_append_right _ (List.mem_append_right _ (List.mem_append_right _ (List.mem_append_left _ (h))))))) g
theorem tb_6 {w : Cond} (h : w ∈ tables_1_6) (g : goodWord w = true) : w ∈ eTB := eTB_in (List.mem_append_right _ (List.mem_append_right _ (List.mem_append_right _ (List.mem_append_right _ (List.mem_append_right _ (List.mem_append_right _ (List.mem_append_left _ (h)))))))) g
theorem tb_7 {w : Cond} (h : w ∈ tables_1_7) (g : goodWord w = true) : w ∈ eTB := eTB_in (List.mem_append_right _ (List.mem_append_right _ (List.mem_append_right _ (List.mem_append_right _ (List.mem_append_right _ (List.mem_append_right _ (List.mem_append_right _ (List.mem_append_left _ (h))))))))) g
theorem tb_8 {w : Cond} (h : w ∈ tables_1_8) (g : goodWord w = true) : w ∈ eTB := eTB_in (List.mem_append_right _ (List.mem_append_right _ (List.mem_append_right _ (List.mem_append_right _ (List.mem_append_right _ (List.mem_append_right _ (List.mem_append_right _ (List.mem_append_right _ (h))))))))) g
theorem wd_1_0 : (.initialized RL) ∈ eTB := tb_1 (List.mem_of_getElem? (i := 0) rfl) rfl
theorem wd_1_1 : (.initialized RX6) ∈ eTB := tb_1 (List.mem_of_getElem? (i := 1) rfl) rfl
theorem wd_1_2 : (.initialized RX2) ∈ eTB := tb_1 (List.mem_of_getElem? (i := 2) rfl) rfl
theorem wd_1_3 : (.initialized RX0) ∈ eTB := tb_1 (List.mem_of_getElem? (i := 3) rfl) rfl
theorem wd_1_4 : (.initialized RX5) ∈ eTB := tb_1 (List.mem_of_getElem? (i := 4) rfl) rfl
theorem wd_1_5 : (.initialized RX4) ∈ eTB := tb_1 (List.mem_of_getElem? (i := 5) rfl) rfl
theorem wd_1_6 : (.initialized RX3) ∈ eTB := tb_1 (List.mem_of_getElem? (i := 6) rfl) rfl
theorem wd_1_7 : (.initialized RX1) ∈ eTB := tb_1 (List.mem_of_getElem? (i := 7) rfl) rfl
theorem wd_1_8 : (.initialized RX7) ∈ eTB := tb_1 (List.mem_of_getElem? (i := 8) rfl) rfl
theorem wd_1_9 : (.initialized RJ9) ∈ eTB := tb_1 (List.mem_of_getElem? (i := 9) rfl) rfl
theorem wd_1_10 : (.initialized "java/lang/Throwable") ∈ eTB := tb_1 (List.mem_of_getElem? (i := 10) rfl) rfl
theorem wd_1_11 : (.initialized "java/lang/Exception") ∈ eTB := tb_1 (List.mem_of_getElem? (i := 11) rfl) rfl
theorem wd_1_12 : (.initialized "java/lang/RuntimeException") ∈ eTB := tb_1 (List.mem_of_getElem? (i := 12) rfl) rfl
theorem wd_1_13 : (.initialized "java/lang/IndexOutOfBoundsException") ∈ eTB := tb_1 (List.mem_of_getElem? (i := 13) rfl) rfl
theorem wd_1_14 : (.initialized "java/lang/IllegalArgumentException") ∈ eTB := tb_1 (List.mem_of_getElem? (i := 14) rfl) rfl
theorem wd_1_15 : (.initialized "java/lang/IllegalStateException") ∈ eTB := tb_1 (List.mem_of_getElem? (i := 15) rfl) rfl
theorem wd_1_16 : (.initialized "java/util/NoSuchElementException") ∈ eTB := tb_1 (List.mem_of_getElem? (i := 16) rfl) rfl
theorem wd_1_17 : (.initialized "java/lang/UnsupportedOperationException") ∈ eTB := tb_1 (List.mem_of_getElem? (i := 17) rfl) rfl
theorem wd_1_18 : (.initialized RJ10) ∈ eTB := tb_1 (List.mem_of_getElem? (i := 18) rfl) rfl
theorem wd_1_19 : (.initialized RJx00060) ∈ eTB := tb_1 (List.mem_of_getElem? (i := 19) rfl) rfl
theorem wd_1_20 : (.initialized RJ0) ∈ eTB := tb_1 (List.mem_of_getElem? (i := 20) rfl) rfl
theorem wd_1_21 : (.initialized RJ1) ∈ eTB := tb_1 (List.mem_of_getElem? (i := 21) rfl) rfl
theorem wd_1_22 : (.initialized RJ3) ∈ eTB := tb_1 (List.mem_of_getElem? (i := 22) rfl) rfl
theorem wd_1_23 : (.initialized RJ2) ∈ eTB := tb_1 (List.mem_of_getElem? (i := 23) rfl) rfl
theorem wd_1_24 : (.initialized "java/lang/ArithmeticException") ∈ eTB := tb_1 (List.mem_of_getElem? (i := 24) rfl) rfl
theorem wd_1_25 : (.classLink RL 8 RX6) ∈ eTB := tb_1 (List.mem_of_getElem? (i := 25) rfl) rfl
theorem wd_1_26 : (.instantiable RX6 13) ∈ eTB := tb_1 (List.mem_of_getElem? (i := 26) rfl) rfl
theorem wd_1_27 : (.methodLink RL 144 yX6_init) ∈ eTB := tb_1 (List.mem_of_getElem? (i := 27) rfl) rfl
theorem wd_1_28 : (.instanceMethod yX6_init) ∈ eTB := tb_1 (List.mem_of_getElem? (i := 28) rfl) rfl
theorem wd_1_29 : (mWord mX6_init) ∈ eTB := tb_1 (List.mem_of_getElem? (i := 29) rfl) rfl
theorem wd_1_30 : (.methodLink RX6 1 Lib.objectInit) ∈ eTB := tb_1 (List.mem_of_getElem? (i := 30) rfl) rfl
theorem wd_1_31 : (.instanceMethod Lib.objectInit) ∈ eTB := tb_1 (List.mem_of_getElem? (i := 31) rfl) rfl
theorem wd_1_32 : (.code Lib.objectInit object_method_1_code 1 none) ∈ eTB := tb_1 (List.mem_of_getElem? (i := 32) rfl) rfl
theorem wd_1_33 : (.classLink RX6 7 RX2) ∈ eTB := tb_1 (List.mem_of_getElem? (i := 33) rfl) rfl
theorem wd_1_34 : (.instantiable RX2 16) ∈ eTB := tb_1 (List.mem_of_getElem? (i := 34) rfl) rfl
theorem wd_1_36 : (.instanceMethod yX2_init) ∈ eTB := tb_1 (List.mem_of_getElem? (i := 36) rfl) rfl
theorem wd_1_37 : (mWord mX2_init) ∈ eTB := tb_1 (List.mem_of_getElem? (i := 37) rfl) rfl
theorem wd_1_38 : (.methodLink RX2 3 Lib.objectInit) ∈ eTB := tb_1 (List.mem_of_getElem? (i := 38) rfl) rfl
theorem wd_1_39 : (.classLink RX2 28 RX0) ∈ eTB := tb_1 (List.mem_of_getElem? (i := 39) rfl) rfl
theorem wd_1_40 : (.instantiable RX0 2) ∈ eTB := tb_1 (List.mem_of_getElem? (i := 40) rfl) rfl
theorem wd_1_42 : (.instanceMethod yX0_init) ∈ eTB := tb_1 (List.mem_of_getElem? (i := 42) rfl) rfl
theorem wd_1_43 : (mWord mX0_init) ∈ eTB := tb_1 (List.mem_of_getElem? (i := 43) rfl) rfl
theorem wd_1_44 : (.methodLink RX0 3 Lib.objectInit) ∈ eTB := tb_1 (List.mem_of_getElem? (i := 44) rfl) rfl
theorem wd_1_45 : (.fieldLink RX0 9 RX0 "rows" "[I") ∈ eTB := tb_1 (List.mem_of_getElem? (i := 45) rfl) rfl
theorem wd_1_46 : (.fieldLink RX0 15 RX0 "count" "I") ∈ eTB := tb_1 (List.mem_of_getElem? (i := 46) rfl) rfl
theorem wd_1_47 : (.fieldLink RX2 115 RX0 "count" "I") ∈ eTB := tb_1 (List.mem_of_getElem? (i := 47) rfl) rfl
theorem wd_1_48 : (.fieldLink RX6 140 RX0 "count" "I") ∈ eTB := tb_1 (List.mem_of_getElem? (i := 48) rfl) rfl
theorem wd_1_49 : (.laysFinal "BasketFlock$Clouds" "BasketFlock$Clouds" "rows" "[I") ∈ eTB := tb_1 (List.mem_of_getElem? (i := 49) rfl) rfl
theorem wd_1_51 : (.lays "BasketFlock$Clouds" "BasketFlock$Clouds" "count" "I") ∈ eTB := tb_1 (List.mem_of_getElem? (i := 51) rfl) rfl
theorem wd_1_54 : (.arrayClass .int) ∈ eTB := tb_1 (List.mem_of_getElem? (i := 54) rfl) rfl
theorem wd_1_55 : (.classLink RX2 35 RX5) ∈ eTB := tb_1 (List.mem_of_getElem? (i := 55) rfl) rfl
theorem wd_1_56 : (.instantiable RX5 3) ∈ eTB := tb_1 (List.mem_of_getElem? (i := 56) rfl) rfl
theorem wd_1_58 : (.instanceMethod yX5_init) ∈ eTB := tb_1 (List.mem_of_getElem? (i := 58) rfl) rfl
theorem wd_1_59 : (mWord mX5_init) ∈ eTB := tb_1 (List.mem_of_getElem? (i := 59) rfl) rfl
theorem wd_1_60 : (.methodLink RX5 3 Lib.objectInit) ∈ eTB := tb_1 (List.mem_of_getElem? (i := 60) rfl) rfl
theorem wd_1_61 : (.fieldLink RX5 11 RX5 "remembered" "[J") ∈ eTB := tb_1 (List.mem_of_getElem? (i := 61) rfl) rfl
theorem wd_1_62 : (.fieldLink RX5 15 RX5 "count" "I") ∈ eTB := tb_1 (List.mem_of_getElem? (i := 62) rfl) rfl
theorem wd_1_63 : (.fieldLink RX6 231 RX5 "count" "I") ∈ eTB := tb_1 (List.mem_of_getElem? (i := 63) rfl) rfl
theorem wd_1_64 : (.fieldLink RX5 19 RX5 "next" "I") ∈ eTB := tb_1 (List.mem_of_getElem? (i := 64) rfl) rfl
theorem wd_1_65 : (.laysFinal "BasketFlock$Shapes" "BasketFlock$Shapes" "remembered" "[J") ∈ eTB := tb_1 (List.mem_of_getElem? (i := 65) rfl) rfl
theorem wd_1_67 : (.lays "BasketFlock$Shapes" "BasketFlock$Shapes" "count" "I") ∈ eTB := tb_1 (List.mem_of_getElem? (i := 67) rfl) rfl
theorem wd_1_69 : (.lays "BasketFlock$Shapes" "BasketFlock$Shapes" "next" "I") ∈ eTB := tb_1 (List.mem_of_getElem? (i := 69) rfl) rfl
theorem wd_1_72 : (.arrayClass .long) ∈ eTB := tb_1 (List.mem_of_getElem? (i := 72) rfl) rfl
theorem wd_1_73 : (.fieldLink RX2 9 RX2 "xs" "[I") ∈ eTB := tb_1 (List.mem_of_getElem? (i := 73) rfl) rfl
theorem wd_1_74 : (.fieldLink RX6 89 RX2 "xs" "[I") ∈ eTB := tb_1 (List.mem_of_getElem? (i := 74) rfl) rfl
theorem wd_1_75 : (.fieldLink RX2 15 RX2 "ys" "[I") ∈ eTB := tb_1 (List.mem_of_getElem? (i := 75) rfl) rfl
theorem wd_1_76 : (.fieldLink RX6 93 RX2 "ys" "[I") ∈ eTB := tb_1 (List.mem_of_getElem? (i := 76) rfl) rfl
theorem wd_1_77 : (.fieldLink RX2 18 RX2 "handles" "[I") ∈ eTB := tb_1 (List.mem_of_getElem? (i := 77) rfl) rfl
theorem wd_1_78 : (.fieldLink RX6 96 RX2 "handles" "[I") ∈ eTB := tb_1 (List.mem_of_getElem? (i := 78) rfl) rfl
theorem wd_1_79 : (.fieldLink RX2 21 RX2 "moves" "[I") ∈ eTB := tb_1 (List.mem_of_getElem? (i := 79) rfl) rfl
theorem wd_1_80 : (.fieldLink RX6 196 RX2 "moves" "[I") ∈ eTB := tb_1 (List.mem_of_getElem? (i := 80) rfl) rfl
theorem wd_1_81 : (.fieldLink RX2 24 RX2 "count" "I") ∈ eTB := tb_1 (List.mem_of_getElem? (i := 81) rfl) rfl
theorem wd_1_82 : (.fieldLink RX3 22 RX2 "count" "I") ∈ eTB := tb_1 (List.mem_of_getElem? (i := 82) rfl) rfl
theorem wd_1_83 : (.fieldLink RX6 82 RX2 "count" "I") ∈ eTB := tb_1 (List.mem_of_getElem? (i := 83) rfl) rfl
theorem wd_1_84 : (.fieldLink RX2 31 RX2 "clouds" "LBasketFlock$Clouds;") ∈ eTB := tb_1 (List.mem_of_getElem? (i := 84) rfl) rfl
theorem wd_1_85 : (.fieldLink RX6 125 RX2 "clouds" "LBasketFlock$Clouds;") ∈ eTB := tb_1 (List.mem_of_getElem? (i := 85) rfl) rfl
theorem wd_1_86 : (.fieldLink RX2 38 RX2 "shapes" "LBasketFlock$Shapes;") ∈ eTB := tb_1 (List.mem_of_getElem? (i := 86) rfl) rfl
theorem wd_1_87 : (.fieldLink RX6 227 RX2 "shapes" "LBasketFlock$Shapes;") ∈ eTB := tb_1 (List.mem_of_getElem? (i := 87) rfl) rfl
theorem wd_1_88 : (.fieldLink RX2 42 RX2 "presentShape" "[J") ∈ eTB := tb_1 (List.mem_of_getElem? (i := 88) rfl) rfl
theorem wd_1_89 : (.fieldLink RX2 46 RX2 "leading" "I") ∈ eTB := tb_1 (List.mem_of_getElem? (i := 89) rfl) rfl
theorem wd_1_90 : (.fieldLink RX6 150 RX2 "leading" "I") ∈ eTB := tb_1 (List.mem_of_getElem? (i := 90) rfl) rfl
theorem wd_1_91 : (.fieldLink RX2 49 RX2 "led" "I") ∈ eTB := tb_1 (List.mem_of_getElem? (i := 91) rfl) rfl
theorem wd_1_92 : (.fieldLink RX2 52 RX2 "turn" "I") ∈ eTB := tb_1 (List.mem_of_getElem? (i := 92) rfl) rfl
theorem wd_1_93 : (.fieldLink RX6 144 RX2 "turn" "I") ∈ eTB := tb_1 (List.mem_of_getElem? (i := 93) rfl) rfl
theorem wd_1_94 : (.fieldLink RX2 55 RX2 "goalX" "I") ∈ eTB := tb_1 (List.mem_of_getElem? (i := 94) rfl) rfl
theorem wd_1_95 : (.fieldLink RX6 168 RX2 "goalX" "I") ∈ eTB := tb_1 (List.mem_of_getElem? (i := 95) rfl) rfl
theorem wd_1_96 : (.fieldLink RX2 58 RX2 "goalY" "I") ∈ eTB := tb_1 (List.mem_of_getElem? (i := 96) rfl) rfl
theorem wd_1_97 : (.fieldLink RX6 171 RX2 "goalY" "I") ∈ eTB := tb_1 (List.mem_of_getElem? (i := 97) rfl) rfl
theorem wd_1_98 : (.fieldLink RX2 61 RX2 "kept" "I") ∈ eTB := tb_1 (List.mem_of_getElem? (i := 98) rfl) rfl
theorem wd_1_99 : (.fieldLink RX6 190 RX2 "kept" "I") ∈ eTB := tb_1 (List.mem_of_getElem? (i := 99) rfl) rfl
theorem wd_1_100 : (.fieldLink RX2 64 RX2 "steps" "I") ∈ eTB := tb_1 (List.mem_of_getElem? (i := 100) rfl) rfl
theorem wd_1_101 : (.fieldLink RX6 193 RX2 "steps" "I") ∈ eTB := tb_1 (List.mem_of_getElem? (i := 101) rfl) rfl
theorem wd_1_102 : (.fieldLink RX2 67 RX2 "waits" "I") ∈ eTB := tb_1 (List.mem_of_getElem? (i := 102) rfl) rfl
theorem wd_1_103 : (.fieldLink RX6 203 RX2 "waits" "I") ∈ eTB := tb_1 (List.mem_of_getElem? (i := 103) rfl) rfl
theorem wd_1_104 : (.laysFinal "BasketFlock$Flock" "BasketFlock$Flock" "xs" "[I") ∈ eTB := tb_1 (List.mem_of_getElem? (i := 104) rfl) rfl
theorem wd_1_106 : (.laysFinal "BasketFlock$Flock" "BasketFlock$Flock" "ys" "[I") ∈ eTB := tb_1 (List.mem_of_getElem? (i := 106) rfl) rfl
theorem wd_1_108 : (.laysFinal "BasketFlock$Flock" "BasketFlock$Flock" "handles" "[I") ∈ eTB := tb_1 (List.mem_of_getElem? (i := 108) rfl) rfl
theorem wd_1_110 : (.laysFinal "BasketFlock$Flock" "BasketFlock$Flock" "moves" "[I") ∈ eTB := tb_1 (List.mem_of_getElem? (i := 110) rfl) rfl
theorem wd_1_112 : (.lays "BasketFlock$Flock" "BasketFlock$Flock" "count" "I") ∈ eTB := tb_1 (List.mem_of_getElem? (i := 112) rfl) rfl
theorem wd_1_114 : (.laysFinal "BasketFlock$Flock" "BasketFlock$Flock" "clouds" "LBasketFlock$Clouds;") ∈ eTB := tb_1 (List.mem_of_getElem? (i := 114) rfl) rfl
theorem wd_1_116 : (.laysFinal "BasketFlock$Flock" "BasketFlock$Flock" "shapes" "LBasketFlock$Shapes;") ∈ eTB := tb_1 (List.mem_of_getElem? (i := 116) rfl) rfl
theorem wd_1_118 : (.laysFinal "BasketFlock$Flock" "BasketFlock$Flock" "presentShape" "[J") ∈ eTB := tb_1 (List.mem_of_getElem? (i := 118) rfl) rfl
theorem wd_1_120 : (.lays "BasketFlock$Flock" "BasketFlock$Flock" "leading" "I") ∈ eTB := tb_1 (List.mem_of_getElem? (i := 120) rfl) rfl
theorem wd_1_122 : (.lays "BasketFlock$Flock" "BasketFlock$Flock" "led" "I") ∈ eTB := tb_1 (List.mem_of_getElem? (i := 122) rfl) rfl
theorem wd_1_124 : (.lays "BasketFlock$Flock" "BasketFlock$Flock" "turn" "I") ∈ eTB := tb_1 (List.mem_of_getElem? (i := 124) rfl) rfl
theorem wd_1_126 : (.lays "BasketFlock$Flock" "BasketFlock$Flock" "goalX" "I") ∈ eTB := tb_1 (List.mem_of_getElem? (i := 126) rfl) rfl
theorem wd_1_128 : (.lays "BasketFlock$Flock" "BasketFlock$Flock" "goalY" "I") ∈ eTB := tb_1 (List.mem_of_getElem? (i := 128) rfl) rfl
theorem wd_1_130 : (.lays "BasketFlock$Flock" "BasketFlock$Flock" "kept" "I") ∈ eTB := tb_1 (List.mem_of_getElem? (i := 130) rfl) rfl
theorem wd_1_132 : (.lays "BasketFlock$Flock" "BasketFlock$Flock" "steps" "I") ∈ eTB := tb_1 (List.mem_of_getElem? (i := 132) rfl) rfl
theorem wd_1_134 : (.lays "BasketFlock$Flock" "BasketFlock$Flock" "waits" "I") ∈ eTB := tb_1 (List.mem_of_getElem? (i := 134) rfl) rfl
theorem wd_1_137 : (.classLink RX6 26 RX4) ∈ eTB := tb_1 (List.mem_of_getElem? (i := 137) rfl) rfl
theorem wd_1_138 : (.instantiable RX4 3) ∈ eTB := tb_1 (List.mem_of_getElem? (i := 138) rfl) rfl
theorem wd_1_139 : (.methodLink RX6 28 yX4_init) ∈ eTB := tb_1 (List.mem_of_getElem? (i := 139) rfl) rfl
theorem wd_1_140 : (.instanceMethod yX4_init) ∈ eTB := tb_1 (List.mem_of_getElem? (i := 140) rfl) rfl
theorem wd_1_141 : (mWord mX4_init) ∈ eTB := tb_1 (List.mem_of_getElem? (i := 141) rfl) rfl
theorem wd_1_142 : (.methodLink RX4 3 Lib.objectInit) ∈ eTB := tb_1 (List.mem_of_getElem? (i := 142) rfl) rfl
theorem wd_1_143 : (.classLink RX4 9 RX2) ∈ eTB := tb_1 (List.mem_of_getElem? (i := 143) rfl) rfl
theorem wd_1_146 : (.fieldLink RX4 11 RX4 "befores" "[LBasketFlock$Flock;") ∈ eTB := tb_1 (List.mem_of_getElem? (i := 146) rfl) rfl
theorem wd_1_147 : (.fieldLink RX4 17 RX4 "count" "I") ∈ eTB := tb_1 (List.mem_of_getElem? (i := 147) rfl) rfl
theorem wd_1_148 : (.fieldLink RX6 325 RX4 "count" "I") ∈ eTB := tb_1 (List.mem_of_getElem? (i := 148) rfl) rfl
theorem wd_1_149 : (.fieldLink RX4 21 RX4 "next" "I") ∈ eTB := tb_1 (List.mem_of_getElem? (i := 149) rfl) rfl
theorem wd_1_150 : (.laysFinal "BasketFlock$History" "BasketFlock$History" "befores" "[LBasketFlock$Flock;") ∈ eTB := tb_1 (List.mem_of_getElem? (i := 150) rfl) rfl
theorem wd_1_152 : (.lays "BasketFlock$History" "BasketFlock$History" "count" "I") ∈ eTB := tb_1 (List.mem_of_getElem? (i := 152) rfl) rfl
theorem wd_1_154 : (.lays "BasketFlock$History" "BasketFlock$History" "next" "I") ∈ eTB := tb_1 (List.mem_of_getElem? (i := 154) rfl) rfl
theorem wd_1_157 : (.classLink RX6 33 RX3) ∈ eTB := tb_1 (List.mem_of_getElem? (i := 157) rfl) rfl
theorem wd_1_158 : (.instantiable RX3 2) ∈ eTB := tb_1 (List.mem_of_getElem? (i := 158) rfl) rfl
theorem wd_1_160 : (.instanceMethod yX3_init) ∈ eTB := tb_1 (List.mem_of_getElem? (i := 160) rfl) rfl
theorem wd_1_161 : (mWord mX3_init) ∈ eTB := tb_1 (List.mem_of_getElem? (i := 161) rfl) rfl
theorem wd_1_162 : (.methodLink RX3 3 Lib.objectInit) ∈ eTB := tb_1 (List.mem_of_getElem? (i := 162) rfl) rfl
theorem wd_1_163 : (.fieldLink RX3 9 RX3 "groups" "[I") ∈ eTB := tb_1 (List.mem_of_getElem? (i := 163) rfl) rfl
theorem wd_1_164 : (.fieldLink RX3 15 RX3 "reached" "[I") ∈ eTB := tb_1 (List.mem_of_getElem? (i := 164) rfl) rfl
theorem wd_1_165 : (.laysFinal "BasketFlock$Formations" "BasketFlock$Formations" "groups" "[I") ∈ eTB := tb_1 (List.mem_of_getElem? (i := 165) rfl) rfl
theorem wd_1_167 : (.laysFinal "BasketFlock$Formations" "BasketFlock$Formations" "reached" "[I") ∈ eTB := tb_1 (List.mem_of_getElem? (i := 167) rfl) rfl
theorem wd_1_170 : (.classLink RX6 40 RX1) ∈ eTB := tb_1 (List.mem_of_getElem? (i := 170) rfl) rfl
theorem wd_1_171 : (.instantiable RX1 6) ∈ eTB := tb_1 (List.mem_of_getElem? (i := 171) rfl) rfl
theorem wd_1_173 : (.instanceMethod yX1_init) ∈ eTB := tb_1 (List.mem_of_getElem? (i := 173) rfl) rfl
theorem wd_1_174 : (mWord mX1_init) ∈ eTB := tb_1 (List.mem_of_getElem? (i := 174) rfl) rfl
theorem wd_1_175 : (.methodLink RX1 3 Lib.objectInit) ∈ eTB := tb_1 (List.mem_of_getElem? (i := 175) rfl) rfl
theorem wd_1_176 : (.classLink RX1 23 "[[I") ∈ eTB := tb_1 (List.mem_of_getElem? (i := 176) rfl) rfl
theorem wd_1_178 : (.fieldLink RX1 9 RX1 "characters" "[C") ∈ eTB := tb_1 (List.mem_of_getElem? (i := 178) rfl) rfl
theorem wd_1_179 : (.fieldLink RX1 15 RX1 "length" "I") ∈ eTB := tb_1 (List.mem_of_getElem? (i := 179) rfl) rfl
theorem wd_1_180 : (.fieldLink RX1 19 RX1 "kinds" "[I") ∈ eTB := tb_1 (List.mem_of_getElem? (i := 180) rfl) rfl
theorem wd_1_181 : (.fieldLink RX1 25 RX1 "numbers" "[[I") ∈ eTB := tb_1 (List.mem_of_getElem? (i := 181) rfl) rfl
theorem wd_1_182 : (.fieldLink RX1 28 RX1 "commands" "I") ∈ eTB := tb_1 (List.mem_of_getElem? (i := 182) rfl) rfl
theorem wd_1_183 : (.fieldLink RX6 271 RX1 "commands" "I") ∈ eTB := tb_1 (List.mem_of_getElem? (i := 183) rfl) rfl
theorem wd_1_184 : (.fieldLink RX1 31 RX1 "position" "I") ∈ eTB := tb_1 (List.mem_of_getElem? (i := 184) rfl) rfl
theorem wd_1_185 : (.laysFinal "BasketFlock$CommandText" "BasketFlock$CommandText" "characters" "[C") ∈ eTB := tb_1 (List.mem_of_getElem? (i := 185) rfl) rfl
theorem wd_1_187 : (.lays "BasketFlock$CommandText" "BasketFlock$CommandText" "length" "I") ∈ eTB := tb_1 (List.mem_of_getElem? (i := 187) rfl) rfl
theorem wd_1_189 : (.laysFinal "BasketFlock$CommandText" "BasketFlock$CommandText" "kinds" "[I") ∈ eTB := tb_1 (List.mem_of_getElem? (i := 189) rfl) rfl
theorem wd_1_191 : (.laysFinal "BasketFlock$CommandText" "BasketFlock$CommandText" "numbers" "[[I") ∈ eTB := tb_1 (List.mem_of_getElem? (i := 191) rfl) rfl
theorem wd_1_193 : (.lays "BasketFlock$CommandText" "BasketFlock$CommandText" "commands" "I") ∈ eTB := tb_1 (List.mem_of_getElem? (i := 193) rfl) rfl
theorem wd_1_195 : (.lays "BasketFlock$CommandText" "BasketFlock$CommandText" "position" "I") ∈ eTB := tb_1 (List.mem_of_getElem? (i := 195) rfl) rfl
theorem wd_1_198 : (.arrayClass .char) ∈ eTB := tb_1 (List.mem_of_getElem? (i := 198) rfl) rfl
theorem wd_1_199 : (.fieldLink RX6 10 RX6 "now" "LBasketFlock$Flock;") ∈ eTB := tb_1 (List.mem_of_getElem? (i := 199) rfl) rfl
theorem wd_1_200 : (.fieldLink RX6 16 RX6 "draft" "LBasketFlock$Flock;") ∈ eTB := tb_1 (List.mem_of_getElem? (i := 200) rfl) rfl
theorem wd_1_201 : (.fieldLink RX6 19 RX6 "snapshot" "LBasketFlock$Flock;") ∈ eTB := tb_1 (List.mem_of_getElem? (i := 201) rfl) rfl
theorem wd_1_202 : (.fieldLink RX6 22 RX6 "hasSnapshot" "Z") ∈ eTB := tb_1 (List.mem_of_getElem? (i := 202) rfl) rfl
theorem wd_1_203 : (.fieldLink RX6 29 RX6 "history" "LBasketFlock$History;") ∈ eTB := tb_1 (List.mem_of_getElem? (i := 203) rfl) rfl
theorem wd_1_204 : (.fieldLink RX6 36 RX6 "formations" "LBasketFlock$Formations;") ∈ eTB := tb_1 (List.mem_of_getElem? (i := 204) rfl) rfl
theorem wd_1_205 : (.fieldLink RX6 43 RX6 "text" "LBasketFlock$CommandText;") ∈ eTB := tb_1 (List.mem_of_getElem? (i := 205) rfl) rfl
theorem wd_1_206 : (.fieldLink RX6 47 RX6 "latestErrorPosition" "I") ∈ eTB := tb_1 (List.mem_of_getElem? (i := 206) rfl) rfl
theorem wd_1_207 : (.fieldLink RX6 51 RX6 "latestFailedCommand" "I") ∈ eTB := tb_1 (List.mem_of_getElem? (i := 207) rfl) rfl
theorem wd_1_208 : (.fieldLink RX6 54 RX6 "latestReason" "I") ∈ eTB := tb_1 (List.mem_of_getElem? (i := 208) rfl) rfl
theorem wd_1_209 : (.fieldLink RX6 57 RX6 "latestDetail" "I") ∈ eTB := tb_1 (List.mem_of_getElem? (i := 209) rfl) rfl
theorem wd_1_210 : (.fieldLink RX6 60 RX6 "line" "[C") ∈ eTB := tb_1 (List.mem_of_getElem? (i := 210) rfl) rfl
theorem wd_1_211 : (.fieldLink RX6 64 RX6 "lineLength" "I") ∈ eTB := tb_1 (List.mem_of_getElem? (i := 211) rfl) rfl
theorem wd_1_212 : (.laysFinal "BasketFlock" "BasketFlock" "now" "LBasketFlock$Flock;") ∈ eTB := tb_1 (List.mem_of_getElem? (i := 212) rfl) rfl
theorem wd_1_214 : (.laysFinal "BasketFlock" "BasketFlock" "draft" "LBasketFlock$Flock;") ∈ eTB := tb_1 (List.mem_of_getElem? (i := 214) rfl) rfl
theorem wd_1_216 : (.laysFinal "BasketFlock" "BasketFlock" "snapshot" "LBasketFlock$Flock;") ∈ eTB := tb_1 (List.mem_of_getElem? (i := 216) rfl) rfl
theorem wd_1_218 : (.lays "BasketFlock" "BasketFlock" "hasSnapshot" "Z") ∈ eTB := tb_1 (List.mem_of_getElem? (i := 218) rfl) rfl
theorem wd_1_220 : (.laysFinal "BasketFlock" "BasketFlock" "history" "LBasketFlock$History;") ∈ eTB := tb_1 (List.mem_of_getElem? (i := 220) rfl) rfl
theorem wd_1_222 : (.laysFinal "BasketFlock" "BasketFlock" "formations" "LBasketFlock$Formations;") ∈ eTB := tb_1 (List.mem_of_getElem? (i := 222) rfl) rfl
theorem wd_1_224 : (.laysFinal "BasketFlock" "BasketFlock" "text" "LBasketFlock$CommandText;") ∈ eTB := tb_1 (List.mem_of_getElem? (i := 224) rfl) rfl
theorem wd_1_226 : (.lays "BasketFlock" "BasketFlock" "latestErrorPosition" "I") ∈ eTB := tb_1 (List.mem_of_getElem? (i := 226) rfl) rfl
theorem wd_1_228 : (.lays "BasketFlock" "BasketFlock" "latestFailedCommand" "I") ∈ eTB := tb_1 (List.mem_of_getElem? (i := 228) rfl) rfl
theorem wd_1_230 : (.lays "BasketFlock" "BasketFlock" "latestReason" "I") ∈ eTB := tb_1 (List.mem_of_getElem? (i := 230) rfl) rfl
theorem wd_1_232 : (.lays "BasketFlock" "BasketFlock" "latestDetail" "I") ∈ eTB := tb_1 (List.mem_of_getElem? (i := 232) rfl) rfl
theorem wd_1_234 : (.laysFinal "BasketFlock" "BasketFlock" "line" "[C") ∈ eTB := tb_1 (List.mem_of_getElem? (i := 234) rfl) rfl
theorem wd_1_236 : (.lays "BasketFlock" "BasketFlock" "lineLength" "I") ∈ eTB := tb_1 (List.mem_of_getElem? (i := 236) rfl) rfl
theorem wd_1_239 : (.methodLink RL 164 yX6_basketCount) ∈ eTB := tb_1 (List.mem_of_getElem? (i := 239) rfl) rfl
theorem wd_2_0 : (.instanceMethod yX6_basketCount) ∈ eTB := tb_2 (List.mem_of_getElem? (i := 0) rfl) rfl
theorem wd_2_1 : (.selects RX6 yX6_basketCount yX6_basketCount) ∈ eTB := tb_2 (List.mem_of_getElem? (i := 1) rfl) rfl
theorem wd_2_2 : (mWord mX6_basketCount) ∈ eTB := tb_2 (List.mem_of_getElem? (i := 2) rfl) rfl
theorem wd_2_3 : (.methodLink RL 203 yX6_cloudCount) ∈ eTB := tb_2 (List.mem_of_getElem? (i := 3) rfl) rfl
theorem wd_2_4 : (.instanceMethod yX6_cloudCount) ∈ eTB := tb_2 (List.mem_of_getElem? (i := 4) rfl) rfl
theorem wd_2_5 : (.selects RX6 yX6_cloudCount yX6_cloudCount) ∈ eTB := tb_2 (List.mem_of_getElem? (i := 5) rfl) rfl
theorem wd_2_6 : (mWord mX6_cloudCount) ∈ eTB := tb_2 (List.mem_of_getElem? (i := 6) rfl) rfl
theorem wd_2_7 : (.methodLink RL 210 yX6_turnLength) ∈ eTB := tb_2 (List.mem_of_getElem? (i := 7) rfl) rfl
theorem wd_2_8 : (.instanceMethod yX6_turnLength) ∈ eTB := tb_2 (List.mem_of_getElem? (i := 8) rfl) rfl
theorem wd_2_9 : (.selects RX6 yX6_turnLength yX6_turnLength) ∈ eTB := tb_2 (List.mem_of_getElem? (i := 9) rfl) rfl
theorem wd_2_10 : (mWord mX6_turnLength) ∈ eTB := tb_2 (List.mem_of_getElem? (i := 10) rfl) rfl
theorem wd_2_11 : (.methodLink RL 238 yX6_keep) ∈ eTB := tb_2 (List.mem_of_getElem? (i := 11) rfl) rfl
theorem wd_2_12 : (.instanceMethod yX6_keep) ∈ eTB := tb_2 (List.mem_of_getElem? (i := 12) rfl) rfl
theorem wd_2_13 : (.selects RX6 yX6_keep yX6_keep) ∈ eTB := tb_2 (List.mem_of_getElem? (i := 13) rfl) rfl
theorem wd_2_14 : (mWord mX6_keep) ∈ eTB := tb_2 (List.mem_of_getElem? (i := 14) rfl) rfl
theorem wd_2_15 : (.methodLink RL 245 yX6_stepCount) ∈ eTB := tb_2 (List.mem_of_getElem? (i := 15) rfl) rfl
theorem wd_2_16 : (.instanceMethod yX6_stepCount) ∈ eTB := tb_2 (List.mem_of_getElem? (i := 16) rfl) rfl
theorem wd_2_17 : (.selects RX6 yX6_stepCount yX6_stepCount) ∈ eTB := tb_2 (List.mem_of_getElem? (i := 17) rfl) rfl
theorem wd_2_18 : (mWord mX6_stepCount) ∈ eTB := tb_2 (List.mem_of_getElem? (i := 18) rfl) rfl
theorem wd_2_19 : (.methodLink RL 252 yX6_moveTotal) ∈ eTB := tb_2 (List.mem_of_getElem? (i := 19) rfl) rfl
theorem wd_2_20 : (.instanceMethod yX6_moveTotal) ∈ eTB := tb_2 (List.mem_of_getElem? (i := 20) rfl) rfl
theorem wd_2_21 : (.selects RX6 yX6_moveTotal yX6_moveTotal) ∈ eTB := tb_2 (List.mem_of_getElem? (i := 21) rfl) rfl
theorem wd_2_22 : (mWord mX6_moveTotal) ∈ eTB := tb_2 (List.mem_of_getElem? (i := 22) rfl) rfl
theorem wd_2_23 : (.methodLink RX6 199 yX2_sumOfMoves) ∈ eTB := tb_2 (List.mem_of_getElem? (i := 23) rfl) rfl
theorem wd_2_24 : (.instanceMethod yX2_sumOfMoves) ∈ eTB := tb_2 (List.mem_of_getElem? (i := 24) rfl) rfl
theorem wd_2_25 : (.selects RX2 yX2_sumOfMoves yX2_sumOfMoves) ∈ eTB := tb_2 (List.mem_of_getElem? (i := 25) rfl) rfl
theorem wd_2_26 : (mWord mX2_sumOfMoves) ∈ eTB := tb_2 (List.mem_of_getElem? (i := 26) rfl) rfl
theorem wd_2_27 : (.methodLink RL 257 yX6_waitTotal) ∈ eTB := tb_2 (List.mem_of_getElem? (i := 27) rfl) rfl
theorem wd_2_28 : (.instanceMethod yX6_waitTotal) ∈ eTB := tb_2 (List.mem_of_getElem? (i := 28) rfl) rfl
theorem wd_2_29 : (.selects RX6 yX6_waitTotal yX6_waitTotal) ∈ eTB := tb_2 (List.mem_of_getElem? (i := 29) rfl) rfl
theorem wd_2_30 : (mWord mX6_waitTotal) ∈ eTB := tb_2 (List.mem_of_getElem? (i := 30) rfl) rfl
theorem wd_2_31 : (.methodLink RL 261 yX6_formationCount) ∈ eTB := tb_2 (List.mem_of_getElem? (i := 31) rfl) rfl
theorem wd_2_32 : (.instanceMethod yX6_formationCount) ∈ eTB := tb_2 (List.mem_of_getElem? (i := 32) rfl) rfl
theorem wd_2_33 : (.selects RX6 yX6_formationCount yX6_formationCount) ∈ eTB := tb_2 (List.mem_of_getElem? (i := 33) rfl) rfl
theorem wd_2_34 : (mWord mX6_formationCount) ∈ eTB := tb_2 (List.mem_of_getElem? (i := 34) rfl) rfl
theorem wd_2_35 : (.methodLink RX6 206 yX3_countByGoing) ∈ eTB := tb_2 (List.mem_of_getElem? (i := 35) rfl) rfl
theorem wd_2_36 : (.instanceMethod yX3_countByGoing) ∈ eTB := tb_2 (List.mem_of_getElem? (i := 36) rfl) rfl
theorem wd_2_37 : (.selects RX3 yX3_countByGoing yX3_countByGoing) ∈ eTB := tb_2 (List.mem_of_getElem? (i := 37) rfl) rfl
theorem wd_2_38 : (mWord mX3_countByGoing) ∈ eTB := tb_2 (List.mem_of_getElem? (i := 38) rfl) rfl
theorem wd_2_39 : (.methodLink RX3 18 yX3_goThrough) ∈ eTB := tb_2 (List.mem_of_getElem? (i := 39) rfl) rfl
theorem wd_2_40 : (.instanceMethod yX3_goThrough) ∈ eTB := tb_2 (List.mem_of_getElem? (i := 40) rfl) rfl
theorem wd_2_41 : (.selects RX3 yX3_goThrough yX3_goThrough) ∈ eTB := tb_2 (List.mem_of_getElem? (i := 41) rfl) rfl
theorem wd_2_42 : (mWord mX3_goThrough) ∈ eTB := tb_2 (List.mem_of_getElem? (i := 42) rfl) rfl
theorem wd_2_43 : (.methodLink RX3 42 yX3_goFrom) ∈ eTB := tb_2 (List.mem_of_getElem? (i := 43) rfl) rfl
theorem wd_2_44 : (.instanceMethod yX3_goFrom) ∈ eTB := tb_2 (List.mem_of_getElem? (i := 44) rfl) rfl
theorem wd_2_45 : (.selects RX3 yX3_goFrom yX3_goFrom) ∈ eTB := tb_2 (List.mem_of_getElem? (i := 45) rfl) rfl
theorem wd_2_46 : (mWord mX3_goFrom) ∈ eTB := tb_2 (List.mem_of_getElem? (i := 46) rfl) rfl
theorem wd_2_47 : (.methodLink RX3 46 yX2_linked) ∈ eTB := tb_2 (List.mem_of_getElem? (i := 47) rfl) rfl
theorem wd_2_48 : (.instanceMethod yX2_linked) ∈ eTB := tb_2 (List.mem_of_getElem? (i := 48) rfl) rfl
theorem wd_2_49 : (.selects RX2 yX2_linked yX2_linked) ∈ eTB := tb_2 (List.mem_of_getElem? (i := 49) rfl) rfl
theorem wd_2_50 : (mWord mX2_linked) ∈ eTB := tb_2 (List.mem_of_getElem? (i := 50) rfl) rfl
theorem wd_2_51 : (.methodLink RX2 183 yX2_distanceOf) ∈ eTB := tb_2 (List.mem_of_getElem? (i := 51) rfl) rfl
theorem wd_2_52 : (.instanceMethod yX2_distanceOf) ∈ eTB := tb_2 (List.mem_of_getElem? (i := 52) rfl) rfl
theorem wd_2_53 : (.selects RX2 yX2_distanceOf yX2_distanceOf) ∈ eTB := tb_2 (List.mem_of_getElem? (i := 53) rfl) rfl
theorem wd_2_54 : (mWord mX2_distanceOf) ∈ eTB := tb_2 (List.mem_of_getElem? (i := 54) rfl) rfl
theorem wd_2_55 : (.methodLink RX2 90 yX2_has) ∈ eTB := tb_2 (List.mem_of_getElem? (i := 55) rfl) rfl
theorem wd_2_56 : (.instanceMethod yX2_has) ∈ eTB := tb_2 (List.mem_of_getElem? (i := 56) rfl) rfl
theorem wd_2_57 : (.selects RX2 yX2_has yX2_has) ∈ eTB := tb_2 (List.mem_of_getElem? (i := 57) rfl) rfl
theorem wd_2_58 : (mWord mX2_has) ∈ eTB := tb_2 (List.mem_of_getElem? (i := 58) rfl) rfl
theorem wd_2_59 : (.methodLink RX2 149 yX2_distanceFrom) ∈ eTB := tb_2 (List.mem_of_getElem? (i := 59) rfl) rfl
theorem wd_2_60 : (.instanceMethod yX2_distanceFrom) ∈ eTB := tb_2 (List.mem_of_getElem? (i := 60) rfl) rfl
theorem wd_2_61 : (.selects RX2 yX2_distanceFrom yX2_distanceFrom) ∈ eTB := tb_2 (List.mem_of_getElem? (i := 61) rfl) rfl
theorem wd_2_62 : (mWord mX2_distanceFrom) ∈ eTB := tb_2 (List.mem_of_getElem? (i := 62) rfl) rfl
theorem wd_2_63 : (.methodLink RX2 175 yJ9_abs_0f7a4) ∈ eTB := tb_2 (List.mem_of_getElem? (i := 63) rfl) rfl
theorem wd_2_64 : (.static yJ9_abs_0f7a4) ∈ eTB := tb_2 (List.mem_of_getElem? (i := 64) rfl) rfl
theorem wd_2_65 : (mWord mJ9_abs_0f7a4) ∈ eTB := tb_2 (List.mem_of_getElem? (i := 65) rfl) rfl
theorem wd_2_66 : (.methodLink RL 265 yX6_formationCountByMerging) ∈ eTB := tb_2 (List.mem_of_getElem? (i := 66) rfl) rfl
theorem wd_2_67 : (.instanceMethod yX6_formationCountByMerging) ∈ eTB := tb_2 (List.mem_of_getElem? (i := 67) rfl) rfl
theorem wd_2_68 : (.selects RX6 yX6_formationCountByMerging yX6_formationCountByMerging) ∈ eTB := tb_2 (List.mem_of_getElem? (i := 68) rfl) rfl
theorem wd_2_69 : (mWord mX6_formationCountByMerging) ∈ eTB := tb_2 (List.mem_of_getElem? (i := 69) rfl) rfl
theorem wd_2_70 : (.methodLink RX6 210 yX3_countByMerging) ∈ eTB := tb_2 (List.mem_of_getElem? (i := 70) rfl) rfl
theorem wd_2_71 : (.instanceMethod yX3_countByMerging) ∈ eTB := tb_2 (List.mem_of_getElem? (i := 71) rfl) rfl
theorem wd_2_72 : (.selects RX3 yX3_countByMerging yX3_countByMerging) ∈ eTB := tb_2 (List.mem_of_getElem? (i := 72) rfl) rfl
theorem wd_2_73 : (mWord mX3_countByMerging) ∈ eTB := tb_2 (List.mem_of_getElem? (i := 73) rfl) rfl
theorem wd_2_74 : (.methodLink RX3 50 yX3_merge) ∈ eTB := tb_2 (List.mem_of_getElem? (i := 74) rfl) rfl
theorem wd_2_75 : (.instanceMethod yX3_merge) ∈ eTB := tb_2 (List.mem_of_getElem? (i := 75) rfl) rfl
theorem wd_2_76 : (.selects RX3 yX3_merge yX3_merge) ∈ eTB := tb_2 (List.mem_of_getElem? (i := 76) rfl) rfl
theorem wd_2_77 : (mWord mX3_merge) ∈ eTB := tb_2 (List.mem_of_getElem? (i := 77) rfl) rfl
theorem wd_2_78 : (.methodLink RL 269 yX6_largestFormation) ∈ eTB := tb_2 (List.mem_of_getElem? (i := 78) rfl) rfl
theorem wd_2_79 : (.instanceMethod yX6_largestFormation) ∈ eTB := tb_2 (List.mem_of_getElem? (i := 79) rfl) rfl
theorem wd_2_80 : (.selects RX6 yX6_largestFormation yX6_largestFormation) ∈ eTB := tb_2 (List.mem_of_getElem? (i := 80) rfl) rfl
theorem wd_2_81 : (mWord mX6_largestFormation) ∈ eTB := tb_2 (List.mem_of_getElem? (i := 81) rfl) rfl
theorem wd_2_82 : (.methodLink RX6 213 yX3_largest) ∈ eTB := tb_2 (List.mem_of_getElem? (i := 82) rfl) rfl
theorem wd_2_83 : (.instanceMethod yX3_largest) ∈ eTB := tb_2 (List.mem_of_getElem? (i := 83) rfl) rfl
theorem wd_2_84 : (.selects RX3 yX3_largest yX3_largest) ∈ eTB := tb_2 (List.mem_of_getElem? (i := 84) rfl) rfl
theorem wd_2_85 : (mWord mX3_largest) ∈ eTB := tb_2 (List.mem_of_getElem? (i := 85) rfl) rfl
theorem wd_2_86 : (.methodLink RX3 32 yX3_sizeOfGroup) ∈ eTB := tb_2 (List.mem_of_getElem? (i := 86) rfl) rfl
theorem wd_2_87 : (.instanceMethod yX3_sizeOfGroup) ∈ eTB := tb_2 (List.mem_of_getElem? (i := 87) rfl) rfl
theorem wd_2_88 : (.selects RX3 yX3_sizeOfGroup yX3_sizeOfGroup) ∈ eTB := tb_2 (List.mem_of_getElem? (i := 88) rfl) rfl
theorem wd_2_89 : (mWord mX3_sizeOfGroup) ∈ eTB := tb_2 (List.mem_of_getElem? (i := 89) rfl) rfl
theorem wd_2_90 : (.methodLink RX3 36 yJ9_max_7cf53) ∈ eTB := tb_2 (List.mem_of_getElem? (i := 90) rfl) rfl
theorem wd_2_91 : (.static yJ9_max_7cf53) ∈ eTB := tb_2 (List.mem_of_getElem? (i := 91) rfl) rfl
theorem wd_2_92 : (mWord mJ9_max_7cf53) ∈ eTB := tb_2 (List.mem_of_getElem? (i := 92) rfl) rfl
theorem wd_2_93 : (.methodLink RL 276 yX6_mixedPairs) ∈ eTB := tb_2 (List.mem_of_getElem? (i := 93) rfl) rfl
theorem wd_2_94 : (.instanceMethod yX6_mixedPairs) ∈ eTB := tb_2 (List.mem_of_getElem? (i := 94) rfl) rfl
theorem wd_2_95 : (.selects RX6 yX6_mixedPairs yX6_mixedPairs) ∈ eTB := tb_2 (List.mem_of_getElem? (i := 95) rfl) rfl
theorem wd_2_96 : (mWord mX6_mixedPairs) ∈ eTB := tb_2 (List.mem_of_getElem? (i := 96) rfl) rfl
theorem wd_2_97 : (.methodLink RX6 220 yX2_mixedByComparing) ∈ eTB := tb_2 (List.mem_of_getElem? (i := 97) rfl) rfl
theorem wd_2_98 : (.instanceMethod yX2_mixedByComparing) ∈ eTB := tb_2 (List.mem_of_getElem? (i := 98) rfl) rfl
theorem wd_2_99 : (.selects RX2 yX2_mixedByComparing yX2_mixedByComparing) ∈ eTB := tb_2 (List.mem_of_getElem? (i := 99) rfl) rfl
theorem wd_2_100 : (mWord mX2_mixedByComparing) ∈ eTB := tb_2 (List.mem_of_getElem? (i := 100) rfl) rfl
theorem wd_2_101 : (.methodLink RX2 199 yX2_linked) ∈ eTB := tb_2 (List.mem_of_getElem? (i := 101) rfl) rfl
theorem wd_2_102 : (.methodLink RL 280 yX6_mixedPairsByHandles) ∈ eTB := tb_2 (List.mem_of_getElem? (i := 102) rfl) rfl
theorem wd_2_103 : (.instanceMethod yX6_mixedPairsByHandles) ∈ eTB := tb_2 (List.mem_of_getElem? (i := 103) rfl) rfl
theorem wd_2_104 : (.selects RX6 yX6_mixedPairsByHandles yX6_mixedPairsByHandles) ∈ eTB := tb_2 (List.mem_of_getElem? (i := 104) rfl) rfl
theorem wd_2_105 : (mWord mX6_mixedPairsByHandles) ∈ eTB := tb_2 (List.mem_of_getElem? (i := 105) rfl) rfl
theorem wd_2_106 : (.methodLink RX6 224 yX2_mixedByHandles) ∈ eTB := tb_2 (List.mem_of_getElem? (i := 106) rfl) rfl
theorem wd_2_107 : (.instanceMethod yX2_mixedByHandles) ∈ eTB := tb_2 (List.mem_of_getElem? (i := 107) rfl) rfl
theorem wd_2_108 : (.selects RX2 yX2_mixedByHandles yX2_mixedByHandles) ∈ eTB := tb_2 (List.mem_of_getElem? (i := 108) rfl) rfl
theorem wd_2_109 : (mWord mX2_mixedByHandles) ∈ eTB := tb_2 (List.mem_of_getElem? (i := 109) rfl) rfl
theorem wd_2_110 : (.methodLink RX2 202 yX2_linkedPairs) ∈ eTB := tb_2 (List.mem_of_getElem? (i := 110) rfl) rfl
theorem wd_2_111 : (.instanceMethod yX2_linkedPairs) ∈ eTB := tb_2 (List.mem_of_getElem? (i := 111) rfl) rfl
theorem wd_2_112 : (.selects RX2 yX2_linkedPairs yX2_linkedPairs) ∈ eTB := tb_2 (List.mem_of_getElem? (i := 112) rfl) rfl
theorem wd_2_113 : (mWord mX2_linkedPairs) ∈ eTB := tb_2 (List.mem_of_getElem? (i := 113) rfl) rfl
theorem wd_2_114 : (.methodLink RX2 205 yX2_linkedPairsOfHandle) ∈ eTB := tb_2 (List.mem_of_getElem? (i := 114) rfl) rfl
theorem wd_2_115 : (.instanceMethod yX2_linkedPairsOfHandle) ∈ eTB := tb_2 (List.mem_of_getElem? (i := 115) rfl) rfl
theorem wd_2_116 : (.selects RX2 yX2_linkedPairsOfHandle yX2_linkedPairsOfHandle) ∈ eTB := tb_2 (List.mem_of_getElem? (i := 116) rfl) rfl
theorem wd_2_117 : (mWord mX2_linkedPairsOfHandle) ∈ eTB := tb_2 (List.mem_of_getElem? (i := 117) rfl) rfl
theorem wd_2_118 : (.methodLink RL 284 yX6_shapeCount) ∈ eTB := tb_2 (List.mem_of_getElem? (i := 118) rfl) rfl
theorem wd_2_119 : (.instanceMethod yX6_shapeCount) ∈ eTB := tb_2 (List.mem_of_getElem? (i := 119) rfl) rfl
theorem wd_2_120 : (.selects RX6 yX6_shapeCount yX6_shapeCount) ∈ eTB := tb_2 (List.mem_of_getElem? (i := 120) rfl) rfl
theorem wd_2_121 : (mWord mX6_shapeCount) ∈ eTB := tb_2 (List.mem_of_getElem? (i := 121) rfl) rfl
theorem wd_2_122 : (.methodLink RL 288 yX6_differentShapes) ∈ eTB := tb_2 (List.mem_of_getElem? (i := 122) rfl) rfl
theorem wd_2_123 : (.instanceMethod yX6_differentShapes) ∈ eTB := tb_2 (List.mem_of_getElem? (i := 123) rfl) rfl
theorem wd_2_124 : (.selects RX6 yX6_differentShapes yX6_differentShapes) ∈ eTB := tb_2 (List.mem_of_getElem? (i := 124) rfl) rfl
theorem wd_2_125 : (mWord mX6_differentShapes) ∈ eTB := tb_2 (List.mem_of_getElem? (i := 125) rfl) rfl
theorem wd_2_126 : (.methodLink RX6 234 yX5_countDifferent) ∈ eTB := tb_2 (List.mem_of_getElem? (i := 126) rfl) rfl
theorem wd_2_127 : (.instanceMethod yX5_countDifferent) ∈ eTB := tb_2 (List.mem_of_getElem? (i := 127) rfl) rfl
theorem wd_2_128 : (.selects RX5 yX5_countDifferent yX5_countDifferent) ∈ eTB := tb_2 (List.mem_of_getElem? (i := 128) rfl) rfl
theorem wd_2_129 : (mWord mX5_countDifferent) ∈ eTB := tb_2 (List.mem_of_getElem? (i := 129) rfl) rfl
theorem wd_2_130 : (.methodLink RX5 38 yX5_standsBefore) ∈ eTB := tb_2 (List.mem_of_getElem? (i := 130) rfl) rfl
theorem wd_2_131 : (.instanceMethod yX5_standsBefore) ∈ eTB := tb_2 (List.mem_of_getElem? (i := 131) rfl) rfl
theorem wd_2_132 : (.selects RX5 yX5_standsBefore yX5_standsBefore) ∈ eTB := tb_2 (List.mem_of_getElem? (i := 132) rfl) rfl
theorem wd_2_133 : (mWord mX5_standsBefore) ∈ eTB := tb_2 (List.mem_of_getElem? (i := 133) rfl) rfl
theorem wd_2_134 : (.methodLink RX5 34 yX5_holds) ∈ eTB := tb_2 (List.mem_of_getElem? (i := 134) rfl) rfl
theorem wd_2_135 : (.instanceMethod yX5_holds) ∈ eTB := tb_2 (List.mem_of_getElem? (i := 135) rfl) rfl
theorem wd_2_136 : (.selects RX5 yX5_holds yX5_holds) ∈ eTB := tb_2 (List.mem_of_getElem? (i := 136) rfl) rfl
theorem wd_2_137 : (mWord mX5_holds) ∈ eTB := tb_2 (List.mem_of_getElem? (i := 137) rfl) rfl
theorem wd_2_138 : (.methodLink RL 324 yX6_isConsistent) ∈ eTB := tb_2 (List.mem_of_getElem? (i := 138) rfl) rfl
theorem wd_2_139 : (.instanceMethod yX6_isConsistent) ∈ eTB := tb_2 (List.mem_of_getElem? (i := 139) rfl) rfl
theorem wd_2_140 : (.selects RX6 yX6_isConsistent yX6_isConsistent) ∈ eTB := tb_2 (List.mem_of_getElem? (i := 140) rfl) rfl
theorem wd_2_141 : (mWord mX6_isConsistent) ∈ eTB := tb_2 (List.mem_of_getElem? (i := 141) rfl) rfl
theorem wd_2_142 : (.methodLink RX6 319 yX2_isApartAndClear) ∈ eTB := tb_2 (List.mem_of_getElem? (i := 142) rfl) rfl
theorem wd_2_143 : (.instanceMethod yX2_isApartAndClear) ∈ eTB := tb_2 (List.mem_of_getElem? (i := 143) rfl) rfl
theorem wd_2_144 : (.selects RX2 yX2_isApartAndClear yX2_isApartAndClear) ∈ eTB := tb_2 (List.mem_of_getElem? (i := 144) rfl) rfl
theorem wd_2_145 : (mWord mX2_isApartAndClear) ∈ eTB := tb_2 (List.mem_of_getElem? (i := 145) rfl) rfl
theorem wd_2_146 : (.methodLink RX2 111 yX2_isPossible) ∈ eTB := tb_2 (List.mem_of_getElem? (i := 146) rfl) rfl
theorem wd_2_147 : (.instanceMethod yX2_isPossible) ∈ eTB := tb_2 (List.mem_of_getElem? (i := 147) rfl) rfl
theorem wd_2_148 : (.selects RX2 yX2_isPossible yX2_isPossible) ∈ eTB := tb_2 (List.mem_of_getElem? (i := 148) rfl) rfl
theorem wd_2_149 : (mWord mX2_isPossible) ∈ eTB := tb_2 (List.mem_of_getElem? (i := 149) rfl) rfl
theorem wd_2_150 : (.methodLink RX2 107 yX0_inSky) ∈ eTB := tb_2 (List.mem_of_getElem? (i := 150) rfl) rfl
theorem wd_2_151 : (.static yX0_inSky) ∈ eTB := tb_2 (List.mem_of_getElem? (i := 151) rfl) rfl
theorem wd_2_152 : (mWord mX0_inSky) ∈ eTB := tb_2 (List.mem_of_getElem? (i := 152) rfl) rfl
theorem wd_2_153 : (.methodLink RX2 116 yX0_covers) ∈ eTB := tb_2 (List.mem_of_getElem? (i := 153) rfl) rfl
theorem wd_2_154 : (.instanceMethod yX0_covers) ∈ eTB := tb_2 (List.mem_of_getElem? (i := 154) rfl) rfl
theorem wd_2_155 : (.selects RX0 yX0_covers yX0_covers) ∈ eTB := tb_2 (List.mem_of_getElem? (i := 155) rfl) rfl
theorem wd_2_156 : (mWord mX0_covers) ∈ eTB := tb_2 (List.mem_of_getElem? (i := 156) rfl) rfl
theorem wd_2_157 : (.methodLink RX0 19 yX0_inSky) ∈ eTB := tb_2 (List.mem_of_getElem? (i := 157) rfl) rfl
theorem wd_2_158 : (.methodLink RX2 193 yX2_lowestTouched) ∈ eTB := tb_2 (List.mem_of_getElem? (i := 158) rfl) rfl
theorem wd_2_159 : (.instanceMethod yX2_lowestTouched) ∈ eTB := tb_2 (List.mem_of_getElem? (i := 159) rfl) rfl
theorem wd_2_160 : (.selects RX2 yX2_lowestTouched yX2_lowestTouched) ∈ eTB := tb_2 (List.mem_of_getElem? (i := 160) rfl) rfl
theorem wd_2_161 : (mWord mX2_lowestTouched) ∈ eTB := tb_2 (List.mem_of_getElem? (i := 161) rfl) rfl
theorem wd_2_162 : (.methodLink RX6 322 yX6_leadersAgree) ∈ eTB := tb_2 (List.mem_of_getElem? (i := 162) rfl) rfl
theorem wd_2_164 : (.instanceMethod yX6_leadersAgree) ∈ eTB := tb_2 (List.mem_of_getElem? (i := 164) rfl) rfl
theorem wd_2_165 : (mWord mX6_leadersAgree) ∈ eTB := tb_2 (List.mem_of_getElem? (i := 165) rfl) rfl
theorem wd_2_166 : (.methodLink RX6 156 yX2_leaderByFormula) ∈ eTB := tb_2 (List.mem_of_getElem? (i := 166) rfl) rfl
theorem wd_2_167 : (.instanceMethod yX2_leaderByFormula) ∈ eTB := tb_2 (List.mem_of_getElem? (i := 167) rfl) rfl
theorem wd_2_168 : (.selects RX2 yX2_leaderByFormula yX2_leaderByFormula) ∈ eTB := tb_2 (List.mem_of_getElem? (i := 168) rfl) rfl
theorem wd_2_169 : (mWord mX2_leaderByFormula) ∈ eTB := tb_2 (List.mem_of_getElem? (i := 169) rfl) rfl
theorem wd_2_170 : (.methodLink RX6 159 yX2_leaderByCounting) ∈ eTB := tb_2 (List.mem_of_getElem? (i := 170) rfl) rfl
theorem wd_2_171 : (.instanceMethod yX2_leaderByCounting) ∈ eTB := tb_2 (List.mem_of_getElem? (i := 171) rfl) rfl
theorem wd_2_172 : (.selects RX2 yX2_leaderByCounting yX2_leaderByCounting) ∈ eTB := tb_2 (List.mem_of_getElem? (i := 172) rfl) rfl
theorem wd_2_173 : (mWord mX2_leaderByCounting) ∈ eTB := tb_2 (List.mem_of_getElem? (i := 173) rfl) rfl
theorem wd_2_174 : (.methodLink RL 332 yX6_save) ∈ eTB := tb_2 (List.mem_of_getElem? (i := 174) rfl) rfl
theorem wd_2_175 : (.instanceMethod yX6_save) ∈ eTB := tb_2 (List.mem_of_getElem? (i := 175) rfl) rfl
theorem wd_2_176 : (.selects RX6 yX6_save yX6_save) ∈ eTB := tb_2 (List.mem_of_getElem? (i := 176) rfl) rfl
theorem wd_2_177 : (mWord mX6_save) ∈ eTB := tb_2 (List.mem_of_getElem? (i := 177) rfl) rfl
theorem wd_2_178 : (.methodLink RX6 174 yX2_copyFrom) ∈ eTB := tb_2 (List.mem_of_getElem? (i := 178) rfl) rfl
theorem wd_2_179 : (.instanceMethod yX2_copyFrom) ∈ eTB := tb_2 (List.mem_of_getElem? (i := 179) rfl) rfl
theorem wd_2_180 : (.selects RX2 yX2_copyFrom yX2_copyFrom) ∈ eTB := tb_2 (List.mem_of_getElem? (i := 180) rfl) rfl
theorem wd_2_181 : (mWord mX2_copyFrom) ∈ eTB := tb_2 (List.mem_of_getElem? (i := 181) rfl) rfl
theorem wd_2_182 : (.methodLink RX2 70 ⟨"java/lang/System", "arraycopy", "(Ljava/lang/Object;ILjava/lang/Object;II)V"⟩) ∈ eTB := tb_2 (List.mem_of_getElem? (i := 182) rfl) rfl
theorem wd_2_183 : (.static ⟨"java/lang/System", "arraycopy", "(Ljava/lang/Object;ILjava/lang/Object;II)V"⟩) ∈ eTB := tb_2 (List.mem_of_getElem? (i := 183) rfl) rfl
theorem wd_2_184 : (.native ⟨"java/lang/System", "arraycopy", "(Ljava/lang/Object;ILjava/lang/Object;II)V"⟩) ∈ eTB := tb_2 (List.mem_of_getElem? (i := 184) rfl) rfl
theorem wd_2_185 : (.methodLink RX2 76 yX0_copyFrom) ∈ eTB := tb_2 (List.mem_of_getElem? (i := 185) rfl) rfl
theorem wd_2_186 : (.instanceMethod yX0_copyFrom) ∈ eTB := tb_2 (List.mem_of_getElem? (i := 186) rfl) rfl
theorem wd_2_187 : (.selects RX0 yX0_copyFrom yX0_copyFrom) ∈ eTB := tb_2 (List.mem_of_getElem? (i := 187) rfl) rfl
theorem wd_2_188 : (mWord mX0_copyFrom) ∈ eTB := tb_2 (List.mem_of_getElem? (i := 188) rfl) rfl
theorem wd_2_189 : (.methodLink RX0 26 ⟨"java/lang/System", "arraycopy", "(Ljava/lang/Object;ILjava/lang/Object;II)V"⟩) ∈ eTB := tb_2 (List.mem_of_getElem? (i := 189) rfl) rfl
theorem wd_2_190 : (.methodLink RX2 80 yX5_copyFrom) ∈ eTB := tb_2 (List.mem_of_getElem? (i := 190) rfl) rfl
theorem wd_2_191 : (.instanceMethod yX5_copyFrom) ∈ eTB := tb_2 (List.mem_of_getElem? (i := 191) rfl) rfl
theorem wd_2_192 : (.selects RX5 yX5_copyFrom yX5_copyFrom) ∈ eTB := tb_2 (List.mem_of_getElem? (i := 192) rfl) rfl
theorem wd_2_193 : (mWord mX5_copyFrom) ∈ eTB := tb_2 (List.mem_of_getElem? (i := 193) rfl) rfl
theorem wd_2_194 : (.methodLink RX5 22 ⟨"java/lang/System", "arraycopy", "(Ljava/lang/Object;ILjava/lang/Object;II)V"⟩) ∈ eTB := tb_2 (List.mem_of_getElem? (i := 194) rfl) rfl
theorem wd_2_195 : (.methodLink RL 148 yL_addBasket) ∈ eTB := tb_2 (List.mem_of_getElem? (i := 195) rfl) rfl
theorem wd_2_196 : (.static yL_addBasket) ∈ eTB := tb_2 (List.mem_of_getElem? (i := 196) rfl) rfl
theorem wd_2_197 : (mWord mL_addBasket) ∈ eTB := tb_2 (List.mem_of_getElem? (i := 197) rfl) rfl
theorem wd_2_198 : (.classLink RL 13 "java/lang/IllegalArgumentException") ∈ eTB := tb_2 (List.mem_of_getElem? (i := 198) rfl) rfl
theorem wd_2_199 : (.classLink RL 15 "java/lang/IllegalStateException") ∈ eTB := tb_2 (List.mem_of_getElem? (i := 199) rfl) rfl
theorem wd_2_200 : (.classLink RL 17 "java/lang/UnsupportedOperationException") ∈ eTB := tb_2 (List.mem_of_getElem? (i := 200) rfl) rfl
theorem wd_2_201 : (.methodLink RL 7 yX6_addBasket) ∈ eTB := tb_2 (List.mem_of_getElem? (i := 201) rfl) rfl
theorem wd_2_202 : (.instanceMethod yX6_addBasket) ∈ eTB := tb_2 (List.mem_of_getElem? (i := 202) rfl) rfl
theorem wd_2_203 : (.selects RX6 yX6_addBasket yX6_addBasket) ∈ eTB := tb_2 (List.mem_of_getElem? (i := 203) rfl) rfl
theorem wd_2_204 : (mWord mX6_addBasket) ∈ eTB := tb_2 (List.mem_of_getElem? (i := 204) rfl) rfl
theorem wd_2_205 : (.methodLink RX6 67 yX6_prepare) ∈ eTB := tb_2 (List.mem_of_getElem? (i := 205) rfl) rfl
theorem wd_2_207 : (.instanceMethod yX6_prepare) ∈ eTB := tb_2 (List.mem_of_getElem? (i := 207) rfl) rfl
theorem wd_2_208 : (mWord mX6_prepare) ∈ eTB := tb_2 (List.mem_of_getElem? (i := 208) rfl) rfl
theorem wd_2_209 : (.methodLink RX6 280 yX6_hindranceIn) ∈ eTB := tb_2 (List.mem_of_getElem? (i := 209) rfl) rfl
theorem wd_2_211 : (.instanceMethod yX6_hindranceIn) ∈ eTB := tb_2 (List.mem_of_getElem? (i := 211) rfl) rfl
theorem wd_2_212 : (mWord mX6_hindranceIn) ∈ eTB := tb_2 (List.mem_of_getElem? (i := 212) rfl) rfl
theorem wd_2_213 : (.methodLink RX6 339 yX2_hindrance) ∈ eTB := tb_2 (List.mem_of_getElem? (i := 213) rfl) rfl
theorem wd_2_214 : (.instanceMethod yX2_hindrance) ∈ eTB := tb_2 (List.mem_of_getElem? (i := 214) rfl) rfl
theorem wd_2_215 : (.selects RX2 yX2_hindrance yX2_hindrance) ∈ eTB := tb_2 (List.mem_of_getElem? (i := 215) rfl) rfl
theorem wd_2_216 : (mWord mX2_hindrance) ∈ eTB := tb_2 (List.mem_of_getElem? (i := 216) rfl) rfl
theorem wd_2_217 : (.methodLink RX2 83 yX2_hindranceToAdd) ∈ eTB := tb_2 (List.mem_of_getElem? (i := 217) rfl) rfl
theorem wd_2_218 : (.instanceMethod yX2_hindranceToAdd) ∈ eTB := tb_2 (List.mem_of_getElem? (i := 218) rfl) rfl
theorem wd_2_219 : (.selects RX2 yX2_hindranceToAdd yX2_hindranceToAdd) ∈ eTB := tb_2 (List.mem_of_getElem? (i := 219) rfl) rfl
theorem wd_2_220 : (mWord mX2_hindranceToAdd) ∈ eTB := tb_2 (List.mem_of_getElem? (i := 220) rfl) rfl
theorem wd_2_221 : (.methodLink RX2 87 yX2_hindranceToJump) ∈ eTB := tb_2 (List.mem_of_getElem? (i := 221) rfl) rfl
theorem wd_2_222 : (.instanceMethod yX2_hindranceToJump) ∈ eTB := tb_2 (List.mem_of_getElem? (i := 222) rfl) rfl
theorem wd_2_223 : (.selects RX2 yX2_hindranceToJump yX2_hindranceToJump) ∈ eTB := tb_2 (List.mem_of_getElem? (i := 223) rfl) rfl
theorem wd_2_224 : (mWord mX2_hindranceToJump) ∈ eTB := tb_2 (List.mem_of_getElem? (i := 224) rfl) rfl
theorem wd_2_225 : (.methodLink RX2 94 yX2_hindranceOutside) ∈ eTB := tb_2 (List.mem_of_getElem? (i := 225) rfl) rfl
theorem wd_2_226 : (.static yX2_hindranceOutside) ∈ eTB := tb_2 (List.mem_of_getElem? (i := 226) rfl) rfl
theorem wd_2_227 : (mWord mX2_hindranceOutside) ∈ eTB := tb_2 (List.mem_of_getElem? (i := 227) rfl) rfl
theorem wd_2_228 : (.methodLink RX2 97 yX2_hindranceToCloud) ∈ eTB := tb_2 (List.mem_of_getElem? (i := 228) rfl) rfl
theorem wd_2_229 : (.instanceMethod yX2_hindranceToCloud) ∈ eTB := tb_2 (List.mem_of_getElem? (i := 229) rfl) rfl
theorem wd_2_230 : (.selects RX2 yX2_hindranceToCloud yX2_hindranceToCloud) ∈ eTB := tb_2 (List.mem_of_getElem? (i := 230) rfl) rfl
theorem wd_2_231 : (mWord mX2_hindranceToCloud) ∈ eTB := tb_2 (List.mem_of_getElem? (i := 231) rfl) rfl
theorem wd_2_232 : (.methodLink RX2 119 yX2_basketIn) ∈ eTB := tb_2 (List.mem_of_getElem? (i := 232) rfl) rfl
theorem wd_2_233 : (.instanceMethod yX2_basketIn) ∈ eTB := tb_2 (List.mem_of_getElem? (i := 233) rfl) rfl
theorem wd_2_234 : (.selects RX2 yX2_basketIn yX2_basketIn) ∈ eTB := tb_2 (List.mem_of_getElem? (i := 234) rfl) rfl
theorem wd_2_235 : (mWord mX2_basketIn) ∈ eTB := tb_2 (List.mem_of_getElem? (i := 235) rfl) rfl
theorem wd_2_236 : (.methodLink RX2 101 yX2_hindranceToClear) ∈ eTB := tb_2 (List.mem_of_getElem? (i := 236) rfl) rfl
theorem wd_2_237 : (.instanceMethod yX2_hindranceToClear) ∈ eTB := tb_2 (List.mem_of_getElem? (i := 237) rfl) rfl
theorem wd_2_238 : (.selects RX2 yX2_hindranceToClear yX2_hindranceToClear) ∈ eTB := tb_2 (List.mem_of_getElem? (i := 238) rfl) rfl
theorem wd_2_239 : (mWord mX2_hindranceToClear) ∈ eTB := tb_2 (List.mem_of_getElem? (i := 239) rfl) rfl
theorem wd_3_0 : (.methodLink RX2 104 yX2_hindranceToGoal) ∈ eTB := tb_3 (List.mem_of_getElem? (i := 0) rfl) rfl
theorem wd_3_1 : (.instanceMethod yX2_hindranceToGoal) ∈ eTB := tb_3 (List.mem_of_getElem? (i := 1) rfl) rfl
theorem wd_3_2 : (.selects RX2 yX2_hindranceToGoal yX2_hindranceToGoal) ∈ eTB := tb_3 (List.mem_of_getElem? (i := 2) rfl) rfl
theorem wd_3_3 : (mWord mX2_hindranceToGoal) ∈ eTB := tb_3 (List.mem_of_getElem? (i := 3) rfl) rfl
theorem wd_3_4 : (.methodLink RX6 342 yX6_keepRefusal) ∈ eTB := tb_3 (List.mem_of_getElem? (i := 4) rfl) rfl
theorem wd_3_6 : (.instanceMethod yX6_keepRefusal) ∈ eTB := tb_3 (List.mem_of_getElem? (i := 6) rfl) rfl
theorem wd_3_7 : (mWord mX6_keepRefusal) ∈ eTB := tb_3 (List.mem_of_getElem? (i := 7) rfl) rfl
theorem wd_3_8 : (.methodLink RX6 136 yX0_covers) ∈ eTB := tb_3 (List.mem_of_getElem? (i := 8) rfl) rfl
theorem wd_3_9 : (.methodLink RX6 346 yX2_lowestTouched) ∈ eTB := tb_3 (List.mem_of_getElem? (i := 9) rfl) rfl
theorem wd_3_10 : (.methodLink RX6 336 yX6_throwFor) ∈ eTB := tb_3 (List.mem_of_getElem? (i := 10) rfl) rfl
theorem wd_3_11 : (.static yX6_throwFor) ∈ eTB := tb_3 (List.mem_of_getElem? (i := 11) rfl) rfl
theorem wd_3_12 : (mWord mX6_throwFor) ∈ eTB := tb_3 (List.mem_of_getElem? (i := 12) rfl) rfl
theorem wd_3_13 : (.classLink RX6 301 "java/lang/IndexOutOfBoundsException") ∈ eTB := tb_3 (List.mem_of_getElem? (i := 13) rfl) rfl
theorem wd_3_14 : (.instantiable "java/lang/IndexOutOfBoundsException" 6) ∈ eTB := tb_3 (List.mem_of_getElem? (i := 14) rfl) rfl
theorem wd_3_22 : (.selects "java/lang/IndexOutOfBoundsException" ⟨"java/lang/Throwable", "fillInStackTrace", "(I)Ljava/lang/Throwable;"⟩ ⟨"java/lang/Throwable", "fillInStackTrace", "(I)Ljava/lang/Throwable;"⟩) ∈ eTB := tb_3 (List.mem_of_getElem? (i := 22) rfl) rfl
theorem wd_3_23 : (.selects "java/lang/IndexOutOfBoundsException" ⟨"java/lang/Throwable", "fillInStackTrace", "()Ljava/lang/Throwable;"⟩ ⟨"java/lang/Throwable", "fillInStackTrace", "()Ljava/lang/Throwable;"⟩) ∈ eTB := tb_3 (List.mem_of_getElem? (i := 23) rfl) rfl
theorem wd_3_24 : (.lays "java/lang/IndexOutOfBoundsException" "java/lang/Throwable" "cause" "Ljava/lang/Throwable;") ∈ eTB := tb_3 (List.mem_of_getElem? (i := 24) rfl) rfl
theorem wd_3_25 : (.lays "java/lang/Throwable" "java/lang/Throwable" "cause" "Ljava/lang/Throwable;") ∈ eTB := tb_3 (List.mem_of_getElem? (i := 25) rfl) rfl
theorem wd_3_26 : (.lays "java/lang/IndexOutOfBoundsException" "java/lang/Throwable" "stackTrace" "[Ljava/lang/StackTraceElement;") ∈ eTB := tb_3 (List.mem_of_getElem? (i := 26) rfl) rfl
theorem wd_3_27 : (.lays "java/lang/Throwable" "java/lang/Throwable" "stackTrace" "[Ljava/lang/StackTraceElement;") ∈ eTB := tb_3 (List.mem_of_getElem? (i := 27) rfl) rfl
theorem wd_3_28 : (.lays "java/lang/IndexOutOfBoundsException" "java/lang/Throwable" "suppressedExceptions" "Ljava/util/List;") ∈ eTB := tb_3 (List.mem_of_getElem? (i := 28) rfl) rfl
theorem wd_3_29 : (.lays "java/lang/Throwable" "java/lang/Throwable" "suppressedExceptions" "Ljava/util/List;") ∈ eTB := tb_3 (List.mem_of_getElem? (i := 29) rfl) rfl
theorem wd_3_30 : (.lays "java/lang/IndexOutOfBoundsException" "java/lang/Throwable" "detailMessage" "Ljava/lang/String;") ∈ eTB := tb_3 (List.mem_of_getElem? (i := 30) rfl) rfl
theorem wd_3_31 : (.lays "java/lang/Throwable" "java/lang/Throwable" "detailMessage" "Ljava/lang/String;") ∈ eTB := tb_3 (List.mem_of_getElem? (i := 31) rfl) rfl
theorem wd_3_32 : (.lays "java/lang/IndexOutOfBoundsException" "java/lang/Throwable" "backtrace" "Ljava/lang/Object;") ∈ eTB := tb_3 (List.mem_of_getElem? (i := 32) rfl) rfl
theorem wd_3_33 : (.lays "java/lang/Throwable" "java/lang/Throwable" "backtrace" "Ljava/lang/Object;") ∈ eTB := tb_3 (List.mem_of_getElem? (i := 33) rfl) rfl
theorem wd_3_34 : (.fieldLink "java/lang/Throwable" 198 "java/lang/Throwable" "backtrace" "Ljava/lang/Object;") ∈ eTB := tb_3 (List.mem_of_getElem? (i := 34) rfl) rfl
theorem wd_3_36 : (.instanceMethod ⟨"java/lang/Throwable", "<init>", "()V"⟩) ∈ eTB := tb_3 (List.mem_of_getElem? (i := 36) rfl) rfl
theorem wd_3_37 : (.code ⟨"java/lang/Throwable", "<init>", "()V"⟩ prog_25_method_1_code 1 none) ∈ eTB := tb_3 (List.mem_of_getElem? (i := 37) rfl) rfl
theorem wd_3_38 : (.methodLink "java/lang/Throwable" 1 Lib.objectInit) ∈ eTB := tb_3 (List.mem_of_getElem? (i := 38) rfl) rfl
theorem wd_3_39 : (.fieldLink "java/lang/Throwable" 13 "java/lang/Throwable" "UNASSIGNED_STACK" "[Ljava/lang/StackTraceElement;") ∈ eTB := tb_3 (List.mem_of_getElem? (i := 39) rfl) rfl
theorem wd_3_41 : (.fieldLink "java/lang/Throwable" 20 "java/lang/Throwable" "SUPPRESSED_SENTINEL" "Ljava/util/List;") ∈ eTB := tb_3 (List.mem_of_getElem? (i := 41) rfl) rfl
theorem wd_3_43 : (.methodLink "java/lang/Throwable" 27 ⟨"java/lang/Throwable", "fillInStackTrace", "()Ljava/lang/Throwable;"⟩) ∈ eTB := tb_3 (List.mem_of_getElem? (i := 43) rfl) rfl
theorem wd_3_44 : (.instanceMethod ⟨"java/lang/Throwable", "fillInStackTrace", "()Ljava/lang/Throwable;"⟩) ∈ eTB := tb_3 (List.mem_of_getElem? (i := 44) rfl) rfl
theorem wd_3_46 : (.selects "java/lang/ArithmeticException" ⟨"java/lang/Throwable", "fillInStackTrace", "()Ljava/lang/Throwable;"⟩ ⟨"java/lang/Throwable", "fillInStackTrace", "()Ljava/lang/Throwable;"⟩) ∈ eTB := tb_3 (List.mem_of_getElem? (i := 46) rfl) rfl
theorem wd_3_47 : (.selects RJx00060 ⟨"java/lang/Throwable", "fillInStackTrace", "()Ljava/lang/Throwable;"⟩ ⟨"java/lang/Throwable", "fillInStackTrace", "()Ljava/lang/Throwable;"⟩) ∈ eTB := tb_3 (List.mem_of_getElem? (i := 47) rfl) rfl
theorem wd_3_48 : (.selects "java/lang/IllegalArgumentException" ⟨"java/lang/Throwable", "fillInStackTrace", "()Ljava/lang/Throwable;"⟩ ⟨"java/lang/Throwable", "fillInStackTrace", "()Ljava/lang/Throwable;"⟩) ∈ eTB := tb_3 (List.mem_of_getElem? (i := 48) rfl) rfl
theorem wd_3_49 : (.selects "java/lang/IllegalStateException" ⟨"java/lang/Throwable", "fillInStackTrace", "()Ljava/lang/Throwable;"⟩ ⟨"java/lang/Throwable", "fillInStackTrace", "()Ljava/lang/Throwable;"⟩) ∈ eTB := tb_3 (List.mem_of_getElem? (i := 49) rfl) rfl
theorem wd_3_50 : (.selects "java/lang/UnsupportedOperationException" ⟨"java/lang/Throwable", "fillInStackTrace", "()Ljava/lang/Throwable;"⟩ ⟨"java/lang/Throwable", "fillInStackTrace", "()Ljava/lang/Throwable;"⟩) ∈ eTB := tb_3 (List.mem_of_getElem? (i := 50) rfl) rfl
theorem wd_3_51 : (.selects "java/util/NoSuchElementException" ⟨"java/lang/Throwable", "fillInStackTrace", "()Ljava/lang/Throwable;"⟩ ⟨"java/lang/Throwable", "fillInStackTrace", "()Ljava/lang/Throwable;"⟩) ∈ eTB := tb_3 (List.mem_of_getElem? (i := 51) rfl) rfl
theorem wd_3_53 : (.methodLink "java/lang/Throwable" 202 ⟨"java/lang/Throwable", "fillInStackTrace", "(I)Ljava/lang/Throwable;"⟩) ∈ eTB := tb_3 (List.mem_of_getElem? (i := 53) rfl) rfl
theorem wd_3_55 : (.instanceMethod ⟨"java/lang/Throwable", "fillInStackTrace", "(I)Ljava/lang/Throwable;"⟩) ∈ eTB := tb_3 (List.mem_of_getElem? (i := 55) rfl) rfl
theorem wd_3_56 : (.instantiable "java/lang/Throwable" 6) ∈ eTB := tb_3 (List.mem_of_getElem? (i := 56) rfl) rfl
theorem wd_3_57 : (.native ⟨"java/lang/Throwable", "fillInStackTrace", "(I)Ljava/lang/Throwable;"⟩) ∈ eTB := tb_3 (List.mem_of_getElem? (i := 57) rfl) rfl
theorem wd_3_59 : (.methodLink RX6 305 ⟨"java/lang/IndexOutOfBoundsException", "<init>", "(Ljava/lang/String;)V"⟩) ∈ eTB := tb_3 (List.mem_of_getElem? (i := 59) rfl) rfl
theorem wd_3_60 : (.instanceMethod ⟨"java/lang/IndexOutOfBoundsException", "<init>", "(Ljava/lang/String;)V"⟩) ∈ eTB := tb_3 (List.mem_of_getElem? (i := 60) rfl) rfl
theorem wd_3_61 : (.code ⟨"java/lang/IndexOutOfBoundsException", "<init>", "(Ljava/lang/String;)V"⟩ prog_18_method_2_code 2 none) ∈ eTB := tb_3 (List.mem_of_getElem? (i := 61) rfl) rfl
theorem wd_3_62 : (.methodLink "java/lang/IndexOutOfBoundsException" 7 ⟨"java/lang/RuntimeException", "<init>", "(Ljava/lang/String;)V"⟩) ∈ eTB := tb_3 (List.mem_of_getElem? (i := 62) rfl) rfl
theorem wd_3_63 : (.instanceMethod ⟨"java/lang/RuntimeException", "<init>", "(Ljava/lang/String;)V"⟩) ∈ eTB := tb_3 (List.mem_of_getElem? (i := 63) rfl) rfl
theorem wd_3_64 : (.code ⟨"java/lang/RuntimeException", "<init>", "(Ljava/lang/String;)V"⟩ prog_20_method_2_code 2 none) ∈ eTB := tb_3 (List.mem_of_getElem? (i := 64) rfl) rfl
theorem wd_3_65 : (.methodLink "java/lang/RuntimeException" 7 ⟨"java/lang/Exception", "<init>", "(Ljava/lang/String;)V"⟩) ∈ eTB := tb_3 (List.mem_of_getElem? (i := 65) rfl) rfl
theorem wd_3_66 : (.instanceMethod ⟨"java/lang/Exception", "<init>", "(Ljava/lang/String;)V"⟩) ∈ eTB := tb_3 (List.mem_of_getElem? (i := 66) rfl) rfl
theorem wd_3_67 : (.code ⟨"java/lang/Exception", "<init>", "(Ljava/lang/String;)V"⟩ prog_15_method_2_code 2 none) ∈ eTB := tb_3 (List.mem_of_getElem? (i := 67) rfl) rfl
theorem wd_3_68 : (.methodLink "java/lang/Exception" 7 ⟨"java/lang/Throwable", "<init>", "(Ljava/lang/String;)V"⟩) ∈ eTB := tb_3 (List.mem_of_getElem? (i := 68) rfl) rfl
theorem wd_3_69 : (.instanceMethod ⟨"java/lang/Throwable", "<init>", "(Ljava/lang/String;)V"⟩) ∈ eTB := tb_3 (List.mem_of_getElem? (i := 69) rfl) rfl
theorem wd_3_70 : (.code ⟨"java/lang/Throwable", "<init>", "(Ljava/lang/String;)V"⟩ prog_25_method_2_code 2 none) ∈ eTB := tb_3 (List.mem_of_getElem? (i := 70) rfl) rfl
theorem wd_3_72 : (.fieldLink "java/lang/Throwable" 31 "java/lang/Throwable" "detailMessage" "Ljava/lang/String;") ∈ eTB := tb_3 (List.mem_of_getElem? (i := 72) rfl) rfl
theorem wd_3_73 : (.fieldLink "java/lang/Throwable" 7 "java/lang/Throwable" "cause" "Ljava/lang/Throwable;") ∈ eTB := tb_3 (List.mem_of_getElem? (i := 73) rfl) rfl
theorem wd_3_74 : (.fieldLink "java/lang/Throwable" 17 "java/lang/Throwable" "stackTrace" "[Ljava/lang/StackTraceElement;") ∈ eTB := tb_3 (List.mem_of_getElem? (i := 74) rfl) rfl
theorem wd_3_75 : (.fieldLink "java/lang/Throwable" 24 "java/lang/Throwable" "suppressedExceptions" "Ljava/util/List;") ∈ eTB := tb_3 (List.mem_of_getElem? (i := 75) rfl) rfl
theorem wd_3_80 : (.lays "java/lang/IndexOutOfBoundsException" "java/lang/Throwable" "depth" "I") ∈ eTB := tb_3 (List.mem_of_getElem? (i := 80) rfl) rfl
theorem wd_3_84 : (.arrayClass .byte) ∈ eTB := tb_3 (List.mem_of_getElem? (i := 84) rfl) rfl
theorem wd_3_85 : (.classLink RX6 247 "java/lang/IllegalArgumentException") ∈ eTB := tb_3 (List.mem_of_getElem? (i := 85) rfl) rfl
theorem wd_3_86 : (.instantiable "java/lang/IllegalArgumentException" 6) ∈ eTB := tb_3 (List.mem_of_getElem? (i := 86) rfl) rfl
theorem wd_3_88 : (.selects "java/lang/IllegalArgumentException" ⟨"java/lang/Throwable", "fillInStackTrace", "(I)Ljava/lang/Throwable;"⟩ ⟨"java/lang/Throwable", "fillInStackTrace", "(I)Ljava/lang/Throwable;"⟩) ∈ eTB := tb_3 (List.mem_of_getElem? (i := 88) rfl) rfl
theorem wd_3_89 : (.lays "java/lang/IllegalArgumentException" "java/lang/Throwable" "cause" "Ljava/lang/Throwable;") ∈ eTB := tb_3 (List.mem_of_getElem? (i := 89) rfl) rfl
theorem wd_3_90 : (.lays "java/lang/IllegalArgumentException" "java/lang/Throwable" "stackTrace" "[Ljava/lang/StackTraceElement;") ∈ eTB := tb_3 (List.mem_of_getElem? (i := 90) rfl) rfl
theorem wd_3_91 : (.lays "java/lang/IllegalArgumentException" "java/lang/Throwable" "suppressedExceptions" "Ljava/util/List;") ∈ eTB := tb_3 (List.mem_of_getElem? (i := 91) rfl) rfl
theorem wd_3_92 : (.lays "java/lang/IllegalArgumentException" "java/lang/Throwable" "detailMessage" "Ljava/lang/String;") ∈ eTB := tb_3 (List.mem_of_getElem? (i := 92) rfl) rfl
theorem wd_3_93 : (.lays "java/lang/IllegalArgumentException" "java/lang/Throwable" "backtrace" "Ljava/lang/Object;") ∈ eTB := tb_3 (List.mem_of_getElem? (i := 93) rfl) rfl
theorem wd_3_95 : (.methodLink RX6 251 ⟨"java/lang/IllegalArgumentException", "<init>", "(Ljava/lang/String;)V"⟩) ∈ eTB := tb_3 (List.mem_of_getElem? (i := 95) rfl) rfl
theorem wd_3_96 : (.instanceMethod ⟨"java/lang/IllegalArgumentException", "<init>", "(Ljava/lang/String;)V"⟩) ∈ eTB := tb_3 (List.mem_of_getElem? (i := 96) rfl) rfl
theorem wd_3_97 : (.code ⟨"java/lang/IllegalArgumentException", "<init>", "(Ljava/lang/String;)V"⟩ prog_16_method_2_code 2 none) ∈ eTB := tb_3 (List.mem_of_getElem? (i := 97) rfl) rfl
theorem wd_3_98 : (.methodLink "java/lang/IllegalArgumentException" 7 ⟨"java/lang/RuntimeException", "<init>", "(Ljava/lang/String;)V"⟩) ∈ eTB := tb_3 (List.mem_of_getElem? (i := 98) rfl) rfl
theorem wd_3_99 : (.lays "java/lang/IllegalArgumentException" "java/lang/Throwable" "depth" "I") ∈ eTB := tb_3 (List.mem_of_getElem? (i := 99) rfl) rfl
theorem wd_3_101 : (.classLink RX6 255 "java/lang/IllegalStateException") ∈ eTB := tb_3 (List.mem_of_getElem? (i := 101) rfl) rfl
theorem wd_3_102 : (.instantiable "java/lang/IllegalStateException" 6) ∈ eTB := tb_3 (List.mem_of_getElem? (i := 102) rfl) rfl
theorem wd_3_104 : (.selects "java/lang/IllegalStateException" ⟨"java/lang/Throwable", "fillInStackTrace", "(I)Ljava/lang/Throwable;"⟩ ⟨"java/lang/Throwable", "fillInStackTrace", "(I)Ljava/lang/Throwable;"⟩) ∈ eTB := tb_3 (List.mem_of_getElem? (i := 104) rfl) rfl
theorem wd_3_105 : (.lays "java/lang/IllegalStateException" "java/lang/Throwable" "cause" "Ljava/lang/Throwable;") ∈ eTB := tb_3 (List.mem_of_getElem? (i := 105) rfl) rfl
theorem wd_3_106 : (.lays "java/lang/IllegalStateException" "java/lang/Throwable" "stackTrace" "[Ljava/lang/StackTraceElement;") ∈ eTB := tb_3 (List.mem_of_getElem? (i := 106) rfl) rfl
theorem wd_3_107 : (.lays "java/lang/IllegalStateException" "java/lang/Throwable" "suppressedExceptions" "Ljava/util/List;") ∈ eTB := tb_3 (List.mem_of_getElem? (i := 107) rfl) rfl
theorem wd_3_108 : (.lays "java/lang/IllegalStateException" "java/lang/Throwable" "detailMessage" "Ljava/lang/String;") ∈ eTB := tb_3 (List.mem_of_getElem? (i := 108) rfl) rfl
theorem wd_3_109 : (.lays "java/lang/IllegalStateException" "java/lang/Throwable" "backtrace" "Ljava/lang/Object;") ∈ eTB := tb_3 (List.mem_of_getElem? (i := 109) rfl) rfl
theorem wd_3_111 : (.methodLink RX6 259 ⟨"java/lang/IllegalStateException", "<init>", "(Ljava/lang/String;)V"⟩) ∈ eTB := tb_3 (List.mem_of_getElem? (i := 111) rfl) rfl
theorem wd_3_112 : (.instanceMethod ⟨"java/lang/IllegalStateException", "<init>", "(Ljava/lang/String;)V"⟩) ∈ eTB := tb_3 (List.mem_of_getElem? (i := 112) rfl) rfl
theorem wd_3_113 : (.code ⟨"java/lang/IllegalStateException", "<init>", "(Ljava/lang/String;)V"⟩ prog_17_method_2_code 2 none) ∈ eTB := tb_3 (List.mem_of_getElem? (i := 113) rfl) rfl
theorem wd_3_114 : (.methodLink "java/lang/IllegalStateException" 7 ⟨"java/lang/RuntimeException", "<init>", "(Ljava/lang/String;)V"⟩) ∈ eTB := tb_3 (List.mem_of_getElem? (i := 114) rfl) rfl
theorem wd_3_115 : (.lays "java/lang/IllegalStateException" "java/lang/Throwable" "depth" "I") ∈ eTB := tb_3 (List.mem_of_getElem? (i := 115) rfl) rfl
theorem wd_3_117 : (.classLink RX6 106 "java/util/NoSuchElementException") ∈ eTB := tb_3 (List.mem_of_getElem? (i := 117) rfl) rfl
theorem wd_3_118 : (.instantiable "java/util/NoSuchElementException" 6) ∈ eTB := tb_3 (List.mem_of_getElem? (i := 118) rfl) rfl
theorem wd_3_120 : (.selects "java/util/NoSuchElementException" ⟨"java/lang/Throwable", "fillInStackTrace", "(I)Ljava/lang/Throwable;"⟩ ⟨"java/lang/Throwable", "fillInStackTrace", "(I)Ljava/lang/Throwable;"⟩) ∈ eTB := tb_3 (List.mem_of_getElem? (i := 120) rfl) rfl
theorem wd_3_121 : (.lays "java/util/NoSuchElementException" "java/lang/Throwable" "cause" "Ljava/lang/Throwable;") ∈ eTB := tb_3 (List.mem_of_getElem? (i := 121) rfl) rfl
theorem wd_3_122 : (.lays "java/util/NoSuchElementException" "java/lang/Throwable" "stackTrace" "[Ljava/lang/StackTraceElement;") ∈ eTB := tb_3 (List.mem_of_getElem? (i := 122) rfl) rfl
theorem wd_3_123 : (.lays "java/util/NoSuchElementException" "java/lang/Throwable" "suppressedExceptions" "Ljava/util/List;") ∈ eTB := tb_3 (List.mem_of_getElem? (i := 123) rfl) rfl
theorem wd_3_124 : (.lays "java/util/NoSuchElementException" "java/lang/Throwable" "detailMessage" "Ljava/lang/String;") ∈ eTB := tb_3 (List.mem_of_getElem? (i := 124) rfl) rfl
theorem wd_3_125 : (.lays "java/util/NoSuchElementException" "java/lang/Throwable" "backtrace" "Ljava/lang/Object;") ∈ eTB := tb_3 (List.mem_of_getElem? (i := 125) rfl) rfl
theorem wd_3_127 : (.methodLink RX6 110 ⟨"java/util/NoSuchElementException", "<init>", "(Ljava/lang/String;)V"⟩) ∈ eTB := tb_3 (List.mem_of_getElem? (i := 127) rfl) rfl
theorem wd_3_128 : (.instanceMethod ⟨"java/util/NoSuchElementException", "<init>", "(Ljava/lang/String;)V"⟩) ∈ eTB := tb_3 (List.mem_of_getElem? (i := 128) rfl) rfl
theorem wd_3_129 : (.code ⟨"java/util/NoSuchElementException", "<init>", "(Ljava/lang/String;)V"⟩ prog_29_method_4_code 2 none) ∈ eTB := tb_3 (List.mem_of_getElem? (i := 129) rfl) rfl
theorem wd_3_130 : (.methodLink "java/util/NoSuchElementException" 13 ⟨"java/lang/RuntimeException", "<init>", "(Ljava/lang/String;)V"⟩) ∈ eTB := tb_3 (List.mem_of_getElem? (i := 130) rfl) rfl
theorem wd_3_131 : (.lays "java/util/NoSuchElementException" "java/lang/Throwable" "depth" "I") ∈ eTB := tb_3 (List.mem_of_getElem? (i := 131) rfl) rfl
theorem wd_3_133 : (.classLink RX6 357 "java/lang/UnsupportedOperationException") ∈ eTB := tb_3 (List.mem_of_getElem? (i := 133) rfl) rfl
theorem wd_3_134 : (.instantiable "java/lang/UnsupportedOperationException" 6) ∈ eTB := tb_3 (List.mem_of_getElem? (i := 134) rfl) rfl
theorem wd_3_136 : (.selects "java/lang/UnsupportedOperationException" ⟨"java/lang/Throwable", "fillInStackTrace", "(I)Ljava/lang/Throwable;"⟩ ⟨"java/lang/Throwable", "fillInStackTrace", "(I)Ljava/lang/Throwable;"⟩) ∈ eTB := tb_3 (List.mem_of_getElem? (i := 136) rfl) rfl
theorem wd_3_137 : (.lays "java/lang/UnsupportedOperationException" "java/lang/Throwable" "cause" "Ljava/lang/Throwable;") ∈ eTB := tb_3 (List.mem_of_getElem? (i := 137) rfl) rfl
theorem wd_3_138 : (.lays "java/lang/UnsupportedOperationException" "java/lang/Throwable" "stackTrace" "[Ljava/lang/StackTraceElement;") ∈ eTB := tb_3 (List.mem_of_getElem? (i := 138) rfl) rfl
theorem wd_3_139 : (.lays "java/lang/UnsupportedOperationException" "java/lang/Throwable" "suppressedExceptions" "Ljava/util/List;") ∈ eTB := tb_3 (List.mem_of_getElem? (i := 139) rfl) rfl
theorem wd_3_140 : (.lays "java/lang/UnsupportedOperationException" "java/lang/Throwable" "detailMessage" "Ljava/lang/String;") ∈ eTB := tb_3 (List.mem_of_getElem? (i := 140) rfl) rfl
theorem wd_3_141 : (.lays "java/lang/UnsupportedOperationException" "java/lang/Throwable" "backtrace" "Ljava/lang/Object;") ∈ eTB := tb_3 (List.mem_of_getElem? (i := 141) rfl) rfl
theorem wd_3_143 : (.methodLink RX6 361 ⟨"java/lang/UnsupportedOperationException", "<init>", "(Ljava/lang/String;)V"⟩) ∈ eTB := tb_3 (List.mem_of_getElem? (i := 143) rfl) rfl
theorem wd_3_144 : (.instanceMethod ⟨"java/lang/UnsupportedOperationException", "<init>", "(Ljava/lang/String;)V"⟩) ∈ eTB := tb_3 (List.mem_of_getElem? (i := 144) rfl) rfl
theorem wd_3_145 : (.code ⟨"java/lang/UnsupportedOperationException", "<init>", "(Ljava/lang/String;)V"⟩ prog_26_method_2_code 2 none) ∈ eTB := tb_3 (List.mem_of_getElem? (i := 145) rfl) rfl
theorem wd_3_146 : (.methodLink "java/lang/UnsupportedOperationException" 7 ⟨"java/lang/RuntimeException", "<init>", "(Ljava/lang/String;)V"⟩) ∈ eTB := tb_3 (List.mem_of_getElem? (i := 146) rfl) rfl
theorem wd_3_147 : (.lays "java/lang/UnsupportedOperationException" "java/lang/Throwable" "depth" "I") ∈ eTB := tb_3 (List.mem_of_getElem? (i := 147) rfl) rfl
theorem wd_3_150 : (.methodLink RX6 290 yX4_push) ∈ eTB := tb_3 (List.mem_of_getElem? (i := 150) rfl) rfl
theorem wd_3_151 : (.instanceMethod yX4_push) ∈ eTB := tb_3 (List.mem_of_getElem? (i := 151) rfl) rfl
theorem wd_3_152 : (.selects RX4 yX4_push yX4_push) ∈ eTB := tb_3 (List.mem_of_getElem? (i := 152) rfl) rfl
theorem wd_3_153 : (mWord mX4_push) ∈ eTB := tb_3 (List.mem_of_getElem? (i := 153) rfl) rfl
theorem wd_3_154 : (.methodLink RX4 25 yX2_copyFrom) ∈ eTB := tb_3 (List.mem_of_getElem? (i := 154) rfl) rfl
theorem wd_3_155 : (.methodLink RX4 29 yJ9_min_7cf53) ∈ eTB := tb_3 (List.mem_of_getElem? (i := 155) rfl) rfl
theorem wd_3_156 : (.static yJ9_min_7cf53) ∈ eTB := tb_3 (List.mem_of_getElem? (i := 156) rfl) rfl
theorem wd_3_157 : (mWord mJ9_min_7cf53) ∈ eTB := tb_3 (List.mem_of_getElem? (i := 157) rfl) rfl
theorem wd_3_158 : (.methodLink RX6 71 yX2_add) ∈ eTB := tb_3 (List.mem_of_getElem? (i := 158) rfl) rfl
theorem wd_3_159 : (.instanceMethod yX2_add) ∈ eTB := tb_3 (List.mem_of_getElem? (i := 159) rfl) rfl
theorem wd_3_160 : (.selects RX2 yX2_add yX2_add) ∈ eTB := tb_3 (List.mem_of_getElem? (i := 160) rfl) rfl
theorem wd_3_161 : (mWord mX2_add) ∈ eTB := tb_3 (List.mem_of_getElem? (i := 161) rfl) rfl
theorem wd_3_162 : (.methodLink RL 157 yL_jump) ∈ eTB := tb_3 (List.mem_of_getElem? (i := 162) rfl) rfl
theorem wd_3_163 : (.static yL_jump) ∈ eTB := tb_3 (List.mem_of_getElem? (i := 163) rfl) rfl
theorem wd_3_164 : (mWord mL_jump) ∈ eTB := tb_3 (List.mem_of_getElem? (i := 164) rfl) rfl
theorem wd_3_165 : (.classLink RL 22 "java/lang/IndexOutOfBoundsException") ∈ eTB := tb_3 (List.mem_of_getElem? (i := 165) rfl) rfl
theorem wd_3_166 : (.instantiable RJx00060 6) ∈ eTB := tb_3 (List.mem_of_getElem? (i := 166) rfl) rfl
theorem wd_3_167 : (.instanceMethod yJx00060_init_a7421) ∈ eTB := tb_3 (List.mem_of_getElem? (i := 167) rfl) rfl
theorem wd_3_168 : (mWord mJx00060_init_a7421) ∈ eTB := tb_3 (List.mem_of_getElem? (i := 168) rfl) rfl
theorem wd_3_169 : (.methodLink RJx00060 7 ⟨"java/lang/IndexOutOfBoundsException", "<init>", "(Ljava/lang/String;)V"⟩) ∈ eTB := tb_3 (List.mem_of_getElem? (i := 169) rfl) rfl
theorem wd_3_170 : (.lays "java/lang/ArrayIndexOutOfBoundsException" "java/lang/Throwable" "backtrace" "Ljava/lang/Object;") ∈ eTB := tb_3 (List.mem_of_getElem? (i := 170) rfl) rfl
theorem wd_3_171 : (.lays "java/lang/ArrayIndexOutOfBoundsException" "java/lang/Throwable" "detailMessage" "Ljava/lang/String;") ∈ eTB := tb_3 (List.mem_of_getElem? (i := 171) rfl) rfl
theorem wd_3_172 : (.lays "java/lang/ArrayIndexOutOfBoundsException" "java/lang/Throwable" "cause" "Ljava/lang/Throwable;") ∈ eTB := tb_3 (List.mem_of_getElem? (i := 172) rfl) rfl
theorem wd_3_173 : (.lays "java/lang/ArrayIndexOutOfBoundsException" "java/lang/Throwable" "stackTrace" "[Ljava/lang/StackTraceElement;") ∈ eTB := tb_3 (List.mem_of_getElem? (i := 173) rfl) rfl
theorem wd_3_174 : (.lays "java/lang/ArrayIndexOutOfBoundsException" "java/lang/Throwable" "depth" "I") ∈ eTB := tb_3 (List.mem_of_getElem? (i := 174) rfl) rfl
theorem wd_3_175 : (.lays "java/lang/ArrayIndexOutOfBoundsException" "java/lang/Throwable" "suppressedExceptions" "Ljava/util/List;") ∈ eTB := tb_3 (List.mem_of_getElem? (i := 175) rfl) rfl
theorem wd_3_180 : (.selects RJx00060 ⟨"java/lang/Throwable", "fillInStackTrace", "(I)Ljava/lang/Throwable;"⟩ ⟨"java/lang/Throwable", "fillInStackTrace", "(I)Ljava/lang/Throwable;"⟩) ∈ eTB := tb_3 (List.mem_of_getElem? (i := 180) rfl) rfl
theorem wd_3_181 : (.instantiable RJ0 4) ∈ eTB := tb_3 (List.mem_of_getElem? (i := 181) rfl) rfl
theorem wd_3_182 : (.laysFinal "java/lang/String" "java/lang/String" "value" "[B") ∈ eTB := tb_3 (List.mem_of_getElem? (i := 182) rfl) rfl
theorem wd_3_184 : (.laysFinal "java/lang/String" "java/lang/String" "coder" "B") ∈ eTB := tb_3 (List.mem_of_getElem? (i := 184) rfl) rfl
theorem wd_3_186 : (.methodLink RL 19 yX6_jump) ∈ eTB := tb_3 (List.mem_of_getElem? (i := 186) rfl) rfl
theorem wd_3_187 : (.instanceMethod yX6_jump) ∈ eTB := tb_3 (List.mem_of_getElem? (i := 187) rfl) rfl
theorem wd_3_188 : (.selects RX6 yX6_jump yX6_jump) ∈ eTB := tb_3 (List.mem_of_getElem? (i := 188) rfl) rfl
theorem wd_3_189 : (mWord mX6_jump) ∈ eTB := tb_3 (List.mem_of_getElem? (i := 189) rfl) rfl
theorem wd_3_190 : (.methodLink RX6 75 yX2_put) ∈ eTB := tb_3 (List.mem_of_getElem? (i := 190) rfl) rfl
theorem wd_3_191 : (.instanceMethod yX2_put) ∈ eTB := tb_3 (List.mem_of_getElem? (i := 191) rfl) rfl
theorem wd_3_192 : (.selects RX2 yX2_put yX2_put) ∈ eTB := tb_3 (List.mem_of_getElem? (i := 192) rfl) rfl
theorem wd_3_193 : (mWord mX2_put) ∈ eTB := tb_3 (List.mem_of_getElem? (i := 193) rfl) rfl
theorem wd_3_194 : (.methodLink RL 160 yL_setHandle) ∈ eTB := tb_3 (List.mem_of_getElem? (i := 194) rfl) rfl
theorem wd_3_195 : (.static yL_setHandle) ∈ eTB := tb_3 (List.mem_of_getElem? (i := 195) rfl) rfl
theorem wd_3_196 : (mWord mL_setHandle) ∈ eTB := tb_3 (List.mem_of_getElem? (i := 196) rfl) rfl
theorem wd_3_197 : (.methodLink RL 24 yX6_setHandle) ∈ eTB := tb_3 (List.mem_of_getElem? (i := 197) rfl) rfl
theorem wd_3_198 : (.instanceMethod yX6_setHandle) ∈ eTB := tb_3 (List.mem_of_getElem? (i := 198) rfl) rfl
theorem wd_3_199 : (.selects RX6 yX6_setHandle yX6_setHandle) ∈ eTB := tb_3 (List.mem_of_getElem? (i := 199) rfl) rfl
theorem wd_3_200 : (mWord mX6_setHandle) ∈ eTB := tb_3 (List.mem_of_getElem? (i := 200) rfl) rfl
theorem wd_3_201 : (.methodLink RX6 78 yX2_replaceHandle) ∈ eTB := tb_3 (List.mem_of_getElem? (i := 201) rfl) rfl
theorem wd_3_202 : (.instanceMethod yX2_replaceHandle) ∈ eTB := tb_3 (List.mem_of_getElem? (i := 202) rfl) rfl
theorem wd_3_203 : (.selects RX2 yX2_replaceHandle yX2_replaceHandle) ∈ eTB := tb_3 (List.mem_of_getElem? (i := 203) rfl) rfl
theorem wd_3_204 : (mWord mX2_replaceHandle) ∈ eTB := tb_3 (List.mem_of_getElem? (i := 204) rfl) rfl
theorem wd_3_205 : (.methodLink RL 168 yL_xOf) ∈ eTB := tb_3 (List.mem_of_getElem? (i := 205) rfl) rfl
theorem wd_3_206 : (.static yL_xOf) ∈ eTB := tb_3 (List.mem_of_getElem? (i := 206) rfl) rfl
theorem wd_3_207 : (mWord mL_xOf) ∈ eTB := tb_3 (List.mem_of_getElem? (i := 207) rfl) rfl
theorem wd_3_208 : (.methodLink RL 28 yX6_xOf) ∈ eTB := tb_3 (List.mem_of_getElem? (i := 208) rfl) rfl
theorem wd_3_209 : (.instanceMethod yX6_xOf) ∈ eTB := tb_3 (List.mem_of_getElem? (i := 209) rfl) rfl
theorem wd_3_210 : (.selects RX6 yX6_xOf yX6_xOf) ∈ eTB := tb_3 (List.mem_of_getElem? (i := 210) rfl) rfl
theorem wd_3_211 : (mWord mX6_xOf) ∈ eTB := tb_3 (List.mem_of_getElem? (i := 211) rfl) rfl
theorem wd_3_212 : (.methodLink RX6 85 yX6_demandBasket) ∈ eTB := tb_3 (List.mem_of_getElem? (i := 212) rfl) rfl
theorem wd_3_214 : (.instanceMethod yX6_demandBasket) ∈ eTB := tb_3 (List.mem_of_getElem? (i := 214) rfl) rfl
theorem wd_3_215 : (mWord mX6_demandBasket) ∈ eTB := tb_3 (List.mem_of_getElem? (i := 215) rfl) rfl
theorem wd_3_216 : (.methodLink RX6 364 yX2_has) ∈ eTB := tb_3 (List.mem_of_getElem? (i := 216) rfl) rfl
theorem wd_3_217 : (.methodLink RL 172 yL_yOf) ∈ eTB := tb_3 (List.mem_of_getElem? (i := 217) rfl) rfl
theorem wd_3_218 : (.static yL_yOf) ∈ eTB := tb_3 (List.mem_of_getElem? (i := 218) rfl) rfl
theorem wd_3_219 : (mWord mL_yOf) ∈ eTB := tb_3 (List.mem_of_getElem? (i := 219) rfl) rfl
theorem wd_3_220 : (.methodLink RL 32 yX6_yOf) ∈ eTB := tb_3 (List.mem_of_getElem? (i := 220) rfl) rfl
theorem wd_3_221 : (.instanceMethod yX6_yOf) ∈ eTB := tb_3 (List.mem_of_getElem? (i := 221) rfl) rfl
theorem wd_3_222 : (.selects RX6 yX6_yOf yX6_yOf) ∈ eTB := tb_3 (List.mem_of_getElem? (i := 222) rfl) rfl
theorem wd_3_223 : (mWord mX6_yOf) ∈ eTB := tb_3 (List.mem_of_getElem? (i := 223) rfl) rfl
theorem wd_3_224 : (.methodLink RL 175 yL_handleOf) ∈ eTB := tb_3 (List.mem_of_getElem? (i := 224) rfl) rfl
theorem wd_3_225 : (.static yL_handleOf) ∈ eTB := tb_3 (List.mem_of_getElem? (i := 225) rfl) rfl
theorem wd_3_226 : (mWord mL_handleOf) ∈ eTB := tb_3 (List.mem_of_getElem? (i := 226) rfl) rfl
theorem wd_3_227 : (.methodLink RL 35 yX6_handleOf) ∈ eTB := tb_3 (List.mem_of_getElem? (i := 227) rfl) rfl
theorem wd_3_228 : (.instanceMethod yX6_handleOf) ∈ eTB := tb_3 (List.mem_of_getElem? (i := 228) rfl) rfl
theorem wd_3_229 : (.selects RX6 yX6_handleOf yX6_handleOf) ∈ eTB := tb_3 (List.mem_of_getElem? (i := 229) rfl) rfl
theorem wd_3_230 : (mWord mX6_handleOf) ∈ eTB := tb_3 (List.mem_of_getElem? (i := 230) rfl) rfl
theorem wd_3_231 : (.methodLink RL 178 yL_basketAt) ∈ eTB := tb_3 (List.mem_of_getElem? (i := 231) rfl) rfl
theorem wd_3_232 : (.static yL_basketAt) ∈ eTB := tb_3 (List.mem_of_getElem? (i := 232) rfl) rfl
theorem wd_3_233 : (mWord mL_basketAt) ∈ eTB := tb_3 (List.mem_of_getElem? (i := 233) rfl) rfl
theorem wd_3_234 : (.classLink RL 41 "java/util/NoSuchElementException") ∈ eTB := tb_3 (List.mem_of_getElem? (i := 234) rfl) rfl
theorem wd_3_235 : (.methodLink RL 38 yX6_basketAt) ∈ eTB := tb_3 (List.mem_of_getElem? (i := 235) rfl) rfl
theorem wd_3_236 : (.instanceMethod yX6_basketAt) ∈ eTB := tb_3 (List.mem_of_getElem? (i := 236) rfl) rfl
theorem wd_3_237 : (.selects RX6 yX6_basketAt yX6_basketAt) ∈ eTB := tb_3 (List.mem_of_getElem? (i := 237) rfl) rfl
theorem wd_3_238 : (mWord mX6_basketAt) ∈ eTB := tb_3 (List.mem_of_getElem? (i := 238) rfl) rfl
theorem wd_3_239 : (.methodLink RX6 99 yX6_demandCell) ∈ eTB := tb_3 (List.mem_of_getElem? (i := 239) rfl) rfl
theorem wd_4_1 : (.instanceMethod yX6_demandCell) ∈ eTB := tb_4 (List.mem_of_getElem? (i := 1) rfl) rfl
theorem wd_4_2 : (mWord mX6_demandCell) ∈ eTB := tb_4 (List.mem_of_getElem? (i := 2) rfl) rfl
theorem wd_4_3 : (.methodLink RX6 370 yX0_inSky) ∈ eTB := tb_4 (List.mem_of_getElem? (i := 3) rfl) rfl
theorem wd_4_5 : (.methodLink RX6 103 yX2_basketIn) ∈ eTB := tb_4 (List.mem_of_getElem? (i := 5) rfl) rfl
theorem wd_4_7 : (.methodLink RL 181 yL_distance) ∈ eTB := tb_4 (List.mem_of_getElem? (i := 7) rfl) rfl
theorem wd_4_8 : (.static yL_distance) ∈ eTB := tb_4 (List.mem_of_getElem? (i := 8) rfl) rfl
theorem wd_4_9 : (mWord mL_distance) ∈ eTB := tb_4 (List.mem_of_getElem? (i := 9) rfl) rfl
theorem wd_4_10 : (.methodLink RL 43 yX6_distance) ∈ eTB := tb_4 (List.mem_of_getElem? (i := 10) rfl) rfl
theorem wd_4_11 : (.instanceMethod yX6_distance) ∈ eTB := tb_4 (List.mem_of_getElem? (i := 11) rfl) rfl
theorem wd_4_12 : (.selects RX6 yX6_distance yX6_distance) ∈ eTB := tb_4 (List.mem_of_getElem? (i := 12) rfl) rfl
theorem wd_4_13 : (mWord mX6_distance) ∈ eTB := tb_4 (List.mem_of_getElem? (i := 13) rfl) rfl
theorem wd_4_14 : (.methodLink RX6 113 yX2_distanceOf) ∈ eTB := tb_4 (List.mem_of_getElem? (i := 14) rfl) rfl
theorem wd_4_15 : (.methodLink RL 184 yL_nearestTo) ∈ eTB := tb_4 (List.mem_of_getElem? (i := 15) rfl) rfl
theorem wd_4_16 : (.static yL_nearestTo) ∈ eTB := tb_4 (List.mem_of_getElem? (i := 16) rfl) rfl
theorem wd_4_17 : (mWord mL_nearestTo) ∈ eTB := tb_4 (List.mem_of_getElem? (i := 17) rfl) rfl
theorem wd_4_18 : (.methodLink RL 46 yX6_nearestTo) ∈ eTB := tb_4 (List.mem_of_getElem? (i := 18) rfl) rfl
theorem wd_4_19 : (.instanceMethod yX6_nearestTo) ∈ eTB := tb_4 (List.mem_of_getElem? (i := 19) rfl) rfl
theorem wd_4_20 : (.selects RX6 yX6_nearestTo yX6_nearestTo) ∈ eTB := tb_4 (List.mem_of_getElem? (i := 20) rfl) rfl
theorem wd_4_21 : (mWord mX6_nearestTo) ∈ eTB := tb_4 (List.mem_of_getElem? (i := 21) rfl) rfl
theorem wd_4_22 : (.methodLink RX6 116 yX2_nearestOther) ∈ eTB := tb_4 (List.mem_of_getElem? (i := 22) rfl) rfl
theorem wd_4_23 : (.instanceMethod yX2_nearestOther) ∈ eTB := tb_4 (List.mem_of_getElem? (i := 23) rfl) rfl
theorem wd_4_24 : (.selects RX2 yX2_nearestOther yX2_nearestOther) ∈ eTB := tb_4 (List.mem_of_getElem? (i := 24) rfl) rfl
theorem wd_4_25 : (mWord mX2_nearestOther) ∈ eTB := tb_4 (List.mem_of_getElem? (i := 25) rfl) rfl
theorem wd_4_27 : (.methodLink RL 187 yL_refusalReason) ∈ eTB := tb_4 (List.mem_of_getElem? (i := 27) rfl) rfl
theorem wd_4_28 : (.static yL_refusalReason) ∈ eTB := tb_4 (List.mem_of_getElem? (i := 28) rfl) rfl
theorem wd_4_29 : (mWord mL_refusalReason) ∈ eTB := tb_4 (List.mem_of_getElem? (i := 29) rfl) rfl
theorem wd_4_30 : (.methodLink RL 49 yX6_refusalReason) ∈ eTB := tb_4 (List.mem_of_getElem? (i := 30) rfl) rfl
theorem wd_4_31 : (.instanceMethod yX6_refusalReason) ∈ eTB := tb_4 (List.mem_of_getElem? (i := 31) rfl) rfl
theorem wd_4_32 : (.selects RX6 yX6_refusalReason yX6_refusalReason) ∈ eTB := tb_4 (List.mem_of_getElem? (i := 32) rfl) rfl
theorem wd_4_33 : (mWord mX6_refusalReason) ∈ eTB := tb_4 (List.mem_of_getElem? (i := 33) rfl) rfl
theorem wd_4_34 : (.methodLink RX6 122 yX6_demandRefusal) ∈ eTB := tb_4 (List.mem_of_getElem? (i := 34) rfl) rfl
theorem wd_4_36 : (.instanceMethod yX6_demandRefusal) ∈ eTB := tb_4 (List.mem_of_getElem? (i := 36) rfl) rfl
theorem wd_4_37 : (mWord mX6_demandRefusal) ∈ eTB := tb_4 (List.mem_of_getElem? (i := 37) rfl) rfl
theorem wd_4_39 : (.methodLink RL 191 yL_refusalDetail) ∈ eTB := tb_4 (List.mem_of_getElem? (i := 39) rfl) rfl
theorem wd_4_40 : (.static yL_refusalDetail) ∈ eTB := tb_4 (List.mem_of_getElem? (i := 40) rfl) rfl
theorem wd_4_41 : (mWord mL_refusalDetail) ∈ eTB := tb_4 (List.mem_of_getElem? (i := 41) rfl) rfl
theorem wd_4_42 : (.methodLink RL 53 yX6_refusalDetail) ∈ eTB := tb_4 (List.mem_of_getElem? (i := 42) rfl) rfl
theorem wd_4_43 : (.instanceMethod yX6_refusalDetail) ∈ eTB := tb_4 (List.mem_of_getElem? (i := 43) rfl) rfl
theorem wd_4_44 : (.selects RX6 yX6_refusalDetail yX6_refusalDetail) ∈ eTB := tb_4 (List.mem_of_getElem? (i := 44) rfl) rfl
theorem wd_4_45 : (mWord mX6_refusalDetail) ∈ eTB := tb_4 (List.mem_of_getElem? (i := 45) rfl) rfl
theorem wd_4_46 : (.methodLink RL 194 yL_addCloud) ∈ eTB := tb_4 (List.mem_of_getElem? (i := 46) rfl) rfl
theorem wd_4_47 : (.static yL_addCloud) ∈ eTB := tb_4 (List.mem_of_getElem? (i := 47) rfl) rfl
theorem wd_4_48 : (mWord mL_addCloud) ∈ eTB := tb_4 (List.mem_of_getElem? (i := 48) rfl) rfl
theorem wd_4_49 : (.methodLink RL 56 yX6_addCloud) ∈ eTB := tb_4 (List.mem_of_getElem? (i := 49) rfl) rfl
theorem wd_4_50 : (.instanceMethod yX6_addCloud) ∈ eTB := tb_4 (List.mem_of_getElem? (i := 50) rfl) rfl
theorem wd_4_51 : (.selects RX6 yX6_addCloud yX6_addCloud) ∈ eTB := tb_4 (List.mem_of_getElem? (i := 51) rfl) rfl
theorem wd_4_52 : (mWord mX6_addCloud) ∈ eTB := tb_4 (List.mem_of_getElem? (i := 52) rfl) rfl
theorem wd_4_53 : (.methodLink RX6 129 yX0_put) ∈ eTB := tb_4 (List.mem_of_getElem? (i := 53) rfl) rfl
theorem wd_4_54 : (.instanceMethod yX0_put) ∈ eTB := tb_4 (List.mem_of_getElem? (i := 54) rfl) rfl
theorem wd_4_55 : (.selects RX0 yX0_put yX0_put) ∈ eTB := tb_4 (List.mem_of_getElem? (i := 55) rfl) rfl
theorem wd_4_56 : (mWord mX0_put) ∈ eTB := tb_4 (List.mem_of_getElem? (i := 56) rfl) rfl
theorem wd_4_57 : (.methodLink RX0 23 yX0_covers) ∈ eTB := tb_4 (List.mem_of_getElem? (i := 57) rfl) rfl
theorem wd_4_58 : (.methodLink RL 197 yL_removeCloud) ∈ eTB := tb_4 (List.mem_of_getElem? (i := 58) rfl) rfl
theorem wd_4_59 : (.static yL_removeCloud) ∈ eTB := tb_4 (List.mem_of_getElem? (i := 59) rfl) rfl
theorem wd_4_60 : (mWord mL_removeCloud) ∈ eTB := tb_4 (List.mem_of_getElem? (i := 60) rfl) rfl
theorem wd_4_61 : (.methodLink RL 59 yX6_removeCloud) ∈ eTB := tb_4 (List.mem_of_getElem? (i := 61) rfl) rfl
theorem wd_4_62 : (.instanceMethod yX6_removeCloud) ∈ eTB := tb_4 (List.mem_of_getElem? (i := 62) rfl) rfl
theorem wd_4_63 : (.selects RX6 yX6_removeCloud yX6_removeCloud) ∈ eTB := tb_4 (List.mem_of_getElem? (i := 63) rfl) rfl
theorem wd_4_64 : (mWord mX6_removeCloud) ∈ eTB := tb_4 (List.mem_of_getElem? (i := 64) rfl) rfl
theorem wd_4_65 : (.methodLink RX6 133 yX0_remove) ∈ eTB := tb_4 (List.mem_of_getElem? (i := 65) rfl) rfl
theorem wd_4_66 : (.instanceMethod yX0_remove) ∈ eTB := tb_4 (List.mem_of_getElem? (i := 66) rfl) rfl
theorem wd_4_67 : (.selects RX0 yX0_remove yX0_remove) ∈ eTB := tb_4 (List.mem_of_getElem? (i := 67) rfl) rfl
theorem wd_4_68 : (mWord mX0_remove) ∈ eTB := tb_4 (List.mem_of_getElem? (i := 68) rfl) rfl
theorem wd_4_69 : (.methodLink RL 200 yL_isCloud) ∈ eTB := tb_4 (List.mem_of_getElem? (i := 69) rfl) rfl
theorem wd_4_70 : (.static yL_isCloud) ∈ eTB := tb_4 (List.mem_of_getElem? (i := 70) rfl) rfl
theorem wd_4_71 : (mWord mL_isCloud) ∈ eTB := tb_4 (List.mem_of_getElem? (i := 71) rfl) rfl
theorem wd_4_72 : (.methodLink RL 62 yX6_isCloud) ∈ eTB := tb_4 (List.mem_of_getElem? (i := 72) rfl) rfl
theorem wd_4_73 : (.instanceMethod yX6_isCloud) ∈ eTB := tb_4 (List.mem_of_getElem? (i := 73) rfl) rfl
theorem wd_4_74 : (.selects RX6 yX6_isCloud yX6_isCloud) ∈ eTB := tb_4 (List.mem_of_getElem? (i := 74) rfl) rfl
theorem wd_4_75 : (mWord mX6_isCloud) ∈ eTB := tb_4 (List.mem_of_getElem? (i := 75) rfl) rfl
theorem wd_4_76 : (.methodLink RL 207 yL_setTurnLength) ∈ eTB := tb_4 (List.mem_of_getElem? (i := 76) rfl) rfl
theorem wd_4_77 : (.static yL_setTurnLength) ∈ eTB := tb_4 (List.mem_of_getElem? (i := 77) rfl) rfl
theorem wd_4_78 : (mWord mL_setTurnLength) ∈ eTB := tb_4 (List.mem_of_getElem? (i := 78) rfl) rfl
theorem wd_4_79 : (.methodLink RL 66 yX6_setTurnLength) ∈ eTB := tb_4 (List.mem_of_getElem? (i := 79) rfl) rfl
theorem wd_4_80 : (.instanceMethod yX6_setTurnLength) ∈ eTB := tb_4 (List.mem_of_getElem? (i := 80) rfl) rfl
theorem wd_4_81 : (.selects RX6 yX6_setTurnLength yX6_setTurnLength) ∈ eTB := tb_4 (List.mem_of_getElem? (i := 81) rfl) rfl
theorem wd_4_82 : (mWord mX6_setTurnLength) ∈ eTB := tb_4 (List.mem_of_getElem? (i := 82) rfl) rfl
theorem wd_4_83 : (.methodLink RX6 141 yX2_replaceTurn) ∈ eTB := tb_4 (List.mem_of_getElem? (i := 83) rfl) rfl
theorem wd_4_84 : (.instanceMethod yX2_replaceTurn) ∈ eTB := tb_4 (List.mem_of_getElem? (i := 84) rfl) rfl
theorem wd_4_85 : (.selects RX2 yX2_replaceTurn yX2_replaceTurn) ∈ eTB := tb_4 (List.mem_of_getElem? (i := 85) rfl) rfl
theorem wd_4_86 : (mWord mX2_replaceTurn) ∈ eTB := tb_4 (List.mem_of_getElem? (i := 86) rfl) rfl
theorem wd_4_87 : (.methodLink RL 214 yL_leader) ∈ eTB := tb_4 (List.mem_of_getElem? (i := 87) rfl) rfl
theorem wd_4_88 : (.static yL_leader) ∈ eTB := tb_4 (List.mem_of_getElem? (i := 88) rfl) rfl
theorem wd_4_89 : (mWord mL_leader) ∈ eTB := tb_4 (List.mem_of_getElem? (i := 89) rfl) rfl
theorem wd_4_90 : (.methodLink RL 69 yX6_leader) ∈ eTB := tb_4 (List.mem_of_getElem? (i := 90) rfl) rfl
theorem wd_4_91 : (.instanceMethod yX6_leader) ∈ eTB := tb_4 (List.mem_of_getElem? (i := 91) rfl) rfl
theorem wd_4_92 : (.selects RX6 yX6_leader yX6_leader) ∈ eTB := tb_4 (List.mem_of_getElem? (i := 92) rfl) rfl
theorem wd_4_93 : (mWord mX6_leader) ∈ eTB := tb_4 (List.mem_of_getElem? (i := 93) rfl) rfl
theorem wd_4_94 : (.methodLink RX6 147 yX6_demandAnyBasket) ∈ eTB := tb_4 (List.mem_of_getElem? (i := 94) rfl) rfl
theorem wd_4_96 : (.instanceMethod yX6_demandAnyBasket) ∈ eTB := tb_4 (List.mem_of_getElem? (i := 96) rfl) rfl
theorem wd_4_97 : (mWord mX6_demandAnyBasket) ∈ eTB := tb_4 (List.mem_of_getElem? (i := 97) rfl) rfl
theorem wd_4_99 : (.methodLink RL 217 yL_leaderAfter) ∈ eTB := tb_4 (List.mem_of_getElem? (i := 99) rfl) rfl
theorem wd_4_100 : (.static yL_leaderAfter) ∈ eTB := tb_4 (List.mem_of_getElem? (i := 100) rfl) rfl
theorem wd_4_101 : (mWord mL_leaderAfter) ∈ eTB := tb_4 (List.mem_of_getElem? (i := 101) rfl) rfl
theorem wd_4_102 : (.methodLink RL 72 yX6_leaderAfter) ∈ eTB := tb_4 (List.mem_of_getElem? (i := 102) rfl) rfl
theorem wd_4_103 : (.instanceMethod yX6_leaderAfter) ∈ eTB := tb_4 (List.mem_of_getElem? (i := 103) rfl) rfl
theorem wd_4_104 : (.selects RX6 yX6_leaderAfter yX6_leaderAfter) ∈ eTB := tb_4 (List.mem_of_getElem? (i := 104) rfl) rfl
theorem wd_4_105 : (mWord mX6_leaderAfter) ∈ eTB := tb_4 (List.mem_of_getElem? (i := 105) rfl) rfl
theorem wd_4_106 : (.methodLink RX6 153 yX6_demandStepsAhead) ∈ eTB := tb_4 (List.mem_of_getElem? (i := 106) rfl) rfl
theorem wd_4_108 : (.instanceMethod yX6_demandStepsAhead) ∈ eTB := tb_4 (List.mem_of_getElem? (i := 108) rfl) rfl
theorem wd_4_109 : (mWord mX6_demandStepsAhead) ∈ eTB := tb_4 (List.mem_of_getElem? (i := 109) rfl) rfl
theorem wd_4_111 : (.methodLink RL 220 yL_leaderAfterByCounting) ∈ eTB := tb_4 (List.mem_of_getElem? (i := 111) rfl) rfl
theorem wd_4_112 : (.static yL_leaderAfterByCounting) ∈ eTB := tb_4 (List.mem_of_getElem? (i := 112) rfl) rfl
theorem wd_4_113 : (mWord mL_leaderAfterByCounting) ∈ eTB := tb_4 (List.mem_of_getElem? (i := 113) rfl) rfl
theorem wd_4_114 : (.methodLink RL 75 yX6_leaderAfterByCounting) ∈ eTB := tb_4 (List.mem_of_getElem? (i := 114) rfl) rfl
theorem wd_4_115 : (.instanceMethod yX6_leaderAfterByCounting) ∈ eTB := tb_4 (List.mem_of_getElem? (i := 115) rfl) rfl
theorem wd_4_116 : (.selects RX6 yX6_leaderAfterByCounting yX6_leaderAfterByCounting) ∈ eTB := tb_4 (List.mem_of_getElem? (i := 116) rfl) rfl
theorem wd_4_117 : (mWord mX6_leaderAfterByCounting) ∈ eTB := tb_4 (List.mem_of_getElem? (i := 117) rfl) rfl
theorem wd_4_118 : (.methodLink RL 223 yL_setTarget) ∈ eTB := tb_4 (List.mem_of_getElem? (i := 118) rfl) rfl
theorem wd_4_119 : (.static yL_setTarget) ∈ eTB := tb_4 (List.mem_of_getElem? (i := 119) rfl) rfl
theorem wd_4_120 : (mWord mL_setTarget) ∈ eTB := tb_4 (List.mem_of_getElem? (i := 120) rfl) rfl
theorem wd_4_121 : (.methodLink RL 78 yX6_setTarget) ∈ eTB := tb_4 (List.mem_of_getElem? (i := 121) rfl) rfl
theorem wd_4_122 : (.instanceMethod yX6_setTarget) ∈ eTB := tb_4 (List.mem_of_getElem? (i := 122) rfl) rfl
theorem wd_4_123 : (.selects RX6 yX6_setTarget yX6_setTarget) ∈ eTB := tb_4 (List.mem_of_getElem? (i := 123) rfl) rfl
theorem wd_4_124 : (mWord mX6_setTarget) ∈ eTB := tb_4 (List.mem_of_getElem? (i := 124) rfl) rfl
theorem wd_4_125 : (.methodLink RX6 162 yX2_replaceGoal) ∈ eTB := tb_4 (List.mem_of_getElem? (i := 125) rfl) rfl
theorem wd_4_126 : (.instanceMethod yX2_replaceGoal) ∈ eTB := tb_4 (List.mem_of_getElem? (i := 126) rfl) rfl
theorem wd_4_127 : (.selects RX2 yX2_replaceGoal yX2_replaceGoal) ∈ eTB := tb_4 (List.mem_of_getElem? (i := 127) rfl) rfl
theorem wd_4_128 : (mWord mX2_replaceGoal) ∈ eTB := tb_4 (List.mem_of_getElem? (i := 128) rfl) rfl
theorem wd_4_129 : (.methodLink RL 226 yL_targetX) ∈ eTB := tb_4 (List.mem_of_getElem? (i := 129) rfl) rfl
theorem wd_4_130 : (.static yL_targetX) ∈ eTB := tb_4 (List.mem_of_getElem? (i := 130) rfl) rfl
theorem wd_4_131 : (mWord mL_targetX) ∈ eTB := tb_4 (List.mem_of_getElem? (i := 131) rfl) rfl
theorem wd_4_132 : (.methodLink RL 81 yX6_targetX) ∈ eTB := tb_4 (List.mem_of_getElem? (i := 132) rfl) rfl
theorem wd_4_133 : (.instanceMethod yX6_targetX) ∈ eTB := tb_4 (List.mem_of_getElem? (i := 133) rfl) rfl
theorem wd_4_134 : (.selects RX6 yX6_targetX yX6_targetX) ∈ eTB := tb_4 (List.mem_of_getElem? (i := 134) rfl) rfl
theorem wd_4_135 : (mWord mX6_targetX) ∈ eTB := tb_4 (List.mem_of_getElem? (i := 135) rfl) rfl
theorem wd_4_136 : (.methodLink RX6 165 yX6_demandTarget) ∈ eTB := tb_4 (List.mem_of_getElem? (i := 136) rfl) rfl
theorem wd_4_138 : (.instanceMethod yX6_demandTarget) ∈ eTB := tb_4 (List.mem_of_getElem? (i := 138) rfl) rfl
theorem wd_4_139 : (mWord mX6_demandTarget) ∈ eTB := tb_4 (List.mem_of_getElem? (i := 139) rfl) rfl
theorem wd_4_140 : (.methodLink RX6 377 yX2_hasTarget) ∈ eTB := tb_4 (List.mem_of_getElem? (i := 140) rfl) rfl
theorem wd_4_141 : (.instanceMethod yX2_hasTarget) ∈ eTB := tb_4 (List.mem_of_getElem? (i := 141) rfl) rfl
theorem wd_4_142 : (.selects RX2 yX2_hasTarget yX2_hasTarget) ∈ eTB := tb_4 (List.mem_of_getElem? (i := 142) rfl) rfl
theorem wd_4_143 : (mWord mX2_hasTarget) ∈ eTB := tb_4 (List.mem_of_getElem? (i := 143) rfl) rfl
theorem wd_4_145 : (.methodLink RL 229 yL_targetY) ∈ eTB := tb_4 (List.mem_of_getElem? (i := 145) rfl) rfl
theorem wd_4_146 : (.static yL_targetY) ∈ eTB := tb_4 (List.mem_of_getElem? (i := 146) rfl) rfl
theorem wd_4_147 : (mWord mL_targetY) ∈ eTB := tb_4 (List.mem_of_getElem? (i := 147) rfl) rfl
theorem wd_4_148 : (.methodLink RL 84 yX6_targetY) ∈ eTB := tb_4 (List.mem_of_getElem? (i := 148) rfl) rfl
theorem wd_4_149 : (.instanceMethod yX6_targetY) ∈ eTB := tb_4 (List.mem_of_getElem? (i := 149) rfl) rfl
theorem wd_4_150 : (.selects RX6 yX6_targetY yX6_targetY) ∈ eTB := tb_4 (List.mem_of_getElem? (i := 150) rfl) rfl
theorem wd_4_151 : (mWord mX6_targetY) ∈ eTB := tb_4 (List.mem_of_getElem? (i := 151) rfl) rfl
theorem wd_4_152 : (.methodLink RL 232 yL_stepsToTarget) ∈ eTB := tb_4 (List.mem_of_getElem? (i := 152) rfl) rfl
theorem wd_4_153 : (.static yL_stepsToTarget) ∈ eTB := tb_4 (List.mem_of_getElem? (i := 153) rfl) rfl
theorem wd_4_154 : (mWord mL_stepsToTarget) ∈ eTB := tb_4 (List.mem_of_getElem? (i := 154) rfl) rfl
theorem wd_4_155 : (.methodLink RL 87 yX6_stepsToTarget) ∈ eTB := tb_4 (List.mem_of_getElem? (i := 155) rfl) rfl
theorem wd_4_156 : (.instanceMethod yX6_stepsToTarget) ∈ eTB := tb_4 (List.mem_of_getElem? (i := 156) rfl) rfl
theorem wd_4_157 : (.selects RX6 yX6_stepsToTarget yX6_stepsToTarget) ∈ eTB := tb_4 (List.mem_of_getElem? (i := 157) rfl) rfl
theorem wd_4_158 : (mWord mX6_stepsToTarget) ∈ eTB := tb_4 (List.mem_of_getElem? (i := 158) rfl) rfl
theorem wd_4_159 : (.methodLink RX6 178 yX2_leaderIsOnTarget) ∈ eTB := tb_4 (List.mem_of_getElem? (i := 159) rfl) rfl
theorem wd_4_160 : (.instanceMethod yX2_leaderIsOnTarget) ∈ eTB := tb_4 (List.mem_of_getElem? (i := 160) rfl) rfl
theorem wd_4_161 : (.selects RX2 yX2_leaderIsOnTarget yX2_leaderIsOnTarget) ∈ eTB := tb_4 (List.mem_of_getElem? (i := 161) rfl) rfl
theorem wd_4_162 : (mWord mX2_leaderIsOnTarget) ∈ eTB := tb_4 (List.mem_of_getElem? (i := 162) rfl) rfl
theorem wd_4_163 : (.methodLink RX2 165 yX2_hasTarget) ∈ eTB := tb_4 (List.mem_of_getElem? (i := 163) rfl) rfl
theorem wd_4_164 : (.methodLink RX6 182 yX2_passSteps) ∈ eTB := tb_4 (List.mem_of_getElem? (i := 164) rfl) rfl
theorem wd_4_165 : (.instanceMethod yX2_passSteps) ∈ eTB := tb_4 (List.mem_of_getElem? (i := 165) rfl) rfl
theorem wd_4_166 : (.selects RX2 yX2_passSteps yX2_passSteps) ∈ eTB := tb_4 (List.mem_of_getElem? (i := 166) rfl) rfl
theorem wd_4_167 : (mWord mX2_passSteps) ∈ eTB := tb_4 (List.mem_of_getElem? (i := 167) rfl) rfl
theorem wd_4_168 : (.methodLink RX2 152 yX2_moveLeader) ∈ eTB := tb_4 (List.mem_of_getElem? (i := 168) rfl) rfl
theorem wd_4_169 : (.instanceMethod yX2_moveLeader) ∈ eTB := tb_4 (List.mem_of_getElem? (i := 169) rfl) rfl
theorem wd_4_170 : (.selects RX2 yX2_moveLeader yX2_moveLeader) ∈ eTB := tb_4 (List.mem_of_getElem? (i := 170) rfl) rfl
theorem wd_4_171 : (mWord mX2_moveLeader) ∈ eTB := tb_4 (List.mem_of_getElem? (i := 171) rfl) rfl
theorem wd_4_172 : (.methodLink RX2 169 yX2_leaderIsOnTarget) ∈ eTB := tb_4 (List.mem_of_getElem? (i := 172) rfl) rfl
theorem wd_4_173 : (.methodLink RX2 172 yX2_oneTowards) ∈ eTB := tb_4 (List.mem_of_getElem? (i := 173) rfl) rfl
theorem wd_4_174 : (.static yX2_oneTowards) ∈ eTB := tb_4 (List.mem_of_getElem? (i := 174) rfl) rfl
theorem wd_4_175 : (mWord mX2_oneTowards) ∈ eTB := tb_4 (List.mem_of_getElem? (i := 175) rfl) rfl
theorem wd_4_176 : (.methodLink RX2 180 yX2_goTo) ∈ eTB := tb_4 (List.mem_of_getElem? (i := 176) rfl) rfl
theorem wd_4_177 : (.instanceMethod yX2_goTo) ∈ eTB := tb_4 (List.mem_of_getElem? (i := 177) rfl) rfl
theorem wd_4_178 : (.selects RX2 yX2_goTo yX2_goTo) ∈ eTB := tb_4 (List.mem_of_getElem? (i := 178) rfl) rfl
theorem wd_4_179 : (mWord mX2_goTo) ∈ eTB := tb_4 (List.mem_of_getElem? (i := 179) rfl) rfl
theorem wd_4_180 : (.methodLink RX2 156 yX2_moveFollower) ∈ eTB := tb_4 (List.mem_of_getElem? (i := 180) rfl) rfl
theorem wd_4_181 : (.instanceMethod yX2_moveFollower) ∈ eTB := tb_4 (List.mem_of_getElem? (i := 181) rfl) rfl
theorem wd_4_182 : (.selects RX2 yX2_moveFollower yX2_moveFollower) ∈ eTB := tb_4 (List.mem_of_getElem? (i := 182) rfl) rfl
theorem wd_4_183 : (mWord mX2_moveFollower) ∈ eTB := tb_4 (List.mem_of_getElem? (i := 183) rfl) rfl
theorem wd_4_184 : (.methodLink RX2 159 yX2_rememberShape) ∈ eTB := tb_4 (List.mem_of_getElem? (i := 184) rfl) rfl
theorem wd_4_185 : (.instanceMethod yX2_rememberShape) ∈ eTB := tb_4 (List.mem_of_getElem? (i := 185) rfl) rfl
theorem wd_4_186 : (.selects RX2 yX2_rememberShape yX2_rememberShape) ∈ eTB := tb_4 (List.mem_of_getElem? (i := 186) rfl) rfl
theorem wd_4_187 : (mWord mX2_rememberShape) ∈ eTB := tb_4 (List.mem_of_getElem? (i := 187) rfl) rfl
theorem wd_4_188 : (.methodLink RX2 186 yX2_drawPresentShape) ∈ eTB := tb_4 (List.mem_of_getElem? (i := 188) rfl) rfl
theorem wd_4_189 : (.instanceMethod yX2_drawPresentShape) ∈ eTB := tb_4 (List.mem_of_getElem? (i := 189) rfl) rfl
theorem wd_4_190 : (.selects RX2 yX2_drawPresentShape yX2_drawPresentShape) ∈ eTB := tb_4 (List.mem_of_getElem? (i := 190) rfl) rfl
theorem wd_4_191 : (mWord mX2_drawPresentShape) ∈ eTB := tb_4 (List.mem_of_getElem? (i := 191) rfl) rfl
theorem wd_4_192 : (.methodLink RX2 212 yJ9_min_7cf53) ∈ eTB := tb_4 (List.mem_of_getElem? (i := 192) rfl) rfl
theorem wd_4_193 : (.methodLink RX2 189 yX5_remember) ∈ eTB := tb_4 (List.mem_of_getElem? (i := 193) rfl) rfl
theorem wd_4_194 : (.instanceMethod yX5_remember) ∈ eTB := tb_4 (List.mem_of_getElem? (i := 194) rfl) rfl
theorem wd_4_195 : (.selects RX5 yX5_remember yX5_remember) ∈ eTB := tb_4 (List.mem_of_getElem? (i := 195) rfl) rfl
theorem wd_4_196 : (mWord mX5_remember) ∈ eTB := tb_4 (List.mem_of_getElem? (i := 196) rfl) rfl
theorem wd_4_197 : (.methodLink RX5 28 yJ9_min_7cf53) ∈ eTB := tb_4 (List.mem_of_getElem? (i := 197) rfl) rfl
theorem wd_4_198 : (.methodLink RX2 162 yX2_passLead) ∈ eTB := tb_4 (List.mem_of_getElem? (i := 198) rfl) rfl
theorem wd_4_199 : (.instanceMethod yX2_passLead) ∈ eTB := tb_4 (List.mem_of_getElem? (i := 199) rfl) rfl
theorem wd_4_200 : (.selects RX2 yX2_passLead yX2_passLead) ∈ eTB := tb_4 (List.mem_of_getElem? (i := 200) rfl) rfl
theorem wd_4_201 : (mWord mX2_passLead) ∈ eTB := tb_4 (List.mem_of_getElem? (i := 201) rfl) rfl
theorem wd_4_203 : (.methodLink RL 235 yL_setKeep) ∈ eTB := tb_4 (List.mem_of_getElem? (i := 203) rfl) rfl
theorem wd_4_204 : (.static yL_setKeep) ∈ eTB := tb_4 (List.mem_of_getElem? (i := 204) rfl) rfl
theorem wd_4_205 : (mWord mL_setKeep) ∈ eTB := tb_4 (List.mem_of_getElem? (i := 205) rfl) rfl
theorem wd_4_206 : (.methodLink RL 90 yX6_setKeep) ∈ eTB := tb_4 (List.mem_of_getElem? (i := 206) rfl) rfl
theorem wd_4_207 : (.instanceMethod yX6_setKeep) ∈ eTB := tb_4 (List.mem_of_getElem? (i := 207) rfl) rfl
theorem wd_4_208 : (.selects RX6 yX6_setKeep yX6_setKeep) ∈ eTB := tb_4 (List.mem_of_getElem? (i := 208) rfl) rfl
theorem wd_4_209 : (mWord mX6_setKeep) ∈ eTB := tb_4 (List.mem_of_getElem? (i := 209) rfl) rfl
theorem wd_4_210 : (.methodLink RX6 187 yX2_replaceKept) ∈ eTB := tb_4 (List.mem_of_getElem? (i := 210) rfl) rfl
theorem wd_4_211 : (.instanceMethod yX2_replaceKept) ∈ eTB := tb_4 (List.mem_of_getElem? (i := 211) rfl) rfl
theorem wd_4_212 : (.selects RX2 yX2_replaceKept yX2_replaceKept) ∈ eTB := tb_4 (List.mem_of_getElem? (i := 212) rfl) rfl
theorem wd_4_213 : (mWord mX2_replaceKept) ∈ eTB := tb_4 (List.mem_of_getElem? (i := 213) rfl) rfl
theorem wd_4_214 : (.methodLink RL 242 yL_advance) ∈ eTB := tb_4 (List.mem_of_getElem? (i := 214) rfl) rfl
theorem wd_4_215 : (.static yL_advance) ∈ eTB := tb_4 (List.mem_of_getElem? (i := 215) rfl) rfl
theorem wd_4_216 : (mWord mL_advance) ∈ eTB := tb_4 (List.mem_of_getElem? (i := 216) rfl) rfl
theorem wd_4_217 : (.methodLink RL 93 yX6_advance) ∈ eTB := tb_4 (List.mem_of_getElem? (i := 217) rfl) rfl
theorem wd_4_218 : (.instanceMethod yX6_advance) ∈ eTB := tb_4 (List.mem_of_getElem? (i := 218) rfl) rfl
theorem wd_4_219 : (.selects RX6 yX6_advance yX6_advance) ∈ eTB := tb_4 (List.mem_of_getElem? (i := 219) rfl) rfl
theorem wd_4_220 : (mWord mX6_advance) ∈ eTB := tb_4 (List.mem_of_getElem? (i := 220) rfl) rfl
theorem wd_4_221 : (.methodLink RL 249 yL_movesOf) ∈ eTB := tb_4 (List.mem_of_getElem? (i := 221) rfl) rfl
theorem wd_4_222 : (.static yL_movesOf) ∈ eTB := tb_4 (List.mem_of_getElem? (i := 222) rfl) rfl
theorem wd_4_223 : (mWord mL_movesOf) ∈ eTB := tb_4 (List.mem_of_getElem? (i := 223) rfl) rfl
theorem wd_4_224 : (.methodLink RL 96 yX6_movesOf) ∈ eTB := tb_4 (List.mem_of_getElem? (i := 224) rfl) rfl
theorem wd_4_225 : (.instanceMethod yX6_movesOf) ∈ eTB := tb_4 (List.mem_of_getElem? (i := 225) rfl) rfl
theorem wd_4_226 : (.selects RX6 yX6_movesOf yX6_movesOf) ∈ eTB := tb_4 (List.mem_of_getElem? (i := 226) rfl) rfl
theorem wd_4_227 : (mWord mX6_movesOf) ∈ eTB := tb_4 (List.mem_of_getElem? (i := 227) rfl) rfl
theorem wd_4_228 : (.methodLink RL 273 yL_formationOf) ∈ eTB := tb_4 (List.mem_of_getElem? (i := 228) rfl) rfl
theorem wd_4_229 : (.static yL_formationOf) ∈ eTB := tb_4 (List.mem_of_getElem? (i := 229) rfl) rfl
theorem wd_4_230 : (mWord mL_formationOf) ∈ eTB := tb_4 (List.mem_of_getElem? (i := 230) rfl) rfl
theorem wd_4_231 : (.methodLink RL 99 yX6_formationOf) ∈ eTB := tb_4 (List.mem_of_getElem? (i := 231) rfl) rfl
theorem wd_4_232 : (.instanceMethod yX6_formationOf) ∈ eTB := tb_4 (List.mem_of_getElem? (i := 232) rfl) rfl
theorem wd_4_233 : (.selects RX6 yX6_formationOf yX6_formationOf) ∈ eTB := tb_4 (List.mem_of_getElem? (i := 233) rfl) rfl
theorem wd_4_234 : (mWord mX6_formationOf) ∈ eTB := tb_4 (List.mem_of_getElem? (i := 234) rfl) rfl
theorem wd_4_235 : (.methodLink RX6 216 yX3_lowestWith) ∈ eTB := tb_4 (List.mem_of_getElem? (i := 235) rfl) rfl
theorem wd_4_236 : (.instanceMethod yX3_lowestWith) ∈ eTB := tb_4 (List.mem_of_getElem? (i := 236) rfl) rfl
theorem wd_4_237 : (.selects RX3 yX3_lowestWith yX3_lowestWith) ∈ eTB := tb_4 (List.mem_of_getElem? (i := 237) rfl) rfl
theorem wd_4_238 : (mWord mX3_lowestWith) ∈ eTB := tb_4 (List.mem_of_getElem? (i := 238) rfl) rfl
theorem wd_4_239 : (.methodLink RX3 28 yX2_has) ∈ eTB := tb_4 (List.mem_of_getElem? (i := 239) rfl) rfl
theorem wd_5_0 : (.methodLink RL 292 yL_stepsSinceShape) ∈ eTB := tb_5 (List.mem_of_getElem? (i := 0) rfl) rfl
theorem wd_5_1 : (.static yL_stepsSinceShape) ∈ eTB := tb_5 (List.mem_of_getElem? (i := 1) rfl) rfl
theorem wd_5_2 : (mWord mL_stepsSinceShape) ∈ eTB := tb_5 (List.mem_of_getElem? (i := 2) rfl) rfl
theorem wd_5_3 : (.methodLink RL 102 yX6_stepsSinceShape) ∈ eTB := tb_5 (List.mem_of_getElem? (i := 3) rfl) rfl
theorem wd_5_4 : (.instanceMethod yX6_stepsSinceShape) ∈ eTB := tb_5 (List.mem_of_getElem? (i := 4) rfl) rfl
theorem wd_5_5 : (.selects RX6 yX6_stepsSinceShape yX6_stepsSinceShape) ∈ eTB := tb_5 (List.mem_of_getElem? (i := 5) rfl) rfl
theorem wd_5_6 : (mWord mX6_stepsSinceShape) ∈ eTB := tb_5 (List.mem_of_getElem? (i := 6) rfl) rfl
theorem wd_5_7 : (.methodLink RX6 237 yX2_stepsSincePresentShape) ∈ eTB := tb_5 (List.mem_of_getElem? (i := 7) rfl) rfl
theorem wd_5_8 : (.instanceMethod yX2_stepsSincePresentShape) ∈ eTB := tb_5 (List.mem_of_getElem? (i := 8) rfl) rfl
theorem wd_5_9 : (.selects RX2 yX2_stepsSincePresentShape yX2_stepsSincePresentShape) ∈ eTB := tb_5 (List.mem_of_getElem? (i := 9) rfl) rfl
theorem wd_5_10 : (mWord mX2_stepsSincePresentShape) ∈ eTB := tb_5 (List.mem_of_getElem? (i := 10) rfl) rfl
theorem wd_5_11 : (.methodLink RX2 208 yX5_stepsSince) ∈ eTB := tb_5 (List.mem_of_getElem? (i := 11) rfl) rfl
theorem wd_5_12 : (.instanceMethod yX5_stepsSince) ∈ eTB := tb_5 (List.mem_of_getElem? (i := 12) rfl) rfl
theorem wd_5_13 : (.selects RX5 yX5_stepsSince yX5_stepsSince) ∈ eTB := tb_5 (List.mem_of_getElem? (i := 13) rfl) rfl
theorem wd_5_14 : (mWord mX5_stepsSince) ∈ eTB := tb_5 (List.mem_of_getElem? (i := 14) rfl) rfl
theorem wd_5_16 : (.methodLink RL 295 yL_basketAtRank) ∈ eTB := tb_5 (List.mem_of_getElem? (i := 16) rfl) rfl
theorem wd_5_17 : (.static yL_basketAtRank) ∈ eTB := tb_5 (List.mem_of_getElem? (i := 17) rfl) rfl
theorem wd_5_18 : (mWord mL_basketAtRank) ∈ eTB := tb_5 (List.mem_of_getElem? (i := 18) rfl) rfl
theorem wd_5_19 : (.methodLink RL 105 yX6_basketAtRank) ∈ eTB := tb_5 (List.mem_of_getElem? (i := 19) rfl) rfl
theorem wd_5_20 : (.instanceMethod yX6_basketAtRank) ∈ eTB := tb_5 (List.mem_of_getElem? (i := 20) rfl) rfl
theorem wd_5_21 : (.selects RX6 yX6_basketAtRank yX6_basketAtRank) ∈ eTB := tb_5 (List.mem_of_getElem? (i := 21) rfl) rfl
theorem wd_5_22 : (mWord mX6_basketAtRank) ∈ eTB := tb_5 (List.mem_of_getElem? (i := 22) rfl) rfl
theorem wd_5_23 : (.methodLink RX6 242 yX2_basketWithRank) ∈ eTB := tb_5 (List.mem_of_getElem? (i := 23) rfl) rfl
theorem wd_5_24 : (.instanceMethod yX2_basketWithRank) ∈ eTB := tb_5 (List.mem_of_getElem? (i := 24) rfl) rfl
theorem wd_5_25 : (.selects RX2 yX2_basketWithRank yX2_basketWithRank) ∈ eTB := tb_5 (List.mem_of_getElem? (i := 25) rfl) rfl
theorem wd_5_26 : (mWord mX2_basketWithRank) ∈ eTB := tb_5 (List.mem_of_getElem? (i := 26) rfl) rfl
theorem wd_5_27 : (.methodLink RX2 196 yX2_rankOf) ∈ eTB := tb_5 (List.mem_of_getElem? (i := 27) rfl) rfl
theorem wd_5_28 : (.instanceMethod yX2_rankOf) ∈ eTB := tb_5 (List.mem_of_getElem? (i := 28) rfl) rfl
theorem wd_5_29 : (.selects RX2 yX2_rankOf yX2_rankOf) ∈ eTB := tb_5 (List.mem_of_getElem? (i := 29) rfl) rfl
theorem wd_5_30 : (mWord mX2_rankOf) ∈ eTB := tb_5 (List.mem_of_getElem? (i := 30) rfl) rfl
theorem wd_5_32 : (.methodLink RL 298 yL_append) ∈ eTB := tb_5 (List.mem_of_getElem? (i := 32) rfl) rfl
theorem wd_5_33 : (.static yL_append) ∈ eTB := tb_5 (List.mem_of_getElem? (i := 33) rfl) rfl
theorem wd_5_34 : (mWord mL_append) ∈ eTB := tb_5 (List.mem_of_getElem? (i := 34) rfl) rfl
theorem wd_5_35 : (.methodLink RL 108 yX6_append) ∈ eTB := tb_5 (List.mem_of_getElem? (i := 35) rfl) rfl
theorem wd_5_36 : (.instanceMethod yX6_append) ∈ eTB := tb_5 (List.mem_of_getElem? (i := 36) rfl) rfl
theorem wd_5_37 : (.selects RX6 yX6_append yX6_append) ∈ eTB := tb_5 (List.mem_of_getElem? (i := 37) rfl) rfl
theorem wd_5_38 : (mWord mX6_append) ∈ eTB := tb_5 (List.mem_of_getElem? (i := 38) rfl) rfl
theorem wd_5_40 : (.methodLink RX6 252 yX1_isFull) ∈ eTB := tb_5 (List.mem_of_getElem? (i := 40) rfl) rfl
theorem wd_5_41 : (.instanceMethod yX1_isFull) ∈ eTB := tb_5 (List.mem_of_getElem? (i := 41) rfl) rfl
theorem wd_5_42 : (.selects RX1 yX1_isFull yX1_isFull) ∈ eTB := tb_5 (List.mem_of_getElem? (i := 42) rfl) rfl
theorem wd_5_43 : (mWord mX1_isFull) ∈ eTB := tb_5 (List.mem_of_getElem? (i := 43) rfl) rfl
theorem wd_5_45 : (.methodLink RX6 260 yX1_put) ∈ eTB := tb_5 (List.mem_of_getElem? (i := 45) rfl) rfl
theorem wd_5_46 : (.instanceMethod yX1_put) ∈ eTB := tb_5 (List.mem_of_getElem? (i := 46) rfl) rfl
theorem wd_5_47 : (.selects RX1 yX1_put yX1_put) ∈ eTB := tb_5 (List.mem_of_getElem? (i := 47) rfl) rfl
theorem wd_5_48 : (mWord mX1_put) ∈ eTB := tb_5 (List.mem_of_getElem? (i := 48) rfl) rfl
theorem wd_5_49 : (.methodLink RX1 34 yX1_isFull) ∈ eTB := tb_5 (List.mem_of_getElem? (i := 49) rfl) rfl
theorem wd_5_50 : (.methodLink RL 302 yL_run) ∈ eTB := tb_5 (List.mem_of_getElem? (i := 50) rfl) rfl
theorem wd_5_51 : (.static yL_run) ∈ eTB := tb_5 (List.mem_of_getElem? (i := 51) rfl) rfl
theorem wd_5_52 : (mWord mL_run) ∈ eTB := tb_5 (List.mem_of_getElem? (i := 52) rfl) rfl
theorem wd_5_53 : (.methodLink RL 112 yX6_run) ∈ eTB := tb_5 (List.mem_of_getElem? (i := 53) rfl) rfl
theorem wd_5_54 : (.instanceMethod yX6_run) ∈ eTB := tb_5 (List.mem_of_getElem? (i := 54) rfl) rfl
theorem wd_5_55 : (.selects RX6 yX6_run yX6_run) ∈ eTB := tb_5 (List.mem_of_getElem? (i := 55) rfl) rfl
theorem wd_5_56 : (mWord mX6_run) ∈ eTB := tb_5 (List.mem_of_getElem? (i := 56) rfl) rfl
theorem wd_5_57 : (.methodLink RX6 263 yX1_parse) ∈ eTB := tb_5 (List.mem_of_getElem? (i := 57) rfl) rfl
theorem wd_5_58 : (.instanceMethod yX1_parse) ∈ eTB := tb_5 (List.mem_of_getElem? (i := 58) rfl) rfl
theorem wd_5_59 : (.selects RX1 yX1_parse yX1_parse) ∈ eTB := tb_5 (List.mem_of_getElem? (i := 59) rfl) rfl
theorem wd_5_60 : (mWord mX1_parse) ∈ eTB := tb_5 (List.mem_of_getElem? (i := 60) rfl) rfl
theorem wd_5_61 : (.methodLink RX1 56 yX1_parseCommand) ∈ eTB := tb_5 (List.mem_of_getElem? (i := 61) rfl) rfl
theorem wd_5_62 : (.instanceMethod yX1_parseCommand) ∈ eTB := tb_5 (List.mem_of_getElem? (i := 62) rfl) rfl
theorem wd_5_63 : (.selects RX1 yX1_parseCommand yX1_parseCommand) ∈ eTB := tb_5 (List.mem_of_getElem? (i := 63) rfl) rfl
theorem wd_5_64 : (mWord mX1_parseCommand) ∈ eTB := tb_5 (List.mem_of_getElem? (i := 64) rfl) rfl
theorem wd_5_65 : (.methodLink RX1 60 yX1_formOf) ∈ eTB := tb_5 (List.mem_of_getElem? (i := 65) rfl) rfl
theorem wd_5_66 : (.static yX1_formOf) ∈ eTB := tb_5 (List.mem_of_getElem? (i := 66) rfl) rfl
theorem wd_5_67 : (mWord mX1_formOf) ∈ eTB := tb_5 (List.mem_of_getElem? (i := 67) rfl) rfl
theorem wd_5_77 : (.methodLink RX1 64 yX1_matches) ∈ eTB := tb_5 (List.mem_of_getElem? (i := 77) rfl) rfl
theorem wd_5_78 : (.instanceMethod yX1_matches) ∈ eTB := tb_5 (List.mem_of_getElem? (i := 78) rfl) rfl
theorem wd_5_79 : (.selects RX1 yX1_matches yX1_matches) ∈ eTB := tb_5 (List.mem_of_getElem? (i := 79) rfl) rfl
theorem wd_5_80 : (mWord mX1_matches) ∈ eTB := tb_5 (List.mem_of_getElem? (i := 80) rfl) rfl
theorem wd_5_81 : (.methodLink RX1 74 yJ0_length_8abf5) ∈ eTB := tb_5 (List.mem_of_getElem? (i := 81) rfl) rfl
theorem wd_5_82 : (.instanceMethod yJ0_length_8abf5) ∈ eTB := tb_5 (List.mem_of_getElem? (i := 82) rfl) rfl
theorem wd_5_83 : (.selects RJ0 yJ0_length_8abf5 yJ0_length_8abf5) ∈ eTB := tb_5 (List.mem_of_getElem? (i := 83) rfl) rfl
theorem wd_5_84 : (mWord mJ0_length_8abf5) ∈ eTB := tb_5 (List.mem_of_getElem? (i := 84) rfl) rfl
theorem wd_5_85 : (.methodLink RJ0 335 yJ0_coder_7d493) ∈ eTB := tb_5 (List.mem_of_getElem? (i := 85) rfl) rfl
theorem wd_5_86 : (.instanceMethod yJ0_coder_7d493) ∈ eTB := tb_5 (List.mem_of_getElem? (i := 86) rfl) rfl
theorem wd_5_87 : (.selects RJ0 yJ0_coder_7d493 yJ0_coder_7d493) ∈ eTB := tb_5 (List.mem_of_getElem? (i := 87) rfl) rfl
theorem wd_5_88 : (mWord mJ0_coder_7d493) ∈ eTB := tb_5 (List.mem_of_getElem? (i := 88) rfl) rfl
theorem wd_5_89 : (.fieldLink RJ0 38 RJ0 "COMPACT_STRINGS" "Z") ∈ eTB := tb_5 (List.mem_of_getElem? (i := 89) rfl) rfl
theorem wd_5_91 : (.methodLink RX1 79 yJ0_charAt_5068e) ∈ eTB := tb_5 (List.mem_of_getElem? (i := 91) rfl) rfl
theorem wd_5_92 : (.instanceMethod yJ0_charAt_5068e) ∈ eTB := tb_5 (List.mem_of_getElem? (i := 92) rfl) rfl
theorem wd_5_93 : (.selects RJ0 yJ0_charAt_5068e yJ0_charAt_5068e) ∈ eTB := tb_5 (List.mem_of_getElem? (i := 93) rfl) rfl
theorem wd_5_94 : (mWord mJ0_charAt_5068e) ∈ eTB := tb_5 (List.mem_of_getElem? (i := 94) rfl) rfl
theorem wd_5_95 : (.methodLink RJ0 492 yJ0_isLatin1_aae02) ∈ eTB := tb_5 (List.mem_of_getElem? (i := 95) rfl) rfl
theorem wd_5_96 : (.instanceMethod yJ0_isLatin1_aae02) ∈ eTB := tb_5 (List.mem_of_getElem? (i := 96) rfl) rfl
theorem wd_5_97 : (.selects RJ0 yJ0_isLatin1_aae02 yJ0_isLatin1_aae02) ∈ eTB := tb_5 (List.mem_of_getElem? (i := 97) rfl) rfl
theorem wd_5_98 : (mWord mJ0_isLatin1_aae02) ∈ eTB := tb_5 (List.mem_of_getElem? (i := 98) rfl) rfl
theorem wd_5_99 : (.methodLink RJ0 495 yJ1_charAt_3b067) ∈ eTB := tb_5 (List.mem_of_getElem? (i := 99) rfl) rfl
theorem wd_5_100 : (.static yJ1_charAt_3b067) ∈ eTB := tb_5 (List.mem_of_getElem? (i := 100) rfl) rfl
theorem wd_5_101 : (mWord mJ1_charAt_3b067) ∈ eTB := tb_5 (List.mem_of_getElem? (i := 101) rfl) rfl
theorem wd_5_102 : (.methodLink RJ1 9 yJ0_checkIndex_df160) ∈ eTB := tb_5 (List.mem_of_getElem? (i := 102) rfl) rfl
theorem wd_5_103 : (.static yJ0_checkIndex_df160) ∈ eTB := tb_5 (List.mem_of_getElem? (i := 103) rfl) rfl
theorem wd_5_104 : (mWord mJ0_checkIndex_df160) ∈ eTB := tb_5 (List.mem_of_getElem? (i := 104) rfl) rfl
theorem wd_5_105 : (.fieldLink RJ0 1053 RJ3 "SIOOBE_FORMATTER" "Ljava/util/function/BiFunction;") ∈ eTB := tb_5 (List.mem_of_getElem? (i := 105) rfl) rfl
theorem wd_5_107 : (.methodLink RJ0 1059 yJ3_checkIndex_8e157) ∈ eTB := tb_5 (List.mem_of_getElem? (i := 107) rfl) rfl
theorem wd_5_108 : (.static yJ3_checkIndex_8e157) ∈ eTB := tb_5 (List.mem_of_getElem? (i := 108) rfl) rfl
theorem wd_5_109 : (mWord mJ3_checkIndex_8e157) ∈ eTB := tb_5 (List.mem_of_getElem? (i := 109) rfl) rfl
theorem wd_5_110 : (.methodLink RJ0 498 yJ2_charAt_3b067) ∈ eTB := tb_5 (List.mem_of_getElem? (i := 110) rfl) rfl
theorem wd_5_111 : (.static yJ2_charAt_3b067) ∈ eTB := tb_5 (List.mem_of_getElem? (i := 111) rfl) rfl
theorem wd_5_112 : (mWord mJ2_charAt_3b067) ∈ eTB := tb_5 (List.mem_of_getElem? (i := 112) rfl) rfl
theorem wd_5_113 : (.methodLink RJ2 67 yJ2_checkIndex_2214a) ∈ eTB := tb_5 (List.mem_of_getElem? (i := 113) rfl) rfl
theorem wd_5_114 : (.static yJ2_checkIndex_2214a) ∈ eTB := tb_5 (List.mem_of_getElem? (i := 114) rfl) rfl
theorem wd_5_115 : (mWord mJ2_checkIndex_2214a) ∈ eTB := tb_5 (List.mem_of_getElem? (i := 115) rfl) rfl
theorem wd_5_116 : (.methodLink RJ2 48 yJ2_length_9d52b) ∈ eTB := tb_5 (List.mem_of_getElem? (i := 116) rfl) rfl
theorem wd_5_117 : (.static yJ2_length_9d52b) ∈ eTB := tb_5 (List.mem_of_getElem? (i := 117) rfl) rfl
theorem wd_5_118 : (mWord mJ2_length_9d52b) ∈ eTB := tb_5 (List.mem_of_getElem? (i := 118) rfl) rfl
theorem wd_5_119 : (.methodLink RJ2 414 yJ0_checkIndex_df160) ∈ eTB := tb_5 (List.mem_of_getElem? (i := 119) rfl) rfl
theorem wd_5_120 : (.methodLink RJ2 71 yJ2_getChar_3b067) ∈ eTB := tb_5 (List.mem_of_getElem? (i := 120) rfl) rfl
theorem wd_5_121 : (.static yJ2_getChar_3b067) ∈ eTB := tb_5 (List.mem_of_getElem? (i := 121) rfl) rfl
theorem wd_5_122 : (mWord mJ2_getChar_3b067) ∈ eTB := tb_5 (List.mem_of_getElem? (i := 122) rfl) rfl
theorem wd_5_123 : (.fieldLink RJ2 44 RJ2 "$assertionsDisabled" "Z") ∈ eTB := tb_5 (List.mem_of_getElem? (i := 123) rfl) rfl
theorem wd_5_125 : (.fieldLink RJ2 59 RJ2 "HI_BYTE_SHIFT" "I") ∈ eTB := tb_5 (List.mem_of_getElem? (i := 125) rfl) rfl
theorem wd_5_127 : (.fieldLink RJ2 63 RJ2 "LO_BYTE_SHIFT" "I") ∈ eTB := tb_5 (List.mem_of_getElem? (i := 127) rfl) rfl
theorem wd_5_129 : (.methodLink RX1 83 yX1_isDigit) ∈ eTB := tb_5 (List.mem_of_getElem? (i := 129) rfl) rfl
theorem wd_5_130 : (.instanceMethod yX1_isDigit) ∈ eTB := tb_5 (List.mem_of_getElem? (i := 130) rfl) rfl
theorem wd_5_131 : (.selects RX1 yX1_isDigit yX1_isDigit) ∈ eTB := tb_5 (List.mem_of_getElem? (i := 131) rfl) rfl
theorem wd_5_132 : (mWord mX1_isDigit) ∈ eTB := tb_5 (List.mem_of_getElem? (i := 132) rfl) rfl
theorem wd_5_133 : (.methodLink RX1 86 yX1_isCharacter) ∈ eTB := tb_5 (List.mem_of_getElem? (i := 133) rfl) rfl
theorem wd_5_134 : (.instanceMethod yX1_isCharacter) ∈ eTB := tb_5 (List.mem_of_getElem? (i := 134) rfl) rfl
theorem wd_5_135 : (.selects RX1 yX1_isCharacter yX1_isCharacter) ∈ eTB := tb_5 (List.mem_of_getElem? (i := 135) rfl) rfl
theorem wd_5_136 : (mWord mX1_isCharacter) ∈ eTB := tb_5 (List.mem_of_getElem? (i := 136) rfl) rfl
theorem wd_5_137 : (.methodLink RX1 90 yX1_takeNumber) ∈ eTB := tb_5 (List.mem_of_getElem? (i := 137) rfl) rfl
theorem wd_5_138 : (.instanceMethod yX1_takeNumber) ∈ eTB := tb_5 (List.mem_of_getElem? (i := 138) rfl) rfl
theorem wd_5_139 : (.selects RX1 yX1_takeNumber yX1_takeNumber) ∈ eTB := tb_5 (List.mem_of_getElem? (i := 139) rfl) rfl
theorem wd_5_140 : (mWord mX1_takeNumber) ∈ eTB := tb_5 (List.mem_of_getElem? (i := 140) rfl) rfl
theorem wd_5_141 : (.methodLink RX1 94 yX1_takeDigit) ∈ eTB := tb_5 (List.mem_of_getElem? (i := 141) rfl) rfl
theorem wd_5_142 : (.instanceMethod yX1_takeDigit) ∈ eTB := tb_5 (List.mem_of_getElem? (i := 142) rfl) rfl
theorem wd_5_143 : (.selects RX1 yX1_takeDigit yX1_takeDigit) ∈ eTB := tb_5 (List.mem_of_getElem? (i := 143) rfl) rfl
theorem wd_5_144 : (mWord mX1_takeDigit) ∈ eTB := tb_5 (List.mem_of_getElem? (i := 144) rfl) rfl
theorem wd_5_145 : (.methodLink RX1 68 yJ9_max_7cf53) ∈ eTB := tb_5 (List.mem_of_getElem? (i := 145) rfl) rfl
theorem wd_5_146 : (.methodLink RX6 266 yX1_clear) ∈ eTB := tb_5 (List.mem_of_getElem? (i := 146) rfl) rfl
theorem wd_5_147 : (.instanceMethod yX1_clear) ∈ eTB := tb_5 (List.mem_of_getElem? (i := 147) rfl) rfl
theorem wd_5_148 : (.selects RX1 yX1_clear yX1_clear) ∈ eTB := tb_5 (List.mem_of_getElem? (i := 148) rfl) rfl
theorem wd_5_149 : (mWord mX1_clear) ∈ eTB := tb_5 (List.mem_of_getElem? (i := 149) rfl) rfl
theorem wd_5_151 : (.methodLink RX6 274 yX1_kindOf) ∈ eTB := tb_5 (List.mem_of_getElem? (i := 151) rfl) rfl
theorem wd_5_152 : (.instanceMethod yX1_kindOf) ∈ eTB := tb_5 (List.mem_of_getElem? (i := 152) rfl) rfl
theorem wd_5_153 : (.selects RX1 yX1_kindOf yX1_kindOf) ∈ eTB := tb_5 (List.mem_of_getElem? (i := 153) rfl) rfl
theorem wd_5_154 : (mWord mX1_kindOf) ∈ eTB := tb_5 (List.mem_of_getElem? (i := 154) rfl) rfl
theorem wd_5_155 : (.methodLink RX6 277 yX1_number) ∈ eTB := tb_5 (List.mem_of_getElem? (i := 155) rfl) rfl
theorem wd_5_156 : (.instanceMethod yX1_number) ∈ eTB := tb_5 (List.mem_of_getElem? (i := 156) rfl) rfl
theorem wd_5_157 : (.selects RX1 yX1_number yX1_number) ∈ eTB := tb_5 (List.mem_of_getElem? (i := 157) rfl) rfl
theorem wd_5_158 : (mWord mX1_number) ∈ eTB := tb_5 (List.mem_of_getElem? (i := 158) rfl) rfl
theorem wd_5_160 : (.methodLink RX6 286 yX2_carryOut) ∈ eTB := tb_5 (List.mem_of_getElem? (i := 160) rfl) rfl
theorem wd_5_161 : (.instanceMethod yX2_carryOut) ∈ eTB := tb_5 (List.mem_of_getElem? (i := 161) rfl) rfl
theorem wd_5_162 : (.selects RX2 yX2_carryOut yX2_carryOut) ∈ eTB := tb_5 (List.mem_of_getElem? (i := 162) rfl) rfl
theorem wd_5_163 : (mWord mX2_carryOut) ∈ eTB := tb_5 (List.mem_of_getElem? (i := 163) rfl) rfl
theorem wd_5_164 : (.methodLink RX2 122 yX2_add) ∈ eTB := tb_5 (List.mem_of_getElem? (i := 164) rfl) rfl
theorem wd_5_165 : (.methodLink RX2 125 yX2_put) ∈ eTB := tb_5 (List.mem_of_getElem? (i := 165) rfl) rfl
theorem wd_5_166 : (.methodLink RX2 128 yX2_replaceHandle) ∈ eTB := tb_5 (List.mem_of_getElem? (i := 166) rfl) rfl
theorem wd_5_167 : (.methodLink RX2 131 yX0_put) ∈ eTB := tb_5 (List.mem_of_getElem? (i := 167) rfl) rfl
theorem wd_5_168 : (.methodLink RX2 133 yX0_remove) ∈ eTB := tb_5 (List.mem_of_getElem? (i := 168) rfl) rfl
theorem wd_5_169 : (.methodLink RX2 136 yX2_replaceTurn) ∈ eTB := tb_5 (List.mem_of_getElem? (i := 169) rfl) rfl
theorem wd_5_170 : (.methodLink RX2 140 yX2_replaceGoal) ∈ eTB := tb_5 (List.mem_of_getElem? (i := 170) rfl) rfl
theorem wd_5_171 : (.methodLink RX2 143 yX2_replaceKept) ∈ eTB := tb_5 (List.mem_of_getElem? (i := 171) rfl) rfl
theorem wd_5_172 : (.methodLink RX2 146 yX2_passSteps) ∈ eTB := tb_5 (List.mem_of_getElem? (i := 172) rfl) rfl
theorem wd_5_173 : (.methodLink RL 305 yL_errorPosition) ∈ eTB := tb_5 (List.mem_of_getElem? (i := 173) rfl) rfl
theorem wd_5_174 : (.static yL_errorPosition) ∈ eTB := tb_5 (List.mem_of_getElem? (i := 174) rfl) rfl
theorem wd_5_175 : (mWord mL_errorPosition) ∈ eTB := tb_5 (List.mem_of_getElem? (i := 175) rfl) rfl
theorem wd_5_176 : (.methodLink RL 115 yX6_errorPosition) ∈ eTB := tb_5 (List.mem_of_getElem? (i := 176) rfl) rfl
theorem wd_5_177 : (.instanceMethod yX6_errorPosition) ∈ eTB := tb_5 (List.mem_of_getElem? (i := 177) rfl) rfl
theorem wd_5_178 : (.selects RX6 yX6_errorPosition yX6_errorPosition) ∈ eTB := tb_5 (List.mem_of_getElem? (i := 178) rfl) rfl
theorem wd_5_179 : (mWord mX6_errorPosition) ∈ eTB := tb_5 (List.mem_of_getElem? (i := 179) rfl) rfl
theorem wd_5_181 : (.methodLink RL 308 yL_failedCommand) ∈ eTB := tb_5 (List.mem_of_getElem? (i := 181) rfl) rfl
theorem wd_5_182 : (.static yL_failedCommand) ∈ eTB := tb_5 (List.mem_of_getElem? (i := 182) rfl) rfl
theorem wd_5_183 : (mWord mL_failedCommand) ∈ eTB := tb_5 (List.mem_of_getElem? (i := 183) rfl) rfl
theorem wd_5_184 : (.methodLink RL 118 yX6_failedCommand) ∈ eTB := tb_5 (List.mem_of_getElem? (i := 184) rfl) rfl
theorem wd_5_185 : (.instanceMethod yX6_failedCommand) ∈ eTB := tb_5 (List.mem_of_getElem? (i := 185) rfl) rfl
theorem wd_5_186 : (.selects RX6 yX6_failedCommand yX6_failedCommand) ∈ eTB := tb_5 (List.mem_of_getElem? (i := 186) rfl) rfl
theorem wd_5_187 : (mWord mX6_failedCommand) ∈ eTB := tb_5 (List.mem_of_getElem? (i := 187) rfl) rfl
theorem wd_5_189 : (.methodLink RL 311 yL_describeRow) ∈ eTB := tb_5 (List.mem_of_getElem? (i := 189) rfl) rfl
theorem wd_5_190 : (.static yL_describeRow) ∈ eTB := tb_5 (List.mem_of_getElem? (i := 190) rfl) rfl
theorem wd_5_191 : (mWord mL_describeRow) ∈ eTB := tb_5 (List.mem_of_getElem? (i := 191) rfl) rfl
theorem wd_5_192 : (.methodLink RL 121 yX6_describeRow) ∈ eTB := tb_5 (List.mem_of_getElem? (i := 192) rfl) rfl
theorem wd_5_193 : (.instanceMethod yX6_describeRow) ∈ eTB := tb_5 (List.mem_of_getElem? (i := 193) rfl) rfl
theorem wd_5_194 : (.selects RX6 yX6_describeRow yX6_describeRow) ∈ eTB := tb_5 (List.mem_of_getElem? (i := 194) rfl) rfl
theorem wd_5_195 : (mWord mX6_describeRow) ∈ eTB := tb_5 (List.mem_of_getElem? (i := 195) rfl) rfl
theorem wd_5_196 : (.methodLink RX6 297 yX2_signOf) ∈ eTB := tb_5 (List.mem_of_getElem? (i := 196) rfl) rfl
theorem wd_5_197 : (.instanceMethod yX2_signOf) ∈ eTB := tb_5 (List.mem_of_getElem? (i := 197) rfl) rfl
theorem wd_5_198 : (.selects RX2 yX2_signOf yX2_signOf) ∈ eTB := tb_5 (List.mem_of_getElem? (i := 198) rfl) rfl
theorem wd_5_199 : (mWord mX2_signOf) ∈ eTB := tb_5 (List.mem_of_getElem? (i := 199) rfl) rfl
theorem wd_5_200 : (.methodLink RL 314 yL_lineAt) ∈ eTB := tb_5 (List.mem_of_getElem? (i := 200) rfl) rfl
theorem wd_5_201 : (.static yL_lineAt) ∈ eTB := tb_5 (List.mem_of_getElem? (i := 201) rfl) rfl
theorem wd_5_202 : (mWord mL_lineAt) ∈ eTB := tb_5 (List.mem_of_getElem? (i := 202) rfl) rfl
theorem wd_5_203 : (.methodLink RL 124 yX6_lineAt) ∈ eTB := tb_5 (List.mem_of_getElem? (i := 203) rfl) rfl
theorem wd_5_204 : (.instanceMethod yX6_lineAt) ∈ eTB := tb_5 (List.mem_of_getElem? (i := 204) rfl) rfl
theorem wd_5_205 : (.selects RX6 yX6_lineAt yX6_lineAt) ∈ eTB := tb_5 (List.mem_of_getElem? (i := 205) rfl) rfl
theorem wd_5_206 : (mWord mX6_lineAt) ∈ eTB := tb_5 (List.mem_of_getElem? (i := 206) rfl) rfl
theorem wd_5_208 : (.methodLink RL 317 yL_meanDistance) ∈ eTB := tb_5 (List.mem_of_getElem? (i := 208) rfl) rfl
theorem wd_5_209 : (.static yL_meanDistance) ∈ eTB := tb_5 (List.mem_of_getElem? (i := 209) rfl) rfl
theorem wd_5_210 : (mWord mL_meanDistance) ∈ eTB := tb_5 (List.mem_of_getElem? (i := 210) rfl) rfl
theorem wd_5_211 : (.classLink RL 132 "java/lang/ArithmeticException") ∈ eTB := tb_5 (List.mem_of_getElem? (i := 211) rfl) rfl
theorem wd_5_212 : (.instantiable "java/lang/ArithmeticException" 6) ∈ eTB := tb_5 (List.mem_of_getElem? (i := 212) rfl) rfl
theorem wd_5_213 : (.instanceMethod ⟨"java/lang/ArithmeticException", "<init>", "(Ljava/lang/String;)V"⟩) ∈ eTB := tb_5 (List.mem_of_getElem? (i := 213) rfl) rfl
theorem wd_5_214 : (.code ⟨"java/lang/ArithmeticException", "<init>", "(Ljava/lang/String;)V"⟩ prog_11_method_2_code 2 none) ∈ eTB := tb_5 (List.mem_of_getElem? (i := 214) rfl) rfl
theorem wd_5_215 : (.methodLink "java/lang/ArithmeticException" 7 ⟨"java/lang/RuntimeException", "<init>", "(Ljava/lang/String;)V"⟩) ∈ eTB := tb_5 (List.mem_of_getElem? (i := 215) rfl) rfl
theorem wd_5_216 : (.lays "java/lang/ArithmeticException" "java/lang/Throwable" "backtrace" "Ljava/lang/Object;") ∈ eTB := tb_5 (List.mem_of_getElem? (i := 216) rfl) rfl
theorem wd_5_217 : (.lays "java/lang/ArithmeticException" "java/lang/Throwable" "detailMessage" "Ljava/lang/String;") ∈ eTB := tb_5 (List.mem_of_getElem? (i := 217) rfl) rfl
theorem wd_5_218 : (.lays "java/lang/ArithmeticException" "java/lang/Throwable" "cause" "Ljava/lang/Throwable;") ∈ eTB := tb_5 (List.mem_of_getElem? (i := 218) rfl) rfl
theorem wd_5_219 : (.lays "java/lang/ArithmeticException" "java/lang/Throwable" "stackTrace" "[Ljava/lang/StackTraceElement;") ∈ eTB := tb_5 (List.mem_of_getElem? (i := 219) rfl) rfl
theorem wd_5_220 : (.lays "java/lang/ArithmeticException" "java/lang/Throwable" "depth" "I") ∈ eTB := tb_5 (List.mem_of_getElem? (i := 220) rfl) rfl
theorem wd_5_221 : (.lays "java/lang/ArithmeticException" "java/lang/Throwable" "suppressedExceptions" "Ljava/util/List;") ∈ eTB := tb_5 (List.mem_of_getElem? (i := 221) rfl) rfl
theorem wd_5_224 : (.selects "java/lang/ArithmeticException" ⟨"java/lang/Throwable", "fillInStackTrace", "(I)Ljava/lang/Throwable;"⟩ ⟨"java/lang/Throwable", "fillInStackTrace", "(I)Ljava/lang/Throwable;"⟩) ∈ eTB := tb_5 (List.mem_of_getElem? (i := 224) rfl) rfl
theorem wd_5_225 : (.methodLink RL 128 yX6_meanDistance) ∈ eTB := tb_5 (List.mem_of_getElem? (i := 225) rfl) rfl
theorem wd_5_226 : (.instanceMethod yX6_meanDistance) ∈ eTB := tb_5 (List.mem_of_getElem? (i := 226) rfl) rfl
theorem wd_5_227 : (.selects RX6 yX6_meanDistance yX6_meanDistance) ∈ eTB := tb_5 (List.mem_of_getElem? (i := 227) rfl) rfl
theorem wd_5_228 : (mWord mX6_meanDistance) ∈ eTB := tb_5 (List.mem_of_getElem? (i := 228) rfl) rfl
theorem wd_5_229 : (.classLink RX6 306 "java/lang/ArithmeticException") ∈ eTB := tb_5 (List.mem_of_getElem? (i := 229) rfl) rfl
theorem wd_5_231 : (.methodLink RX6 310 ⟨"java/lang/ArithmeticException", "<init>", "(Ljava/lang/String;)V"⟩) ∈ eTB := tb_5 (List.mem_of_getElem? (i := 231) rfl) rfl
theorem wd_5_232 : (.methodLink RX6 311 yX2_sumOfDistancesFromLeader) ∈ eTB := tb_5 (List.mem_of_getElem? (i := 232) rfl) rfl
theorem wd_5_233 : (.instanceMethod yX2_sumOfDistancesFromLeader) ∈ eTB := tb_5 (List.mem_of_getElem? (i := 233) rfl) rfl
theorem wd_5_234 : (.selects RX2 yX2_sumOfDistancesFromLeader yX2_sumOfDistancesFromLeader) ∈ eTB := tb_5 (List.mem_of_getElem? (i := 234) rfl) rfl
theorem wd_5_235 : (mWord mX2_sumOfDistancesFromLeader) ∈ eTB := tb_5 (List.mem_of_getElem? (i := 235) rfl) rfl
theorem wd_5_236 : (.methodLink RL 321 yL_mixedShare) ∈ eTB := tb_5 (List.mem_of_getElem? (i := 236) rfl) rfl
theorem wd_5_237 : (.static yL_mixedShare) ∈ eTB := tb_5 (List.mem_of_getElem? (i := 237) rfl) rfl
theorem wd_5_238 : (mWord mL_mixedShare) ∈ eTB := tb_5 (List.mem_of_getElem? (i := 238) rfl) rfl
theorem wd_5_239 : (.methodLink RL 134 yX6_mixedShare) ∈ eTB := tb_5 (List.mem_of_getElem? (i := 239) rfl) rfl
theorem wd_6_0 : (.instanceMethod yX6_mixedShare) ∈ eTB := tb_6 (List.mem_of_getElem? (i := 0) rfl) rfl
theorem wd_6_1 : (.selects RX6 yX6_mixedShare yX6_mixedShare) ∈ eTB := tb_6 (List.mem_of_getElem? (i := 1) rfl) rfl
theorem wd_6_2 : (mWord mX6_mixedShare) ∈ eTB := tb_6 (List.mem_of_getElem? (i := 2) rfl) rfl
theorem wd_6_3 : (.methodLink RX6 314 yX2_linkedPairs) ∈ eTB := tb_6 (List.mem_of_getElem? (i := 3) rfl) rfl
theorem wd_6_5 : (.methodLink RL 329 yL_undo) ∈ eTB := tb_6 (List.mem_of_getElem? (i := 5) rfl) rfl
theorem wd_6_6 : (.static yL_undo) ∈ eTB := tb_6 (List.mem_of_getElem? (i := 6) rfl) rfl
theorem wd_6_7 : (mWord mL_undo) ∈ eTB := tb_6 (List.mem_of_getElem? (i := 7) rfl) rfl
theorem wd_6_8 : (.methodLink RL 138 yX6_undo) ∈ eTB := tb_6 (List.mem_of_getElem? (i := 8) rfl) rfl
theorem wd_6_9 : (.instanceMethod yX6_undo) ∈ eTB := tb_6 (List.mem_of_getElem? (i := 9) rfl) rfl
theorem wd_6_10 : (.selects RX6 yX6_undo yX6_undo) ∈ eTB := tb_6 (List.mem_of_getElem? (i := 10) rfl) rfl
theorem wd_6_11 : (mWord mX6_undo) ∈ eTB := tb_6 (List.mem_of_getElem? (i := 11) rfl) rfl
theorem wd_6_13 : (.methodLink RX6 328 yX4_pop) ∈ eTB := tb_6 (List.mem_of_getElem? (i := 13) rfl) rfl
theorem wd_6_14 : (.instanceMethod yX4_pop) ∈ eTB := tb_6 (List.mem_of_getElem? (i := 14) rfl) rfl
theorem wd_6_15 : (.selects RX4 yX4_pop yX4_pop) ∈ eTB := tb_6 (List.mem_of_getElem? (i := 15) rfl) rfl
theorem wd_6_16 : (mWord mX4_pop) ∈ eTB := tb_6 (List.mem_of_getElem? (i := 16) rfl) rfl
theorem wd_6_17 : (.methodLink RL 336 yL_restore) ∈ eTB := tb_6 (List.mem_of_getElem? (i := 17) rfl) rfl
theorem wd_6_18 : (.static yL_restore) ∈ eTB := tb_6 (List.mem_of_getElem? (i := 18) rfl) rfl
theorem wd_6_19 : (mWord mL_restore) ∈ eTB := tb_6 (List.mem_of_getElem? (i := 19) rfl) rfl
theorem wd_6_20 : (.methodLink RL 141 yX6_restore) ∈ eTB := tb_6 (List.mem_of_getElem? (i := 20) rfl) rfl
theorem wd_6_21 : (.instanceMethod yX6_restore) ∈ eTB := tb_6 (List.mem_of_getElem? (i := 21) rfl) rfl
theorem wd_6_22 : (.selects RX6 yX6_restore yX6_restore) ∈ eTB := tb_6 (List.mem_of_getElem? (i := 22) rfl) rfl
theorem wd_6_23 : (mWord mX6_restore) ∈ eTB := tb_6 (List.mem_of_getElem? (i := 23) rfl) rfl
theorem wd_6_25 : (.methodLink RX6 333 yX4_forget) ∈ eTB := tb_6 (List.mem_of_getElem? (i := 25) rfl) rfl
theorem wd_6_26 : (.instanceMethod yX4_forget) ∈ eTB := tb_6 (List.mem_of_getElem? (i := 26) rfl) rfl
theorem wd_6_27 : (.selects RX4 yX4_forget yX4_forget) ∈ eTB := tb_6 (List.mem_of_getElem? (i := 27) rfl) rfl
theorem wd_6_28 : (mWord mX4_forget) ∈ eTB := tb_6 (List.mem_of_getElem? (i := 28) rfl) rfl
theorem wd_6_29 : (.classLink RL 145 RX7) ∈ eTB := tb_6 (List.mem_of_getElem? (i := 29) rfl) rfl
theorem wd_6_30 : (.instantiable RX7 18) ∈ eTB := tb_6 (List.mem_of_getElem? (i := 30) rfl) rfl
theorem wd_6_31 : (.methodLink RL 147 yX7_init) ∈ eTB := tb_6 (List.mem_of_getElem? (i := 31) rfl) rfl
theorem wd_6_32 : (.instanceMethod yX7_init) ∈ eTB := tb_6 (List.mem_of_getElem? (i := 32) rfl) rfl
theorem wd_6_33 : (mWord mX7_init) ∈ eTB := tb_6 (List.mem_of_getElem? (i := 33) rfl) rfl
theorem wd_6_34 : (.methodLink RX7 1 Lib.objectInit) ∈ eTB := tb_6 (List.mem_of_getElem? (i := 34) rfl) rfl
theorem wd_6_35 : (.fieldLink RX7 33 RX7 "thrown" "I") ∈ eTB := tb_6 (List.mem_of_getElem? (i := 35) rfl) rfl
theorem wd_6_36 : (.fieldLink RX7 9 RX7 "all" "[I") ∈ eTB := tb_6 (List.mem_of_getElem? (i := 36) rfl) rfl
theorem wd_6_37 : (.fieldLink RX7 40 RX7 "changes" "I") ∈ eTB := tb_6 (List.mem_of_getElem? (i := 37) rfl) rfl
theorem wd_6_38 : (.fieldLink RX7 245 RX7 "isSaved" "Z") ∈ eTB := tb_6 (List.mem_of_getElem? (i := 38) rfl) rfl
theorem wd_6_39 : (.fieldLink RX7 43 RX7 "result" "I") ∈ eTB := tb_6 (List.mem_of_getElem? (i := 39) rfl) rfl
theorem wd_6_40 : (.fieldLink RX7 72 RX7 "why" "I") ∈ eTB := tb_6 (List.mem_of_getElem? (i := 40) rfl) rfl
theorem wd_6_41 : (.fieldLink RX7 75 RX7 "detail" "I") ∈ eTB := tb_6 (List.mem_of_getElem? (i := 41) rfl) rfl
theorem wd_6_42 : (.fieldLink RX7 13 RX7 "shape" "[I") ∈ eTB := tb_6 (List.mem_of_getElem? (i := 42) rfl) rfl
theorem wd_6_43 : (.fieldLink RX7 16 RX7 "input" "[C") ∈ eTB := tb_6 (List.mem_of_getElem? (i := 43) rfl) rfl
theorem wd_6_44 : (.fieldLink RX7 199 RX7 "typed" "I") ∈ eTB := tb_6 (List.mem_of_getElem? (i := 44) rfl) rfl
theorem wd_6_45 : (.fieldLink RX7 202 RX7 "here" "I") ∈ eTB := tb_6 (List.mem_of_getElem? (i := 45) rfl) rfl
theorem wd_6_46 : (.fieldLink RX7 205 RX7 "error" "I") ∈ eTB := tb_6 (List.mem_of_getElem? (i := 46) rfl) rfl
theorem wd_6_47 : (.fieldLink RX7 20 RX7 "errorAt" "I") ∈ eTB := tb_6 (List.mem_of_getElem? (i := 47) rfl) rfl
theorem wd_6_48 : (.fieldLink RX7 24 RX7 "failedAt" "I") ∈ eTB := tb_6 (List.mem_of_getElem? (i := 48) rfl) rfl
theorem wd_6_49 : (.fieldLink RX7 27 RX7 "commands" "[I") ∈ eTB := tb_6 (List.mem_of_getElem? (i := 49) rfl) rfl
theorem wd_6_50 : (.fieldLink RX7 224 RX7 "commandMany" "I") ∈ eTB := tb_6 (List.mem_of_getElem? (i := 50) rfl) rfl
theorem wd_6_51 : (.fieldLink RX7 30 RX7 "line" "[C") ∈ eTB := tb_6 (List.mem_of_getElem? (i := 51) rfl) rfl
theorem wd_6_52 : (.fieldLink RX7 242 RX7 "lineSize" "I") ∈ eTB := tb_6 (List.mem_of_getElem? (i := 52) rfl) rfl
theorem wd_6_53 : (.lays "BasketFlockModel" "BasketFlockModel" "thrown" "I") ∈ eTB := tb_6 (List.mem_of_getElem? (i := 53) rfl) rfl
theorem wd_6_55 : (.laysFinal "BasketFlockModel" "BasketFlockModel" "all" "[I") ∈ eTB := tb_6 (List.mem_of_getElem? (i := 55) rfl) rfl
theorem wd_6_57 : (.lays "BasketFlockModel" "BasketFlockModel" "changes" "I") ∈ eTB := tb_6 (List.mem_of_getElem? (i := 57) rfl) rfl
theorem wd_6_59 : (.lays "BasketFlockModel" "BasketFlockModel" "isSaved" "Z") ∈ eTB := tb_6 (List.mem_of_getElem? (i := 59) rfl) rfl
theorem wd_6_61 : (.lays "BasketFlockModel" "BasketFlockModel" "result" "I") ∈ eTB := tb_6 (List.mem_of_getElem? (i := 61) rfl) rfl
theorem wd_6_63 : (.lays "BasketFlockModel" "BasketFlockModel" "why" "I") ∈ eTB := tb_6 (List.mem_of_getElem? (i := 63) rfl) rfl
theorem wd_6_65 : (.lays "BasketFlockModel" "BasketFlockModel" "detail" "I") ∈ eTB := tb_6 (List.mem_of_getElem? (i := 65) rfl) rfl
theorem wd_6_67 : (.laysFinal "BasketFlockModel" "BasketFlockModel" "shape" "[I") ∈ eTB := tb_6 (List.mem_of_getElem? (i := 67) rfl) rfl
theorem wd_6_69 : (.laysFinal "BasketFlockModel" "BasketFlockModel" "input" "[C") ∈ eTB := tb_6 (List.mem_of_getElem? (i := 69) rfl) rfl
theorem wd_6_71 : (.lays "BasketFlockModel" "BasketFlockModel" "typed" "I") ∈ eTB := tb_6 (List.mem_of_getElem? (i := 71) rfl) rfl
theorem wd_6_73 : (.lays "BasketFlockModel" "BasketFlockModel" "here" "I") ∈ eTB := tb_6 (List.mem_of_getElem? (i := 73) rfl) rfl
theorem wd_6_75 : (.lays "BasketFlockModel" "BasketFlockModel" "error" "I") ∈ eTB := tb_6 (List.mem_of_getElem? (i := 75) rfl) rfl
theorem wd_6_77 : (.lays "BasketFlockModel" "BasketFlockModel" "errorAt" "I") ∈ eTB := tb_6 (List.mem_of_getElem? (i := 77) rfl) rfl
theorem wd_6_79 : (.lays "BasketFlockModel" "BasketFlockModel" "failedAt" "I") ∈ eTB := tb_6 (List.mem_of_getElem? (i := 79) rfl) rfl
theorem wd_6_81 : (.laysFinal "BasketFlockModel" "BasketFlockModel" "commands" "[I") ∈ eTB := tb_6 (List.mem_of_getElem? (i := 81) rfl) rfl
theorem wd_6_83 : (.lays "BasketFlockModel" "BasketFlockModel" "commandMany" "I") ∈ eTB := tb_6 (List.mem_of_getElem? (i := 83) rfl) rfl
theorem wd_6_85 : (.laysFinal "BasketFlockModel" "BasketFlockModel" "line" "[C") ∈ eTB := tb_6 (List.mem_of_getElem? (i := 85) rfl) rfl
theorem wd_6_87 : (.lays "BasketFlockModel" "BasketFlockModel" "lineSize" "I") ∈ eTB := tb_6 (List.mem_of_getElem? (i := 87) rfl) rfl
theorem wd_6_90 : (.methodLink RL 154 yX7_thrown) ∈ eTB := tb_6 (List.mem_of_getElem? (i := 90) rfl) rfl
theorem wd_6_91 : (.instanceMethod yX7_thrown) ∈ eTB := tb_6 (List.mem_of_getElem? (i := 91) rfl) rfl
theorem wd_6_92 : (.selects RX7 yX7_thrown yX7_thrown) ∈ eTB := tb_6 (List.mem_of_getElem? (i := 92) rfl) rfl
theorem wd_6_93 : (mWord mX7_thrown) ∈ eTB := tb_6 (List.mem_of_getElem? (i := 93) rfl) rfl
theorem wd_6_94 : (.methodLink RL 190 yX7_refusalReason) ∈ eTB := tb_6 (List.mem_of_getElem? (i := 94) rfl) rfl
theorem wd_6_95 : (.instanceMethod yX7_refusalReason) ∈ eTB := tb_6 (List.mem_of_getElem? (i := 95) rfl) rfl
theorem wd_6_96 : (.selects RX7 yX7_refusalReason yX7_refusalReason) ∈ eTB := tb_6 (List.mem_of_getElem? (i := 96) rfl) rfl
theorem wd_6_97 : (mWord mX7_refusalReason) ∈ eTB := tb_6 (List.mem_of_getElem? (i := 97) rfl) rfl
theorem wd_6_98 : (.methodLink RX7 78 yX7_isFine) ∈ eTB := tb_6 (List.mem_of_getElem? (i := 98) rfl) rfl
theorem wd_6_100 : (.instanceMethod yX7_isFine) ∈ eTB := tb_6 (List.mem_of_getElem? (i := 100) rfl) rfl
theorem wd_6_101 : (mWord mX7_isFine) ∈ eTB := tb_6 (List.mem_of_getElem? (i := 101) rfl) rfl
theorem wd_6_102 : (.methodLink RL 193 yX7_refusalDetail) ∈ eTB := tb_6 (List.mem_of_getElem? (i := 102) rfl) rfl
theorem wd_6_103 : (.instanceMethod yX7_refusalDetail) ∈ eTB := tb_6 (List.mem_of_getElem? (i := 103) rfl) rfl
theorem wd_6_104 : (.selects RX7 yX7_refusalDetail yX7_refusalDetail) ∈ eTB := tb_6 (List.mem_of_getElem? (i := 104) rfl) rfl
theorem wd_6_105 : (mWord mX7_refusalDetail) ∈ eTB := tb_6 (List.mem_of_getElem? (i := 105) rfl) rfl
theorem wd_6_106 : (.methodLink RL 153 yX7_addBasket) ∈ eTB := tb_6 (List.mem_of_getElem? (i := 106) rfl) rfl
theorem wd_6_107 : (.instanceMethod yX7_addBasket) ∈ eTB := tb_6 (List.mem_of_getElem? (i := 107) rfl) rfl
theorem wd_6_108 : (.selects RX7 yX7_addBasket yX7_addBasket) ∈ eTB := tb_6 (List.mem_of_getElem? (i := 108) rfl) rfl
theorem wd_6_109 : (mWord mX7_addBasket) ∈ eTB := tb_6 (List.mem_of_getElem? (i := 109) rfl) rfl
theorem wd_6_110 : (.methodLink RX7 118 yX7_begins) ∈ eTB := tb_6 (List.mem_of_getElem? (i := 110) rfl) rfl
theorem wd_6_112 : (.instanceMethod yX7_begins) ∈ eTB := tb_6 (List.mem_of_getElem? (i := 112) rfl) rfl
theorem wd_6_113 : (mWord mX7_begins) ∈ eTB := tb_6 (List.mem_of_getElem? (i := 113) rfl) rfl
theorem wd_6_114 : (.methodLink RX7 36 yX7_copies) ∈ eTB := tb_6 (List.mem_of_getElem? (i := 114) rfl) rfl
theorem wd_6_116 : (.instanceMethod yX7_copies) ∈ eTB := tb_6 (List.mem_of_getElem? (i := 116) rfl) rfl
theorem wd_6_117 : (mWord mX7_copies) ∈ eTB := tb_6 (List.mem_of_getElem? (i := 117) rfl) rfl
theorem wd_6_118 : (.methodLink RX7 121 yX7_adds) ∈ eTB := tb_6 (List.mem_of_getElem? (i := 118) rfl) rfl
theorem wd_6_120 : (.instanceMethod yX7_adds) ∈ eTB := tb_6 (List.mem_of_getElem? (i := 120) rfl) rfl
theorem wd_6_121 : (mWord mX7_adds) ∈ eTB := tb_6 (List.mem_of_getElem? (i := 121) rfl) rfl
theorem wd_6_122 : (.methodLink RX7 62 yX7_isCell) ∈ eTB := tb_6 (List.mem_of_getElem? (i := 122) rfl) rfl
theorem wd_6_123 : (.static yX7_isCell) ∈ eTB := tb_6 (List.mem_of_getElem? (i := 123) rfl) rfl
theorem wd_6_124 : (mWord mX7_isCell) ∈ eTB := tb_6 (List.mem_of_getElem? (i := 124) rfl) rfl
theorem wd_6_125 : (.methodLink RX7 46 yX7_in) ∈ eTB := tb_6 (List.mem_of_getElem? (i := 125) rfl) rfl
theorem wd_6_126 : (.static yX7_in) ∈ eTB := tb_6 (List.mem_of_getElem? (i := 126) rfl) rfl
theorem wd_6_127 : (mWord mX7_in) ∈ eTB := tb_6 (List.mem_of_getElem? (i := 127) rfl) rfl
theorem wd_6_128 : (.methodLink RX7 115 yX7_refuses) ∈ eTB := tb_6 (List.mem_of_getElem? (i := 128) rfl) rfl
theorem wd_6_130 : (.instanceMethod yX7_refuses) ∈ eTB := tb_6 (List.mem_of_getElem? (i := 130) rfl) rfl
theorem wd_6_131 : (mWord mX7_refuses) ∈ eTB := tb_6 (List.mem_of_getElem? (i := 131) rfl) rfl
theorem wd_6_132 : (.methodLink RX7 66 yX7_cloud) ∈ eTB := tb_6 (List.mem_of_getElem? (i := 132) rfl) rfl
theorem wd_6_134 : (.instanceMethod yX7_cloud) ∈ eTB := tb_6 (List.mem_of_getElem? (i := 134) rfl) rfl
theorem wd_6_135 : (mWord mX7_cloud) ∈ eTB := tb_6 (List.mem_of_getElem? (i := 135) rfl) rfl
theorem wd_6_136 : (.methodLink RX7 69 yX7_touched) ∈ eTB := tb_6 (List.mem_of_getElem? (i := 136) rfl) rfl
theorem wd_6_138 : (.instanceMethod yX7_touched) ∈ eTB := tb_6 (List.mem_of_getElem? (i := 138) rfl) rfl
theorem wd_6_139 : (mWord mX7_touched) ∈ eTB := tb_6 (List.mem_of_getElem? (i := 139) rfl) rfl
theorem wd_6_140 : (.methodLink RX7 58 yX7_far) ∈ eTB := tb_6 (List.mem_of_getElem? (i := 140) rfl) rfl
theorem wd_6_142 : (.instanceMethod yX7_far) ∈ eTB := tb_6 (List.mem_of_getElem? (i := 142) rfl) rfl
theorem wd_6_143 : (mWord mX7_far) ∈ eTB := tb_6 (List.mem_of_getElem? (i := 143) rfl) rfl
theorem wd_6_144 : (.methodLink RX7 50 yX7_b) ∈ eTB := tb_6 (List.mem_of_getElem? (i := 144) rfl) rfl
theorem wd_6_146 : (.instanceMethod yX7_b) ∈ eTB := tb_6 (List.mem_of_getElem? (i := 146) rfl) rfl
theorem wd_6_147 : (mWord mX7_b) ∈ eTB := tb_6 (List.mem_of_getElem? (i := 147) rfl) rfl
theorem wd_6_148 : (.methodLink RX7 54 yX7_size) ∈ eTB := tb_6 (List.mem_of_getElem? (i := 148) rfl) rfl
theorem wd_6_149 : (.static yX7_size) ∈ eTB := tb_6 (List.mem_of_getElem? (i := 149) rfl) rfl
theorem wd_6_150 : (mWord mX7_size) ∈ eTB := tb_6 (List.mem_of_getElem? (i := 150) rfl) rfl
theorem wd_6_151 : (.methodLink RX7 85 yX7_set) ∈ eTB := tb_6 (List.mem_of_getElem? (i := 151) rfl) rfl
theorem wd_6_153 : (.instanceMethod yX7_set) ∈ eTB := tb_6 (List.mem_of_getElem? (i := 153) rfl) rfl
theorem wd_6_154 : (mWord mX7_set) ∈ eTB := tb_6 (List.mem_of_getElem? (i := 154) rfl) rfl
theorem wd_6_155 : (.methodLink RX7 124 yX7_ends) ∈ eTB := tb_6 (List.mem_of_getElem? (i := 155) rfl) rfl
theorem wd_6_157 : (.instanceMethod yX7_ends) ∈ eTB := tb_6 (List.mem_of_getElem? (i := 157) rfl) rfl
theorem wd_6_158 : (mWord mX7_ends) ∈ eTB := tb_6 (List.mem_of_getElem? (i := 158) rfl) rfl
theorem wd_6_159 : (.methodLink RL 159 yX7_jump) ∈ eTB := tb_6 (List.mem_of_getElem? (i := 159) rfl) rfl
theorem wd_6_160 : (.instanceMethod yX7_jump) ∈ eTB := tb_6 (List.mem_of_getElem? (i := 160) rfl) rfl
theorem wd_6_161 : (.selects RX7 yX7_jump yX7_jump) ∈ eTB := tb_6 (List.mem_of_getElem? (i := 161) rfl) rfl
theorem wd_6_162 : (mWord mX7_jump) ∈ eTB := tb_6 (List.mem_of_getElem? (i := 162) rfl) rfl
theorem wd_6_163 : (.methodLink RX7 132 yX7_jumps) ∈ eTB := tb_6 (List.mem_of_getElem? (i := 163) rfl) rfl
theorem wd_6_165 : (.instanceMethod yX7_jumps) ∈ eTB := tb_6 (List.mem_of_getElem? (i := 165) rfl) rfl
theorem wd_6_166 : (mWord mX7_jumps) ∈ eTB := tb_6 (List.mem_of_getElem? (i := 166) rfl) rfl
theorem wd_6_167 : (.methodLink RX7 128 yX7_isBasket) ∈ eTB := tb_6 (List.mem_of_getElem? (i := 167) rfl) rfl
theorem wd_6_169 : (.instanceMethod yX7_isBasket) ∈ eTB := tb_6 (List.mem_of_getElem? (i := 169) rfl) rfl
theorem wd_6_170 : (mWord mX7_isBasket) ∈ eTB := tb_6 (List.mem_of_getElem? (i := 170) rfl) rfl
theorem wd_6_171 : (.methodLink RL 163 yX7_setHandle) ∈ eTB := tb_6 (List.mem_of_getElem? (i := 171) rfl) rfl
theorem wd_6_172 : (.instanceMethod yX7_setHandle) ∈ eTB := tb_6 (List.mem_of_getElem? (i := 172) rfl) rfl
theorem wd_6_173 : (.selects RX7 yX7_setHandle yX7_setHandle) ∈ eTB := tb_6 (List.mem_of_getElem? (i := 173) rfl) rfl
theorem wd_6_174 : (mWord mX7_setHandle) ∈ eTB := tb_6 (List.mem_of_getElem? (i := 174) rfl) rfl
theorem wd_6_175 : (.methodLink RX7 135 yX7_handles) ∈ eTB := tb_6 (List.mem_of_getElem? (i := 175) rfl) rfl
theorem wd_6_177 : (.instanceMethod yX7_handles) ∈ eTB := tb_6 (List.mem_of_getElem? (i := 177) rfl) rfl
theorem wd_6_178 : (mWord mX7_handles) ∈ eTB := tb_6 (List.mem_of_getElem? (i := 178) rfl) rfl
theorem wd_6_179 : (.methodLink RL 196 yX7_addCloud) ∈ eTB := tb_6 (List.mem_of_getElem? (i := 179) rfl) rfl
theorem wd_6_180 : (.instanceMethod yX7_addCloud) ∈ eTB := tb_6 (List.mem_of_getElem? (i := 180) rfl) rfl
theorem wd_6_181 : (.selects RX7 yX7_addCloud yX7_addCloud) ∈ eTB := tb_6 (List.mem_of_getElem? (i := 181) rfl) rfl
theorem wd_6_182 : (mWord mX7_addCloud) ∈ eTB := tb_6 (List.mem_of_getElem? (i := 182) rfl) rfl
theorem wd_6_183 : (.methodLink RX7 141 yX7_clouds) ∈ eTB := tb_6 (List.mem_of_getElem? (i := 183) rfl) rfl
theorem wd_6_185 : (.instanceMethod yX7_clouds) ∈ eTB := tb_6 (List.mem_of_getElem? (i := 185) rfl) rfl
theorem wd_6_186 : (mWord mX7_clouds) ∈ eTB := tb_6 (List.mem_of_getElem? (i := 186) rfl) rfl
theorem wd_6_187 : (.methodLink RX7 138 yX7_at) ∈ eTB := tb_6 (List.mem_of_getElem? (i := 187) rfl) rfl
theorem wd_6_189 : (.instanceMethod yX7_at) ∈ eTB := tb_6 (List.mem_of_getElem? (i := 189) rfl) rfl
theorem wd_6_190 : (mWord mX7_at) ∈ eTB := tb_6 (List.mem_of_getElem? (i := 190) rfl) rfl
theorem wd_6_191 : (.methodLink RL 199 yX7_removeCloud) ∈ eTB := tb_6 (List.mem_of_getElem? (i := 191) rfl) rfl
theorem wd_6_192 : (.instanceMethod yX7_removeCloud) ∈ eTB := tb_6 (List.mem_of_getElem? (i := 192) rfl) rfl
theorem wd_6_193 : (.selects RX7 yX7_removeCloud yX7_removeCloud) ∈ eTB := tb_6 (List.mem_of_getElem? (i := 193) rfl) rfl
theorem wd_6_194 : (mWord mX7_removeCloud) ∈ eTB := tb_6 (List.mem_of_getElem? (i := 194) rfl) rfl
theorem wd_6_195 : (.methodLink RX7 144 yX7_clears) ∈ eTB := tb_6 (List.mem_of_getElem? (i := 195) rfl) rfl
theorem wd_6_197 : (.instanceMethod yX7_clears) ∈ eTB := tb_6 (List.mem_of_getElem? (i := 197) rfl) rfl
theorem wd_6_198 : (mWord mX7_clears) ∈ eTB := tb_6 (List.mem_of_getElem? (i := 198) rfl) rfl
theorem wd_6_199 : (.methodLink RL 209 yX7_setTurnLength) ∈ eTB := tb_6 (List.mem_of_getElem? (i := 199) rfl) rfl
theorem wd_6_200 : (.instanceMethod yX7_setTurnLength) ∈ eTB := tb_6 (List.mem_of_getElem? (i := 200) rfl) rfl
theorem wd_6_201 : (.selects RX7 yX7_setTurnLength yX7_setTurnLength) ∈ eTB := tb_6 (List.mem_of_getElem? (i := 201) rfl) rfl
theorem wd_6_202 : (mWord mX7_setTurnLength) ∈ eTB := tb_6 (List.mem_of_getElem? (i := 202) rfl) rfl
theorem wd_6_203 : (.methodLink RX7 147 yX7_turns) ∈ eTB := tb_6 (List.mem_of_getElem? (i := 203) rfl) rfl
theorem wd_6_205 : (.instanceMethod yX7_turns) ∈ eTB := tb_6 (List.mem_of_getElem? (i := 205) rfl) rfl
theorem wd_6_206 : (mWord mX7_turns) ∈ eTB := tb_6 (List.mem_of_getElem? (i := 206) rfl) rfl
theorem wd_6_207 : (.methodLink RL 225 yX7_setTarget) ∈ eTB := tb_6 (List.mem_of_getElem? (i := 207) rfl) rfl
theorem wd_6_208 : (.instanceMethod yX7_setTarget) ∈ eTB := tb_6 (List.mem_of_getElem? (i := 208) rfl) rfl
theorem wd_6_209 : (.selects RX7 yX7_setTarget yX7_setTarget) ∈ eTB := tb_6 (List.mem_of_getElem? (i := 209) rfl) rfl
theorem wd_6_210 : (mWord mX7_setTarget) ∈ eTB := tb_6 (List.mem_of_getElem? (i := 210) rfl) rfl
theorem wd_6_211 : (.methodLink RX7 150 yX7_aims) ∈ eTB := tb_6 (List.mem_of_getElem? (i := 211) rfl) rfl
theorem wd_6_213 : (.instanceMethod yX7_aims) ∈ eTB := tb_6 (List.mem_of_getElem? (i := 213) rfl) rfl
theorem wd_6_214 : (mWord mX7_aims) ∈ eTB := tb_6 (List.mem_of_getElem? (i := 214) rfl) rfl
theorem wd_6_215 : (.methodLink RL 237 yX7_setKeep) ∈ eTB := tb_6 (List.mem_of_getElem? (i := 215) rfl) rfl
theorem wd_6_216 : (.instanceMethod yX7_setKeep) ∈ eTB := tb_6 (List.mem_of_getElem? (i := 216) rfl) rfl
theorem wd_6_217 : (.selects RX7 yX7_setKeep yX7_setKeep) ∈ eTB := tb_6 (List.mem_of_getElem? (i := 217) rfl) rfl
theorem wd_6_218 : (mWord mX7_setKeep) ∈ eTB := tb_6 (List.mem_of_getElem? (i := 218) rfl) rfl
theorem wd_6_219 : (.methodLink RX7 153 yX7_keeps) ∈ eTB := tb_6 (List.mem_of_getElem? (i := 219) rfl) rfl
theorem wd_6_221 : (.instanceMethod yX7_keeps) ∈ eTB := tb_6 (List.mem_of_getElem? (i := 221) rfl) rfl
theorem wd_6_222 : (mWord mX7_keeps) ∈ eTB := tb_6 (List.mem_of_getElem? (i := 222) rfl) rfl
theorem wd_6_223 : (.methodLink RL 244 yX7_advance) ∈ eTB := tb_6 (List.mem_of_getElem? (i := 223) rfl) rfl
theorem wd_6_224 : (.instanceMethod yX7_advance) ∈ eTB := tb_6 (List.mem_of_getElem? (i := 224) rfl) rfl
theorem wd_6_225 : (.selects RX7 yX7_advance yX7_advance) ∈ eTB := tb_6 (List.mem_of_getElem? (i := 225) rfl) rfl
theorem wd_6_226 : (mWord mX7_advance) ∈ eTB := tb_6 (List.mem_of_getElem? (i := 226) rfl) rfl
theorem wd_6_227 : (.methodLink RX7 159 yX7_passes) ∈ eTB := tb_6 (List.mem_of_getElem? (i := 227) rfl) rfl
theorem wd_6_229 : (.instanceMethod yX7_passes) ∈ eTB := tb_6 (List.mem_of_getElem? (i := 229) rfl) rfl
theorem wd_6_230 : (mWord mX7_passes) ∈ eTB := tb_6 (List.mem_of_getElem? (i := 230) rfl) rfl
theorem wd_6_231 : (.methodLink RX7 156 yX7_steps) ∈ eTB := tb_6 (List.mem_of_getElem? (i := 231) rfl) rfl
theorem wd_6_233 : (.instanceMethod yX7_steps) ∈ eTB := tb_6 (List.mem_of_getElem? (i := 233) rfl) rfl
theorem wd_6_234 : (mWord mX7_steps) ∈ eTB := tb_6 (List.mem_of_getElem? (i := 234) rfl) rfl
theorem wd_6_235 : (.methodLink RX7 105 yX7_leads) ∈ eTB := tb_6 (List.mem_of_getElem? (i := 235) rfl) rfl
theorem wd_6_237 : (.instanceMethod yX7_leads) ∈ eTB := tb_6 (List.mem_of_getElem? (i := 237) rfl) rfl
theorem wd_6_238 : (mWord mX7_leads) ∈ eTB := tb_6 (List.mem_of_getElem? (i := 238) rfl) rfl
theorem wd_6_239 : (.methodLink RX7 89 yX7_toward) ∈ eTB := tb_6 (List.mem_of_getElem? (i := 239) rfl) rfl
theorem wd_7_0 : (.static yX7_toward) ∈ eTB := tb_7 (List.mem_of_getElem? (i := 0) rfl) rfl
theorem wd_7_1 : (mWord mX7_toward) ∈ eTB := tb_7 (List.mem_of_getElem? (i := 1) rfl) rfl
theorem wd_7_2 : (.methodLink RX7 92 yX7_goes) ∈ eTB := tb_7 (List.mem_of_getElem? (i := 2) rfl) rfl
theorem wd_7_4 : (.instanceMethod yX7_goes) ∈ eTB := tb_7 (List.mem_of_getElem? (i := 4) rfl) rfl
theorem wd_7_5 : (mWord mX7_goes) ∈ eTB := tb_7 (List.mem_of_getElem? (i := 5) rfl) rfl
theorem wd_7_6 : (.methodLink RX7 82 yX7_isPossible) ∈ eTB := tb_7 (List.mem_of_getElem? (i := 6) rfl) rfl
theorem wd_7_8 : (.instanceMethod yX7_isPossible) ∈ eTB := tb_7 (List.mem_of_getElem? (i := 8) rfl) rfl
theorem wd_7_9 : (mWord mX7_isPossible) ∈ eTB := tb_7 (List.mem_of_getElem? (i := 9) rfl) rfl
theorem wd_7_10 : (.methodLink RX7 95 yX7_counted) ∈ eTB := tb_7 (List.mem_of_getElem? (i := 10) rfl) rfl
theorem wd_7_12 : (.instanceMethod yX7_counted) ∈ eTB := tb_7 (List.mem_of_getElem? (i := 12) rfl) rfl
theorem wd_7_13 : (mWord mX7_counted) ∈ eTB := tb_7 (List.mem_of_getElem? (i := 13) rfl) rfl
theorem wd_7_14 : (.methodLink RX7 109 yX7_follows) ∈ eTB := tb_7 (List.mem_of_getElem? (i := 14) rfl) rfl
theorem wd_7_16 : (.instanceMethod yX7_follows) ∈ eTB := tb_7 (List.mem_of_getElem? (i := 16) rfl) rfl
theorem wd_7_17 : (mWord mX7_follows) ∈ eTB := tb_7 (List.mem_of_getElem? (i := 17) rfl) rfl
theorem wd_7_18 : (.methodLink RX7 99 yX7_apart) ∈ eTB := tb_7 (List.mem_of_getElem? (i := 18) rfl) rfl
theorem wd_7_20 : (.instanceMethod yX7_apart) ∈ eTB := tb_7 (List.mem_of_getElem? (i := 20) rfl) rfl
theorem wd_7_21 : (mWord mX7_apart) ∈ eTB := tb_7 (List.mem_of_getElem? (i := 21) rfl) rfl
theorem wd_7_22 : (.methodLink RX7 112 yX7_remembers) ∈ eTB := tb_7 (List.mem_of_getElem? (i := 22) rfl) rfl
theorem wd_7_24 : (.instanceMethod yX7_remembers) ∈ eTB := tb_7 (List.mem_of_getElem? (i := 24) rfl) rfl
theorem wd_7_25 : (mWord mX7_remembers) ∈ eTB := tb_7 (List.mem_of_getElem? (i := 25) rfl) rfl
theorem wd_7_26 : (.methodLink RX7 102 yX7_shapes) ∈ eTB := tb_7 (List.mem_of_getElem? (i := 26) rfl) rfl
theorem wd_7_28 : (.instanceMethod yX7_shapes) ∈ eTB := tb_7 (List.mem_of_getElem? (i := 28) rfl) rfl
theorem wd_7_29 : (mWord mX7_shapes) ∈ eTB := tb_7 (List.mem_of_getElem? (i := 29) rfl) rfl
theorem wd_7_30 : (.methodLink RL 167 yX7_basketCount) ∈ eTB := tb_7 (List.mem_of_getElem? (i := 30) rfl) rfl
theorem wd_7_31 : (.instanceMethod yX7_basketCount) ∈ eTB := tb_7 (List.mem_of_getElem? (i := 31) rfl) rfl
theorem wd_7_32 : (.selects RX7 yX7_basketCount yX7_basketCount) ∈ eTB := tb_7 (List.mem_of_getElem? (i := 32) rfl) rfl
theorem wd_7_33 : (mWord mX7_basketCount) ∈ eTB := tb_7 (List.mem_of_getElem? (i := 33) rfl) rfl
theorem wd_7_34 : (.methodLink RX7 162 yX7_told) ∈ eTB := tb_7 (List.mem_of_getElem? (i := 34) rfl) rfl
theorem wd_7_36 : (.instanceMethod yX7_told) ∈ eTB := tb_7 (List.mem_of_getElem? (i := 36) rfl) rfl
theorem wd_7_37 : (mWord mX7_told) ∈ eTB := tb_7 (List.mem_of_getElem? (i := 37) rfl) rfl
theorem wd_7_38 : (.methodLink RL 171 yX7_xOf) ∈ eTB := tb_7 (List.mem_of_getElem? (i := 38) rfl) rfl
theorem wd_7_39 : (.instanceMethod yX7_xOf) ∈ eTB := tb_7 (List.mem_of_getElem? (i := 39) rfl) rfl
theorem wd_7_40 : (.selects RX7 yX7_xOf yX7_xOf) ∈ eTB := tb_7 (List.mem_of_getElem? (i := 40) rfl) rfl
theorem wd_7_41 : (mWord mX7_xOf) ∈ eTB := tb_7 (List.mem_of_getElem? (i := 41) rfl) rfl
theorem wd_7_42 : (.methodLink RX7 165 yX7_ofBasket) ∈ eTB := tb_7 (List.mem_of_getElem? (i := 42) rfl) rfl
theorem wd_7_44 : (.instanceMethod yX7_ofBasket) ∈ eTB := tb_7 (List.mem_of_getElem? (i := 44) rfl) rfl
theorem wd_7_45 : (mWord mX7_ofBasket) ∈ eTB := tb_7 (List.mem_of_getElem? (i := 45) rfl) rfl
theorem wd_7_46 : (.methodLink RL 174 yX7_yOf) ∈ eTB := tb_7 (List.mem_of_getElem? (i := 46) rfl) rfl
theorem wd_7_47 : (.instanceMethod yX7_yOf) ∈ eTB := tb_7 (List.mem_of_getElem? (i := 47) rfl) rfl
theorem wd_7_48 : (.selects RX7 yX7_yOf yX7_yOf) ∈ eTB := tb_7 (List.mem_of_getElem? (i := 48) rfl) rfl
theorem wd_7_49 : (mWord mX7_yOf) ∈ eTB := tb_7 (List.mem_of_getElem? (i := 49) rfl) rfl
theorem wd_7_50 : (.methodLink RL 177 yX7_handleOf) ∈ eTB := tb_7 (List.mem_of_getElem? (i := 50) rfl) rfl
theorem wd_7_51 : (.instanceMethod yX7_handleOf) ∈ eTB := tb_7 (List.mem_of_getElem? (i := 51) rfl) rfl
theorem wd_7_52 : (.selects RX7 yX7_handleOf yX7_handleOf) ∈ eTB := tb_7 (List.mem_of_getElem? (i := 52) rfl) rfl
theorem wd_7_53 : (mWord mX7_handleOf) ∈ eTB := tb_7 (List.mem_of_getElem? (i := 53) rfl) rfl
theorem wd_7_54 : (.methodLink RL 180 yX7_basketAt) ∈ eTB := tb_7 (List.mem_of_getElem? (i := 54) rfl) rfl
theorem wd_7_55 : (.instanceMethod yX7_basketAt) ∈ eTB := tb_7 (List.mem_of_getElem? (i := 55) rfl) rfl
theorem wd_7_56 : (.selects RX7 yX7_basketAt yX7_basketAt) ∈ eTB := tb_7 (List.mem_of_getElem? (i := 56) rfl) rfl
theorem wd_7_57 : (mWord mX7_basketAt) ∈ eTB := tb_7 (List.mem_of_getElem? (i := 57) rfl) rfl
theorem wd_7_58 : (.methodLink RL 183 yX7_distance) ∈ eTB := tb_7 (List.mem_of_getElem? (i := 58) rfl) rfl
theorem wd_7_59 : (.instanceMethod yX7_distance) ∈ eTB := tb_7 (List.mem_of_getElem? (i := 59) rfl) rfl
theorem wd_7_60 : (.selects RX7 yX7_distance yX7_distance) ∈ eTB := tb_7 (List.mem_of_getElem? (i := 60) rfl) rfl
theorem wd_7_61 : (mWord mX7_distance) ∈ eTB := tb_7 (List.mem_of_getElem? (i := 61) rfl) rfl
theorem wd_7_62 : (.methodLink RL 186 yX7_nearestTo) ∈ eTB := tb_7 (List.mem_of_getElem? (i := 62) rfl) rfl
theorem wd_7_63 : (.instanceMethod yX7_nearestTo) ∈ eTB := tb_7 (List.mem_of_getElem? (i := 63) rfl) rfl
theorem wd_7_64 : (.selects RX7 yX7_nearestTo yX7_nearestTo) ∈ eTB := tb_7 (List.mem_of_getElem? (i := 64) rfl) rfl
theorem wd_7_65 : (mWord mX7_nearestTo) ∈ eTB := tb_7 (List.mem_of_getElem? (i := 65) rfl) rfl
theorem wd_7_66 : (.methodLink RL 202 yX7_isCloud) ∈ eTB := tb_7 (List.mem_of_getElem? (i := 66) rfl) rfl
theorem wd_7_67 : (.instanceMethod yX7_isCloud) ∈ eTB := tb_7 (List.mem_of_getElem? (i := 67) rfl) rfl
theorem wd_7_68 : (.selects RX7 yX7_isCloud yX7_isCloud) ∈ eTB := tb_7 (List.mem_of_getElem? (i := 68) rfl) rfl
theorem wd_7_69 : (mWord mX7_isCloud) ∈ eTB := tb_7 (List.mem_of_getElem? (i := 69) rfl) rfl
theorem wd_7_70 : (.methodLink RL 206 yX7_cloudCount) ∈ eTB := tb_7 (List.mem_of_getElem? (i := 70) rfl) rfl
theorem wd_7_71 : (.instanceMethod yX7_cloudCount) ∈ eTB := tb_7 (List.mem_of_getElem? (i := 71) rfl) rfl
theorem wd_7_72 : (.selects RX7 yX7_cloudCount yX7_cloudCount) ∈ eTB := tb_7 (List.mem_of_getElem? (i := 72) rfl) rfl
theorem wd_7_73 : (mWord mX7_cloudCount) ∈ eTB := tb_7 (List.mem_of_getElem? (i := 73) rfl) rfl
theorem wd_7_74 : (.methodLink RL 213 yX7_turnLength) ∈ eTB := tb_7 (List.mem_of_getElem? (i := 74) rfl) rfl
theorem wd_7_75 : (.instanceMethod yX7_turnLength) ∈ eTB := tb_7 (List.mem_of_getElem? (i := 75) rfl) rfl
theorem wd_7_76 : (.selects RX7 yX7_turnLength yX7_turnLength) ∈ eTB := tb_7 (List.mem_of_getElem? (i := 76) rfl) rfl
theorem wd_7_77 : (mWord mX7_turnLength) ∈ eTB := tb_7 (List.mem_of_getElem? (i := 77) rfl) rfl
theorem wd_7_78 : (.methodLink RL 216 yX7_leader) ∈ eTB := tb_7 (List.mem_of_getElem? (i := 78) rfl) rfl
theorem wd_7_79 : (.instanceMethod yX7_leader) ∈ eTB := tb_7 (List.mem_of_getElem? (i := 79) rfl) rfl
theorem wd_7_80 : (.selects RX7 yX7_leader yX7_leader) ∈ eTB := tb_7 (List.mem_of_getElem? (i := 80) rfl) rfl
theorem wd_7_81 : (mWord mX7_leader) ∈ eTB := tb_7 (List.mem_of_getElem? (i := 81) rfl) rfl
theorem wd_7_82 : (.methodLink RL 219 yX7_leaderAfter) ∈ eTB := tb_7 (List.mem_of_getElem? (i := 82) rfl) rfl
theorem wd_7_83 : (.instanceMethod yX7_leaderAfter) ∈ eTB := tb_7 (List.mem_of_getElem? (i := 83) rfl) rfl
theorem wd_7_84 : (.selects RX7 yX7_leaderAfter yX7_leaderAfter) ∈ eTB := tb_7 (List.mem_of_getElem? (i := 84) rfl) rfl
theorem wd_7_85 : (mWord mX7_leaderAfter) ∈ eTB := tb_7 (List.mem_of_getElem? (i := 85) rfl) rfl
theorem wd_7_86 : (.methodLink RL 222 yX7_leaderAfterByCounting) ∈ eTB := tb_7 (List.mem_of_getElem? (i := 86) rfl) rfl
theorem wd_7_87 : (.instanceMethod yX7_leaderAfterByCounting) ∈ eTB := tb_7 (List.mem_of_getElem? (i := 87) rfl) rfl
theorem wd_7_88 : (.selects RX7 yX7_leaderAfterByCounting yX7_leaderAfterByCounting) ∈ eTB := tb_7 (List.mem_of_getElem? (i := 88) rfl) rfl
theorem wd_7_89 : (mWord mX7_leaderAfterByCounting) ∈ eTB := tb_7 (List.mem_of_getElem? (i := 89) rfl) rfl
theorem wd_7_90 : (.methodLink RX7 168 yX7_leaderAfter) ∈ eTB := tb_7 (List.mem_of_getElem? (i := 90) rfl) rfl
theorem wd_7_91 : (.methodLink RL 228 yX7_targetX) ∈ eTB := tb_7 (List.mem_of_getElem? (i := 91) rfl) rfl
theorem wd_7_92 : (.instanceMethod yX7_targetX) ∈ eTB := tb_7 (List.mem_of_getElem? (i := 92) rfl) rfl
theorem wd_7_93 : (.selects RX7 yX7_targetX yX7_targetX) ∈ eTB := tb_7 (List.mem_of_getElem? (i := 93) rfl) rfl
theorem wd_7_94 : (mWord mX7_targetX) ∈ eTB := tb_7 (List.mem_of_getElem? (i := 94) rfl) rfl
theorem wd_7_95 : (.methodLink RL 231 yX7_targetY) ∈ eTB := tb_7 (List.mem_of_getElem? (i := 95) rfl) rfl
theorem wd_7_96 : (.instanceMethod yX7_targetY) ∈ eTB := tb_7 (List.mem_of_getElem? (i := 96) rfl) rfl
theorem wd_7_97 : (.selects RX7 yX7_targetY yX7_targetY) ∈ eTB := tb_7 (List.mem_of_getElem? (i := 97) rfl) rfl
theorem wd_7_98 : (mWord mX7_targetY) ∈ eTB := tb_7 (List.mem_of_getElem? (i := 98) rfl) rfl
theorem wd_7_99 : (.methodLink RL 234 yX7_stepsToTarget) ∈ eTB := tb_7 (List.mem_of_getElem? (i := 99) rfl) rfl
theorem wd_7_100 : (.instanceMethod yX7_stepsToTarget) ∈ eTB := tb_7 (List.mem_of_getElem? (i := 100) rfl) rfl
theorem wd_7_101 : (.selects RX7 yX7_stepsToTarget yX7_stepsToTarget) ∈ eTB := tb_7 (List.mem_of_getElem? (i := 101) rfl) rfl
theorem wd_7_102 : (mWord mX7_stepsToTarget) ∈ eTB := tb_7 (List.mem_of_getElem? (i := 102) rfl) rfl
theorem wd_7_103 : (.methodLink RX7 171 yX7_isThere) ∈ eTB := tb_7 (List.mem_of_getElem? (i := 103) rfl) rfl
theorem wd_7_105 : (.instanceMethod yX7_isThere) ∈ eTB := tb_7 (List.mem_of_getElem? (i := 105) rfl) rfl
theorem wd_7_106 : (mWord mX7_isThere) ∈ eTB := tb_7 (List.mem_of_getElem? (i := 106) rfl) rfl
theorem wd_7_107 : (.methodLink RL 241 yX7_keep) ∈ eTB := tb_7 (List.mem_of_getElem? (i := 107) rfl) rfl
theorem wd_7_108 : (.instanceMethod yX7_keep) ∈ eTB := tb_7 (List.mem_of_getElem? (i := 108) rfl) rfl
theorem wd_7_109 : (.selects RX7 yX7_keep yX7_keep) ∈ eTB := tb_7 (List.mem_of_getElem? (i := 109) rfl) rfl
theorem wd_7_110 : (mWord mX7_keep) ∈ eTB := tb_7 (List.mem_of_getElem? (i := 110) rfl) rfl
theorem wd_7_111 : (.methodLink RL 248 yX7_stepCount) ∈ eTB := tb_7 (List.mem_of_getElem? (i := 111) rfl) rfl
theorem wd_7_112 : (.instanceMethod yX7_stepCount) ∈ eTB := tb_7 (List.mem_of_getElem? (i := 112) rfl) rfl
theorem wd_7_113 : (.selects RX7 yX7_stepCount yX7_stepCount) ∈ eTB := tb_7 (List.mem_of_getElem? (i := 113) rfl) rfl
theorem wd_7_114 : (mWord mX7_stepCount) ∈ eTB := tb_7 (List.mem_of_getElem? (i := 114) rfl) rfl
theorem wd_7_115 : (.methodLink RL 251 yX7_movesOf) ∈ eTB := tb_7 (List.mem_of_getElem? (i := 115) rfl) rfl
theorem wd_7_116 : (.instanceMethod yX7_movesOf) ∈ eTB := tb_7 (List.mem_of_getElem? (i := 116) rfl) rfl
theorem wd_7_117 : (.selects RX7 yX7_movesOf yX7_movesOf) ∈ eTB := tb_7 (List.mem_of_getElem? (i := 117) rfl) rfl
theorem wd_7_118 : (mWord mX7_movesOf) ∈ eTB := tb_7 (List.mem_of_getElem? (i := 118) rfl) rfl
theorem wd_7_119 : (.methodLink RL 256 yX7_moveTotal) ∈ eTB := tb_7 (List.mem_of_getElem? (i := 119) rfl) rfl
theorem wd_7_120 : (.instanceMethod yX7_moveTotal) ∈ eTB := tb_7 (List.mem_of_getElem? (i := 120) rfl) rfl
theorem wd_7_121 : (.selects RX7 yX7_moveTotal yX7_moveTotal) ∈ eTB := tb_7 (List.mem_of_getElem? (i := 121) rfl) rfl
theorem wd_7_122 : (mWord mX7_moveTotal) ∈ eTB := tb_7 (List.mem_of_getElem? (i := 122) rfl) rfl
theorem wd_7_123 : (.methodLink RL 260 yX7_waitTotal) ∈ eTB := tb_7 (List.mem_of_getElem? (i := 123) rfl) rfl
theorem wd_7_124 : (.instanceMethod yX7_waitTotal) ∈ eTB := tb_7 (List.mem_of_getElem? (i := 124) rfl) rfl
theorem wd_7_125 : (.selects RX7 yX7_waitTotal yX7_waitTotal) ∈ eTB := tb_7 (List.mem_of_getElem? (i := 125) rfl) rfl
theorem wd_7_126 : (mWord mX7_waitTotal) ∈ eTB := tb_7 (List.mem_of_getElem? (i := 126) rfl) rfl
theorem wd_7_127 : (.methodLink RL 264 yX7_formationCount) ∈ eTB := tb_7 (List.mem_of_getElem? (i := 127) rfl) rfl
theorem wd_7_128 : (.instanceMethod yX7_formationCount) ∈ eTB := tb_7 (List.mem_of_getElem? (i := 128) rfl) rfl
theorem wd_7_129 : (.selects RX7 yX7_formationCount yX7_formationCount) ∈ eTB := tb_7 (List.mem_of_getElem? (i := 129) rfl) rfl
theorem wd_7_130 : (mWord mX7_formationCount) ∈ eTB := tb_7 (List.mem_of_getElem? (i := 130) rfl) rfl
theorem wd_7_131 : (.methodLink RX7 178 yX7_formation) ∈ eTB := tb_7 (List.mem_of_getElem? (i := 131) rfl) rfl
theorem wd_7_133 : (.instanceMethod yX7_formation) ∈ eTB := tb_7 (List.mem_of_getElem? (i := 133) rfl) rfl
theorem wd_7_134 : (mWord mX7_formation) ∈ eTB := tb_7 (List.mem_of_getElem? (i := 134) rfl) rfl
theorem wd_7_135 : (.methodLink RX7 175 yX7_areLinked) ∈ eTB := tb_7 (List.mem_of_getElem? (i := 135) rfl) rfl
theorem wd_7_137 : (.instanceMethod yX7_areLinked) ∈ eTB := tb_7 (List.mem_of_getElem? (i := 137) rfl) rfl
theorem wd_7_138 : (mWord mX7_areLinked) ∈ eTB := tb_7 (List.mem_of_getElem? (i := 138) rfl) rfl
theorem wd_7_139 : (.methodLink RX7 181 yX7_lowest) ∈ eTB := tb_7 (List.mem_of_getElem? (i := 139) rfl) rfl
theorem wd_7_140 : (.static yX7_lowest) ∈ eTB := tb_7 (List.mem_of_getElem? (i := 140) rfl) rfl
theorem wd_7_141 : (mWord mX7_lowest) ∈ eTB := tb_7 (List.mem_of_getElem? (i := 141) rfl) rfl
theorem wd_7_142 : (.methodLink RL 268 yX7_formationCountByMerging) ∈ eTB := tb_7 (List.mem_of_getElem? (i := 142) rfl) rfl
theorem wd_7_143 : (.instanceMethod yX7_formationCountByMerging) ∈ eTB := tb_7 (List.mem_of_getElem? (i := 143) rfl) rfl
theorem wd_7_144 : (.selects RX7 yX7_formationCountByMerging yX7_formationCountByMerging) ∈ eTB := tb_7 (List.mem_of_getElem? (i := 144) rfl) rfl
theorem wd_7_145 : (mWord mX7_formationCountByMerging) ∈ eTB := tb_7 (List.mem_of_getElem? (i := 145) rfl) rfl
theorem wd_7_146 : (.methodLink RX7 184 yX7_formationCount) ∈ eTB := tb_7 (List.mem_of_getElem? (i := 146) rfl) rfl
theorem wd_7_147 : (.methodLink RL 272 yX7_largestFormation) ∈ eTB := tb_7 (List.mem_of_getElem? (i := 147) rfl) rfl
theorem wd_7_148 : (.instanceMethod yX7_largestFormation) ∈ eTB := tb_7 (List.mem_of_getElem? (i := 148) rfl) rfl
theorem wd_7_149 : (.selects RX7 yX7_largestFormation yX7_largestFormation) ∈ eTB := tb_7 (List.mem_of_getElem? (i := 149) rfl) rfl
theorem wd_7_150 : (mWord mX7_largestFormation) ∈ eTB := tb_7 (List.mem_of_getElem? (i := 150) rfl) rfl
theorem wd_7_151 : (.methodLink RL 275 yX7_formationOf) ∈ eTB := tb_7 (List.mem_of_getElem? (i := 151) rfl) rfl
theorem wd_7_152 : (.instanceMethod yX7_formationOf) ∈ eTB := tb_7 (List.mem_of_getElem? (i := 152) rfl) rfl
theorem wd_7_153 : (.selects RX7 yX7_formationOf yX7_formationOf) ∈ eTB := tb_7 (List.mem_of_getElem? (i := 153) rfl) rfl
theorem wd_7_154 : (mWord mX7_formationOf) ∈ eTB := tb_7 (List.mem_of_getElem? (i := 154) rfl) rfl
theorem wd_7_155 : (.methodLink RL 279 yX7_mixedPairs) ∈ eTB := tb_7 (List.mem_of_getElem? (i := 155) rfl) rfl
theorem wd_7_156 : (.instanceMethod yX7_mixedPairs) ∈ eTB := tb_7 (List.mem_of_getElem? (i := 156) rfl) rfl
theorem wd_7_157 : (.selects RX7 yX7_mixedPairs yX7_mixedPairs) ∈ eTB := tb_7 (List.mem_of_getElem? (i := 157) rfl) rfl
theorem wd_7_158 : (mWord mX7_mixedPairs) ∈ eTB := tb_7 (List.mem_of_getElem? (i := 158) rfl) rfl
theorem wd_7_159 : (.methodLink RX7 187 yX7_pairs) ∈ eTB := tb_7 (List.mem_of_getElem? (i := 159) rfl) rfl
theorem wd_7_161 : (.instanceMethod yX7_pairs) ∈ eTB := tb_7 (List.mem_of_getElem? (i := 161) rfl) rfl
theorem wd_7_162 : (mWord mX7_pairs) ∈ eTB := tb_7 (List.mem_of_getElem? (i := 162) rfl) rfl
theorem wd_7_163 : (.methodLink RL 283 yX7_mixedPairsByHandles) ∈ eTB := tb_7 (List.mem_of_getElem? (i := 163) rfl) rfl
theorem wd_7_164 : (.instanceMethod yX7_mixedPairsByHandles) ∈ eTB := tb_7 (List.mem_of_getElem? (i := 164) rfl) rfl
theorem wd_7_165 : (.selects RX7 yX7_mixedPairsByHandles yX7_mixedPairsByHandles) ∈ eTB := tb_7 (List.mem_of_getElem? (i := 165) rfl) rfl
theorem wd_7_166 : (mWord mX7_mixedPairsByHandles) ∈ eTB := tb_7 (List.mem_of_getElem? (i := 166) rfl) rfl
theorem wd_7_167 : (.methodLink RX7 190 yX7_mixedPairs) ∈ eTB := tb_7 (List.mem_of_getElem? (i := 167) rfl) rfl
theorem wd_7_168 : (.methodLink RL 287 yX7_shapeCount) ∈ eTB := tb_7 (List.mem_of_getElem? (i := 168) rfl) rfl
theorem wd_7_169 : (.instanceMethod yX7_shapeCount) ∈ eTB := tb_7 (List.mem_of_getElem? (i := 169) rfl) rfl
theorem wd_7_170 : (.selects RX7 yX7_shapeCount yX7_shapeCount) ∈ eTB := tb_7 (List.mem_of_getElem? (i := 170) rfl) rfl
theorem wd_7_171 : (mWord mX7_shapeCount) ∈ eTB := tb_7 (List.mem_of_getElem? (i := 171) rfl) rfl
theorem wd_7_172 : (.methodLink RL 291 yX7_differentShapes) ∈ eTB := tb_7 (List.mem_of_getElem? (i := 172) rfl) rfl
theorem wd_7_173 : (.instanceMethod yX7_differentShapes) ∈ eTB := tb_7 (List.mem_of_getElem? (i := 173) rfl) rfl
theorem wd_7_174 : (.selects RX7 yX7_differentShapes yX7_differentShapes) ∈ eTB := tb_7 (List.mem_of_getElem? (i := 174) rfl) rfl
theorem wd_7_175 : (mWord mX7_differentShapes) ∈ eTB := tb_7 (List.mem_of_getElem? (i := 175) rfl) rfl
theorem wd_7_176 : (.methodLink RX7 193 yX7_areAlike) ∈ eTB := tb_7 (List.mem_of_getElem? (i := 176) rfl) rfl
theorem wd_7_178 : (.instanceMethod yX7_areAlike) ∈ eTB := tb_7 (List.mem_of_getElem? (i := 178) rfl) rfl
theorem wd_7_179 : (mWord mX7_areAlike) ∈ eTB := tb_7 (List.mem_of_getElem? (i := 179) rfl) rfl
theorem wd_7_180 : (.methodLink RL 294 yX7_stepsSinceShape) ∈ eTB := tb_7 (List.mem_of_getElem? (i := 180) rfl) rfl
theorem wd_7_181 : (.instanceMethod yX7_stepsSinceShape) ∈ eTB := tb_7 (List.mem_of_getElem? (i := 181) rfl) rfl
theorem wd_7_182 : (.selects RX7 yX7_stepsSinceShape yX7_stepsSinceShape) ∈ eTB := tb_7 (List.mem_of_getElem? (i := 182) rfl) rfl
theorem wd_7_183 : (mWord mX7_stepsSinceShape) ∈ eTB := tb_7 (List.mem_of_getElem? (i := 183) rfl) rfl
theorem wd_7_184 : (.methodLink RX7 196 yX7_isShape) ∈ eTB := tb_7 (List.mem_of_getElem? (i := 184) rfl) rfl
theorem wd_7_186 : (.instanceMethod yX7_isShape) ∈ eTB := tb_7 (List.mem_of_getElem? (i := 186) rfl) rfl
theorem wd_7_187 : (mWord mX7_isShape) ∈ eTB := tb_7 (List.mem_of_getElem? (i := 187) rfl) rfl
theorem wd_7_188 : (.methodLink RL 297 yX7_basketAtRank) ∈ eTB := tb_7 (List.mem_of_getElem? (i := 188) rfl) rfl
theorem wd_7_189 : (.instanceMethod yX7_basketAtRank) ∈ eTB := tb_7 (List.mem_of_getElem? (i := 189) rfl) rfl
theorem wd_7_190 : (.selects RX7 yX7_basketAtRank yX7_basketAtRank) ∈ eTB := tb_7 (List.mem_of_getElem? (i := 190) rfl) rfl
theorem wd_7_191 : (mWord mX7_basketAtRank) ∈ eTB := tb_7 (List.mem_of_getElem? (i := 191) rfl) rfl
theorem wd_7_192 : (.methodLink RL 301 yX7_append) ∈ eTB := tb_7 (List.mem_of_getElem? (i := 192) rfl) rfl
theorem wd_7_193 : (.instanceMethod yX7_append) ∈ eTB := tb_7 (List.mem_of_getElem? (i := 193) rfl) rfl
theorem wd_7_194 : (.selects RX7 yX7_append yX7_append) ∈ eTB := tb_7 (List.mem_of_getElem? (i := 194) rfl) rfl
theorem wd_7_195 : (mWord mX7_append) ∈ eTB := tb_7 (List.mem_of_getElem? (i := 195) rfl) rfl
theorem wd_7_196 : (.methodLink RL 304 yX7_run) ∈ eTB := tb_7 (List.mem_of_getElem? (i := 196) rfl) rfl
theorem wd_7_197 : (.instanceMethod yX7_run) ∈ eTB := tb_7 (List.mem_of_getElem? (i := 197) rfl) rfl
theorem wd_7_198 : (.selects RX7 yX7_run yX7_run) ∈ eTB := tb_7 (List.mem_of_getElem? (i := 198) rfl) rfl
theorem wd_7_199 : (mWord mX7_run) ∈ eTB := tb_7 (List.mem_of_getElem? (i := 199) rfl) rfl
theorem wd_7_200 : (.methodLink RX7 236 yX7_parse) ∈ eTB := tb_7 (List.mem_of_getElem? (i := 200) rfl) rfl
theorem wd_7_202 : (.instanceMethod yX7_parse) ∈ eTB := tb_7 (List.mem_of_getElem? (i := 202) rfl) rfl
theorem wd_7_203 : (mWord mX7_parse) ∈ eTB := tb_7 (List.mem_of_getElem? (i := 203) rfl) rfl
theorem wd_7_204 : (.methodLink RX7 233 yX7_command) ∈ eTB := tb_7 (List.mem_of_getElem? (i := 204) rfl) rfl
theorem wd_7_206 : (.instanceMethod yX7_command) ∈ eTB := tb_7 (List.mem_of_getElem? (i := 206) rfl) rfl
theorem wd_7_207 : (mWord mX7_command) ∈ eTB := tb_7 (List.mem_of_getElem? (i := 207) rfl) rfl
theorem wd_7_208 : (.methodLink RX7 208 yX7_sign) ∈ eTB := tb_7 (List.mem_of_getElem? (i := 208) rfl) rfl
theorem wd_7_210 : (.instanceMethod yX7_sign) ∈ eTB := tb_7 (List.mem_of_getElem? (i := 210) rfl) rfl
theorem wd_7_211 : (mWord mX7_sign) ∈ eTB := tb_7 (List.mem_of_getElem? (i := 211) rfl) rfl
theorem wd_7_212 : (.methodLink RX7 227 yX7_word) ∈ eTB := tb_7 (List.mem_of_getElem? (i := 212) rfl) rfl
theorem wd_7_214 : (.instanceMethod yX7_word) ∈ eTB := tb_7 (List.mem_of_getElem? (i := 214) rfl) rfl
theorem wd_7_215 : (mWord mX7_word) ∈ eTB := tb_7 (List.mem_of_getElem? (i := 215) rfl) rfl
theorem wd_7_216 : (.methodLink RX7 211 yX7_needs) ∈ eTB := tb_7 (List.mem_of_getElem? (i := 216) rfl) rfl
theorem wd_7_218 : (.instanceMethod yX7_needs) ∈ eTB := tb_7 (List.mem_of_getElem? (i := 218) rfl) rfl
theorem wd_7_219 : (mWord mX7_needs) ∈ eTB := tb_7 (List.mem_of_getElem? (i := 219) rfl) rfl
theorem wd_7_220 : (.methodLink RX7 218 yX7_letters) ∈ eTB := tb_7 (List.mem_of_getElem? (i := 220) rfl) rfl
theorem wd_7_222 : (.instanceMethod yX7_letters) ∈ eTB := tb_7 (List.mem_of_getElem? (i := 222) rfl) rfl
theorem wd_7_223 : (mWord mX7_letters) ∈ eTB := tb_7 (List.mem_of_getElem? (i := 223) rfl) rfl
theorem wd_7_224 : (.methodLink RX7 230 yX7_cell) ∈ eTB := tb_7 (List.mem_of_getElem? (i := 224) rfl) rfl
theorem wd_7_226 : (.instanceMethod yX7_cell) ∈ eTB := tb_7 (List.mem_of_getElem? (i := 226) rfl) rfl
theorem wd_7_227 : (mWord mX7_cell) ∈ eTB := tb_7 (List.mem_of_getElem? (i := 227) rfl) rfl
theorem wd_7_228 : (.methodLink RX7 221 yX7_behind) ∈ eTB := tb_7 (List.mem_of_getElem? (i := 228) rfl) rfl
theorem wd_7_230 : (.instanceMethod yX7_behind) ∈ eTB := tb_7 (List.mem_of_getElem? (i := 230) rfl) rfl
theorem wd_7_231 : (mWord mX7_behind) ∈ eTB := tb_7 (List.mem_of_getElem? (i := 231) rfl) rfl
theorem wd_7_232 : (.methodLink RX7 215 yX7_number) ∈ eTB := tb_7 (List.mem_of_getElem? (i := 232) rfl) rfl
theorem wd_7_234 : (.instanceMethod yX7_number) ∈ eTB := tb_7 (List.mem_of_getElem? (i := 234) rfl) rfl
theorem wd_7_235 : (mWord mX7_number) ∈ eTB := tb_7 (List.mem_of_getElem? (i := 235) rfl) rfl
theorem wd_7_236 : (.methodLink RX7 239 yX7_does) ∈ eTB := tb_7 (List.mem_of_getElem? (i := 236) rfl) rfl
theorem wd_7_238 : (.instanceMethod yX7_does) ∈ eTB := tb_7 (List.mem_of_getElem? (i := 238) rfl) rfl
theorem wd_7_239 : (mWord mX7_does) ∈ eTB := tb_7 (List.mem_of_getElem? (i := 239) rfl) rfl
theorem wd_8_0 : (.methodLink RL 307 yX7_errorPosition) ∈ eTB := tb_8 (List.mem_of_getElem? (i := 0) rfl) rfl
theorem wd_8_1 : (.instanceMethod yX7_errorPosition) ∈ eTB := tb_8 (List.mem_of_getElem? (i := 1) rfl) rfl
theorem wd_8_2 : (.selects RX7 yX7_errorPosition yX7_errorPosition) ∈ eTB := tb_8 (List.mem_of_getElem? (i := 2) rfl) rfl
theorem wd_8_3 : (mWord mX7_errorPosition) ∈ eTB := tb_8 (List.mem_of_getElem? (i := 3) rfl) rfl
theorem wd_8_4 : (.methodLink RL 310 yX7_failedCommand) ∈ eTB := tb_8 (List.mem_of_getElem? (i := 4) rfl) rfl
theorem wd_8_5 : (.instanceMethod yX7_failedCommand) ∈ eTB := tb_8 (List.mem_of_getElem? (i := 5) rfl) rfl
theorem wd_8_6 : (.selects RX7 yX7_failedCommand yX7_failedCommand) ∈ eTB := tb_8 (List.mem_of_getElem? (i := 6) rfl) rfl
theorem wd_8_7 : (mWord mX7_failedCommand) ∈ eTB := tb_8 (List.mem_of_getElem? (i := 7) rfl) rfl
theorem wd_8_8 : (.methodLink RL 313 yX7_describeRow) ∈ eTB := tb_8 (List.mem_of_getElem? (i := 8) rfl) rfl
theorem wd_8_9 : (.instanceMethod yX7_describeRow) ∈ eTB := tb_8 (List.mem_of_getElem? (i := 9) rfl) rfl
theorem wd_8_10 : (.selects RX7 yX7_describeRow yX7_describeRow) ∈ eTB := tb_8 (List.mem_of_getElem? (i := 10) rfl) rfl
theorem wd_8_11 : (mWord mX7_describeRow) ∈ eTB := tb_8 (List.mem_of_getElem? (i := 11) rfl) rfl
theorem wd_8_12 : (.methodLink RL 316 yX7_lineAt) ∈ eTB := tb_8 (List.mem_of_getElem? (i := 12) rfl) rfl
theorem wd_8_13 : (.instanceMethod yX7_lineAt) ∈ eTB := tb_8 (List.mem_of_getElem? (i := 13) rfl) rfl
theorem wd_8_14 : (.selects RX7 yX7_lineAt yX7_lineAt) ∈ eTB := tb_8 (List.mem_of_getElem? (i := 14) rfl) rfl
theorem wd_8_15 : (mWord mX7_lineAt) ∈ eTB := tb_8 (List.mem_of_getElem? (i := 15) rfl) rfl
theorem wd_8_16 : (.methodLink RL 320 yX7_meanDistance) ∈ eTB := tb_8 (List.mem_of_getElem? (i := 16) rfl) rfl
theorem wd_8_17 : (.instanceMethod yX7_meanDistance) ∈ eTB := tb_8 (List.mem_of_getElem? (i := 17) rfl) rfl
theorem wd_8_18 : (.selects RX7 yX7_meanDistance yX7_meanDistance) ∈ eTB := tb_8 (List.mem_of_getElem? (i := 18) rfl) rfl
theorem wd_8_19 : (mWord mX7_meanDistance) ∈ eTB := tb_8 (List.mem_of_getElem? (i := 19) rfl) rfl
theorem wd_8_20 : (.methodLink RL 323 yX7_mixedShare) ∈ eTB := tb_8 (List.mem_of_getElem? (i := 20) rfl) rfl
theorem wd_8_21 : (.instanceMethod yX7_mixedShare) ∈ eTB := tb_8 (List.mem_of_getElem? (i := 21) rfl) rfl
theorem wd_8_22 : (.selects RX7 yX7_mixedShare yX7_mixedShare) ∈ eTB := tb_8 (List.mem_of_getElem? (i := 22) rfl) rfl
theorem wd_8_23 : (mWord mX7_mixedShare) ∈ eTB := tb_8 (List.mem_of_getElem? (i := 23) rfl) rfl
theorem wd_8_24 : (.methodLink RL 328 yX7_isConsistent) ∈ eTB := tb_8 (List.mem_of_getElem? (i := 24) rfl) rfl
theorem wd_8_25 : (.instanceMethod yX7_isConsistent) ∈ eTB := tb_8 (List.mem_of_getElem? (i := 25) rfl) rfl
theorem wd_8_26 : (.selects RX7 yX7_isConsistent yX7_isConsistent) ∈ eTB := tb_8 (List.mem_of_getElem? (i := 26) rfl) rfl
theorem wd_8_27 : (mWord mX7_isConsistent) ∈ eTB := tb_8 (List.mem_of_getElem? (i := 27) rfl) rfl
theorem wd_8_28 : (.methodLink RL 331 yX7_undo) ∈ eTB := tb_8 (List.mem_of_getElem? (i := 28) rfl) rfl
theorem wd_8_29 : (.instanceMethod yX7_undo) ∈ eTB := tb_8 (List.mem_of_getElem? (i := 29) rfl) rfl
theorem wd_8_30 : (.selects RX7 yX7_undo yX7_undo) ∈ eTB := tb_8 (List.mem_of_getElem? (i := 30) rfl) rfl
theorem wd_8_31 : (mWord mX7_undo) ∈ eTB := tb_8 (List.mem_of_getElem? (i := 31) rfl) rfl
theorem wd_8_32 : (.methodLink RL 335 yX7_save) ∈ eTB := tb_8 (List.mem_of_getElem? (i := 32) rfl) rfl
theorem wd_8_33 : (.instanceMethod yX7_save) ∈ eTB := tb_8 (List.mem_of_getElem? (i := 33) rfl) rfl
theorem wd_8_34 : (.selects RX7 yX7_save yX7_save) ∈ eTB := tb_8 (List.mem_of_getElem? (i := 34) rfl) rfl
theorem wd_8_35 : (mWord mX7_save) ∈ eTB := tb_8 (List.mem_of_getElem? (i := 35) rfl) rfl
theorem wd_8_36 : (.methodLink RL 338 yX7_restore) ∈ eTB := tb_8 (List.mem_of_getElem? (i := 36) rfl) rfl
theorem wd_8_37 : (.instanceMethod yX7_restore) ∈ eTB := tb_8 (List.mem_of_getElem? (i := 37) rfl) rfl
theorem wd_8_38 : (.selects RX7 yX7_restore yX7_restore) ∈ eTB := tb_8 (List.mem_of_getElem? (i := 38) rfl) rfl
theorem wd_8_39 : (mWord mX7_restore) ∈ eTB := tb_8 (List.mem_of_getElem? (i := 39) rfl) rfl
theorem wd_8_40 : (.arrayClass .double) ∈ eTB := tb_8 (List.mem_of_getElem? (i := 40) rfl) rfl
theorem wd_8_60 : (.fieldLink RJ0 9 RJ0 "value" "[B") ∈ eTB := tb_8 (List.mem_of_getElem? (i := 60) rfl) rfl
theorem wd_8_61 : (.fieldLink RJ0 15 RJ0 "coder" "B") ∈ eTB := tb_8 (List.mem_of_getElem? (i := 61) rfl) rfl
theorem ws_X6_leadersAgree : (.selects yX6_leadersAgree.cls yX6_leadersAgree yX6_leadersAgree) ∈ eTB := eTB_in (List.mem_append_left _ (List.mem_map.mpr ⟨(yX6_leadersAgree, 13), List.mem_append_left _ (List.mem_of_getElem? (i := 0) rfl), rfl⟩)) rfl
theorem ws_X6_prepare : (.selects yX6_prepare.cls yX6_prepare yX6_prepare) ∈ eTB := eTB_in (List.mem_append_left _ (List.mem_map.mpr ⟨(yX6_prepare, 13), List.mem_append_left _ (List.mem_of_getElem? (i := 1) rfl), rfl⟩)) rfl
theorem ws_X6_hindranceIn : (.selects yX6_hindranceIn.cls yX6_hindranceIn yX6_hindranceIn) ∈ eTB := eTB_in (List.mem_append_left _ (List.mem_map.mpr ⟨(yX6_hindranceIn, 13), List.mem_append_left _ (List.mem_of_getElem? (i := 2) rfl), rfl⟩)) rfl
theorem ws_X6_keepRefusal : (.selects yX6_keepRefusal.cls yX6_keepRefusal yX6_keepRefusal) ∈ eTB := eTB_in (List.mem_append_left _ (List.mem_map.mpr ⟨(yX6_keepRefusal, 13), List.mem_append_left _ (List.mem_of_getElem? (i := 3) rfl), rfl⟩)) rfl
theorem ws_X6_demandBasket : (.selects yX6_demandBasket.cls yX6_demandBasket yX6_demandBasket) ∈ eTB := eTB_in (List.mem_append_left _ (List.mem_map.mpr ⟨(yX6_demandBasket, 13), List.mem_append_left _ (List.mem_of_getElem? (i := 5) rfl), rfl⟩)) rfl
theorem ws_X6_demandCell : (.selects yX6_demandCell.cls yX6_demandCell yX6_demandCell) ∈ eTB := eTB_in (List.mem_append_left _ (List.mem_map.mpr ⟨(yX6_demandCell, 13), List.mem_append_left _ (List.mem_of_getElem? (i := 6) rfl), rfl⟩)) rfl
theorem ws_X6_demandRefusal : (.selects yX6_demandRefusal.cls yX6_demandRefusal yX6_demandRefusal) ∈ eTB := eTB_in (List.mem_append_left _ (List.mem_map.mpr ⟨(yX6_demandRefusal, 13), List.mem_append_left _ (List.mem_of_getElem? (i := 7) rfl), rfl⟩)) rfl
theorem ws_X6_demandAnyBasket : (.selects yX6_demandAnyBasket.cls yX6_demandAnyBasket yX6_demandAnyBasket) ∈ eTB := eTB_in (List.mem_append_left _ (List.mem_map.mpr ⟨(yX6_demandAnyBasket, 13), List.mem_append_left _ (List.mem_of_getElem? (i := 8) rfl), rfl⟩)) rfl
theorem ws_X6_demandStepsAhead : (.selects yX6_demandStepsAhead.cls yX6_demandStepsAhead yX6_demandStepsAhead) ∈ eTB := eTB_in (List.mem_append_left _ (List.mem_map.mpr ⟨(yX6_demandStepsAhead, 13), List.mem_append_left _ (List.mem_of_getElem? (i := 9) rfl), rfl⟩)) rfl
theorem ws_X6_demandTarget : (.selects yX6_demandTarget.cls yX6_demandTarget yX6_demandTarget) ∈ eTB := eTB_in (List.mem_append_left _ (List.mem_map.mpr ⟨(yX6_demandTarget, 13), List.mem_append_left _ (List.mem_of_getElem? (i := 10) rfl), rfl⟩)) rfl
theorem ws_X7_isFine : (.selects yX7_isFine.cls yX7_isFine yX7_isFine) ∈ eTB := eTB_in (List.mem_append_left _ (List.mem_map.mpr ⟨(yX7_isFine, 18), List.mem_append_left _ (List.mem_of_getElem? (i := 11) rfl), rfl⟩)) rfl
theorem ws_X7_begins : (.selects yX7_begins.cls yX7_begins yX7_begins) ∈ eTB := eTB_in (List.mem_append_left _ (List.mem_map.mpr ⟨(yX7_begins, 18), List.mem_append_left _ (List.mem_of_getElem? (i := 12) rfl), rfl⟩)) rfl
theorem ws_X7_copies : (.selects yX7_copies.cls yX7_copies yX7_copies) ∈ eTB := eTB_in (List.mem_append_left _ (List.mem_map.mpr ⟨(yX7_copies, 18), List.mem_append_left _ (List.mem_of_getElem? (i := 13) rfl), rfl⟩)) rfl
theorem ws_X7_adds : (.selects yX7_adds.cls yX7_adds yX7_adds) ∈ eTB := eTB_in (List.mem_append_left _ (List.mem_map.mpr ⟨(yX7_adds, 18), List.mem_append_left _ (List.mem_of_getElem? (i := 14) rfl), rfl⟩)) rfl
theorem ws_X7_refuses : (.selects yX7_refuses.cls yX7_refuses yX7_refuses) ∈ eTB := eTB_in (List.mem_append_left _ (List.mem_map.mpr ⟨(yX7_refuses, 18), List.mem_append_left _ (List.mem_of_getElem? (i := 15) rfl), rfl⟩)) rfl
theorem ws_X7_cloud : (.selects yX7_cloud.cls yX7_cloud yX7_cloud) ∈ eTB := eTB_in (List.mem_append_left _ (List.mem_map.mpr ⟨(yX7_cloud, 18), List.mem_append_right _ (List.mem_append_left _ (List.mem_of_getElem? (i := 0) rfl)), rfl⟩)) rfl
theorem ws_X7_touched : (.selects yX7_touched.cls yX7_touched yX7_touched) ∈ eTB := eTB_in (List.mem_append_left _ (List.mem_map.mpr ⟨(yX7_touched, 18), List.mem_append_right _ (List.mem_append_left _ (List.mem_of_getElem? (i := 1) rfl)), rfl⟩)) rfl
theorem ws_X7_far : (.selects yX7_far.cls yX7_far yX7_far) ∈ eTB := eTB_in (List.mem_append_left _ (List.mem_map.mpr ⟨(yX7_far, 18), List.mem_append_right _ (List.mem_append_left _ (List.mem_of_getElem? (i := 2) rfl)), rfl⟩)) rfl
theorem ws_X7_b : (.selects yX7_b.cls yX7_b yX7_b) ∈ eTB := eTB_in (List.mem_append_left _ (List.mem_map.mpr ⟨(yX7_b, 18), List.mem_append_right _ (List.mem_append_left _ (List.mem_of_getElem? (i := 3) rfl)), rfl⟩)) rfl
theorem ws_X7_set : (.selects yX7_set.cls yX7_set yX7_set) ∈ eTB := eTB_in (List.mem_append_left _ (List.mem_map.mpr ⟨(yX7_set, 18), List.mem_append_right _ (List.mem_append_left _ (List.mem_of_getElem? (i := 4) rfl)), rfl⟩)) rfl
theorem ws_X7_ends : (.selects yX7_ends.cls yX7_ends yX7_ends) ∈ eTB := eTB_in (List.mem_append_left _ (List.mem_map.mpr ⟨(yX7_ends, 18), List.mem_append_right _ (List.mem_append_left _ (List.mem_of_getElem? (i := 5) rfl)), rfl⟩)) rfl
theorem ws_X7_jumps : (.selects yX7_jumps.cls yX7_jumps yX7_jumps) ∈ eTB := eTB_in (List.mem_append_left _ (List.mem_map.mpr ⟨(yX7_jumps, 18), List.mem_append_right _ (List.mem_append_left _ (List.mem_of_getElem? (i := 6) rfl)), rfl⟩)) rfl
theorem ws_X7_isBasket : (.selects yX7_isBasket.cls yX7_isBasket yX7_isBasket) ∈ eTB := eTB_in (List.mem_append_left _ (List.mem_map.mpr ⟨(yX7_isBasket, 18), List.mem_append_right _ (List.mem_append_left _ (List.mem_of_getElem? (i := 7) rfl)), rfl⟩)) rfl
theorem ws_X7_handles : (.selects yX7_handles.cls yX7_handles yX7_handles) ∈ eTB := eTB_in (List.mem_append_left _ (List.mem_map.mpr ⟨(yX7_handles, 18), List.mem_append_right _ (List.mem_append_left _ (List.mem_of_getElem? (i := 8) rfl)), rfl⟩)) rfl
theorem ws_X7_clouds : (.selects yX7_clouds.cls yX7_clouds yX7_clouds) ∈ eTB := eTB_in (List.mem_append_left _ (List.mem_map.mpr ⟨(yX7_clouds, 18), List.mem_append_right _ (List.mem_append_left _ (List.mem_of_getElem? (i := 9) rfl)), rfl⟩)) rfl
theorem ws_X7_at : (.selects yX7_at.cls yX7_at yX7_at) ∈ eTB := eTB_in (List.mem_append_left _ (List.mem_map.mpr ⟨(yX7_at, 18), List.mem_append_right _ (List.mem_append_left _ (List.mem_of_getElem? (i := 10) rfl)), rfl⟩)) rfl
theorem ws_X7_clears : (.selects yX7_clears.cls yX7_clears yX7_clears) ∈ eTB := eTB_in (List.mem_append_left _ (List.mem_map.mpr ⟨(yX7_clears, 18), List.mem_append_right _ (List.mem_append_left _ (List.mem_of_getElem? (i := 11) rfl)), rfl⟩)) rfl
theorem ws_X7_turns : (.selects yX7_turns.cls yX7_turns yX7_turns) ∈ eTB := eTB_in (List.mem_append_left _ (List.mem_map.mpr ⟨(yX7_turns, 18), List.mem_append_right _ (List.mem_append_left _ (List.mem_of_getElem? (i := 12) rfl)), rfl⟩)) rfl
theorem ws_X7_aims : (.selects yX7_aims.cls yX7_aims yX7_aims) ∈ eTB := eTB_in (List.mem_append_left _ (List.mem_map.mpr ⟨(yX7_aims, 18), List.mem_append_right _ (List.mem_append_left _ (List.mem_of_getElem? (i := 13) rfl)), rfl⟩)) rfl
theorem ws_X7_keeps : (.selects yX7_keeps.cls yX7_keeps yX7_keeps) ∈ eTB := eTB_in (List.mem_append_left _ (List.mem_map.mpr ⟨(yX7_keeps, 18), List.mem_append_right _ (List.mem_append_left _ (List.mem_of_getElem? (i := 14) rfl)), rfl⟩)) rfl
theorem ws_X7_passes : (.selects yX7_passes.cls yX7_passes yX7_passes) ∈ eTB := eTB_in (List.mem_append_left _ (List.mem_map.mpr ⟨(yX7_passes, 18), List.mem_append_right _ (List.mem_append_left _ (List.mem_of_getElem? (i := 15) rfl)), rfl⟩)) rfl
theorem ws_X7_steps : (.selects yX7_steps.cls yX7_steps yX7_steps) ∈ eTB := eTB_in (List.mem_append_left _ (List.mem_map.mpr ⟨(yX7_steps, 18), List.mem_append_right _ (List.mem_append_right _ (List.mem_append_left _ (List.mem_of_getElem? (i := 0) rfl))), rfl⟩)) rfl
theorem ws_X7_leads : (.selects yX7_leads.cls yX7_leads yX7_leads) ∈ eTB := eTB_in (List.mem_append_left _ (List.mem_map.mpr ⟨(yX7_leads, 18), List.mem_append_right _ (List.mem_append_right _ (List.mem_append_left _ (List.mem_of_getElem? (i := 1) rfl))), rfl⟩)) rfl
theorem ws_X7_goes : (.selects yX7_goes.cls yX7_goes yX7_goes) ∈ eTB := eTB_in (List.mem_append_left _ (List.mem_map.mpr ⟨(yX7_goes, 18), List.mem_append_right _ (List.mem_append_right _ (List.mem_append_left _ (List.mem_of_getElem? (i := 2) rfl))), rfl⟩)) rfl
theorem ws_X7_isPossible : (.selects yX7_isPossible.cls yX7_isPossible yX7_isPossible) ∈ eTB := eTB_in (List.mem_append_left _ (List.mem_map.mpr ⟨(yX7_isPossible, 18), List.mem_append_right _ (List.mem_append_right _ (List.mem_append_left _ (List.mem_of_getElem? (i := 3) rfl))), rfl⟩)) rfl
theorem ws_X7_counted : (.selects yX7_counted.cls yX7_counted yX7_counted) ∈ eTB := eTB_in (List.mem_append_left _ (List.mem_map.mpr ⟨(yX7_counted, 18), List.mem_append_right _ (List.mem_append_right _ (List.mem_append_left _ (List.mem_of_getElem? (i := 4) rfl))), rfl⟩)) rfl
theorem ws_X7_follows : (.selects yX7_follows.cls yX7_follows yX7_follows) ∈ eTB := eTB_in (List.mem_append_left _ (List.mem_map.mpr ⟨(yX7_follows, 18), List.mem_append_right _ (List.mem_append_right _ (List.mem_append_left _ (List.mem_of_getElem? (i := 5) rfl))), rfl⟩)) rfl
theorem ws_X7_apart : (.selects yX7_apart.cls yX7_apart yX7_apart) ∈ eTB := eTB_in (List.mem_append_left _ (List.mem_map.mpr ⟨(yX7_apart, 18), List.mem_append_right _ (List.mem_append_right _ (List.mem_append_left _ (List.mem_of_getElem? (i := 6) rfl))), rfl⟩)) rfl
theorem ws_X7_remembers : (.selects yX7_remembers.cls yX7_remembers yX7_remembers) ∈ eTB := eTB_in (List.mem_append_left _ (List.mem_map.mpr ⟨(yX7_remembers, 18), List.mem_append_right _ (List.mem_append_right _ (List.mem_append_left _ (List.mem_of_getElem? (i := 7) rfl))), rfl⟩)) rfl
theorem ws_X7_shapes : (.selects yX7_shapes.cls yX7_shapes yX7_shapes) ∈ eTB := eTB_in (List.mem_append_left _ (List.mem_map.mpr ⟨(yX7_shapes, 18), List.mem_append_right _ (List.mem_append_right _ (List.mem_append_left _ (List.mem_of_getElem? (i := 8) rfl))), rfl⟩)) rfl
theorem ws_X7_told : (.selects yX7_told.cls yX7_told yX7_told) ∈ eTB := eTB_in (List.mem_append_left _ (List.mem_map.mpr ⟨(yX7_told, 18), List.mem_append_right _ (List.mem_append_right _ (List.mem_append_left _ (List.mem_of_getElem? (i := 9) rfl))), rfl⟩)) rfl
theorem ws_X7_ofBasket : (.selects yX7_ofBasket.cls yX7_ofBasket yX7_ofBasket) ∈ eTB := eTB_in (List.mem_append_left _ (List.mem_map.mpr ⟨(yX7_ofBasket, 18), List.mem_append_right _ (List.mem_append_right _ (List.mem_append_left _ (List.mem_of_getElem? (i := 10) rfl))), rfl⟩)) rfl
theorem ws_X7_isThere : (.selects yX7_isThere.cls yX7_isThere yX7_isThere) ∈ eTB := eTB_in (List.mem_append_left _ (List.mem_map.mpr ⟨(yX7_isThere, 18), List.mem_append_right _ (List.mem_append_right _ (List.mem_append_left _ (List.mem_of_getElem? (i := 11) rfl))), rfl⟩)) rfl
theorem ws_X7_formation : (.selects yX7_formation.cls yX7_formation yX7_formation) ∈ eTB := eTB_in (List.mem_append_left _ (List.mem_map.mpr ⟨(yX7_formation, 18), List.mem_append_right _ (List.mem_append_right _ (List.mem_append_left _ (List.mem_of_getElem? (i := 12) rfl))), rfl⟩)) rfl
theorem ws_X7_areLinked : (.selects yX7_areLinked.cls yX7_areLinked yX7_areLinked) ∈ eTB := eTB_in (List.mem_append_left _ (List.mem_map.mpr ⟨(yX7_areLinked, 18), List.mem_append_right _ (List.mem_append_right _ (List.mem_append_left _ (List.mem_of_getElem? (i := 13) rfl))), rfl⟩)) rfl
theorem ws_X7_pairs : (.selects yX7_pairs.cls yX7_pairs yX7_pairs) ∈ eTB := eTB_in (List.mem_append_left _ (List.mem_map.mpr ⟨(yX7_pairs, 18), List.mem_append_right _ (List.mem_append_right _ (List.mem_append_left _ (List.mem_of_getElem? (i := 14) rfl))), rfl⟩)) rfl
theorem ws_X7_areAlike : (.selects yX7_areAlike.cls yX7_areAlike yX7_areAlike) ∈ eTB := eTB_in (List.mem_append_left _ (List.mem_map.mpr ⟨(yX7_areAlike, 18), List.mem_append_right _ (List.mem_append_right _ (List.mem_append_left _ (List.mem_of_getElem? (i := 15) rfl))), rfl⟩)) rfl
theorem ws_X7_isShape : (.selects yX7_isShape.cls yX7_isShape yX7_isShape) ∈ eTB := eTB_in (List.mem_append_left _ (List.mem_map.mpr ⟨(yX7_isShape, 18), List.mem_append_right _ (List.mem_append_right _ (List.mem_append_right _ (List.mem_of_getElem? (i := 0) rfl))), rfl⟩)) rfl
theorem ws_X7_parse : (.selects yX7_parse.cls yX7_parse yX7_parse) ∈ eTB := eTB_in (List.mem_append_left _ (List.mem_map.mpr ⟨(yX7_parse, 18), List.mem_append_right _ (List.mem_append_right _ (List.mem_append_right _ (List.mem_of_getElem? (i := 1) rfl))), rfl⟩)) rfl
theorem ws_X7_command : (.selects yX7_command.cls yX7_command yX7_command) ∈ eTB := eTB_in (List.mem_append_left _ (List.mem_map.mpr ⟨(yX7_command, 18), List.mem_append_right _ (List.mem_append_right _ (List.mem_append_right _ (List.mem_of_getElem? (i := 2) rfl))), rfl⟩)) rfl
theorem ws_X7_sign : (.selects yX7_sign.cls yX7_sign yX7_sign) ∈ eTB := eTB_in (List.mem_append_left _ (List.mem_map.mpr ⟨(yX7_sign, 18), List.mem_append_right _ (List.mem_append_right _ (List.mem_append_right _ (List.mem_of_getElem? (i := 3) rfl))), rfl⟩)) rfl
theorem ws_X7_word : (.selects yX7_word.cls yX7_word yX7_word) ∈ eTB := eTB_in (List.mem_append_left _ (List.mem_map.mpr ⟨(yX7_word, 18), List.mem_append_right _ (List.mem_append_right _ (List.mem_append_right _ (List.mem_of_getElem? (i := 4) rfl))), rfl⟩)) rfl
theorem ws_X7_needs : (.selects yX7_needs.cls yX7_needs yX7_needs) ∈ eTB := eTB_in (List.mem_append_left _ (List.mem_map.mpr ⟨(yX7_needs, 18), List.mem_append_right _ (List.mem_append_right _ (List.mem_append_right _ (List.mem_of_getElem? (i := 5) rfl))), rfl⟩)) rfl
theorem ws_X7_letters : (.selects yX7_letters.cls yX7_letters yX7_letters) ∈ eTB := eTB_in (List.mem_append_left _ (List.mem_map.mpr ⟨(yX7_letters, 18), List.mem_append_right _ (List.mem_append_right _ (List.mem_append_right _ (List.mem_of_getElem? (i := 6) rfl))), rfl⟩)) rfl
theorem ws_X7_cell : (.selects yX7_cell.cls yX7_cell yX7_cell) ∈ eTB := eTB_in (List.mem_append_left _ (List.mem_map.mpr ⟨(yX7_cell, 18), List.mem_append_right _ (List.mem_append_right _ (List.mem_append_right _ (List.mem_of_getElem? (i := 7) rfl))), rfl⟩)) rfl
theorem ws_X7_behind : (.selects yX7_behind.cls yX7_behind yX7_behind) ∈ eTB := eTB_in (List.mem_append_left _ (List.mem_map.mpr ⟨(yX7_behind, 18), List.mem_append_right _ (List.mem_append_right _ (List.mem_append_right _ (List.mem_of_getElem? (i := 8) rfl))), rfl⟩)) rfl
theorem ws_X7_number : (.selects yX7_number.cls yX7_number yX7_number) ∈ eTB := eTB_in (List.mem_append_left _ (List.mem_map.mpr ⟨(yX7_number, 18), List.mem_append_right _ (List.mem_append_right _ (List.mem_append_right _ (List.mem_of_getElem? (i := 9) rfl))), rfl⟩)) rfl
theorem ws_X7_does : (.selects yX7_does.cls yX7_does yX7_does) ∈ eTB := eTB_in (List.mem_append_left _ (List.mem_map.mpr ⟨(yX7_does, 18), List.mem_append_right _ (List.mem_append_right _ (List.mem_append_right _ (List.mem_of_getElem? (i := 10) rfl))), rfl⟩)) rfl
theorem inX0 : ∀ w ∈ u_ws RX0 TX0 2, w ∈ eTB := List.forall_mem_cons.mpr ⟨wd_1_49, List.forall_mem_cons.mpr ⟨wd_1_51, fun _ h => nomatch h⟩⟩
theorem inX1 : ∀ w ∈ u_ws RX1 TX1 6, w ∈ eTB := List.forall_mem_cons.mpr ⟨wd_1_185, List.forall_mem_cons.mpr ⟨wd_1_187, List.forall_mem_cons.mpr ⟨wd_1_189, List.forall_mem_cons.mpr ⟨wd_1_191, List.forall_mem_cons.mpr ⟨wd_1_193, List.forall_mem_cons.mpr ⟨wd_1_195, fun _ h => nomatch h⟩⟩⟩⟩⟩⟩
theorem inX2 : ∀ w ∈ u_ws RX2 TX2 16, w ∈ eTB := List.forall_mem_cons.mpr ⟨wd_1_104, List.forall_mem_cons.mpr ⟨wd_1_106, List.forall_mem_cons.mpr ⟨wd_1_108, List.forall_mem_cons.mpr ⟨wd_1_110, List.forall_mem_cons.mpr ⟨wd_1_112, List.forall_mem_cons.mpr ⟨wd_1_114, List.forall_mem_cons.mpr ⟨wd_1_116, List.forall_mem_cons.mpr ⟨wd_1_118, List.forall_mem_cons.mpr ⟨wd_1_120, List.forall_mem_cons.mpr ⟨wd_1_122, List.forall_mem_cons.mpr ⟨wd_1_124, List.forall_mem_cons.mpr ⟨wd_1_126, List.forall_mem_cons.mpr ⟨wd_1_128, List.forall_mem_cons.mpr ⟨wd_1_130, List.forall_mem_cons.mpr ⟨wd_1_132, List.forall_mem_cons.mpr ⟨wd_1_134, fun _ h => nomatch h⟩⟩⟩⟩⟩⟩⟩⟩⟩⟩⟩⟩⟩⟩⟩⟩
theorem inX3 : ∀ w ∈ u_ws RX3 TX3 2, w ∈ eTB := List.forall_mem_cons.mpr ⟨wd_1_165, List.forall_mem_cons.mpr ⟨wd_1_167, fun _ h => nomatch h⟩⟩
theorem inX4 : ∀ w ∈ u_ws RX4 TX4 3, w ∈ eTB := List.forall_mem_cons.mpr ⟨wd_1_150, List.forall_mem_cons.mpr ⟨wd_1_152, List.forall_mem_cons.mpr ⟨wd_1_154, fun _ h => nomatch h⟩⟩⟩
theorem inX5 : ∀ w ∈ u_ws RX5 TX5 3, w ∈ eTB := List.forall_mem_cons.mpr ⟨wd_1_65, List.forall_mem_cons.mpr ⟨wd_1_67, List.forall_mem_cons.mpr ⟨wd_1_69, fun _ h => nomatch h⟩⟩⟩
theorem inX6 : ∀ w ∈ u_ws RX6 TX6 13, w ∈ eTB := List.forall_mem_cons.mpr ⟨wd_1_212, List.forall_mem_cons.mpr ⟨wd_1_214, List.forall_mem_cons.mpr ⟨wd_1_216, List.forall_mem_cons.mpr ⟨wd_1_218, List.forall_mem_cons.mpr ⟨wd_1_220, List.forall_mem_cons.mpr ⟨wd_1_222, List.forall_mem_cons.mpr ⟨wd_1_224, List.forall_mem_cons.mpr ⟨wd_1_226, List.forall_mem_cons.mpr ⟨wd_1_228, List.forall_mem_cons.mpr ⟨wd_1_230, List.forall_mem_cons.mpr ⟨wd_1_232, List.forall_mem_cons.mpr ⟨wd_1_234, List.forall_mem_cons.mpr ⟨wd_1_236, fun _ h => nomatch h⟩⟩⟩⟩⟩⟩⟩⟩⟩⟩⟩⟩⟩
theorem inX7 : ∀ w ∈ u_ws RX7 TX7 18, w ∈ eTB := List.forall_mem_cons.mpr ⟨wd_6_53, List.forall_mem_cons.mpr ⟨wd_6_55, List.forall_mem_cons.mpr ⟨wd_6_57, List.forall_mem_cons.mpr ⟨wd_6_59, List.forall_mem_cons.mpr ⟨wd_6_61, List.forall_mem_cons.mpr ⟨wd_6_63, List.forall_mem_cons.mpr ⟨wd_6_65, List.forall_mem_cons.mpr ⟨wd_6_67, List.forall_mem_cons.mpr ⟨wd_6_69, List.forall_mem_cons.mpr ⟨wd_6_71, List.forall_mem_cons.mpr ⟨wd_6_73, List.forall_mem_cons.mpr ⟨wd_6_75, List.forall_mem_cons.mpr ⟨wd_6_77, List.forall_mem_cons.mpr ⟨wd_6_79, List.forall_mem_cons.mpr ⟨wd_6_81, List.forall_mem_cons.mpr ⟨wd_6_83, List.forall_mem_cons.mpr ⟨wd_6_85, List.forall_mem_cons.mpr ⟨wd_6_87, fun _ h => nomatch h⟩⟩⟩⟩⟩⟩⟩⟩⟩⟩⟩⟩⟩⟩⟩⟩⟩⟩
theorem fd_X0_9 : eFd RX0 9 0 0 (.array .int) true := ⟨RX0, TX0, 2, tyX0, rfl, inX0, by decide, wd_1_45, tyX0_ok, nmX0, tyX0_ok 0 (by decide), rfl, rfl⟩
theorem fd_X0_15 : eFd RX0 15 0 1 .int false := ⟨RX0, TX0, 2, tyX0, rfl, inX0, by decide, wd_1_46, tyX0_ok, nmX0, tyX0_ok 1 (by decide), rfl, rfl⟩
theorem fd_X2_115 : eFd RX2 115 0 1 .int false := ⟨RX0, TX0, 2, tyX0, rfl, inX0, by decide, wd_1_47, tyX0_ok, nmX0, tyX0_ok 1 (by decide), rfl, rfl⟩
theorem fd_X6_140 : eFd RX6 140 0 1 .int false := ⟨RX0, TX0, 2, tyX0, rfl, inX0, by decide, wd_1_48, tyX0_ok, nmX0, tyX0_ok 1 (by decide), rfl, rfl⟩
theorem fd_X5_11 : eFd RX5 11 5 0 (.array .long) true := ⟨RX5, TX5, 3, tyX5, rfl, inX5, by decide, wd_1_61, tyX5_ok, nmX5, tyX5_ok 0 (by decide), rfl, rfl⟩
theorem fd_X5_15 : eFd RX5 15 5 1 .int false := ⟨RX5, TX5, 3, tyX5, rfl, inX5, by decide, wd_1_62, tyX5_ok, nmX5, tyX5_ok 1 (by decide), rfl, rfl⟩
theorem fd_X6_231 : eFd RX6 231 5 1 .int false := ⟨RX5, TX5, 3, tyX5, rfl, inX5, by decide, wd_1_63, tyX5_ok, nmX5, tyX5_ok 1 (by decide), rfl, rfl⟩
theorem fd_X5_19 : eFd RX5 19 5 2 .int false := ⟨RX5, TX5, 3, tyX5, rfl, inX5, by decide, wd_1_64, tyX5_ok, nmX5, tyX5_ok 2 (by decide), rfl, rfl⟩
theorem fd_X2_9 : eFd RX2 9 2 0 (.array .int) true := ⟨RX2, TX2, 16, tyX2, rfl, inX2, by decide, wd_1_73, tyX2_ok, nmX2, tyX2_ok 0 (by decide), rfl, rfl⟩
theorem fd_X6_89 : eFd RX6 89 2 0 (.array .int) true := ⟨RX2, TX2, 16, tyX2, rfl, inX2, by decide, wd_1_74, tyX2_ok, nmX2, tyX2_ok 0 (by decide), rfl, rfl⟩
theorem fd_X2_15 : eFd RX2 15 2 1 (.array .int) true := ⟨RX2, TX2, 16, tyX2, rfl, inX2, by decide, wd_1_75, tyX2_ok, nmX2, tyX2_ok 1 (by decide), rfl, rfl⟩
theorem fd_X6_93 : eFd RX6 93 2 1 (.array .int) true := ⟨RX2, TX2, 16, tyX2, rfl, inX2, by decide, wd_1_76, tyX2_ok, nmX2, tyX2_ok 1 (by decide), rfl, rfl⟩
theorem fd_X2_18 : eFd RX2 18 2 2 (.array .int) true := ⟨RX2, TX2, 16, tyX2, rfl, inX2, by decide, wd_1_77, tyX2_ok, nmX2, tyX2_ok 2 (by decide), rfl, rfl⟩
theorem fd_X6_96 : eFd RX6 96 2 2 (.array .int) true := ⟨RX2, TX2, 16, tyX2, rfl, inX2, by decide, wd_1_78, tyX2_ok, nmX2, tyX2_ok 2 (by decide), rfl, rfl⟩
theorem fd_X2_21 : eFd RX2 21 2 3 (.array .int) true := ⟨RX2, TX2, 16, tyX2, rfl, inX2, by decide, wd_1_79, tyX2_ok, nmX2, tyX2_ok 3 (by decide), rfl, rfl⟩
theorem fd_X6_196 : eFd RX6 196 2 3 (.array .int) true := ⟨RX2, TX2, 16, tyX2, rfl, inX2, by decide, wd_1_80, tyX2_ok, nmX2, tyX2_ok 3 (by decide), rfl, rfl⟩
theorem fd_X2_24 : eFd RX2 24 2 4 .int false := ⟨RX2, TX2, 16, tyX2, rfl, inX2, by decide, wd_1_81, tyX2_ok, nmX2, tyX2_ok 4 (by decide), rfl, rfl⟩
theorem fd_X3_22 : eFd RX3 22 2 4 .int false := ⟨RX2, TX2, 16, tyX2, rfl, inX2, by decide, wd_1_82, tyX2_ok, nmX2, tyX2_ok 4 (by decide), rfl, rfl⟩
theorem fd_X6_82 : eFd RX6 82 2 4 .int false := ⟨RX2, TX2, 16, tyX2, rfl, inX2, by decide, wd_1_83, tyX2_ok, nmX2, tyX2_ok 4 (by decide), rfl, rfl⟩
theorem fd_X2_31 : eFd RX2 31 2 5 (.object "BasketFlock$Clouds") true := ⟨RX2, TX2, 16, tyX2, rfl, inX2, by decide, wd_1_84, tyX2_ok, nmX2, tyX2_ok 5 (by decide), rfl, rfl⟩
theorem fd_X6_125 : eFd RX6 125 2 5 (.object "BasketFlock$Clouds") true := ⟨RX2, TX2, 16, tyX2, rfl, inX2, by decide, wd_1_85, tyX2_ok, nmX2, tyX2_ok 5 (by decide), rfl, rfl⟩
theorem fd_X2_38 : eFd RX2 38 2 6 (.object "BasketFlock$Shapes") true := ⟨RX2, TX2, 16, tyX2, rfl, inX2, by decide, wd_1_86, tyX2_ok, nmX2, tyX2_ok 6 (by decide), rfl, rfl⟩
theorem fd_X6_227 : eFd RX6 227 2 6 (.object "BasketFlock$Shapes") true := ⟨RX2, TX2, 16, tyX2, rfl, inX2, by decide, wd_1_87, tyX2_ok, nmX2, tyX2_ok 6 (by decide), rfl, rfl⟩
theorem fd_X2_42 : eFd RX2 42 2 7 (.array .long) true := ⟨RX2, TX2, 16, tyX2, rfl, inX2, by decide, wd_1_88, tyX2_ok, nmX2, tyX2_ok 7 (by decide), rfl, rfl⟩
theorem fd_X2_46 : eFd RX2 46 2 8 .int false := ⟨RX2, TX2, 16, tyX2, rfl, inX2, by decide, wd_1_89, tyX2_ok, nmX2, tyX2_ok 8 (by decide), rfl, rfl⟩
theorem fd_X6_150 : eFd RX6 150 2 8 .int false := ⟨RX2, TX2, 16, tyX2, rfl, inX2, by decide, wd_1_90, tyX2_ok, nmX2, tyX2_ok 8 (by decide), rfl, rfl⟩
theorem fd_X2_49 : eFd RX2 49 2 9 .int false := ⟨RX2, TX2, 16, tyX2, rfl, inX2, by decide, wd_1_91, tyX2_ok, nmX2, tyX2_ok 9 (by decide), rfl, rfl⟩
theorem fd_X2_52 : eFd RX2 52 2 10 .int false := ⟨RX2, TX2, 16, tyX2, rfl, inX2, by decide, wd_1_92, tyX2_ok, nmX2, tyX2_ok 10 (by decide), rfl, rfl⟩
theorem fd_X6_144 : eFd RX6 144 2 10 .int false := ⟨RX2, TX2, 16, tyX2, rfl, inX2, by decide, wd_1_93, tyX2_ok, nmX2, tyX2_ok 10 (by decide), rfl, rfl⟩
theorem fd_X2_55 : eFd RX2 55 2 11 .int false := ⟨RX2, TX2, 16, tyX2, rfl, inX2, by decide, wd_1_94, tyX2_ok, nmX2, tyX2_ok 11 (by decide), rfl, rfl⟩
theorem fd_X6_168 : eFd RX6 168 2 11 .int false := ⟨RX2, TX2, 16, tyX2, rfl, inX2, by decide, wd_1_95, tyX2_ok, nmX2, tyX2_ok 11 (by decide), rfl, rfl⟩
theorem fd_X2_58 : eFd RX2 58 2 12 .int false := ⟨RX2, TX2, 16, tyX2, rfl, inX2, by decide, wd_1_96, tyX2_ok, nmX2, tyX2_ok 12 (by decide), rfl, rfl⟩
theorem fd_X6_171 : eFd RX6 171 2 12 .int false := ⟨RX2, TX2, 16, tyX2, rfl, inX2, by decide, wd_1_97, tyX2_ok, nmX2, tyX2_ok 12 (by decide), rfl, rfl⟩
theorem fd_X2_61 : eFd RX2 61 2 13 .int false := ⟨RX2, TX2, 16, tyX2, rfl, inX2, by decide, wd_1_98, tyX2_ok, nmX2, tyX2_ok 13 (by decide), rfl, rfl⟩
theorem fd_X6_190 : eFd RX6 190 2 13 .int false := ⟨RX2, TX2, 16, tyX2, rfl, inX2, by decide, wd_1_99, tyX2_ok, nmX2, tyX2_ok 13 (by decide), rfl, rfl⟩
theorem fd_X2_64 : eFd RX2 64 2 14 .int false := ⟨RX2, TX2, 16, tyX2, rfl, inX2, by decide, wd_1_100, tyX2_ok, nmX2, tyX2_ok 14 (by decide), rfl, rfl⟩
theorem fd_X6_193 : eFd RX6 193 2 14 .int false := ⟨RX2, TX2, 16, tyX2, rfl, inX2, by decide, wd_1_101, tyX2_ok, nmX2, tyX2_ok 14 (by decide), rfl, rfl⟩
theorem fd_X2_67 : eFd RX2 67 2 15 .int false := ⟨RX2, TX2, 16, tyX2, rfl, inX2, by decide, wd_1_102, tyX2_ok, nmX2, tyX2_ok 15 (by decide), rfl, rfl⟩
theorem fd_X6_203 : eFd RX6 203 2 15 .int false := ⟨RX2, TX2, 16, tyX2, rfl, inX2, by decide, wd_1_103, tyX2_ok, nmX2, tyX2_ok 15 (by decide), rfl, rfl⟩
theorem fd_X4_11 : eFd RX4 11 4 0 (.array (.object "BasketFlock$Flock")) true := ⟨RX4, TX4, 3, tyX4, rfl, inX4, by decide, wd_1_146, tyX4_ok, nmX4, tyX4_ok 0 (by decide), rfl, rfl⟩
theorem fd_X4_17 : eFd RX4 17 4 1 .int false := ⟨RX4, TX4, 3, tyX4, rfl, inX4, by decide, wd_1_147, tyX4_ok, nmX4, tyX4_ok 1 (by decide), rfl, rfl⟩
theorem fd_X6_325 : eFd RX6 325 4 1 .int false := ⟨RX4, TX4, 3, tyX4, rfl, inX4, by decide, wd_1_148, tyX4_ok, nmX4, tyX4_ok 1 (by decide), rfl, rfl⟩
theorem fd_X4_21 : eFd RX4 21 4 2 .int false := ⟨RX4, TX4, 3, tyX4, rfl, inX4, by decide, wd_1_149, tyX4_ok, nmX4, tyX4_ok 2 (by decide), rfl, rfl⟩
theorem fd_X3_9 : eFd RX3 9 3 0 (.array .int) true := ⟨RX3, TX3, 2, tyX3, rfl, inX3, by decide, wd_1_163, tyX3_ok, nmX3, tyX3_ok 0 (by decide), rfl, rfl⟩
theorem fd_X3_15 : eFd RX3 15 3 1 (.array .int) true := ⟨RX3, TX3, 2, tyX3, rfl, inX3, by decide, wd_1_164, tyX3_ok, nmX3, tyX3_ok 1 (by decide), rfl, rfl⟩
theorem fd_X1_9 : eFd RX1 9 1 0 (.array .char) true := ⟨RX1, TX1, 6, tyX1, rfl, inX1, by decide, wd_1_178, tyX1_ok, nmX1, tyX1_ok 0 (by decide), rfl, rfl⟩
theorem fd_X1_15 : eFd RX1 15 1 1 .int false := ⟨RX1, TX1, 6, tyX1, rfl, inX1, by decide, wd_1_179, tyX1_ok, nmX1, tyX1_ok 1 (by decide), rfl, rfl⟩
theorem fd_X1_19 : eFd RX1 19 1 2 (.array .int) true := ⟨RX1, TX1, 6, tyX1, rfl, inX1, by decide, wd_1_180, tyX1_ok, nmX1, tyX1_ok 2 (by decide), rfl, rfl⟩
theorem fd_X1_25 : eFd RX1 25 1 3 (.array (.array .int)) true := ⟨RX1, TX1, 6, tyX1, rfl, inX1, by decide, wd_1_181, tyX1_ok, nmX1, tyX1_ok 3 (by decide), rfl, rfl⟩
theorem fd_X1_28 : eFd RX1 28 1 4 .int false := ⟨RX1, TX1, 6, tyX1, rfl, inX1, by decide, wd_1_182, tyX1_ok, nmX1, tyX1_ok 4 (by decide), rfl, rfl⟩
theorem fd_X6_271 : eFd RX6 271 1 4 .int false := ⟨RX1, TX1, 6, tyX1, rfl, inX1, by decide, wd_1_183, tyX1_ok, nmX1, tyX1_ok 4 (by decide), rfl, rfl⟩
theorem fd_X1_31 : eFd RX1 31 1 5 .int false := ⟨RX1, TX1, 6, tyX1, rfl, inX1, by decide, wd_1_184, tyX1_ok, nmX1, tyX1_ok 5 (by decide), rfl, rfl⟩
theorem fd_X6_10 : eFd RX6 10 6 0 (.object "BasketFlock$Flock") true := ⟨RX6, TX6, 13, tyX6, rfl, inX6, by decide, wd_1_199, tyX6_ok, nmX6, tyX6_ok 0 (by decide), rfl, rfl⟩
theorem fd_X6_16 : eFd RX6 16 6 1 (.object "BasketFlock$Flock") true := ⟨RX6, TX6, 13, tyX6, rfl, inX6, by decide, wd_1_200, tyX6_ok, nmX6, tyX6_ok 1 (by decide), rfl, rfl⟩
theorem fd_X6_19 : eFd RX6 19 6 2 (.object "BasketFlock$Flock") true := ⟨RX6, TX6, 13, tyX6, rfl, inX6, by decide, wd_1_201, tyX6_ok, nmX6, tyX6_ok 2 (by decide), rfl, rfl⟩
theorem fd_X6_22 : eFd RX6 22 6 3 .boolean false := ⟨RX6, TX6, 13, tyX6, rfl, inX6, by decide, wd_1_202, tyX6_ok, nmX6, tyX6_ok 3 (by decide), rfl, rfl⟩
theorem fd_X6_29 : eFd RX6 29 6 4 (.object "BasketFlock$History") true := ⟨RX6, TX6, 13, tyX6, rfl, inX6, by decide, wd_1_203, tyX6_ok, nmX6, tyX6_ok 4 (by decide), rfl, rfl⟩
theorem fd_X6_36 : eFd RX6 36 6 5 (.object "BasketFlock$Formations") true := ⟨RX6, TX6, 13, tyX6, rfl, inX6, by decide, wd_1_204, tyX6_ok, nmX6, tyX6_ok 5 (by decide), rfl, rfl⟩
theorem fd_X6_43 : eFd RX6 43 6 6 (.object "BasketFlock$CommandText") true := ⟨RX6, TX6, 13, tyX6, rfl, inX6, by decide, wd_1_205, tyX6_ok, nmX6, tyX6_ok 6 (by decide), rfl, rfl⟩
theorem fd_X6_47 : eFd RX6 47 6 7 .int false := ⟨RX6, TX6, 13, tyX6, rfl, inX6, by decide, wd_1_206, tyX6_ok, nmX6, tyX6_ok 7 (by decide), rfl, rfl⟩
theorem fd_X6_51 : eFd RX6 51 6 8 .int false := ⟨RX6, TX6, 13, tyX6, rfl, inX6, by decide, wd_1_207, tyX6_ok, nmX6, tyX6_ok 8 (by decide), rfl, rfl⟩
theorem fd_X6_54 : eFd RX6 54 6 9 .int false := ⟨RX6, TX6, 13, tyX6, rfl, inX6, by decide, wd_1_208, tyX6_ok, nmX6, tyX6_ok 9 (by decide), rfl, rfl⟩
theorem fd_X6_57 : eFd RX6 57 6 10 .int false := ⟨RX6, TX6, 13, tyX6, rfl, inX6, by decide, wd_1_209, tyX6_ok, nmX6, tyX6_ok 10 (by decide), rfl, rfl⟩
theorem fd_X6_60 : eFd RX6 60 6 11 (.array .char) true := ⟨RX6, TX6, 13, tyX6, rfl, inX6, by decide, wd_1_210, tyX6_ok, nmX6, tyX6_ok 11 (by decide), rfl, rfl⟩
theorem fd_X6_64 : eFd RX6 64 6 12 .int false := ⟨RX6, TX6, 13, tyX6, rfl, inX6, by decide, wd_1_211, tyX6_ok, nmX6, tyX6_ok 12 (by decide), rfl, rfl⟩
theorem fd_X7_33 : eFd RX7 33 7 0 .int false := ⟨RX7, TX7, 18, tyX7, rfl, inX7, by decide, wd_6_35, tyX7_ok, nmX7, tyX7_ok 0 (by decide), rfl, rfl⟩
theorem fd_X7_9 : eFd RX7 9 7 1 (.array .int) true := ⟨RX7, TX7, 18, tyX7, rfl, inX7, by decide, wd_6_36, tyX7_ok, nmX7, tyX7_ok 1 (by decide), rfl, rfl⟩
theorem fd_X7_40 : eFd RX7 40 7 2 .int false := ⟨RX7, TX7, 18, tyX7, rfl, inX7, by decide, wd_6_37, tyX7_ok, nmX7, tyX7_ok 2 (by decide), rfl, rfl⟩
theorem fd_X7_245 : eFd RX7 245 7 3 .boolean false := ⟨RX7, TX7, 18, tyX7, rfl, inX7, by decide, wd_6_38, tyX7_ok, nmX7, tyX7_ok 3 (by decide), rfl, rfl⟩
theorem fd_X7_43 : eFd RX7 43 7 4 .int false := ⟨RX7, TX7, 18, tyX7, rfl, inX7, by decide, wd_6_39, tyX7_ok, nmX7, tyX7_ok 4 (by decide), rfl, rfl⟩
theorem fd_X7_72 : eFd RX7 72 7 5 .int false := ⟨RX7, TX7, 18, tyX7, rfl, inX7, by decide, wd_6_40, tyX7_ok, nmX7, tyX7_ok 5 (by decide), rfl, rfl⟩
theorem fd_X7_75 : eFd RX7 75 7 6 .int false := ⟨RX7, TX7, 18, tyX7, rfl, inX7, by decide, wd_6_41, tyX7_ok, nmX7, tyX7_ok 6 (by decide), rfl, rfl⟩
theorem fd_X7_13 : eFd RX7 13 7 7 (.array .int) true := ⟨RX7, TX7, 18, tyX7, rfl, inX7, by decide, wd_6_42, tyX7_ok, nmX7, tyX7_ok 7 (by decide), rfl, rfl⟩
theorem fd_X7_16 : eFd RX7 16 7 8 (.array .char) true := ⟨RX7, TX7, 18, tyX7, rfl, inX7, by decide, wd_6_43, tyX7_ok, nmX7, tyX7_ok 8 (by decide), rfl, rfl⟩
theorem fd_X7_199 : eFd RX7 199 7 9 .int false := ⟨RX7, TX7, 18, tyX7, rfl, inX7, by decide, wd_6_44, tyX7_ok, nmX7, tyX7_ok 9 (by decide), rfl, rfl⟩
theorem fd_X7_202 : eFd RX7 202 7 10 .int false := ⟨RX7, TX7, 18, tyX7, rfl, inX7, by decide, wd_6_45, tyX7_ok, nmX7, tyX7_ok 10 (by decide), rfl, rfl⟩
theorem fd_X7_205 : eFd RX7 205 7 11 .int false := ⟨RX7, TX7, 18, tyX7, rfl, inX7, by decide, wd_6_46, tyX7_ok, nmX7, tyX7_ok 11 (by decide), rfl, rfl⟩
theorem fd_X7_20 : eFd RX7 20 7 12 .int false := ⟨RX7, TX7, 18, tyX7, rfl, inX7, by decide, wd_6_47, tyX7_ok, nmX7, tyX7_ok 12 (by decide), rfl, rfl⟩
theorem fd_X7_24 : eFd RX7 24 7 13 .int false := ⟨RX7, TX7, 18, tyX7, rfl, inX7, by decide, wd_6_48, tyX7_ok, nmX7, tyX7_ok 13 (by decide), rfl, rfl⟩
theorem fd_X7_27 : eFd RX7 27 7 14 (.array .int) true := ⟨RX7, TX7, 18, tyX7, rfl, inX7, by decide, wd_6_49, tyX7_ok, nmX7, tyX7_ok 14 (by decide), rfl, rfl⟩
theorem fd_X7_224 : eFd RX7 224 7 15 .int false := ⟨RX7, TX7, 18, tyX7, rfl, inX7, by decide, wd_6_50, tyX7_ok, nmX7, tyX7_ok 15 (by decide), rfl, rfl⟩
theorem fd_X7_30 : eFd RX7 30 7 16 (.array .char) true := ⟨RX7, TX7, 18, tyX7, rfl, inX7, by decide, wd_6_51, tyX7_ok, nmX7, tyX7_ok 16 (by decide), rfl, rfl⟩
theorem fd_X7_242 : eFd RX7 242 7 17 .int false := ⟨RX7, TX7, 18, tyX7, rfl, inX7, by decide, wd_6_52, tyX7_ok, nmX7, tyX7_ok 17 (by decide), rfl, rfl⟩
theorem ca_X0_init : Cond.initialized yX0_init.cls ∈ eTB ∧ mWord mX0_init ∈ eTB ∧ (yX0_init.cls ≠ "java/lang/invoke/MethodHandle" ∧ yX0_init.cls ≠ "java/lang/invoke/VarHandle") ∧ (parseMethodDescriptor yX0_init.desc).map (fun d => d.parameters.length) = some 0 := ⟨wd_1_3, wd_1_43, ⟨by decide +kernel, by decide +kernel⟩, by decide +kernel⟩
theorem ca_X0_inSky : Cond.initialized yX0_inSky.cls ∈ eTB ∧ mWord mX0_inSky ∈ eTB ∧ (yX0_inSky.cls ≠ "java/lang/invoke/MethodHandle" ∧ yX0_inSky.cls ≠ "java/lang/invoke/VarHandle") ∧ (parseMethodDescriptor yX0_inSky.desc).map (fun d => d.parameters.length) = some 2 := ⟨wd_1_3, wd_2_152, ⟨by decide +kernel, by decide +kernel⟩, by decide +kernel⟩
theorem ca_X0_covers : Cond.initialized yX0_covers.cls ∈ eTB ∧ mWord mX0_covers ∈ eTB ∧ (yX0_covers.cls ≠ "java/lang/invoke/MethodHandle" ∧ yX0_covers.cls ≠ "java/lang/invoke/VarHandle") ∧ (parseMethodDescriptor yX0_covers.desc).map (fun d => d.parameters.length) = some 2 := ⟨wd_1_3, wd_2_156, ⟨by decide +kernel, by decide +kernel⟩, by decide +kernel⟩
theorem ca_X0_put : Cond.initialized yX0_put.cls ∈ eTB ∧ mWord mX0_put ∈ eTB ∧ (yX0_put.cls ≠ "java/lang/invoke/MethodHandle" ∧ yX0_put.cls ≠ "java/lang/invoke/VarHandle") ∧ (parseMethodDescriptor yX0_put.desc).map (fun d => d.parameters.length) = some 2 := ⟨wd_1_3, wd_4_56, ⟨by decide +kernel, by decide +kernel⟩, by decide +kernel⟩
theorem ca_X0_remove : Cond.initialized yX0_remove.cls ∈ eTB ∧ mWord mX0_remove ∈ eTB ∧ (yX0_remove.cls ≠ "java/lang/invoke/MethodHandle" ∧ yX0_remove.cls ≠ "java/lang/invoke/VarHandle") ∧ (parseMethodDescriptor yX0_remove.desc).map (fun d => d.parameters.length) = some 2 := ⟨wd_1_3, wd_4_68, ⟨by decide +kernel, by decide +kernel⟩, by decide +kernel⟩
theorem ca_X0_copyFrom : Cond.initialized yX0_copyFrom.cls ∈ eTB ∧ mWord mX0_copyFrom ∈ eTB ∧ (yX0_copyFrom.cls ≠ "java/lang/invoke/MethodHandle" ∧ yX0_copyFrom.cls ≠ "java/lang/invoke/VarHandle") ∧ (parseMethodDescriptor yX0_copyFrom.desc).map (fun d => d.parameters.length) = some 1 := ⟨wd_1_3, wd_2_188, ⟨by decide +kernel, by decide +kernel⟩, by decide +kernel⟩
theorem ca_X1_init : Cond.initialized yX1_init.cls ∈ eTB ∧ mWord mX1_init ∈ eTB ∧ (yX1_init.cls ≠ "java/lang/invoke/MethodHandle" ∧ yX1_init.cls ≠ "java/lang/invoke/VarHandle") ∧ (parseMethodDescriptor yX1_init.desc).map (fun d => d.parameters.length) = some 0 := ⟨wd_1_7, wd_1_174, ⟨by decide +kernel, by decide +kernel⟩, by decide +kernel⟩
theorem ca_X1_isFull : Cond.initialized yX1_isFull.cls ∈ eTB ∧ mWord mX1_isFull ∈ eTB ∧ (yX1_isFull.cls ≠ "java/lang/invoke/MethodHandle" ∧ yX1_isFull.cls ≠ "java/lang/invoke/VarHandle") ∧ (parseMethodDescriptor yX1_isFull.desc).map (fun d => d.parameters.length) = some 0 := ⟨wd_1_7, wd_5_43, ⟨by decide +kernel, by decide +kernel⟩, by decide +kernel⟩
theorem ca_X1_put : Cond.initialized yX1_put.cls ∈ eTB ∧ mWord mX1_put ∈ eTB ∧ (yX1_put.cls ≠ "java/lang/invoke/MethodHandle" ∧ yX1_put.cls ≠ "java/lang/invoke/VarHandle") ∧ (parseMethodDescriptor yX1_put.desc).map (fun d => d.parameters.length) = some 1 := ⟨wd_1_7, wd_5_48, ⟨by decide +kernel, by decide +kernel⟩, by decide +kernel⟩
theorem ca_X1_clear : Cond.initialized yX1_clear.cls ∈ eTB ∧ mWord mX1_clear ∈ eTB ∧ (yX1_clear.cls ≠ "java/lang/invoke/MethodHandle" ∧ yX1_clear.cls ≠ "java/lang/invoke/VarHandle") ∧ (parseMethodDescriptor yX1_clear.desc).map (fun d => d.parameters.length) = some 0 := ⟨wd_1_7, wd_5_149, ⟨by decide +kernel, by decide +kernel⟩, by decide +kernel⟩
theorem ca_X1_kindOf : Cond.initialized yX1_kindOf.cls ∈ eTB ∧ mWord mX1_kindOf ∈ eTB ∧ (yX1_kindOf.cls ≠ "java/lang/invoke/MethodHandle" ∧ yX1_kindOf.cls ≠ "java/lang/invoke/VarHandle") ∧ (parseMethodDescriptor yX1_kindOf.desc).map (fun d => d.parameters.length) = some 1 := ⟨wd_1_7, wd_5_154, ⟨by decide +kernel, by decide +kernel⟩, by decide +kernel⟩
theorem ca_X1_number : Cond.initialized yX1_number.cls ∈ eTB ∧ mWord mX1_number ∈ eTB ∧ (yX1_number.cls ≠ "java/lang/invoke/MethodHandle" ∧ yX1_number.cls ≠ "java/lang/invoke/VarHandle") ∧ (parseMethodDescriptor yX1_number.desc).map (fun d => d.parameters.length) = some 2 := ⟨wd_1_7, wd_5_158, ⟨by decide +kernel, by decide +kernel⟩, by decide +kernel⟩
theorem ca_X1_formOf : Cond.initialized yX1_formOf.cls ∈ eTB ∧ mWord mX1_formOf ∈ eTB ∧ (yX1_formOf.cls ≠ "java/lang/invoke/MethodHandle" ∧ yX1_formOf.cls ≠ "java/lang/invoke/VarHandle") ∧ (parseMethodDescriptor yX1_formOf.desc).map (fun d => d.parameters.length) = some 1 := ⟨wd_1_7, wd_5_67, ⟨by decide +kernel, by decide +kernel⟩, by decide +kernel⟩
theorem ca_X1_parse : Cond.initialized yX1_parse.cls ∈ eTB ∧ mWord mX1_parse ∈ eTB ∧ (yX1_parse.cls ≠ "java/lang/invoke/MethodHandle" ∧ yX1_parse.cls ≠ "java/lang/invoke/VarHandle") ∧ (parseMethodDescriptor yX1_parse.desc).map (fun d => d.parameters.length) = some 0 := ⟨wd_1_7, wd_5_60, ⟨by decide +kernel, by decide +kernel⟩, by decide +kernel⟩
theorem ca_X1_parseCommand : Cond.initialized yX1_parseCommand.cls ∈ eTB ∧ mWord mX1_parseCommand ∈ eTB ∧ (yX1_parseCommand.cls ≠ "java/lang/invoke/MethodHandle" ∧ yX1_parseCommand.cls ≠ "java/lang/invoke/VarHandle") ∧ (parseMethodDescriptor yX1_parseCommand.desc).map (fun d => d.parameters.length) = some 1 := ⟨wd_1_7, wd_5_64, ⟨by decide +kernel, by decide +kernel⟩, by decide +kernel⟩
theorem ca_X1_matches : Cond.initialized yX1_matches.cls ∈ eTB ∧ mWord mX1_matches ∈ eTB ∧ (yX1_matches.cls ≠ "java/lang/invoke/MethodHandle" ∧ yX1_matches.cls ≠ "java/lang/invoke/VarHandle") ∧ (parseMethodDescriptor yX1_matches.desc).map (fun d => d.parameters.length) = some 2 := ⟨wd_1_7, wd_5_80, ⟨by decide +kernel, by decide +kernel⟩, by decide +kernel⟩
theorem ca_X1_takeNumber : Cond.initialized yX1_takeNumber.cls ∈ eTB ∧ mWord mX1_takeNumber ∈ eTB ∧ (yX1_takeNumber.cls ≠ "java/lang/invoke/MethodHandle" ∧ yX1_takeNumber.cls ≠ "java/lang/invoke/VarHandle") ∧ (parseMethodDescriptor yX1_takeNumber.desc).map (fun d => d.parameters.length) = some 1 := ⟨wd_1_7, wd_5_140, ⟨by decide +kernel, by decide +kernel⟩, by decide +kernel⟩
theorem ca_X1_takeDigit : Cond.initialized yX1_takeDigit.cls ∈ eTB ∧ mWord mX1_takeDigit ∈ eTB ∧ (yX1_takeDigit.cls ≠ "java/lang/invoke/MethodHandle" ∧ yX1_takeDigit.cls ≠ "java/lang/invoke/VarHandle") ∧ (parseMethodDescriptor yX1_takeDigit.desc).map (fun d => d.parameters.length) = some 0 := ⟨wd_1_7, wd_5_144, ⟨by decide +kernel, by decide +kernel⟩, by decide +kernel⟩
theorem ca_X1_isDigit : Cond.initialized yX1_isDigit.cls ∈ eTB ∧ mWord mX1_isDigit ∈ eTB ∧ (yX1_isDigit.cls ≠ "java/lang/invoke/MethodHandle" ∧ yX1_isDigit.cls ≠ "java/lang/invoke/VarHandle") ∧ (parseMethodDescriptor yX1_isDigit.desc).map (fun d => d.parameters.length) = some 0 := ⟨wd_1_7, wd_5_132, ⟨by decide +kernel, by decide +kernel⟩, by decide +kernel⟩
theorem ca_X1_isCharacter : Cond.initialized yX1_isCharacter.cls ∈ eTB ∧ mWord mX1_isCharacter ∈ eTB ∧ (yX1_isCharacter.cls ≠ "java/lang/invoke/MethodHandle" ∧ yX1_isCharacter.cls ≠ "java/lang/invoke/VarHandle") ∧ (parseMethodDescriptor yX1_isCharacter.desc).map (fun d => d.parameters.length) = some 1 := ⟨wd_1_7, wd_5_136, ⟨by decide +kernel, by decide +kernel⟩, by decide +kernel⟩
theorem ca_X2_init : Cond.initialized yX2_init.cls ∈ eTB ∧ mWord mX2_init ∈ eTB ∧ (yX2_init.cls ≠ "java/lang/invoke/MethodHandle" ∧ yX2_init.cls ≠ "java/lang/invoke/VarHandle") ∧ (parseMethodDescriptor yX2_init.desc).map (fun d => d.parameters.length) = some 0 := ⟨wd_1_2, wd_1_37, ⟨by decide +kernel, by decide +kernel⟩, by decide +kernel⟩
theorem ca_X2_copyFrom : Cond.initialized yX2_copyFrom.cls ∈ eTB ∧ mWord mX2_copyFrom ∈ eTB ∧ (yX2_copyFrom.cls ≠ "java/lang/invoke/MethodHandle" ∧ yX2_copyFrom.cls ≠ "java/lang/invoke/VarHandle") ∧ (parseMethodDescriptor yX2_copyFrom.desc).map (fun d => d.parameters.length) = some 1 := ⟨wd_1_2, wd_2_181, ⟨by decide +kernel, by decide +kernel⟩, by decide +kernel⟩
theorem ca_X2_hindrance : Cond.initialized yX2_hindrance.cls ∈ eTB ∧ mWord mX2_hindrance ∈ eTB ∧ (yX2_hindrance.cls ≠ "java/lang/invoke/MethodHandle" ∧ yX2_hindrance.cls ≠ "java/lang/invoke/VarHandle") ∧ (parseMethodDescriptor yX2_hindrance.desc).map (fun d => d.parameters.length) = some 4 := ⟨wd_1_2, wd_2_216, ⟨by decide +kernel, by decide +kernel⟩, by decide +kernel⟩
theorem ca_X2_hindranceOutside : Cond.initialized yX2_hindranceOutside.cls ∈ eTB ∧ mWord mX2_hindranceOutside ∈ eTB ∧ (yX2_hindranceOutside.cls ≠ "java/lang/invoke/MethodHandle" ∧ yX2_hindranceOutside.cls ≠ "java/lang/invoke/VarHandle") ∧ (parseMethodDescriptor yX2_hindranceOutside.desc).map (fun d => d.parameters.length) = some 3 := ⟨wd_1_2, wd_2_227, ⟨by decide +kernel, by decide +kernel⟩, by decide +kernel⟩
theorem ca_X2_hindranceToAdd : Cond.initialized yX2_hindranceToAdd.cls ∈ eTB ∧ mWord mX2_hindranceToAdd ∈ eTB ∧ (yX2_hindranceToAdd.cls ≠ "java/lang/invoke/MethodHandle" ∧ yX2_hindranceToAdd.cls ≠ "java/lang/invoke/VarHandle") ∧ (parseMethodDescriptor yX2_hindranceToAdd.desc).map (fun d => d.parameters.length) = some 3 := ⟨wd_1_2, wd_2_220, ⟨by decide +kernel, by decide +kernel⟩, by decide +kernel⟩
theorem ca_X2_hindranceToJump : Cond.initialized yX2_hindranceToJump.cls ∈ eTB ∧ mWord mX2_hindranceToJump ∈ eTB ∧ (yX2_hindranceToJump.cls ≠ "java/lang/invoke/MethodHandle" ∧ yX2_hindranceToJump.cls ≠ "java/lang/invoke/VarHandle") ∧ (parseMethodDescriptor yX2_hindranceToJump.desc).map (fun d => d.parameters.length) = some 3 := ⟨wd_1_2, wd_2_224, ⟨by decide +kernel, by decide +kernel⟩, by decide +kernel⟩
theorem ca_X2_hindranceToCloud : Cond.initialized yX2_hindranceToCloud.cls ∈ eTB ∧ mWord mX2_hindranceToCloud ∈ eTB ∧ (yX2_hindranceToCloud.cls ≠ "java/lang/invoke/MethodHandle" ∧ yX2_hindranceToCloud.cls ≠ "java/lang/invoke/VarHandle") ∧ (parseMethodDescriptor yX2_hindranceToCloud.desc).map (fun d => d.parameters.length) = some 2 := ⟨wd_1_2, wd_2_231, ⟨by decide +kernel, by decide +kernel⟩, by decide +kernel⟩
theorem ca_X2_hindranceToClear : Cond.initialized yX2_hindranceToClear.cls ∈ eTB ∧ mWord mX2_hindranceToClear ∈ eTB ∧ (yX2_hindranceToClear.cls ≠ "java/lang/invoke/MethodHandle" ∧ yX2_hindranceToClear.cls ≠ "java/lang/invoke/VarHandle") ∧ (parseMethodDescriptor yX2_hindranceToClear.desc).map (fun d => d.parameters.length) = some 2 := ⟨wd_1_2, wd_2_239, ⟨by decide +kernel, by decide +kernel⟩, by decide +kernel⟩
theorem ca_X2_hindranceToGoal : Cond.initialized yX2_hindranceToGoal.cls ∈ eTB ∧ mWord mX2_hindranceToGoal ∈ eTB ∧ (yX2_hindranceToGoal.cls ≠ "java/lang/invoke/MethodHandle" ∧ yX2_hindranceToGoal.cls ≠ "java/lang/invoke/VarHandle") ∧ (parseMethodDescriptor yX2_hindranceToGoal.desc).map (fun d => d.parameters.length) = some 2 := ⟨wd_1_2, wd_3_3, ⟨by decide +kernel, by decide +kernel⟩, by decide +kernel⟩
theorem ca_X2_carryOut : Cond.initialized yX2_carryOut.cls ∈ eTB ∧ mWord mX2_carryOut ∈ eTB ∧ (yX2_carryOut.cls ≠ "java/lang/invoke/MethodHandle" ∧ yX2_carryOut.cls ≠ "java/lang/invoke/VarHandle") ∧ (parseMethodDescriptor yX2_carryOut.desc).map (fun d => d.parameters.length) = some 4 := ⟨wd_1_2, wd_5_163, ⟨by decide +kernel, by decide +kernel⟩, by decide +kernel⟩
theorem ca_X2_add : Cond.initialized yX2_add.cls ∈ eTB ∧ mWord mX2_add ∈ eTB ∧ (yX2_add.cls ≠ "java/lang/invoke/MethodHandle" ∧ yX2_add.cls ≠ "java/lang/invoke/VarHandle") ∧ (parseMethodDescriptor yX2_add.desc).map (fun d => d.parameters.length) = some 3 := ⟨wd_1_2, wd_3_161, ⟨by decide +kernel, by decide +kernel⟩, by decide +kernel⟩
theorem ca_X2_put : Cond.initialized yX2_put.cls ∈ eTB ∧ mWord mX2_put ∈ eTB ∧ (yX2_put.cls ≠ "java/lang/invoke/MethodHandle" ∧ yX2_put.cls ≠ "java/lang/invoke/VarHandle") ∧ (parseMethodDescriptor yX2_put.desc).map (fun d => d.parameters.length) = some 3 := ⟨wd_1_2, wd_3_193, ⟨by decide +kernel, by decide +kernel⟩, by decide +kernel⟩
theorem ca_X2_replaceHandle : Cond.initialized yX2_replaceHandle.cls ∈ eTB ∧ mWord mX2_replaceHandle ∈ eTB ∧ (yX2_replaceHandle.cls ≠ "java/lang/invoke/MethodHandle" ∧ yX2_replaceHandle.cls ≠ "java/lang/invoke/VarHandle") ∧ (parseMethodDescriptor yX2_replaceHandle.desc).map (fun d => d.parameters.length) = some 2 := ⟨wd_1_2, wd_3_204, ⟨by decide +kernel, by decide +kernel⟩, by decide +kernel⟩
theorem ca_X2_replaceTurn : Cond.initialized yX2_replaceTurn.cls ∈ eTB ∧ mWord mX2_replaceTurn ∈ eTB ∧ (yX2_replaceTurn.cls ≠ "java/lang/invoke/MethodHandle" ∧ yX2_replaceTurn.cls ≠ "java/lang/invoke/VarHandle") ∧ (parseMethodDescriptor yX2_replaceTurn.desc).map (fun d => d.parameters.length) = some 1 := ⟨wd_1_2, wd_4_86, ⟨by decide +kernel, by decide +kernel⟩, by decide +kernel⟩
theorem ca_X2_replaceGoal : Cond.initialized yX2_replaceGoal.cls ∈ eTB ∧ mWord mX2_replaceGoal ∈ eTB ∧ (yX2_replaceGoal.cls ≠ "java/lang/invoke/MethodHandle" ∧ yX2_replaceGoal.cls ≠ "java/lang/invoke/VarHandle") ∧ (parseMethodDescriptor yX2_replaceGoal.desc).map (fun d => d.parameters.length) = some 2 := ⟨wd_1_2, wd_4_128, ⟨by decide +kernel, by decide +kernel⟩, by decide +kernel⟩
theorem ca_X2_replaceKept : Cond.initialized yX2_replaceKept.cls ∈ eTB ∧ mWord mX2_replaceKept ∈ eTB ∧ (yX2_replaceKept.cls ≠ "java/lang/invoke/MethodHandle" ∧ yX2_replaceKept.cls ≠ "java/lang/invoke/VarHandle") ∧ (parseMethodDescriptor yX2_replaceKept.desc).map (fun d => d.parameters.length) = some 1 := ⟨wd_1_2, wd_4_213, ⟨by decide +kernel, by decide +kernel⟩, by decide +kernel⟩
theorem ca_X2_passSteps : Cond.initialized yX2_passSteps.cls ∈ eTB ∧ mWord mX2_passSteps ∈ eTB ∧ (yX2_passSteps.cls ≠ "java/lang/invoke/MethodHandle" ∧ yX2_passSteps.cls ≠ "java/lang/invoke/VarHandle") ∧ (parseMethodDescriptor yX2_passSteps.desc).map (fun d => d.parameters.length) = some 1 := ⟨wd_1_2, wd_4_167, ⟨by decide +kernel, by decide +kernel⟩, by decide +kernel⟩
theorem ca_X2_moveLeader : Cond.initialized yX2_moveLeader.cls ∈ eTB ∧ mWord mX2_moveLeader ∈ eTB ∧ (yX2_moveLeader.cls ≠ "java/lang/invoke/MethodHandle" ∧ yX2_moveLeader.cls ≠ "java/lang/invoke/VarHandle") ∧ (parseMethodDescriptor yX2_moveLeader.desc).map (fun d => d.parameters.length) = some 0 := ⟨wd_1_2, wd_4_171, ⟨by decide +kernel, by decide +kernel⟩, by decide +kernel⟩
theorem ca_X2_oneTowards : Cond.initialized yX2_oneTowards.cls ∈ eTB ∧ mWord mX2_oneTowards ∈ eTB ∧ (yX2_oneTowards.cls ≠ "java/lang/invoke/MethodHandle" ∧ yX2_oneTowards.cls ≠ "java/lang/invoke/VarHandle") ∧ (parseMethodDescriptor yX2_oneTowards.desc).map (fun d => d.parameters.length) = some 2 := ⟨wd_1_2, wd_4_175, ⟨by decide +kernel, by decide +kernel⟩, by decide +kernel⟩
theorem ca_X2_moveFollower : Cond.initialized yX2_moveFollower.cls ∈ eTB ∧ mWord mX2_moveFollower ∈ eTB ∧ (yX2_moveFollower.cls ≠ "java/lang/invoke/MethodHandle" ∧ yX2_moveFollower.cls ≠ "java/lang/invoke/VarHandle") ∧ (parseMethodDescriptor yX2_moveFollower.desc).map (fun d => d.parameters.length) = some 1 := ⟨wd_1_2, wd_4_183, ⟨by decide +kernel, by decide +kernel⟩, by decide +kernel⟩
theorem ca_X2_goTo : Cond.initialized yX2_goTo.cls ∈ eTB ∧ mWord mX2_goTo ∈ eTB ∧ (yX2_goTo.cls ≠ "java/lang/invoke/MethodHandle" ∧ yX2_goTo.cls ≠ "java/lang/invoke/VarHandle") ∧ (parseMethodDescriptor yX2_goTo.desc).map (fun d => d.parameters.length) = some 3 := ⟨wd_1_2, wd_4_179, ⟨by decide +kernel, by decide +kernel⟩, by decide +kernel⟩
theorem ca_X2_rememberShape : Cond.initialized yX2_rememberShape.cls ∈ eTB ∧ mWord mX2_rememberShape ∈ eTB ∧ (yX2_rememberShape.cls ≠ "java/lang/invoke/MethodHandle" ∧ yX2_rememberShape.cls ≠ "java/lang/invoke/VarHandle") ∧ (parseMethodDescriptor yX2_rememberShape.desc).map (fun d => d.parameters.length) = some 0 := ⟨wd_1_2, wd_4_187, ⟨by decide +kernel, by decide +kernel⟩, by decide +kernel⟩
theorem ca_X2_passLead : Cond.initialized yX2_passLead.cls ∈ eTB ∧ mWord mX2_passLead ∈ eTB ∧ (yX2_passLead.cls ≠ "java/lang/invoke/MethodHandle" ∧ yX2_passLead.cls ≠ "java/lang/invoke/VarHandle") ∧ (parseMethodDescriptor yX2_passLead.desc).map (fun d => d.parameters.length) = some 0 := ⟨wd_1_2, wd_4_201, ⟨by decide +kernel, by decide +kernel⟩, by decide +kernel⟩
theorem ca_X2_isPossible : Cond.initialized yX2_isPossible.cls ∈ eTB ∧ mWord mX2_isPossible ∈ eTB ∧ (yX2_isPossible.cls ≠ "java/lang/invoke/MethodHandle" ∧ yX2_isPossible.cls ≠ "java/lang/invoke/VarHandle") ∧ (parseMethodDescriptor yX2_isPossible.desc).map (fun d => d.parameters.length) = some 3 := ⟨wd_1_2, wd_2_149, ⟨by decide +kernel, by decide +kernel⟩, by decide +kernel⟩
theorem ca_X2_lowestTouched : Cond.initialized yX2_lowestTouched.cls ∈ eTB ∧ mWord mX2_lowestTouched ∈ eTB ∧ (yX2_lowestTouched.cls ≠ "java/lang/invoke/MethodHandle" ∧ yX2_lowestTouched.cls ≠ "java/lang/invoke/VarHandle") ∧ (parseMethodDescriptor yX2_lowestTouched.desc).map (fun d => d.parameters.length) = some 3 := ⟨wd_1_2, wd_2_161, ⟨by decide +kernel, by decide +kernel⟩, by decide +kernel⟩
theorem ca_X2_basketIn : Cond.initialized yX2_basketIn.cls ∈ eTB ∧ mWord mX2_basketIn ∈ eTB ∧ (yX2_basketIn.cls ≠ "java/lang/invoke/MethodHandle" ∧ yX2_basketIn.cls ≠ "java/lang/invoke/VarHandle") ∧ (parseMethodDescriptor yX2_basketIn.desc).map (fun d => d.parameters.length) = some 2 := ⟨wd_1_2, wd_2_235, ⟨by decide +kernel, by decide +kernel⟩, by decide +kernel⟩
theorem ca_X2_signOf : Cond.initialized yX2_signOf.cls ∈ eTB ∧ mWord mX2_signOf ∈ eTB ∧ (yX2_signOf.cls ≠ "java/lang/invoke/MethodHandle" ∧ yX2_signOf.cls ≠ "java/lang/invoke/VarHandle") ∧ (parseMethodDescriptor yX2_signOf.desc).map (fun d => d.parameters.length) = some 2 := ⟨wd_1_2, wd_5_199, ⟨by decide +kernel, by decide +kernel⟩, by decide +kernel⟩
theorem ca_X2_isApartAndClear : Cond.initialized yX2_isApartAndClear.cls ∈ eTB ∧ mWord mX2_isApartAndClear ∈ eTB ∧ (yX2_isApartAndClear.cls ≠ "java/lang/invoke/MethodHandle" ∧ yX2_isApartAndClear.cls ≠ "java/lang/invoke/VarHandle") ∧ (parseMethodDescriptor yX2_isApartAndClear.desc).map (fun d => d.parameters.length) = some 0 := ⟨wd_1_2, wd_2_145, ⟨by decide +kernel, by decide +kernel⟩, by decide +kernel⟩
theorem ca_X2_has : Cond.initialized yX2_has.cls ∈ eTB ∧ mWord mX2_has ∈ eTB ∧ (yX2_has.cls ≠ "java/lang/invoke/MethodHandle" ∧ yX2_has.cls ≠ "java/lang/invoke/VarHandle") ∧ (parseMethodDescriptor yX2_has.desc).map (fun d => d.parameters.length) = some 1 := ⟨wd_1_2, wd_2_58, ⟨by decide +kernel, by decide +kernel⟩, by decide +kernel⟩
theorem ca_X2_distanceFrom : Cond.initialized yX2_distanceFrom.cls ∈ eTB ∧ mWord mX2_distanceFrom ∈ eTB ∧ (yX2_distanceFrom.cls ≠ "java/lang/invoke/MethodHandle" ∧ yX2_distanceFrom.cls ≠ "java/lang/invoke/VarHandle") ∧ (parseMethodDescriptor yX2_distanceFrom.desc).map (fun d => d.parameters.length) = some 3 := ⟨wd_1_2, wd_2_62, ⟨by decide +kernel, by decide +kernel⟩, by decide +kernel⟩
theorem ca_X2_distanceOf : Cond.initialized yX2_distanceOf.cls ∈ eTB ∧ mWord mX2_distanceOf ∈ eTB ∧ (yX2_distanceOf.cls ≠ "java/lang/invoke/MethodHandle" ∧ yX2_distanceOf.cls ≠ "java/lang/invoke/VarHandle") ∧ (parseMethodDescriptor yX2_distanceOf.desc).map (fun d => d.parameters.length) = some 2 := ⟨wd_1_2, wd_2_54, ⟨by decide +kernel, by decide +kernel⟩, by decide +kernel⟩
theorem ca_X2_nearestOther : Cond.initialized yX2_nearestOther.cls ∈ eTB ∧ mWord mX2_nearestOther ∈ eTB ∧ (yX2_nearestOther.cls ≠ "java/lang/invoke/MethodHandle" ∧ yX2_nearestOther.cls ≠ "java/lang/invoke/VarHandle") ∧ (parseMethodDescriptor yX2_nearestOther.desc).map (fun d => d.parameters.length) = some 1 := ⟨wd_1_2, wd_4_25, ⟨by decide +kernel, by decide +kernel⟩, by decide +kernel⟩
theorem ca_X2_basketWithRank : Cond.initialized yX2_basketWithRank.cls ∈ eTB ∧ mWord mX2_basketWithRank ∈ eTB ∧ (yX2_basketWithRank.cls ≠ "java/lang/invoke/MethodHandle" ∧ yX2_basketWithRank.cls ≠ "java/lang/invoke/VarHandle") ∧ (parseMethodDescriptor yX2_basketWithRank.desc).map (fun d => d.parameters.length) = some 1 := ⟨wd_1_2, wd_5_26, ⟨by decide +kernel, by decide +kernel⟩, by decide +kernel⟩
theorem ca_X2_rankOf : Cond.initialized yX2_rankOf.cls ∈ eTB ∧ mWord mX2_rankOf ∈ eTB ∧ (yX2_rankOf.cls ≠ "java/lang/invoke/MethodHandle" ∧ yX2_rankOf.cls ≠ "java/lang/invoke/VarHandle") ∧ (parseMethodDescriptor yX2_rankOf.desc).map (fun d => d.parameters.length) = some 1 := ⟨wd_1_2, wd_5_30, ⟨by decide +kernel, by decide +kernel⟩, by decide +kernel⟩
theorem ca_X2_sumOfDistancesFromLeader : Cond.initialized yX2_sumOfDistancesFromLeader.cls ∈ eTB ∧ mWord mX2_sumOfDistancesFromLeader ∈ eTB ∧ (yX2_sumOfDistancesFromLeader.cls ≠ "java/lang/invoke/MethodHandle" ∧ yX2_sumOfDistancesFromLeader.cls ≠ "java/lang/invoke/VarHandle") ∧ (parseMethodDescriptor yX2_sumOfDistancesFromLeader.desc).map (fun d => d.parameters.length) = some 0 := ⟨wd_1_2, wd_5_235, ⟨by decide +kernel, by decide +kernel⟩, by decide +kernel⟩
theorem ca_X2_hasTarget : Cond.initialized yX2_hasTarget.cls ∈ eTB ∧ mWord mX2_hasTarget ∈ eTB ∧ (yX2_hasTarget.cls ≠ "java/lang/invoke/MethodHandle" ∧ yX2_hasTarget.cls ≠ "java/lang/invoke/VarHandle") ∧ (parseMethodDescriptor yX2_hasTarget.desc).map (fun d => d.parameters.length) = some 0 := ⟨wd_1_2, wd_4_143, ⟨by decide +kernel, by decide +kernel⟩, by decide +kernel⟩
theorem ca_X2_leaderIsOnTarget : Cond.initialized yX2_leaderIsOnTarget.cls ∈ eTB ∧ mWord mX2_leaderIsOnTarget ∈ eTB ∧ (yX2_leaderIsOnTarget.cls ≠ "java/lang/invoke/MethodHandle" ∧ yX2_leaderIsOnTarget.cls ≠ "java/lang/invoke/VarHandle") ∧ (parseMethodDescriptor yX2_leaderIsOnTarget.desc).map (fun d => d.parameters.length) = some 0 := ⟨wd_1_2, wd_4_162, ⟨by decide +kernel, by decide +kernel⟩, by decide +kernel⟩
theorem ca_X2_leaderByFormula : Cond.initialized yX2_leaderByFormula.cls ∈ eTB ∧ mWord mX2_leaderByFormula ∈ eTB ∧ (yX2_leaderByFormula.cls ≠ "java/lang/invoke/MethodHandle" ∧ yX2_leaderByFormula.cls ≠ "java/lang/invoke/VarHandle") ∧ (parseMethodDescriptor yX2_leaderByFormula.desc).map (fun d => d.parameters.length) = some 1 := ⟨wd_1_2, wd_2_169, ⟨by decide +kernel, by decide +kernel⟩, by decide +kernel⟩
theorem ca_X2_leaderByCounting : Cond.initialized yX2_leaderByCounting.cls ∈ eTB ∧ mWord mX2_leaderByCounting ∈ eTB ∧ (yX2_leaderByCounting.cls ≠ "java/lang/invoke/MethodHandle" ∧ yX2_leaderByCounting.cls ≠ "java/lang/invoke/VarHandle") ∧ (parseMethodDescriptor yX2_leaderByCounting.desc).map (fun d => d.parameters.length) = some 1 := ⟨wd_1_2, wd_2_173, ⟨by decide +kernel, by decide +kernel⟩, by decide +kernel⟩
theorem ca_X2_sumOfMoves : Cond.initialized yX2_sumOfMoves.cls ∈ eTB ∧ mWord mX2_sumOfMoves ∈ eTB ∧ (yX2_sumOfMoves.cls ≠ "java/lang/invoke/MethodHandle" ∧ yX2_sumOfMoves.cls ≠ "java/lang/invoke/VarHandle") ∧ (parseMethodDescriptor yX2_sumOfMoves.desc).map (fun d => d.parameters.length) = some 0 := ⟨wd_1_2, wd_2_26, ⟨by decide +kernel, by decide +kernel⟩, by decide +kernel⟩
theorem ca_X2_linked : Cond.initialized yX2_linked.cls ∈ eTB ∧ mWord mX2_linked ∈ eTB ∧ (yX2_linked.cls ≠ "java/lang/invoke/MethodHandle" ∧ yX2_linked.cls ≠ "java/lang/invoke/VarHandle") ∧ (parseMethodDescriptor yX2_linked.desc).map (fun d => d.parameters.length) = some 2 := ⟨wd_1_2, wd_2_50, ⟨by decide +kernel, by decide +kernel⟩, by decide +kernel⟩
theorem ca_X2_linkedPairs : Cond.initialized yX2_linkedPairs.cls ∈ eTB ∧ mWord mX2_linkedPairs ∈ eTB ∧ (yX2_linkedPairs.cls ≠ "java/lang/invoke/MethodHandle" ∧ yX2_linkedPairs.cls ≠ "java/lang/invoke/VarHandle") ∧ (parseMethodDescriptor yX2_linkedPairs.desc).map (fun d => d.parameters.length) = some 0 := ⟨wd_1_2, wd_2_113, ⟨by decide +kernel, by decide +kernel⟩, by decide +kernel⟩
theorem ca_X2_mixedByComparing : Cond.initialized yX2_mixedByComparing.cls ∈ eTB ∧ mWord mX2_mixedByComparing ∈ eTB ∧ (yX2_mixedByComparing.cls ≠ "java/lang/invoke/MethodHandle" ∧ yX2_mixedByComparing.cls ≠ "java/lang/invoke/VarHandle") ∧ (parseMethodDescriptor yX2_mixedByComparing.desc).map (fun d => d.parameters.length) = some 0 := ⟨wd_1_2, wd_2_100, ⟨by decide +kernel, by decide +kernel⟩, by decide +kernel⟩
theorem ca_X2_mixedByHandles : Cond.initialized yX2_mixedByHandles.cls ∈ eTB ∧ mWord mX2_mixedByHandles ∈ eTB ∧ (yX2_mixedByHandles.cls ≠ "java/lang/invoke/MethodHandle" ∧ yX2_mixedByHandles.cls ≠ "java/lang/invoke/VarHandle") ∧ (parseMethodDescriptor yX2_mixedByHandles.desc).map (fun d => d.parameters.length) = some 0 := ⟨wd_1_2, wd_2_109, ⟨by decide +kernel, by decide +kernel⟩, by decide +kernel⟩
theorem ca_X2_linkedPairsOfHandle : Cond.initialized yX2_linkedPairsOfHandle.cls ∈ eTB ∧ mWord mX2_linkedPairsOfHandle ∈ eTB ∧ (yX2_linkedPairsOfHandle.cls ≠ "java/lang/invoke/MethodHandle" ∧ yX2_linkedPairsOfHandle.cls ≠ "java/lang/invoke/VarHandle") ∧ (parseMethodDescriptor yX2_linkedPairsOfHandle.desc).map (fun d => d.parameters.length) = some 1 := ⟨wd_1_2, wd_2_117, ⟨by decide +kernel, by decide +kernel⟩, by decide +kernel⟩
theorem ca_X2_stepsSincePresentShape : Cond.initialized yX2_stepsSincePresentShape.cls ∈ eTB ∧ mWord mX2_stepsSincePresentShape ∈ eTB ∧ (yX2_stepsSincePresentShape.cls ≠ "java/lang/invoke/MethodHandle" ∧ yX2_stepsSincePresentShape.cls ≠ "java/lang/invoke/VarHandle") ∧ (parseMethodDescriptor yX2_stepsSincePresentShape.desc).map (fun d => d.parameters.length) = some 0 := ⟨wd_1_2, wd_5_10, ⟨by decide +kernel, by decide +kernel⟩, by decide +kernel⟩
theorem ca_X2_drawPresentShape : Cond.initialized yX2_drawPresentShape.cls ∈ eTB ∧ mWord mX2_drawPresentShape ∈ eTB ∧ (yX2_drawPresentShape.cls ≠ "java/lang/invoke/MethodHandle" ∧ yX2_drawPresentShape.cls ≠ "java/lang/invoke/VarHandle") ∧ (parseMethodDescriptor yX2_drawPresentShape.desc).map (fun d => d.parameters.length) = some 0 := ⟨wd_1_2, wd_4_191, ⟨by decide +kernel, by decide +kernel⟩, by decide +kernel⟩
theorem ca_X3_init : Cond.initialized yX3_init.cls ∈ eTB ∧ mWord mX3_init ∈ eTB ∧ (yX3_init.cls ≠ "java/lang/invoke/MethodHandle" ∧ yX3_init.cls ≠ "java/lang/invoke/VarHandle") ∧ (parseMethodDescriptor yX3_init.desc).map (fun d => d.parameters.length) = some 0 := ⟨wd_1_6, wd_1_161, ⟨by decide +kernel, by decide +kernel⟩, by decide +kernel⟩
theorem ca_X3_countByGoing : Cond.initialized yX3_countByGoing.cls ∈ eTB ∧ mWord mX3_countByGoing ∈ eTB ∧ (yX3_countByGoing.cls ≠ "java/lang/invoke/MethodHandle" ∧ yX3_countByGoing.cls ≠ "java/lang/invoke/VarHandle") ∧ (parseMethodDescriptor yX3_countByGoing.desc).map (fun d => d.parameters.length) = some 1 := ⟨wd_1_6, wd_2_38, ⟨by decide +kernel, by decide +kernel⟩, by decide +kernel⟩
theorem ca_X3_lowestWith : Cond.initialized yX3_lowestWith.cls ∈ eTB ∧ mWord mX3_lowestWith ∈ eTB ∧ (yX3_lowestWith.cls ≠ "java/lang/invoke/MethodHandle" ∧ yX3_lowestWith.cls ≠ "java/lang/invoke/VarHandle") ∧ (parseMethodDescriptor yX3_lowestWith.desc).map (fun d => d.parameters.length) = some 2 := ⟨wd_1_6, wd_4_238, ⟨by decide +kernel, by decide +kernel⟩, by decide +kernel⟩
theorem ca_X3_largest : Cond.initialized yX3_largest.cls ∈ eTB ∧ mWord mX3_largest ∈ eTB ∧ (yX3_largest.cls ≠ "java/lang/invoke/MethodHandle" ∧ yX3_largest.cls ≠ "java/lang/invoke/VarHandle") ∧ (parseMethodDescriptor yX3_largest.desc).map (fun d => d.parameters.length) = some 1 := ⟨wd_1_6, wd_2_85, ⟨by decide +kernel, by decide +kernel⟩, by decide +kernel⟩
theorem ca_X3_sizeOfGroup : Cond.initialized yX3_sizeOfGroup.cls ∈ eTB ∧ mWord mX3_sizeOfGroup ∈ eTB ∧ (yX3_sizeOfGroup.cls ≠ "java/lang/invoke/MethodHandle" ∧ yX3_sizeOfGroup.cls ≠ "java/lang/invoke/VarHandle") ∧ (parseMethodDescriptor yX3_sizeOfGroup.desc).map (fun d => d.parameters.length) = some 2 := ⟨wd_1_6, wd_2_89, ⟨by decide +kernel, by decide +kernel⟩, by decide +kernel⟩
theorem ca_X3_goThrough : Cond.initialized yX3_goThrough.cls ∈ eTB ∧ mWord mX3_goThrough ∈ eTB ∧ (yX3_goThrough.cls ≠ "java/lang/invoke/MethodHandle" ∧ yX3_goThrough.cls ≠ "java/lang/invoke/VarHandle") ∧ (parseMethodDescriptor yX3_goThrough.desc).map (fun d => d.parameters.length) = some 1 := ⟨wd_1_6, wd_2_42, ⟨by decide +kernel, by decide +kernel⟩, by decide +kernel⟩
theorem ca_X3_goFrom : Cond.initialized yX3_goFrom.cls ∈ eTB ∧ mWord mX3_goFrom ∈ eTB ∧ (yX3_goFrom.cls ≠ "java/lang/invoke/MethodHandle" ∧ yX3_goFrom.cls ≠ "java/lang/invoke/VarHandle") ∧ (parseMethodDescriptor yX3_goFrom.desc).map (fun d => d.parameters.length) = some 2 := ⟨wd_1_6, wd_2_46, ⟨by decide +kernel, by decide +kernel⟩, by decide +kernel⟩
theorem ca_X3_countByMerging : Cond.initialized yX3_countByMerging.cls ∈ eTB ∧ mWord mX3_countByMerging ∈ eTB ∧ (yX3_countByMerging.cls ≠ "java/lang/invoke/MethodHandle" ∧ yX3_countByMerging.cls ≠ "java/lang/invoke/VarHandle") ∧ (parseMethodDescriptor yX3_countByMerging.desc).map (fun d => d.parameters.length) = some 1 := ⟨wd_1_6, wd_2_73, ⟨by decide +kernel, by decide +kernel⟩, by decide +kernel⟩
theorem ca_X3_merge : Cond.initialized yX3_merge.cls ∈ eTB ∧ mWord mX3_merge ∈ eTB ∧ (yX3_merge.cls ≠ "java/lang/invoke/MethodHandle" ∧ yX3_merge.cls ≠ "java/lang/invoke/VarHandle") ∧ (parseMethodDescriptor yX3_merge.desc).map (fun d => d.parameters.length) = some 3 := ⟨wd_1_6, wd_2_77, ⟨by decide +kernel, by decide +kernel⟩, by decide +kernel⟩
theorem ca_X4_init : Cond.initialized yX4_init.cls ∈ eTB ∧ mWord mX4_init ∈ eTB ∧ (yX4_init.cls ≠ "java/lang/invoke/MethodHandle" ∧ yX4_init.cls ≠ "java/lang/invoke/VarHandle") ∧ (parseMethodDescriptor yX4_init.desc).map (fun d => d.parameters.length) = some 0 := ⟨wd_1_5, wd_1_141, ⟨by decide +kernel, by decide +kernel⟩, by decide +kernel⟩
theorem ca_X4_push : Cond.initialized yX4_push.cls ∈ eTB ∧ mWord mX4_push ∈ eTB ∧ (yX4_push.cls ≠ "java/lang/invoke/MethodHandle" ∧ yX4_push.cls ≠ "java/lang/invoke/VarHandle") ∧ (parseMethodDescriptor yX4_push.desc).map (fun d => d.parameters.length) = some 1 := ⟨wd_1_5, wd_3_153, ⟨by decide +kernel, by decide +kernel⟩, by decide +kernel⟩
theorem ca_X4_pop : Cond.initialized yX4_pop.cls ∈ eTB ∧ mWord mX4_pop ∈ eTB ∧ (yX4_pop.cls ≠ "java/lang/invoke/MethodHandle" ∧ yX4_pop.cls ≠ "java/lang/invoke/VarHandle") ∧ (parseMethodDescriptor yX4_pop.desc).map (fun d => d.parameters.length) = some 1 := ⟨wd_1_5, wd_6_16, ⟨by decide +kernel, by decide +kernel⟩, by decide +kernel⟩
theorem ca_X4_forget : Cond.initialized yX4_forget.cls ∈ eTB ∧ mWord mX4_forget ∈ eTB ∧ (yX4_forget.cls ≠ "java/lang/invoke/MethodHandle" ∧ yX4_forget.cls ≠ "java/lang/invoke/VarHandle") ∧ (parseMethodDescriptor yX4_forget.desc).map (fun d => d.parameters.length) = some 0 := ⟨wd_1_5, wd_6_28, ⟨by decide +kernel, by decide +kernel⟩, by decide +kernel⟩
theorem ca_X5_init : Cond.initialized yX5_init.cls ∈ eTB ∧ mWord mX5_init ∈ eTB ∧ (yX5_init.cls ≠ "java/lang/invoke/MethodHandle" ∧ yX5_init.cls ≠ "java/lang/invoke/VarHandle") ∧ (parseMethodDescriptor yX5_init.desc).map (fun d => d.parameters.length) = some 0 := ⟨wd_1_4, wd_1_59, ⟨by decide +kernel, by decide +kernel⟩, by decide +kernel⟩
theorem ca_X5_remember : Cond.initialized yX5_remember.cls ∈ eTB ∧ mWord mX5_remember ∈ eTB ∧ (yX5_remember.cls ≠ "java/lang/invoke/MethodHandle" ∧ yX5_remember.cls ≠ "java/lang/invoke/VarHandle") ∧ (parseMethodDescriptor yX5_remember.desc).map (fun d => d.parameters.length) = some 1 := ⟨wd_1_4, wd_4_196, ⟨by decide +kernel, by decide +kernel⟩, by decide +kernel⟩
theorem ca_X5_stepsSince : Cond.initialized yX5_stepsSince.cls ∈ eTB ∧ mWord mX5_stepsSince ∈ eTB ∧ (yX5_stepsSince.cls ≠ "java/lang/invoke/MethodHandle" ∧ yX5_stepsSince.cls ≠ "java/lang/invoke/VarHandle") ∧ (parseMethodDescriptor yX5_stepsSince.desc).map (fun d => d.parameters.length) = some 1 := ⟨wd_1_4, wd_5_14, ⟨by decide +kernel, by decide +kernel⟩, by decide +kernel⟩
theorem ca_X5_countDifferent : Cond.initialized yX5_countDifferent.cls ∈ eTB ∧ mWord mX5_countDifferent ∈ eTB ∧ (yX5_countDifferent.cls ≠ "java/lang/invoke/MethodHandle" ∧ yX5_countDifferent.cls ≠ "java/lang/invoke/VarHandle") ∧ (parseMethodDescriptor yX5_countDifferent.desc).map (fun d => d.parameters.length) = some 0 := ⟨wd_1_4, wd_2_129, ⟨by decide +kernel, by decide +kernel⟩, by decide +kernel⟩
theorem ca_X5_standsBefore : Cond.initialized yX5_standsBefore.cls ∈ eTB ∧ mWord mX5_standsBefore ∈ eTB ∧ (yX5_standsBefore.cls ≠ "java/lang/invoke/MethodHandle" ∧ yX5_standsBefore.cls ≠ "java/lang/invoke/VarHandle") ∧ (parseMethodDescriptor yX5_standsBefore.desc).map (fun d => d.parameters.length) = some 1 := ⟨wd_1_4, wd_2_133, ⟨by decide +kernel, by decide +kernel⟩, by decide +kernel⟩
theorem ca_X5_holds : Cond.initialized yX5_holds.cls ∈ eTB ∧ mWord mX5_holds ∈ eTB ∧ (yX5_holds.cls ≠ "java/lang/invoke/MethodHandle" ∧ yX5_holds.cls ≠ "java/lang/invoke/VarHandle") ∧ (parseMethodDescriptor yX5_holds.desc).map (fun d => d.parameters.length) = some 3 := ⟨wd_1_4, wd_2_137, ⟨by decide +kernel, by decide +kernel⟩, by decide +kernel⟩
theorem ca_X5_copyFrom : Cond.initialized yX5_copyFrom.cls ∈ eTB ∧ mWord mX5_copyFrom ∈ eTB ∧ (yX5_copyFrom.cls ≠ "java/lang/invoke/MethodHandle" ∧ yX5_copyFrom.cls ≠ "java/lang/invoke/VarHandle") ∧ (parseMethodDescriptor yX5_copyFrom.desc).map (fun d => d.parameters.length) = some 1 := ⟨wd_1_4, wd_2_193, ⟨by decide +kernel, by decide +kernel⟩, by decide +kernel⟩
theorem ca_X6_init : Cond.initialized yX6_init.cls ∈ eTB ∧ mWord mX6_init ∈ eTB ∧ (yX6_init.cls ≠ "java/lang/invoke/MethodHandle" ∧ yX6_init.cls ≠ "java/lang/invoke/VarHandle") ∧ (parseMethodDescriptor yX6_init.desc).map (fun d => d.parameters.length) = some 0 := ⟨wd_1_1, wd_1_29, ⟨by decide +kernel, by decide +kernel⟩, by decide +kernel⟩
theorem ca_X6_addBasket : Cond.initialized yX6_addBasket.cls ∈ eTB ∧ mWord mX6_addBasket ∈ eTB ∧ (yX6_addBasket.cls ≠ "java/lang/invoke/MethodHandle" ∧ yX6_addBasket.cls ≠ "java/lang/invoke/VarHandle") ∧ (parseMethodDescriptor yX6_addBasket.desc).map (fun d => d.parameters.length) = some 3 := ⟨wd_1_1, wd_2_204, ⟨by decide +kernel, by decide +kernel⟩, by decide +kernel⟩
theorem ca_X6_jump : Cond.initialized yX6_jump.cls ∈ eTB ∧ mWord mX6_jump ∈ eTB ∧ (yX6_jump.cls ≠ "java/lang/invoke/MethodHandle" ∧ yX6_jump.cls ≠ "java/lang/invoke/VarHandle") ∧ (parseMethodDescriptor yX6_jump.desc).map (fun d => d.parameters.length) = some 3 := ⟨wd_1_1, wd_3_189, ⟨by decide +kernel, by decide +kernel⟩, by decide +kernel⟩
theorem ca_X6_setHandle : Cond.initialized yX6_setHandle.cls ∈ eTB ∧ mWord mX6_setHandle ∈ eTB ∧ (yX6_setHandle.cls ≠ "java/lang/invoke/MethodHandle" ∧ yX6_setHandle.cls ≠ "java/lang/invoke/VarHandle") ∧ (parseMethodDescriptor yX6_setHandle.desc).map (fun d => d.parameters.length) = some 2 := ⟨wd_1_1, wd_3_200, ⟨by decide +kernel, by decide +kernel⟩, by decide +kernel⟩
theorem ca_X6_basketCount : Cond.initialized yX6_basketCount.cls ∈ eTB ∧ mWord mX6_basketCount ∈ eTB ∧ (yX6_basketCount.cls ≠ "java/lang/invoke/MethodHandle" ∧ yX6_basketCount.cls ≠ "java/lang/invoke/VarHandle") ∧ (parseMethodDescriptor yX6_basketCount.desc).map (fun d => d.parameters.length) = some 0 := ⟨wd_1_1, wd_2_2, ⟨by decide +kernel, by decide +kernel⟩, by decide +kernel⟩
theorem ca_X6_xOf : Cond.initialized yX6_xOf.cls ∈ eTB ∧ mWord mX6_xOf ∈ eTB ∧ (yX6_xOf.cls ≠ "java/lang/invoke/MethodHandle" ∧ yX6_xOf.cls ≠ "java/lang/invoke/VarHandle") ∧ (parseMethodDescriptor yX6_xOf.desc).map (fun d => d.parameters.length) = some 1 := ⟨wd_1_1, wd_3_211, ⟨by decide +kernel, by decide +kernel⟩, by decide +kernel⟩
theorem ca_X6_yOf : Cond.initialized yX6_yOf.cls ∈ eTB ∧ mWord mX6_yOf ∈ eTB ∧ (yX6_yOf.cls ≠ "java/lang/invoke/MethodHandle" ∧ yX6_yOf.cls ≠ "java/lang/invoke/VarHandle") ∧ (parseMethodDescriptor yX6_yOf.desc).map (fun d => d.parameters.length) = some 1 := ⟨wd_1_1, wd_3_223, ⟨by decide +kernel, by decide +kernel⟩, by decide +kernel⟩
theorem ca_X6_handleOf : Cond.initialized yX6_handleOf.cls ∈ eTB ∧ mWord mX6_handleOf ∈ eTB ∧ (yX6_handleOf.cls ≠ "java/lang/invoke/MethodHandle" ∧ yX6_handleOf.cls ≠ "java/lang/invoke/VarHandle") ∧ (parseMethodDescriptor yX6_handleOf.desc).map (fun d => d.parameters.length) = some 1 := ⟨wd_1_1, wd_3_230, ⟨by decide +kernel, by decide +kernel⟩, by decide +kernel⟩
theorem ca_X6_basketAt : Cond.initialized yX6_basketAt.cls ∈ eTB ∧ mWord mX6_basketAt ∈ eTB ∧ (yX6_basketAt.cls ≠ "java/lang/invoke/MethodHandle" ∧ yX6_basketAt.cls ≠ "java/lang/invoke/VarHandle") ∧ (parseMethodDescriptor yX6_basketAt.desc).map (fun d => d.parameters.length) = some 2 := ⟨wd_1_1, wd_3_238, ⟨by decide +kernel, by decide +kernel⟩, by decide +kernel⟩
theorem ca_X6_distance : Cond.initialized yX6_distance.cls ∈ eTB ∧ mWord mX6_distance ∈ eTB ∧ (yX6_distance.cls ≠ "java/lang/invoke/MethodHandle" ∧ yX6_distance.cls ≠ "java/lang/invoke/VarHandle") ∧ (parseMethodDescriptor yX6_distance.desc).map (fun d => d.parameters.length) = some 2 := ⟨wd_1_1, wd_4_13, ⟨by decide +kernel, by decide +kernel⟩, by decide +kernel⟩
theorem ca_X6_nearestTo : Cond.initialized yX6_nearestTo.cls ∈ eTB ∧ mWord mX6_nearestTo ∈ eTB ∧ (yX6_nearestTo.cls ≠ "java/lang/invoke/MethodHandle" ∧ yX6_nearestTo.cls ≠ "java/lang/invoke/VarHandle") ∧ (parseMethodDescriptor yX6_nearestTo.desc).map (fun d => d.parameters.length) = some 1 := ⟨wd_1_1, wd_4_21, ⟨by decide +kernel, by decide +kernel⟩, by decide +kernel⟩
theorem ca_X6_refusalReason : Cond.initialized yX6_refusalReason.cls ∈ eTB ∧ mWord mX6_refusalReason ∈ eTB ∧ (yX6_refusalReason.cls ≠ "java/lang/invoke/MethodHandle" ∧ yX6_refusalReason.cls ≠ "java/lang/invoke/VarHandle") ∧ (parseMethodDescriptor yX6_refusalReason.desc).map (fun d => d.parameters.length) = some 0 := ⟨wd_1_1, wd_4_33, ⟨by decide +kernel, by decide +kernel⟩, by decide +kernel⟩
theorem ca_X6_refusalDetail : Cond.initialized yX6_refusalDetail.cls ∈ eTB ∧ mWord mX6_refusalDetail ∈ eTB ∧ (yX6_refusalDetail.cls ≠ "java/lang/invoke/MethodHandle" ∧ yX6_refusalDetail.cls ≠ "java/lang/invoke/VarHandle") ∧ (parseMethodDescriptor yX6_refusalDetail.desc).map (fun d => d.parameters.length) = some 0 := ⟨wd_1_1, wd_4_45, ⟨by decide +kernel, by decide +kernel⟩, by decide +kernel⟩
theorem ca_X6_addCloud : Cond.initialized yX6_addCloud.cls ∈ eTB ∧ mWord mX6_addCloud ∈ eTB ∧ (yX6_addCloud.cls ≠ "java/lang/invoke/MethodHandle" ∧ yX6_addCloud.cls ≠ "java/lang/invoke/VarHandle") ∧ (parseMethodDescriptor yX6_addCloud.desc).map (fun d => d.parameters.length) = some 2 := ⟨wd_1_1, wd_4_52, ⟨by decide +kernel, by decide +kernel⟩, by decide +kernel⟩
theorem ca_X6_removeCloud : Cond.initialized yX6_removeCloud.cls ∈ eTB ∧ mWord mX6_removeCloud ∈ eTB ∧ (yX6_removeCloud.cls ≠ "java/lang/invoke/MethodHandle" ∧ yX6_removeCloud.cls ≠ "java/lang/invoke/VarHandle") ∧ (parseMethodDescriptor yX6_removeCloud.desc).map (fun d => d.parameters.length) = some 2 := ⟨wd_1_1, wd_4_64, ⟨by decide +kernel, by decide +kernel⟩, by decide +kernel⟩
theorem ca_X6_isCloud : Cond.initialized yX6_isCloud.cls ∈ eTB ∧ mWord mX6_isCloud ∈ eTB ∧ (yX6_isCloud.cls ≠ "java/lang/invoke/MethodHandle" ∧ yX6_isCloud.cls ≠ "java/lang/invoke/VarHandle") ∧ (parseMethodDescriptor yX6_isCloud.desc).map (fun d => d.parameters.length) = some 2 := ⟨wd_1_1, wd_4_75, ⟨by decide +kernel, by decide +kernel⟩, by decide +kernel⟩
theorem ca_X6_cloudCount : Cond.initialized yX6_cloudCount.cls ∈ eTB ∧ mWord mX6_cloudCount ∈ eTB ∧ (yX6_cloudCount.cls ≠ "java/lang/invoke/MethodHandle" ∧ yX6_cloudCount.cls ≠ "java/lang/invoke/VarHandle") ∧ (parseMethodDescriptor yX6_cloudCount.desc).map (fun d => d.parameters.length) = some 0 := ⟨wd_1_1, wd_2_6, ⟨by decide +kernel, by decide +kernel⟩, by decide +kernel⟩
theorem ca_X6_setTurnLength : Cond.initialized yX6_setTurnLength.cls ∈ eTB ∧ mWord mX6_setTurnLength ∈ eTB ∧ (yX6_setTurnLength.cls ≠ "java/lang/invoke/MethodHandle" ∧ yX6_setTurnLength.cls ≠ "java/lang/invoke/VarHandle") ∧ (parseMethodDescriptor yX6_setTurnLength.desc).map (fun d => d.parameters.length) = some 1 := ⟨wd_1_1, wd_4_82, ⟨by decide +kernel, by decide +kernel⟩, by decide +kernel⟩
theorem ca_X6_turnLength : Cond.initialized yX6_turnLength.cls ∈ eTB ∧ mWord mX6_turnLength ∈ eTB ∧ (yX6_turnLength.cls ≠ "java/lang/invoke/MethodHandle" ∧ yX6_turnLength.cls ≠ "java/lang/invoke/VarHandle") ∧ (parseMethodDescriptor yX6_turnLength.desc).map (fun d => d.parameters.length) = some 0 := ⟨wd_1_1, wd_2_10, ⟨by decide +kernel, by decide +kernel⟩, by decide +kernel⟩
theorem ca_X6_leader : Cond.initialized yX6_leader.cls ∈ eTB ∧ mWord mX6_leader ∈ eTB ∧ (yX6_leader.cls ≠ "java/lang/invoke/MethodHandle" ∧ yX6_leader.cls ≠ "java/lang/invoke/VarHandle") ∧ (parseMethodDescriptor yX6_leader.desc).map (fun d => d.parameters.length) = some 0 := ⟨wd_1_1, wd_4_93, ⟨by decide +kernel, by decide +kernel⟩, by decide +kernel⟩
theorem ca_X6_leaderAfter : Cond.initialized yX6_leaderAfter.cls ∈ eTB ∧ mWord mX6_leaderAfter ∈ eTB ∧ (yX6_leaderAfter.cls ≠ "java/lang/invoke/MethodHandle" ∧ yX6_leaderAfter.cls ≠ "java/lang/invoke/VarHandle") ∧ (parseMethodDescriptor yX6_leaderAfter.desc).map (fun d => d.parameters.length) = some 1 := ⟨wd_1_1, wd_4_105, ⟨by decide +kernel, by decide +kernel⟩, by decide +kernel⟩
theorem ca_X6_leaderAfterByCounting : Cond.initialized yX6_leaderAfterByCounting.cls ∈ eTB ∧ mWord mX6_leaderAfterByCounting ∈ eTB ∧ (yX6_leaderAfterByCounting.cls ≠ "java/lang/invoke/MethodHandle" ∧ yX6_leaderAfterByCounting.cls ≠ "java/lang/invoke/VarHandle") ∧ (parseMethodDescriptor yX6_leaderAfterByCounting.desc).map (fun d => d.parameters.length) = some 1 := ⟨wd_1_1, wd_4_117, ⟨by decide +kernel, by decide +kernel⟩, by decide +kernel⟩
theorem ca_X6_setTarget : Cond.initialized yX6_setTarget.cls ∈ eTB ∧ mWord mX6_setTarget ∈ eTB ∧ (yX6_setTarget.cls ≠ "java/lang/invoke/MethodHandle" ∧ yX6_setTarget.cls ≠ "java/lang/invoke/VarHandle") ∧ (parseMethodDescriptor yX6_setTarget.desc).map (fun d => d.parameters.length) = some 2 := ⟨wd_1_1, wd_4_124, ⟨by decide +kernel, by decide +kernel⟩, by decide +kernel⟩
theorem ca_X6_targetX : Cond.initialized yX6_targetX.cls ∈ eTB ∧ mWord mX6_targetX ∈ eTB ∧ (yX6_targetX.cls ≠ "java/lang/invoke/MethodHandle" ∧ yX6_targetX.cls ≠ "java/lang/invoke/VarHandle") ∧ (parseMethodDescriptor yX6_targetX.desc).map (fun d => d.parameters.length) = some 0 := ⟨wd_1_1, wd_4_135, ⟨by decide +kernel, by decide +kernel⟩, by decide +kernel⟩
theorem ca_X6_targetY : Cond.initialized yX6_targetY.cls ∈ eTB ∧ mWord mX6_targetY ∈ eTB ∧ (yX6_targetY.cls ≠ "java/lang/invoke/MethodHandle" ∧ yX6_targetY.cls ≠ "java/lang/invoke/VarHandle") ∧ (parseMethodDescriptor yX6_targetY.desc).map (fun d => d.parameters.length) = some 0 := ⟨wd_1_1, wd_4_151, ⟨by decide +kernel, by decide +kernel⟩, by decide +kernel⟩
theorem ca_X6_stepsToTarget : Cond.initialized yX6_stepsToTarget.cls ∈ eTB ∧ mWord mX6_stepsToTarget ∈ eTB ∧ (yX6_stepsToTarget.cls ≠ "java/lang/invoke/MethodHandle" ∧ yX6_stepsToTarget.cls ≠ "java/lang/invoke/VarHandle") ∧ (parseMethodDescriptor yX6_stepsToTarget.desc).map (fun d => d.parameters.length) = some 0 := ⟨wd_1_1, wd_4_158, ⟨by decide +kernel, by decide +kernel⟩, by decide +kernel⟩
theorem ca_X6_setKeep : Cond.initialized yX6_setKeep.cls ∈ eTB ∧ mWord mX6_setKeep ∈ eTB ∧ (yX6_setKeep.cls ≠ "java/lang/invoke/MethodHandle" ∧ yX6_setKeep.cls ≠ "java/lang/invoke/VarHandle") ∧ (parseMethodDescriptor yX6_setKeep.desc).map (fun d => d.parameters.length) = some 1 := ⟨wd_1_1, wd_4_209, ⟨by decide +kernel, by decide +kernel⟩, by decide +kernel⟩
theorem ca_X6_keep : Cond.initialized yX6_keep.cls ∈ eTB ∧ mWord mX6_keep ∈ eTB ∧ (yX6_keep.cls ≠ "java/lang/invoke/MethodHandle" ∧ yX6_keep.cls ≠ "java/lang/invoke/VarHandle") ∧ (parseMethodDescriptor yX6_keep.desc).map (fun d => d.parameters.length) = some 0 := ⟨wd_1_1, wd_2_14, ⟨by decide +kernel, by decide +kernel⟩, by decide +kernel⟩
theorem ca_X6_advance : Cond.initialized yX6_advance.cls ∈ eTB ∧ mWord mX6_advance ∈ eTB ∧ (yX6_advance.cls ≠ "java/lang/invoke/MethodHandle" ∧ yX6_advance.cls ≠ "java/lang/invoke/VarHandle") ∧ (parseMethodDescriptor yX6_advance.desc).map (fun d => d.parameters.length) = some 1 := ⟨wd_1_1, wd_4_220, ⟨by decide +kernel, by decide +kernel⟩, by decide +kernel⟩
theorem ca_X6_stepCount : Cond.initialized yX6_stepCount.cls ∈ eTB ∧ mWord mX6_stepCount ∈ eTB ∧ (yX6_stepCount.cls ≠ "java/lang/invoke/MethodHandle" ∧ yX6_stepCount.cls ≠ "java/lang/invoke/VarHandle") ∧ (parseMethodDescriptor yX6_stepCount.desc).map (fun d => d.parameters.length) = some 0 := ⟨wd_1_1, wd_2_18, ⟨by decide +kernel, by decide +kernel⟩, by decide +kernel⟩
theorem ca_X6_movesOf : Cond.initialized yX6_movesOf.cls ∈ eTB ∧ mWord mX6_movesOf ∈ eTB ∧ (yX6_movesOf.cls ≠ "java/lang/invoke/MethodHandle" ∧ yX6_movesOf.cls ≠ "java/lang/invoke/VarHandle") ∧ (parseMethodDescriptor yX6_movesOf.desc).map (fun d => d.parameters.length) = some 1 := ⟨wd_1_1, wd_4_227, ⟨by decide +kernel, by decide +kernel⟩, by decide +kernel⟩
theorem ca_X6_moveTotal : Cond.initialized yX6_moveTotal.cls ∈ eTB ∧ mWord mX6_moveTotal ∈ eTB ∧ (yX6_moveTotal.cls ≠ "java/lang/invoke/MethodHandle" ∧ yX6_moveTotal.cls ≠ "java/lang/invoke/VarHandle") ∧ (parseMethodDescriptor yX6_moveTotal.desc).map (fun d => d.parameters.length) = some 0 := ⟨wd_1_1, wd_2_22, ⟨by decide +kernel, by decide +kernel⟩, by decide +kernel⟩
theorem ca_X6_waitTotal : Cond.initialized yX6_waitTotal.cls ∈ eTB ∧ mWord mX6_waitTotal ∈ eTB ∧ (yX6_waitTotal.cls ≠ "java/lang/invoke/MethodHandle" ∧ yX6_waitTotal.cls ≠ "java/lang/invoke/VarHandle") ∧ (parseMethodDescriptor yX6_waitTotal.desc).map (fun d => d.parameters.length) = some 0 := ⟨wd_1_1, wd_2_30, ⟨by decide +kernel, by decide +kernel⟩, by decide +kernel⟩
theorem ca_X6_formationCount : Cond.initialized yX6_formationCount.cls ∈ eTB ∧ mWord mX6_formationCount ∈ eTB ∧ (yX6_formationCount.cls ≠ "java/lang/invoke/MethodHandle" ∧ yX6_formationCount.cls ≠ "java/lang/invoke/VarHandle") ∧ (parseMethodDescriptor yX6_formationCount.desc).map (fun d => d.parameters.length) = some 0 := ⟨wd_1_1, wd_2_34, ⟨by decide +kernel, by decide +kernel⟩, by decide +kernel⟩
theorem ca_X6_formationCountByMerging : Cond.initialized yX6_formationCountByMerging.cls ∈ eTB ∧ mWord mX6_formationCountByMerging ∈ eTB ∧ (yX6_formationCountByMerging.cls ≠ "java/lang/invoke/MethodHandle" ∧ yX6_formationCountByMerging.cls ≠ "java/lang/invoke/VarHandle") ∧ (parseMethodDescriptor yX6_formationCountByMerging.desc).map (fun d => d.parameters.length) = some 0 := ⟨wd_1_1, wd_2_69, ⟨by decide +kernel, by decide +kernel⟩, by decide +kernel⟩
theorem ca_X6_largestFormation : Cond.initialized yX6_largestFormation.cls ∈ eTB ∧ mWord mX6_largestFormation ∈ eTB ∧ (yX6_largestFormation.cls ≠ "java/lang/invoke/MethodHandle" ∧ yX6_largestFormation.cls ≠ "java/lang/invoke/VarHandle") ∧ (parseMethodDescriptor yX6_largestFormation.desc).map (fun d => d.parameters.length) = some 0 := ⟨wd_1_1, wd_2_81, ⟨by decide +kernel, by decide +kernel⟩, by decide +kernel⟩
theorem ca_X6_formationOf : Cond.initialized yX6_formationOf.cls ∈ eTB ∧ mWord mX6_formationOf ∈ eTB ∧ (yX6_formationOf.cls ≠ "java/lang/invoke/MethodHandle" ∧ yX6_formationOf.cls ≠ "java/lang/invoke/VarHandle") ∧ (parseMethodDescriptor yX6_formationOf.desc).map (fun d => d.parameters.length) = some 1 := ⟨wd_1_1, wd_4_234, ⟨by decide +kernel, by decide +kernel⟩, by decide +kernel⟩
theorem ca_X6_mixedPairs : Cond.initialized yX6_mixedPairs.cls ∈ eTB ∧ mWord mX6_mixedPairs ∈ eTB ∧ (yX6_mixedPairs.cls ≠ "java/lang/invoke/MethodHandle" ∧ yX6_mixedPairs.cls ≠ "java/lang/invoke/VarHandle") ∧ (parseMethodDescriptor yX6_mixedPairs.desc).map (fun d => d.parameters.length) = some 0 := ⟨wd_1_1, wd_2_96, ⟨by decide +kernel, by decide +kernel⟩, by decide +kernel⟩
theorem ca_X6_mixedPairsByHandles : Cond.initialized yX6_mixedPairsByHandles.cls ∈ eTB ∧ mWord mX6_mixedPairsByHandles ∈ eTB ∧ (yX6_mixedPairsByHandles.cls ≠ "java/lang/invoke/MethodHandle" ∧ yX6_mixedPairsByHandles.cls ≠ "java/lang/invoke/VarHandle") ∧ (parseMethodDescriptor yX6_mixedPairsByHandles.desc).map (fun d => d.parameters.length) = some 0 := ⟨wd_1_1, wd_2_105, ⟨by decide +kernel, by decide +kernel⟩, by decide +kernel⟩
theorem ca_X6_shapeCount : Cond.initialized yX6_shapeCount.cls ∈ eTB ∧ mWord mX6_shapeCount ∈ eTB ∧ (yX6_shapeCount.cls ≠ "java/lang/invoke/MethodHandle" ∧ yX6_shapeCount.cls ≠ "java/lang/invoke/VarHandle") ∧ (parseMethodDescriptor yX6_shapeCount.desc).map (fun d => d.parameters.length) = some 0 := ⟨wd_1_1, wd_2_121, ⟨by decide +kernel, by decide +kernel⟩, by decide +kernel⟩
theorem ca_X6_differentShapes : Cond.initialized yX6_differentShapes.cls ∈ eTB ∧ mWord mX6_differentShapes ∈ eTB ∧ (yX6_differentShapes.cls ≠ "java/lang/invoke/MethodHandle" ∧ yX6_differentShapes.cls ≠ "java/lang/invoke/VarHandle") ∧ (parseMethodDescriptor yX6_differentShapes.desc).map (fun d => d.parameters.length) = some 0 := ⟨wd_1_1, wd_2_125, ⟨by decide +kernel, by decide +kernel⟩, by decide +kernel⟩
theorem ca_X6_stepsSinceShape : Cond.initialized yX6_stepsSinceShape.cls ∈ eTB ∧ mWord mX6_stepsSinceShape ∈ eTB ∧ (yX6_stepsSinceShape.cls ≠ "java/lang/invoke/MethodHandle" ∧ yX6_stepsSinceShape.cls ≠ "java/lang/invoke/VarHandle") ∧ (parseMethodDescriptor yX6_stepsSinceShape.desc).map (fun d => d.parameters.length) = some 0 := ⟨wd_1_1, wd_5_6, ⟨by decide +kernel, by decide +kernel⟩, by decide +kernel⟩
theorem ca_X6_basketAtRank : Cond.initialized yX6_basketAtRank.cls ∈ eTB ∧ mWord mX6_basketAtRank ∈ eTB ∧ (yX6_basketAtRank.cls ≠ "java/lang/invoke/MethodHandle" ∧ yX6_basketAtRank.cls ≠ "java/lang/invoke/VarHandle") ∧ (parseMethodDescriptor yX6_basketAtRank.desc).map (fun d => d.parameters.length) = some 1 := ⟨wd_1_1, wd_5_22, ⟨by decide +kernel, by decide +kernel⟩, by decide +kernel⟩
theorem ca_X6_append : Cond.initialized yX6_append.cls ∈ eTB ∧ mWord mX6_append ∈ eTB ∧ (yX6_append.cls ≠ "java/lang/invoke/MethodHandle" ∧ yX6_append.cls ≠ "java/lang/invoke/VarHandle") ∧ (parseMethodDescriptor yX6_append.desc).map (fun d => d.parameters.length) = some 1 := ⟨wd_1_1, wd_5_38, ⟨by decide +kernel, by decide +kernel⟩, by decide +kernel⟩
theorem ca_X6_run : Cond.initialized yX6_run.cls ∈ eTB ∧ mWord mX6_run ∈ eTB ∧ (yX6_run.cls ≠ "java/lang/invoke/MethodHandle" ∧ yX6_run.cls ≠ "java/lang/invoke/VarHandle") ∧ (parseMethodDescriptor yX6_run.desc).map (fun d => d.parameters.length) = some 0 := ⟨wd_1_1, wd_5_56, ⟨by decide +kernel, by decide +kernel⟩, by decide +kernel⟩
theorem ca_X6_errorPosition : Cond.initialized yX6_errorPosition.cls ∈ eTB ∧ mWord mX6_errorPosition ∈ eTB ∧ (yX6_errorPosition.cls ≠ "java/lang/invoke/MethodHandle" ∧ yX6_errorPosition.cls ≠ "java/lang/invoke/VarHandle") ∧ (parseMethodDescriptor yX6_errorPosition.desc).map (fun d => d.parameters.length) = some 0 := ⟨wd_1_1, wd_5_179, ⟨by decide +kernel, by decide +kernel⟩, by decide +kernel⟩
theorem ca_X6_failedCommand : Cond.initialized yX6_failedCommand.cls ∈ eTB ∧ mWord mX6_failedCommand ∈ eTB ∧ (yX6_failedCommand.cls ≠ "java/lang/invoke/MethodHandle" ∧ yX6_failedCommand.cls ≠ "java/lang/invoke/VarHandle") ∧ (parseMethodDescriptor yX6_failedCommand.desc).map (fun d => d.parameters.length) = some 0 := ⟨wd_1_1, wd_5_187, ⟨by decide +kernel, by decide +kernel⟩, by decide +kernel⟩
theorem ca_X6_describeRow : Cond.initialized yX6_describeRow.cls ∈ eTB ∧ mWord mX6_describeRow ∈ eTB ∧ (yX6_describeRow.cls ≠ "java/lang/invoke/MethodHandle" ∧ yX6_describeRow.cls ≠ "java/lang/invoke/VarHandle") ∧ (parseMethodDescriptor yX6_describeRow.desc).map (fun d => d.parameters.length) = some 1 := ⟨wd_1_1, wd_5_195, ⟨by decide +kernel, by decide +kernel⟩, by decide +kernel⟩
theorem ca_X6_lineAt : Cond.initialized yX6_lineAt.cls ∈ eTB ∧ mWord mX6_lineAt ∈ eTB ∧ (yX6_lineAt.cls ≠ "java/lang/invoke/MethodHandle" ∧ yX6_lineAt.cls ≠ "java/lang/invoke/VarHandle") ∧ (parseMethodDescriptor yX6_lineAt.desc).map (fun d => d.parameters.length) = some 1 := ⟨wd_1_1, wd_5_206, ⟨by decide +kernel, by decide +kernel⟩, by decide +kernel⟩
theorem ca_X6_meanDistance : Cond.initialized yX6_meanDistance.cls ∈ eTB ∧ mWord mX6_meanDistance ∈ eTB ∧ (yX6_meanDistance.cls ≠ "java/lang/invoke/MethodHandle" ∧ yX6_meanDistance.cls ≠ "java/lang/invoke/VarHandle") ∧ (parseMethodDescriptor yX6_meanDistance.desc).map (fun d => d.parameters.length) = some 0 := ⟨wd_1_1, wd_5_228, ⟨by decide +kernel, by decide +kernel⟩, by decide +kernel⟩
theorem ca_X6_mixedShare : Cond.initialized yX6_mixedShare.cls ∈ eTB ∧ mWord mX6_mixedShare ∈ eTB ∧ (yX6_mixedShare.cls ≠ "java/lang/invoke/MethodHandle" ∧ yX6_mixedShare.cls ≠ "java/lang/invoke/VarHandle") ∧ (parseMethodDescriptor yX6_mixedShare.desc).map (fun d => d.parameters.length) = some 0 := ⟨wd_1_1, wd_6_2, ⟨by decide +kernel, by decide +kernel⟩, by decide +kernel⟩
theorem ca_X6_isConsistent : Cond.initialized yX6_isConsistent.cls ∈ eTB ∧ mWord mX6_isConsistent ∈ eTB ∧ (yX6_isConsistent.cls ≠ "java/lang/invoke/MethodHandle" ∧ yX6_isConsistent.cls ≠ "java/lang/invoke/VarHandle") ∧ (parseMethodDescriptor yX6_isConsistent.desc).map (fun d => d.parameters.length) = some 0 := ⟨wd_1_1, wd_2_141, ⟨by decide +kernel, by decide +kernel⟩, by decide +kernel⟩
theorem ca_X6_undo : Cond.initialized yX6_undo.cls ∈ eTB ∧ mWord mX6_undo ∈ eTB ∧ (yX6_undo.cls ≠ "java/lang/invoke/MethodHandle" ∧ yX6_undo.cls ≠ "java/lang/invoke/VarHandle") ∧ (parseMethodDescriptor yX6_undo.desc).map (fun d => d.parameters.length) = some 0 := ⟨wd_1_1, wd_6_11, ⟨by decide +kernel, by decide +kernel⟩, by decide +kernel⟩
theorem ca_X6_save : Cond.initialized yX6_save.cls ∈ eTB ∧ mWord mX6_save ∈ eTB ∧ (yX6_save.cls ≠ "java/lang/invoke/MethodHandle" ∧ yX6_save.cls ≠ "java/lang/invoke/VarHandle") ∧ (parseMethodDescriptor yX6_save.desc).map (fun d => d.parameters.length) = some 0 := ⟨wd_1_1, wd_2_177, ⟨by decide +kernel, by decide +kernel⟩, by decide +kernel⟩
theorem ca_X6_restore : Cond.initialized yX6_restore.cls ∈ eTB ∧ mWord mX6_restore ∈ eTB ∧ (yX6_restore.cls ≠ "java/lang/invoke/MethodHandle" ∧ yX6_restore.cls ≠ "java/lang/invoke/VarHandle") ∧ (parseMethodDescriptor yX6_restore.desc).map (fun d => d.parameters.length) = some 0 := ⟨wd_1_1, wd_6_23, ⟨by decide +kernel, by decide +kernel⟩, by decide +kernel⟩
theorem ca_X6_prepare : Cond.initialized yX6_prepare.cls ∈ eTB ∧ mWord mX6_prepare ∈ eTB ∧ (yX6_prepare.cls ≠ "java/lang/invoke/MethodHandle" ∧ yX6_prepare.cls ≠ "java/lang/invoke/VarHandle") ∧ (parseMethodDescriptor yX6_prepare.desc).map (fun d => d.parameters.length) = some 4 := ⟨wd_1_1, wd_2_208, ⟨by decide +kernel, by decide +kernel⟩, by decide +kernel⟩
theorem ca_X6_hindranceIn : Cond.initialized yX6_hindranceIn.cls ∈ eTB ∧ mWord mX6_hindranceIn ∈ eTB ∧ (yX6_hindranceIn.cls ≠ "java/lang/invoke/MethodHandle" ∧ yX6_hindranceIn.cls ≠ "java/lang/invoke/VarHandle") ∧ (parseMethodDescriptor yX6_hindranceIn.desc).map (fun d => d.parameters.length) = some 5 := ⟨wd_1_1, wd_2_212, ⟨by decide +kernel, by decide +kernel⟩, by decide +kernel⟩
theorem ca_X6_keepRefusal : Cond.initialized yX6_keepRefusal.cls ∈ eTB ∧ mWord mX6_keepRefusal ∈ eTB ∧ (yX6_keepRefusal.cls ≠ "java/lang/invoke/MethodHandle" ∧ yX6_keepRefusal.cls ≠ "java/lang/invoke/VarHandle") ∧ (parseMethodDescriptor yX6_keepRefusal.desc).map (fun d => d.parameters.length) = some 5 := ⟨wd_1_1, wd_3_7, ⟨by decide +kernel, by decide +kernel⟩, by decide +kernel⟩
theorem ca_X6_throwFor : Cond.initialized yX6_throwFor.cls ∈ eTB ∧ mWord mX6_throwFor ∈ eTB ∧ (yX6_throwFor.cls ≠ "java/lang/invoke/MethodHandle" ∧ yX6_throwFor.cls ≠ "java/lang/invoke/VarHandle") ∧ (parseMethodDescriptor yX6_throwFor.desc).map (fun d => d.parameters.length) = some 1 := ⟨wd_1_1, wd_3_12, ⟨by decide +kernel, by decide +kernel⟩, by decide +kernel⟩
theorem ca_X6_demandBasket : Cond.initialized yX6_demandBasket.cls ∈ eTB ∧ mWord mX6_demandBasket ∈ eTB ∧ (yX6_demandBasket.cls ≠ "java/lang/invoke/MethodHandle" ∧ yX6_demandBasket.cls ≠ "java/lang/invoke/VarHandle") ∧ (parseMethodDescriptor yX6_demandBasket.desc).map (fun d => d.parameters.length) = some 1 := ⟨wd_1_1, wd_3_215, ⟨by decide +kernel, by decide +kernel⟩, by decide +kernel⟩
theorem ca_X6_demandAnyBasket : Cond.initialized yX6_demandAnyBasket.cls ∈ eTB ∧ mWord mX6_demandAnyBasket ∈ eTB ∧ (yX6_demandAnyBasket.cls ≠ "java/lang/invoke/MethodHandle" ∧ yX6_demandAnyBasket.cls ≠ "java/lang/invoke/VarHandle") ∧ (parseMethodDescriptor yX6_demandAnyBasket.desc).map (fun d => d.parameters.length) = some 0 := ⟨wd_1_1, wd_4_97, ⟨by decide +kernel, by decide +kernel⟩, by decide +kernel⟩
theorem ca_X6_demandCell : Cond.initialized yX6_demandCell.cls ∈ eTB ∧ mWord mX6_demandCell ∈ eTB ∧ (yX6_demandCell.cls ≠ "java/lang/invoke/MethodHandle" ∧ yX6_demandCell.cls ≠ "java/lang/invoke/VarHandle") ∧ (parseMethodDescriptor yX6_demandCell.desc).map (fun d => d.parameters.length) = some 2 := ⟨wd_1_1, wd_4_2, ⟨by decide +kernel, by decide +kernel⟩, by decide +kernel⟩
theorem ca_X6_demandStepsAhead : Cond.initialized yX6_demandStepsAhead.cls ∈ eTB ∧ mWord mX6_demandStepsAhead ∈ eTB ∧ (yX6_demandStepsAhead.cls ≠ "java/lang/invoke/MethodHandle" ∧ yX6_demandStepsAhead.cls ≠ "java/lang/invoke/VarHandle") ∧ (parseMethodDescriptor yX6_demandStepsAhead.desc).map (fun d => d.parameters.length) = some 1 := ⟨wd_1_1, wd_4_109, ⟨by decide +kernel, by decide +kernel⟩, by decide +kernel⟩
theorem ca_X6_demandTarget : Cond.initialized yX6_demandTarget.cls ∈ eTB ∧ mWord mX6_demandTarget ∈ eTB ∧ (yX6_demandTarget.cls ≠ "java/lang/invoke/MethodHandle" ∧ yX6_demandTarget.cls ≠ "java/lang/invoke/VarHandle") ∧ (parseMethodDescriptor yX6_demandTarget.desc).map (fun d => d.parameters.length) = some 0 := ⟨wd_1_1, wd_4_139, ⟨by decide +kernel, by decide +kernel⟩, by decide +kernel⟩
theorem ca_X6_demandRefusal : Cond.initialized yX6_demandRefusal.cls ∈ eTB ∧ mWord mX6_demandRefusal ∈ eTB ∧ (yX6_demandRefusal.cls ≠ "java/lang/invoke/MethodHandle" ∧ yX6_demandRefusal.cls ≠ "java/lang/invoke/VarHandle") ∧ (parseMethodDescriptor yX6_demandRefusal.desc).map (fun d => d.parameters.length) = some 0 := ⟨wd_1_1, wd_4_37, ⟨by decide +kernel, by decide +kernel⟩, by decide +kernel⟩
theorem ca_X6_leadersAgree : Cond.initialized yX6_leadersAgree.cls ∈ eTB ∧ mWord mX6_leadersAgree ∈ eTB ∧ (yX6_leadersAgree.cls ≠ "java/lang/invoke/MethodHandle" ∧ yX6_leadersAgree.cls ≠ "java/lang/invoke/VarHandle") ∧ (parseMethodDescriptor yX6_leadersAgree.desc).map (fun d => d.parameters.length) = some 0 := ⟨wd_1_1, wd_2_165, ⟨by decide +kernel, by decide +kernel⟩, by decide +kernel⟩
theorem ca_X7_init : Cond.initialized yX7_init.cls ∈ eTB ∧ mWord mX7_init ∈ eTB ∧ (yX7_init.cls ≠ "java/lang/invoke/MethodHandle" ∧ yX7_init.cls ≠ "java/lang/invoke/VarHandle") ∧ (parseMethodDescriptor yX7_init.desc).map (fun d => d.parameters.length) = some 0 := ⟨wd_1_8, wd_6_33, ⟨by decide +kernel, by decide +kernel⟩, by decide +kernel⟩
theorem ca_X7_thrown : Cond.initialized yX7_thrown.cls ∈ eTB ∧ mWord mX7_thrown ∈ eTB ∧ (yX7_thrown.cls ≠ "java/lang/invoke/MethodHandle" ∧ yX7_thrown.cls ≠ "java/lang/invoke/VarHandle") ∧ (parseMethodDescriptor yX7_thrown.desc).map (fun d => d.parameters.length) = some 0 := ⟨wd_1_8, wd_6_93, ⟨by decide +kernel, by decide +kernel⟩, by decide +kernel⟩
theorem ca_X7_in : Cond.initialized yX7_in.cls ∈ eTB ∧ mWord mX7_in ∈ eTB ∧ (yX7_in.cls ≠ "java/lang/invoke/MethodHandle" ∧ yX7_in.cls ≠ "java/lang/invoke/VarHandle") ∧ (parseMethodDescriptor yX7_in.desc).map (fun d => d.parameters.length) = some 3 := ⟨wd_1_8, wd_6_127, ⟨by decide +kernel, by decide +kernel⟩, by decide +kernel⟩
theorem ca_X7_size : Cond.initialized yX7_size.cls ∈ eTB ∧ mWord mX7_size ∈ eTB ∧ (yX7_size.cls ≠ "java/lang/invoke/MethodHandle" ∧ yX7_size.cls ≠ "java/lang/invoke/VarHandle") ∧ (parseMethodDescriptor yX7_size.desc).map (fun d => d.parameters.length) = some 1 := ⟨wd_1_8, wd_6_150, ⟨by decide +kernel, by decide +kernel⟩, by decide +kernel⟩
theorem ca_X7_copies : Cond.initialized yX7_copies.cls ∈ eTB ∧ mWord mX7_copies ∈ eTB ∧ (yX7_copies.cls ≠ "java/lang/invoke/MethodHandle" ∧ yX7_copies.cls ≠ "java/lang/invoke/VarHandle") ∧ (parseMethodDescriptor yX7_copies.desc).map (fun d => d.parameters.length) = some 2 := ⟨wd_1_8, wd_6_117, ⟨by decide +kernel, by decide +kernel⟩, by decide +kernel⟩
theorem ca_X7_begins : Cond.initialized yX7_begins.cls ∈ eTB ∧ mWord mX7_begins ∈ eTB ∧ (yX7_begins.cls ≠ "java/lang/invoke/MethodHandle" ∧ yX7_begins.cls ≠ "java/lang/invoke/VarHandle") ∧ (parseMethodDescriptor yX7_begins.desc).map (fun d => d.parameters.length) = some 0 := ⟨wd_1_8, wd_6_113, ⟨by decide +kernel, by decide +kernel⟩, by decide +kernel⟩
theorem ca_X7_ends : Cond.initialized yX7_ends.cls ∈ eTB ∧ mWord mX7_ends ∈ eTB ∧ (yX7_ends.cls ≠ "java/lang/invoke/MethodHandle" ∧ yX7_ends.cls ≠ "java/lang/invoke/VarHandle") ∧ (parseMethodDescriptor yX7_ends.desc).map (fun d => d.parameters.length) = some 6 := ⟨wd_1_8, wd_6_158, ⟨by decide +kernel, by decide +kernel⟩, by decide +kernel⟩
theorem ca_X7_isFine : Cond.initialized yX7_isFine.cls ∈ eTB ∧ mWord mX7_isFine ∈ eTB ∧ (yX7_isFine.cls ≠ "java/lang/invoke/MethodHandle" ∧ yX7_isFine.cls ≠ "java/lang/invoke/VarHandle") ∧ (parseMethodDescriptor yX7_isFine.desc).map (fun d => d.parameters.length) = some 1 := ⟨wd_1_8, wd_6_101, ⟨by decide +kernel, by decide +kernel⟩, by decide +kernel⟩
theorem ca_X7_b : Cond.initialized yX7_b.cls ∈ eTB ∧ mWord mX7_b ∈ eTB ∧ (yX7_b.cls ≠ "java/lang/invoke/MethodHandle" ∧ yX7_b.cls ≠ "java/lang/invoke/VarHandle") ∧ (parseMethodDescriptor yX7_b.desc).map (fun d => d.parameters.length) = some 2 := ⟨wd_1_8, wd_6_147, ⟨by decide +kernel, by decide +kernel⟩, by decide +kernel⟩
theorem ca_X7_set : Cond.initialized yX7_set.cls ∈ eTB ∧ mWord mX7_set ∈ eTB ∧ (yX7_set.cls ≠ "java/lang/invoke/MethodHandle" ∧ yX7_set.cls ≠ "java/lang/invoke/VarHandle") ∧ (parseMethodDescriptor yX7_set.desc).map (fun d => d.parameters.length) = some 3 := ⟨wd_1_8, wd_6_154, ⟨by decide +kernel, by decide +kernel⟩, by decide +kernel⟩
theorem ca_X7_isBasket : Cond.initialized yX7_isBasket.cls ∈ eTB ∧ mWord mX7_isBasket ∈ eTB ∧ (yX7_isBasket.cls ≠ "java/lang/invoke/MethodHandle" ∧ yX7_isBasket.cls ≠ "java/lang/invoke/VarHandle") ∧ (parseMethodDescriptor yX7_isBasket.desc).map (fun d => d.parameters.length) = some 1 := ⟨wd_1_8, wd_6_170, ⟨by decide +kernel, by decide +kernel⟩, by decide +kernel⟩
theorem ca_X7_isCell : Cond.initialized yX7_isCell.cls ∈ eTB ∧ mWord mX7_isCell ∈ eTB ∧ (yX7_isCell.cls ≠ "java/lang/invoke/MethodHandle" ∧ yX7_isCell.cls ≠ "java/lang/invoke/VarHandle") ∧ (parseMethodDescriptor yX7_isCell.desc).map (fun d => d.parameters.length) = some 2 := ⟨wd_1_8, wd_6_124, ⟨by decide +kernel, by decide +kernel⟩, by decide +kernel⟩
theorem ca_X7_far : Cond.initialized yX7_far.cls ∈ eTB ∧ mWord mX7_far ∈ eTB ∧ (yX7_far.cls ≠ "java/lang/invoke/MethodHandle" ∧ yX7_far.cls ≠ "java/lang/invoke/VarHandle") ∧ (parseMethodDescriptor yX7_far.desc).map (fun d => d.parameters.length) = some 3 := ⟨wd_1_8, wd_6_143, ⟨by decide +kernel, by decide +kernel⟩, by decide +kernel⟩
theorem ca_X7_apart : Cond.initialized yX7_apart.cls ∈ eTB ∧ mWord mX7_apart ∈ eTB ∧ (yX7_apart.cls ≠ "java/lang/invoke/MethodHandle" ∧ yX7_apart.cls ≠ "java/lang/invoke/VarHandle") ∧ (parseMethodDescriptor yX7_apart.desc).map (fun d => d.parameters.length) = some 2 := ⟨wd_1_8, wd_7_21, ⟨by decide +kernel, by decide +kernel⟩, by decide +kernel⟩
theorem ca_X7_cloud : Cond.initialized yX7_cloud.cls ∈ eTB ∧ mWord mX7_cloud ∈ eTB ∧ (yX7_cloud.cls ≠ "java/lang/invoke/MethodHandle" ∧ yX7_cloud.cls ≠ "java/lang/invoke/VarHandle") ∧ (parseMethodDescriptor yX7_cloud.desc).map (fun d => d.parameters.length) = some 2 := ⟨wd_1_8, wd_6_135, ⟨by decide +kernel, by decide +kernel⟩, by decide +kernel⟩
theorem ca_X7_touched : Cond.initialized yX7_touched.cls ∈ eTB ∧ mWord mX7_touched ∈ eTB ∧ (yX7_touched.cls ≠ "java/lang/invoke/MethodHandle" ∧ yX7_touched.cls ≠ "java/lang/invoke/VarHandle") ∧ (parseMethodDescriptor yX7_touched.desc).map (fun d => d.parameters.length) = some 3 := ⟨wd_1_8, wd_6_139, ⟨by decide +kernel, by decide +kernel⟩, by decide +kernel⟩
theorem ca_X7_at : Cond.initialized yX7_at.cls ∈ eTB ∧ mWord mX7_at ∈ eTB ∧ (yX7_at.cls ≠ "java/lang/invoke/MethodHandle" ∧ yX7_at.cls ≠ "java/lang/invoke/VarHandle") ∧ (parseMethodDescriptor yX7_at.desc).map (fun d => d.parameters.length) = some 2 := ⟨wd_1_8, wd_6_190, ⟨by decide +kernel, by decide +kernel⟩, by decide +kernel⟩
theorem ca_X7_isPossible : Cond.initialized yX7_isPossible.cls ∈ eTB ∧ mWord mX7_isPossible ∈ eTB ∧ (yX7_isPossible.cls ≠ "java/lang/invoke/MethodHandle" ∧ yX7_isPossible.cls ≠ "java/lang/invoke/VarHandle") ∧ (parseMethodDescriptor yX7_isPossible.desc).map (fun d => d.parameters.length) = some 3 := ⟨wd_1_8, wd_7_9, ⟨by decide +kernel, by decide +kernel⟩, by decide +kernel⟩
theorem ca_X7_refuses : Cond.initialized yX7_refuses.cls ∈ eTB ∧ mWord mX7_refuses ∈ eTB ∧ (yX7_refuses.cls ≠ "java/lang/invoke/MethodHandle" ∧ yX7_refuses.cls ≠ "java/lang/invoke/VarHandle") ∧ (parseMethodDescriptor yX7_refuses.desc).map (fun d => d.parameters.length) = some 3 := ⟨wd_1_8, wd_6_131, ⟨by decide +kernel, by decide +kernel⟩, by decide +kernel⟩
theorem ca_X7_refusalReason : Cond.initialized yX7_refusalReason.cls ∈ eTB ∧ mWord mX7_refusalReason ∈ eTB ∧ (yX7_refusalReason.cls ≠ "java/lang/invoke/MethodHandle" ∧ yX7_refusalReason.cls ≠ "java/lang/invoke/VarHandle") ∧ (parseMethodDescriptor yX7_refusalReason.desc).map (fun d => d.parameters.length) = some 0 := ⟨wd_1_8, wd_6_97, ⟨by decide +kernel, by decide +kernel⟩, by decide +kernel⟩
theorem ca_X7_refusalDetail : Cond.initialized yX7_refusalDetail.cls ∈ eTB ∧ mWord mX7_refusalDetail ∈ eTB ∧ (yX7_refusalDetail.cls ≠ "java/lang/invoke/MethodHandle" ∧ yX7_refusalDetail.cls ≠ "java/lang/invoke/VarHandle") ∧ (parseMethodDescriptor yX7_refusalDetail.desc).map (fun d => d.parameters.length) = some 0 := ⟨wd_1_8, wd_6_105, ⟨by decide +kernel, by decide +kernel⟩, by decide +kernel⟩
theorem ca_X7_goes : Cond.initialized yX7_goes.cls ∈ eTB ∧ mWord mX7_goes ∈ eTB ∧ (yX7_goes.cls ≠ "java/lang/invoke/MethodHandle" ∧ yX7_goes.cls ≠ "java/lang/invoke/VarHandle") ∧ (parseMethodDescriptor yX7_goes.desc).map (fun d => d.parameters.length) = some 3 := ⟨wd_1_8, wd_7_5, ⟨by decide +kernel, by decide +kernel⟩, by decide +kernel⟩
theorem ca_X7_toward : Cond.initialized yX7_toward.cls ∈ eTB ∧ mWord mX7_toward ∈ eTB ∧ (yX7_toward.cls ≠ "java/lang/invoke/MethodHandle" ∧ yX7_toward.cls ≠ "java/lang/invoke/VarHandle") ∧ (parseMethodDescriptor yX7_toward.desc).map (fun d => d.parameters.length) = some 1 := ⟨wd_1_8, wd_7_1, ⟨by decide +kernel, by decide +kernel⟩, by decide +kernel⟩
theorem ca_X7_counted : Cond.initialized yX7_counted.cls ∈ eTB ∧ mWord mX7_counted ∈ eTB ∧ (yX7_counted.cls ≠ "java/lang/invoke/MethodHandle" ∧ yX7_counted.cls ≠ "java/lang/invoke/VarHandle") ∧ (parseMethodDescriptor yX7_counted.desc).map (fun d => d.parameters.length) = some 1 := ⟨wd_1_8, wd_7_13, ⟨by decide +kernel, by decide +kernel⟩, by decide +kernel⟩
theorem ca_X7_leads : Cond.initialized yX7_leads.cls ∈ eTB ∧ mWord mX7_leads ∈ eTB ∧ (yX7_leads.cls ≠ "java/lang/invoke/MethodHandle" ∧ yX7_leads.cls ≠ "java/lang/invoke/VarHandle") ∧ (parseMethodDescriptor yX7_leads.desc).map (fun d => d.parameters.length) = some 0 := ⟨wd_1_8, wd_6_238, ⟨by decide +kernel, by decide +kernel⟩, by decide +kernel⟩
theorem ca_X7_follows : Cond.initialized yX7_follows.cls ∈ eTB ∧ mWord mX7_follows ∈ eTB ∧ (yX7_follows.cls ≠ "java/lang/invoke/MethodHandle" ∧ yX7_follows.cls ≠ "java/lang/invoke/VarHandle") ∧ (parseMethodDescriptor yX7_follows.desc).map (fun d => d.parameters.length) = some 1 := ⟨wd_1_8, wd_7_17, ⟨by decide +kernel, by decide +kernel⟩, by decide +kernel⟩
theorem ca_X7_shapes : Cond.initialized yX7_shapes.cls ∈ eTB ∧ mWord mX7_shapes ∈ eTB ∧ (yX7_shapes.cls ≠ "java/lang/invoke/MethodHandle" ∧ yX7_shapes.cls ≠ "java/lang/invoke/VarHandle") ∧ (parseMethodDescriptor yX7_shapes.desc).map (fun d => d.parameters.length) = some 0 := ⟨wd_1_8, wd_7_29, ⟨by decide +kernel, by decide +kernel⟩, by decide +kernel⟩
theorem ca_X7_isShape : Cond.initialized yX7_isShape.cls ∈ eTB ∧ mWord mX7_isShape ∈ eTB ∧ (yX7_isShape.cls ≠ "java/lang/invoke/MethodHandle" ∧ yX7_isShape.cls ≠ "java/lang/invoke/VarHandle") ∧ (parseMethodDescriptor yX7_isShape.desc).map (fun d => d.parameters.length) = some 1 := ⟨wd_1_8, wd_7_187, ⟨by decide +kernel, by decide +kernel⟩, by decide +kernel⟩
theorem ca_X7_remembers : Cond.initialized yX7_remembers.cls ∈ eTB ∧ mWord mX7_remembers ∈ eTB ∧ (yX7_remembers.cls ≠ "java/lang/invoke/MethodHandle" ∧ yX7_remembers.cls ≠ "java/lang/invoke/VarHandle") ∧ (parseMethodDescriptor yX7_remembers.desc).map (fun d => d.parameters.length) = some 0 := ⟨wd_1_8, wd_7_25, ⟨by decide +kernel, by decide +kernel⟩, by decide +kernel⟩
theorem ca_X7_steps : Cond.initialized yX7_steps.cls ∈ eTB ∧ mWord mX7_steps ∈ eTB ∧ (yX7_steps.cls ≠ "java/lang/invoke/MethodHandle" ∧ yX7_steps.cls ≠ "java/lang/invoke/VarHandle") ∧ (parseMethodDescriptor yX7_steps.desc).map (fun d => d.parameters.length) = some 0 := ⟨wd_1_8, wd_6_234, ⟨by decide +kernel, by decide +kernel⟩, by decide +kernel⟩
theorem ca_X7_adds : Cond.initialized yX7_adds.cls ∈ eTB ∧ mWord mX7_adds ∈ eTB ∧ (yX7_adds.cls ≠ "java/lang/invoke/MethodHandle" ∧ yX7_adds.cls ≠ "java/lang/invoke/VarHandle") ∧ (parseMethodDescriptor yX7_adds.desc).map (fun d => d.parameters.length) = some 3 := ⟨wd_1_8, wd_6_121, ⟨by decide +kernel, by decide +kernel⟩, by decide +kernel⟩
theorem ca_X7_addBasket : Cond.initialized yX7_addBasket.cls ∈ eTB ∧ mWord mX7_addBasket ∈ eTB ∧ (yX7_addBasket.cls ≠ "java/lang/invoke/MethodHandle" ∧ yX7_addBasket.cls ≠ "java/lang/invoke/VarHandle") ∧ (parseMethodDescriptor yX7_addBasket.desc).map (fun d => d.parameters.length) = some 3 := ⟨wd_1_8, wd_6_109, ⟨by decide +kernel, by decide +kernel⟩, by decide +kernel⟩
theorem ca_X7_jumps : Cond.initialized yX7_jumps.cls ∈ eTB ∧ mWord mX7_jumps ∈ eTB ∧ (yX7_jumps.cls ≠ "java/lang/invoke/MethodHandle" ∧ yX7_jumps.cls ≠ "java/lang/invoke/VarHandle") ∧ (parseMethodDescriptor yX7_jumps.desc).map (fun d => d.parameters.length) = some 3 := ⟨wd_1_8, wd_6_166, ⟨by decide +kernel, by decide +kernel⟩, by decide +kernel⟩
theorem ca_X7_jump : Cond.initialized yX7_jump.cls ∈ eTB ∧ mWord mX7_jump ∈ eTB ∧ (yX7_jump.cls ≠ "java/lang/invoke/MethodHandle" ∧ yX7_jump.cls ≠ "java/lang/invoke/VarHandle") ∧ (parseMethodDescriptor yX7_jump.desc).map (fun d => d.parameters.length) = some 3 := ⟨wd_1_8, wd_6_162, ⟨by decide +kernel, by decide +kernel⟩, by decide +kernel⟩
theorem ca_X7_handles : Cond.initialized yX7_handles.cls ∈ eTB ∧ mWord mX7_handles ∈ eTB ∧ (yX7_handles.cls ≠ "java/lang/invoke/MethodHandle" ∧ yX7_handles.cls ≠ "java/lang/invoke/VarHandle") ∧ (parseMethodDescriptor yX7_handles.desc).map (fun d => d.parameters.length) = some 2 := ⟨wd_1_8, wd_6_178, ⟨by decide +kernel, by decide +kernel⟩, by decide +kernel⟩
theorem ca_X7_setHandle : Cond.initialized yX7_setHandle.cls ∈ eTB ∧ mWord mX7_setHandle ∈ eTB ∧ (yX7_setHandle.cls ≠ "java/lang/invoke/MethodHandle" ∧ yX7_setHandle.cls ≠ "java/lang/invoke/VarHandle") ∧ (parseMethodDescriptor yX7_setHandle.desc).map (fun d => d.parameters.length) = some 2 := ⟨wd_1_8, wd_6_174, ⟨by decide +kernel, by decide +kernel⟩, by decide +kernel⟩
theorem ca_X7_clouds : Cond.initialized yX7_clouds.cls ∈ eTB ∧ mWord mX7_clouds ∈ eTB ∧ (yX7_clouds.cls ≠ "java/lang/invoke/MethodHandle" ∧ yX7_clouds.cls ≠ "java/lang/invoke/VarHandle") ∧ (parseMethodDescriptor yX7_clouds.desc).map (fun d => d.parameters.length) = some 2 := ⟨wd_1_8, wd_6_186, ⟨by decide +kernel, by decide +kernel⟩, by decide +kernel⟩
theorem ca_X7_addCloud : Cond.initialized yX7_addCloud.cls ∈ eTB ∧ mWord mX7_addCloud ∈ eTB ∧ (yX7_addCloud.cls ≠ "java/lang/invoke/MethodHandle" ∧ yX7_addCloud.cls ≠ "java/lang/invoke/VarHandle") ∧ (parseMethodDescriptor yX7_addCloud.desc).map (fun d => d.parameters.length) = some 2 := ⟨wd_1_8, wd_6_182, ⟨by decide +kernel, by decide +kernel⟩, by decide +kernel⟩
theorem ca_X7_clears : Cond.initialized yX7_clears.cls ∈ eTB ∧ mWord mX7_clears ∈ eTB ∧ (yX7_clears.cls ≠ "java/lang/invoke/MethodHandle" ∧ yX7_clears.cls ≠ "java/lang/invoke/VarHandle") ∧ (parseMethodDescriptor yX7_clears.desc).map (fun d => d.parameters.length) = some 2 := ⟨wd_1_8, wd_6_198, ⟨by decide +kernel, by decide +kernel⟩, by decide +kernel⟩
theorem ca_X7_removeCloud : Cond.initialized yX7_removeCloud.cls ∈ eTB ∧ mWord mX7_removeCloud ∈ eTB ∧ (yX7_removeCloud.cls ≠ "java/lang/invoke/MethodHandle" ∧ yX7_removeCloud.cls ≠ "java/lang/invoke/VarHandle") ∧ (parseMethodDescriptor yX7_removeCloud.desc).map (fun d => d.parameters.length) = some 2 := ⟨wd_1_8, wd_6_194, ⟨by decide +kernel, by decide +kernel⟩, by decide +kernel⟩
theorem ca_X7_turns : Cond.initialized yX7_turns.cls ∈ eTB ∧ mWord mX7_turns ∈ eTB ∧ (yX7_turns.cls ≠ "java/lang/invoke/MethodHandle" ∧ yX7_turns.cls ≠ "java/lang/invoke/VarHandle") ∧ (parseMethodDescriptor yX7_turns.desc).map (fun d => d.parameters.length) = some 1 := ⟨wd_1_8, wd_6_206, ⟨by decide +kernel, by decide +kernel⟩, by decide +kernel⟩
theorem ca_X7_setTurnLength : Cond.initialized yX7_setTurnLength.cls ∈ eTB ∧ mWord mX7_setTurnLength ∈ eTB ∧ (yX7_setTurnLength.cls ≠ "java/lang/invoke/MethodHandle" ∧ yX7_setTurnLength.cls ≠ "java/lang/invoke/VarHandle") ∧ (parseMethodDescriptor yX7_setTurnLength.desc).map (fun d => d.parameters.length) = some 1 := ⟨wd_1_8, wd_6_202, ⟨by decide +kernel, by decide +kernel⟩, by decide +kernel⟩
theorem ca_X7_aims : Cond.initialized yX7_aims.cls ∈ eTB ∧ mWord mX7_aims ∈ eTB ∧ (yX7_aims.cls ≠ "java/lang/invoke/MethodHandle" ∧ yX7_aims.cls ≠ "java/lang/invoke/VarHandle") ∧ (parseMethodDescriptor yX7_aims.desc).map (fun d => d.parameters.length) = some 2 := ⟨wd_1_8, wd_6_214, ⟨by decide +kernel, by decide +kernel⟩, by decide +kernel⟩
theorem ca_X7_setTarget : Cond.initialized yX7_setTarget.cls ∈ eTB ∧ mWord mX7_setTarget ∈ eTB ∧ (yX7_setTarget.cls ≠ "java/lang/invoke/MethodHandle" ∧ yX7_setTarget.cls ≠ "java/lang/invoke/VarHandle") ∧ (parseMethodDescriptor yX7_setTarget.desc).map (fun d => d.parameters.length) = some 2 := ⟨wd_1_8, wd_6_210, ⟨by decide +kernel, by decide +kernel⟩, by decide +kernel⟩
theorem ca_X7_keeps : Cond.initialized yX7_keeps.cls ∈ eTB ∧ mWord mX7_keeps ∈ eTB ∧ (yX7_keeps.cls ≠ "java/lang/invoke/MethodHandle" ∧ yX7_keeps.cls ≠ "java/lang/invoke/VarHandle") ∧ (parseMethodDescriptor yX7_keeps.desc).map (fun d => d.parameters.length) = some 1 := ⟨wd_1_8, wd_6_222, ⟨by decide +kernel, by decide +kernel⟩, by decide +kernel⟩
theorem ca_X7_setKeep : Cond.initialized yX7_setKeep.cls ∈ eTB ∧ mWord mX7_setKeep ∈ eTB ∧ (yX7_setKeep.cls ≠ "java/lang/invoke/MethodHandle" ∧ yX7_setKeep.cls ≠ "java/lang/invoke/VarHandle") ∧ (parseMethodDescriptor yX7_setKeep.desc).map (fun d => d.parameters.length) = some 1 := ⟨wd_1_8, wd_6_218, ⟨by decide +kernel, by decide +kernel⟩, by decide +kernel⟩
theorem ca_X7_passes : Cond.initialized yX7_passes.cls ∈ eTB ∧ mWord mX7_passes ∈ eTB ∧ (yX7_passes.cls ≠ "java/lang/invoke/MethodHandle" ∧ yX7_passes.cls ≠ "java/lang/invoke/VarHandle") ∧ (parseMethodDescriptor yX7_passes.desc).map (fun d => d.parameters.length) = some 1 := ⟨wd_1_8, wd_6_230, ⟨by decide +kernel, by decide +kernel⟩, by decide +kernel⟩
theorem ca_X7_advance : Cond.initialized yX7_advance.cls ∈ eTB ∧ mWord mX7_advance ∈ eTB ∧ (yX7_advance.cls ≠ "java/lang/invoke/MethodHandle" ∧ yX7_advance.cls ≠ "java/lang/invoke/VarHandle") ∧ (parseMethodDescriptor yX7_advance.desc).map (fun d => d.parameters.length) = some 1 := ⟨wd_1_8, wd_6_226, ⟨by decide +kernel, by decide +kernel⟩, by decide +kernel⟩
theorem ca_X7_told : Cond.initialized yX7_told.cls ∈ eTB ∧ mWord mX7_told ∈ eTB ∧ (yX7_told.cls ≠ "java/lang/invoke/MethodHandle" ∧ yX7_told.cls ≠ "java/lang/invoke/VarHandle") ∧ (parseMethodDescriptor yX7_told.desc).map (fun d => d.parameters.length) = some 1 := ⟨wd_1_8, wd_7_37, ⟨by decide +kernel, by decide +kernel⟩, by decide +kernel⟩
theorem ca_X7_basketCount : Cond.initialized yX7_basketCount.cls ∈ eTB ∧ mWord mX7_basketCount ∈ eTB ∧ (yX7_basketCount.cls ≠ "java/lang/invoke/MethodHandle" ∧ yX7_basketCount.cls ≠ "java/lang/invoke/VarHandle") ∧ (parseMethodDescriptor yX7_basketCount.desc).map (fun d => d.parameters.length) = some 0 := ⟨wd_1_8, wd_7_33, ⟨by decide +kernel, by decide +kernel⟩, by decide +kernel⟩
theorem ca_X7_ofBasket : Cond.initialized yX7_ofBasket.cls ∈ eTB ∧ mWord mX7_ofBasket ∈ eTB ∧ (yX7_ofBasket.cls ≠ "java/lang/invoke/MethodHandle" ∧ yX7_ofBasket.cls ≠ "java/lang/invoke/VarHandle") ∧ (parseMethodDescriptor yX7_ofBasket.desc).map (fun d => d.parameters.length) = some 2 := ⟨wd_1_8, wd_7_45, ⟨by decide +kernel, by decide +kernel⟩, by decide +kernel⟩
theorem ca_X7_xOf : Cond.initialized yX7_xOf.cls ∈ eTB ∧ mWord mX7_xOf ∈ eTB ∧ (yX7_xOf.cls ≠ "java/lang/invoke/MethodHandle" ∧ yX7_xOf.cls ≠ "java/lang/invoke/VarHandle") ∧ (parseMethodDescriptor yX7_xOf.desc).map (fun d => d.parameters.length) = some 1 := ⟨wd_1_8, wd_7_41, ⟨by decide +kernel, by decide +kernel⟩, by decide +kernel⟩
theorem ca_X7_yOf : Cond.initialized yX7_yOf.cls ∈ eTB ∧ mWord mX7_yOf ∈ eTB ∧ (yX7_yOf.cls ≠ "java/lang/invoke/MethodHandle" ∧ yX7_yOf.cls ≠ "java/lang/invoke/VarHandle") ∧ (parseMethodDescriptor yX7_yOf.desc).map (fun d => d.parameters.length) = some 1 := ⟨wd_1_8, wd_7_49, ⟨by decide +kernel, by decide +kernel⟩, by decide +kernel⟩
theorem ca_X7_handleOf : Cond.initialized yX7_handleOf.cls ∈ eTB ∧ mWord mX7_handleOf ∈ eTB ∧ (yX7_handleOf.cls ≠ "java/lang/invoke/MethodHandle" ∧ yX7_handleOf.cls ≠ "java/lang/invoke/VarHandle") ∧ (parseMethodDescriptor yX7_handleOf.desc).map (fun d => d.parameters.length) = some 1 := ⟨wd_1_8, wd_7_53, ⟨by decide +kernel, by decide +kernel⟩, by decide +kernel⟩
theorem ca_X7_basketAt : Cond.initialized yX7_basketAt.cls ∈ eTB ∧ mWord mX7_basketAt ∈ eTB ∧ (yX7_basketAt.cls ≠ "java/lang/invoke/MethodHandle" ∧ yX7_basketAt.cls ≠ "java/lang/invoke/VarHandle") ∧ (parseMethodDescriptor yX7_basketAt.desc).map (fun d => d.parameters.length) = some 2 := ⟨wd_1_8, wd_7_57, ⟨by decide +kernel, by decide +kernel⟩, by decide +kernel⟩
theorem ca_X7_distance : Cond.initialized yX7_distance.cls ∈ eTB ∧ mWord mX7_distance ∈ eTB ∧ (yX7_distance.cls ≠ "java/lang/invoke/MethodHandle" ∧ yX7_distance.cls ≠ "java/lang/invoke/VarHandle") ∧ (parseMethodDescriptor yX7_distance.desc).map (fun d => d.parameters.length) = some 2 := ⟨wd_1_8, wd_7_61, ⟨by decide +kernel, by decide +kernel⟩, by decide +kernel⟩
theorem ca_X7_nearestTo : Cond.initialized yX7_nearestTo.cls ∈ eTB ∧ mWord mX7_nearestTo ∈ eTB ∧ (yX7_nearestTo.cls ≠ "java/lang/invoke/MethodHandle" ∧ yX7_nearestTo.cls ≠ "java/lang/invoke/VarHandle") ∧ (parseMethodDescriptor yX7_nearestTo.desc).map (fun d => d.parameters.length) = some 1 := ⟨wd_1_8, wd_7_65, ⟨by decide +kernel, by decide +kernel⟩, by decide +kernel⟩
theorem ca_X7_isCloud : Cond.initialized yX7_isCloud.cls ∈ eTB ∧ mWord mX7_isCloud ∈ eTB ∧ (yX7_isCloud.cls ≠ "java/lang/invoke/MethodHandle" ∧ yX7_isCloud.cls ≠ "java/lang/invoke/VarHandle") ∧ (parseMethodDescriptor yX7_isCloud.desc).map (fun d => d.parameters.length) = some 2 := ⟨wd_1_8, wd_7_69, ⟨by decide +kernel, by decide +kernel⟩, by decide +kernel⟩
theorem ca_X7_cloudCount : Cond.initialized yX7_cloudCount.cls ∈ eTB ∧ mWord mX7_cloudCount ∈ eTB ∧ (yX7_cloudCount.cls ≠ "java/lang/invoke/MethodHandle" ∧ yX7_cloudCount.cls ≠ "java/lang/invoke/VarHandle") ∧ (parseMethodDescriptor yX7_cloudCount.desc).map (fun d => d.parameters.length) = some 0 := ⟨wd_1_8, wd_7_73, ⟨by decide +kernel, by decide +kernel⟩, by decide +kernel⟩
theorem ca_X7_turnLength : Cond.initialized yX7_turnLength.cls ∈ eTB ∧ mWord mX7_turnLength ∈ eTB ∧ (yX7_turnLength.cls ≠ "java/lang/invoke/MethodHandle" ∧ yX7_turnLength.cls ≠ "java/lang/invoke/VarHandle") ∧ (parseMethodDescriptor yX7_turnLength.desc).map (fun d => d.parameters.length) = some 0 := ⟨wd_1_8, wd_7_77, ⟨by decide +kernel, by decide +kernel⟩, by decide +kernel⟩
theorem ca_X7_leader : Cond.initialized yX7_leader.cls ∈ eTB ∧ mWord mX7_leader ∈ eTB ∧ (yX7_leader.cls ≠ "java/lang/invoke/MethodHandle" ∧ yX7_leader.cls ≠ "java/lang/invoke/VarHandle") ∧ (parseMethodDescriptor yX7_leader.desc).map (fun d => d.parameters.length) = some 0 := ⟨wd_1_8, wd_7_81, ⟨by decide +kernel, by decide +kernel⟩, by decide +kernel⟩
theorem ca_X7_leaderAfter : Cond.initialized yX7_leaderAfter.cls ∈ eTB ∧ mWord mX7_leaderAfter ∈ eTB ∧ (yX7_leaderAfter.cls ≠ "java/lang/invoke/MethodHandle" ∧ yX7_leaderAfter.cls ≠ "java/lang/invoke/VarHandle") ∧ (parseMethodDescriptor yX7_leaderAfter.desc).map (fun d => d.parameters.length) = some 1 := ⟨wd_1_8, wd_7_85, ⟨by decide +kernel, by decide +kernel⟩, by decide +kernel⟩
theorem ca_X7_leaderAfterByCounting : Cond.initialized yX7_leaderAfterByCounting.cls ∈ eTB ∧ mWord mX7_leaderAfterByCounting ∈ eTB ∧ (yX7_leaderAfterByCounting.cls ≠ "java/lang/invoke/MethodHandle" ∧ yX7_leaderAfterByCounting.cls ≠ "java/lang/invoke/VarHandle") ∧ (parseMethodDescriptor yX7_leaderAfterByCounting.desc).map (fun d => d.parameters.length) = some 1 := ⟨wd_1_8, wd_7_89, ⟨by decide +kernel, by decide +kernel⟩, by decide +kernel⟩
theorem ca_X7_targetX : Cond.initialized yX7_targetX.cls ∈ eTB ∧ mWord mX7_targetX ∈ eTB ∧ (yX7_targetX.cls ≠ "java/lang/invoke/MethodHandle" ∧ yX7_targetX.cls ≠ "java/lang/invoke/VarHandle") ∧ (parseMethodDescriptor yX7_targetX.desc).map (fun d => d.parameters.length) = some 0 := ⟨wd_1_8, wd_7_94, ⟨by decide +kernel, by decide +kernel⟩, by decide +kernel⟩
theorem ca_X7_targetY : Cond.initialized yX7_targetY.cls ∈ eTB ∧ mWord mX7_targetY ∈ eTB ∧ (yX7_targetY.cls ≠ "java/lang/invoke/MethodHandle" ∧ yX7_targetY.cls ≠ "java/lang/invoke/VarHandle") ∧ (parseMethodDescriptor yX7_targetY.desc).map (fun d => d.parameters.length) = some 0 := ⟨wd_1_8, wd_7_98, ⟨by decide +kernel, by decide +kernel⟩, by decide +kernel⟩
theorem ca_X7_isThere : Cond.initialized yX7_isThere.cls ∈ eTB ∧ mWord mX7_isThere ∈ eTB ∧ (yX7_isThere.cls ≠ "java/lang/invoke/MethodHandle" ∧ yX7_isThere.cls ≠ "java/lang/invoke/VarHandle") ∧ (parseMethodDescriptor yX7_isThere.desc).map (fun d => d.parameters.length) = some 0 := ⟨wd_1_8, wd_7_106, ⟨by decide +kernel, by decide +kernel⟩, by decide +kernel⟩
theorem ca_X7_stepsToTarget : Cond.initialized yX7_stepsToTarget.cls ∈ eTB ∧ mWord mX7_stepsToTarget ∈ eTB ∧ (yX7_stepsToTarget.cls ≠ "java/lang/invoke/MethodHandle" ∧ yX7_stepsToTarget.cls ≠ "java/lang/invoke/VarHandle") ∧ (parseMethodDescriptor yX7_stepsToTarget.desc).map (fun d => d.parameters.length) = some 0 := ⟨wd_1_8, wd_7_102, ⟨by decide +kernel, by decide +kernel⟩, by decide +kernel⟩
theorem ca_X7_keep : Cond.initialized yX7_keep.cls ∈ eTB ∧ mWord mX7_keep ∈ eTB ∧ (yX7_keep.cls ≠ "java/lang/invoke/MethodHandle" ∧ yX7_keep.cls ≠ "java/lang/invoke/VarHandle") ∧ (parseMethodDescriptor yX7_keep.desc).map (fun d => d.parameters.length) = some 0 := ⟨wd_1_8, wd_7_110, ⟨by decide +kernel, by decide +kernel⟩, by decide +kernel⟩
theorem ca_X7_stepCount : Cond.initialized yX7_stepCount.cls ∈ eTB ∧ mWord mX7_stepCount ∈ eTB ∧ (yX7_stepCount.cls ≠ "java/lang/invoke/MethodHandle" ∧ yX7_stepCount.cls ≠ "java/lang/invoke/VarHandle") ∧ (parseMethodDescriptor yX7_stepCount.desc).map (fun d => d.parameters.length) = some 0 := ⟨wd_1_8, wd_7_114, ⟨by decide +kernel, by decide +kernel⟩, by decide +kernel⟩
theorem ca_X7_movesOf : Cond.initialized yX7_movesOf.cls ∈ eTB ∧ mWord mX7_movesOf ∈ eTB ∧ (yX7_movesOf.cls ≠ "java/lang/invoke/MethodHandle" ∧ yX7_movesOf.cls ≠ "java/lang/invoke/VarHandle") ∧ (parseMethodDescriptor yX7_movesOf.desc).map (fun d => d.parameters.length) = some 1 := ⟨wd_1_8, wd_7_118, ⟨by decide +kernel, by decide +kernel⟩, by decide +kernel⟩
theorem ca_X7_moveTotal : Cond.initialized yX7_moveTotal.cls ∈ eTB ∧ mWord mX7_moveTotal ∈ eTB ∧ (yX7_moveTotal.cls ≠ "java/lang/invoke/MethodHandle" ∧ yX7_moveTotal.cls ≠ "java/lang/invoke/VarHandle") ∧ (parseMethodDescriptor yX7_moveTotal.desc).map (fun d => d.parameters.length) = some 0 := ⟨wd_1_8, wd_7_122, ⟨by decide +kernel, by decide +kernel⟩, by decide +kernel⟩
theorem ca_X7_waitTotal : Cond.initialized yX7_waitTotal.cls ∈ eTB ∧ mWord mX7_waitTotal ∈ eTB ∧ (yX7_waitTotal.cls ≠ "java/lang/invoke/MethodHandle" ∧ yX7_waitTotal.cls ≠ "java/lang/invoke/VarHandle") ∧ (parseMethodDescriptor yX7_waitTotal.desc).map (fun d => d.parameters.length) = some 0 := ⟨wd_1_8, wd_7_126, ⟨by decide +kernel, by decide +kernel⟩, by decide +kernel⟩
theorem ca_X7_areLinked : Cond.initialized yX7_areLinked.cls ∈ eTB ∧ mWord mX7_areLinked ∈ eTB ∧ (yX7_areLinked.cls ≠ "java/lang/invoke/MethodHandle" ∧ yX7_areLinked.cls ≠ "java/lang/invoke/VarHandle") ∧ (parseMethodDescriptor yX7_areLinked.desc).map (fun d => d.parameters.length) = some 2 := ⟨wd_1_8, wd_7_138, ⟨by decide +kernel, by decide +kernel⟩, by decide +kernel⟩
theorem ca_X7_formation : Cond.initialized yX7_formation.cls ∈ eTB ∧ mWord mX7_formation ∈ eTB ∧ (yX7_formation.cls ≠ "java/lang/invoke/MethodHandle" ∧ yX7_formation.cls ≠ "java/lang/invoke/VarHandle") ∧ (parseMethodDescriptor yX7_formation.desc).map (fun d => d.parameters.length) = some 1 := ⟨wd_1_8, wd_7_134, ⟨by decide +kernel, by decide +kernel⟩, by decide +kernel⟩
theorem ca_X7_lowest : Cond.initialized yX7_lowest.cls ∈ eTB ∧ mWord mX7_lowest ∈ eTB ∧ (yX7_lowest.cls ≠ "java/lang/invoke/MethodHandle" ∧ yX7_lowest.cls ≠ "java/lang/invoke/VarHandle") ∧ (parseMethodDescriptor yX7_lowest.desc).map (fun d => d.parameters.length) = some 1 := ⟨wd_1_8, wd_7_141, ⟨by decide +kernel, by decide +kernel⟩, by decide +kernel⟩
theorem ca_X7_formationCount : Cond.initialized yX7_formationCount.cls ∈ eTB ∧ mWord mX7_formationCount ∈ eTB ∧ (yX7_formationCount.cls ≠ "java/lang/invoke/MethodHandle" ∧ yX7_formationCount.cls ≠ "java/lang/invoke/VarHandle") ∧ (parseMethodDescriptor yX7_formationCount.desc).map (fun d => d.parameters.length) = some 0 := ⟨wd_1_8, wd_7_130, ⟨by decide +kernel, by decide +kernel⟩, by decide +kernel⟩
theorem ca_X7_formationCountByMerging : Cond.initialized yX7_formationCountByMerging.cls ∈ eTB ∧ mWord mX7_formationCountByMerging ∈ eTB ∧ (yX7_formationCountByMerging.cls ≠ "java/lang/invoke/MethodHandle" ∧ yX7_formationCountByMerging.cls ≠ "java/lang/invoke/VarHandle") ∧ (parseMethodDescriptor yX7_formationCountByMerging.desc).map (fun d => d.parameters.length) = some 0 := ⟨wd_1_8, wd_7_145, ⟨by decide +kernel, by decide +kernel⟩, by decide +kernel⟩
theorem ca_X7_largestFormation : Cond.initialized yX7_largestFormation.cls ∈ eTB ∧ mWord mX7_largestFormation ∈ eTB ∧ (yX7_largestFormation.cls ≠ "java/lang/invoke/MethodHandle" ∧ yX7_largestFormation.cls ≠ "java/lang/invoke/VarHandle") ∧ (parseMethodDescriptor yX7_largestFormation.desc).map (fun d => d.parameters.length) = some 0 := ⟨wd_1_8, wd_7_150, ⟨by decide +kernel, by decide +kernel⟩, by decide +kernel⟩
theorem ca_X7_formationOf : Cond.initialized yX7_formationOf.cls ∈ eTB ∧ mWord mX7_formationOf ∈ eTB ∧ (yX7_formationOf.cls ≠ "java/lang/invoke/MethodHandle" ∧ yX7_formationOf.cls ≠ "java/lang/invoke/VarHandle") ∧ (parseMethodDescriptor yX7_formationOf.desc).map (fun d => d.parameters.length) = some 1 := ⟨wd_1_8, wd_7_154, ⟨by decide +kernel, by decide +kernel⟩, by decide +kernel⟩
theorem ca_X7_pairs : Cond.initialized yX7_pairs.cls ∈ eTB ∧ mWord mX7_pairs ∈ eTB ∧ (yX7_pairs.cls ≠ "java/lang/invoke/MethodHandle" ∧ yX7_pairs.cls ≠ "java/lang/invoke/VarHandle") ∧ (parseMethodDescriptor yX7_pairs.desc).map (fun d => d.parameters.length) = some 1 := ⟨wd_1_8, wd_7_162, ⟨by decide +kernel, by decide +kernel⟩, by decide +kernel⟩
theorem ca_X7_mixedPairs : Cond.initialized yX7_mixedPairs.cls ∈ eTB ∧ mWord mX7_mixedPairs ∈ eTB ∧ (yX7_mixedPairs.cls ≠ "java/lang/invoke/MethodHandle" ∧ yX7_mixedPairs.cls ≠ "java/lang/invoke/VarHandle") ∧ (parseMethodDescriptor yX7_mixedPairs.desc).map (fun d => d.parameters.length) = some 0 := ⟨wd_1_8, wd_7_158, ⟨by decide +kernel, by decide +kernel⟩, by decide +kernel⟩
theorem ca_X7_mixedPairsByHandles : Cond.initialized yX7_mixedPairsByHandles.cls ∈ eTB ∧ mWord mX7_mixedPairsByHandles ∈ eTB ∧ (yX7_mixedPairsByHandles.cls ≠ "java/lang/invoke/MethodHandle" ∧ yX7_mixedPairsByHandles.cls ≠ "java/lang/invoke/VarHandle") ∧ (parseMethodDescriptor yX7_mixedPairsByHandles.desc).map (fun d => d.parameters.length) = some 0 := ⟨wd_1_8, wd_7_166, ⟨by decide +kernel, by decide +kernel⟩, by decide +kernel⟩
theorem ca_X7_shapeCount : Cond.initialized yX7_shapeCount.cls ∈ eTB ∧ mWord mX7_shapeCount ∈ eTB ∧ (yX7_shapeCount.cls ≠ "java/lang/invoke/MethodHandle" ∧ yX7_shapeCount.cls ≠ "java/lang/invoke/VarHandle") ∧ (parseMethodDescriptor yX7_shapeCount.desc).map (fun d => d.parameters.length) = some 0 := ⟨wd_1_8, wd_7_171, ⟨by decide +kernel, by decide +kernel⟩, by decide +kernel⟩
theorem ca_X7_areAlike : Cond.initialized yX7_areAlike.cls ∈ eTB ∧ mWord mX7_areAlike ∈ eTB ∧ (yX7_areAlike.cls ≠ "java/lang/invoke/MethodHandle" ∧ yX7_areAlike.cls ≠ "java/lang/invoke/VarHandle") ∧ (parseMethodDescriptor yX7_areAlike.desc).map (fun d => d.parameters.length) = some 2 := ⟨wd_1_8, wd_7_179, ⟨by decide +kernel, by decide +kernel⟩, by decide +kernel⟩
theorem ca_X7_differentShapes : Cond.initialized yX7_differentShapes.cls ∈ eTB ∧ mWord mX7_differentShapes ∈ eTB ∧ (yX7_differentShapes.cls ≠ "java/lang/invoke/MethodHandle" ∧ yX7_differentShapes.cls ≠ "java/lang/invoke/VarHandle") ∧ (parseMethodDescriptor yX7_differentShapes.desc).map (fun d => d.parameters.length) = some 0 := ⟨wd_1_8, wd_7_175, ⟨by decide +kernel, by decide +kernel⟩, by decide +kernel⟩
theorem ca_X7_stepsSinceShape : Cond.initialized yX7_stepsSinceShape.cls ∈ eTB ∧ mWord mX7_stepsSinceShape ∈ eTB ∧ (yX7_stepsSinceShape.cls ≠ "java/lang/invoke/MethodHandle" ∧ yX7_stepsSinceShape.cls ≠ "java/lang/invoke/VarHandle") ∧ (parseMethodDescriptor yX7_stepsSinceShape.desc).map (fun d => d.parameters.length) = some 0 := ⟨wd_1_8, wd_7_183, ⟨by decide +kernel, by decide +kernel⟩, by decide +kernel⟩
theorem ca_X7_basketAtRank : Cond.initialized yX7_basketAtRank.cls ∈ eTB ∧ mWord mX7_basketAtRank ∈ eTB ∧ (yX7_basketAtRank.cls ≠ "java/lang/invoke/MethodHandle" ∧ yX7_basketAtRank.cls ≠ "java/lang/invoke/VarHandle") ∧ (parseMethodDescriptor yX7_basketAtRank.desc).map (fun d => d.parameters.length) = some 1 := ⟨wd_1_8, wd_7_191, ⟨by decide +kernel, by decide +kernel⟩, by decide +kernel⟩
theorem ca_X7_append : Cond.initialized yX7_append.cls ∈ eTB ∧ mWord mX7_append ∈ eTB ∧ (yX7_append.cls ≠ "java/lang/invoke/MethodHandle" ∧ yX7_append.cls ≠ "java/lang/invoke/VarHandle") ∧ (parseMethodDescriptor yX7_append.desc).map (fun d => d.parameters.length) = some 1 := ⟨wd_1_8, wd_7_195, ⟨by decide +kernel, by decide +kernel⟩, by decide +kernel⟩
theorem ca_X7_sign : Cond.initialized yX7_sign.cls ∈ eTB ∧ mWord mX7_sign ∈ eTB ∧ (yX7_sign.cls ≠ "java/lang/invoke/MethodHandle" ∧ yX7_sign.cls ≠ "java/lang/invoke/VarHandle") ∧ (parseMethodDescriptor yX7_sign.desc).map (fun d => d.parameters.length) = some 0 := ⟨wd_1_8, wd_7_211, ⟨by decide +kernel, by decide +kernel⟩, by decide +kernel⟩
theorem ca_X7_needs : Cond.initialized yX7_needs.cls ∈ eTB ∧ mWord mX7_needs ∈ eTB ∧ (yX7_needs.cls ≠ "java/lang/invoke/MethodHandle" ∧ yX7_needs.cls ≠ "java/lang/invoke/VarHandle") ∧ (parseMethodDescriptor yX7_needs.desc).map (fun d => d.parameters.length) = some 1 := ⟨wd_1_8, wd_7_219, ⟨by decide +kernel, by decide +kernel⟩, by decide +kernel⟩
theorem ca_X7_letters : Cond.initialized yX7_letters.cls ∈ eTB ∧ mWord mX7_letters ∈ eTB ∧ (yX7_letters.cls ≠ "java/lang/invoke/MethodHandle" ∧ yX7_letters.cls ≠ "java/lang/invoke/VarHandle") ∧ (parseMethodDescriptor yX7_letters.desc).map (fun d => d.parameters.length) = some 3 := ⟨wd_1_8, wd_7_223, ⟨by decide +kernel, by decide +kernel⟩, by decide +kernel⟩
theorem ca_X7_number : Cond.initialized yX7_number.cls ∈ eTB ∧ mWord mX7_number ∈ eTB ∧ (yX7_number.cls ≠ "java/lang/invoke/MethodHandle" ∧ yX7_number.cls ≠ "java/lang/invoke/VarHandle") ∧ (parseMethodDescriptor yX7_number.desc).map (fun d => d.parameters.length) = some 1 := ⟨wd_1_8, wd_7_235, ⟨by decide +kernel, by decide +kernel⟩, by decide +kernel⟩
theorem ca_X7_behind : Cond.initialized yX7_behind.cls ∈ eTB ∧ mWord mX7_behind ∈ eTB ∧ (yX7_behind.cls ≠ "java/lang/invoke/MethodHandle" ∧ yX7_behind.cls ≠ "java/lang/invoke/VarHandle") ∧ (parseMethodDescriptor yX7_behind.desc).map (fun d => d.parameters.length) = some 2 := ⟨wd_1_8, wd_7_231, ⟨by decide +kernel, by decide +kernel⟩, by decide +kernel⟩
theorem ca_X7_word : Cond.initialized yX7_word.cls ∈ eTB ∧ mWord mX7_word ∈ eTB ∧ (yX7_word.cls ≠ "java/lang/invoke/MethodHandle" ∧ yX7_word.cls ≠ "java/lang/invoke/VarHandle") ∧ (parseMethodDescriptor yX7_word.desc).map (fun d => d.parameters.length) = some 1 := ⟨wd_1_8, wd_7_215, ⟨by decide +kernel, by decide +kernel⟩, by decide +kernel⟩
theorem ca_X7_cell : Cond.initialized yX7_cell.cls ∈ eTB ∧ mWord mX7_cell ∈ eTB ∧ (yX7_cell.cls ≠ "java/lang/invoke/MethodHandle" ∧ yX7_cell.cls ≠ "java/lang/invoke/VarHandle") ∧ (parseMethodDescriptor yX7_cell.desc).map (fun d => d.parameters.length) = some 1 := ⟨wd_1_8, wd_7_227, ⟨by decide +kernel, by decide +kernel⟩, by decide +kernel⟩
theorem ca_X7_command : Cond.initialized yX7_command.cls ∈ eTB ∧ mWord mX7_command ∈ eTB ∧ (yX7_command.cls ≠ "java/lang/invoke/MethodHandle" ∧ yX7_command.cls ≠ "java/lang/invoke/VarHandle") ∧ (parseMethodDescriptor yX7_command.desc).map (fun d => d.parameters.length) = some 0 := ⟨wd_1_8, wd_7_207, ⟨by decide +kernel, by decide +kernel⟩, by decide +kernel⟩
theorem ca_X7_parse : Cond.initialized yX7_parse.cls ∈ eTB ∧ mWord mX7_parse ∈ eTB ∧ (yX7_parse.cls ≠ "java/lang/invoke/MethodHandle" ∧ yX7_parse.cls ≠ "java/lang/invoke/VarHandle") ∧ (parseMethodDescriptor yX7_parse.desc).map (fun d => d.parameters.length) = some 0 := ⟨wd_1_8, wd_7_203, ⟨by decide +kernel, by decide +kernel⟩, by decide +kernel⟩
theorem ca_X7_does : Cond.initialized yX7_does.cls ∈ eTB ∧ mWord mX7_does ∈ eTB ∧ (yX7_does.cls ≠ "java/lang/invoke/MethodHandle" ∧ yX7_does.cls ≠ "java/lang/invoke/VarHandle") ∧ (parseMethodDescriptor yX7_does.desc).map (fun d => d.parameters.length) = some 1 := ⟨wd_1_8, wd_7_239, ⟨by decide +kernel, by decide +kernel⟩, by decide +kernel⟩
theorem ca_X7_run : Cond.initialized yX7_run.cls ∈ eTB ∧ mWord mX7_run ∈ eTB ∧ (yX7_run.cls ≠ "java/lang/invoke/MethodHandle" ∧ yX7_run.cls ≠ "java/lang/invoke/VarHandle") ∧ (parseMethodDescriptor yX7_run.desc).map (fun d => d.parameters.length) = some 0 := ⟨wd_1_8, wd_7_199, ⟨by decide +kernel, by decide +kernel⟩, by decide +kernel⟩
theorem ca_X7_errorPosition : Cond.initialized yX7_errorPosition.cls ∈ eTB ∧ mWord mX7_errorPosition ∈ eTB ∧ (yX7_errorPosition.cls ≠ "java/lang/invoke/MethodHandle" ∧ yX7_errorPosition.cls ≠ "java/lang/invoke/VarHandle") ∧ (parseMethodDescriptor yX7_errorPosition.desc).map (fun d => d.parameters.length) = some 0 := ⟨wd_1_8, wd_8_3, ⟨by decide +kernel, by decide +kernel⟩, by decide +kernel⟩
theorem ca_X7_failedCommand : Cond.initialized yX7_failedCommand.cls ∈ eTB ∧ mWord mX7_failedCommand ∈ eTB ∧ (yX7_failedCommand.cls ≠ "java/lang/invoke/MethodHandle" ∧ yX7_failedCommand.cls ≠ "java/lang/invoke/VarHandle") ∧ (parseMethodDescriptor yX7_failedCommand.desc).map (fun d => d.parameters.length) = some 0 := ⟨wd_1_8, wd_8_7, ⟨by decide +kernel, by decide +kernel⟩, by decide +kernel⟩
theorem ca_X7_describeRow : Cond.initialized yX7_describeRow.cls ∈ eTB ∧ mWord mX7_describeRow ∈ eTB ∧ (yX7_describeRow.cls ≠ "java/lang/invoke/MethodHandle" ∧ yX7_describeRow.cls ≠ "java/lang/invoke/VarHandle") ∧ (parseMethodDescriptor yX7_describeRow.desc).map (fun d => d.parameters.length) = some 1 := ⟨wd_1_8, wd_8_11, ⟨by decide +kernel, by decide +kernel⟩, by decide +kernel⟩
theorem ca_X7_lineAt : Cond.initialized yX7_lineAt.cls ∈ eTB ∧ mWord mX7_lineAt ∈ eTB ∧ (yX7_lineAt.cls ≠ "java/lang/invoke/MethodHandle" ∧ yX7_lineAt.cls ≠ "java/lang/invoke/VarHandle") ∧ (parseMethodDescriptor yX7_lineAt.desc).map (fun d => d.parameters.length) = some 1 := ⟨wd_1_8, wd_8_15, ⟨by decide +kernel, by decide +kernel⟩, by decide +kernel⟩
theorem ca_X7_meanDistance : Cond.initialized yX7_meanDistance.cls ∈ eTB ∧ mWord mX7_meanDistance ∈ eTB ∧ (yX7_meanDistance.cls ≠ "java/lang/invoke/MethodHandle" ∧ yX7_meanDistance.cls ≠ "java/lang/invoke/VarHandle") ∧ (parseMethodDescriptor yX7_meanDistance.desc).map (fun d => d.parameters.length) = some 0 := ⟨wd_1_8, wd_8_19, ⟨by decide +kernel, by decide +kernel⟩, by decide +kernel⟩
theorem ca_X7_mixedShare : Cond.initialized yX7_mixedShare.cls ∈ eTB ∧ mWord mX7_mixedShare ∈ eTB ∧ (yX7_mixedShare.cls ≠ "java/lang/invoke/MethodHandle" ∧ yX7_mixedShare.cls ≠ "java/lang/invoke/VarHandle") ∧ (parseMethodDescriptor yX7_mixedShare.desc).map (fun d => d.parameters.length) = some 0 := ⟨wd_1_8, wd_8_23, ⟨by decide +kernel, by decide +kernel⟩, by decide +kernel⟩
theorem ca_X7_isConsistent : Cond.initialized yX7_isConsistent.cls ∈ eTB ∧ mWord mX7_isConsistent ∈ eTB ∧ (yX7_isConsistent.cls ≠ "java/lang/invoke/MethodHandle" ∧ yX7_isConsistent.cls ≠ "java/lang/invoke/VarHandle") ∧ (parseMethodDescriptor yX7_isConsistent.desc).map (fun d => d.parameters.length) = some 0 := ⟨wd_1_8, wd_8_27, ⟨by decide +kernel, by decide +kernel⟩, by decide +kernel⟩
theorem ca_X7_undo : Cond.initialized yX7_undo.cls ∈ eTB ∧ mWord mX7_undo ∈ eTB ∧ (yX7_undo.cls ≠ "java/lang/invoke/MethodHandle" ∧ yX7_undo.cls ≠ "java/lang/invoke/VarHandle") ∧ (parseMethodDescriptor yX7_undo.desc).map (fun d => d.parameters.length) = some 0 := ⟨wd_1_8, wd_8_31, ⟨by decide +kernel, by decide +kernel⟩, by decide +kernel⟩
theorem ca_X7_save : Cond.initialized yX7_save.cls ∈ eTB ∧ mWord mX7_save ∈ eTB ∧ (yX7_save.cls ≠ "java/lang/invoke/MethodHandle" ∧ yX7_save.cls ≠ "java/lang/invoke/VarHandle") ∧ (parseMethodDescriptor yX7_save.desc).map (fun d => d.parameters.length) = some 0 := ⟨wd_1_8, wd_8_35, ⟨by decide +kernel, by decide +kernel⟩, by decide +kernel⟩
theorem ca_X7_restore : Cond.initialized yX7_restore.cls ∈ eTB ∧ mWord mX7_restore ∈ eTB ∧ (yX7_restore.cls ≠ "java/lang/invoke/MethodHandle" ∧ yX7_restore.cls ≠ "java/lang/invoke/VarHandle") ∧ (parseMethodDescriptor yX7_restore.desc).map (fun d => d.parameters.length) = some 0 := ⟨wd_1_8, wd_8_39, ⟨by decide +kernel, by decide +kernel⟩, by decide +kernel⟩
theorem ca_Jx00060_init_a7421 : Cond.initialized yJx00060_init_a7421.cls ∈ eTB ∧ mWord mJx00060_init_a7421 ∈ eTB ∧ (yJx00060_init_a7421.cls ≠ "java/lang/invoke/MethodHandle" ∧ yJx00060_init_a7421.cls ≠ "java/lang/invoke/VarHandle") ∧ (parseMethodDescriptor yJx00060_init_a7421.desc).map (fun d => d.parameters.length) = some 1 := ⟨wd_1_19, wd_3_168, ⟨by decide +kernel, by decide +kernel⟩, by decide +kernel⟩
theorem ca_J9_abs_0f7a4 : Cond.initialized yJ9_abs_0f7a4.cls ∈ eTB ∧ mWord mJ9_abs_0f7a4 ∈ eTB ∧ (yJ9_abs_0f7a4.cls ≠ "java/lang/invoke/MethodHandle" ∧ yJ9_abs_0f7a4.cls ≠ "java/lang/invoke/VarHandle") ∧ (parseMethodDescriptor yJ9_abs_0f7a4.desc).map (fun d => d.parameters.length) = some 1 := ⟨wd_1_9, wd_2_65, ⟨by decide +kernel, by decide +kernel⟩, by decide +kernel⟩
theorem ca_J9_max_7cf53 : Cond.initialized yJ9_max_7cf53.cls ∈ eTB ∧ mWord mJ9_max_7cf53 ∈ eTB ∧ (yJ9_max_7cf53.cls ≠ "java/lang/invoke/MethodHandle" ∧ yJ9_max_7cf53.cls ≠ "java/lang/invoke/VarHandle") ∧ (parseMethodDescriptor yJ9_max_7cf53.desc).map (fun d => d.parameters.length) = some 2 := ⟨wd_1_9, wd_2_92, ⟨by decide +kernel, by decide +kernel⟩, by decide +kernel⟩
theorem ca_J9_min_7cf53 : Cond.initialized yJ9_min_7cf53.cls ∈ eTB ∧ mWord mJ9_min_7cf53 ∈ eTB ∧ (yJ9_min_7cf53.cls ≠ "java/lang/invoke/MethodHandle" ∧ yJ9_min_7cf53.cls ≠ "java/lang/invoke/VarHandle") ∧ (parseMethodDescriptor yJ9_min_7cf53.desc).map (fun d => d.parameters.length) = some 2 := ⟨wd_1_9, wd_3_157, ⟨by decide +kernel, by decide +kernel⟩, by decide +kernel⟩
theorem ca_J0_length_8abf5 : Cond.initialized yJ0_length_8abf5.cls ∈ eTB ∧ mWord mJ0_length_8abf5 ∈ eTB ∧ (yJ0_length_8abf5.cls ≠ "java/lang/invoke/MethodHandle" ∧ yJ0_length_8abf5.cls ≠ "java/lang/invoke/VarHandle") ∧ (parseMethodDescriptor yJ0_length_8abf5.desc).map (fun d => d.parameters.length) = some 0 := ⟨wd_1_20, wd_5_84, ⟨by decide +kernel, by decide +kernel⟩, by decide +kernel⟩
theorem ca_J0_charAt_5068e : Cond.initialized yJ0_charAt_5068e.cls ∈ eTB ∧ mWord mJ0_charAt_5068e ∈ eTB ∧ (yJ0_charAt_5068e.cls ≠ "java/lang/invoke/MethodHandle" ∧ yJ0_charAt_5068e.cls ≠ "java/lang/invoke/VarHandle") ∧ (parseMethodDescriptor yJ0_charAt_5068e.desc).map (fun d => d.parameters.length) = some 1 := ⟨wd_1_20, wd_5_94, ⟨by decide +kernel, by decide +kernel⟩, by decide +kernel⟩
theorem ca_J0_coder_7d493 : Cond.initialized yJ0_coder_7d493.cls ∈ eTB ∧ mWord mJ0_coder_7d493 ∈ eTB ∧ (yJ0_coder_7d493.cls ≠ "java/lang/invoke/MethodHandle" ∧ yJ0_coder_7d493.cls ≠ "java/lang/invoke/VarHandle") ∧ (parseMethodDescriptor yJ0_coder_7d493.desc).map (fun d => d.parameters.length) = some 0 := ⟨wd_1_20, wd_5_88, ⟨by decide +kernel, by decide +kernel⟩, by decide +kernel⟩
theorem ca_J0_isLatin1_aae02 : Cond.initialized yJ0_isLatin1_aae02.cls ∈ eTB ∧ mWord mJ0_isLatin1_aae02 ∈ eTB ∧ (yJ0_isLatin1_aae02.cls ≠ "java/lang/invoke/MethodHandle" ∧ yJ0_isLatin1_aae02.cls ≠ "java/lang/invoke/VarHandle") ∧ (parseMethodDescriptor yJ0_isLatin1_aae02.desc).map (fun d => d.parameters.length) = some 0 := ⟨wd_1_20, wd_5_98, ⟨by decide +kernel, by decide +kernel⟩, by decide +kernel⟩
theorem ca_J0_checkIndex_df160 : Cond.initialized yJ0_checkIndex_df160.cls ∈ eTB ∧ mWord mJ0_checkIndex_df160 ∈ eTB ∧ (yJ0_checkIndex_df160.cls ≠ "java/lang/invoke/MethodHandle" ∧ yJ0_checkIndex_df160.cls ≠ "java/lang/invoke/VarHandle") ∧ (parseMethodDescriptor yJ0_checkIndex_df160.desc).map (fun d => d.parameters.length) = some 2 := ⟨wd_1_20, wd_5_104, ⟨by decide +kernel, by decide +kernel⟩, by decide +kernel⟩
theorem ca_J1_charAt_3b067 : Cond.initialized yJ1_charAt_3b067.cls ∈ eTB ∧ mWord mJ1_charAt_3b067 ∈ eTB ∧ (yJ1_charAt_3b067.cls ≠ "java/lang/invoke/MethodHandle" ∧ yJ1_charAt_3b067.cls ≠ "java/lang/invoke/VarHandle") ∧ (parseMethodDescriptor yJ1_charAt_3b067.desc).map (fun d => d.parameters.length) = some 2 := ⟨wd_1_21, wd_5_101, ⟨by decide +kernel, by decide +kernel⟩, by decide +kernel⟩
theorem ca_J2_getChar_3b067 : Cond.initialized yJ2_getChar_3b067.cls ∈ eTB ∧ mWord mJ2_getChar_3b067 ∈ eTB ∧ (yJ2_getChar_3b067.cls ≠ "java/lang/invoke/MethodHandle" ∧ yJ2_getChar_3b067.cls ≠ "java/lang/invoke/VarHandle") ∧ (parseMethodDescriptor yJ2_getChar_3b067.desc).map (fun d => d.parameters.length) = some 2 := ⟨wd_1_23, wd_5_122, ⟨by decide +kernel, by decide +kernel⟩, by decide +kernel⟩
theorem ca_J2_length_9d52b : Cond.initialized yJ2_length_9d52b.cls ∈ eTB ∧ mWord mJ2_length_9d52b ∈ eTB ∧ (yJ2_length_9d52b.cls ≠ "java/lang/invoke/MethodHandle" ∧ yJ2_length_9d52b.cls ≠ "java/lang/invoke/VarHandle") ∧ (parseMethodDescriptor yJ2_length_9d52b.desc).map (fun d => d.parameters.length) = some 1 := ⟨wd_1_23, wd_5_118, ⟨by decide +kernel, by decide +kernel⟩, by decide +kernel⟩
theorem ca_J2_charAt_3b067 : Cond.initialized yJ2_charAt_3b067.cls ∈ eTB ∧ mWord mJ2_charAt_3b067 ∈ eTB ∧ (yJ2_charAt_3b067.cls ≠ "java/lang/invoke/MethodHandle" ∧ yJ2_charAt_3b067.cls ≠ "java/lang/invoke/VarHandle") ∧ (parseMethodDescriptor yJ2_charAt_3b067.desc).map (fun d => d.parameters.length) = some 2 := ⟨wd_1_23, wd_5_112, ⟨by decide +kernel, by decide +kernel⟩, by decide +kernel⟩
theorem ca_J2_checkIndex_2214a : Cond.initialized yJ2_checkIndex_2214a.cls ∈ eTB ∧ mWord mJ2_checkIndex_2214a ∈ eTB ∧ (yJ2_checkIndex_2214a.cls ≠ "java/lang/invoke/MethodHandle" ∧ yJ2_checkIndex_2214a.cls ≠ "java/lang/invoke/VarHandle") ∧ (parseMethodDescriptor yJ2_checkIndex_2214a.desc).map (fun d => d.parameters.length) = some 2 := ⟨wd_1_23, wd_5_115, ⟨by decide +kernel, by decide +kernel⟩, by decide +kernel⟩
theorem ca_J3_checkIndex_8e157 : Cond.initialized yJ3_checkIndex_8e157.cls ∈ eTB ∧ mWord mJ3_checkIndex_8e157 ∈ eTB ∧ (yJ3_checkIndex_8e157.cls ≠ "java/lang/invoke/MethodHandle" ∧ yJ3_checkIndex_8e157.cls ≠ "java/lang/invoke/VarHandle") ∧ (parseMethodDescriptor yJ3_checkIndex_8e157.desc).map (fun d => d.parameters.length) = some 3 := ⟨wd_1_22, wd_5_109, ⟨by decide +kernel, by decide +kernel⟩, by decide +kernel⟩
theorem ca_L_addBasket : Cond.initialized yL_addBasket.cls ∈ eTB ∧ mWord mL_addBasket ∈ eTB ∧ (yL_addBasket.cls ≠ "java/lang/invoke/MethodHandle" ∧ yL_addBasket.cls ≠ "java/lang/invoke/VarHandle") ∧ (parseMethodDescriptor yL_addBasket.desc).map (fun d => d.parameters.length) = some 5 := ⟨wd_1_0, wd_2_197, ⟨by decide +kernel, by decide +kernel⟩, by decide +kernel⟩
theorem ca_L_jump : Cond.initialized yL_jump.cls ∈ eTB ∧ mWord mL_jump ∈ eTB ∧ (yL_jump.cls ≠ "java/lang/invoke/MethodHandle" ∧ yL_jump.cls ≠ "java/lang/invoke/VarHandle") ∧ (parseMethodDescriptor yL_jump.desc).map (fun d => d.parameters.length) = some 5 := ⟨wd_1_0, wd_3_164, ⟨by decide +kernel, by decide +kernel⟩, by decide +kernel⟩
theorem ca_L_setHandle : Cond.initialized yL_setHandle.cls ∈ eTB ∧ mWord mL_setHandle ∈ eTB ∧ (yL_setHandle.cls ≠ "java/lang/invoke/MethodHandle" ∧ yL_setHandle.cls ≠ "java/lang/invoke/VarHandle") ∧ (parseMethodDescriptor yL_setHandle.desc).map (fun d => d.parameters.length) = some 4 := ⟨wd_1_0, wd_3_196, ⟨by decide +kernel, by decide +kernel⟩, by decide +kernel⟩
theorem ca_L_xOf : Cond.initialized yL_xOf.cls ∈ eTB ∧ mWord mL_xOf ∈ eTB ∧ (yL_xOf.cls ≠ "java/lang/invoke/MethodHandle" ∧ yL_xOf.cls ≠ "java/lang/invoke/VarHandle") ∧ (parseMethodDescriptor yL_xOf.desc).map (fun d => d.parameters.length) = some 3 := ⟨wd_1_0, wd_3_207, ⟨by decide +kernel, by decide +kernel⟩, by decide +kernel⟩
theorem ca_L_yOf : Cond.initialized yL_yOf.cls ∈ eTB ∧ mWord mL_yOf ∈ eTB ∧ (yL_yOf.cls ≠ "java/lang/invoke/MethodHandle" ∧ yL_yOf.cls ≠ "java/lang/invoke/VarHandle") ∧ (parseMethodDescriptor yL_yOf.desc).map (fun d => d.parameters.length) = some 3 := ⟨wd_1_0, wd_3_219, ⟨by decide +kernel, by decide +kernel⟩, by decide +kernel⟩
theorem ca_L_handleOf : Cond.initialized yL_handleOf.cls ∈ eTB ∧ mWord mL_handleOf ∈ eTB ∧ (yL_handleOf.cls ≠ "java/lang/invoke/MethodHandle" ∧ yL_handleOf.cls ≠ "java/lang/invoke/VarHandle") ∧ (parseMethodDescriptor yL_handleOf.desc).map (fun d => d.parameters.length) = some 3 := ⟨wd_1_0, wd_3_226, ⟨by decide +kernel, by decide +kernel⟩, by decide +kernel⟩
theorem ca_L_basketAt : Cond.initialized yL_basketAt.cls ∈ eTB ∧ mWord mL_basketAt ∈ eTB ∧ (yL_basketAt.cls ≠ "java/lang/invoke/MethodHandle" ∧ yL_basketAt.cls ≠ "java/lang/invoke/VarHandle") ∧ (parseMethodDescriptor yL_basketAt.desc).map (fun d => d.parameters.length) = some 4 := ⟨wd_1_0, wd_3_233, ⟨by decide +kernel, by decide +kernel⟩, by decide +kernel⟩
theorem ca_L_distance : Cond.initialized yL_distance.cls ∈ eTB ∧ mWord mL_distance ∈ eTB ∧ (yL_distance.cls ≠ "java/lang/invoke/MethodHandle" ∧ yL_distance.cls ≠ "java/lang/invoke/VarHandle") ∧ (parseMethodDescriptor yL_distance.desc).map (fun d => d.parameters.length) = some 4 := ⟨wd_1_0, wd_4_9, ⟨by decide +kernel, by decide +kernel⟩, by decide +kernel⟩
theorem ca_L_nearestTo : Cond.initialized yL_nearestTo.cls ∈ eTB ∧ mWord mL_nearestTo ∈ eTB ∧ (yL_nearestTo.cls ≠ "java/lang/invoke/MethodHandle" ∧ yL_nearestTo.cls ≠ "java/lang/invoke/VarHandle") ∧ (parseMethodDescriptor yL_nearestTo.desc).map (fun d => d.parameters.length) = some 3 := ⟨wd_1_0, wd_4_17, ⟨by decide +kernel, by decide +kernel⟩, by decide +kernel⟩
theorem ca_L_refusalReason : Cond.initialized yL_refusalReason.cls ∈ eTB ∧ mWord mL_refusalReason ∈ eTB ∧ (yL_refusalReason.cls ≠ "java/lang/invoke/MethodHandle" ∧ yL_refusalReason.cls ≠ "java/lang/invoke/VarHandle") ∧ (parseMethodDescriptor yL_refusalReason.desc).map (fun d => d.parameters.length) = some 2 := ⟨wd_1_0, wd_4_29, ⟨by decide +kernel, by decide +kernel⟩, by decide +kernel⟩
theorem ca_L_refusalDetail : Cond.initialized yL_refusalDetail.cls ∈ eTB ∧ mWord mL_refusalDetail ∈ eTB ∧ (yL_refusalDetail.cls ≠ "java/lang/invoke/MethodHandle" ∧ yL_refusalDetail.cls ≠ "java/lang/invoke/VarHandle") ∧ (parseMethodDescriptor yL_refusalDetail.desc).map (fun d => d.parameters.length) = some 2 := ⟨wd_1_0, wd_4_41, ⟨by decide +kernel, by decide +kernel⟩, by decide +kernel⟩
theorem ca_L_addCloud : Cond.initialized yL_addCloud.cls ∈ eTB ∧ mWord mL_addCloud ∈ eTB ∧ (yL_addCloud.cls ≠ "java/lang/invoke/MethodHandle" ∧ yL_addCloud.cls ≠ "java/lang/invoke/VarHandle") ∧ (parseMethodDescriptor yL_addCloud.desc).map (fun d => d.parameters.length) = some 4 := ⟨wd_1_0, wd_4_48, ⟨by decide +kernel, by decide +kernel⟩, by decide +kernel⟩
theorem ca_L_removeCloud : Cond.initialized yL_removeCloud.cls ∈ eTB ∧ mWord mL_removeCloud ∈ eTB ∧ (yL_removeCloud.cls ≠ "java/lang/invoke/MethodHandle" ∧ yL_removeCloud.cls ≠ "java/lang/invoke/VarHandle") ∧ (parseMethodDescriptor yL_removeCloud.desc).map (fun d => d.parameters.length) = some 4 := ⟨wd_1_0, wd_4_60, ⟨by decide +kernel, by decide +kernel⟩, by decide +kernel⟩
theorem ca_L_isCloud : Cond.initialized yL_isCloud.cls ∈ eTB ∧ mWord mL_isCloud ∈ eTB ∧ (yL_isCloud.cls ≠ "java/lang/invoke/MethodHandle" ∧ yL_isCloud.cls ≠ "java/lang/invoke/VarHandle") ∧ (parseMethodDescriptor yL_isCloud.desc).map (fun d => d.parameters.length) = some 4 := ⟨wd_1_0, wd_4_71, ⟨by decide +kernel, by decide +kernel⟩, by decide +kernel⟩
theorem ca_L_setTurnLength : Cond.initialized yL_setTurnLength.cls ∈ eTB ∧ mWord mL_setTurnLength ∈ eTB ∧ (yL_setTurnLength.cls ≠ "java/lang/invoke/MethodHandle" ∧ yL_setTurnLength.cls ≠ "java/lang/invoke/VarHandle") ∧ (parseMethodDescriptor yL_setTurnLength.desc).map (fun d => d.parameters.length) = some 3 := ⟨wd_1_0, wd_4_78, ⟨by decide +kernel, by decide +kernel⟩, by decide +kernel⟩
theorem ca_L_leader : Cond.initialized yL_leader.cls ∈ eTB ∧ mWord mL_leader ∈ eTB ∧ (yL_leader.cls ≠ "java/lang/invoke/MethodHandle" ∧ yL_leader.cls ≠ "java/lang/invoke/VarHandle") ∧ (parseMethodDescriptor yL_leader.desc).map (fun d => d.parameters.length) = some 2 := ⟨wd_1_0, wd_4_89, ⟨by decide +kernel, by decide +kernel⟩, by decide +kernel⟩
theorem ca_L_leaderAfter : Cond.initialized yL_leaderAfter.cls ∈ eTB ∧ mWord mL_leaderAfter ∈ eTB ∧ (yL_leaderAfter.cls ≠ "java/lang/invoke/MethodHandle" ∧ yL_leaderAfter.cls ≠ "java/lang/invoke/VarHandle") ∧ (parseMethodDescriptor yL_leaderAfter.desc).map (fun d => d.parameters.length) = some 3 := ⟨wd_1_0, wd_4_101, ⟨by decide +kernel, by decide +kernel⟩, by decide +kernel⟩
theorem ca_L_leaderAfterByCounting : Cond.initialized yL_leaderAfterByCounting.cls ∈ eTB ∧ mWord mL_leaderAfterByCounting ∈ eTB ∧ (yL_leaderAfterByCounting.cls ≠ "java/lang/invoke/MethodHandle" ∧ yL_leaderAfterByCounting.cls ≠ "java/lang/invoke/VarHandle") ∧ (parseMethodDescriptor yL_leaderAfterByCounting.desc).map (fun d => d.parameters.length) = some 3 := ⟨wd_1_0, wd_4_113, ⟨by decide +kernel, by decide +kernel⟩, by decide +kernel⟩
theorem ca_L_setTarget : Cond.initialized yL_setTarget.cls ∈ eTB ∧ mWord mL_setTarget ∈ eTB ∧ (yL_setTarget.cls ≠ "java/lang/invoke/MethodHandle" ∧ yL_setTarget.cls ≠ "java/lang/invoke/VarHandle") ∧ (parseMethodDescriptor yL_setTarget.desc).map (fun d => d.parameters.length) = some 4 := ⟨wd_1_0, wd_4_120, ⟨by decide +kernel, by decide +kernel⟩, by decide +kernel⟩
theorem ca_L_targetX : Cond.initialized yL_targetX.cls ∈ eTB ∧ mWord mL_targetX ∈ eTB ∧ (yL_targetX.cls ≠ "java/lang/invoke/MethodHandle" ∧ yL_targetX.cls ≠ "java/lang/invoke/VarHandle") ∧ (parseMethodDescriptor yL_targetX.desc).map (fun d => d.parameters.length) = some 2 := ⟨wd_1_0, wd_4_131, ⟨by decide +kernel, by decide +kernel⟩, by decide +kernel⟩
theorem ca_L_targetY : Cond.initialized yL_targetY.cls ∈ eTB ∧ mWord mL_targetY ∈ eTB ∧ (yL_targetY.cls ≠ "java/lang/invoke/MethodHandle" ∧ yL_targetY.cls ≠ "java/lang/invoke/VarHandle") ∧ (parseMethodDescriptor yL_targetY.desc).map (fun d => d.parameters.length) = some 2 := ⟨wd_1_0, wd_4_147, ⟨by decide +kernel, by decide +kernel⟩, by decide +kernel⟩
theorem ca_L_stepsToTarget : Cond.initialized yL_stepsToTarget.cls ∈ eTB ∧ mWord mL_stepsToTarget ∈ eTB ∧ (yL_stepsToTarget.cls ≠ "java/lang/invoke/MethodHandle" ∧ yL_stepsToTarget.cls ≠ "java/lang/invoke/VarHandle") ∧ (parseMethodDescriptor yL_stepsToTarget.desc).map (fun d => d.parameters.length) = some 2 := ⟨wd_1_0, wd_4_154, ⟨by decide +kernel, by decide +kernel⟩, by decide +kernel⟩
theorem ca_L_setKeep : Cond.initialized yL_setKeep.cls ∈ eTB ∧ mWord mL_setKeep ∈ eTB ∧ (yL_setKeep.cls ≠ "java/lang/invoke/MethodHandle" ∧ yL_setKeep.cls ≠ "java/lang/invoke/VarHandle") ∧ (parseMethodDescriptor yL_setKeep.desc).map (fun d => d.parameters.length) = some 3 := ⟨wd_1_0, wd_4_205, ⟨by decide +kernel, by decide +kernel⟩, by decide +kernel⟩
theorem ca_L_advance : Cond.initialized yL_advance.cls ∈ eTB ∧ mWord mL_advance ∈ eTB ∧ (yL_advance.cls ≠ "java/lang/invoke/MethodHandle" ∧ yL_advance.cls ≠ "java/lang/invoke/VarHandle") ∧ (parseMethodDescriptor yL_advance.desc).map (fun d => d.parameters.length) = some 3 := ⟨wd_1_0, wd_4_216, ⟨by decide +kernel, by decide +kernel⟩, by decide +kernel⟩
theorem ca_L_movesOf : Cond.initialized yL_movesOf.cls ∈ eTB ∧ mWord mL_movesOf ∈ eTB ∧ (yL_movesOf.cls ≠ "java/lang/invoke/MethodHandle" ∧ yL_movesOf.cls ≠ "java/lang/invoke/VarHandle") ∧ (parseMethodDescriptor yL_movesOf.desc).map (fun d => d.parameters.length) = some 3 := ⟨wd_1_0, wd_4_223, ⟨by decide +kernel, by decide +kernel⟩, by decide +kernel⟩
theorem ca_L_formationOf : Cond.initialized yL_formationOf.cls ∈ eTB ∧ mWord mL_formationOf ∈ eTB ∧ (yL_formationOf.cls ≠ "java/lang/invoke/MethodHandle" ∧ yL_formationOf.cls ≠ "java/lang/invoke/VarHandle") ∧ (parseMethodDescriptor yL_formationOf.desc).map (fun d => d.parameters.length) = some 3 := ⟨wd_1_0, wd_4_230, ⟨by decide +kernel, by decide +kernel⟩, by decide +kernel⟩
theorem ca_L_stepsSinceShape : Cond.initialized yL_stepsSinceShape.cls ∈ eTB ∧ mWord mL_stepsSinceShape ∈ eTB ∧ (yL_stepsSinceShape.cls ≠ "java/lang/invoke/MethodHandle" ∧ yL_stepsSinceShape.cls ≠ "java/lang/invoke/VarHandle") ∧ (parseMethodDescriptor yL_stepsSinceShape.desc).map (fun d => d.parameters.length) = some 2 := ⟨wd_1_0, wd_5_2, ⟨by decide +kernel, by decide +kernel⟩, by decide +kernel⟩
theorem ca_L_basketAtRank : Cond.initialized yL_basketAtRank.cls ∈ eTB ∧ mWord mL_basketAtRank ∈ eTB ∧ (yL_basketAtRank.cls ≠ "java/lang/invoke/MethodHandle" ∧ yL_basketAtRank.cls ≠ "java/lang/invoke/VarHandle") ∧ (parseMethodDescriptor yL_basketAtRank.desc).map (fun d => d.parameters.length) = some 3 := ⟨wd_1_0, wd_5_18, ⟨by decide +kernel, by decide +kernel⟩, by decide +kernel⟩
theorem ca_L_append : Cond.initialized yL_append.cls ∈ eTB ∧ mWord mL_append ∈ eTB ∧ (yL_append.cls ≠ "java/lang/invoke/MethodHandle" ∧ yL_append.cls ≠ "java/lang/invoke/VarHandle") ∧ (parseMethodDescriptor yL_append.desc).map (fun d => d.parameters.length) = some 3 := ⟨wd_1_0, wd_5_34, ⟨by decide +kernel, by decide +kernel⟩, by decide +kernel⟩
theorem ca_L_run : Cond.initialized yL_run.cls ∈ eTB ∧ mWord mL_run ∈ eTB ∧ (yL_run.cls ≠ "java/lang/invoke/MethodHandle" ∧ yL_run.cls ≠ "java/lang/invoke/VarHandle") ∧ (parseMethodDescriptor yL_run.desc).map (fun d => d.parameters.length) = some 2 := ⟨wd_1_0, wd_5_52, ⟨by decide +kernel, by decide +kernel⟩, by decide +kernel⟩
theorem ca_L_errorPosition : Cond.initialized yL_errorPosition.cls ∈ eTB ∧ mWord mL_errorPosition ∈ eTB ∧ (yL_errorPosition.cls ≠ "java/lang/invoke/MethodHandle" ∧ yL_errorPosition.cls ≠ "java/lang/invoke/VarHandle") ∧ (parseMethodDescriptor yL_errorPosition.desc).map (fun d => d.parameters.length) = some 2 := ⟨wd_1_0, wd_5_175, ⟨by decide +kernel, by decide +kernel⟩, by decide +kernel⟩
theorem ca_L_failedCommand : Cond.initialized yL_failedCommand.cls ∈ eTB ∧ mWord mL_failedCommand ∈ eTB ∧ (yL_failedCommand.cls ≠ "java/lang/invoke/MethodHandle" ∧ yL_failedCommand.cls ≠ "java/lang/invoke/VarHandle") ∧ (parseMethodDescriptor yL_failedCommand.desc).map (fun d => d.parameters.length) = some 2 := ⟨wd_1_0, wd_5_183, ⟨by decide +kernel, by decide +kernel⟩, by decide +kernel⟩
theorem ca_L_describeRow : Cond.initialized yL_describeRow.cls ∈ eTB ∧ mWord mL_describeRow ∈ eTB ∧ (yL_describeRow.cls ≠ "java/lang/invoke/MethodHandle" ∧ yL_describeRow.cls ≠ "java/lang/invoke/VarHandle") ∧ (parseMethodDescriptor yL_describeRow.desc).map (fun d => d.parameters.length) = some 3 := ⟨wd_1_0, wd_5_191, ⟨by decide +kernel, by decide +kernel⟩, by decide +kernel⟩
theorem ca_L_lineAt : Cond.initialized yL_lineAt.cls ∈ eTB ∧ mWord mL_lineAt ∈ eTB ∧ (yL_lineAt.cls ≠ "java/lang/invoke/MethodHandle" ∧ yL_lineAt.cls ≠ "java/lang/invoke/VarHandle") ∧ (parseMethodDescriptor yL_lineAt.desc).map (fun d => d.parameters.length) = some 3 := ⟨wd_1_0, wd_5_202, ⟨by decide +kernel, by decide +kernel⟩, by decide +kernel⟩
theorem ca_L_meanDistance : Cond.initialized yL_meanDistance.cls ∈ eTB ∧ mWord mL_meanDistance ∈ eTB ∧ (yL_meanDistance.cls ≠ "java/lang/invoke/MethodHandle" ∧ yL_meanDistance.cls ≠ "java/lang/invoke/VarHandle") ∧ (parseMethodDescriptor yL_meanDistance.desc).map (fun d => d.parameters.length) = some 2 := ⟨wd_1_0, wd_5_210, ⟨by decide +kernel, by decide +kernel⟩, by decide +kernel⟩
theorem ca_L_mixedShare : Cond.initialized yL_mixedShare.cls ∈ eTB ∧ mWord mL_mixedShare ∈ eTB ∧ (yL_mixedShare.cls ≠ "java/lang/invoke/MethodHandle" ∧ yL_mixedShare.cls ≠ "java/lang/invoke/VarHandle") ∧ (parseMethodDescriptor yL_mixedShare.desc).map (fun d => d.parameters.length) = some 2 := ⟨wd_1_0, wd_5_238, ⟨by decide +kernel, by decide +kernel⟩, by decide +kernel⟩
theorem ca_L_undo : Cond.initialized yL_undo.cls ∈ eTB ∧ mWord mL_undo ∈ eTB ∧ (yL_undo.cls ≠ "java/lang/invoke/MethodHandle" ∧ yL_undo.cls ≠ "java/lang/invoke/VarHandle") ∧ (parseMethodDescriptor yL_undo.desc).map (fun d => d.parameters.length) = some 2 := ⟨wd_1_0, wd_6_7, ⟨by decide +kernel, by decide +kernel⟩, by decide +kernel⟩
theorem ca_L_restore : Cond.initialized yL_restore.cls ∈ eTB ∧ mWord mL_restore ∈ eTB ∧ (yL_restore.cls ≠ "java/lang/invoke/MethodHandle" ∧ yL_restore.cls ≠ "java/lang/invoke/VarHandle") ∧ (parseMethodDescriptor yL_restore.desc).map (fun d => d.parameters.length) = some 2 := ⟨wd_1_0, wd_6_19, ⟨by decide +kernel, by decide +kernel⟩, by decide +kernel⟩
theorem li_L_144 : eLkI RL 144 mX6_init 0 := ⟨⟨wd_1_27, ca_X6_init.1, ca_X6_init.2.1, ca_X6_init.2.2.1, ca_X6_init.2.2.2⟩, wd_1_28, rfl⟩
theorem ln_X6_9 : eLkN RX6 9 mX2_init 0 := ⟨⟨"BasketFlock", by decide +kernel⟩, ca_X2_init.1, ca_X2_init.2.1, ca_X2_init.2.2.1, ca_X2_init.2.2.2, wd_1_36, rfl⟩
theorem ln_X2_30 : eLkN RX2 30 mX0_init 0 := ⟨⟨"BasketFlock", by decide +kernel⟩, ca_X0_init.1, ca_X0_init.2.1, ca_X0_init.2.2.1, ca_X0_init.2.2.2, wd_1_42, rfl⟩
theorem ln_X2_37 : eLkN RX2 37 mX5_init 0 := ⟨⟨"BasketFlock", by decide +kernel⟩, ca_X5_init.1, ca_X5_init.2.1, ca_X5_init.2.2.1, ca_X5_init.2.2.2, wd_1_58, rfl⟩
theorem li_X6_28 : eLkI RX6 28 mX4_init 0 := ⟨⟨wd_1_139, ca_X4_init.1, ca_X4_init.2.1, ca_X4_init.2.2.1, ca_X4_init.2.2.2⟩, wd_1_140, rfl⟩
theorem ln_X4_24 : eLkN RX4 24 mX2_init 0 := ⟨⟨"BasketFlock", by decide +kernel⟩, ca_X2_init.1, ca_X2_init.2.1, ca_X2_init.2.2.1, ca_X2_init.2.2.2, wd_1_36, rfl⟩
theorem ln_X6_35 : eLkN RX6 35 mX3_init 0 := ⟨⟨"BasketFlock", by decide +kernel⟩, ca_X3_init.1, ca_X3_init.2.1, ca_X3_init.2.2.1, ca_X3_init.2.2.2, wd_1_160, rfl⟩
theorem ln_X6_42 : eLkN RX6 42 mX1_init 0 := ⟨⟨"BasketFlock", by decide +kernel⟩, ca_X1_init.1, ca_X1_init.2.1, ca_X1_init.2.2.1, ca_X1_init.2.2.2, wd_1_173, rfl⟩
theorem lk_L_164 : eLkV RL 164 mX6_basketCount 0 := ⟨⟨wd_1_239, ca_X6_basketCount.1, ca_X6_basketCount.2.1, ca_X6_basketCount.2.2.1, ca_X6_basketCount.2.2.2⟩, wd_2_0, wd_2_1⟩
theorem lk_L_203 : eLkV RL 203 mX6_cloudCount 0 := ⟨⟨wd_2_3, ca_X6_cloudCount.1, ca_X6_cloudCount.2.1, ca_X6_cloudCount.2.2.1, ca_X6_cloudCount.2.2.2⟩, wd_2_4, wd_2_5⟩
theorem lk_L_210 : eLkV RL 210 mX6_turnLength 0 := ⟨⟨wd_2_7, ca_X6_turnLength.1, ca_X6_turnLength.2.1, ca_X6_turnLength.2.2.1, ca_X6_turnLength.2.2.2⟩, wd_2_8, wd_2_9⟩
theorem lk_L_238 : eLkV RL 238 mX6_keep 0 := ⟨⟨wd_2_11, ca_X6_keep.1, ca_X6_keep.2.1, ca_X6_keep.2.2.1, ca_X6_keep.2.2.2⟩, wd_2_12, wd_2_13⟩
theorem lk_L_245 : eLkV RL 245 mX6_stepCount 0 := ⟨⟨wd_2_15, ca_X6_stepCount.1, ca_X6_stepCount.2.1, ca_X6_stepCount.2.2.1, ca_X6_stepCount.2.2.2⟩, wd_2_16, wd_2_17⟩
theorem lk_L_252 : eLkV RL 252 mX6_moveTotal 0 := ⟨⟨wd_2_19, ca_X6_moveTotal.1, ca_X6_moveTotal.2.1, ca_X6_moveTotal.2.2.1, ca_X6_moveTotal.2.2.2⟩, wd_2_20, wd_2_21⟩
theorem lk_X6_199 : eLkV RX6 199 mX2_sumOfMoves 0 := ⟨⟨wd_2_23, ca_X2_sumOfMoves.1, ca_X2_sumOfMoves.2.1, ca_X2_sumOfMoves.2.2.1, ca_X2_sumOfMoves.2.2.2⟩, wd_2_24, wd_2_25⟩
theorem lk_L_257 : eLkV RL 257 mX6_waitTotal 0 := ⟨⟨wd_2_27, ca_X6_waitTotal.1, ca_X6_waitTotal.2.1, ca_X6_waitTotal.2.2.1, ca_X6_waitTotal.2.2.2⟩, wd_2_28, wd_2_29⟩
theorem lk_L_261 : eLkV RL 261 mX6_formationCount 0 := ⟨⟨wd_2_31, ca_X6_formationCount.1, ca_X6_formationCount.2.1, ca_X6_formationCount.2.2.1, ca_X6_formationCount.2.2.2⟩, wd_2_32, wd_2_33⟩
theorem lk_X6_206 : eLkV RX6 206 mX3_countByGoing 1 := ⟨⟨wd_2_35, ca_X3_countByGoing.1, ca_X3_countByGoing.2.1, ca_X3_countByGoing.2.2.1, ca_X3_countByGoing.2.2.2⟩, wd_2_36, wd_2_37⟩
theorem lk_X3_18 : eLkV RX3 18 mX3_goThrough 1 := ⟨⟨wd_2_39, ca_X3_goThrough.1, ca_X3_goThrough.2.1, ca_X3_goThrough.2.2.1, ca_X3_goThrough.2.2.2⟩, wd_2_40, wd_2_41⟩
theorem lk_X3_42 : eLkV RX3 42 mX3_goFrom 2 := ⟨⟨wd_2_43, ca_X3_goFrom.1, ca_X3_goFrom.2.1, ca_X3_goFrom.2.2.1, ca_X3_goFrom.2.2.2⟩, wd_2_44, wd_2_45⟩
theorem lk_X3_46 : eLkV RX3 46 mX2_linked 2 := ⟨⟨wd_2_47, ca_X2_linked.1, ca_X2_linked.2.1, ca_X2_linked.2.2.1, ca_X2_linked.2.2.2⟩, wd_2_48, wd_2_49⟩
theorem lk_X2_183 : eLkV RX2 183 mX2_distanceOf 2 := ⟨⟨wd_2_51, ca_X2_distanceOf.1, ca_X2_distanceOf.2.1, ca_X2_distanceOf.2.2.1, ca_X2_distanceOf.2.2.2⟩, wd_2_52, wd_2_53⟩
theorem lk_X2_90 : eLkV RX2 90 mX2_has 1 := ⟨⟨wd_2_55, ca_X2_has.1, ca_X2_has.2.1, ca_X2_has.2.2.1, ca_X2_has.2.2.2⟩, wd_2_56, wd_2_57⟩
theorem lk_X2_149 : eLkV RX2 149 mX2_distanceFrom 3 := ⟨⟨wd_2_59, ca_X2_distanceFrom.1, ca_X2_distanceFrom.2.1, ca_X2_distanceFrom.2.2.1, ca_X2_distanceFrom.2.2.2⟩, wd_2_60, wd_2_61⟩
theorem lk_X2_175 : eLkS RX2 175 mJ9_abs_0f7a4 1 := ⟨⟨wd_2_63, ca_J9_abs_0f7a4.1, ca_J9_abs_0f7a4.2.1, ca_J9_abs_0f7a4.2.2.1, ca_J9_abs_0f7a4.2.2.2⟩, wd_2_64⟩
theorem lk_L_265 : eLkV RL 265 mX6_formationCountByMerging 0 := ⟨⟨wd_2_66, ca_X6_formationCountByMerging.1, ca_X6_formationCountByMerging.2.1, ca_X6_formationCountByMerging.2.2.1, ca_X6_formationCountByMerging.2.2.2⟩, wd_2_67, wd_2_68⟩
theorem lk_X6_210 : eLkV RX6 210 mX3_countByMerging 1 := ⟨⟨wd_2_70, ca_X3_countByMerging.1, ca_X3_countByMerging.2.1, ca_X3_countByMerging.2.2.1, ca_X3_countByMerging.2.2.2⟩, wd_2_71, wd_2_72⟩
theorem lk_X3_50 : eLkV RX3 50 mX3_merge 3 := ⟨⟨wd_2_74, ca_X3_merge.1, ca_X3_merge.2.1, ca_X3_merge.2.2.1, ca_X3_merge.2.2.2⟩, wd_2_75, wd_2_76⟩
theorem lk_L_269 : eLkV RL 269 mX6_largestFormation 0 := ⟨⟨wd_2_78, ca_X6_largestFormation.1, ca_X6_largestFormation.2.1, ca_X6_largestFormation.2.2.1, ca_X6_largestFormation.2.2.2⟩, wd_2_79, wd_2_80⟩
theorem lk_X6_213 : eLkV RX6 213 mX3_largest 1 := ⟨⟨wd_2_82, ca_X3_largest.1, ca_X3_largest.2.1, ca_X3_largest.2.2.1, ca_X3_largest.2.2.2⟩, wd_2_83, wd_2_84⟩
theorem lk_X3_32 : eLkV RX3 32 mX3_sizeOfGroup 2 := ⟨⟨wd_2_86, ca_X3_sizeOfGroup.1, ca_X3_sizeOfGroup.2.1, ca_X3_sizeOfGroup.2.2.1, ca_X3_sizeOfGroup.2.2.2⟩, wd_2_87, wd_2_88⟩
theorem lk_X3_36 : eLkS RX3 36 mJ9_max_7cf53 2 := ⟨⟨wd_2_90, ca_J9_max_7cf53.1, ca_J9_max_7cf53.2.1, ca_J9_max_7cf53.2.2.1, ca_J9_max_7cf53.2.2.2⟩, wd_2_91⟩
theorem lk_L_276 : eLkV RL 276 mX6_mixedPairs 0 := ⟨⟨wd_2_93, ca_X6_mixedPairs.1, ca_X6_mixedPairs.2.1, ca_X6_mixedPairs.2.2.1, ca_X6_mixedPairs.2.2.2⟩, wd_2_94, wd_2_95⟩
theorem lk_X6_220 : eLkV RX6 220 mX2_mixedByComparing 0 := ⟨⟨wd_2_97, ca_X2_mixedByComparing.1, ca_X2_mixedByComparing.2.1, ca_X2_mixedByComparing.2.2.1, ca_X2_mixedByComparing.2.2.2⟩, wd_2_98, wd_2_99⟩
theorem lk_X2_199 : eLkV RX2 199 mX2_linked 2 := ⟨⟨wd_2_101, ca_X2_linked.1, ca_X2_linked.2.1, ca_X2_linked.2.2.1, ca_X2_linked.2.2.2⟩, wd_2_48, wd_2_49⟩
theorem lk_L_280 : eLkV RL 280 mX6_mixedPairsByHandles 0 := ⟨⟨wd_2_102, ca_X6_mixedPairsByHandles.1, ca_X6_mixedPairsByHandles.2.1, ca_X6_mixedPairsByHandles.2.2.1, ca_X6_mixedPairsByHandles.2.2.2⟩, wd_2_103, wd_2_104⟩
theorem lk_X6_224 : eLkV RX6 224 mX2_mixedByHandles 0 := ⟨⟨wd_2_106, ca_X2_mixedByHandles.1, ca_X2_mixedByHandles.2.1, ca_X2_mixedByHandles.2.2.1, ca_X2_mixedByHandles.2.2.2⟩, wd_2_107, wd_2_108⟩
theorem lk_X2_202 : eLkV RX2 202 mX2_linkedPairs 0 := ⟨⟨wd_2_110, ca_X2_linkedPairs.1, ca_X2_linkedPairs.2.1, ca_X2_linkedPairs.2.2.1, ca_X2_linkedPairs.2.2.2⟩, wd_2_111, wd_2_112⟩
theorem lk_X2_205 : eLkV RX2 205 mX2_linkedPairsOfHandle 1 := ⟨⟨wd_2_114, ca_X2_linkedPairsOfHandle.1, ca_X2_linkedPairsOfHandle.2.1, ca_X2_linkedPairsOfHandle.2.2.1, ca_X2_linkedPairsOfHandle.2.2.2⟩, wd_2_115, wd_2_116⟩
theorem lk_L_284 : eLkV RL 284 mX6_shapeCount 0 := ⟨⟨wd_2_118, ca_X6_shapeCount.1, ca_X6_shapeCount.2.1, ca_X6_shapeCount.2.2.1, ca_X6_shapeCount.2.2.2⟩, wd_2_119, wd_2_120⟩
theorem lk_L_288 : eLkV RL 288 mX6_differentShapes 0 := ⟨⟨wd_2_122, ca_X6_differentShapes.1, ca_X6_differentShapes.2.1, ca_X6_differentShapes.2.2.1, ca_X6_differentShapes.2.2.2⟩, wd_2_123, wd_2_124⟩
theorem lk_X6_234 : eLkV RX6 234 mX5_countDifferent 0 := ⟨⟨wd_2_126, ca_X5_countDifferent.1, ca_X5_countDifferent.2.1, ca_X5_countDifferent.2.2.1, ca_X5_countDifferent.2.2.2⟩, wd_2_127, wd_2_128⟩
theorem lk_X5_38 : eLkV RX5 38 mX5_standsBefore 1 := ⟨⟨wd_2_130, ca_X5_standsBefore.1, ca_X5_standsBefore.2.1, ca_X5_standsBefore.2.2.1, ca_X5_standsBefore.2.2.2⟩, wd_2_131, wd_2_132⟩
theorem lk_X5_34 : eLkV RX5 34 mX5_holds 3 := ⟨⟨wd_2_134, ca_X5_holds.1, ca_X5_holds.2.1, ca_X5_holds.2.2.1, ca_X5_holds.2.2.2⟩, wd_2_135, wd_2_136⟩
theorem lk_L_324 : eLkV RL 324 mX6_isConsistent 0 := ⟨⟨wd_2_138, ca_X6_isConsistent.1, ca_X6_isConsistent.2.1, ca_X6_isConsistent.2.2.1, ca_X6_isConsistent.2.2.2⟩, wd_2_139, wd_2_140⟩
theorem lk_X6_319 : eLkV RX6 319 mX2_isApartAndClear 0 := ⟨⟨wd_2_142, ca_X2_isApartAndClear.1, ca_X2_isApartAndClear.2.1, ca_X2_isApartAndClear.2.2.1, ca_X2_isApartAndClear.2.2.2⟩, wd_2_143, wd_2_144⟩
theorem lk_X2_111 : eLkV RX2 111 mX2_isPossible 3 := ⟨⟨wd_2_146, ca_X2_isPossible.1, ca_X2_isPossible.2.1, ca_X2_isPossible.2.2.1, ca_X2_isPossible.2.2.2⟩, wd_2_147, wd_2_148⟩
theorem lk_X2_107 : eLkS RX2 107 mX0_inSky 2 := ⟨⟨wd_2_150, ca_X0_inSky.1, ca_X0_inSky.2.1, ca_X0_inSky.2.2.1, ca_X0_inSky.2.2.2⟩, wd_2_151⟩
theorem lk_X2_116 : eLkV RX2 116 mX0_covers 2 := ⟨⟨wd_2_153, ca_X0_covers.1, ca_X0_covers.2.1, ca_X0_covers.2.2.1, ca_X0_covers.2.2.2⟩, wd_2_154, wd_2_155⟩
theorem lk_X0_19 : eLkS RX0 19 mX0_inSky 2 := ⟨⟨wd_2_157, ca_X0_inSky.1, ca_X0_inSky.2.1, ca_X0_inSky.2.2.1, ca_X0_inSky.2.2.2⟩, wd_2_151⟩
theorem lk_X2_193 : eLkV RX2 193 mX2_lowestTouched 3 := ⟨⟨wd_2_158, ca_X2_lowestTouched.1, ca_X2_lowestTouched.2.1, ca_X2_lowestTouched.2.2.1, ca_X2_lowestTouched.2.2.2⟩, wd_2_159, wd_2_160⟩
theorem lk_X6_322 : eLkV RX6 322 mX6_leadersAgree 0 := ⟨⟨wd_2_162, ca_X6_leadersAgree.1, ca_X6_leadersAgree.2.1, ca_X6_leadersAgree.2.2.1, ca_X6_leadersAgree.2.2.2⟩, wd_2_164, ws_X6_leadersAgree⟩
theorem lk_X6_156 : eLkV RX6 156 mX2_leaderByFormula 1 := ⟨⟨wd_2_166, ca_X2_leaderByFormula.1, ca_X2_leaderByFormula.2.1, ca_X2_leaderByFormula.2.2.1, ca_X2_leaderByFormula.2.2.2⟩, wd_2_167, wd_2_168⟩
theorem lk_X6_159 : eLkV RX6 159 mX2_leaderByCounting 1 := ⟨⟨wd_2_170, ca_X2_leaderByCounting.1, ca_X2_leaderByCounting.2.1, ca_X2_leaderByCounting.2.2.1, ca_X2_leaderByCounting.2.2.2⟩, wd_2_171, wd_2_172⟩
theorem lk_L_332 : eLkV RL 332 mX6_save 0 := ⟨⟨wd_2_174, ca_X6_save.1, ca_X6_save.2.1, ca_X6_save.2.2.1, ca_X6_save.2.2.2⟩, wd_2_175, wd_2_176⟩
theorem lk_X6_174 : eLkV RX6 174 mX2_copyFrom 1 := ⟨⟨wd_2_178, ca_X2_copyFrom.1, ca_X2_copyFrom.2.1, ca_X2_copyFrom.2.2.1, ca_X2_copyFrom.2.2.2⟩, wd_2_179, wd_2_180⟩
theorem lk_X2_76 : eLkV RX2 76 mX0_copyFrom 1 := ⟨⟨wd_2_185, ca_X0_copyFrom.1, ca_X0_copyFrom.2.1, ca_X0_copyFrom.2.2.1, ca_X0_copyFrom.2.2.2⟩, wd_2_186, wd_2_187⟩
theorem lk_X2_80 : eLkV RX2 80 mX5_copyFrom 1 := ⟨⟨wd_2_190, ca_X5_copyFrom.1, ca_X5_copyFrom.2.1, ca_X5_copyFrom.2.2.1, ca_X5_copyFrom.2.2.2⟩, wd_2_191, wd_2_192⟩
theorem lk_L_148 : eLkS RL 148 mL_addBasket 5 := ⟨⟨wd_2_195, ca_L_addBasket.1, ca_L_addBasket.2.1, ca_L_addBasket.2.2.1, ca_L_addBasket.2.2.2⟩, wd_2_196⟩
theorem lk_L_7 : eLkV RL 7 mX6_addBasket 3 := ⟨⟨wd_2_201, ca_X6_addBasket.1, ca_X6_addBasket.2.1, ca_X6_addBasket.2.2.1, ca_X6_addBasket.2.2.2⟩, wd_2_202, wd_2_203⟩
theorem lk_X6_67 : eLkV RX6 67 mX6_prepare 4 := ⟨⟨wd_2_205, ca_X6_prepare.1, ca_X6_prepare.2.1, ca_X6_prepare.2.2.1, ca_X6_prepare.2.2.2⟩, wd_2_207, ws_X6_prepare⟩
theorem lk_X6_280 : eLkV RX6 280 mX6_hindranceIn 5 := ⟨⟨wd_2_209, ca_X6_hindranceIn.1, ca_X6_hindranceIn.2.1, ca_X6_hindranceIn.2.2.1, ca_X6_hindranceIn.2.2.2⟩, wd_2_211, ws_X6_hindranceIn⟩
theorem lk_X6_339 : eLkV RX6 339 mX2_hindrance 4 := ⟨⟨wd_2_213, ca_X2_hindrance.1, ca_X2_hindrance.2.1, ca_X2_hindrance.2.2.1, ca_X2_hindrance.2.2.2⟩, wd_2_214, wd_2_215⟩
theorem lk_X2_83 : eLkV RX2 83 mX2_hindranceToAdd 3 := ⟨⟨wd_2_217, ca_X2_hindranceToAdd.1, ca_X2_hindranceToAdd.2.1, ca_X2_hindranceToAdd.2.2.1, ca_X2_hindranceToAdd.2.2.2⟩, wd_2_218, wd_2_219⟩
theorem lk_X2_87 : eLkV RX2 87 mX2_hindranceToJump 3 := ⟨⟨wd_2_221, ca_X2_hindranceToJump.1, ca_X2_hindranceToJump.2.1, ca_X2_hindranceToJump.2.2.1, ca_X2_hindranceToJump.2.2.2⟩, wd_2_222, wd_2_223⟩
theorem lk_X2_94 : eLkS RX2 94 mX2_hindranceOutside 3 := ⟨⟨wd_2_225, ca_X2_hindranceOutside.1, ca_X2_hindranceOutside.2.1, ca_X2_hindranceOutside.2.2.1, ca_X2_hindranceOutside.2.2.2⟩, wd_2_226⟩
theorem lk_X2_97 : eLkV RX2 97 mX2_hindranceToCloud 2 := ⟨⟨wd_2_228, ca_X2_hindranceToCloud.1, ca_X2_hindranceToCloud.2.1, ca_X2_hindranceToCloud.2.2.1, ca_X2_hindranceToCloud.2.2.2⟩, wd_2_229, wd_2_230⟩
theorem lk_X2_119 : eLkV RX2 119 mX2_basketIn 2 := ⟨⟨wd_2_232, ca_X2_basketIn.1, ca_X2_basketIn.2.1, ca_X2_basketIn.2.2.1, ca_X2_basketIn.2.2.2⟩, wd_2_233, wd_2_234⟩
theorem lk_X2_101 : eLkV RX2 101 mX2_hindranceToClear 2 := ⟨⟨wd_2_236, ca_X2_hindranceToClear.1, ca_X2_hindranceToClear.2.1, ca_X2_hindranceToClear.2.2.1, ca_X2_hindranceToClear.2.2.2⟩, wd_2_237, wd_2_238⟩
theorem lk_X2_104 : eLkV RX2 104 mX2_hindranceToGoal 2 := ⟨⟨wd_3_0, ca_X2_hindranceToGoal.1, ca_X2_hindranceToGoal.2.1, ca_X2_hindranceToGoal.2.2.1, ca_X2_hindranceToGoal.2.2.2⟩, wd_3_1, wd_3_2⟩
theorem lk_X6_342 : eLkV RX6 342 mX6_keepRefusal 5 := ⟨⟨wd_3_4, ca_X6_keepRefusal.1, ca_X6_keepRefusal.2.1, ca_X6_keepRefusal.2.2.1, ca_X6_keepRefusal.2.2.2⟩, wd_3_6, ws_X6_keepRefusal⟩
theorem lk_X6_136 : eLkV RX6 136 mX0_covers 2 := ⟨⟨wd_3_8, ca_X0_covers.1, ca_X0_covers.2.1, ca_X0_covers.2.2.1, ca_X0_covers.2.2.2⟩, wd_2_154, wd_2_155⟩
theorem lk_X6_346 : eLkV RX6 346 mX2_lowestTouched 3 := ⟨⟨wd_3_9, ca_X2_lowestTouched.1, ca_X2_lowestTouched.2.1, ca_X2_lowestTouched.2.2.1, ca_X2_lowestTouched.2.2.2⟩, wd_2_159, wd_2_160⟩
theorem lk_X6_336 : eLkS RX6 336 mX6_throwFor 1 := ⟨⟨wd_3_10, ca_X6_throwFor.1, ca_X6_throwFor.2.1, ca_X6_throwFor.2.2.1, ca_X6_throwFor.2.2.2⟩, wd_3_11⟩
theorem lk_X6_290 : eLkV RX6 290 mX4_push 1 := ⟨⟨wd_3_150, ca_X4_push.1, ca_X4_push.2.1, ca_X4_push.2.2.1, ca_X4_push.2.2.2⟩, wd_3_151, wd_3_152⟩
theorem lk_X4_25 : eLkV RX4 25 mX2_copyFrom 1 := ⟨⟨wd_3_154, ca_X2_copyFrom.1, ca_X2_copyFrom.2.1, ca_X2_copyFrom.2.2.1, ca_X2_copyFrom.2.2.2⟩, wd_2_179, wd_2_180⟩
theorem lk_X4_29 : eLkS RX4 29 mJ9_min_7cf53 2 := ⟨⟨wd_3_155, ca_J9_min_7cf53.1, ca_J9_min_7cf53.2.1, ca_J9_min_7cf53.2.2.1, ca_J9_min_7cf53.2.2.2⟩, wd_3_156⟩
theorem lk_X6_71 : eLkV RX6 71 mX2_add 3 := ⟨⟨wd_3_158, ca_X2_add.1, ca_X2_add.2.1, ca_X2_add.2.2.1, ca_X2_add.2.2.2⟩, wd_3_159, wd_3_160⟩
theorem lk_L_157 : eLkS RL 157 mL_jump 5 := ⟨⟨wd_3_162, ca_L_jump.1, ca_L_jump.2.1, ca_L_jump.2.2.1, ca_L_jump.2.2.2⟩, wd_3_163⟩
theorem lk_L_19 : eLkV RL 19 mX6_jump 3 := ⟨⟨wd_3_186, ca_X6_jump.1, ca_X6_jump.2.1, ca_X6_jump.2.2.1, ca_X6_jump.2.2.2⟩, wd_3_187, wd_3_188⟩
theorem lk_X6_75 : eLkV RX6 75 mX2_put 3 := ⟨⟨wd_3_190, ca_X2_put.1, ca_X2_put.2.1, ca_X2_put.2.2.1, ca_X2_put.2.2.2⟩, wd_3_191, wd_3_192⟩
theorem lk_L_160 : eLkS RL 160 mL_setHandle 4 := ⟨⟨wd_3_194, ca_L_setHandle.1, ca_L_setHandle.2.1, ca_L_setHandle.2.2.1, ca_L_setHandle.2.2.2⟩, wd_3_195⟩
theorem lk_L_24 : eLkV RL 24 mX6_setHandle 2 := ⟨⟨wd_3_197, ca_X6_setHandle.1, ca_X6_setHandle.2.1, ca_X6_setHandle.2.2.1, ca_X6_setHandle.2.2.2⟩, wd_3_198, wd_3_199⟩
theorem lk_X6_78 : eLkV RX6 78 mX2_replaceHandle 2 := ⟨⟨wd_3_201, ca_X2_replaceHandle.1, ca_X2_replaceHandle.2.1, ca_X2_replaceHandle.2.2.1, ca_X2_replaceHandle.2.2.2⟩, wd_3_202, wd_3_203⟩
theorem lk_L_168 : eLkS RL 168 mL_xOf 3 := ⟨⟨wd_3_205, ca_L_xOf.1, ca_L_xOf.2.1, ca_L_xOf.2.2.1, ca_L_xOf.2.2.2⟩, wd_3_206⟩
theorem lk_L_28 : eLkV RL 28 mX6_xOf 1 := ⟨⟨wd_3_208, ca_X6_xOf.1, ca_X6_xOf.2.1, ca_X6_xOf.2.2.1, ca_X6_xOf.2.2.2⟩, wd_3_209, wd_3_210⟩
theorem lk_X6_85 : eLkV RX6 85 mX6_demandBasket 1 := ⟨⟨wd_3_212, ca_X6_demandBasket.1, ca_X6_demandBasket.2.1, ca_X6_demandBasket.2.2.1, ca_X6_demandBasket.2.2.2⟩, wd_3_214, ws_X6_demandBasket⟩
theorem lk_X6_364 : eLkV RX6 364 mX2_has 1 := ⟨⟨wd_3_216, ca_X2_has.1, ca_X2_has.2.1, ca_X2_has.2.2.1, ca_X2_has.2.2.2⟩, wd_2_56, wd_2_57⟩
theorem lk_L_172 : eLkS RL 172 mL_yOf 3 := ⟨⟨wd_3_217, ca_L_yOf.1, ca_L_yOf.2.1, ca_L_yOf.2.2.1, ca_L_yOf.2.2.2⟩, wd_3_218⟩
theorem lk_L_32 : eLkV RL 32 mX6_yOf 1 := ⟨⟨wd_3_220, ca_X6_yOf.1, ca_X6_yOf.2.1, ca_X6_yOf.2.2.1, ca_X6_yOf.2.2.2⟩, wd_3_221, wd_3_222⟩
theorem lk_L_175 : eLkS RL 175 mL_handleOf 3 := ⟨⟨wd_3_224, ca_L_handleOf.1, ca_L_handleOf.2.1, ca_L_handleOf.2.2.1, ca_L_handleOf.2.2.2⟩, wd_3_225⟩
theorem lk_L_35 : eLkV RL 35 mX6_handleOf 1 := ⟨⟨wd_3_227, ca_X6_handleOf.1, ca_X6_handleOf.2.1, ca_X6_handleOf.2.2.1, ca_X6_handleOf.2.2.2⟩, wd_3_228, wd_3_229⟩
theorem lk_L_178 : eLkS RL 178 mL_basketAt 4 := ⟨⟨wd_3_231, ca_L_basketAt.1, ca_L_basketAt.2.1, ca_L_basketAt.2.2.1, ca_L_basketAt.2.2.2⟩, wd_3_232⟩
theorem lk_L_38 : eLkV RL 38 mX6_basketAt 2 := ⟨⟨wd_3_235, ca_X6_basketAt.1, ca_X6_basketAt.2.1, ca_X6_basketAt.2.2.1, ca_X6_basketAt.2.2.2⟩, wd_3_236, wd_3_237⟩
theorem lk_X6_99 : eLkV RX6 99 mX6_demandCell 2 := ⟨⟨wd_3_239, ca_X6_demandCell.1, ca_X6_demandCell.2.1, ca_X6_demandCell.2.2.1, ca_X6_demandCell.2.2.2⟩, wd_4_1, ws_X6_demandCell⟩
theorem lk_X6_370 : eLkS RX6 370 mX0_inSky 2 := ⟨⟨wd_4_3, ca_X0_inSky.1, ca_X0_inSky.2.1, ca_X0_inSky.2.2.1, ca_X0_inSky.2.2.2⟩, wd_2_151⟩
theorem lk_X6_103 : eLkV RX6 103 mX2_basketIn 2 := ⟨⟨wd_4_5, ca_X2_basketIn.1, ca_X2_basketIn.2.1, ca_X2_basketIn.2.2.1, ca_X2_basketIn.2.2.2⟩, wd_2_233, wd_2_234⟩
theorem lk_L_181 : eLkS RL 181 mL_distance 4 := ⟨⟨wd_4_7, ca_L_distance.1, ca_L_distance.2.1, ca_L_distance.2.2.1, ca_L_distance.2.2.2⟩, wd_4_8⟩
theorem lk_L_43 : eLkV RL 43 mX6_distance 2 := ⟨⟨wd_4_10, ca_X6_distance.1, ca_X6_distance.2.1, ca_X6_distance.2.2.1, ca_X6_distance.2.2.2⟩, wd_4_11, wd_4_12⟩
theorem lk_X6_113 : eLkV RX6 113 mX2_distanceOf 2 := ⟨⟨wd_4_14, ca_X2_distanceOf.1, ca_X2_distanceOf.2.1, ca_X2_distanceOf.2.2.1, ca_X2_distanceOf.2.2.2⟩, wd_2_52, wd_2_53⟩
theorem lk_L_184 : eLkS RL 184 mL_nearestTo 3 := ⟨⟨wd_4_15, ca_L_nearestTo.1, ca_L_nearestTo.2.1, ca_L_nearestTo.2.2.1, ca_L_nearestTo.2.2.2⟩, wd_4_16⟩
theorem lk_L_46 : eLkV RL 46 mX6_nearestTo 1 := ⟨⟨wd_4_18, ca_X6_nearestTo.1, ca_X6_nearestTo.2.1, ca_X6_nearestTo.2.2.1, ca_X6_nearestTo.2.2.2⟩, wd_4_19, wd_4_20⟩
theorem lk_X6_116 : eLkV RX6 116 mX2_nearestOther 1 := ⟨⟨wd_4_22, ca_X2_nearestOther.1, ca_X2_nearestOther.2.1, ca_X2_nearestOther.2.2.1, ca_X2_nearestOther.2.2.2⟩, wd_4_23, wd_4_24⟩
theorem lk_L_187 : eLkS RL 187 mL_refusalReason 2 := ⟨⟨wd_4_27, ca_L_refusalReason.1, ca_L_refusalReason.2.1, ca_L_refusalReason.2.2.1, ca_L_refusalReason.2.2.2⟩, wd_4_28⟩
theorem lk_L_49 : eLkV RL 49 mX6_refusalReason 0 := ⟨⟨wd_4_30, ca_X6_refusalReason.1, ca_X6_refusalReason.2.1, ca_X6_refusalReason.2.2.1, ca_X6_refusalReason.2.2.2⟩, wd_4_31, wd_4_32⟩
theorem lk_X6_122 : eLkV RX6 122 mX6_demandRefusal 0 := ⟨⟨wd_4_34, ca_X6_demandRefusal.1, ca_X6_demandRefusal.2.1, ca_X6_demandRefusal.2.2.1, ca_X6_demandRefusal.2.2.2⟩, wd_4_36, ws_X6_demandRefusal⟩
theorem lk_L_191 : eLkS RL 191 mL_refusalDetail 2 := ⟨⟨wd_4_39, ca_L_refusalDetail.1, ca_L_refusalDetail.2.1, ca_L_refusalDetail.2.2.1, ca_L_refusalDetail.2.2.2⟩, wd_4_40⟩
theorem lk_L_53 : eLkV RL 53 mX6_refusalDetail 0 := ⟨⟨wd_4_42, ca_X6_refusalDetail.1, ca_X6_refusalDetail.2.1, ca_X6_refusalDetail.2.2.1, ca_X6_refusalDetail.2.2.2⟩, wd_4_43, wd_4_44⟩
theorem lk_L_194 : eLkS RL 194 mL_addCloud 4 := ⟨⟨wd_4_46, ca_L_addCloud.1, ca_L_addCloud.2.1, ca_L_addCloud.2.2.1, ca_L_addCloud.2.2.2⟩, wd_4_47⟩
theorem lk_L_56 : eLkV RL 56 mX6_addCloud 2 := ⟨⟨wd_4_49, ca_X6_addCloud.1, ca_X6_addCloud.2.1, ca_X6_addCloud.2.2.1, ca_X6_addCloud.2.2.2⟩, wd_4_50, wd_4_51⟩
theorem lk_X6_129 : eLkV RX6 129 mX0_put 2 := ⟨⟨wd_4_53, ca_X0_put.1, ca_X0_put.2.1, ca_X0_put.2.2.1, ca_X0_put.2.2.2⟩, wd_4_54, wd_4_55⟩
theorem lk_X0_23 : eLkV RX0 23 mX0_covers 2 := ⟨⟨wd_4_57, ca_X0_covers.1, ca_X0_covers.2.1, ca_X0_covers.2.2.1, ca_X0_covers.2.2.2⟩, wd_2_154, wd_2_155⟩
theorem lk_L_197 : eLkS RL 197 mL_removeCloud 4 := ⟨⟨wd_4_58, ca_L_removeCloud.1, ca_L_removeCloud.2.1, ca_L_removeCloud.2.2.1, ca_L_removeCloud.2.2.2⟩, wd_4_59⟩
theorem lk_L_59 : eLkV RL 59 mX6_removeCloud 2 := ⟨⟨wd_4_61, ca_X6_removeCloud.1, ca_X6_removeCloud.2.1, ca_X6_removeCloud.2.2.1, ca_X6_removeCloud.2.2.2⟩, wd_4_62, wd_4_63⟩
theorem lk_X6_133 : eLkV RX6 133 mX0_remove 2 := ⟨⟨wd_4_65, ca_X0_remove.1, ca_X0_remove.2.1, ca_X0_remove.2.2.1, ca_X0_remove.2.2.2⟩, wd_4_66, wd_4_67⟩
theorem lk_L_200 : eLkS RL 200 mL_isCloud 4 := ⟨⟨wd_4_69, ca_L_isCloud.1, ca_L_isCloud.2.1, ca_L_isCloud.2.2.1, ca_L_isCloud.2.2.2⟩, wd_4_70⟩
theorem lk_L_62 : eLkV RL 62 mX6_isCloud 2 := ⟨⟨wd_4_72, ca_X6_isCloud.1, ca_X6_isCloud.2.1, ca_X6_isCloud.2.2.1, ca_X6_isCloud.2.2.2⟩, wd_4_73, wd_4_74⟩
theorem lk_L_207 : eLkS RL 207 mL_setTurnLength 3 := ⟨⟨wd_4_76, ca_L_setTurnLength.1, ca_L_setTurnLength.2.1, ca_L_setTurnLength.2.2.1, ca_L_setTurnLength.2.2.2⟩, wd_4_77⟩
theorem lk_L_66 : eLkV RL 66 mX6_setTurnLength 1 := ⟨⟨wd_4_79, ca_X6_setTurnLength.1, ca_X6_setTurnLength.2.1, ca_X6_setTurnLength.2.2.1, ca_X6_setTurnLength.2.2.2⟩, wd_4_80, wd_4_81⟩
theorem lk_X6_141 : eLkV RX6 141 mX2_replaceTurn 1 := ⟨⟨wd_4_83, ca_X2_replaceTurn.1, ca_X2_replaceTurn.2.1, ca_X2_replaceTurn.2.2.1, ca_X2_replaceTurn.2.2.2⟩, wd_4_84, wd_4_85⟩
theorem lk_L_214 : eLkS RL 214 mL_leader 2 := ⟨⟨wd_4_87, ca_L_leader.1, ca_L_leader.2.1, ca_L_leader.2.2.1, ca_L_leader.2.2.2⟩, wd_4_88⟩
theorem lk_L_69 : eLkV RL 69 mX6_leader 0 := ⟨⟨wd_4_90, ca_X6_leader.1, ca_X6_leader.2.1, ca_X6_leader.2.2.1, ca_X6_leader.2.2.2⟩, wd_4_91, wd_4_92⟩
theorem lk_X6_147 : eLkV RX6 147 mX6_demandAnyBasket 0 := ⟨⟨wd_4_94, ca_X6_demandAnyBasket.1, ca_X6_demandAnyBasket.2.1, ca_X6_demandAnyBasket.2.2.1, ca_X6_demandAnyBasket.2.2.2⟩, wd_4_96, ws_X6_demandAnyBasket⟩
theorem lk_L_217 : eLkS RL 217 mL_leaderAfter 3 := ⟨⟨wd_4_99, ca_L_leaderAfter.1, ca_L_leaderAfter.2.1, ca_L_leaderAfter.2.2.1, ca_L_leaderAfter.2.2.2⟩, wd_4_100⟩
theorem lk_L_72 : eLkV RL 72 mX6_leaderAfter 1 := ⟨⟨wd_4_102, ca_X6_leaderAfter.1, ca_X6_leaderAfter.2.1, ca_X6_leaderAfter.2.2.1, ca_X6_leaderAfter.2.2.2⟩, wd_4_103, wd_4_104⟩
theorem lk_X6_153 : eLkV RX6 153 mX6_demandStepsAhead 1 := ⟨⟨wd_4_106, ca_X6_demandStepsAhead.1, ca_X6_demandStepsAhead.2.1, ca_X6_demandStepsAhead.2.2.1, ca_X6_demandStepsAhead.2.2.2⟩, wd_4_108, ws_X6_demandStepsAhead⟩
theorem lk_L_220 : eLkS RL 220 mL_leaderAfterByCounting 3 := ⟨⟨wd_4_111, ca_L_leaderAfterByCounting.1, ca_L_leaderAfterByCounting.2.1, ca_L_leaderAfterByCounting.2.2.1, ca_L_leaderAfterByCounting.2.2.2⟩, wd_4_112⟩
theorem lk_L_75 : eLkV RL 75 mX6_leaderAfterByCounting 1 := ⟨⟨wd_4_114, ca_X6_leaderAfterByCounting.1, ca_X6_leaderAfterByCounting.2.1, ca_X6_leaderAfterByCounting.2.2.1, ca_X6_leaderAfterByCounting.2.2.2⟩, wd_4_115, wd_4_116⟩
theorem lk_L_223 : eLkS RL 223 mL_setTarget 4 := ⟨⟨wd_4_118, ca_L_setTarget.1, ca_L_setTarget.2.1, ca_L_setTarget.2.2.1, ca_L_setTarget.2.2.2⟩, wd_4_119⟩
theorem lk_L_78 : eLkV RL 78 mX6_setTarget 2 := ⟨⟨wd_4_121, ca_X6_setTarget.1, ca_X6_setTarget.2.1, ca_X6_setTarget.2.2.1, ca_X6_setTarget.2.2.2⟩, wd_4_122, wd_4_123⟩
theorem lk_X6_162 : eLkV RX6 162 mX2_replaceGoal 2 := ⟨⟨wd_4_125, ca_X2_replaceGoal.1, ca_X2_replaceGoal.2.1, ca_X2_replaceGoal.2.2.1, ca_X2_replaceGoal.2.2.2⟩, wd_4_126, wd_4_127⟩
theorem lk_L_226 : eLkS RL 226 mL_targetX 2 := ⟨⟨wd_4_129, ca_L_targetX.1, ca_L_targetX.2.1, ca_L_targetX.2.2.1, ca_L_targetX.2.2.2⟩, wd_4_130⟩
theorem lk_L_81 : eLkV RL 81 mX6_targetX 0 := ⟨⟨wd_4_132, ca_X6_targetX.1, ca_X6_targetX.2.1, ca_X6_targetX.2.2.1, ca_X6_targetX.2.2.2⟩, wd_4_133, wd_4_134⟩
theorem lk_X6_165 : eLkV RX6 165 mX6_demandTarget 0 := ⟨⟨wd_4_136, ca_X6_demandTarget.1, ca_X6_demandTarget.2.1, ca_X6_demandTarget.2.2.1, ca_X6_demandTarget.2.2.2⟩, wd_4_138, ws_X6_demandTarget⟩
theorem lk_X6_377 : eLkV RX6 377 mX2_hasTarget 0 := ⟨⟨wd_4_140, ca_X2_hasTarget.1, ca_X2_hasTarget.2.1, ca_X2_hasTarget.2.2.1, ca_X2_hasTarget.2.2.2⟩, wd_4_141, wd_4_142⟩
theorem lk_L_229 : eLkS RL 229 mL_targetY 2 := ⟨⟨wd_4_145, ca_L_targetY.1, ca_L_targetY.2.1, ca_L_targetY.2.2.1, ca_L_targetY.2.2.2⟩, wd_4_146⟩
theorem lk_L_84 : eLkV RL 84 mX6_targetY 0 := ⟨⟨wd_4_148, ca_X6_targetY.1, ca_X6_targetY.2.1, ca_X6_targetY.2.2.1, ca_X6_targetY.2.2.2⟩, wd_4_149, wd_4_150⟩
theorem lk_L_232 : eLkS RL 232 mL_stepsToTarget 2 := ⟨⟨wd_4_152, ca_L_stepsToTarget.1, ca_L_stepsToTarget.2.1, ca_L_stepsToTarget.2.2.1, ca_L_stepsToTarget.2.2.2⟩, wd_4_153⟩
theorem lk_L_87 : eLkV RL 87 mX6_stepsToTarget 0 := ⟨⟨wd_4_155, ca_X6_stepsToTarget.1, ca_X6_stepsToTarget.2.1, ca_X6_stepsToTarget.2.2.1, ca_X6_stepsToTarget.2.2.2⟩, wd_4_156, wd_4_157⟩
theorem lk_X6_178 : eLkV RX6 178 mX2_leaderIsOnTarget 0 := ⟨⟨wd_4_159, ca_X2_leaderIsOnTarget.1, ca_X2_leaderIsOnTarget.2.1, ca_X2_leaderIsOnTarget.2.2.1, ca_X2_leaderIsOnTarget.2.2.2⟩, wd_4_160, wd_4_161⟩
theorem lk_X2_165 : eLkV RX2 165 mX2_hasTarget 0 := ⟨⟨wd_4_163, ca_X2_hasTarget.1, ca_X2_hasTarget.2.1, ca_X2_hasTarget.2.2.1, ca_X2_hasTarget.2.2.2⟩, wd_4_141, wd_4_142⟩
theorem lk_X6_182 : eLkV RX6 182 mX2_passSteps 1 := ⟨⟨wd_4_164, ca_X2_passSteps.1, ca_X2_passSteps.2.1, ca_X2_passSteps.2.2.1, ca_X2_passSteps.2.2.2⟩, wd_4_165, wd_4_166⟩
theorem lk_X2_152 : eLkV RX2 152 mX2_moveLeader 0 := ⟨⟨wd_4_168, ca_X2_moveLeader.1, ca_X2_moveLeader.2.1, ca_X2_moveLeader.2.2.1, ca_X2_moveLeader.2.2.2⟩, wd_4_169, wd_4_170⟩
theorem lk_X2_169 : eLkV RX2 169 mX2_leaderIsOnTarget 0 := ⟨⟨wd_4_172, ca_X2_leaderIsOnTarget.1, ca_X2_leaderIsOnTarget.2.1, ca_X2_leaderIsOnTarget.2.2.1, ca_X2_leaderIsOnTarget.2.2.2⟩, wd_4_160, wd_4_161⟩
theorem lk_X2_172 : eLkS RX2 172 mX2_oneTowards 2 := ⟨⟨wd_4_173, ca_X2_oneTowards.1, ca_X2_oneTowards.2.1, ca_X2_oneTowards.2.2.1, ca_X2_oneTowards.2.2.2⟩, wd_4_174⟩
theorem lk_X2_180 : eLkV RX2 180 mX2_goTo 3 := ⟨⟨wd_4_176, ca_X2_goTo.1, ca_X2_goTo.2.1, ca_X2_goTo.2.2.1, ca_X2_goTo.2.2.2⟩, wd_4_177, wd_4_178⟩
theorem lk_X2_156 : eLkV RX2 156 mX2_moveFollower 1 := ⟨⟨wd_4_180, ca_X2_moveFollower.1, ca_X2_moveFollower.2.1, ca_X2_moveFollower.2.2.1, ca_X2_moveFollower.2.2.2⟩, wd_4_181, wd_4_182⟩
theorem lk_X2_159 : eLkV RX2 159 mX2_rememberShape 0 := ⟨⟨wd_4_184, ca_X2_rememberShape.1, ca_X2_rememberShape.2.1, ca_X2_rememberShape.2.2.1, ca_X2_rememberShape.2.2.2⟩, wd_4_185, wd_4_186⟩
theorem lk_X2_186 : eLkV RX2 186 mX2_drawPresentShape 0 := ⟨⟨wd_4_188, ca_X2_drawPresentShape.1, ca_X2_drawPresentShape.2.1, ca_X2_drawPresentShape.2.2.1, ca_X2_drawPresentShape.2.2.2⟩, wd_4_189, wd_4_190⟩
theorem lk_X2_212 : eLkS RX2 212 mJ9_min_7cf53 2 := ⟨⟨wd_4_192, ca_J9_min_7cf53.1, ca_J9_min_7cf53.2.1, ca_J9_min_7cf53.2.2.1, ca_J9_min_7cf53.2.2.2⟩, wd_3_156⟩
theorem lk_X2_189 : eLkV RX2 189 mX5_remember 1 := ⟨⟨wd_4_193, ca_X5_remember.1, ca_X5_remember.2.1, ca_X5_remember.2.2.1, ca_X5_remember.2.2.2⟩, wd_4_194, wd_4_195⟩
theorem lk_X5_28 : eLkS RX5 28 mJ9_min_7cf53 2 := ⟨⟨wd_4_197, ca_J9_min_7cf53.1, ca_J9_min_7cf53.2.1, ca_J9_min_7cf53.2.2.1, ca_J9_min_7cf53.2.2.2⟩, wd_3_156⟩
theorem lk_X2_162 : eLkV RX2 162 mX2_passLead 0 := ⟨⟨wd_4_198, ca_X2_passLead.1, ca_X2_passLead.2.1, ca_X2_passLead.2.2.1, ca_X2_passLead.2.2.2⟩, wd_4_199, wd_4_200⟩
theorem lk_L_235 : eLkS RL 235 mL_setKeep 3 := ⟨⟨wd_4_203, ca_L_setKeep.1, ca_L_setKeep.2.1, ca_L_setKeep.2.2.1, ca_L_setKeep.2.2.2⟩, wd_4_204⟩
theorem lk_L_90 : eLkV RL 90 mX6_setKeep 1 := ⟨⟨wd_4_206, ca_X6_setKeep.1, ca_X6_setKeep.2.1, ca_X6_setKeep.2.2.1, ca_X6_setKeep.2.2.2⟩, wd_4_207, wd_4_208⟩
theorem lk_X6_187 : eLkV RX6 187 mX2_replaceKept 1 := ⟨⟨wd_4_210, ca_X2_replaceKept.1, ca_X2_replaceKept.2.1, ca_X2_replaceKept.2.2.1, ca_X2_replaceKept.2.2.2⟩, wd_4_211, wd_4_212⟩
theorem lk_L_242 : eLkS RL 242 mL_advance 3 := ⟨⟨wd_4_214, ca_L_advance.1, ca_L_advance.2.1, ca_L_advance.2.2.1, ca_L_advance.2.2.2⟩, wd_4_215⟩
theorem lk_L_93 : eLkV RL 93 mX6_advance 1 := ⟨⟨wd_4_217, ca_X6_advance.1, ca_X6_advance.2.1, ca_X6_advance.2.2.1, ca_X6_advance.2.2.2⟩, wd_4_218, wd_4_219⟩
theorem lk_L_249 : eLkS RL 249 mL_movesOf 3 := ⟨⟨wd_4_221, ca_L_movesOf.1, ca_L_movesOf.2.1, ca_L_movesOf.2.2.1, ca_L_movesOf.2.2.2⟩, wd_4_222⟩
theorem lk_L_96 : eLkV RL 96 mX6_movesOf 1 := ⟨⟨wd_4_224, ca_X6_movesOf.1, ca_X6_movesOf.2.1, ca_X6_movesOf.2.2.1, ca_X6_movesOf.2.2.2⟩, wd_4_225, wd_4_226⟩
theorem lk_L_273 : eLkS RL 273 mL_formationOf 3 := ⟨⟨wd_4_228, ca_L_formationOf.1, ca_L_formationOf.2.1, ca_L_formationOf.2.2.1, ca_L_formationOf.2.2.2⟩, wd_4_229⟩
theorem lk_L_99 : eLkV RL 99 mX6_formationOf 1 := ⟨⟨wd_4_231, ca_X6_formationOf.1, ca_X6_formationOf.2.1, ca_X6_formationOf.2.2.1, ca_X6_formationOf.2.2.2⟩, wd_4_232, wd_4_233⟩
theorem lk_X6_216 : eLkV RX6 216 mX3_lowestWith 2 := ⟨⟨wd_4_235, ca_X3_lowestWith.1, ca_X3_lowestWith.2.1, ca_X3_lowestWith.2.2.1, ca_X3_lowestWith.2.2.2⟩, wd_4_236, wd_4_237⟩
theorem lk_X3_28 : eLkV RX3 28 mX2_has 1 := ⟨⟨wd_4_239, ca_X2_has.1, ca_X2_has.2.1, ca_X2_has.2.2.1, ca_X2_has.2.2.2⟩, wd_2_56, wd_2_57⟩
theorem lk_L_292 : eLkS RL 292 mL_stepsSinceShape 2 := ⟨⟨wd_5_0, ca_L_stepsSinceShape.1, ca_L_stepsSinceShape.2.1, ca_L_stepsSinceShape.2.2.1, ca_L_stepsSinceShape.2.2.2⟩, wd_5_1⟩
theorem lk_L_102 : eLkV RL 102 mX6_stepsSinceShape 0 := ⟨⟨wd_5_3, ca_X6_stepsSinceShape.1, ca_X6_stepsSinceShape.2.1, ca_X6_stepsSinceShape.2.2.1, ca_X6_stepsSinceShape.2.2.2⟩, wd_5_4, wd_5_5⟩
theorem lk_X6_237 : eLkV RX6 237 mX2_stepsSincePresentShape 0 := ⟨⟨wd_5_7, ca_X2_stepsSincePresentShape.1, ca_X2_stepsSincePresentShape.2.1, ca_X2_stepsSincePresentShape.2.2.1, ca_X2_stepsSincePresentShape.2.2.2⟩, wd_5_8, wd_5_9⟩
theorem lk_X2_208 : eLkV RX2 208 mX5_stepsSince 1 := ⟨⟨wd_5_11, ca_X5_stepsSince.1, ca_X5_stepsSince.2.1, ca_X5_stepsSince.2.2.1, ca_X5_stepsSince.2.2.2⟩, wd_5_12, wd_5_13⟩
theorem lk_L_295 : eLkS RL 295 mL_basketAtRank 3 := ⟨⟨wd_5_16, ca_L_basketAtRank.1, ca_L_basketAtRank.2.1, ca_L_basketAtRank.2.2.1, ca_L_basketAtRank.2.2.2⟩, wd_5_17⟩
theorem lk_L_105 : eLkV RL 105 mX6_basketAtRank 1 := ⟨⟨wd_5_19, ca_X6_basketAtRank.1, ca_X6_basketAtRank.2.1, ca_X6_basketAtRank.2.2.1, ca_X6_basketAtRank.2.2.2⟩, wd_5_20, wd_5_21⟩
theorem lk_X6_242 : eLkV RX6 242 mX2_basketWithRank 1 := ⟨⟨wd_5_23, ca_X2_basketWithRank.1, ca_X2_basketWithRank.2.1, ca_X2_basketWithRank.2.2.1, ca_X2_basketWithRank.2.2.2⟩, wd_5_24, wd_5_25⟩
theorem lk_X2_196 : eLkV RX2 196 mX2_rankOf 1 := ⟨⟨wd_5_27, ca_X2_rankOf.1, ca_X2_rankOf.2.1, ca_X2_rankOf.2.2.1, ca_X2_rankOf.2.2.2⟩, wd_5_28, wd_5_29⟩
theorem lk_L_298 : eLkS RL 298 mL_append 3 := ⟨⟨wd_5_32, ca_L_append.1, ca_L_append.2.1, ca_L_append.2.2.1, ca_L_append.2.2.2⟩, wd_5_33⟩
theorem lk_L_108 : eLkV RL 108 mX6_append 1 := ⟨⟨wd_5_35, ca_X6_append.1, ca_X6_append.2.1, ca_X6_append.2.2.1, ca_X6_append.2.2.2⟩, wd_5_36, wd_5_37⟩
theorem lk_X6_252 : eLkV RX6 252 mX1_isFull 0 := ⟨⟨wd_5_40, ca_X1_isFull.1, ca_X1_isFull.2.1, ca_X1_isFull.2.2.1, ca_X1_isFull.2.2.2⟩, wd_5_41, wd_5_42⟩
theorem lk_X6_260 : eLkV RX6 260 mX1_put 1 := ⟨⟨wd_5_45, ca_X1_put.1, ca_X1_put.2.1, ca_X1_put.2.2.1, ca_X1_put.2.2.2⟩, wd_5_46, wd_5_47⟩
theorem lk_X1_34 : eLkV RX1 34 mX1_isFull 0 := ⟨⟨wd_5_49, ca_X1_isFull.1, ca_X1_isFull.2.1, ca_X1_isFull.2.2.1, ca_X1_isFull.2.2.2⟩, wd_5_41, wd_5_42⟩
theorem lk_L_302 : eLkS RL 302 mL_run 2 := ⟨⟨wd_5_50, ca_L_run.1, ca_L_run.2.1, ca_L_run.2.2.1, ca_L_run.2.2.2⟩, wd_5_51⟩
theorem lk_L_112 : eLkV RL 112 mX6_run 0 := ⟨⟨wd_5_53, ca_X6_run.1, ca_X6_run.2.1, ca_X6_run.2.2.1, ca_X6_run.2.2.2⟩, wd_5_54, wd_5_55⟩
theorem lk_X6_263 : eLkV RX6 263 mX1_parse 0 := ⟨⟨wd_5_57, ca_X1_parse.1, ca_X1_parse.2.1, ca_X1_parse.2.2.1, ca_X1_parse.2.2.2⟩, wd_5_58, wd_5_59⟩
theorem lk_X1_56 : eLkV RX1 56 mX1_parseCommand 1 := ⟨⟨wd_5_61, ca_X1_parseCommand.1, ca_X1_parseCommand.2.1, ca_X1_parseCommand.2.2.1, ca_X1_parseCommand.2.2.2⟩, wd_5_62, wd_5_63⟩
theorem lk_X1_60 : eLkS RX1 60 mX1_formOf 1 := ⟨⟨wd_5_65, ca_X1_formOf.1, ca_X1_formOf.2.1, ca_X1_formOf.2.2.1, ca_X1_formOf.2.2.2⟩, wd_5_66⟩
theorem lk_X1_64 : eLkV RX1 64 mX1_matches 2 := ⟨⟨wd_5_77, ca_X1_matches.1, ca_X1_matches.2.1, ca_X1_matches.2.2.1, ca_X1_matches.2.2.2⟩, wd_5_78, wd_5_79⟩
theorem lk_X1_74 : eLkV RX1 74 mJ0_length_8abf5 0 := ⟨⟨wd_5_81, ca_J0_length_8abf5.1, ca_J0_length_8abf5.2.1, ca_J0_length_8abf5.2.2.1, ca_J0_length_8abf5.2.2.2⟩, wd_5_82, wd_5_83⟩
theorem lk_J0_335 : eLkV RJ0 335 mJ0_coder_7d493 0 := ⟨⟨wd_5_85, ca_J0_coder_7d493.1, ca_J0_coder_7d493.2.1, ca_J0_coder_7d493.2.2.1, ca_J0_coder_7d493.2.2.2⟩, wd_5_86, wd_5_87⟩
theorem lk_X1_79 : eLkV RX1 79 mJ0_charAt_5068e 1 := ⟨⟨wd_5_91, ca_J0_charAt_5068e.1, ca_J0_charAt_5068e.2.1, ca_J0_charAt_5068e.2.2.1, ca_J0_charAt_5068e.2.2.2⟩, wd_5_92, wd_5_93⟩
theorem lk_J0_492 : eLkV RJ0 492 mJ0_isLatin1_aae02 0 := ⟨⟨wd_5_95, ca_J0_isLatin1_aae02.1, ca_J0_isLatin1_aae02.2.1, ca_J0_isLatin1_aae02.2.2.1, ca_J0_isLatin1_aae02.2.2.2⟩, wd_5_96, wd_5_97⟩
theorem lk_J0_495 : eLkS RJ0 495 mJ1_charAt_3b067 2 := ⟨⟨wd_5_99, ca_J1_charAt_3b067.1, ca_J1_charAt_3b067.2.1, ca_J1_charAt_3b067.2.2.1, ca_J1_charAt_3b067.2.2.2⟩, wd_5_100⟩
theorem lk_J1_9 : eLkS RJ1 9 mJ0_checkIndex_df160 2 := ⟨⟨wd_5_102, ca_J0_checkIndex_df160.1, ca_J0_checkIndex_df160.2.1, ca_J0_checkIndex_df160.2.2.1, ca_J0_checkIndex_df160.2.2.2⟩, wd_5_103⟩
theorem lk_J0_1059 : eLkS RJ0 1059 mJ3_checkIndex_8e157 3 := ⟨⟨wd_5_107, ca_J3_checkIndex_8e157.1, ca_J3_checkIndex_8e157.2.1, ca_J3_checkIndex_8e157.2.2.1, ca_J3_checkIndex_8e157.2.2.2⟩, wd_5_108⟩
theorem lk_J0_498 : eLkS RJ0 498 mJ2_charAt_3b067 2 := ⟨⟨wd_5_110, ca_J2_charAt_3b067.1, ca_J2_charAt_3b067.2.1, ca_J2_charAt_3b067.2.2.1, ca_J2_charAt_3b067.2.2.2⟩, wd_5_111⟩
theorem lk_J2_67 : eLkS RJ2 67 mJ2_checkIndex_2214a 2 := ⟨⟨wd_5_113, ca_J2_checkIndex_2214a.1, ca_J2_checkIndex_2214a.2.1, ca_J2_checkIndex_2214a.2.2.1, ca_J2_checkIndex_2214a.2.2.2⟩, wd_5_114⟩
theorem lk_J2_48 : eLkS RJ2 48 mJ2_length_9d52b 1 := ⟨⟨wd_5_116, ca_J2_length_9d52b.1, ca_J2_length_9d52b.2.1, ca_J2_length_9d52b.2.2.1, ca_J2_length_9d52b.2.2.2⟩, wd_5_117⟩
theorem lk_J2_414 : eLkS RJ2 414 mJ0_checkIndex_df160 2 := ⟨⟨wd_5_119, ca_J0_checkIndex_df160.1, ca_J0_checkIndex_df160.2.1, ca_J0_checkIndex_df160.2.2.1, ca_J0_checkIndex_df160.2.2.2⟩, wd_5_103⟩
theorem lk_J2_71 : eLkS RJ2 71 mJ2_getChar_3b067 2 := ⟨⟨wd_5_120, ca_J2_getChar_3b067.1, ca_J2_getChar_3b067.2.1, ca_J2_getChar_3b067.2.2.1, ca_J2_getChar_3b067.2.2.2⟩, wd_5_121⟩
theorem lk_X1_83 : eLkV RX1 83 mX1_isDigit 0 := ⟨⟨wd_5_129, ca_X1_isDigit.1, ca_X1_isDigit.2.1, ca_X1_isDigit.2.2.1, ca_X1_isDigit.2.2.2⟩, wd_5_130, wd_5_131⟩
theorem lk_X1_86 : eLkV RX1 86 mX1_isCharacter 1 := ⟨⟨wd_5_133, ca_X1_isCharacter.1, ca_X1_isCharacter.2.1, ca_X1_isCharacter.2.2.1, ca_X1_isCharacter.2.2.2⟩, wd_5_134, wd_5_135⟩
theorem lk_X1_90 : eLkV RX1 90 mX1_takeNumber 1 := ⟨⟨wd_5_137, ca_X1_takeNumber.1, ca_X1_takeNumber.2.1, ca_X1_takeNumber.2.2.1, ca_X1_takeNumber.2.2.2⟩, wd_5_138, wd_5_139⟩
theorem lk_X1_94 : eLkV RX1 94 mX1_takeDigit 0 := ⟨⟨wd_5_141, ca_X1_takeDigit.1, ca_X1_takeDigit.2.1, ca_X1_takeDigit.2.2.1, ca_X1_takeDigit.2.2.2⟩, wd_5_142, wd_5_143⟩
theorem lk_X1_68 : eLkS RX1 68 mJ9_max_7cf53 2 := ⟨⟨wd_5_145, ca_J9_max_7cf53.1, ca_J9_max_7cf53.2.1, ca_J9_max_7cf53.2.2.1, ca_J9_max_7cf53.2.2.2⟩, wd_2_91⟩
theorem lk_X6_266 : eLkV RX6 266 mX1_clear 0 := ⟨⟨wd_5_146, ca_X1_clear.1, ca_X1_clear.2.1, ca_X1_clear.2.2.1, ca_X1_clear.2.2.2⟩, wd_5_147, wd_5_148⟩
theorem lk_X6_274 : eLkV RX6 274 mX1_kindOf 1 := ⟨⟨wd_5_151, ca_X1_kindOf.1, ca_X1_kindOf.2.1, ca_X1_kindOf.2.2.1, ca_X1_kindOf.2.2.2⟩, wd_5_152, wd_5_153⟩
theorem lk_X6_277 : eLkV RX6 277 mX1_number 2 := ⟨⟨wd_5_155, ca_X1_number.1, ca_X1_number.2.1, ca_X1_number.2.2.1, ca_X1_number.2.2.2⟩, wd_5_156, wd_5_157⟩
theorem lk_X6_286 : eLkV RX6 286 mX2_carryOut 4 := ⟨⟨wd_5_160, ca_X2_carryOut.1, ca_X2_carryOut.2.1, ca_X2_carryOut.2.2.1, ca_X2_carryOut.2.2.2⟩, wd_5_161, wd_5_162⟩
theorem lk_X2_122 : eLkV RX2 122 mX2_add 3 := ⟨⟨wd_5_164, ca_X2_add.1, ca_X2_add.2.1, ca_X2_add.2.2.1, ca_X2_add.2.2.2⟩, wd_3_159, wd_3_160⟩
theorem lk_X2_125 : eLkV RX2 125 mX2_put 3 := ⟨⟨wd_5_165, ca_X2_put.1, ca_X2_put.2.1, ca_X2_put.2.2.1, ca_X2_put.2.2.2⟩, wd_3_191, wd_3_192⟩
theorem lk_X2_128 : eLkV RX2 128 mX2_replaceHandle 2 := ⟨⟨wd_5_166, ca_X2_replaceHandle.1, ca_X2_replaceHandle.2.1, ca_X2_replaceHandle.2.2.1, ca_X2_replaceHandle.2.2.2⟩, wd_3_202, wd_3_203⟩
theorem lk_X2_131 : eLkV RX2 131 mX0_put 2 := ⟨⟨wd_5_167, ca_X0_put.1, ca_X0_put.2.1, ca_X0_put.2.2.1, ca_X0_put.2.2.2⟩, wd_4_54, wd_4_55⟩
theorem lk_X2_133 : eLkV RX2 133 mX0_remove 2 := ⟨⟨wd_5_168, ca_X0_remove.1, ca_X0_remove.2.1, ca_X0_remove.2.2.1, ca_X0_remove.2.2.2⟩, wd_4_66, wd_4_67⟩
theorem lk_X2_136 : eLkV RX2 136 mX2_replaceTurn 1 := ⟨⟨wd_5_169, ca_X2_replaceTurn.1, ca_X2_replaceTurn.2.1, ca_X2_replaceTurn.2.2.1, ca_X2_replaceTurn.2.2.2⟩, wd_4_84, wd_4_85⟩
theorem lk_X2_140 : eLkV RX2 140 mX2_replaceGoal 2 := ⟨⟨wd_5_170, ca_X2_replaceGoal.1, ca_X2_replaceGoal.2.1, ca_X2_replaceGoal.2.2.1, ca_X2_replaceGoal.2.2.2⟩, wd_4_126, wd_4_127⟩
theorem lk_X2_143 : eLkV RX2 143 mX2_replaceKept 1 := ⟨⟨wd_5_171, ca_X2_replaceKept.1, ca_X2_replaceKept.2.1, ca_X2_replaceKept.2.2.1, ca_X2_replaceKept.2.2.2⟩, wd_4_211, wd_4_212⟩
theorem lk_X2_146 : eLkV RX2 146 mX2_passSteps 1 := ⟨⟨wd_5_172, ca_X2_passSteps.1, ca_X2_passSteps.2.1, ca_X2_passSteps.2.2.1, ca_X2_passSteps.2.2.2⟩, wd_4_165, wd_4_166⟩
theorem lk_L_305 : eLkS RL 305 mL_errorPosition 2 := ⟨⟨wd_5_173, ca_L_errorPosition.1, ca_L_errorPosition.2.1, ca_L_errorPosition.2.2.1, ca_L_errorPosition.2.2.2⟩, wd_5_174⟩
theorem lk_L_115 : eLkV RL 115 mX6_errorPosition 0 := ⟨⟨wd_5_176, ca_X6_errorPosition.1, ca_X6_errorPosition.2.1, ca_X6_errorPosition.2.2.1, ca_X6_errorPosition.2.2.2⟩, wd_5_177, wd_5_178⟩
theorem lk_L_308 : eLkS RL 308 mL_failedCommand 2 := ⟨⟨wd_5_181, ca_L_failedCommand.1, ca_L_failedCommand.2.1, ca_L_failedCommand.2.2.1, ca_L_failedCommand.2.2.2⟩, wd_5_182⟩
theorem lk_L_118 : eLkV RL 118 mX6_failedCommand 0 := ⟨⟨wd_5_184, ca_X6_failedCommand.1, ca_X6_failedCommand.2.1, ca_X6_failedCommand.2.2.1, ca_X6_failedCommand.2.2.2⟩, wd_5_185, wd_5_186⟩
theorem lk_L_311 : eLkS RL 311 mL_describeRow 3 := ⟨⟨wd_5_189, ca_L_describeRow.1, ca_L_describeRow.2.1, ca_L_describeRow.2.2.1, ca_L_describeRow.2.2.2⟩, wd_5_190⟩
theorem lk_L_121 : eLkV RL 121 mX6_describeRow 1 := ⟨⟨wd_5_192, ca_X6_describeRow.1, ca_X6_describeRow.2.1, ca_X6_describeRow.2.2.1, ca_X6_describeRow.2.2.2⟩, wd_5_193, wd_5_194⟩
theorem lk_X6_297 : eLkV RX6 297 mX2_signOf 2 := ⟨⟨wd_5_196, ca_X2_signOf.1, ca_X2_signOf.2.1, ca_X2_signOf.2.2.1, ca_X2_signOf.2.2.2⟩, wd_5_197, wd_5_198⟩
theorem lk_L_314 : eLkS RL 314 mL_lineAt 3 := ⟨⟨wd_5_200, ca_L_lineAt.1, ca_L_lineAt.2.1, ca_L_lineAt.2.2.1, ca_L_lineAt.2.2.2⟩, wd_5_201⟩
theorem lk_L_124 : eLkV RL 124 mX6_lineAt 1 := ⟨⟨wd_5_203, ca_X6_lineAt.1, ca_X6_lineAt.2.1, ca_X6_lineAt.2.2.1, ca_X6_lineAt.2.2.2⟩, wd_5_204, wd_5_205⟩
theorem lk_L_317 : eLkS RL 317 mL_meanDistance 2 := ⟨⟨wd_5_208, ca_L_meanDistance.1, ca_L_meanDistance.2.1, ca_L_meanDistance.2.2.1, ca_L_meanDistance.2.2.2⟩, wd_5_209⟩
theorem lk_L_128 : eLkV RL 128 mX6_meanDistance 0 := ⟨⟨wd_5_225, ca_X6_meanDistance.1, ca_X6_meanDistance.2.1, ca_X6_meanDistance.2.2.1, ca_X6_meanDistance.2.2.2⟩, wd_5_226, wd_5_227⟩
theorem lk_X6_311 : eLkV RX6 311 mX2_sumOfDistancesFromLeader 0 := ⟨⟨wd_5_232, ca_X2_sumOfDistancesFromLeader.1, ca_X2_sumOfDistancesFromLeader.2.1, ca_X2_sumOfDistancesFromLeader.2.2.1, ca_X2_sumOfDistancesFromLeader.2.2.2⟩, wd_5_233, wd_5_234⟩
theorem lk_L_321 : eLkS RL 321 mL_mixedShare 2 := ⟨⟨wd_5_236, ca_L_mixedShare.1, ca_L_mixedShare.2.1, ca_L_mixedShare.2.2.1, ca_L_mixedShare.2.2.2⟩, wd_5_237⟩
theorem lk_L_134 : eLkV RL 134 mX6_mixedShare 0 := ⟨⟨wd_5_239, ca_X6_mixedShare.1, ca_X6_mixedShare.2.1, ca_X6_mixedShare.2.2.1, ca_X6_mixedShare.2.2.2⟩, wd_6_0, wd_6_1⟩
theorem lk_X6_314 : eLkV RX6 314 mX2_linkedPairs 0 := ⟨⟨wd_6_3, ca_X2_linkedPairs.1, ca_X2_linkedPairs.2.1, ca_X2_linkedPairs.2.2.1, ca_X2_linkedPairs.2.2.2⟩, wd_2_111, wd_2_112⟩
theorem lk_L_329 : eLkS RL 329 mL_undo 2 := ⟨⟨wd_6_5, ca_L_undo.1, ca_L_undo.2.1, ca_L_undo.2.2.1, ca_L_undo.2.2.2⟩, wd_6_6⟩
theorem lk_L_138 : eLkV RL 138 mX6_undo 0 := ⟨⟨wd_6_8, ca_X6_undo.1, ca_X6_undo.2.1, ca_X6_undo.2.2.1, ca_X6_undo.2.2.2⟩, wd_6_9, wd_6_10⟩
theorem lk_X6_328 : eLkV RX6 328 mX4_pop 1 := ⟨⟨wd_6_13, ca_X4_pop.1, ca_X4_pop.2.1, ca_X4_pop.2.2.1, ca_X4_pop.2.2.2⟩, wd_6_14, wd_6_15⟩
theorem lk_L_336 : eLkS RL 336 mL_restore 2 := ⟨⟨wd_6_17, ca_L_restore.1, ca_L_restore.2.1, ca_L_restore.2.2.1, ca_L_restore.2.2.2⟩, wd_6_18⟩
theorem lk_L_141 : eLkV RL 141 mX6_restore 0 := ⟨⟨wd_6_20, ca_X6_restore.1, ca_X6_restore.2.1, ca_X6_restore.2.2.1, ca_X6_restore.2.2.2⟩, wd_6_21, wd_6_22⟩
theorem lk_X6_333 : eLkV RX6 333 mX4_forget 0 := ⟨⟨wd_6_25, ca_X4_forget.1, ca_X4_forget.2.1, ca_X4_forget.2.2.1, ca_X4_forget.2.2.2⟩, wd_6_26, wd_6_27⟩
theorem li_L_147 : eLkI RL 147 mX7_init 0 := ⟨⟨wd_6_31, ca_X7_init.1, ca_X7_init.2.1, ca_X7_init.2.2.1, ca_X7_init.2.2.2⟩, wd_6_32, rfl⟩
theorem lk_L_154 : eLkV RL 154 mX7_thrown 0 := ⟨⟨wd_6_90, ca_X7_thrown.1, ca_X7_thrown.2.1, ca_X7_thrown.2.2.1, ca_X7_thrown.2.2.2⟩, wd_6_91, wd_6_92⟩
theorem lk_L_190 : eLkV RL 190 mX7_refusalReason 0 := ⟨⟨wd_6_94, ca_X7_refusalReason.1, ca_X7_refusalReason.2.1, ca_X7_refusalReason.2.2.1, ca_X7_refusalReason.2.2.2⟩, wd_6_95, wd_6_96⟩
theorem lk_X7_78 : eLkV RX7 78 mX7_isFine 1 := ⟨⟨wd_6_98, ca_X7_isFine.1, ca_X7_isFine.2.1, ca_X7_isFine.2.2.1, ca_X7_isFine.2.2.2⟩, wd_6_100, ws_X7_isFine⟩
theorem lk_L_193 : eLkV RL 193 mX7_refusalDetail 0 := ⟨⟨wd_6_102, ca_X7_refusalDetail.1, ca_X7_refusalDetail.2.1, ca_X7_refusalDetail.2.2.1, ca_X7_refusalDetail.2.2.2⟩, wd_6_103, wd_6_104⟩
theorem lk_L_153 : eLkV RL 153 mX7_addBasket 3 := ⟨⟨wd_6_106, ca_X7_addBasket.1, ca_X7_addBasket.2.1, ca_X7_addBasket.2.2.1, ca_X7_addBasket.2.2.2⟩, wd_6_107, wd_6_108⟩
theorem lk_X7_118 : eLkV RX7 118 mX7_begins 0 := ⟨⟨wd_6_110, ca_X7_begins.1, ca_X7_begins.2.1, ca_X7_begins.2.2.1, ca_X7_begins.2.2.2⟩, wd_6_112, ws_X7_begins⟩
theorem lk_X7_36 : eLkV RX7 36 mX7_copies 2 := ⟨⟨wd_6_114, ca_X7_copies.1, ca_X7_copies.2.1, ca_X7_copies.2.2.1, ca_X7_copies.2.2.2⟩, wd_6_116, ws_X7_copies⟩
theorem lk_X7_121 : eLkV RX7 121 mX7_adds 3 := ⟨⟨wd_6_118, ca_X7_adds.1, ca_X7_adds.2.1, ca_X7_adds.2.2.1, ca_X7_adds.2.2.2⟩, wd_6_120, ws_X7_adds⟩
theorem lk_X7_62 : eLkS RX7 62 mX7_isCell 2 := ⟨⟨wd_6_122, ca_X7_isCell.1, ca_X7_isCell.2.1, ca_X7_isCell.2.2.1, ca_X7_isCell.2.2.2⟩, wd_6_123⟩
theorem lk_X7_46 : eLkS RX7 46 mX7_in 3 := ⟨⟨wd_6_125, ca_X7_in.1, ca_X7_in.2.1, ca_X7_in.2.2.1, ca_X7_in.2.2.2⟩, wd_6_126⟩
theorem lk_X7_115 : eLkV RX7 115 mX7_refuses 3 := ⟨⟨wd_6_128, ca_X7_refuses.1, ca_X7_refuses.2.1, ca_X7_refuses.2.2.1, ca_X7_refuses.2.2.2⟩, wd_6_130, ws_X7_refuses⟩
theorem lk_X7_66 : eLkV RX7 66 mX7_cloud 2 := ⟨⟨wd_6_132, ca_X7_cloud.1, ca_X7_cloud.2.1, ca_X7_cloud.2.2.1, ca_X7_cloud.2.2.2⟩, wd_6_134, ws_X7_cloud⟩
theorem lk_X7_69 : eLkV RX7 69 mX7_touched 3 := ⟨⟨wd_6_136, ca_X7_touched.1, ca_X7_touched.2.1, ca_X7_touched.2.2.1, ca_X7_touched.2.2.2⟩, wd_6_138, ws_X7_touched⟩
theorem lk_X7_58 : eLkV RX7 58 mX7_far 3 := ⟨⟨wd_6_140, ca_X7_far.1, ca_X7_far.2.1, ca_X7_far.2.2.1, ca_X7_far.2.2.2⟩, wd_6_142, ws_X7_far⟩
theorem lk_X7_50 : eLkV RX7 50 mX7_b 2 := ⟨⟨wd_6_144, ca_X7_b.1, ca_X7_b.2.1, ca_X7_b.2.2.1, ca_X7_b.2.2.2⟩, wd_6_146, ws_X7_b⟩
theorem lk_X7_54 : eLkS RX7 54 mX7_size 1 := ⟨⟨wd_6_148, ca_X7_size.1, ca_X7_size.2.1, ca_X7_size.2.2.1, ca_X7_size.2.2.2⟩, wd_6_149⟩
theorem lk_X7_85 : eLkV RX7 85 mX7_set 3 := ⟨⟨wd_6_151, ca_X7_set.1, ca_X7_set.2.1, ca_X7_set.2.2.1, ca_X7_set.2.2.2⟩, wd_6_153, ws_X7_set⟩
theorem lk_X7_124 : eLkV RX7 124 mX7_ends 6 := ⟨⟨wd_6_155, ca_X7_ends.1, ca_X7_ends.2.1, ca_X7_ends.2.2.1, ca_X7_ends.2.2.2⟩, wd_6_157, ws_X7_ends⟩
theorem lk_L_159 : eLkV RL 159 mX7_jump 3 := ⟨⟨wd_6_159, ca_X7_jump.1, ca_X7_jump.2.1, ca_X7_jump.2.2.1, ca_X7_jump.2.2.2⟩, wd_6_160, wd_6_161⟩
theorem lk_X7_132 : eLkV RX7 132 mX7_jumps 3 := ⟨⟨wd_6_163, ca_X7_jumps.1, ca_X7_jumps.2.1, ca_X7_jumps.2.2.1, ca_X7_jumps.2.2.2⟩, wd_6_165, ws_X7_jumps⟩
theorem lk_X7_128 : eLkV RX7 128 mX7_isBasket 1 := ⟨⟨wd_6_167, ca_X7_isBasket.1, ca_X7_isBasket.2.1, ca_X7_isBasket.2.2.1, ca_X7_isBasket.2.2.2⟩, wd_6_169, ws_X7_isBasket⟩
theorem lk_L_163 : eLkV RL 163 mX7_setHandle 2 := ⟨⟨wd_6_171, ca_X7_setHandle.1, ca_X7_setHandle.2.1, ca_X7_setHandle.2.2.1, ca_X7_setHandle.2.2.2⟩, wd_6_172, wd_6_173⟩
theorem lk_X7_135 : eLkV RX7 135 mX7_handles 2 := ⟨⟨wd_6_175, ca_X7_handles.1, ca_X7_handles.2.1, ca_X7_handles.2.2.1, ca_X7_handles.2.2.2⟩, wd_6_177, ws_X7_handles⟩
theorem lk_L_196 : eLkV RL 196 mX7_addCloud 2 := ⟨⟨wd_6_179, ca_X7_addCloud.1, ca_X7_addCloud.2.1, ca_X7_addCloud.2.2.1, ca_X7_addCloud.2.2.2⟩, wd_6_180, wd_6_181⟩
theorem lk_X7_141 : eLkV RX7 141 mX7_clouds 2 := ⟨⟨wd_6_183, ca_X7_clouds.1, ca_X7_clouds.2.1, ca_X7_clouds.2.2.1, ca_X7_clouds.2.2.2⟩, wd_6_185, ws_X7_clouds⟩
theorem lk_X7_138 : eLkV RX7 138 mX7_at 2 := ⟨⟨wd_6_187, ca_X7_at.1, ca_X7_at.2.1, ca_X7_at.2.2.1, ca_X7_at.2.2.2⟩, wd_6_189, ws_X7_at⟩
theorem lk_L_199 : eLkV RL 199 mX7_removeCloud 2 := ⟨⟨wd_6_191, ca_X7_removeCloud.1, ca_X7_removeCloud.2.1, ca_X7_removeCloud.2.2.1, ca_X7_removeCloud.2.2.2⟩, wd_6_192, wd_6_193⟩
theorem lk_X7_144 : eLkV RX7 144 mX7_clears 2 := ⟨⟨wd_6_195, ca_X7_clears.1, ca_X7_clears.2.1, ca_X7_clears.2.2.1, ca_X7_clears.2.2.2⟩, wd_6_197, ws_X7_clears⟩
theorem lk_L_209 : eLkV RL 209 mX7_setTurnLength 1 := ⟨⟨wd_6_199, ca_X7_setTurnLength.1, ca_X7_setTurnLength.2.1, ca_X7_setTurnLength.2.2.1, ca_X7_setTurnLength.2.2.2⟩, wd_6_200, wd_6_201⟩
theorem lk_X7_147 : eLkV RX7 147 mX7_turns 1 := ⟨⟨wd_6_203, ca_X7_turns.1, ca_X7_turns.2.1, ca_X7_turns.2.2.1, ca_X7_turns.2.2.2⟩, wd_6_205, ws_X7_turns⟩
theorem lk_L_225 : eLkV RL 225 mX7_setTarget 2 := ⟨⟨wd_6_207, ca_X7_setTarget.1, ca_X7_setTarget.2.1, ca_X7_setTarget.2.2.1, ca_X7_setTarget.2.2.2⟩, wd_6_208, wd_6_209⟩
theorem lk_X7_150 : eLkV RX7 150 mX7_aims 2 := ⟨⟨wd_6_211, ca_X7_aims.1, ca_X7_aims.2.1, ca_X7_aims.2.2.1, ca_X7_aims.2.2.2⟩, wd_6_213, ws_X7_aims⟩
theorem lk_L_237 : eLkV RL 237 mX7_setKeep 1 := ⟨⟨wd_6_215, ca_X7_setKeep.1, ca_X7_setKeep.2.1, ca_X7_setKeep.2.2.1, ca_X7_setKeep.2.2.2⟩, wd_6_216, wd_6_217⟩
theorem lk_X7_153 : eLkV RX7 153 mX7_keeps 1 := ⟨⟨wd_6_219, ca_X7_keeps.1, ca_X7_keeps.2.1, ca_X7_keeps.2.2.1, ca_X7_keeps.2.2.2⟩, wd_6_221, ws_X7_keeps⟩
theorem lk_L_244 : eLkV RL 244 mX7_advance 1 := ⟨⟨wd_6_223, ca_X7_advance.1, ca_X7_advance.2.1, ca_X7_advance.2.2.1, ca_X7_advance.2.2.2⟩, wd_6_224, wd_6_225⟩
theorem lk_X7_159 : eLkV RX7 159 mX7_passes 1 := ⟨⟨wd_6_227, ca_X7_passes.1, ca_X7_passes.2.1, ca_X7_passes.2.2.1, ca_X7_passes.2.2.2⟩, wd_6_229, ws_X7_passes⟩
theorem lk_X7_156 : eLkV RX7 156 mX7_steps 0 := ⟨⟨wd_6_231, ca_X7_steps.1, ca_X7_steps.2.1, ca_X7_steps.2.2.1, ca_X7_steps.2.2.2⟩, wd_6_233, ws_X7_steps⟩
theorem lk_X7_105 : eLkV RX7 105 mX7_leads 0 := ⟨⟨wd_6_235, ca_X7_leads.1, ca_X7_leads.2.1, ca_X7_leads.2.2.1, ca_X7_leads.2.2.2⟩, wd_6_237, ws_X7_leads⟩
theorem lk_X7_89 : eLkS RX7 89 mX7_toward 1 := ⟨⟨wd_6_239, ca_X7_toward.1, ca_X7_toward.2.1, ca_X7_toward.2.2.1, ca_X7_toward.2.2.2⟩, wd_7_0⟩
theorem lk_X7_92 : eLkV RX7 92 mX7_goes 3 := ⟨⟨wd_7_2, ca_X7_goes.1, ca_X7_goes.2.1, ca_X7_goes.2.2.1, ca_X7_goes.2.2.2⟩, wd_7_4, ws_X7_goes⟩
theorem lk_X7_82 : eLkV RX7 82 mX7_isPossible 3 := ⟨⟨wd_7_6, ca_X7_isPossible.1, ca_X7_isPossible.2.1, ca_X7_isPossible.2.2.1, ca_X7_isPossible.2.2.2⟩, wd_7_8, ws_X7_isPossible⟩
theorem lk_X7_95 : eLkV RX7 95 mX7_counted 1 := ⟨⟨wd_7_10, ca_X7_counted.1, ca_X7_counted.2.1, ca_X7_counted.2.2.1, ca_X7_counted.2.2.2⟩, wd_7_12, ws_X7_counted⟩
theorem lk_X7_109 : eLkV RX7 109 mX7_follows 1 := ⟨⟨wd_7_14, ca_X7_follows.1, ca_X7_follows.2.1, ca_X7_follows.2.2.1, ca_X7_follows.2.2.2⟩, wd_7_16, ws_X7_follows⟩
theorem lk_X7_99 : eLkV RX7 99 mX7_apart 2 := ⟨⟨wd_7_18, ca_X7_apart.1, ca_X7_apart.2.1, ca_X7_apart.2.2.1, ca_X7_apart.2.2.2⟩, wd_7_20, ws_X7_apart⟩
theorem lk_X7_112 : eLkV RX7 112 mX7_remembers 0 := ⟨⟨wd_7_22, ca_X7_remembers.1, ca_X7_remembers.2.1, ca_X7_remembers.2.2.1, ca_X7_remembers.2.2.2⟩, wd_7_24, ws_X7_remembers⟩
theorem lk_X7_102 : eLkV RX7 102 mX7_shapes 0 := ⟨⟨wd_7_26, ca_X7_shapes.1, ca_X7_shapes.2.1, ca_X7_shapes.2.2.1, ca_X7_shapes.2.2.2⟩, wd_7_28, ws_X7_shapes⟩
theorem lk_L_167 : eLkV RL 167 mX7_basketCount 0 := ⟨⟨wd_7_30, ca_X7_basketCount.1, ca_X7_basketCount.2.1, ca_X7_basketCount.2.2.1, ca_X7_basketCount.2.2.2⟩, wd_7_31, wd_7_32⟩
theorem lk_X7_162 : eLkV RX7 162 mX7_told 1 := ⟨⟨wd_7_34, ca_X7_told.1, ca_X7_told.2.1, ca_X7_told.2.2.1, ca_X7_told.2.2.2⟩, wd_7_36, ws_X7_told⟩
theorem lk_L_171 : eLkV RL 171 mX7_xOf 1 := ⟨⟨wd_7_38, ca_X7_xOf.1, ca_X7_xOf.2.1, ca_X7_xOf.2.2.1, ca_X7_xOf.2.2.2⟩, wd_7_39, wd_7_40⟩
theorem lk_X7_165 : eLkV RX7 165 mX7_ofBasket 2 := ⟨⟨wd_7_42, ca_X7_ofBasket.1, ca_X7_ofBasket.2.1, ca_X7_ofBasket.2.2.1, ca_X7_ofBasket.2.2.2⟩, wd_7_44, ws_X7_ofBasket⟩
theorem lk_L_174 : eLkV RL 174 mX7_yOf 1 := ⟨⟨wd_7_46, ca_X7_yOf.1, ca_X7_yOf.2.1, ca_X7_yOf.2.2.1, ca_X7_yOf.2.2.2⟩, wd_7_47, wd_7_48⟩
theorem lk_L_177 : eLkV RL 177 mX7_handleOf 1 := ⟨⟨wd_7_50, ca_X7_handleOf.1, ca_X7_handleOf.2.1, ca_X7_handleOf.2.2.1, ca_X7_handleOf.2.2.2⟩, wd_7_51, wd_7_52⟩
theorem lk_L_180 : eLkV RL 180 mX7_basketAt 2 := ⟨⟨wd_7_54, ca_X7_basketAt.1, ca_X7_basketAt.2.1, ca_X7_basketAt.2.2.1, ca_X7_basketAt.2.2.2⟩, wd_7_55, wd_7_56⟩
theorem lk_L_183 : eLkV RL 183 mX7_distance 2 := ⟨⟨wd_7_58, ca_X7_distance.1, ca_X7_distance.2.1, ca_X7_distance.2.2.1, ca_X7_distance.2.2.2⟩, wd_7_59, wd_7_60⟩
theorem lk_L_186 : eLkV RL 186 mX7_nearestTo 1 := ⟨⟨wd_7_62, ca_X7_nearestTo.1, ca_X7_nearestTo.2.1, ca_X7_nearestTo.2.2.1, ca_X7_nearestTo.2.2.2⟩, wd_7_63, wd_7_64⟩
theorem lk_L_202 : eLkV RL 202 mX7_isCloud 2 := ⟨⟨wd_7_66, ca_X7_isCloud.1, ca_X7_isCloud.2.1, ca_X7_isCloud.2.2.1, ca_X7_isCloud.2.2.2⟩, wd_7_67, wd_7_68⟩
theorem lk_L_206 : eLkV RL 206 mX7_cloudCount 0 := ⟨⟨wd_7_70, ca_X7_cloudCount.1, ca_X7_cloudCount.2.1, ca_X7_cloudCount.2.2.1, ca_X7_cloudCount.2.2.2⟩, wd_7_71, wd_7_72⟩
theorem lk_L_213 : eLkV RL 213 mX7_turnLength 0 := ⟨⟨wd_7_74, ca_X7_turnLength.1, ca_X7_turnLength.2.1, ca_X7_turnLength.2.2.1, ca_X7_turnLength.2.2.2⟩, wd_7_75, wd_7_76⟩
theorem lk_L_216 : eLkV RL 216 mX7_leader 0 := ⟨⟨wd_7_78, ca_X7_leader.1, ca_X7_leader.2.1, ca_X7_leader.2.2.1, ca_X7_leader.2.2.2⟩, wd_7_79, wd_7_80⟩
theorem lk_L_219 : eLkV RL 219 mX7_leaderAfter 1 := ⟨⟨wd_7_82, ca_X7_leaderAfter.1, ca_X7_leaderAfter.2.1, ca_X7_leaderAfter.2.2.1, ca_X7_leaderAfter.2.2.2⟩, wd_7_83, wd_7_84⟩
theorem lk_L_222 : eLkV RL 222 mX7_leaderAfterByCounting 1 := ⟨⟨wd_7_86, ca_X7_leaderAfterByCounting.1, ca_X7_leaderAfterByCounting.2.1, ca_X7_leaderAfterByCounting.2.2.1, ca_X7_leaderAfterByCounting.2.2.2⟩, wd_7_87, wd_7_88⟩
theorem lk_X7_168 : eLkV RX7 168 mX7_leaderAfter 1 := ⟨⟨wd_7_90, ca_X7_leaderAfter.1, ca_X7_leaderAfter.2.1, ca_X7_leaderAfter.2.2.1, ca_X7_leaderAfter.2.2.2⟩, wd_7_83, wd_7_84⟩
theorem lk_L_228 : eLkV RL 228 mX7_targetX 0 := ⟨⟨wd_7_91, ca_X7_targetX.1, ca_X7_targetX.2.1, ca_X7_targetX.2.2.1, ca_X7_targetX.2.2.2⟩, wd_7_92, wd_7_93⟩
theorem lk_L_231 : eLkV RL 231 mX7_targetY 0 := ⟨⟨wd_7_95, ca_X7_targetY.1, ca_X7_targetY.2.1, ca_X7_targetY.2.2.1, ca_X7_targetY.2.2.2⟩, wd_7_96, wd_7_97⟩
theorem lk_L_234 : eLkV RL 234 mX7_stepsToTarget 0 := ⟨⟨wd_7_99, ca_X7_stepsToTarget.1, ca_X7_stepsToTarget.2.1, ca_X7_stepsToTarget.2.2.1, ca_X7_stepsToTarget.2.2.2⟩, wd_7_100, wd_7_101⟩
theorem lk_X7_171 : eLkV RX7 171 mX7_isThere 0 := ⟨⟨wd_7_103, ca_X7_isThere.1, ca_X7_isThere.2.1, ca_X7_isThere.2.2.1, ca_X7_isThere.2.2.2⟩, wd_7_105, ws_X7_isThere⟩
theorem lk_L_241 : eLkV RL 241 mX7_keep 0 := ⟨⟨wd_7_107, ca_X7_keep.1, ca_X7_keep.2.1, ca_X7_keep.2.2.1, ca_X7_keep.2.2.2⟩, wd_7_108, wd_7_109⟩
theorem lk_L_248 : eLkV RL 248 mX7_stepCount 0 := ⟨⟨wd_7_111, ca_X7_stepCount.1, ca_X7_stepCount.2.1, ca_X7_stepCount.2.2.1, ca_X7_stepCount.2.2.2⟩, wd_7_112, wd_7_113⟩
theorem lk_L_251 : eLkV RL 251 mX7_movesOf 1 := ⟨⟨wd_7_115, ca_X7_movesOf.1, ca_X7_movesOf.2.1, ca_X7_movesOf.2.2.1, ca_X7_movesOf.2.2.2⟩, wd_7_116, wd_7_117⟩
theorem lk_L_256 : eLkV RL 256 mX7_moveTotal 0 := ⟨⟨wd_7_119, ca_X7_moveTotal.1, ca_X7_moveTotal.2.1, ca_X7_moveTotal.2.2.1, ca_X7_moveTotal.2.2.2⟩, wd_7_120, wd_7_121⟩
theorem lk_L_260 : eLkV RL 260 mX7_waitTotal 0 := ⟨⟨wd_7_123, ca_X7_waitTotal.1, ca_X7_waitTotal.2.1, ca_X7_waitTotal.2.2.1, ca_X7_waitTotal.2.2.2⟩, wd_7_124, wd_7_125⟩
theorem lk_L_264 : eLkV RL 264 mX7_formationCount 0 := ⟨⟨wd_7_127, ca_X7_formationCount.1, ca_X7_formationCount.2.1, ca_X7_formationCount.2.2.1, ca_X7_formationCount.2.2.2⟩, wd_7_128, wd_7_129⟩
theorem lk_X7_178 : eLkV RX7 178 mX7_formation 1 := ⟨⟨wd_7_131, ca_X7_formation.1, ca_X7_formation.2.1, ca_X7_formation.2.2.1, ca_X7_formation.2.2.2⟩, wd_7_133, ws_X7_formation⟩
theorem lk_X7_175 : eLkV RX7 175 mX7_areLinked 2 := ⟨⟨wd_7_135, ca_X7_areLinked.1, ca_X7_areLinked.2.1, ca_X7_areLinked.2.2.1, ca_X7_areLinked.2.2.2⟩, wd_7_137, ws_X7_areLinked⟩
theorem lk_X7_181 : eLkS RX7 181 mX7_lowest 1 := ⟨⟨wd_7_139, ca_X7_lowest.1, ca_X7_lowest.2.1, ca_X7_lowest.2.2.1, ca_X7_lowest.2.2.2⟩, wd_7_140⟩
theorem lk_L_268 : eLkV RL 268 mX7_formationCountByMerging 0 := ⟨⟨wd_7_142, ca_X7_formationCountByMerging.1, ca_X7_formationCountByMerging.2.1, ca_X7_formationCountByMerging.2.2.1, ca_X7_formationCountByMerging.2.2.2⟩, wd_7_143, wd_7_144⟩
theorem lk_X7_184 : eLkV RX7 184 mX7_formationCount 0 := ⟨⟨wd_7_146, ca_X7_formationCount.1, ca_X7_formationCount.2.1, ca_X7_formationCount.2.2.1, ca_X7_formationCount.2.2.2⟩, wd_7_128, wd_7_129⟩
theorem lk_L_272 : eLkV RL 272 mX7_largestFormation 0 := ⟨⟨wd_7_147, ca_X7_largestFormation.1, ca_X7_largestFormation.2.1, ca_X7_largestFormation.2.2.1, ca_X7_largestFormation.2.2.2⟩, wd_7_148, wd_7_149⟩
theorem lk_L_275 : eLkV RL 275 mX7_formationOf 1 := ⟨⟨wd_7_151, ca_X7_formationOf.1, ca_X7_formationOf.2.1, ca_X7_formationOf.2.2.1, ca_X7_formationOf.2.2.2⟩, wd_7_152, wd_7_153⟩
theorem lk_L_279 : eLkV RL 279 mX7_mixedPairs 0 := ⟨⟨wd_7_155, ca_X7_mixedPairs.1, ca_X7_mixedPairs.2.1, ca_X7_mixedPairs.2.2.1, ca_X7_mixedPairs.2.2.2⟩, wd_7_156, wd_7_157⟩
theorem lk_X7_187 : eLkV RX7 187 mX7_pairs 1 := ⟨⟨wd_7_159, ca_X7_pairs.1, ca_X7_pairs.2.1, ca_X7_pairs.2.2.1, ca_X7_pairs.2.2.2⟩, wd_7_161, ws_X7_pairs⟩
theorem lk_L_283 : eLkV RL 283 mX7_mixedPairsByHandles 0 := ⟨⟨wd_7_163, ca_X7_mixedPairsByHandles.1, ca_X7_mixedPairsByHandles.2.1, ca_X7_mixedPairsByHandles.2.2.1, ca_X7_mixedPairsByHandles.2.2.2⟩, wd_7_164, wd_7_165⟩
theorem lk_X7_190 : eLkV RX7 190 mX7_mixedPairs 0 := ⟨⟨wd_7_167, ca_X7_mixedPairs.1, ca_X7_mixedPairs.2.1, ca_X7_mixedPairs.2.2.1, ca_X7_mixedPairs.2.2.2⟩, wd_7_156, wd_7_157⟩
theorem lk_L_287 : eLkV RL 287 mX7_shapeCount 0 := ⟨⟨wd_7_168, ca_X7_shapeCount.1, ca_X7_shapeCount.2.1, ca_X7_shapeCount.2.2.1, ca_X7_shapeCount.2.2.2⟩, wd_7_169, wd_7_170⟩
theorem lk_L_291 : eLkV RL 291 mX7_differentShapes 0 := ⟨⟨wd_7_172, ca_X7_differentShapes.1, ca_X7_differentShapes.2.1, ca_X7_differentShapes.2.2.1, ca_X7_differentShapes.2.2.2⟩, wd_7_173, wd_7_174⟩
theorem lk_X7_193 : eLkV RX7 193 mX7_areAlike 2 := ⟨⟨wd_7_176, ca_X7_areAlike.1, ca_X7_areAlike.2.1, ca_X7_areAlike.2.2.1, ca_X7_areAlike.2.2.2⟩, wd_7_178, ws_X7_areAlike⟩
theorem lk_L_294 : eLkV RL 294 mX7_stepsSinceShape 0 := ⟨⟨wd_7_180, ca_X7_stepsSinceShape.1, ca_X7_stepsSinceShape.2.1, ca_X7_stepsSinceShape.2.2.1, ca_X7_stepsSinceShape.2.2.2⟩, wd_7_181, wd_7_182⟩
theorem lk_X7_196 : eLkV RX7 196 mX7_isShape 1 := ⟨⟨wd_7_184, ca_X7_isShape.1, ca_X7_isShape.2.1, ca_X7_isShape.2.2.1, ca_X7_isShape.2.2.2⟩, wd_7_186, ws_X7_isShape⟩
theorem lk_L_297 : eLkV RL 297 mX7_basketAtRank 1 := ⟨⟨wd_7_188, ca_X7_basketAtRank.1, ca_X7_basketAtRank.2.1, ca_X7_basketAtRank.2.2.1, ca_X7_basketAtRank.2.2.2⟩, wd_7_189, wd_7_190⟩
theorem lk_L_301 : eLkV RL 301 mX7_append 1 := ⟨⟨wd_7_192, ca_X7_append.1, ca_X7_append.2.1, ca_X7_append.2.2.1, ca_X7_append.2.2.2⟩, wd_7_193, wd_7_194⟩
theorem lk_L_304 : eLkV RL 304 mX7_run 0 := ⟨⟨wd_7_196, ca_X7_run.1, ca_X7_run.2.1, ca_X7_run.2.2.1, ca_X7_run.2.2.2⟩, wd_7_197, wd_7_198⟩
theorem lk_X7_236 : eLkV RX7 236 mX7_parse 0 := ⟨⟨wd_7_200, ca_X7_parse.1, ca_X7_parse.2.1, ca_X7_parse.2.2.1, ca_X7_parse.2.2.2⟩, wd_7_202, ws_X7_parse⟩
theorem lk_X7_233 : eLkV RX7 233 mX7_command 0 := ⟨⟨wd_7_204, ca_X7_command.1, ca_X7_command.2.1, ca_X7_command.2.2.1, ca_X7_command.2.2.2⟩, wd_7_206, ws_X7_command⟩
theorem lk_X7_208 : eLkV RX7 208 mX7_sign 0 := ⟨⟨wd_7_208, ca_X7_sign.1, ca_X7_sign.2.1, ca_X7_sign.2.2.1, ca_X7_sign.2.2.2⟩, wd_7_210, ws_X7_sign⟩
theorem lk_X7_227 : eLkV RX7 227 mX7_word 1 := ⟨⟨wd_7_212, ca_X7_word.1, ca_X7_word.2.1, ca_X7_word.2.2.1, ca_X7_word.2.2.2⟩, wd_7_214, ws_X7_word⟩
theorem lk_X7_211 : eLkV RX7 211 mX7_needs 1 := ⟨⟨wd_7_216, ca_X7_needs.1, ca_X7_needs.2.1, ca_X7_needs.2.2.1, ca_X7_needs.2.2.2⟩, wd_7_218, ws_X7_needs⟩
theorem lk_X7_218 : eLkV RX7 218 mX7_letters 3 := ⟨⟨wd_7_220, ca_X7_letters.1, ca_X7_letters.2.1, ca_X7_letters.2.2.1, ca_X7_letters.2.2.2⟩, wd_7_222, ws_X7_letters⟩
theorem lk_X7_230 : eLkV RX7 230 mX7_cell 1 := ⟨⟨wd_7_224, ca_X7_cell.1, ca_X7_cell.2.1, ca_X7_cell.2.2.1, ca_X7_cell.2.2.2⟩, wd_7_226, ws_X7_cell⟩
theorem lk_X7_221 : eLkV RX7 221 mX7_behind 2 := ⟨⟨wd_7_228, ca_X7_behind.1, ca_X7_behind.2.1, ca_X7_behind.2.2.1, ca_X7_behind.2.2.2⟩, wd_7_230, ws_X7_behind⟩
theorem lk_X7_215 : eLkV RX7 215 mX7_number 1 := ⟨⟨wd_7_232, ca_X7_number.1, ca_X7_number.2.1, ca_X7_number.2.2.1, ca_X7_number.2.2.2⟩, wd_7_234, ws_X7_number⟩
theorem lk_X7_239 : eLkV RX7 239 mX7_does 1 := ⟨⟨wd_7_236, ca_X7_does.1, ca_X7_does.2.1, ca_X7_does.2.2.1, ca_X7_does.2.2.2⟩, wd_7_238, ws_X7_does⟩
theorem lk_L_307 : eLkV RL 307 mX7_errorPosition 0 := ⟨⟨wd_8_0, ca_X7_errorPosition.1, ca_X7_errorPosition.2.1, ca_X7_errorPosition.2.2.1, ca_X7_errorPosition.2.2.2⟩, wd_8_1, wd_8_2⟩
theorem lk_L_310 : eLkV RL 310 mX7_failedCommand 0 := ⟨⟨wd_8_4, ca_X7_failedCommand.1, ca_X7_failedCommand.2.1, ca_X7_failedCommand.2.2.1, ca_X7_failedCommand.2.2.2⟩, wd_8_5, wd_8_6⟩
theorem lk_L_313 : eLkV RL 313 mX7_describeRow 1 := ⟨⟨wd_8_8, ca_X7_describeRow.1, ca_X7_describeRow.2.1, ca_X7_describeRow.2.2.1, ca_X7_describeRow.2.2.2⟩, wd_8_9, wd_8_10⟩
theorem lk_L_316 : eLkV RL 316 mX7_lineAt 1 := ⟨⟨wd_8_12, ca_X7_lineAt.1, ca_X7_lineAt.2.1, ca_X7_lineAt.2.2.1, ca_X7_lineAt.2.2.2⟩, wd_8_13, wd_8_14⟩
theorem lk_L_320 : eLkV RL 320 mX7_meanDistance 0 := ⟨⟨wd_8_16, ca_X7_meanDistance.1, ca_X7_meanDistance.2.1, ca_X7_meanDistance.2.2.1, ca_X7_meanDistance.2.2.2⟩, wd_8_17, wd_8_18⟩
theorem lk_L_323 : eLkV RL 323 mX7_mixedShare 0 := ⟨⟨wd_8_20, ca_X7_mixedShare.1, ca_X7_mixedShare.2.1, ca_X7_mixedShare.2.2.1, ca_X7_mixedShare.2.2.2⟩, wd_8_21, wd_8_22⟩
theorem lk_L_328 : eLkV RL 328 mX7_isConsistent 0 := ⟨⟨wd_8_24, ca_X7_isConsistent.1, ca_X7_isConsistent.2.1, ca_X7_isConsistent.2.2.1, ca_X7_isConsistent.2.2.2⟩, wd_8_25, wd_8_26⟩
theorem lk_L_331 : eLkV RL 331 mX7_undo 0 := ⟨⟨wd_8_28, ca_X7_undo.1, ca_X7_undo.2.1, ca_X7_undo.2.2.1, ca_X7_undo.2.2.2⟩, wd_8_29, wd_8_30⟩
theorem lk_L_335 : eLkV RL 335 mX7_save 0 := ⟨⟨wd_8_32, ca_X7_save.1, ca_X7_save.2.1, ca_X7_save.2.2.1, ca_X7_save.2.2.2⟩, wd_8_33, wd_8_34⟩
theorem lk_L_338 : eLkV RL 338 mX7_restore 0 := ⟨⟨wd_8_36, ca_X7_restore.1, ca_X7_restore.2.1, ca_X7_restore.2.2.1, ca_X7_restore.2.2.2⟩, wd_8_37, wd_8_38⟩
theorem ma_X2_175 : eMa RX2 175 Lib.Math.abs.name Lib.Math.abs.code 1 := ⟨wd_2_63, wd_2_64, wd_1_9, wd_2_65⟩
theorem ma_X3_36 : eMa RX3 36 Lib.Math.max.name Lib.Math.max.code 2 := ⟨wd_2_90, wd_2_91, wd_1_9, wd_2_92⟩
theorem cp_X2_70 : eCp RX2 70 := ⟨wd_2_182, wd_2_184, wd_2_183, wd_1_18⟩
theorem cp_X0_26 : eCp RX0 26 := ⟨wd_2_189, wd_2_184, wd_2_183, wd_1_18⟩
theorem cp_X5_22 : eCp RX5 22 := ⟨wd_2_194, wd_2_184, wd_2_183, wd_1_18⟩
theorem ma_X4_29 : eMa RX4 29 Lib.Math.min.name Lib.Math.min.code 2 := ⟨wd_3_155, wd_3_156, wd_1_9, wd_3_157⟩
theorem ma_X2_212 : eMa RX2 212 Lib.Math.min.name Lib.Math.min.code 2 := ⟨wd_4_192, wd_3_156, wd_1_9, wd_3_157⟩
theorem ma_X5_28 : eMa RX5 28 Lib.Math.min.name Lib.Math.min.code 2 := ⟨wd_4_197, wd_3_156, wd_1_9, wd_3_157⟩
theorem ma_X1_68 : eMa RX1 68 Lib.Math.max.name Lib.Math.max.code 2 := ⟨wd_5_145, wd_2_91, wd_1_9, wd_2_92⟩
theorem oi_1 : Cond.instanceMethod Lib.objectInit ∈ eTB := wd_1_31
theorem oi_2 : Cond.code Lib.objectInit ⟨#[0xb1]⟩ 1 none ∈ eTB := wd_1_32
