/-! ===== instructions, one after another ===== -/
theorem dX2_init_0 : decode cX2_init 0 = .ok (.aload_n 0, 1) := by decide +kernel
theorem dX2_init_1 : decode cX2_init 1 = .ok (.invokespecial 3, 3) := by decide +kernel
theorem dX2_init_4 : decode cX2_init 4 = .ok (.aload_n 0, 1) := by decide +kernel
theorem dX2_init_5 : decode cX2_init 5 = .ok (.bipush 10, 2) := by decide +kernel
theorem dX2_init_7 : decode cX2_init 7 = .ok (.newarray .int, 2) := by decide +kernel
theorem dX2_init_9 : decode cX2_init 9 = .ok (.putfield 9, 3) := by decide +kernel
theorem dX2_init_12 : decode cX2_init 12 = .ok (.aload_n 0, 1) := by decide +kernel
theorem dX2_init_13 : decode cX2_init 13 = .ok (.bipush 10, 2) := by decide +kernel
theorem dX2_init_15 : decode cX2_init 15 = .ok (.newarray .int, 2) := by decide +kernel
theorem dX2_init_17 : decode cX2_init 17 = .ok (.putfield 15, 3) := by decide +kernel
theorem dX2_init_20 : decode cX2_init 20 = .ok (.aload_n 0, 1) := by decide +kernel
theorem dX2_init_21 : decode cX2_init 21 = .ok (.bipush 10, 2) := by decide +kernel
theorem dX2_init_23 : decode cX2_init 23 = .ok (.newarray .int, 2) := by decide +kernel
theorem dX2_init_25 : decode cX2_init 25 = .ok (.putfield 18, 3) := by decide +kernel
theorem dX2_init_28 : decode cX2_init 28 = .ok (.aload_n 0, 1) := by decide +kernel
theorem dX2_init_29 : decode cX2_init 29 = .ok (.bipush 10, 2) := by decide +kernel
theorem dX2_init_31 : decode cX2_init 31 = .ok (.newarray .int, 2) := by decide +kernel
theorem dX2_init_33 : decode cX2_init 33 = .ok (.putfield 21, 3) := by decide +kernel
theorem dX2_init_36 : decode cX2_init 36 = .ok (.aload_n 0, 1) := by decide +kernel
theorem dX2_init_37 : decode cX2_init 37 = .ok (.iconst 0, 1) := by decide +kernel
theorem dX2_init_38 : decode cX2_init 38 = .ok (.putfield 24, 3) := by decide +kernel
theorem dX2_init_41 : decode cX2_init 41 = .ok (.aload_n 0, 1) := by decide +kernel
theorem dX2_init_42 : decode cX2_init 42 = .ok (.new 28, 3) := by decide +kernel
theorem dX2_init_45 : decode cX2_init 45 = .ok (.dup, 1) := by decide +kernel
theorem dX2_init_46 : decode cX2_init 46 = .ok (.invokespecial 30, 3) := by decide +kernel
theorem dX2_init_49 : decode cX2_init 49 = .ok (.putfield 31, 3) := by decide +kernel
theorem dX2_init_52 : decode cX2_init 52 = .ok (.aload_n 0, 1) := by decide +kernel
theorem dX2_init_53 : decode cX2_init 53 = .ok (.new 35, 3) := by decide +kernel
theorem dX2_init_56 : decode cX2_init 56 = .ok (.dup, 1) := by decide +kernel
theorem dX2_init_57 : decode cX2_init 57 = .ok (.invokespecial 37, 3) := by decide +kernel
theorem dX2_init_60 : decode cX2_init 60 = .ok (.putfield 38, 3) := by decide +kernel
theorem dX2_init_63 : decode cX2_init 63 = .ok (.aload_n 0, 1) := by decide +kernel
theorem dX2_init_64 : decode cX2_init 64 = .ok (.iconst 3, 1) := by decide +kernel
theorem dX2_init_65 : decode cX2_init 65 = .ok (.newarray .long, 2) := by decide +kernel
theorem dX2_init_67 : decode cX2_init 67 = .ok (.putfield 42, 3) := by decide +kernel
theorem dX2_init_70 : decode cX2_init 70 = .ok (.aload_n 0, 1) := by decide +kernel
theorem dX2_init_71 : decode cX2_init 71 = .ok (.iconst 0, 1) := by decide +kernel
theorem dX2_init_72 : decode cX2_init 72 = .ok (.putfield 46, 3) := by decide +kernel
theorem dX2_init_75 : decode cX2_init 75 = .ok (.aload_n 0, 1) := by decide +kernel
theorem dX2_init_76 : decode cX2_init 76 = .ok (.iconst 0, 1) := by decide +kernel
theorem dX2_init_77 : decode cX2_init 77 = .ok (.putfield 49, 3) := by decide +kernel
theorem dX2_init_80 : decode cX2_init 80 = .ok (.aload_n 0, 1) := by decide +kernel
theorem dX2_init_81 : decode cX2_init 81 = .ok (.iconst 4, 1) := by decide +kernel
theorem dX2_init_82 : decode cX2_init 82 = .ok (.putfield 52, 3) := by decide +kernel
theorem dX2_init_85 : decode cX2_init 85 = .ok (.aload_n 0, 1) := by decide +kernel
theorem dX2_init_86 : decode cX2_init 86 = .ok (.iconst (-1), 1) := by decide +kernel
theorem dX2_init_87 : decode cX2_init 87 = .ok (.putfield 55, 3) := by decide +kernel
theorem dX2_init_90 : decode cX2_init 90 = .ok (.aload_n 0, 1) := by decide +kernel
theorem dX2_init_91 : decode cX2_init 91 = .ok (.iconst (-1), 1) := by decide +kernel
theorem dX2_init_92 : decode cX2_init 92 = .ok (.putfield 58, 3) := by decide +kernel
theorem dX2_init_95 : decode cX2_init 95 = .ok (.aload_n 0, 1) := by decide +kernel
theorem dX2_init_96 : decode cX2_init 96 = .ok (.iconst 3, 1) := by decide +kernel
theorem dX2_init_97 : decode cX2_init 97 = .ok (.putfield 61, 3) := by decide +kernel
theorem dX2_init_100 : decode cX2_init 100 = .ok (.aload_n 0, 1) := by decide +kernel
theorem dX2_init_101 : decode cX2_init 101 = .ok (.iconst 0, 1) := by decide +kernel
theorem dX2_init_102 : decode cX2_init 102 = .ok (.putfield 64, 3) := by decide +kernel
theorem dX2_init_105 : decode cX2_init 105 = .ok (.aload_n 0, 1) := by decide +kernel
theorem dX2_init_106 : decode cX2_init 106 = .ok (.iconst 0, 1) := by decide +kernel
theorem dX2_init_107 : decode cX2_init 107 = .ok (.putfield 67, 3) := by decide +kernel
theorem dX2_init_110 : decode cX2_init 110 = .ok (.return_, 1) := by decide +kernel
theorem dX2_copyFrom_0 : decode cX2_copyFrom 0 = .ok (.aload_n 1, 1) := by decide +kernel
theorem dX2_copyFrom_1 : decode cX2_copyFrom 1 = .ok (.getfield 9, 3) := by decide +kernel
theorem dX2_copyFrom_4 : decode cX2_copyFrom 4 = .ok (.iconst 0, 1) := by decide +kernel
theorem dX2_copyFrom_5 : decode cX2_copyFrom 5 = .ok (.aload_n 0, 1) := by decide +kernel
theorem dX2_copyFrom_6 : decode cX2_copyFrom 6 = .ok (.getfield 9, 3) := by decide +kernel
theorem dX2_copyFrom_9 : decode cX2_copyFrom 9 = .ok (.iconst 0, 1) := by decide +kernel
theorem dX2_copyFrom_10 : decode cX2_copyFrom 10 = .ok (.bipush 10, 2) := by decide +kernel
theorem dX2_copyFrom_12 : decode cX2_copyFrom 12 = .ok (.invokestatic 70, 3) := by decide +kernel
theorem dX2_copyFrom_15 : decode cX2_copyFrom 15 = .ok (.aload_n 1, 1) := by decide +kernel
theorem dX2_copyFrom_16 : decode cX2_copyFrom 16 = .ok (.getfield 15, 3) := by decide +kernel
theorem dX2_copyFrom_19 : decode cX2_copyFrom 19 = .ok (.iconst 0, 1) := by decide +kernel
theorem dX2_copyFrom_20 : decode cX2_copyFrom 20 = .ok (.aload_n 0, 1) := by decide +kernel
theorem dX2_copyFrom_21 : decode cX2_copyFrom 21 = .ok (.getfield 15, 3) := by decide +kernel
theorem dX2_copyFrom_24 : decode cX2_copyFrom 24 = .ok (.iconst 0, 1) := by decide +kernel
theorem dX2_copyFrom_25 : decode cX2_copyFrom 25 = .ok (.bipush 10, 2) := by decide +kernel
theorem dX2_copyFrom_27 : decode cX2_copyFrom 27 = .ok (.invokestatic 70, 3) := by decide +kernel
theorem dX2_copyFrom_30 : decode cX2_copyFrom 30 = .ok (.aload_n 1, 1) := by decide +kernel
theorem dX2_copyFrom_31 : decode cX2_copyFrom 31 = .ok (.getfield 18, 3) := by decide +kernel
theorem dX2_copyFrom_34 : decode cX2_copyFrom 34 = .ok (.iconst 0, 1) := by decide +kernel
theorem dX2_copyFrom_35 : decode cX2_copyFrom 35 = .ok (.aload_n 0, 1) := by decide +kernel
theorem dX2_copyFrom_36 : decode cX2_copyFrom 36 = .ok (.getfield 18, 3) := by decide +kernel
theorem dX2_copyFrom_39 : decode cX2_copyFrom 39 = .ok (.iconst 0, 1) := by decide +kernel
theorem dX2_copyFrom_40 : decode cX2_copyFrom 40 = .ok (.bipush 10, 2) := by decide +kernel
theorem dX2_copyFrom_42 : decode cX2_copyFrom 42 = .ok (.invokestatic 70, 3) := by decide +kernel
theorem dX2_copyFrom_45 : decode cX2_copyFrom 45 = .ok (.aload_n 1, 1) := by decide +kernel
theorem dX2_copyFrom_46 : decode cX2_copyFrom 46 = .ok (.getfield 21, 3) := by decide +kernel
theorem dX2_copyFrom_49 : decode cX2_copyFrom 49 = .ok (.iconst 0, 1) := by decide +kernel
theorem dX2_copyFrom_50 : decode cX2_copyFrom 50 = .ok (.aload_n 0, 1) := by decide +kernel
theorem dX2_copyFrom_51 : decode cX2_copyFrom 51 = .ok (.getfield 21, 3) := by decide +kernel
theorem dX2_copyFrom_54 : decode cX2_copyFrom 54 = .ok (.iconst 0, 1) := by decide +kernel
theorem dX2_copyFrom_55 : decode cX2_copyFrom 55 = .ok (.bipush 10, 2) := by decide +kernel
theorem dX2_copyFrom_57 : decode cX2_copyFrom 57 = .ok (.invokestatic 70, 3) := by decide +kernel
theorem dX2_copyFrom_60 : decode cX2_copyFrom 60 = .ok (.aload_n 0, 1) := by decide +kernel
theorem dX2_copyFrom_61 : decode cX2_copyFrom 61 = .ok (.aload_n 1, 1) := by decide +kernel
theorem dX2_copyFrom_62 : decode cX2_copyFrom 62 = .ok (.getfield 24, 3) := by decide +kernel
theorem dX2_copyFrom_65 : decode cX2_copyFrom 65 = .ok (.putfield 24, 3) := by decide +kernel
theorem dX2_copyFrom_68 : decode cX2_copyFrom 68 = .ok (.aload_n 0, 1) := by decide +kernel
theorem dX2_copyFrom_69 : decode cX2_copyFrom 69 = .ok (.getfield 31, 3) := by decide +kernel
theorem dX2_copyFrom_72 : decode cX2_copyFrom 72 = .ok (.aload_n 1, 1) := by decide +kernel
theorem dX2_copyFrom_73 : decode cX2_copyFrom 73 = .ok (.getfield 31, 3) := by decide +kernel
theorem dX2_copyFrom_76 : decode cX2_copyFrom 76 = .ok (.invokevirtual 76, 3) := by decide +kernel
theorem dX2_copyFrom_79 : decode cX2_copyFrom 79 = .ok (.aload_n 0, 1) := by decide +kernel
theorem dX2_copyFrom_80 : decode cX2_copyFrom 80 = .ok (.getfield 38, 3) := by decide +kernel
theorem dX2_copyFrom_83 : decode cX2_copyFrom 83 = .ok (.aload_n 1, 1) := by decide +kernel
theorem dX2_copyFrom_84 : decode cX2_copyFrom 84 = .ok (.getfield 38, 3) := by decide +kernel
theorem dX2_copyFrom_87 : decode cX2_copyFrom 87 = .ok (.invokevirtual 80, 3) := by decide +kernel
theorem dX2_copyFrom_90 : decode cX2_copyFrom 90 = .ok (.aload_n 0, 1) := by decide +kernel
theorem dX2_copyFrom_91 : decode cX2_copyFrom 91 = .ok (.aload_n 1, 1) := by decide +kernel
theorem dX2_copyFrom_92 : decode cX2_copyFrom 92 = .ok (.getfield 46, 3) := by decide +kernel
theorem dX2_copyFrom_95 : decode cX2_copyFrom 95 = .ok (.putfield 46, 3) := by decide +kernel
theorem dX2_copyFrom_98 : decode cX2_copyFrom 98 = .ok (.aload_n 0, 1) := by decide +kernel
theorem dX2_copyFrom_99 : decode cX2_copyFrom 99 = .ok (.aload_n 1, 1) := by decide +kernel
theorem dX2_copyFrom_100 : decode cX2_copyFrom 100 = .ok (.getfield 49, 3) := by decide +kernel
theorem dX2_copyFrom_103 : decode cX2_copyFrom 103 = .ok (.putfield 49, 3) := by decide +kernel
theorem dX2_copyFrom_106 : decode cX2_copyFrom 106 = .ok (.aload_n 0, 1) := by decide +kernel
theorem dX2_copyFrom_107 : decode cX2_copyFrom 107 = .ok (.aload_n 1, 1) := by decide +kernel
theorem dX2_copyFrom_108 : decode cX2_copyFrom 108 = .ok (.getfield 52, 3) := by decide +kernel
theorem dX2_copyFrom_111 : decode cX2_copyFrom 111 = .ok (.putfield 52, 3) := by decide +kernel
theorem dX2_copyFrom_114 : decode cX2_copyFrom 114 = .ok (.aload_n 0, 1) := by decide +kernel
theorem dX2_copyFrom_115 : decode cX2_copyFrom 115 = .ok (.aload_n 1, 1) := by decide +kernel
theorem dX2_copyFrom_116 : decode cX2_copyFrom 116 = .ok (.getfield 55, 3) := by decide +kernel
theorem dX2_copyFrom_119 : decode cX2_copyFrom 119 = .ok (.putfield 55, 3) := by decide +kernel
theorem dX2_copyFrom_122 : decode cX2_copyFrom 122 = .ok (.aload_n 0, 1) := by decide +kernel
theorem dX2_copyFrom_123 : decode cX2_copyFrom 123 = .ok (.aload_n 1, 1) := by decide +kernel
theorem dX2_copyFrom_124 : decode cX2_copyFrom 124 = .ok (.getfield 58, 3) := by decide +kernel
theorem dX2_copyFrom_127 : decode cX2_copyFrom 127 = .ok (.putfield 58, 3) := by decide +kernel
theorem dX2_copyFrom_130 : decode cX2_copyFrom 130 = .ok (.aload_n 0, 1) := by decide +kernel
theorem dX2_copyFrom_131 : decode cX2_copyFrom 131 = .ok (.aload_n 1, 1) := by decide +kernel
theorem dX2_copyFrom_132 : decode cX2_copyFrom 132 = .ok (.getfield 61, 3) := by decide +kernel
theorem dX2_copyFrom_135 : decode cX2_copyFrom 135 = .ok (.putfield 61, 3) := by decide +kernel
theorem dX2_copyFrom_138 : decode cX2_copyFrom 138 = .ok (.aload_n 0, 1) := by decide +kernel
theorem dX2_copyFrom_139 : decode cX2_copyFrom 139 = .ok (.aload_n 1, 1) := by decide +kernel
theorem dX2_copyFrom_140 : decode cX2_copyFrom 140 = .ok (.getfield 64, 3) := by decide +kernel
theorem dX2_copyFrom_143 : decode cX2_copyFrom 143 = .ok (.putfield 64, 3) := by decide +kernel
theorem dX2_copyFrom_146 : decode cX2_copyFrom 146 = .ok (.aload_n 0, 1) := by decide +kernel
theorem dX2_copyFrom_147 : decode cX2_copyFrom 147 = .ok (.aload_n 1, 1) := by decide +kernel
theorem dX2_copyFrom_148 : decode cX2_copyFrom 148 = .ok (.getfield 67, 3) := by decide +kernel
theorem dX2_copyFrom_151 : decode cX2_copyFrom 151 = .ok (.putfield 67, 3) := by decide +kernel
theorem dX2_copyFrom_154 : decode cX2_copyFrom 154 = .ok (.return_, 1) := by decide +kernel
theorem dX2_hindrance_0 : decode cX2_hindrance 0 = .ok (.iload_n 1, 1) := by decide +kernel
theorem dX2_hindrance_1 : decode cX2_hindrance 1 = .ok (.tableswitch 133 0 8 #[51, 60, 69, 88, 95, 102, 110, 117, 125], 51) := by decide +kernel
theorem dX2_hindrance_52 : decode cX2_hindrance 52 = .ok (.aload_n 0, 1) := by decide +kernel
theorem dX2_hindrance_53 : decode cX2_hindrance 53 = .ok (.iload_n 2, 1) := by decide +kernel
theorem dX2_hindrance_54 : decode cX2_hindrance 54 = .ok (.iload_n 3, 1) := by decide +kernel
theorem dX2_hindrance_55 : decode cX2_hindrance 55 = .ok (.iload 4, 2) := by decide +kernel
theorem dX2_hindrance_57 : decode cX2_hindrance 57 = .ok (.invokevirtual 83, 3) := by decide +kernel
theorem dX2_hindrance_60 : decode cX2_hindrance 60 = .ok (.ireturn, 1) := by decide +kernel
theorem dX2_hindrance_61 : decode cX2_hindrance 61 = .ok (.aload_n 0, 1) := by decide +kernel
theorem dX2_hindrance_62 : decode cX2_hindrance 62 = .ok (.iload_n 2, 1) := by decide +kernel
theorem dX2_hindrance_63 : decode cX2_hindrance 63 = .ok (.iload_n 3, 1) := by decide +kernel
theorem dX2_hindrance_64 : decode cX2_hindrance 64 = .ok (.iload 4, 2) := by decide +kernel
theorem dX2_hindrance_66 : decode cX2_hindrance 66 = .ok (.invokevirtual 87, 3) := by decide +kernel
theorem dX2_hindrance_69 : decode cX2_hindrance 69 = .ok (.ireturn, 1) := by decide +kernel
theorem dX2_hindrance_70 : decode cX2_hindrance 70 = .ok (.aload_n 0, 1) := by decide +kernel
theorem dX2_hindrance_71 : decode cX2_hindrance 71 = .ok (.iload_n 2, 1) := by decide +kernel
theorem dX2_hindrance_72 : decode cX2_hindrance 72 = .ok (.invokevirtual 90, 3) := by decide +kernel
theorem dX2_hindrance_75 : decode cX2_hindrance 75 = .ok (.ifCond .eq 12, 3) := by decide +kernel
theorem dX2_hindrance_78 : decode cX2_hindrance 78 = .ok (.iload_n 3, 1) := by decide +kernel
theorem dX2_hindrance_79 : decode cX2_hindrance 79 = .ok (.iconst 0, 1) := by decide +kernel
theorem dX2_hindrance_80 : decode cX2_hindrance 80 = .ok (.iconst 2, 1) := by decide +kernel
theorem dX2_hindrance_81 : decode cX2_hindrance 81 = .ok (.invokestatic 94, 3) := by decide +kernel
theorem dX2_hindrance_84 : decode cX2_hindrance 84 = .ok (.goto 4, 3) := by decide +kernel
theorem dX2_hindrance_87 : decode cX2_hindrance 87 = .ok (.iconst 1, 1) := by decide +kernel
theorem dX2_hindrance_88 : decode cX2_hindrance 88 = .ok (.ireturn, 1) := by decide +kernel
theorem dX2_hindrance_89 : decode cX2_hindrance 89 = .ok (.aload_n 0, 1) := by decide +kernel
theorem dX2_hindrance_90 : decode cX2_hindrance 90 = .ok (.iload_n 2, 1) := by decide +kernel
theorem dX2_hindrance_91 : decode cX2_hindrance 91 = .ok (.iload_n 3, 1) := by decide +kernel
theorem dX2_hindrance_92 : decode cX2_hindrance 92 = .ok (.invokevirtual 97, 3) := by decide +kernel
theorem dX2_hindrance_95 : decode cX2_hindrance 95 = .ok (.ireturn, 1) := by decide +kernel
theorem dX2_hindrance_96 : decode cX2_hindrance 96 = .ok (.aload_n 0, 1) := by decide +kernel
theorem dX2_hindrance_97 : decode cX2_hindrance 97 = .ok (.iload_n 2, 1) := by decide +kernel
theorem dX2_hindrance_98 : decode cX2_hindrance 98 = .ok (.iload_n 3, 1) := by decide +kernel
theorem dX2_hindrance_99 : decode cX2_hindrance 99 = .ok (.invokevirtual 101, 3) := by decide +kernel
theorem dX2_hindrance_102 : decode cX2_hindrance 102 = .ok (.ireturn, 1) := by decide +kernel
theorem dX2_hindrance_103 : decode cX2_hindrance 103 = .ok (.iload_n 2, 1) := by decide +kernel
theorem dX2_hindrance_104 : decode cX2_hindrance 104 = .ok (.iconst 2, 1) := by decide +kernel
theorem dX2_hindrance_105 : decode cX2_hindrance 105 = .ok (.bipush 9, 2) := by decide +kernel
theorem dX2_hindrance_107 : decode cX2_hindrance 107 = .ok (.invokestatic 94, 3) := by decide +kernel
theorem dX2_hindrance_110 : decode cX2_hindrance 110 = .ok (.ireturn, 1) := by decide +kernel
theorem dX2_hindrance_111 : decode cX2_hindrance 111 = .ok (.aload_n 0, 1) := by decide +kernel
theorem dX2_hindrance_112 : decode cX2_hindrance 112 = .ok (.iload_n 2, 1) := by decide +kernel
theorem dX2_hindrance_113 : decode cX2_hindrance 113 = .ok (.iload_n 3, 1) := by decide +kernel
theorem dX2_hindrance_114 : decode cX2_hindrance 114 = .ok (.invokevirtual 104, 3) := by decide +kernel
theorem dX2_hindrance_117 : decode cX2_hindrance 117 = .ok (.ireturn, 1) := by decide +kernel
theorem dX2_hindrance_118 : decode cX2_hindrance 118 = .ok (.iload_n 2, 1) := by decide +kernel
theorem dX2_hindrance_119 : decode cX2_hindrance 119 = .ok (.iconst 2, 1) := by decide +kernel
theorem dX2_hindrance_120 : decode cX2_hindrance 120 = .ok (.bipush 6, 2) := by decide +kernel
theorem dX2_hindrance_122 : decode cX2_hindrance 122 = .ok (.invokestatic 94, 3) := by decide +kernel
theorem dX2_hindrance_125 : decode cX2_hindrance 125 = .ok (.ireturn, 1) := by decide +kernel
theorem dX2_hindrance_126 : decode cX2_hindrance 126 = .ok (.iload_n 2, 1) := by decide +kernel
theorem dX2_hindrance_127 : decode cX2_hindrance 127 = .ok (.iconst 1, 1) := by decide +kernel
theorem dX2_hindrance_128 : decode cX2_hindrance 128 = .ok (.bipush 20, 2) := by decide +kernel
theorem dX2_hindrance_130 : decode cX2_hindrance 130 = .ok (.invokestatic 94, 3) := by decide +kernel
theorem dX2_hindrance_133 : decode cX2_hindrance 133 = .ok (.ireturn, 1) := by decide +kernel
theorem dX2_hindrance_134 : decode cX2_hindrance 134 = .ok (.iconst 3, 1) := by decide +kernel
theorem dX2_hindrance_135 : decode cX2_hindrance 135 = .ok (.ireturn, 1) := by decide +kernel
theorem dX2_hindranceOutside_0 : decode cX2_hindranceOutside 0 = .ok (.iload_n 0, 1) := by decide +kernel
theorem dX2_hindranceOutside_1 : decode cX2_hindranceOutside 1 = .ok (.iload_n 1, 1) := by decide +kernel
theorem dX2_hindranceOutside_2 : decode cX2_hindranceOutside 2 = .ok (.if_icmp .lt 12, 3) := by decide +kernel
theorem dX2_hindranceOutside_5 : decode cX2_hindranceOutside 5 = .ok (.iload_n 0, 1) := by decide +kernel
theorem dX2_hindranceOutside_6 : decode cX2_hindranceOutside 6 = .ok (.iload_n 2, 1) := by decide +kernel
theorem dX2_hindranceOutside_7 : decode cX2_hindranceOutside 7 = .ok (.if_icmp .gt 7, 3) := by decide +kernel
theorem dX2_hindranceOutside_10 : decode cX2_hindranceOutside 10 = .ok (.iconst 0, 1) := by decide +kernel
theorem dX2_hindranceOutside_11 : decode cX2_hindranceOutside 11 = .ok (.goto 4, 3) := by decide +kernel
theorem dX2_hindranceOutside_14 : decode cX2_hindranceOutside 14 = .ok (.iconst 2, 1) := by decide +kernel
theorem dX2_hindranceOutside_15 : decode cX2_hindranceOutside 15 = .ok (.ireturn, 1) := by decide +kernel
theorem dX2_hindranceToAdd_0 : decode cX2_hindranceToAdd 0 = .ok (.iload_n 1, 1) := by decide +kernel
theorem dX2_hindranceToAdd_1 : decode cX2_hindranceToAdd 1 = .ok (.iload_n 2, 1) := by decide +kernel
theorem dX2_hindranceToAdd_2 : decode cX2_hindranceToAdd 2 = .ok (.invokestatic 107, 3) := by decide +kernel
theorem dX2_hindranceToAdd_5 : decode cX2_hindranceToAdd 5 = .ok (.ifCond .eq 12, 3) := by decide +kernel
theorem dX2_hindranceToAdd_8 : decode cX2_hindranceToAdd 8 = .ok (.iload_n 3, 1) := by decide +kernel
theorem dX2_hindranceToAdd_9 : decode cX2_hindranceToAdd 9 = .ok (.ifCond .lt 8, 3) := by decide +kernel
theorem dX2_hindranceToAdd_12 : decode cX2_hindranceToAdd 12 = .ok (.iload_n 3, 1) := by decide +kernel
theorem dX2_hindranceToAdd_13 : decode cX2_hindranceToAdd 13 = .ok (.iconst 3, 1) := by decide +kernel
theorem dX2_hindranceToAdd_14 : decode cX2_hindranceToAdd 14 = .ok (.if_icmp .lt 5, 3) := by decide +kernel
theorem dX2_hindranceToAdd_17 : decode cX2_hindranceToAdd 17 = .ok (.iconst 2, 1) := by decide +kernel
theorem dX2_hindranceToAdd_18 : decode cX2_hindranceToAdd 18 = .ok (.ireturn, 1) := by decide +kernel
theorem dX2_hindranceToAdd_19 : decode cX2_hindranceToAdd 19 = .ok (.aload_n 0, 1) := by decide +kernel
theorem dX2_hindranceToAdd_20 : decode cX2_hindranceToAdd 20 = .ok (.getfield 24, 3) := by decide +kernel
theorem dX2_hindranceToAdd_23 : decode cX2_hindranceToAdd 23 = .ok (.bipush 10, 2) := by decide +kernel
theorem dX2_hindranceToAdd_25 : decode cX2_hindranceToAdd 25 = .ok (.if_icmp .lt 5, 3) := by decide +kernel
theorem dX2_hindranceToAdd_28 : decode cX2_hindranceToAdd 28 = .ok (.iconst 3, 1) := by decide +kernel
theorem dX2_hindranceToAdd_29 : decode cX2_hindranceToAdd 29 = .ok (.ireturn, 1) := by decide +kernel
theorem dX2_hindranceToAdd_30 : decode cX2_hindranceToAdd 30 = .ok (.aload_n 0, 1) := by decide +kernel
theorem dX2_hindranceToAdd_31 : decode cX2_hindranceToAdd 31 = .ok (.iconst (-1), 1) := by decide +kernel
theorem dX2_hindranceToAdd_32 : decode cX2_hindranceToAdd 32 = .ok (.iload_n 1, 1) := by decide +kernel
theorem dX2_hindranceToAdd_33 : decode cX2_hindranceToAdd 33 = .ok (.iload_n 2, 1) := by decide +kernel
theorem dX2_hindranceToAdd_34 : decode cX2_hindranceToAdd 34 = .ok (.invokevirtual 111, 3) := by decide +kernel
theorem dX2_hindranceToAdd_37 : decode cX2_hindranceToAdd 37 = .ok (.ifCond .eq 7, 3) := by decide +kernel
theorem dX2_hindranceToAdd_40 : decode cX2_hindranceToAdd 40 = .ok (.iconst 0, 1) := by decide +kernel
theorem dX2_hindranceToAdd_41 : decode cX2_hindranceToAdd 41 = .ok (.goto 5, 3) := by decide +kernel
theorem dX2_hindranceToAdd_44 : decode cX2_hindranceToAdd 44 = .ok (.bipush 6, 2) := by decide +kernel
theorem dX2_hindranceToAdd_46 : decode cX2_hindranceToAdd 46 = .ok (.ireturn, 1) := by decide +kernel
theorem dX2_hindranceToJump_0 : decode cX2_hindranceToJump 0 = .ok (.aload_n 0, 1) := by decide +kernel
theorem dX2_hindranceToJump_1 : decode cX2_hindranceToJump 1 = .ok (.iload_n 1, 1) := by decide +kernel
theorem dX2_hindranceToJump_2 : decode cX2_hindranceToJump 2 = .ok (.invokevirtual 90, 3) := by decide +kernel
theorem dX2_hindranceToJump_5 : decode cX2_hindranceToJump 5 = .ok (.ifCond .ne 5, 3) := by decide +kernel
theorem dX2_hindranceToJump_8 : decode cX2_hindranceToJump 8 = .ok (.iconst 1, 1) := by decide +kernel
theorem dX2_hindranceToJump_9 : decode cX2_hindranceToJump 9 = .ok (.ireturn, 1) := by decide +kernel
theorem dX2_hindranceToJump_10 : decode cX2_hindranceToJump 10 = .ok (.iload_n 2, 1) := by decide +kernel
theorem dX2_hindranceToJump_11 : decode cX2_hindranceToJump 11 = .ok (.iload_n 3, 1) := by decide +kernel
theorem dX2_hindranceToJump_12 : decode cX2_hindranceToJump 12 = .ok (.invokestatic 107, 3) := by decide +kernel
theorem dX2_hindranceToJump_15 : decode cX2_hindranceToJump 15 = .ok (.ifCond .ne 5, 3) := by decide +kernel
theorem dX2_hindranceToJump_18 : decode cX2_hindranceToJump 18 = .ok (.iconst 2, 1) := by decide +kernel
theorem dX2_hindranceToJump_19 : decode cX2_hindranceToJump 19 = .ok (.ireturn, 1) := by decide +kernel
theorem dX2_hindranceToJump_20 : decode cX2_hindranceToJump 20 = .ok (.aload_n 0, 1) := by decide +kernel
theorem dX2_hindranceToJump_21 : decode cX2_hindranceToJump 21 = .ok (.iload_n 1, 1) := by decide +kernel
theorem dX2_hindranceToJump_22 : decode cX2_hindranceToJump 22 = .ok (.iload_n 2, 1) := by decide +kernel
theorem dX2_hindranceToJump_23 : decode cX2_hindranceToJump 23 = .ok (.iload_n 3, 1) := by decide +kernel
theorem dX2_hindranceToJump_24 : decode cX2_hindranceToJump 24 = .ok (.invokevirtual 111, 3) := by decide +kernel
theorem dX2_hindranceToJump_27 : decode cX2_hindranceToJump 27 = .ok (.ifCond .eq 7, 3) := by decide +kernel
theorem dX2_hindranceToJump_30 : decode cX2_hindranceToJump 30 = .ok (.iconst 0, 1) := by decide +kernel
theorem dX2_hindranceToJump_31 : decode cX2_hindranceToJump 31 = .ok (.goto 5, 3) := by decide +kernel
theorem dX2_hindranceToJump_34 : decode cX2_hindranceToJump 34 = .ok (.bipush 6, 2) := by decide +kernel
theorem dX2_hindranceToJump_36 : decode cX2_hindranceToJump 36 = .ok (.ireturn, 1) := by decide +kernel
theorem dX2_hindranceToCloud_0 : decode cX2_hindranceToCloud 0 = .ok (.iload_n 1, 1) := by decide +kernel
theorem dX2_hindranceToCloud_1 : decode cX2_hindranceToCloud 1 = .ok (.iload_n 2, 1) := by decide +kernel
theorem dX2_hindranceToCloud_2 : decode cX2_hindranceToCloud 2 = .ok (.invokestatic 107, 3) := by decide +kernel
theorem dX2_hindranceToCloud_5 : decode cX2_hindranceToCloud 5 = .ok (.ifCond .ne 5, 3) := by decide +kernel
theorem dX2_hindranceToCloud_8 : decode cX2_hindranceToCloud 8 = .ok (.iconst 2, 1) := by decide +kernel
theorem dX2_hindranceToCloud_9 : decode cX2_hindranceToCloud 9 = .ok (.ireturn, 1) := by decide +kernel
theorem dX2_hindranceToCloud_10 : decode cX2_hindranceToCloud 10 = .ok (.aload_n 0, 1) := by decide +kernel
theorem dX2_hindranceToCloud_11 : decode cX2_hindranceToCloud 11 = .ok (.getfield 31, 3) := by decide +kernel
theorem dX2_hindranceToCloud_14 : decode cX2_hindranceToCloud 14 = .ok (.getfield 115, 3) := by decide +kernel
theorem dX2_hindranceToCloud_17 : decode cX2_hindranceToCloud 17 = .ok (.bipush 8, 2) := by decide +kernel
theorem dX2_hindranceToCloud_19 : decode cX2_hindranceToCloud 19 = .ok (.if_icmp .ge 15, 3) := by decide +kernel
theorem dX2_hindranceToCloud_22 : decode cX2_hindranceToCloud 22 = .ok (.aload_n 0, 1) := by decide +kernel
theorem dX2_hindranceToCloud_23 : decode cX2_hindranceToCloud 23 = .ok (.getfield 31, 3) := by decide +kernel
theorem dX2_hindranceToCloud_26 : decode cX2_hindranceToCloud 26 = .ok (.iload_n 1, 1) := by decide +kernel
theorem dX2_hindranceToCloud_27 : decode cX2_hindranceToCloud 27 = .ok (.iload_n 2, 1) := by decide +kernel
theorem dX2_hindranceToCloud_28 : decode cX2_hindranceToCloud 28 = .ok (.invokevirtual 116, 3) := by decide +kernel
theorem dX2_hindranceToCloud_31 : decode cX2_hindranceToCloud 31 = .ok (.ifCond .eq 5, 3) := by decide +kernel
theorem dX2_hindranceToCloud_34 : decode cX2_hindranceToCloud 34 = .ok (.iconst 3, 1) := by decide +kernel
theorem dX2_hindranceToCloud_35 : decode cX2_hindranceToCloud 35 = .ok (.ireturn, 1) := by decide +kernel
theorem dX2_hindranceToCloud_36 : decode cX2_hindranceToCloud 36 = .ok (.aload_n 0, 1) := by decide +kernel
theorem dX2_hindranceToCloud_37 : decode cX2_hindranceToCloud 37 = .ok (.iload_n 1, 1) := by decide +kernel
theorem dX2_hindranceToCloud_38 : decode cX2_hindranceToCloud 38 = .ok (.iload_n 2, 1) := by decide +kernel
theorem dX2_hindranceToCloud_39 : decode cX2_hindranceToCloud 39 = .ok (.invokevirtual 119, 3) := by decide +kernel
theorem dX2_hindranceToCloud_42 : decode cX2_hindranceToCloud 42 = .ok (.iconst (-1), 1) := by decide +kernel
theorem dX2_hindranceToCloud_43 : decode cX2_hindranceToCloud 43 = .ok (.if_icmp .ne 7, 3) := by decide +kernel
theorem dX2_hindranceToCloud_46 : decode cX2_hindranceToCloud 46 = .ok (.iconst 0, 1) := by decide +kernel
theorem dX2_hindranceToCloud_47 : decode cX2_hindranceToCloud 47 = .ok (.goto 4, 3) := by decide +kernel
theorem dX2_hindranceToCloud_50 : decode cX2_hindranceToCloud 50 = .ok (.iconst 5, 1) := by decide +kernel
theorem dX2_hindranceToCloud_51 : decode cX2_hindranceToCloud 51 = .ok (.ireturn, 1) := by decide +kernel
theorem dX2_hindranceToClear_0 : decode cX2_hindranceToClear 0 = .ok (.iload_n 1, 1) := by decide +kernel
theorem dX2_hindranceToClear_1 : decode cX2_hindranceToClear 1 = .ok (.iload_n 2, 1) := by decide +kernel
theorem dX2_hindranceToClear_2 : decode cX2_hindranceToClear 2 = .ok (.invokestatic 107, 3) := by decide +kernel
theorem dX2_hindranceToClear_5 : decode cX2_hindranceToClear 5 = .ok (.ifCond .ne 5, 3) := by decide +kernel
theorem dX2_hindranceToClear_8 : decode cX2_hindranceToClear 8 = .ok (.iconst 2, 1) := by decide +kernel
theorem dX2_hindranceToClear_9 : decode cX2_hindranceToClear 9 = .ok (.ireturn, 1) := by decide +kernel
theorem dX2_hindranceToClear_10 : decode cX2_hindranceToClear 10 = .ok (.aload_n 0, 1) := by decide +kernel
theorem dX2_hindranceToClear_11 : decode cX2_hindranceToClear 11 = .ok (.getfield 31, 3) := by decide +kernel
theorem dX2_hindranceToClear_14 : decode cX2_hindranceToClear 14 = .ok (.iload_n 1, 1) := by decide +kernel
theorem dX2_hindranceToClear_15 : decode cX2_hindranceToClear 15 = .ok (.iload_n 2, 1) := by decide +kernel
theorem dX2_hindranceToClear_16 : decode cX2_hindranceToClear 16 = .ok (.invokevirtual 116, 3) := by decide +kernel
theorem dX2_hindranceToClear_19 : decode cX2_hindranceToClear 19 = .ok (.ifCond .eq 7, 3) := by decide +kernel
theorem dX2_hindranceToClear_22 : decode cX2_hindranceToClear 22 = .ok (.iconst 0, 1) := by decide +kernel
theorem dX2_hindranceToClear_23 : decode cX2_hindranceToClear 23 = .ok (.goto 4, 3) := by decide +kernel
theorem dX2_hindranceToClear_26 : decode cX2_hindranceToClear 26 = .ok (.iconst 4, 1) := by decide +kernel
theorem dX2_hindranceToClear_27 : decode cX2_hindranceToClear 27 = .ok (.ireturn, 1) := by decide +kernel
theorem dX2_hindranceToGoal_0 : decode cX2_hindranceToGoal 0 = .ok (.iload_n 1, 1) := by decide +kernel
theorem dX2_hindranceToGoal_1 : decode cX2_hindranceToGoal 1 = .ok (.iload_n 2, 1) := by decide +kernel
theorem dX2_hindranceToGoal_2 : decode cX2_hindranceToGoal 2 = .ok (.invokestatic 107, 3) := by decide +kernel
theorem dX2_hindranceToGoal_5 : decode cX2_hindranceToGoal 5 = .ok (.ifCond .ne 5, 3) := by decide +kernel
theorem dX2_hindranceToGoal_8 : decode cX2_hindranceToGoal 8 = .ok (.iconst 2, 1) := by decide +kernel
theorem dX2_hindranceToGoal_9 : decode cX2_hindranceToGoal 9 = .ok (.ireturn, 1) := by decide +kernel
theorem dX2_hindranceToGoal_10 : decode cX2_hindranceToGoal 10 = .ok (.aload_n 0, 1) := by decide +kernel
theorem dX2_hindranceToGoal_11 : decode cX2_hindranceToGoal 11 = .ok (.getfield 24, 3) := by decide +kernel
theorem dX2_hindranceToGoal_14 : decode cX2_hindranceToGoal 14 = .ok (.ifCond .le 7, 3) := by decide +kernel
theorem dX2_hindranceToGoal_17 : decode cX2_hindranceToGoal 17 = .ok (.iconst 0, 1) := by decide +kernel
theorem dX2_hindranceToGoal_18 : decode cX2_hindranceToGoal 18 = .ok (.goto 4, 3) := by decide +kernel
theorem dX2_hindranceToGoal_21 : decode cX2_hindranceToGoal 21 = .ok (.iconst 4, 1) := by decide +kernel
theorem dX2_hindranceToGoal_22 : decode cX2_hindranceToGoal 22 = .ok (.ireturn, 1) := by decide +kernel
theorem dX2_add_0 : decode cX2_add 0 = .ok (.aload_n 0, 1) := by decide +kernel
theorem dX2_add_1 : decode cX2_add 1 = .ok (.getfield 24, 3) := by decide +kernel
theorem dX2_add_4 : decode cX2_add 4 = .ok (.bipush 10, 2) := by decide +kernel
theorem dX2_add_6 : decode cX2_add 6 = .ok (.if_icmp .lt 5, 3) := by decide +kernel
theorem dX2_add_9 : decode cX2_add 9 = .ok (.iconst (-1), 1) := by decide +kernel
theorem dX2_add_10 : decode cX2_add 10 = .ok (.ireturn, 1) := by decide +kernel
theorem dX2_add_11 : decode cX2_add 11 = .ok (.aload_n 0, 1) := by decide +kernel
theorem dX2_add_12 : decode cX2_add 12 = .ok (.getfield 9, 3) := by decide +kernel
theorem dX2_add_15 : decode cX2_add 15 = .ok (.aload_n 0, 1) := by decide +kernel
theorem dX2_add_16 : decode cX2_add 16 = .ok (.getfield 24, 3) := by decide +kernel
theorem dX2_add_19 : decode cX2_add 19 = .ok (.iload_n 1, 1) := by decide +kernel
theorem dX2_add_20 : decode cX2_add 20 = .ok (.iastore, 1) := by decide +kernel
theorem dX2_add_21 : decode cX2_add 21 = .ok (.aload_n 0, 1) := by decide +kernel
theorem dX2_add_22 : decode cX2_add 22 = .ok (.getfield 15, 3) := by decide +kernel
theorem dX2_add_25 : decode cX2_add 25 = .ok (.aload_n 0, 1) := by decide +kernel
theorem dX2_add_26 : decode cX2_add 26 = .ok (.getfield 24, 3) := by decide +kernel
theorem dX2_add_29 : decode cX2_add 29 = .ok (.iload_n 2, 1) := by decide +kernel
theorem dX2_add_30 : decode cX2_add 30 = .ok (.iastore, 1) := by decide +kernel
theorem dX2_add_31 : decode cX2_add 31 = .ok (.aload_n 0, 1) := by decide +kernel
theorem dX2_add_32 : decode cX2_add 32 = .ok (.getfield 18, 3) := by decide +kernel
theorem dX2_add_35 : decode cX2_add 35 = .ok (.aload_n 0, 1) := by decide +kernel
theorem dX2_add_36 : decode cX2_add 36 = .ok (.getfield 24, 3) := by decide +kernel
theorem dX2_add_39 : decode cX2_add 39 = .ok (.iload_n 3, 1) := by decide +kernel
theorem dX2_add_40 : decode cX2_add 40 = .ok (.iastore, 1) := by decide +kernel
theorem dX2_add_41 : decode cX2_add 41 = .ok (.aload_n 0, 1) := by decide +kernel
theorem dX2_add_42 : decode cX2_add 42 = .ok (.getfield 21, 3) := by decide +kernel
theorem dX2_add_45 : decode cX2_add 45 = .ok (.aload_n 0, 1) := by decide +kernel
theorem dX2_add_46 : decode cX2_add 46 = .ok (.getfield 24, 3) := by decide +kernel
theorem dX2_add_49 : decode cX2_add 49 = .ok (.iconst 0, 1) := by decide +kernel
theorem dX2_add_50 : decode cX2_add 50 = .ok (.iastore, 1) := by decide +kernel
theorem dX2_add_51 : decode cX2_add 51 = .ok (.aload_n 0, 1) := by decide +kernel
theorem dX2_add_52 : decode cX2_add 52 = .ok (.dup, 1) := by decide +kernel
theorem dX2_add_53 : decode cX2_add 53 = .ok (.getfield 24, 3) := by decide +kernel
theorem dX2_add_56 : decode cX2_add 56 = .ok (.iconst 1, 1) := by decide +kernel
theorem dX2_add_57 : decode cX2_add 57 = .ok (.iadd, 1) := by decide +kernel
theorem dX2_add_58 : decode cX2_add 58 = .ok (.putfield 24, 3) := by decide +kernel
theorem dX2_add_61 : decode cX2_add 61 = .ok (.aload_n 0, 1) := by decide +kernel
theorem dX2_add_62 : decode cX2_add 62 = .ok (.getfield 24, 3) := by decide +kernel
theorem dX2_add_65 : decode cX2_add 65 = .ok (.iconst 1, 1) := by decide +kernel
theorem dX2_add_66 : decode cX2_add 66 = .ok (.isub, 1) := by decide +kernel
theorem dX2_add_67 : decode cX2_add 67 = .ok (.ireturn, 1) := by decide +kernel
theorem dX2_put_0 : decode cX2_put 0 = .ok (.aload_n 0, 1) := by decide +kernel
theorem dX2_put_1 : decode cX2_put 1 = .ok (.iload_n 1, 1) := by decide +kernel
theorem dX2_put_2 : decode cX2_put 2 = .ok (.invokevirtual 90, 3) := by decide +kernel
theorem dX2_put_5 : decode cX2_put 5 = .ok (.ifCond .ne 5, 3) := by decide +kernel
theorem dX2_put_8 : decode cX2_put 8 = .ok (.iconst (-1), 1) := by decide +kernel
theorem dX2_put_9 : decode cX2_put 9 = .ok (.ireturn, 1) := by decide +kernel
theorem dX2_put_10 : decode cX2_put 10 = .ok (.aload_n 0, 1) := by decide +kernel
theorem dX2_put_11 : decode cX2_put 11 = .ok (.iload_n 1, 1) := by decide +kernel
theorem dX2_put_12 : decode cX2_put 12 = .ok (.iload_n 2, 1) := by decide +kernel
theorem dX2_put_13 : decode cX2_put 13 = .ok (.iload_n 3, 1) := by decide +kernel
theorem dX2_put_14 : decode cX2_put 14 = .ok (.invokevirtual 149, 3) := by decide +kernel
theorem dX2_put_17 : decode cX2_put 17 = .ok (.istore 4, 2) := by decide +kernel
theorem dX2_put_19 : decode cX2_put 19 = .ok (.aload_n 0, 1) := by decide +kernel
theorem dX2_put_20 : decode cX2_put 20 = .ok (.getfield 9, 3) := by decide +kernel
theorem dX2_put_23 : decode cX2_put 23 = .ok (.iload_n 1, 1) := by decide +kernel
theorem dX2_put_24 : decode cX2_put 24 = .ok (.iload_n 2, 1) := by decide +kernel
theorem dX2_put_25 : decode cX2_put 25 = .ok (.iastore, 1) := by decide +kernel
theorem dX2_put_26 : decode cX2_put 26 = .ok (.aload_n 0, 1) := by decide +kernel
theorem dX2_put_27 : decode cX2_put 27 = .ok (.getfield 15, 3) := by decide +kernel
theorem dX2_put_30 : decode cX2_put 30 = .ok (.iload_n 1, 1) := by decide +kernel
theorem dX2_put_31 : decode cX2_put 31 = .ok (.iload_n 3, 1) := by decide +kernel
theorem dX2_put_32 : decode cX2_put 32 = .ok (.iastore, 1) := by decide +kernel
theorem dX2_put_33 : decode cX2_put 33 = .ok (.iload 4, 2) := by decide +kernel
theorem dX2_put_35 : decode cX2_put 35 = .ok (.ireturn, 1) := by decide +kernel
theorem dX2_replaceHandle_0 : decode cX2_replaceHandle 0 = .ok (.aload_n 0, 1) := by decide +kernel
theorem dX2_replaceHandle_1 : decode cX2_replaceHandle 1 = .ok (.iload_n 1, 1) := by decide +kernel
theorem dX2_replaceHandle_2 : decode cX2_replaceHandle 2 = .ok (.invokevirtual 90, 3) := by decide +kernel
theorem dX2_replaceHandle_5 : decode cX2_replaceHandle 5 = .ok (.ifCond .ne 5, 3) := by decide +kernel
theorem dX2_replaceHandle_8 : decode cX2_replaceHandle 8 = .ok (.iconst (-1), 1) := by decide +kernel
theorem dX2_replaceHandle_9 : decode cX2_replaceHandle 9 = .ok (.ireturn, 1) := by decide +kernel
theorem dX2_replaceHandle_10 : decode cX2_replaceHandle 10 = .ok (.aload_n 0, 1) := by decide +kernel
theorem dX2_replaceHandle_11 : decode cX2_replaceHandle 11 = .ok (.getfield 18, 3) := by decide +kernel
theorem dX2_replaceHandle_14 : decode cX2_replaceHandle 14 = .ok (.iload_n 1, 1) := by decide +kernel
theorem dX2_replaceHandle_15 : decode cX2_replaceHandle 15 = .ok (.iaload, 1) := by decide +kernel
theorem dX2_replaceHandle_16 : decode cX2_replaceHandle 16 = .ok (.istore_n 3, 1) := by decide +kernel
theorem dX2_replaceHandle_17 : decode cX2_replaceHandle 17 = .ok (.aload_n 0, 1) := by decide +kernel
theorem dX2_replaceHandle_18 : decode cX2_replaceHandle 18 = .ok (.getfield 18, 3) := by decide +kernel
theorem dX2_replaceHandle_21 : decode cX2_replaceHandle 21 = .ok (.iload_n 1, 1) := by decide +kernel
theorem dX2_replaceHandle_22 : decode cX2_replaceHandle 22 = .ok (.iload_n 2, 1) := by decide +kernel
theorem dX2_replaceHandle_23 : decode cX2_replaceHandle 23 = .ok (.iastore, 1) := by decide +kernel
theorem dX2_replaceHandle_24 : decode cX2_replaceHandle 24 = .ok (.iload_n 3, 1) := by decide +kernel
theorem dX2_replaceHandle_25 : decode cX2_replaceHandle 25 = .ok (.ireturn, 1) := by decide +kernel
theorem dX2_replaceTurn_0 : decode cX2_replaceTurn 0 = .ok (.aload_n 0, 1) := by decide +kernel
theorem dX2_replaceTurn_1 : decode cX2_replaceTurn 1 = .ok (.getfield 52, 3) := by decide +kernel
theorem dX2_replaceTurn_4 : decode cX2_replaceTurn 4 = .ok (.istore_n 2, 1) := by decide +kernel
theorem dX2_replaceTurn_5 : decode cX2_replaceTurn 5 = .ok (.aload_n 0, 1) := by decide +kernel
theorem dX2_replaceTurn_6 : decode cX2_replaceTurn 6 = .ok (.iload_n 1, 1) := by decide +kernel
theorem dX2_replaceTurn_7 : decode cX2_replaceTurn 7 = .ok (.putfield 52, 3) := by decide +kernel
theorem dX2_replaceTurn_10 : decode cX2_replaceTurn 10 = .ok (.aload_n 0, 1) := by decide +kernel
theorem dX2_replaceTurn_11 : decode cX2_replaceTurn 11 = .ok (.iconst 0, 1) := by decide +kernel
theorem dX2_replaceTurn_12 : decode cX2_replaceTurn 12 = .ok (.putfield 49, 3) := by decide +kernel
theorem dX2_replaceTurn_15 : decode cX2_replaceTurn 15 = .ok (.iload_n 2, 1) := by decide +kernel
theorem dX2_replaceTurn_16 : decode cX2_replaceTurn 16 = .ok (.ireturn, 1) := by decide +kernel
theorem dX2_replaceGoal_0 : decode cX2_replaceGoal 0 = .ok (.aload_n 0, 1) := by decide +kernel
theorem dX2_replaceGoal_1 : decode cX2_replaceGoal 1 = .ok (.iload_n 1, 1) := by decide +kernel
theorem dX2_replaceGoal_2 : decode cX2_replaceGoal 2 = .ok (.putfield 55, 3) := by decide +kernel
theorem dX2_replaceGoal_5 : decode cX2_replaceGoal 5 = .ok (.aload_n 0, 1) := by decide +kernel
theorem dX2_replaceGoal_6 : decode cX2_replaceGoal 6 = .ok (.iload_n 2, 1) := by decide +kernel
theorem dX2_replaceGoal_7 : decode cX2_replaceGoal 7 = .ok (.putfield 58, 3) := by decide +kernel
theorem dX2_replaceGoal_10 : decode cX2_replaceGoal 10 = .ok (.aload_n 0, 1) := by decide +kernel
theorem dX2_replaceGoal_11 : decode cX2_replaceGoal 11 = .ok (.aload_n 0, 1) := by decide +kernel
theorem dX2_replaceGoal_12 : decode cX2_replaceGoal 12 = .ok (.getfield 46, 3) := by decide +kernel
theorem dX2_replaceGoal_15 : decode cX2_replaceGoal 15 = .ok (.iload_n 1, 1) := by decide +kernel
theorem dX2_replaceGoal_16 : decode cX2_replaceGoal 16 = .ok (.iload_n 2, 1) := by decide +kernel
theorem dX2_replaceGoal_17 : decode cX2_replaceGoal 17 = .ok (.invokevirtual 149, 3) := by decide +kernel
theorem dX2_replaceGoal_20 : decode cX2_replaceGoal 20 = .ok (.ireturn, 1) := by decide +kernel
theorem dX2_replaceKept_0 : decode cX2_replaceKept 0 = .ok (.aload_n 0, 1) := by decide +kernel
theorem dX2_replaceKept_1 : decode cX2_replaceKept 1 = .ok (.getfield 61, 3) := by decide +kernel
theorem dX2_replaceKept_4 : decode cX2_replaceKept 4 = .ok (.istore_n 2, 1) := by decide +kernel
theorem dX2_replaceKept_5 : decode cX2_replaceKept 5 = .ok (.aload_n 0, 1) := by decide +kernel
theorem dX2_replaceKept_6 : decode cX2_replaceKept 6 = .ok (.iload_n 1, 1) := by decide +kernel
theorem dX2_replaceKept_7 : decode cX2_replaceKept 7 = .ok (.putfield 61, 3) := by decide +kernel
theorem dX2_replaceKept_10 : decode cX2_replaceKept 10 = .ok (.iload_n 2, 1) := by decide +kernel
theorem dX2_replaceKept_11 : decode cX2_replaceKept 11 = .ok (.ireturn, 1) := by decide +kernel
theorem dX2_passSteps_0 : decode cX2_passSteps 0 = .ok (.iconst 0, 1) := by decide +kernel
theorem dX2_passSteps_1 : decode cX2_passSteps 1 = .ok (.istore_n 2, 1) := by decide +kernel
theorem dX2_passSteps_2 : decode cX2_passSteps 2 = .ok (.iconst 0, 1) := by decide +kernel
theorem dX2_passSteps_3 : decode cX2_passSteps 3 = .ok (.istore_n 3, 1) := by decide +kernel
theorem dX2_passSteps_4 : decode cX2_passSteps 4 = .ok (.iload_n 3, 1) := by decide +kernel
theorem dX2_passSteps_5 : decode cX2_passSteps 5 = .ok (.iload_n 1, 1) := by decide +kernel
theorem dX2_passSteps_6 : decode cX2_passSteps 6 = .ok (.if_icmp .ge 61, 3) := by decide +kernel
theorem dX2_passSteps_9 : decode cX2_passSteps 9 = .ok (.iload_n 2, 1) := by decide +kernel
theorem dX2_passSteps_10 : decode cX2_passSteps 10 = .ok (.aload_n 0, 1) := by decide +kernel
theorem dX2_passSteps_11 : decode cX2_passSteps 11 = .ok (.invokevirtual 152, 3) := by decide +kernel
theorem dX2_passSteps_14 : decode cX2_passSteps 14 = .ok (.iadd, 1) := by decide +kernel
theorem dX2_passSteps_15 : decode cX2_passSteps 15 = .ok (.istore_n 2, 1) := by decide +kernel
theorem dX2_passSteps_16 : decode cX2_passSteps 16 = .ok (.iconst 0, 1) := by decide +kernel
theorem dX2_passSteps_17 : decode cX2_passSteps 17 = .ok (.istore 4, 2) := by decide +kernel
theorem dX2_passSteps_19 : decode cX2_passSteps 19 = .ok (.iload 4, 2) := by decide +kernel
theorem dX2_passSteps_21 : decode cX2_passSteps 21 = .ok (.aload_n 0, 1) := by decide +kernel
theorem dX2_passSteps_22 : decode cX2_passSteps 22 = .ok (.getfield 24, 3) := by decide +kernel
theorem dX2_passSteps_25 : decode cX2_passSteps 25 = .ok (.if_icmp .ge 18, 3) := by decide +kernel
theorem dX2_passSteps_28 : decode cX2_passSteps 28 = .ok (.iload_n 2, 1) := by decide +kernel
theorem dX2_passSteps_29 : decode cX2_passSteps 29 = .ok (.aload_n 0, 1) := by decide +kernel
theorem dX2_passSteps_30 : decode cX2_passSteps 30 = .ok (.iload 4, 2) := by decide +kernel
theorem dX2_passSteps_32 : decode cX2_passSteps 32 = .ok (.invokevirtual 156, 3) := by decide +kernel
theorem dX2_passSteps_35 : decode cX2_passSteps 35 = .ok (.iadd, 1) := by decide +kernel
theorem dX2_passSteps_36 : decode cX2_passSteps 36 = .ok (.istore_n 2, 1) := by decide +kernel
theorem dX2_passSteps_37 : decode cX2_passSteps 37 = .ok (.iinc 4 1, 3) := by decide +kernel
theorem dX2_passSteps_40 : decode cX2_passSteps 40 = .ok (.goto (-21), 3) := by decide +kernel
theorem dX2_passSteps_43 : decode cX2_passSteps 43 = .ok (.aload_n 0, 1) := by decide +kernel
theorem dX2_passSteps_44 : decode cX2_passSteps 44 = .ok (.invokevirtual 159, 3) := by decide +kernel
theorem dX2_passSteps_47 : decode cX2_passSteps 47 = .ok (.aload_n 0, 1) := by decide +kernel
theorem dX2_passSteps_48 : decode cX2_passSteps 48 = .ok (.dup, 1) := by decide +kernel
theorem dX2_passSteps_49 : decode cX2_passSteps 49 = .ok (.getfield 64, 3) := by decide +kernel
theorem dX2_passSteps_52 : decode cX2_passSteps 52 = .ok (.iconst 1, 1) := by decide +kernel
theorem dX2_passSteps_53 : decode cX2_passSteps 53 = .ok (.iadd, 1) := by decide +kernel
theorem dX2_passSteps_54 : decode cX2_passSteps 54 = .ok (.putfield 64, 3) := by decide +kernel
theorem dX2_passSteps_57 : decode cX2_passSteps 57 = .ok (.aload_n 0, 1) := by decide +kernel
theorem dX2_passSteps_58 : decode cX2_passSteps 58 = .ok (.invokevirtual 162, 3) := by decide +kernel
theorem dX2_passSteps_61 : decode cX2_passSteps 61 = .ok (.iinc 3 1, 3) := by decide +kernel
theorem dX2_passSteps_64 : decode cX2_passSteps 64 = .ok (.goto (-60), 3) := by decide +kernel
theorem dX2_passSteps_67 : decode cX2_passSteps 67 = .ok (.iload_n 2, 1) := by decide +kernel
theorem dX2_passSteps_68 : decode cX2_passSteps 68 = .ok (.ireturn, 1) := by decide +kernel
theorem dX2_moveLeader_0 : decode cX2_moveLeader 0 = .ok (.aload_n 0, 1) := by decide +kernel
theorem dX2_moveLeader_1 : decode cX2_moveLeader 1 = .ok (.aload_n 0, 1) := by decide +kernel
theorem dX2_moveLeader_2 : decode cX2_moveLeader 2 = .ok (.getfield 46, 3) := by decide +kernel
theorem dX2_moveLeader_5 : decode cX2_moveLeader 5 = .ok (.invokevirtual 90, 3) := by decide +kernel
theorem dX2_moveLeader_8 : decode cX2_moveLeader 8 = .ok (.ifCond .eq 17, 3) := by decide +kernel
theorem dX2_moveLeader_11 : decode cX2_moveLeader 11 = .ok (.aload_n 0, 1) := by decide +kernel
theorem dX2_moveLeader_12 : decode cX2_moveLeader 12 = .ok (.invokevirtual 165, 3) := by decide +kernel
theorem dX2_moveLeader_15 : decode cX2_moveLeader 15 = .ok (.ifCond .eq 10, 3) := by decide +kernel
theorem dX2_moveLeader_18 : decode cX2_moveLeader 18 = .ok (.aload_n 0, 1) := by decide +kernel
theorem dX2_moveLeader_19 : decode cX2_moveLeader 19 = .ok (.invokevirtual 169, 3) := by decide +kernel
theorem dX2_moveLeader_22 : decode cX2_moveLeader 22 = .ok (.ifCond .eq 5, 3) := by decide +kernel
theorem dX2_moveLeader_25 : decode cX2_moveLeader 25 = .ok (.iconst 0, 1) := by decide +kernel
theorem dX2_moveLeader_26 : decode cX2_moveLeader 26 = .ok (.ireturn, 1) := by decide +kernel
theorem dX2_moveLeader_27 : decode cX2_moveLeader 27 = .ok (.aload_n 0, 1) := by decide +kernel
theorem dX2_moveLeader_28 : decode cX2_moveLeader 28 = .ok (.getfield 9, 3) := by decide +kernel
theorem dX2_moveLeader_31 : decode cX2_moveLeader 31 = .ok (.aload_n 0, 1) := by decide +kernel
theorem dX2_moveLeader_32 : decode cX2_moveLeader 32 = .ok (.getfield 46, 3) := by decide +kernel
theorem dX2_moveLeader_35 : decode cX2_moveLeader 35 = .ok (.iaload, 1) := by decide +kernel
theorem dX2_moveLeader_36 : decode cX2_moveLeader 36 = .ok (.istore_n 1, 1) := by decide +kernel
theorem dX2_moveLeader_37 : decode cX2_moveLeader 37 = .ok (.aload_n 0, 1) := by decide +kernel
theorem dX2_moveLeader_38 : decode cX2_moveLeader 38 = .ok (.getfield 15, 3) := by decide +kernel
theorem dX2_moveLeader_41 : decode cX2_moveLeader 41 = .ok (.aload_n 0, 1) := by decide +kernel
theorem dX2_moveLeader_42 : decode cX2_moveLeader 42 = .ok (.getfield 46, 3) := by decide +kernel
theorem dX2_moveLeader_45 : decode cX2_moveLeader 45 = .ok (.iaload, 1) := by decide +kernel
theorem dX2_moveLeader_46 : decode cX2_moveLeader 46 = .ok (.istore_n 2, 1) := by decide +kernel
theorem dX2_moveLeader_47 : decode cX2_moveLeader 47 = .ok (.iload_n 1, 1) := by decide +kernel
theorem dX2_moveLeader_48 : decode cX2_moveLeader 48 = .ok (.aload_n 0, 1) := by decide +kernel
theorem dX2_moveLeader_49 : decode cX2_moveLeader 49 = .ok (.getfield 55, 3) := by decide +kernel
theorem dX2_moveLeader_52 : decode cX2_moveLeader 52 = .ok (.invokestatic 172, 3) := by decide +kernel
theorem dX2_moveLeader_55 : decode cX2_moveLeader 55 = .ok (.istore_n 3, 1) := by decide +kernel
theorem dX2_moveLeader_56 : decode cX2_moveLeader 56 = .ok (.iload_n 2, 1) := by decide +kernel
theorem dX2_moveLeader_57 : decode cX2_moveLeader 57 = .ok (.aload_n 0, 1) := by decide +kernel
theorem dX2_moveLeader_58 : decode cX2_moveLeader 58 = .ok (.getfield 58, 3) := by decide +kernel
theorem dX2_moveLeader_61 : decode cX2_moveLeader 61 = .ok (.invokestatic 172, 3) := by decide +kernel
theorem dX2_moveLeader_64 : decode cX2_moveLeader 64 = .ok (.istore 4, 2) := by decide +kernel
theorem dX2_moveLeader_66 : decode cX2_moveLeader 66 = .ok (.aload_n 0, 1) := by decide +kernel
theorem dX2_moveLeader_67 : decode cX2_moveLeader 67 = .ok (.getfield 55, 3) := by decide +kernel
theorem dX2_moveLeader_70 : decode cX2_moveLeader 70 = .ok (.iload_n 1, 1) := by decide +kernel
theorem dX2_moveLeader_71 : decode cX2_moveLeader 71 = .ok (.isub, 1) := by decide +kernel
theorem dX2_moveLeader_72 : decode cX2_moveLeader 72 = .ok (.invokestatic 175, 3) := by decide +kernel
theorem dX2_moveLeader_75 : decode cX2_moveLeader 75 = .ok (.aload_n 0, 1) := by decide +kernel
theorem dX2_moveLeader_76 : decode cX2_moveLeader 76 = .ok (.getfield 58, 3) := by decide +kernel
theorem dX2_moveLeader_79 : decode cX2_moveLeader 79 = .ok (.iload_n 2, 1) := by decide +kernel
theorem dX2_moveLeader_80 : decode cX2_moveLeader 80 = .ok (.isub, 1) := by decide +kernel
theorem dX2_moveLeader_81 : decode cX2_moveLeader 81 = .ok (.invokestatic 175, 3) := by decide +kernel
theorem dX2_moveLeader_84 : decode cX2_moveLeader 84 = .ok (.if_icmp .lt 7, 3) := by decide +kernel
theorem dX2_moveLeader_87 : decode cX2_moveLeader 87 = .ok (.iconst 1, 1) := by decide +kernel
theorem dX2_moveLeader_88 : decode cX2_moveLeader 88 = .ok (.goto 4, 3) := by decide +kernel
theorem dX2_moveLeader_91 : decode cX2_moveLeader 91 = .ok (.iconst 0, 1) := by decide +kernel
theorem dX2_moveLeader_92 : decode cX2_moveLeader 92 = .ok (.istore 5, 2) := by decide +kernel
theorem dX2_moveLeader_94 : decode cX2_moveLeader 94 = .ok (.iload 5, 2) := by decide +kernel
theorem dX2_moveLeader_96 : decode cX2_moveLeader 96 = .ok (.ifCond .eq 17, 3) := by decide +kernel
theorem dX2_moveLeader_99 : decode cX2_moveLeader 99 = .ok (.iload 4, 2) := by decide +kernel
theorem dX2_moveLeader_101 : decode cX2_moveLeader 101 = .ok (.iload_n 2, 1) := by decide +kernel
theorem dX2_moveLeader_102 : decode cX2_moveLeader 102 = .ok (.if_icmp .eq 7, 3) := by decide +kernel
theorem dX2_moveLeader_105 : decode cX2_moveLeader 105 = .ok (.iconst 1, 1) := by decide +kernel
theorem dX2_moveLeader_106 : decode cX2_moveLeader 106 = .ok (.goto 17, 3) := by decide +kernel
theorem dX2_moveLeader_109 : decode cX2_moveLeader 109 = .ok (.iconst 0, 1) := by decide +kernel
theorem dX2_moveLeader_110 : decode cX2_moveLeader 110 = .ok (.goto 13, 3) := by decide +kernel
theorem dX2_moveLeader_113 : decode cX2_moveLeader 113 = .ok (.iload_n 3, 1) := by decide +kernel
theorem dX2_moveLeader_114 : decode cX2_moveLeader 114 = .ok (.iload_n 1, 1) := by decide +kernel
theorem dX2_moveLeader_115 : decode cX2_moveLeader 115 = .ok (.if_icmp .eq 7, 3) := by decide +kernel
theorem dX2_moveLeader_118 : decode cX2_moveLeader 118 = .ok (.iconst 1, 1) := by decide +kernel
theorem dX2_moveLeader_119 : decode cX2_moveLeader 119 = .ok (.goto 4, 3) := by decide +kernel
theorem dX2_moveLeader_122 : decode cX2_moveLeader 122 = .ok (.iconst 0, 1) := by decide +kernel
theorem dX2_moveLeader_123 : decode cX2_moveLeader 123 = .ok (.istore 6, 2) := by decide +kernel
theorem dX2_moveLeader_125 : decode cX2_moveLeader 125 = .ok (.aload_n 0, 1) := by decide +kernel
theorem dX2_moveLeader_126 : decode cX2_moveLeader 126 = .ok (.aload_n 0, 1) := by decide +kernel
theorem dX2_moveLeader_127 : decode cX2_moveLeader 127 = .ok (.getfield 46, 3) := by decide +kernel
theorem dX2_moveLeader_130 : decode cX2_moveLeader 130 = .ok (.iload 5, 2) := by decide +kernel
theorem dX2_moveLeader_132 : decode cX2_moveLeader 132 = .ok (.ifCond .eq 7, 3) := by decide +kernel
theorem dX2_moveLeader_135 : decode cX2_moveLeader 135 = .ok (.iload_n 3, 1) := by decide +kernel
theorem dX2_moveLeader_136 : decode cX2_moveLeader 136 = .ok (.goto 4, 3) := by decide +kernel
theorem dX2_moveLeader_139 : decode cX2_moveLeader 139 = .ok (.iload_n 1, 1) := by decide +kernel
theorem dX2_moveLeader_140 : decode cX2_moveLeader 140 = .ok (.iload 5, 2) := by decide +kernel
theorem dX2_moveLeader_142 : decode cX2_moveLeader 142 = .ok (.ifCond .eq 7, 3) := by decide +kernel
theorem dX2_moveLeader_145 : decode cX2_moveLeader 145 = .ok (.iload_n 2, 1) := by decide +kernel
theorem dX2_moveLeader_146 : decode cX2_moveLeader 146 = .ok (.goto 5, 3) := by decide +kernel
theorem dX2_moveLeader_149 : decode cX2_moveLeader 149 = .ok (.iload 4, 2) := by decide +kernel
theorem dX2_moveLeader_151 : decode cX2_moveLeader 151 = .ok (.invokevirtual 180, 3) := by decide +kernel
theorem dX2_moveLeader_154 : decode cX2_moveLeader 154 = .ok (.ifCond .eq 5, 3) := by decide +kernel
theorem dX2_moveLeader_157 : decode cX2_moveLeader 157 = .ok (.iconst 1, 1) := by decide +kernel
theorem dX2_moveLeader_158 : decode cX2_moveLeader 158 = .ok (.ireturn, 1) := by decide +kernel
theorem dX2_moveLeader_159 : decode cX2_moveLeader 159 = .ok (.iload 6, 2) := by decide +kernel
theorem dX2_moveLeader_161 : decode cX2_moveLeader 161 = .ok (.ifCond .eq 37, 3) := by decide +kernel
theorem dX2_moveLeader_164 : decode cX2_moveLeader 164 = .ok (.aload_n 0, 1) := by decide +kernel
theorem dX2_moveLeader_165 : decode cX2_moveLeader 165 = .ok (.aload_n 0, 1) := by decide +kernel
theorem dX2_moveLeader_166 : decode cX2_moveLeader 166 = .ok (.getfield 46, 3) := by decide +kernel
theorem dX2_moveLeader_169 : decode cX2_moveLeader 169 = .ok (.iload 5, 2) := by decide +kernel
theorem dX2_moveLeader_171 : decode cX2_moveLeader 171 = .ok (.ifCond .eq 7, 3) := by decide +kernel
theorem dX2_moveLeader_174 : decode cX2_moveLeader 174 = .ok (.iload_n 1, 1) := by decide +kernel
theorem dX2_moveLeader_175 : decode cX2_moveLeader 175 = .ok (.goto 4, 3) := by decide +kernel
theorem dX2_moveLeader_178 : decode cX2_moveLeader 178 = .ok (.iload_n 3, 1) := by decide +kernel
theorem dX2_moveLeader_179 : decode cX2_moveLeader 179 = .ok (.iload 5, 2) := by decide +kernel
theorem dX2_moveLeader_181 : decode cX2_moveLeader 181 = .ok (.ifCond .eq 8, 3) := by decide +kernel
theorem dX2_moveLeader_184 : decode cX2_moveLeader 184 = .ok (.iload 4, 2) := by decide +kernel
theorem dX2_moveLeader_186 : decode cX2_moveLeader 186 = .ok (.goto 4, 3) := by decide +kernel
theorem dX2_moveLeader_189 : decode cX2_moveLeader 189 = .ok (.iload_n 2, 1) := by decide +kernel
theorem dX2_moveLeader_190 : decode cX2_moveLeader 190 = .ok (.invokevirtual 180, 3) := by decide +kernel
theorem dX2_moveLeader_193 : decode cX2_moveLeader 193 = .ok (.ifCond .eq 5, 3) := by decide +kernel
theorem dX2_moveLeader_196 : decode cX2_moveLeader 196 = .ok (.iconst 1, 1) := by decide +kernel
theorem dX2_moveLeader_197 : decode cX2_moveLeader 197 = .ok (.ireturn, 1) := by decide +kernel
theorem dX2_moveLeader_198 : decode cX2_moveLeader 198 = .ok (.aload_n 0, 1) := by decide +kernel
theorem dX2_moveLeader_199 : decode cX2_moveLeader 199 = .ok (.dup, 1) := by decide +kernel
theorem dX2_moveLeader_200 : decode cX2_moveLeader 200 = .ok (.getfield 67, 3) := by decide +kernel
theorem dX2_moveLeader_203 : decode cX2_moveLeader 203 = .ok (.iconst 1, 1) := by decide +kernel
theorem dX2_moveLeader_204 : decode cX2_moveLeader 204 = .ok (.iadd, 1) := by decide +kernel
theorem dX2_moveLeader_205 : decode cX2_moveLeader 205 = .ok (.putfield 67, 3) := by decide +kernel
theorem dX2_moveLeader_208 : decode cX2_moveLeader 208 = .ok (.iconst 0, 1) := by decide +kernel
theorem dX2_moveLeader_209 : decode cX2_moveLeader 209 = .ok (.ireturn, 1) := by decide +kernel
theorem dX2_oneTowards_0 : decode cX2_oneTowards 0 = .ok (.iload_n 0, 1) := by decide +kernel
theorem dX2_oneTowards_1 : decode cX2_oneTowards 1 = .ok (.iload_n 1, 1) := by decide +kernel
theorem dX2_oneTowards_2 : decode cX2_oneTowards 2 = .ok (.if_icmp .ne 5, 3) := by decide +kernel
theorem dX2_oneTowards_5 : decode cX2_oneTowards 5 = .ok (.iload_n 0, 1) := by decide +kernel
theorem dX2_oneTowards_6 : decode cX2_oneTowards 6 = .ok (.ireturn, 1) := by decide +kernel
theorem dX2_oneTowards_7 : decode cX2_oneTowards 7 = .ok (.iload_n 0, 1) := by decide +kernel
theorem dX2_oneTowards_8 : decode cX2_oneTowards 8 = .ok (.iload_n 1, 1) := by decide +kernel
theorem dX2_oneTowards_9 : decode cX2_oneTowards 9 = .ok (.if_icmp .ge 9, 3) := by decide +kernel
theorem dX2_oneTowards_12 : decode cX2_oneTowards 12 = .ok (.iload_n 0, 1) := by decide +kernel
theorem dX2_oneTowards_13 : decode cX2_oneTowards 13 = .ok (.iconst 1, 1) := by decide +kernel
theorem dX2_oneTowards_14 : decode cX2_oneTowards 14 = .ok (.iadd, 1) := by decide +kernel
theorem dX2_oneTowards_15 : decode cX2_oneTowards 15 = .ok (.goto 6, 3) := by decide +kernel
theorem dX2_oneTowards_18 : decode cX2_oneTowards 18 = .ok (.iload_n 0, 1) := by decide +kernel
theorem dX2_oneTowards_19 : decode cX2_oneTowards 19 = .ok (.iconst 1, 1) := by decide +kernel
theorem dX2_oneTowards_20 : decode cX2_oneTowards 20 = .ok (.isub, 1) := by decide +kernel
theorem dX2_oneTowards_21 : decode cX2_oneTowards 21 = .ok (.ireturn, 1) := by decide +kernel
theorem dX2_moveFollower_0 : decode cX2_moveFollower 0 = .ok (.iload_n 1, 1) := by decide +kernel
theorem dX2_moveFollower_1 : decode cX2_moveFollower 1 = .ok (.aload_n 0, 1) := by decide +kernel
theorem dX2_moveFollower_2 : decode cX2_moveFollower 2 = .ok (.getfield 46, 3) := by decide +kernel
theorem dX2_moveFollower_5 : decode cX2_moveFollower 5 = .ok (.if_icmp .eq 19, 3) := by decide +kernel
theorem dX2_moveFollower_8 : decode cX2_moveFollower 8 = .ok (.aload_n 0, 1) := by decide +kernel
theorem dX2_moveFollower_9 : decode cX2_moveFollower 9 = .ok (.iload_n 1, 1) := by decide +kernel
theorem dX2_moveFollower_10 : decode cX2_moveFollower 10 = .ok (.aload_n 0, 1) := by decide +kernel
theorem dX2_moveFollower_11 : decode cX2_moveFollower 11 = .ok (.getfield 46, 3) := by decide +kernel
theorem dX2_moveFollower_14 : decode cX2_moveFollower 14 = .ok (.invokevirtual 183, 3) := by decide +kernel
theorem dX2_moveFollower_17 : decode cX2_moveFollower 17 = .ok (.aload_n 0, 1) := by decide +kernel
theorem dX2_moveFollower_18 : decode cX2_moveFollower 18 = .ok (.getfield 61, 3) := by decide +kernel
theorem dX2_moveFollower_21 : decode cX2_moveFollower 21 = .ok (.if_icmp .gt 5, 3) := by decide +kernel
theorem dX2_moveFollower_24 : decode cX2_moveFollower 24 = .ok (.iconst 0, 1) := by decide +kernel
theorem dX2_moveFollower_25 : decode cX2_moveFollower 25 = .ok (.ireturn, 1) := by decide +kernel
theorem dX2_moveFollower_26 : decode cX2_moveFollower 26 = .ok (.aload_n 0, 1) := by decide +kernel
theorem dX2_moveFollower_27 : decode cX2_moveFollower 27 = .ok (.getfield 9, 3) := by decide +kernel
theorem dX2_moveFollower_30 : decode cX2_moveFollower 30 = .ok (.iload_n 1, 1) := by decide +kernel
theorem dX2_moveFollower_31 : decode cX2_moveFollower 31 = .ok (.iaload, 1) := by decide +kernel
theorem dX2_moveFollower_32 : decode cX2_moveFollower 32 = .ok (.istore_n 2, 1) := by decide +kernel
theorem dX2_moveFollower_33 : decode cX2_moveFollower 33 = .ok (.aload_n 0, 1) := by decide +kernel
theorem dX2_moveFollower_34 : decode cX2_moveFollower 34 = .ok (.getfield 15, 3) := by decide +kernel
theorem dX2_moveFollower_37 : decode cX2_moveFollower 37 = .ok (.iload_n 1, 1) := by decide +kernel
theorem dX2_moveFollower_38 : decode cX2_moveFollower 38 = .ok (.iaload, 1) := by decide +kernel
theorem dX2_moveFollower_39 : decode cX2_moveFollower 39 = .ok (.istore_n 3, 1) := by decide +kernel
theorem dX2_moveFollower_40 : decode cX2_moveFollower 40 = .ok (.iload_n 3, 1) := by decide +kernel
theorem dX2_moveFollower_41 : decode cX2_moveFollower 41 = .ok (.aload_n 0, 1) := by decide +kernel
theorem dX2_moveFollower_42 : decode cX2_moveFollower 42 = .ok (.getfield 15, 3) := by decide +kernel
theorem dX2_moveFollower_45 : decode cX2_moveFollower 45 = .ok (.aload_n 0, 1) := by decide +kernel
theorem dX2_moveFollower_46 : decode cX2_moveFollower 46 = .ok (.getfield 46, 3) := by decide +kernel
theorem dX2_moveFollower_49 : decode cX2_moveFollower 49 = .ok (.iaload, 1) := by decide +kernel
theorem dX2_moveFollower_50 : decode cX2_moveFollower 50 = .ok (.if_icmp .ge 15, 3) := by decide +kernel
theorem dX2_moveFollower_53 : decode cX2_moveFollower 53 = .ok (.aload_n 0, 1) := by decide +kernel
theorem dX2_moveFollower_54 : decode cX2_moveFollower 54 = .ok (.iload_n 1, 1) := by decide +kernel
theorem dX2_moveFollower_55 : decode cX2_moveFollower 55 = .ok (.iload_n 2, 1) := by decide +kernel
theorem dX2_moveFollower_56 : decode cX2_moveFollower 56 = .ok (.iload_n 3, 1) := by decide +kernel
theorem dX2_moveFollower_57 : decode cX2_moveFollower 57 = .ok (.iconst 1, 1) := by decide +kernel
theorem dX2_moveFollower_58 : decode cX2_moveFollower 58 = .ok (.iadd, 1) := by decide +kernel
theorem dX2_moveFollower_59 : decode cX2_moveFollower 59 = .ok (.invokevirtual 180, 3) := by decide +kernel
theorem dX2_moveFollower_62 : decode cX2_moveFollower 62 = .ok (.ifCond .ne 78, 3) := by decide +kernel
theorem dX2_moveFollower_65 : decode cX2_moveFollower 65 = .ok (.iload_n 2, 1) := by decide +kernel
theorem dX2_moveFollower_66 : decode cX2_moveFollower 66 = .ok (.aload_n 0, 1) := by decide +kernel
theorem dX2_moveFollower_67 : decode cX2_moveFollower 67 = .ok (.getfield 9, 3) := by decide +kernel
theorem dX2_moveFollower_70 : decode cX2_moveFollower 70 = .ok (.aload_n 0, 1) := by decide +kernel
theorem dX2_moveFollower_71 : decode cX2_moveFollower 71 = .ok (.getfield 46, 3) := by decide +kernel
theorem dX2_moveFollower_74 : decode cX2_moveFollower 74 = .ok (.iaload, 1) := by decide +kernel
theorem dX2_moveFollower_75 : decode cX2_moveFollower 75 = .ok (.if_icmp .ge 15, 3) := by decide +kernel
theorem dX2_moveFollower_78 : decode cX2_moveFollower 78 = .ok (.aload_n 0, 1) := by decide +kernel
theorem dX2_moveFollower_79 : decode cX2_moveFollower 79 = .ok (.iload_n 1, 1) := by decide +kernel
theorem dX2_moveFollower_80 : decode cX2_moveFollower 80 = .ok (.iload_n 2, 1) := by decide +kernel
theorem dX2_moveFollower_81 : decode cX2_moveFollower 81 = .ok (.iconst 1, 1) := by decide +kernel
theorem dX2_moveFollower_82 : decode cX2_moveFollower 82 = .ok (.iadd, 1) := by decide +kernel
theorem dX2_moveFollower_83 : decode cX2_moveFollower 83 = .ok (.iload_n 3, 1) := by decide +kernel
theorem dX2_moveFollower_84 : decode cX2_moveFollower 84 = .ok (.invokevirtual 180, 3) := by decide +kernel
theorem dX2_moveFollower_87 : decode cX2_moveFollower 87 = .ok (.ifCond .ne 53, 3) := by decide +kernel
theorem dX2_moveFollower_90 : decode cX2_moveFollower 90 = .ok (.iload_n 3, 1) := by decide +kernel
theorem dX2_moveFollower_91 : decode cX2_moveFollower 91 = .ok (.aload_n 0, 1) := by decide +kernel
theorem dX2_moveFollower_92 : decode cX2_moveFollower 92 = .ok (.getfield 15, 3) := by decide +kernel
theorem dX2_moveFollower_95 : decode cX2_moveFollower 95 = .ok (.aload_n 0, 1) := by decide +kernel
theorem dX2_moveFollower_96 : decode cX2_moveFollower 96 = .ok (.getfield 46, 3) := by decide +kernel
theorem dX2_moveFollower_99 : decode cX2_moveFollower 99 = .ok (.iaload, 1) := by decide +kernel
theorem dX2_moveFollower_100 : decode cX2_moveFollower 100 = .ok (.if_icmp .le 15, 3) := by decide +kernel
theorem dX2_moveFollower_103 : decode cX2_moveFollower 103 = .ok (.aload_n 0, 1) := by decide +kernel
theorem dX2_moveFollower_104 : decode cX2_moveFollower 104 = .ok (.iload_n 1, 1) := by decide +kernel
theorem dX2_moveFollower_105 : decode cX2_moveFollower 105 = .ok (.iload_n 2, 1) := by decide +kernel
theorem dX2_moveFollower_106 : decode cX2_moveFollower 106 = .ok (.iload_n 3, 1) := by decide +kernel
theorem dX2_moveFollower_107 : decode cX2_moveFollower 107 = .ok (.iconst 1, 1) := by decide +kernel
theorem dX2_moveFollower_108 : decode cX2_moveFollower 108 = .ok (.isub, 1) := by decide +kernel
theorem dX2_moveFollower_109 : decode cX2_moveFollower 109 = .ok (.invokevirtual 180, 3) := by decide +kernel
theorem dX2_moveFollower_112 : decode cX2_moveFollower 112 = .ok (.ifCond .ne 28, 3) := by decide +kernel
theorem dX2_moveFollower_115 : decode cX2_moveFollower 115 = .ok (.iload_n 2, 1) := by decide +kernel
theorem dX2_moveFollower_116 : decode cX2_moveFollower 116 = .ok (.aload_n 0, 1) := by decide +kernel
theorem dX2_moveFollower_117 : decode cX2_moveFollower 117 = .ok (.getfield 9, 3) := by decide +kernel
theorem dX2_moveFollower_120 : decode cX2_moveFollower 120 = .ok (.aload_n 0, 1) := by decide +kernel
theorem dX2_moveFollower_121 : decode cX2_moveFollower 121 = .ok (.getfield 46, 3) := by decide +kernel
theorem dX2_moveFollower_124 : decode cX2_moveFollower 124 = .ok (.iaload, 1) := by decide +kernel
theorem dX2_moveFollower_125 : decode cX2_moveFollower 125 = .ok (.if_icmp .le 19, 3) := by decide +kernel
theorem dX2_moveFollower_128 : decode cX2_moveFollower 128 = .ok (.aload_n 0, 1) := by decide +kernel
theorem dX2_moveFollower_129 : decode cX2_moveFollower 129 = .ok (.iload_n 1, 1) := by decide +kernel
theorem dX2_moveFollower_130 : decode cX2_moveFollower 130 = .ok (.iload_n 2, 1) := by decide +kernel
theorem dX2_moveFollower_131 : decode cX2_moveFollower 131 = .ok (.iconst 1, 1) := by decide +kernel
theorem dX2_moveFollower_132 : decode cX2_moveFollower 132 = .ok (.isub, 1) := by decide +kernel
theorem dX2_moveFollower_133 : decode cX2_moveFollower 133 = .ok (.iload_n 3, 1) := by decide +kernel
theorem dX2_moveFollower_134 : decode cX2_moveFollower 134 = .ok (.invokevirtual 180, 3) := by decide +kernel
theorem dX2_moveFollower_137 : decode cX2_moveFollower 137 = .ok (.ifCond .eq 7, 3) := by decide +kernel
theorem dX2_moveFollower_140 : decode cX2_moveFollower 140 = .ok (.iconst 1, 1) := by decide +kernel
theorem dX2_moveFollower_141 : decode cX2_moveFollower 141 = .ok (.goto 4, 3) := by decide +kernel
theorem dX2_moveFollower_144 : decode cX2_moveFollower 144 = .ok (.iconst 0, 1) := by decide +kernel
theorem dX2_moveFollower_145 : decode cX2_moveFollower 145 = .ok (.istore 4, 2) := by decide +kernel
theorem dX2_moveFollower_147 : decode cX2_moveFollower 147 = .ok (.iload 4, 2) := by decide +kernel
theorem dX2_moveFollower_149 : decode cX2_moveFollower 149 = .ok (.ifCond .ne 13, 3) := by decide +kernel
theorem dX2_moveFollower_152 : decode cX2_moveFollower 152 = .ok (.aload_n 0, 1) := by decide +kernel
theorem dX2_moveFollower_153 : decode cX2_moveFollower 153 = .ok (.dup, 1) := by decide +kernel
theorem dX2_moveFollower_154 : decode cX2_moveFollower 154 = .ok (.getfield 67, 3) := by decide +kernel
theorem dX2_moveFollower_157 : decode cX2_moveFollower 157 = .ok (.iconst 1, 1) := by decide +kernel
theorem dX2_moveFollower_158 : decode cX2_moveFollower 158 = .ok (.iadd, 1) := by decide +kernel
theorem dX2_moveFollower_159 : decode cX2_moveFollower 159 = .ok (.putfield 67, 3) := by decide +kernel
theorem dX2_moveFollower_162 : decode cX2_moveFollower 162 = .ok (.iload 4, 2) := by decide +kernel
theorem dX2_moveFollower_164 : decode cX2_moveFollower 164 = .ok (.ifCond .eq 7, 3) := by decide +kernel
theorem dX2_moveFollower_167 : decode cX2_moveFollower 167 = .ok (.iconst 1, 1) := by decide +kernel
theorem dX2_moveFollower_168 : decode cX2_moveFollower 168 = .ok (.goto 4, 3) := by decide +kernel
theorem dX2_moveFollower_171 : decode cX2_moveFollower 171 = .ok (.iconst 0, 1) := by decide +kernel
theorem dX2_moveFollower_172 : decode cX2_moveFollower 172 = .ok (.ireturn, 1) := by decide +kernel
theorem dX2_goTo_0 : decode cX2_goTo 0 = .ok (.aload_n 0, 1) := by decide +kernel
theorem dX2_goTo_1 : decode cX2_goTo 1 = .ok (.iload_n 1, 1) := by decide +kernel
theorem dX2_goTo_2 : decode cX2_goTo 2 = .ok (.invokevirtual 90, 3) := by decide +kernel
theorem dX2_goTo_5 : decode cX2_goTo 5 = .ok (.ifCond .eq 13, 3) := by decide +kernel
theorem dX2_goTo_8 : decode cX2_goTo 8 = .ok (.aload_n 0, 1) := by decide +kernel
theorem dX2_goTo_9 : decode cX2_goTo 9 = .ok (.iload_n 1, 1) := by decide +kernel
theorem dX2_goTo_10 : decode cX2_goTo 10 = .ok (.iload_n 2, 1) := by decide +kernel
theorem dX2_goTo_11 : decode cX2_goTo 11 = .ok (.iload_n 3, 1) := by decide +kernel
theorem dX2_goTo_12 : decode cX2_goTo 12 = .ok (.invokevirtual 111, 3) := by decide +kernel
theorem dX2_goTo_15 : decode cX2_goTo 15 = .ok (.ifCond .ne 5, 3) := by decide +kernel
theorem dX2_goTo_18 : decode cX2_goTo 18 = .ok (.iconst 0, 1) := by decide +kernel
theorem dX2_goTo_19 : decode cX2_goTo 19 = .ok (.ireturn, 1) := by decide +kernel
theorem dX2_goTo_20 : decode cX2_goTo 20 = .ok (.aload_n 0, 1) := by decide +kernel
theorem dX2_goTo_21 : decode cX2_goTo 21 = .ok (.getfield 9, 3) := by decide +kernel
theorem dX2_goTo_24 : decode cX2_goTo 24 = .ok (.iload_n 1, 1) := by decide +kernel
theorem dX2_goTo_25 : decode cX2_goTo 25 = .ok (.iload_n 2, 1) := by decide +kernel
theorem dX2_goTo_26 : decode cX2_goTo 26 = .ok (.iastore, 1) := by decide +kernel
theorem dX2_goTo_27 : decode cX2_goTo 27 = .ok (.aload_n 0, 1) := by decide +kernel
theorem dX2_goTo_28 : decode cX2_goTo 28 = .ok (.getfield 15, 3) := by decide +kernel
theorem dX2_goTo_31 : decode cX2_goTo 31 = .ok (.iload_n 1, 1) := by decide +kernel
theorem dX2_goTo_32 : decode cX2_goTo 32 = .ok (.iload_n 3, 1) := by decide +kernel
theorem dX2_goTo_33 : decode cX2_goTo 33 = .ok (.iastore, 1) := by decide +kernel
theorem dX2_goTo_34 : decode cX2_goTo 34 = .ok (.aload_n 0, 1) := by decide +kernel
theorem dX2_goTo_35 : decode cX2_goTo 35 = .ok (.getfield 21, 3) := by decide +kernel
theorem dX2_goTo_38 : decode cX2_goTo 38 = .ok (.iload_n 1, 1) := by decide +kernel
theorem dX2_goTo_39 : decode cX2_goTo 39 = .ok (.dup2, 1) := by decide +kernel
theorem dX2_goTo_40 : decode cX2_goTo 40 = .ok (.iaload, 1) := by decide +kernel
theorem dX2_goTo_41 : decode cX2_goTo 41 = .ok (.iconst 1, 1) := by decide +kernel
theorem dX2_goTo_42 : decode cX2_goTo 42 = .ok (.iadd, 1) := by decide +kernel
theorem dX2_goTo_43 : decode cX2_goTo 43 = .ok (.iastore, 1) := by decide +kernel
theorem dX2_goTo_44 : decode cX2_goTo 44 = .ok (.iconst 1, 1) := by decide +kernel
theorem dX2_goTo_45 : decode cX2_goTo 45 = .ok (.ireturn, 1) := by decide +kernel
theorem dX2_rememberShape_0 : decode cX2_rememberShape 0 = .ok (.aload_n 0, 1) := by decide +kernel
theorem dX2_rememberShape_1 : decode cX2_rememberShape 1 = .ok (.getfield 24, 3) := by decide +kernel
theorem dX2_rememberShape_4 : decode cX2_rememberShape 4 = .ok (.ifCond .le 18, 3) := by decide +kernel
theorem dX2_rememberShape_7 : decode cX2_rememberShape 7 = .ok (.aload_n 0, 1) := by decide +kernel
theorem dX2_rememberShape_8 : decode cX2_rememberShape 8 = .ok (.invokevirtual 186, 3) := by decide +kernel
theorem dX2_rememberShape_11 : decode cX2_rememberShape 11 = .ok (.aload_n 0, 1) := by decide +kernel
theorem dX2_rememberShape_12 : decode cX2_rememberShape 12 = .ok (.getfield 38, 3) := by decide +kernel
theorem dX2_rememberShape_15 : decode cX2_rememberShape 15 = .ok (.aload_n 0, 1) := by decide +kernel
theorem dX2_rememberShape_16 : decode cX2_rememberShape 16 = .ok (.getfield 42, 3) := by decide +kernel
theorem dX2_rememberShape_19 : decode cX2_rememberShape 19 = .ok (.invokevirtual 189, 3) := by decide +kernel
theorem dX2_rememberShape_22 : decode cX2_rememberShape 22 = .ok (.return_, 1) := by decide +kernel
theorem dX2_passLead_0 : decode cX2_passLead 0 = .ok (.aload_n 0, 1) := by decide +kernel
theorem dX2_passLead_1 : decode cX2_passLead 1 = .ok (.getfield 24, 3) := by decide +kernel
theorem dX2_passLead_4 : decode cX2_passLead 4 = .ok (.iconst 1, 1) := by decide +kernel
theorem dX2_passLead_5 : decode cX2_passLead 5 = .ok (.if_icmp .ge 4, 3) := by decide +kernel
theorem dX2_passLead_8 : decode cX2_passLead 8 = .ok (.return_, 1) := by decide +kernel
theorem dX2_passLead_9 : decode cX2_passLead 9 = .ok (.aload_n 0, 1) := by decide +kernel
theorem dX2_passLead_10 : decode cX2_passLead 10 = .ok (.dup, 1) := by decide +kernel
theorem dX2_passLead_11 : decode cX2_passLead 11 = .ok (.getfield 49, 3) := by decide +kernel
theorem dX2_passLead_14 : decode cX2_passLead 14 = .ok (.iconst 1, 1) := by decide +kernel
theorem dX2_passLead_15 : decode cX2_passLead 15 = .ok (.iadd, 1) := by decide +kernel
theorem dX2_passLead_16 : decode cX2_passLead 16 = .ok (.putfield 49, 3) := by decide +kernel
theorem dX2_passLead_19 : decode cX2_passLead 19 = .ok (.aload_n 0, 1) := by decide +kernel
theorem dX2_passLead_20 : decode cX2_passLead 20 = .ok (.getfield 49, 3) := by decide +kernel
theorem dX2_passLead_23 : decode cX2_passLead 23 = .ok (.aload_n 0, 1) := by decide +kernel
theorem dX2_passLead_24 : decode cX2_passLead 24 = .ok (.getfield 52, 3) := by decide +kernel
theorem dX2_passLead_27 : decode cX2_passLead 27 = .ok (.if_icmp .lt 35, 3) := by decide +kernel
theorem dX2_passLead_30 : decode cX2_passLead 30 = .ok (.aload_n 0, 1) := by decide +kernel
theorem dX2_passLead_31 : decode cX2_passLead 31 = .ok (.iconst 0, 1) := by decide +kernel
theorem dX2_passLead_32 : decode cX2_passLead 32 = .ok (.putfield 49, 3) := by decide +kernel
theorem dX2_passLead_35 : decode cX2_passLead 35 = .ok (.aload_n 0, 1) := by decide +kernel
theorem dX2_passLead_36 : decode cX2_passLead 36 = .ok (.aload_n 0, 1) := by decide +kernel
theorem dX2_passLead_37 : decode cX2_passLead 37 = .ok (.getfield 46, 3) := by decide +kernel
theorem dX2_passLead_40 : decode cX2_passLead 40 = .ok (.iconst 1, 1) := by decide +kernel
theorem dX2_passLead_41 : decode cX2_passLead 41 = .ok (.iadd, 1) := by decide +kernel
theorem dX2_passLead_42 : decode cX2_passLead 42 = .ok (.aload_n 0, 1) := by decide +kernel
theorem dX2_passLead_43 : decode cX2_passLead 43 = .ok (.getfield 24, 3) := by decide +kernel
theorem dX2_passLead_46 : decode cX2_passLead 46 = .ok (.if_icmp .ge 12, 3) := by decide +kernel
theorem dX2_passLead_49 : decode cX2_passLead 49 = .ok (.aload_n 0, 1) := by decide +kernel
theorem dX2_passLead_50 : decode cX2_passLead 50 = .ok (.getfield 46, 3) := by decide +kernel
theorem dX2_passLead_53 : decode cX2_passLead 53 = .ok (.iconst 1, 1) := by decide +kernel
theorem dX2_passLead_54 : decode cX2_passLead 54 = .ok (.iadd, 1) := by decide +kernel
theorem dX2_passLead_55 : decode cX2_passLead 55 = .ok (.goto 4, 3) := by decide +kernel
theorem dX2_passLead_58 : decode cX2_passLead 58 = .ok (.iconst 0, 1) := by decide +kernel
theorem dX2_passLead_59 : decode cX2_passLead 59 = .ok (.putfield 46, 3) := by decide +kernel
theorem dX2_passLead_62 : decode cX2_passLead 62 = .ok (.return_, 1) := by decide +kernel
theorem dX2_isPossible_0 : decode cX2_isPossible 0 = .ok (.iload_n 2, 1) := by decide +kernel
theorem dX2_isPossible_1 : decode cX2_isPossible 1 = .ok (.iload_n 3, 1) := by decide +kernel
theorem dX2_isPossible_2 : decode cX2_isPossible 2 = .ok (.invokestatic 107, 3) := by decide +kernel
theorem dX2_isPossible_5 : decode cX2_isPossible 5 = .ok (.ifCond .eq 30, 3) := by decide +kernel
theorem dX2_isPossible_8 : decode cX2_isPossible 8 = .ok (.aload_n 0, 1) := by decide +kernel
theorem dX2_isPossible_9 : decode cX2_isPossible 9 = .ok (.getfield 31, 3) := by decide +kernel
theorem dX2_isPossible_12 : decode cX2_isPossible 12 = .ok (.iload_n 2, 1) := by decide +kernel
theorem dX2_isPossible_13 : decode cX2_isPossible 13 = .ok (.iload_n 3, 1) := by decide +kernel
theorem dX2_isPossible_14 : decode cX2_isPossible 14 = .ok (.invokevirtual 116, 3) := by decide +kernel
theorem dX2_isPossible_17 : decode cX2_isPossible 17 = .ok (.ifCond .ne 18, 3) := by decide +kernel
theorem dX2_isPossible_20 : decode cX2_isPossible 20 = .ok (.aload_n 0, 1) := by decide +kernel
theorem dX2_isPossible_21 : decode cX2_isPossible 21 = .ok (.iload_n 1, 1) := by decide +kernel
theorem dX2_isPossible_22 : decode cX2_isPossible 22 = .ok (.iload_n 2, 1) := by decide +kernel
theorem dX2_isPossible_23 : decode cX2_isPossible 23 = .ok (.iload_n 3, 1) := by decide +kernel
theorem dX2_isPossible_24 : decode cX2_isPossible 24 = .ok (.invokevirtual 193, 3) := by decide +kernel
theorem dX2_isPossible_27 : decode cX2_isPossible 27 = .ok (.iconst (-1), 1) := by decide +kernel
theorem dX2_isPossible_28 : decode cX2_isPossible 28 = .ok (.if_icmp .ne 7, 3) := by decide +kernel
theorem dX2_isPossible_31 : decode cX2_isPossible 31 = .ok (.iconst 1, 1) := by decide +kernel
theorem dX2_isPossible_32 : decode cX2_isPossible 32 = .ok (.goto 4, 3) := by decide +kernel
theorem dX2_isPossible_35 : decode cX2_isPossible 35 = .ok (.iconst 0, 1) := by decide +kernel
theorem dX2_isPossible_36 : decode cX2_isPossible 36 = .ok (.ireturn, 1) := by decide +kernel
theorem dX2_lowestTouched_0 : decode cX2_lowestTouched 0 = .ok (.iconst 0, 1) := by decide +kernel
theorem dX2_lowestTouched_1 : decode cX2_lowestTouched 1 = .ok (.istore 4, 2) := by decide +kernel
theorem dX2_lowestTouched_3 : decode cX2_lowestTouched 3 = .ok (.iload 4, 2) := by decide +kernel
theorem dX2_lowestTouched_5 : decode cX2_lowestTouched 5 = .ok (.aload_n 0, 1) := by decide +kernel
theorem dX2_lowestTouched_6 : decode cX2_lowestTouched 6 = .ok (.getfield 24, 3) := by decide +kernel
theorem dX2_lowestTouched_9 : decode cX2_lowestTouched 9 = .ok (.if_icmp .ge 47, 3) := by decide +kernel
theorem dX2_lowestTouched_12 : decode cX2_lowestTouched 12 = .ok (.iload 4, 2) := by decide +kernel
theorem dX2_lowestTouched_14 : decode cX2_lowestTouched 14 = .ok (.iload_n 1, 1) := by decide +kernel
theorem dX2_lowestTouched_15 : decode cX2_lowestTouched 15 = .ok (.if_icmp .eq 35, 3) := by decide +kernel
theorem dX2_lowestTouched_18 : decode cX2_lowestTouched 18 = .ok (.aload_n 0, 1) := by decide +kernel
theorem dX2_lowestTouched_19 : decode cX2_lowestTouched 19 = .ok (.getfield 9, 3) := by decide +kernel
theorem dX2_lowestTouched_22 : decode cX2_lowestTouched 22 = .ok (.iload 4, 2) := by decide +kernel
theorem dX2_lowestTouched_24 : decode cX2_lowestTouched 24 = .ok (.iaload, 1) := by decide +kernel
theorem dX2_lowestTouched_25 : decode cX2_lowestTouched 25 = .ok (.iload_n 2, 1) := by decide +kernel
theorem dX2_lowestTouched_26 : decode cX2_lowestTouched 26 = .ok (.isub, 1) := by decide +kernel
theorem dX2_lowestTouched_27 : decode cX2_lowestTouched 27 = .ok (.invokestatic 175, 3) := by decide +kernel
theorem dX2_lowestTouched_30 : decode cX2_lowestTouched 30 = .ok (.aload_n 0, 1) := by decide +kernel
theorem dX2_lowestTouched_31 : decode cX2_lowestTouched 31 = .ok (.getfield 15, 3) := by decide +kernel
theorem dX2_lowestTouched_34 : decode cX2_lowestTouched 34 = .ok (.iload 4, 2) := by decide +kernel
theorem dX2_lowestTouched_36 : decode cX2_lowestTouched 36 = .ok (.iaload, 1) := by decide +kernel
theorem dX2_lowestTouched_37 : decode cX2_lowestTouched 37 = .ok (.iload_n 3, 1) := by decide +kernel
theorem dX2_lowestTouched_38 : decode cX2_lowestTouched 38 = .ok (.isub, 1) := by decide +kernel
theorem dX2_lowestTouched_39 : decode cX2_lowestTouched 39 = .ok (.invokestatic 175, 3) := by decide +kernel
theorem dX2_lowestTouched_42 : decode cX2_lowestTouched 42 = .ok (.iadd, 1) := by decide +kernel
theorem dX2_lowestTouched_43 : decode cX2_lowestTouched 43 = .ok (.iconst 2, 1) := by decide +kernel
theorem dX2_lowestTouched_44 : decode cX2_lowestTouched 44 = .ok (.if_icmp .ge 6, 3) := by decide +kernel
theorem dX2_lowestTouched_47 : decode cX2_lowestTouched 47 = .ok (.iload 4, 2) := by decide +kernel
theorem dX2_lowestTouched_49 : decode cX2_lowestTouched 49 = .ok (.ireturn, 1) := by decide +kernel
theorem dX2_lowestTouched_50 : decode cX2_lowestTouched 50 = .ok (.iinc 4 1, 3) := by decide +kernel
theorem dX2_lowestTouched_53 : decode cX2_lowestTouched 53 = .ok (.goto (-50), 3) := by decide +kernel
theorem dX2_lowestTouched_56 : decode cX2_lowestTouched 56 = .ok (.iconst (-1), 1) := by decide +kernel
theorem dX2_lowestTouched_57 : decode cX2_lowestTouched 57 = .ok (.ireturn, 1) := by decide +kernel
theorem dX2_basketIn_0 : decode cX2_basketIn 0 = .ok (.iconst 0, 1) := by decide +kernel
theorem dX2_basketIn_1 : decode cX2_basketIn 1 = .ok (.istore_n 3, 1) := by decide +kernel
theorem dX2_basketIn_2 : decode cX2_basketIn 2 = .ok (.iload_n 3, 1) := by decide +kernel
theorem dX2_basketIn_3 : decode cX2_basketIn 3 = .ok (.aload_n 0, 1) := by decide +kernel
theorem dX2_basketIn_4 : decode cX2_basketIn 4 = .ok (.getfield 24, 3) := by decide +kernel
theorem dX2_basketIn_7 : decode cX2_basketIn 7 = .ok (.if_icmp .ge 31, 3) := by decide +kernel
theorem dX2_basketIn_10 : decode cX2_basketIn 10 = .ok (.aload_n 0, 1) := by decide +kernel
theorem dX2_basketIn_11 : decode cX2_basketIn 11 = .ok (.getfield 9, 3) := by decide +kernel
theorem dX2_basketIn_14 : decode cX2_basketIn 14 = .ok (.iload_n 3, 1) := by decide +kernel
theorem dX2_basketIn_15 : decode cX2_basketIn 15 = .ok (.iaload, 1) := by decide +kernel
theorem dX2_basketIn_16 : decode cX2_basketIn 16 = .ok (.iload_n 1, 1) := by decide +kernel
theorem dX2_basketIn_17 : decode cX2_basketIn 17 = .ok (.if_icmp .ne 15, 3) := by decide +kernel
theorem dX2_basketIn_20 : decode cX2_basketIn 20 = .ok (.aload_n 0, 1) := by decide +kernel
theorem dX2_basketIn_21 : decode cX2_basketIn 21 = .ok (.getfield 15, 3) := by decide +kernel
theorem dX2_basketIn_24 : decode cX2_basketIn 24 = .ok (.iload_n 3, 1) := by decide +kernel
theorem dX2_basketIn_25 : decode cX2_basketIn 25 = .ok (.iaload, 1) := by decide +kernel
theorem dX2_basketIn_26 : decode cX2_basketIn 26 = .ok (.iload_n 2, 1) := by decide +kernel
theorem dX2_basketIn_27 : decode cX2_basketIn 27 = .ok (.if_icmp .ne 5, 3) := by decide +kernel
theorem dX2_basketIn_30 : decode cX2_basketIn 30 = .ok (.iload_n 3, 1) := by decide +kernel
theorem dX2_basketIn_31 : decode cX2_basketIn 31 = .ok (.ireturn, 1) := by decide +kernel
theorem dX2_basketIn_32 : decode cX2_basketIn 32 = .ok (.iinc 3 1, 3) := by decide +kernel
theorem dX2_basketIn_35 : decode cX2_basketIn 35 = .ok (.goto (-33), 3) := by decide +kernel
theorem dX2_basketIn_38 : decode cX2_basketIn 38 = .ok (.iconst (-1), 1) := by decide +kernel
theorem dX2_basketIn_39 : decode cX2_basketIn 39 = .ok (.ireturn, 1) := by decide +kernel
