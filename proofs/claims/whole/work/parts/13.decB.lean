/-! ===== instructions ===== -/
theorem dX6_throwFor_72 : decode cX6_throwFor 72 = .ok (.athrow, 1) := by decide +kernel
theorem dX6_throwFor_73 : decode cX6_throwFor 73 = .ok (.new 106, 3) := by decide +kernel
theorem dX6_throwFor_76 : decode cX6_throwFor 76 = .ok (.dup, 1) := by decide +kernel
theorem dX6_throwFor_77 : decode cX6_throwFor 77 = .ok (.ldc_w 355, 3) := by decide +kernel
theorem dX6_throwFor_80 : decode cX6_throwFor 80 = .ok (.invokespecial 110, 3) := by decide +kernel
theorem dX6_throwFor_83 : decode cX6_throwFor 83 = .ok (.athrow, 1) := by decide +kernel
theorem dX6_throwFor_84 : decode cX6_throwFor 84 = .ok (.new 357, 3) := by decide +kernel
theorem dX6_throwFor_87 : decode cX6_throwFor 87 = .ok (.dup, 1) := by decide +kernel
theorem dX6_throwFor_88 : decode cX6_throwFor 88 = .ok (.ldc_w 359, 3) := by decide +kernel
theorem dX6_throwFor_91 : decode cX6_throwFor 91 = .ok (.invokespecial 361, 3) := by decide +kernel
theorem dX6_throwFor_94 : decode cX6_throwFor 94 = .ok (.athrow, 1) := by decide +kernel
theorem dX6_throwFor_95 : decode cX6_throwFor 95 = .ok (.new 357, 3) := by decide +kernel
theorem dX6_throwFor_98 : decode cX6_throwFor 98 = .ok (.dup, 1) := by decide +kernel
theorem dX6_throwFor_99 : decode cX6_throwFor 99 = .ok (.ldc_w 362, 3) := by decide +kernel
theorem dX6_throwFor_102 : decode cX6_throwFor 102 = .ok (.invokespecial 361, 3) := by decide +kernel
theorem dX6_throwFor_105 : decode cX6_throwFor 105 = .ok (.athrow, 1) := by decide +kernel
theorem dX6_throwFor_106 : decode cX6_throwFor 106 = .ok (.return_, 1) := by decide +kernel
theorem dX6_demandBasket_0 : decode cX6_demandBasket 0 = .ok (.aload_n 0, 1) := by decide +kernel
theorem dX6_demandBasket_1 : decode cX6_demandBasket 1 = .ok (.getfield 10, 3) := by decide +kernel
theorem dX6_demandBasket_4 : decode cX6_demandBasket 4 = .ok (.iload_n 1, 1) := by decide +kernel
theorem dX6_demandBasket_5 : decode cX6_demandBasket 5 = .ok (.invokevirtual 364, 3) := by decide +kernel
theorem dX6_demandBasket_8 : decode cX6_demandBasket 8 = .ok (.ifCond .ne 14, 3) := by decide +kernel
theorem dX6_demandBasket_11 : decode cX6_demandBasket 11 = .ok (.new 301, 3) := by decide +kernel
theorem dX6_demandBasket_14 : decode cX6_demandBasket 14 = .ok (.dup, 1) := by decide +kernel
theorem dX6_demandBasket_15 : decode cX6_demandBasket 15 = .ok (.ldc_w 349, 3) := by decide +kernel
theorem dX6_demandBasket_18 : decode cX6_demandBasket 18 = .ok (.invokespecial 305, 3) := by decide +kernel
theorem dX6_demandBasket_21 : decode cX6_demandBasket 21 = .ok (.athrow, 1) := by decide +kernel
theorem dX6_demandBasket_22 : decode cX6_demandBasket 22 = .ok (.return_, 1) := by decide +kernel
theorem dX6_demandAnyBasket_0 : decode cX6_demandAnyBasket 0 = .ok (.aload_n 0, 1) := by decide +kernel
theorem dX6_demandAnyBasket_1 : decode cX6_demandAnyBasket 1 = .ok (.getfield 10, 3) := by decide +kernel
theorem dX6_demandAnyBasket_4 : decode cX6_demandAnyBasket 4 = .ok (.getfield 82, 3) := by decide +kernel
theorem dX6_demandAnyBasket_7 : decode cX6_demandAnyBasket 7 = .ok (.iconst 1, 1) := by decide +kernel
theorem dX6_demandAnyBasket_8 : decode cX6_demandAnyBasket 8 = .ok (.if_icmp .ge 14, 3) := by decide +kernel
theorem dX6_demandAnyBasket_11 : decode cX6_demandAnyBasket 11 = .ok (.new 106, 3) := by decide +kernel
theorem dX6_demandAnyBasket_14 : decode cX6_demandAnyBasket 14 = .ok (.dup, 1) := by decide +kernel
theorem dX6_demandAnyBasket_15 : decode cX6_demandAnyBasket 15 = .ok (.ldc_w 368, 3) := by decide +kernel
theorem dX6_demandAnyBasket_18 : decode cX6_demandAnyBasket 18 = .ok (.invokespecial 110, 3) := by decide +kernel
theorem dX6_demandAnyBasket_21 : decode cX6_demandAnyBasket 21 = .ok (.athrow, 1) := by decide +kernel
theorem dX6_demandAnyBasket_22 : decode cX6_demandAnyBasket 22 = .ok (.return_, 1) := by decide +kernel
theorem dX6_demandCell_0 : decode cX6_demandCell 0 = .ok (.iload_n 1, 1) := by decide +kernel
theorem dX6_demandCell_1 : decode cX6_demandCell 1 = .ok (.iload_n 2, 1) := by decide +kernel
theorem dX6_demandCell_2 : decode cX6_demandCell 2 = .ok (.invokestatic 370, 3) := by decide +kernel
theorem dX6_demandCell_5 : decode cX6_demandCell 5 = .ok (.ifCond .ne 14, 3) := by decide +kernel
theorem dX6_demandCell_8 : decode cX6_demandCell 8 = .ok (.new 247, 3) := by decide +kernel
theorem dX6_demandCell_11 : decode cX6_demandCell 11 = .ok (.dup, 1) := by decide +kernel
theorem dX6_demandCell_12 : decode cX6_demandCell 12 = .ok (.ldc_w 373, 3) := by decide +kernel
theorem dX6_demandCell_15 : decode cX6_demandCell 15 = .ok (.invokespecial 251, 3) := by decide +kernel
theorem dX6_demandCell_18 : decode cX6_demandCell 18 = .ok (.athrow, 1) := by decide +kernel
theorem dX6_demandCell_19 : decode cX6_demandCell 19 = .ok (.return_, 1) := by decide +kernel
theorem dX6_demandStepsAhead_0 : decode cX6_demandStepsAhead 0 = .ok (.iload_n 1, 1) := by decide +kernel
theorem dX6_demandStepsAhead_1 : decode cX6_demandStepsAhead 1 = .ok (.ifCond .lt 9, 3) := by decide +kernel
theorem dX6_demandStepsAhead_4 : decode cX6_demandStepsAhead 4 = .ok (.iload_n 1, 1) := by decide +kernel
theorem dX6_demandStepsAhead_5 : decode cX6_demandStepsAhead 5 = .ok (.bipush 99, 2) := by decide +kernel
theorem dX6_demandStepsAhead_7 : decode cX6_demandStepsAhead 7 = .ok (.if_icmp .le 14, 3) := by decide +kernel
theorem dX6_demandStepsAhead_10 : decode cX6_demandStepsAhead 10 = .ok (.new 247, 3) := by decide +kernel
theorem dX6_demandStepsAhead_13 : decode cX6_demandStepsAhead 13 = .ok (.dup, 1) := by decide +kernel
theorem dX6_demandStepsAhead_14 : decode cX6_demandStepsAhead 14 = .ok (.ldc_w 375, 3) := by decide +kernel
theorem dX6_demandStepsAhead_17 : decode cX6_demandStepsAhead 17 = .ok (.invokespecial 251, 3) := by decide +kernel
theorem dX6_demandStepsAhead_20 : decode cX6_demandStepsAhead 20 = .ok (.athrow, 1) := by decide +kernel
theorem dX6_demandStepsAhead_21 : decode cX6_demandStepsAhead 21 = .ok (.return_, 1) := by decide +kernel
theorem dX6_demandTarget_0 : decode cX6_demandTarget 0 = .ok (.aload_n 0, 1) := by decide +kernel
theorem dX6_demandTarget_1 : decode cX6_demandTarget 1 = .ok (.getfield 10, 3) := by decide +kernel
theorem dX6_demandTarget_4 : decode cX6_demandTarget 4 = .ok (.invokevirtual 377, 3) := by decide +kernel
theorem dX6_demandTarget_7 : decode cX6_demandTarget 7 = .ok (.ifCond .ne 14, 3) := by decide +kernel
theorem dX6_demandTarget_10 : decode cX6_demandTarget 10 = .ok (.new 106, 3) := by decide +kernel
theorem dX6_demandTarget_13 : decode cX6_demandTarget 13 = .ok (.dup, 1) := by decide +kernel
theorem dX6_demandTarget_14 : decode cX6_demandTarget 14 = .ok (.ldc_w 380, 3) := by decide +kernel
theorem dX6_demandTarget_17 : decode cX6_demandTarget 17 = .ok (.invokespecial 110, 3) := by decide +kernel
theorem dX6_demandTarget_20 : decode cX6_demandTarget 20 = .ok (.athrow, 1) := by decide +kernel
theorem dX6_demandTarget_21 : decode cX6_demandTarget 21 = .ok (.return_, 1) := by decide +kernel
theorem dX6_demandRefusal_0 : decode cX6_demandRefusal 0 = .ok (.aload_n 0, 1) := by decide +kernel
theorem dX6_demandRefusal_1 : decode cX6_demandRefusal 1 = .ok (.getfield 54, 3) := by decide +kernel
theorem dX6_demandRefusal_4 : decode cX6_demandRefusal 4 = .ok (.iconst (-1), 1) := by decide +kernel
theorem dX6_demandRefusal_5 : decode cX6_demandRefusal 5 = .ok (.if_icmp .ne 14, 3) := by decide +kernel
theorem dX6_demandRefusal_8 : decode cX6_demandRefusal 8 = .ok (.new 106, 3) := by decide +kernel
theorem dX6_demandRefusal_11 : decode cX6_demandRefusal 11 = .ok (.dup, 1) := by decide +kernel
theorem dX6_demandRefusal_12 : decode cX6_demandRefusal 12 = .ok (.ldc_w 382, 3) := by decide +kernel
theorem dX6_demandRefusal_15 : decode cX6_demandRefusal 15 = .ok (.invokespecial 110, 3) := by decide +kernel
theorem dX6_demandRefusal_18 : decode cX6_demandRefusal 18 = .ok (.athrow, 1) := by decide +kernel
theorem dX6_demandRefusal_19 : decode cX6_demandRefusal 19 = .ok (.return_, 1) := by decide +kernel
theorem dX6_leadersAgree_0 : decode cX6_leadersAgree 0 = .ok (.iconst 0, 1) := by decide +kernel
theorem dX6_leadersAgree_1 : decode cX6_leadersAgree 1 = .ok (.istore_n 1, 1) := by decide +kernel
theorem dX6_leadersAgree_2 : decode cX6_leadersAgree 2 = .ok (.iload_n 1, 1) := by decide +kernel
theorem dX6_leadersAgree_3 : decode cX6_leadersAgree 3 = .ok (.bipush 20, 2) := by decide +kernel
theorem dX6_leadersAgree_5 : decode cX6_leadersAgree 5 = .ok (.if_icmp .gt 30, 3) := by decide +kernel
theorem dX6_leadersAgree_8 : decode cX6_leadersAgree 8 = .ok (.aload_n 0, 1) := by decide +kernel
theorem dX6_leadersAgree_9 : decode cX6_leadersAgree 9 = .ok (.getfield 10, 3) := by decide +kernel
theorem dX6_leadersAgree_12 : decode cX6_leadersAgree 12 = .ok (.iload_n 1, 1) := by decide +kernel
theorem dX6_leadersAgree_13 : decode cX6_leadersAgree 13 = .ok (.invokevirtual 156, 3) := by decide +kernel
theorem dX6_leadersAgree_16 : decode cX6_leadersAgree 16 = .ok (.aload_n 0, 1) := by decide +kernel
theorem dX6_leadersAgree_17 : decode cX6_leadersAgree 17 = .ok (.getfield 10, 3) := by decide +kernel
theorem dX6_leadersAgree_20 : decode cX6_leadersAgree 20 = .ok (.iload_n 1, 1) := by decide +kernel
theorem dX6_leadersAgree_21 : decode cX6_leadersAgree 21 = .ok (.invokevirtual 159, 3) := by decide +kernel
theorem dX6_leadersAgree_24 : decode cX6_leadersAgree 24 = .ok (.if_icmp .eq 5, 3) := by decide +kernel
theorem dX6_leadersAgree_27 : decode cX6_leadersAgree 27 = .ok (.iconst 0, 1) := by decide +kernel
theorem dX6_leadersAgree_28 : decode cX6_leadersAgree 28 = .ok (.ireturn, 1) := by decide +kernel
theorem dX6_leadersAgree_29 : decode cX6_leadersAgree 29 = .ok (.iinc 1 1, 3) := by decide +kernel
theorem dX6_leadersAgree_32 : decode cX6_leadersAgree 32 = .ok (.goto (-30), 3) := by decide +kernel
theorem dX6_leadersAgree_35 : decode cX6_leadersAgree 35 = .ok (.iconst 1, 1) := by decide +kernel
theorem dX6_leadersAgree_36 : decode cX6_leadersAgree 36 = .ok (.ireturn, 1) := by decide +kernel
theorem dX7_init_0 : decode cX7_init 0 = .ok (.aload_n 0, 1) := by decide +kernel
theorem dX7_init_1 : decode cX7_init 1 = .ok (.invokespecial 1, 3) := by decide +kernel
theorem dX7_init_4 : decode cX7_init 4 = .ok (.aload_n 0, 1) := by decide +kernel
theorem dX7_init_5 : decode cX7_init 5 = .ok (.sipush 3000, 3) := by decide +kernel
theorem dX7_init_8 : decode cX7_init 8 = .ok (.newarray .int, 2) := by decide +kernel
theorem dX7_init_10 : decode cX7_init 10 = .ok (.putfield 9, 3) := by decide +kernel
theorem dX7_init_13 : decode cX7_init 13 = .ok (.aload_n 0, 1) := by decide +kernel
theorem dX7_init_14 : decode cX7_init 14 = .ok (.bipush 12, 2) := by decide +kernel
theorem dX7_init_16 : decode cX7_init 16 = .ok (.newarray .int, 2) := by decide +kernel
theorem dX7_init_18 : decode cX7_init 18 = .ok (.putfield 13, 3) := by decide +kernel
theorem dX7_init_21 : decode cX7_init 21 = .ok (.aload_n 0, 1) := by decide +kernel
theorem dX7_init_22 : decode cX7_init 22 = .ok (.bipush 60, 2) := by decide +kernel
theorem dX7_init_24 : decode cX7_init 24 = .ok (.newarray .char, 2) := by decide +kernel
theorem dX7_init_26 : decode cX7_init 26 = .ok (.putfield 16, 3) := by decide +kernel
theorem dX7_init_29 : decode cX7_init 29 = .ok (.aload_n 0, 1) := by decide +kernel
theorem dX7_init_30 : decode cX7_init 30 = .ok (.iconst (-1), 1) := by decide +kernel
theorem dX7_init_31 : decode cX7_init 31 = .ok (.putfield 20, 3) := by decide +kernel
theorem dX7_init_34 : decode cX7_init 34 = .ok (.aload_n 0, 1) := by decide +kernel
theorem dX7_init_35 : decode cX7_init 35 = .ok (.iconst (-1), 1) := by decide +kernel
theorem dX7_init_36 : decode cX7_init 36 = .ok (.putfield 24, 3) := by decide +kernel
theorem dX7_init_39 : decode cX7_init 39 = .ok (.aload_n 0, 1) := by decide +kernel
theorem dX7_init_40 : decode cX7_init 40 = .ok (.sipush 244, 3) := by decide +kernel
theorem dX7_init_43 : decode cX7_init 43 = .ok (.newarray .int, 2) := by decide +kernel
theorem dX7_init_45 : decode cX7_init 45 = .ok (.putfield 27, 3) := by decide +kernel
theorem dX7_init_48 : decode cX7_init 48 = .ok (.aload_n 0, 1) := by decide +kernel
theorem dX7_init_49 : decode cX7_init 49 = .ok (.bipush 12, 2) := by decide +kernel
theorem dX7_init_51 : decode cX7_init 51 = .ok (.newarray .char, 2) := by decide +kernel
theorem dX7_init_53 : decode cX7_init 53 = .ok (.putfield 30, 3) := by decide +kernel
theorem dX7_init_56 : decode cX7_init 56 = .ok (.aload_n 0, 1) := by decide +kernel
theorem dX7_init_57 : decode cX7_init 57 = .ok (.getfield 9, 3) := by decide +kernel
theorem dX7_init_60 : decode cX7_init 60 = .ok (.iconst 4, 1) := by decide +kernel
theorem dX7_init_61 : decode cX7_init 61 = .ok (.iconst 4, 1) := by decide +kernel
theorem dX7_init_62 : decode cX7_init 62 = .ok (.iastore, 1) := by decide +kernel
theorem dX7_init_63 : decode cX7_init 63 = .ok (.aload_n 0, 1) := by decide +kernel
theorem dX7_init_64 : decode cX7_init 64 = .ok (.getfield 9, 3) := by decide +kernel
theorem dX7_init_67 : decode cX7_init 67 = .ok (.bipush 6, 2) := by decide +kernel
theorem dX7_init_69 : decode cX7_init 69 = .ok (.iconst 3, 1) := by decide +kernel
theorem dX7_init_70 : decode cX7_init 70 = .ok (.iastore, 1) := by decide +kernel
theorem dX7_init_71 : decode cX7_init 71 = .ok (.return_, 1) := by decide +kernel
theorem dX7_thrown_0 : decode cX7_thrown 0 = .ok (.aload_n 0, 1) := by decide +kernel
theorem dX7_thrown_1 : decode cX7_thrown 1 = .ok (.getfield 33, 3) := by decide +kernel
theorem dX7_thrown_4 : decode cX7_thrown 4 = .ok (.ireturn, 1) := by decide +kernel
theorem dX7_in_0 : decode cX7_in 0 = .ok (.iload_n 0, 1) := by decide +kernel
theorem dX7_in_1 : decode cX7_in 1 = .ok (.iload_n 1, 1) := by decide +kernel
theorem dX7_in_2 : decode cX7_in 2 = .ok (.if_icmp .lt 12, 3) := by decide +kernel
theorem dX7_in_5 : decode cX7_in 5 = .ok (.iload_n 0, 1) := by decide +kernel
theorem dX7_in_6 : decode cX7_in 6 = .ok (.iload_n 2, 1) := by decide +kernel
theorem dX7_in_7 : decode cX7_in 7 = .ok (.if_icmp .gt 7, 3) := by decide +kernel
theorem dX7_in_10 : decode cX7_in 10 = .ok (.iconst 1, 1) := by decide +kernel
theorem dX7_in_11 : decode cX7_in 11 = .ok (.goto 4, 3) := by decide +kernel
theorem dX7_in_14 : decode cX7_in 14 = .ok (.iconst 0, 1) := by decide +kernel
theorem dX7_in_15 : decode cX7_in 15 = .ok (.ireturn, 1) := by decide +kernel
theorem dX7_size_0 : decode cX7_size 0 = .ok (.iload_n 0, 1) := by decide +kernel
theorem dX7_size_1 : decode cX7_size 1 = .ok (.ifCond .ge 8, 3) := by decide +kernel
theorem dX7_size_4 : decode cX7_size 4 = .ok (.iload_n 0, 1) := by decide +kernel
theorem dX7_size_5 : decode cX7_size 5 = .ok (.ineg, 1) := by decide +kernel
theorem dX7_size_6 : decode cX7_size 6 = .ok (.goto 4, 3) := by decide +kernel
theorem dX7_size_9 : decode cX7_size 9 = .ok (.iload_n 0, 1) := by decide +kernel
theorem dX7_size_10 : decode cX7_size 10 = .ok (.ireturn, 1) := by decide +kernel
theorem dX7_copies_0 : decode cX7_copies 0 = .ok (.iconst 0, 1) := by decide +kernel
theorem dX7_copies_1 : decode cX7_copies 1 = .ok (.istore_n 3, 1) := by decide +kernel
theorem dX7_copies_2 : decode cX7_copies 2 = .ok (.iload_n 3, 1) := by decide +kernel
theorem dX7_copies_3 : decode cX7_copies 3 = .ok (.sipush 250, 3) := by decide +kernel
theorem dX7_copies_6 : decode cX7_copies 6 = .ok (.if_icmp .ge 33, 3) := by decide +kernel
theorem dX7_copies_9 : decode cX7_copies 9 = .ok (.aload_n 0, 1) := by decide +kernel
theorem dX7_copies_10 : decode cX7_copies 10 = .ok (.getfield 9, 3) := by decide +kernel
theorem dX7_copies_13 : decode cX7_copies 13 = .ok (.sipush 250, 3) := by decide +kernel
theorem dX7_copies_16 : decode cX7_copies 16 = .ok (.iload_n 2, 1) := by decide +kernel
theorem dX7_copies_17 : decode cX7_copies 17 = .ok (.imul, 1) := by decide +kernel
theorem dX7_copies_18 : decode cX7_copies 18 = .ok (.iload_n 3, 1) := by decide +kernel
theorem dX7_copies_19 : decode cX7_copies 19 = .ok (.iadd, 1) := by decide +kernel
theorem dX7_copies_20 : decode cX7_copies 20 = .ok (.aload_n 0, 1) := by decide +kernel
theorem dX7_copies_21 : decode cX7_copies 21 = .ok (.getfield 9, 3) := by decide +kernel
theorem dX7_copies_24 : decode cX7_copies 24 = .ok (.sipush 250, 3) := by decide +kernel
theorem dX7_copies_27 : decode cX7_copies 27 = .ok (.iload_n 1, 1) := by decide +kernel
theorem dX7_copies_28 : decode cX7_copies 28 = .ok (.imul, 1) := by decide +kernel
theorem dX7_copies_29 : decode cX7_copies 29 = .ok (.iload_n 3, 1) := by decide +kernel
theorem dX7_copies_30 : decode cX7_copies 30 = .ok (.iadd, 1) := by decide +kernel
theorem dX7_copies_31 : decode cX7_copies 31 = .ok (.iaload, 1) := by decide +kernel
theorem dX7_copies_32 : decode cX7_copies 32 = .ok (.iastore, 1) := by decide +kernel
theorem dX7_copies_33 : decode cX7_copies 33 = .ok (.iinc 3 1, 3) := by decide +kernel
theorem dX7_copies_36 : decode cX7_copies 36 = .ok (.goto (-34), 3) := by decide +kernel
theorem dX7_copies_39 : decode cX7_copies 39 = .ok (.return_, 1) := by decide +kernel
theorem dX7_begins_0 : decode cX7_begins 0 = .ok (.aload_n 0, 1) := by decide +kernel
theorem dX7_begins_1 : decode cX7_begins 1 = .ok (.iconst 0, 1) := by decide +kernel
theorem dX7_begins_2 : decode cX7_begins 2 = .ok (.bipush 10, 2) := by decide +kernel
theorem dX7_begins_4 : decode cX7_begins 4 = .ok (.invokevirtual 36, 3) := by decide +kernel
theorem dX7_begins_7 : decode cX7_begins 7 = .ok (.return_, 1) := by decide +kernel
theorem dX7_ends_0 : decode cX7_ends 0 = .ok (.aload_n 0, 1) := by decide +kernel
theorem dX7_ends_1 : decode cX7_ends 1 = .ok (.iload_n 1, 1) := by decide +kernel
theorem dX7_ends_2 : decode cX7_ends 2 = .ok (.iconst 1, 1) := by decide +kernel
theorem dX7_ends_3 : decode cX7_ends 3 = .ok (.if_icmp .ne 7, 3) := by decide +kernel
theorem dX7_ends_6 : decode cX7_ends 6 = .ok (.iload_n 2, 1) := by decide +kernel
theorem dX7_ends_7 : decode cX7_ends 7 = .ok (.goto 43, 3) := by decide +kernel
theorem dX7_ends_10 : decode cX7_ends 10 = .ok (.iload_n 1, 1) := by decide +kernel
theorem dX7_ends_11 : decode cX7_ends 11 = .ok (.iconst 2, 1) := by decide +kernel
theorem dX7_ends_12 : decode cX7_ends 12 = .ok (.if_icmp .ne 7, 3) := by decide +kernel
theorem dX7_ends_15 : decode cX7_ends 15 = .ok (.iload_n 3, 1) := by decide +kernel
theorem dX7_ends_16 : decode cX7_ends 16 = .ok (.goto 34, 3) := by decide +kernel
theorem dX7_ends_19 : decode cX7_ends 19 = .ok (.iload_n 1, 1) := by decide +kernel
theorem dX7_ends_20 : decode cX7_ends 20 = .ok (.iconst 3, 1) := by decide +kernel
theorem dX7_ends_21 : decode cX7_ends 21 = .ok (.if_icmp .ne 8, 3) := by decide +kernel
theorem dX7_ends_24 : decode cX7_ends 24 = .ok (.iload 4, 2) := by decide +kernel
theorem dX7_ends_26 : decode cX7_ends 26 = .ok (.goto 24, 3) := by decide +kernel
theorem dX7_ends_29 : decode cX7_ends 29 = .ok (.iload_n 1, 1) := by decide +kernel
theorem dX7_ends_30 : decode cX7_ends 30 = .ok (.iconst 4, 1) := by decide +kernel
theorem dX7_ends_31 : decode cX7_ends 31 = .ok (.if_icmp .ne 8, 3) := by decide +kernel
theorem dX7_ends_34 : decode cX7_ends 34 = .ok (.iload 5, 2) := by decide +kernel
theorem dX7_ends_36 : decode cX7_ends 36 = .ok (.goto 14, 3) := by decide +kernel
theorem dX7_ends_39 : decode cX7_ends 39 = .ok (.iload_n 1, 1) := by decide +kernel
theorem dX7_ends_40 : decode cX7_ends 40 = .ok (.iconst 5, 1) := by decide +kernel
theorem dX7_ends_41 : decode cX7_ends 41 = .ok (.if_icmp .ne 8, 3) := by decide +kernel
theorem dX7_ends_44 : decode cX7_ends 44 = .ok (.iload 6, 2) := by decide +kernel
theorem dX7_ends_46 : decode cX7_ends 46 = .ok (.goto 4, 3) := by decide +kernel
theorem dX7_ends_49 : decode cX7_ends 49 = .ok (.iconst 0, 1) := by decide +kernel
theorem dX7_ends_50 : decode cX7_ends 50 = .ok (.putfield 33, 3) := by decide +kernel
theorem dX7_ends_53 : decode cX7_ends 53 = .ok (.aload_n 0, 1) := by decide +kernel
theorem dX7_ends_54 : decode cX7_ends 54 = .ok (.getfield 33, 3) := by decide +kernel
theorem dX7_ends_57 : decode cX7_ends 57 = .ok (.ifCond .eq 12, 3) := by decide +kernel
theorem dX7_ends_60 : decode cX7_ends 60 = .ok (.aload_n 0, 1) := by decide +kernel
theorem dX7_ends_61 : decode cX7_ends 61 = .ok (.bipush 10, 2) := by decide +kernel
theorem dX7_ends_63 : decode cX7_ends 63 = .ok (.iconst 0, 1) := by decide +kernel
theorem dX7_ends_64 : decode cX7_ends 64 = .ok (.invokevirtual 36, 3) := by decide +kernel
theorem dX7_ends_67 : decode cX7_ends 67 = .ok (.iconst 0, 1) := by decide +kernel
theorem dX7_ends_68 : decode cX7_ends 68 = .ok (.ireturn, 1) := by decide +kernel
theorem dX7_ends_69 : decode cX7_ends 69 = .ok (.aload_n 0, 1) := by decide +kernel
theorem dX7_ends_70 : decode cX7_ends 70 = .ok (.getfield 40, 3) := by decide +kernel
theorem dX7_ends_73 : decode cX7_ends 73 = .ok (.bipush 8, 2) := by decide +kernel
theorem dX7_ends_75 : decode cX7_ends 75 = .ok (.if_icmp .ne 39, 3) := by decide +kernel
theorem dX7_ends_78 : decode cX7_ends 78 = .ok (.iconst 1, 1) := by decide +kernel
theorem dX7_ends_79 : decode cX7_ends 79 = .ok (.istore 7, 2) := by decide +kernel
theorem dX7_ends_81 : decode cX7_ends 81 = .ok (.iload 7, 2) := by decide +kernel
theorem dX7_ends_83 : decode cX7_ends 83 = .ok (.bipush 8, 2) := by decide +kernel
theorem dX7_ends_85 : decode cX7_ends 85 = .ok (.if_icmp .ge 19, 3) := by decide +kernel
theorem dX7_ends_88 : decode cX7_ends 88 = .ok (.aload_n 0, 1) := by decide +kernel
theorem dX7_ends_89 : decode cX7_ends 89 = .ok (.iload 7, 2) := by decide +kernel
theorem dX7_ends_91 : decode cX7_ends 91 = .ok (.iconst 1, 1) := by decide +kernel
theorem dX7_ends_92 : decode cX7_ends 92 = .ok (.iadd, 1) := by decide +kernel
theorem dX7_ends_93 : decode cX7_ends 93 = .ok (.iload 7, 2) := by decide +kernel
theorem dX7_ends_95 : decode cX7_ends 95 = .ok (.invokevirtual 36, 3) := by decide +kernel
theorem dX7_ends_98 : decode cX7_ends 98 = .ok (.iinc 7 1, 3) := by decide +kernel
theorem dX7_ends_101 : decode cX7_ends 101 = .ok (.goto (-20), 3) := by decide +kernel
theorem dX7_ends_104 : decode cX7_ends 104 = .ok (.aload_n 0, 1) := by decide +kernel
theorem dX7_ends_105 : decode cX7_ends 105 = .ok (.dup, 1) := by decide +kernel
theorem dX7_ends_106 : decode cX7_ends 106 = .ok (.getfield 40, 3) := by decide +kernel
theorem dX7_ends_109 : decode cX7_ends 109 = .ok (.iconst 1, 1) := by decide +kernel
theorem dX7_ends_110 : decode cX7_ends 110 = .ok (.isub, 1) := by decide +kernel
theorem dX7_ends_111 : decode cX7_ends 111 = .ok (.putfield 40, 3) := by decide +kernel
theorem dX7_ends_114 : decode cX7_ends 114 = .ok (.aload_n 0, 1) := by decide +kernel
theorem dX7_ends_115 : decode cX7_ends 115 = .ok (.dup, 1) := by decide +kernel
theorem dX7_ends_116 : decode cX7_ends 116 = .ok (.getfield 40, 3) := by decide +kernel
theorem dX7_ends_119 : decode cX7_ends 119 = .ok (.iconst 1, 1) := by decide +kernel
theorem dX7_ends_120 : decode cX7_ends 120 = .ok (.iadd, 1) := by decide +kernel
theorem dX7_ends_121 : decode cX7_ends 121 = .ok (.putfield 40, 3) := by decide +kernel
theorem dX7_ends_124 : decode cX7_ends 124 = .ok (.aload_n 0, 1) := by decide +kernel
theorem dX7_ends_125 : decode cX7_ends 125 = .ok (.bipush 10, 2) := by decide +kernel
theorem dX7_ends_127 : decode cX7_ends 127 = .ok (.aload_n 0, 1) := by decide +kernel
theorem dX7_ends_128 : decode cX7_ends 128 = .ok (.getfield 40, 3) := by decide +kernel
theorem dX7_ends_131 : decode cX7_ends 131 = .ok (.invokevirtual 36, 3) := by decide +kernel
theorem dX7_ends_134 : decode cX7_ends 134 = .ok (.aload_n 0, 1) := by decide +kernel
theorem dX7_ends_135 : decode cX7_ends 135 = .ok (.getfield 43, 3) := by decide +kernel
theorem dX7_ends_138 : decode cX7_ends 138 = .ok (.ireturn, 1) := by decide +kernel
theorem dX7_isFine_0 : decode cX7_isFine 0 = .ok (.aload_n 0, 1) := by decide +kernel
theorem dX7_isFine_1 : decode cX7_isFine 1 = .ok (.iload_n 1, 1) := by decide +kernel
theorem dX7_isFine_2 : decode cX7_isFine 2 = .ok (.ifCond .eq 7, 3) := by decide +kernel
theorem dX7_isFine_5 : decode cX7_isFine 5 = .ok (.iconst 0, 1) := by decide +kernel
theorem dX7_isFine_6 : decode cX7_isFine 6 = .ok (.goto 4, 3) := by decide +kernel
theorem dX7_isFine_9 : decode cX7_isFine 9 = .ok (.iconst 1, 1) := by decide +kernel
theorem dX7_isFine_10 : decode cX7_isFine 10 = .ok (.putfield 33, 3) := by decide +kernel
theorem dX7_isFine_13 : decode cX7_isFine 13 = .ok (.iload_n 1, 1) := by decide +kernel
theorem dX7_isFine_14 : decode cX7_isFine 14 = .ok (.ireturn, 1) := by decide +kernel
theorem dX7_b_0 : decode cX7_b 0 = .ok (.aload_n 0, 1) := by decide +kernel
theorem dX7_b_1 : decode cX7_b 1 = .ok (.getfield 9, 3) := by decide +kernel
theorem dX7_b_4 : decode cX7_b 4 = .ok (.bipush 10, 2) := by decide +kernel
theorem dX7_b_6 : decode cX7_b 6 = .ok (.iconst 4, 1) := by decide +kernel
theorem dX7_b_7 : decode cX7_b 7 = .ok (.iload_n 1, 1) := by decide +kernel
theorem dX7_b_8 : decode cX7_b 8 = .ok (.imul, 1) := by decide +kernel
theorem dX7_b_9 : decode cX7_b 9 = .ok (.iadd, 1) := by decide +kernel
theorem dX7_b_10 : decode cX7_b 10 = .ok (.iload_n 2, 1) := by decide +kernel
theorem dX7_b_11 : decode cX7_b 11 = .ok (.iadd, 1) := by decide +kernel
theorem dX7_b_12 : decode cX7_b 12 = .ok (.iaload, 1) := by decide +kernel
theorem dX7_b_13 : decode cX7_b 13 = .ok (.ireturn, 1) := by decide +kernel
theorem dX7_set_0 : decode cX7_set 0 = .ok (.aload_n 0, 1) := by decide +kernel
theorem dX7_set_1 : decode cX7_set 1 = .ok (.getfield 9, 3) := by decide +kernel
theorem dX7_set_4 : decode cX7_set 4 = .ok (.bipush 10, 2) := by decide +kernel
theorem dX7_set_6 : decode cX7_set 6 = .ok (.iconst 4, 1) := by decide +kernel
theorem dX7_set_7 : decode cX7_set 7 = .ok (.iload_n 1, 1) := by decide +kernel
theorem dX7_set_8 : decode cX7_set 8 = .ok (.imul, 1) := by decide +kernel
theorem dX7_set_9 : decode cX7_set 9 = .ok (.iadd, 1) := by decide +kernel
theorem dX7_set_10 : decode cX7_set 10 = .ok (.iload_n 2, 1) := by decide +kernel
theorem dX7_set_11 : decode cX7_set 11 = .ok (.iadd, 1) := by decide +kernel
theorem dX7_set_12 : decode cX7_set 12 = .ok (.iload_n 3, 1) := by decide +kernel
theorem dX7_set_13 : decode cX7_set 13 = .ok (.iastore, 1) := by decide +kernel
theorem dX7_set_14 : decode cX7_set 14 = .ok (.return_, 1) := by decide +kernel
theorem dX7_isBasket_0 : decode cX7_isBasket 0 = .ok (.iload_n 1, 1) := by decide +kernel
theorem dX7_isBasket_1 : decode cX7_isBasket 1 = .ok (.iconst 0, 1) := by decide +kernel
theorem dX7_isBasket_2 : decode cX7_isBasket 2 = .ok (.aload_n 0, 1) := by decide +kernel
theorem dX7_isBasket_3 : decode cX7_isBasket 3 = .ok (.getfield 9, 3) := by decide +kernel
theorem dX7_isBasket_6 : decode cX7_isBasket 6 = .ok (.iconst 0, 1) := by decide +kernel
theorem dX7_isBasket_7 : decode cX7_isBasket 7 = .ok (.iaload, 1) := by decide +kernel
theorem dX7_isBasket_8 : decode cX7_isBasket 8 = .ok (.iconst 1, 1) := by decide +kernel
theorem dX7_isBasket_9 : decode cX7_isBasket 9 = .ok (.isub, 1) := by decide +kernel
theorem dX7_isBasket_10 : decode cX7_isBasket 10 = .ok (.invokestatic 46, 3) := by decide +kernel
theorem dX7_isBasket_13 : decode cX7_isBasket 13 = .ok (.ireturn, 1) := by decide +kernel
theorem dX7_isCell_0 : decode cX7_isCell 0 = .ok (.iload_n 0, 1) := by decide +kernel
theorem dX7_isCell_1 : decode cX7_isCell 1 = .ok (.iconst 0, 1) := by decide +kernel
theorem dX7_isCell_2 : decode cX7_isCell 2 = .ok (.bipush 11, 2) := by decide +kernel
theorem dX7_isCell_4 : decode cX7_isCell 4 = .ok (.invokestatic 46, 3) := by decide +kernel
theorem dX7_isCell_7 : decode cX7_isCell 7 = .ok (.ifCond .eq 17, 3) := by decide +kernel
theorem dX7_isCell_10 : decode cX7_isCell 10 = .ok (.iload_n 1, 1) := by decide +kernel
theorem dX7_isCell_11 : decode cX7_isCell 11 = .ok (.iconst 0, 1) := by decide +kernel
theorem dX7_isCell_12 : decode cX7_isCell 12 = .ok (.bipush 11, 2) := by decide +kernel
theorem dX7_isCell_14 : decode cX7_isCell 14 = .ok (.invokestatic 46, 3) := by decide +kernel
theorem dX7_isCell_17 : decode cX7_isCell 17 = .ok (.ifCond .eq 7, 3) := by decide +kernel
theorem dX7_isCell_20 : decode cX7_isCell 20 = .ok (.iconst 1, 1) := by decide +kernel
theorem dX7_isCell_21 : decode cX7_isCell 21 = .ok (.goto 4, 3) := by decide +kernel
theorem dX7_isCell_24 : decode cX7_isCell 24 = .ok (.iconst 0, 1) := by decide +kernel
theorem dX7_isCell_25 : decode cX7_isCell 25 = .ok (.ireturn, 1) := by decide +kernel
theorem dX7_far_0 : decode cX7_far 0 = .ok (.aload_n 0, 1) := by decide +kernel
theorem dX7_far_1 : decode cX7_far 1 = .ok (.iload_n 1, 1) := by decide +kernel
theorem dX7_far_2 : decode cX7_far 2 = .ok (.iconst 0, 1) := by decide +kernel
theorem dX7_far_3 : decode cX7_far 3 = .ok (.invokevirtual 50, 3) := by decide +kernel
theorem dX7_far_6 : decode cX7_far 6 = .ok (.iload_n 2, 1) := by decide +kernel
theorem dX7_far_7 : decode cX7_far 7 = .ok (.isub, 1) := by decide +kernel
theorem dX7_far_8 : decode cX7_far 8 = .ok (.invokestatic 54, 3) := by decide +kernel
theorem dX7_far_11 : decode cX7_far 11 = .ok (.aload_n 0, 1) := by decide +kernel
theorem dX7_far_12 : decode cX7_far 12 = .ok (.iload_n 1, 1) := by decide +kernel
theorem dX7_far_13 : decode cX7_far 13 = .ok (.iconst 1, 1) := by decide +kernel
theorem dX7_far_14 : decode cX7_far 14 = .ok (.invokevirtual 50, 3) := by decide +kernel
theorem dX7_far_17 : decode cX7_far 17 = .ok (.iload_n 3, 1) := by decide +kernel
theorem dX7_far_18 : decode cX7_far 18 = .ok (.isub, 1) := by decide +kernel
theorem dX7_far_19 : decode cX7_far 19 = .ok (.invokestatic 54, 3) := by decide +kernel
theorem dX7_far_22 : decode cX7_far 22 = .ok (.iadd, 1) := by decide +kernel
theorem dX7_far_23 : decode cX7_far 23 = .ok (.ireturn, 1) := by decide +kernel
theorem dX7_apart_0 : decode cX7_apart 0 = .ok (.aload_n 0, 1) := by decide +kernel
theorem dX7_apart_1 : decode cX7_apart 1 = .ok (.iload_n 1, 1) := by decide +kernel
theorem dX7_apart_2 : decode cX7_apart 2 = .ok (.aload_n 0, 1) := by decide +kernel
theorem dX7_apart_3 : decode cX7_apart 3 = .ok (.iload_n 2, 1) := by decide +kernel
theorem dX7_apart_4 : decode cX7_apart 4 = .ok (.iconst 0, 1) := by decide +kernel
theorem dX7_apart_5 : decode cX7_apart 5 = .ok (.invokevirtual 50, 3) := by decide +kernel
theorem dX7_apart_8 : decode cX7_apart 8 = .ok (.aload_n 0, 1) := by decide +kernel
theorem dX7_apart_9 : decode cX7_apart 9 = .ok (.iload_n 2, 1) := by decide +kernel
theorem dX7_apart_10 : decode cX7_apart 10 = .ok (.iconst 1, 1) := by decide +kernel
theorem dX7_apart_11 : decode cX7_apart 11 = .ok (.invokevirtual 50, 3) := by decide +kernel
theorem dX7_apart_14 : decode cX7_apart 14 = .ok (.invokevirtual 58, 3) := by decide +kernel
theorem dX7_apart_17 : decode cX7_apart 17 = .ok (.ireturn, 1) := by decide +kernel
theorem dX7_cloud_0 : decode cX7_cloud 0 = .ok (.iconst 0, 1) := by decide +kernel
theorem dX7_cloud_1 : decode cX7_cloud 1 = .ok (.istore_n 3, 1) := by decide +kernel
theorem dX7_cloud_2 : decode cX7_cloud 2 = .ok (.iload_n 3, 1) := by decide +kernel
theorem dX7_cloud_3 : decode cX7_cloud 3 = .ok (.aload_n 0, 1) := by decide +kernel
theorem dX7_cloud_4 : decode cX7_cloud 4 = .ok (.getfield 9, 3) := by decide +kernel
theorem dX7_cloud_7 : decode cX7_cloud 7 = .ok (.iconst 1, 1) := by decide +kernel
theorem dX7_cloud_8 : decode cX7_cloud 8 = .ok (.iaload, 1) := by decide +kernel
theorem dX7_cloud_9 : decode cX7_cloud 9 = .ok (.if_icmp .ge 29, 3) := by decide +kernel
theorem dX7_cloud_12 : decode cX7_cloud 12 = .ok (.aload_n 0, 1) := by decide +kernel
theorem dX7_cloud_13 : decode cX7_cloud 13 = .ok (.getfield 9, 3) := by decide +kernel
theorem dX7_cloud_16 : decode cX7_cloud 16 = .ok (.bipush 50, 2) := by decide +kernel
theorem dX7_cloud_18 : decode cX7_cloud 18 = .ok (.iload_n 3, 1) := by decide +kernel
theorem dX7_cloud_19 : decode cX7_cloud 19 = .ok (.iadd, 1) := by decide +kernel
theorem dX7_cloud_20 : decode cX7_cloud 20 = .ok (.iaload, 1) := by decide +kernel
theorem dX7_cloud_21 : decode cX7_cloud 21 = .ok (.bipush 12, 2) := by decide +kernel
theorem dX7_cloud_23 : decode cX7_cloud 23 = .ok (.iload_n 2, 1) := by decide +kernel
theorem dX7_cloud_24 : decode cX7_cloud 24 = .ok (.imul, 1) := by decide +kernel
theorem dX7_cloud_25 : decode cX7_cloud 25 = .ok (.iload_n 1, 1) := by decide +kernel
theorem dX7_cloud_26 : decode cX7_cloud 26 = .ok (.iadd, 1) := by decide +kernel
theorem dX7_cloud_27 : decode cX7_cloud 27 = .ok (.if_icmp .ne 5, 3) := by decide +kernel
theorem dX7_cloud_30 : decode cX7_cloud 30 = .ok (.iload_n 3, 1) := by decide +kernel
theorem dX7_cloud_31 : decode cX7_cloud 31 = .ok (.ireturn, 1) := by decide +kernel
theorem dX7_cloud_32 : decode cX7_cloud 32 = .ok (.iinc 3 1, 3) := by decide +kernel
theorem dX7_cloud_35 : decode cX7_cloud 35 = .ok (.goto (-33), 3) := by decide +kernel
theorem dX7_cloud_38 : decode cX7_cloud 38 = .ok (.iconst (-1), 1) := by decide +kernel
theorem dX7_cloud_39 : decode cX7_cloud 39 = .ok (.ireturn, 1) := by decide +kernel
theorem dX7_touched_0 : decode cX7_touched 0 = .ok (.iconst 0, 1) := by decide +kernel
theorem dX7_touched_1 : decode cX7_touched 1 = .ok (.istore 4, 2) := by decide +kernel
theorem dX7_touched_3 : decode cX7_touched 3 = .ok (.iload 4, 2) := by decide +kernel
theorem dX7_touched_5 : decode cX7_touched 5 = .ok (.aload_n 0, 1) := by decide +kernel
theorem dX7_touched_6 : decode cX7_touched 6 = .ok (.getfield 9, 3) := by decide +kernel
theorem dX7_touched_9 : decode cX7_touched 9 = .ok (.iconst 0, 1) := by decide +kernel
theorem dX7_touched_10 : decode cX7_touched 10 = .ok (.iaload, 1) := by decide +kernel
theorem dX7_touched_11 : decode cX7_touched 11 = .ok (.if_icmp .ge 30, 3) := by decide +kernel
theorem dX7_touched_14 : decode cX7_touched 14 = .ok (.iload 4, 2) := by decide +kernel
theorem dX7_touched_16 : decode cX7_touched 16 = .ok (.iload_n 1, 1) := by decide +kernel
theorem dX7_touched_17 : decode cX7_touched 17 = .ok (.if_icmp .eq 18, 3) := by decide +kernel
theorem dX7_touched_20 : decode cX7_touched 20 = .ok (.aload_n 0, 1) := by decide +kernel
theorem dX7_touched_21 : decode cX7_touched 21 = .ok (.iload 4, 2) := by decide +kernel
theorem dX7_touched_23 : decode cX7_touched 23 = .ok (.iload_n 2, 1) := by decide +kernel
theorem dX7_touched_24 : decode cX7_touched 24 = .ok (.iload_n 3, 1) := by decide +kernel
theorem dX7_touched_25 : decode cX7_touched 25 = .ok (.invokevirtual 58, 3) := by decide +kernel
theorem dX7_touched_28 : decode cX7_touched 28 = .ok (.iconst 2, 1) := by decide +kernel
theorem dX7_touched_29 : decode cX7_touched 29 = .ok (.if_icmp .ge 6, 3) := by decide +kernel
theorem dX7_touched_32 : decode cX7_touched 32 = .ok (.iload 4, 2) := by decide +kernel
theorem dX7_touched_34 : decode cX7_touched 34 = .ok (.ireturn, 1) := by decide +kernel
theorem dX7_touched_35 : decode cX7_touched 35 = .ok (.iinc 4 1, 3) := by decide +kernel
theorem dX7_touched_38 : decode cX7_touched 38 = .ok (.goto (-35), 3) := by decide +kernel
theorem dX7_touched_41 : decode cX7_touched 41 = .ok (.iconst (-1), 1) := by decide +kernel
theorem dX7_touched_42 : decode cX7_touched 42 = .ok (.ireturn, 1) := by decide +kernel
theorem dX7_at_0 : decode cX7_at 0 = .ok (.iconst 0, 1) := by decide +kernel
theorem dX7_at_1 : decode cX7_at 1 = .ok (.istore_n 3, 1) := by decide +kernel
theorem dX7_at_2 : decode cX7_at 2 = .ok (.iload_n 3, 1) := by decide +kernel
theorem dX7_at_3 : decode cX7_at 3 = .ok (.aload_n 0, 1) := by decide +kernel
theorem dX7_at_4 : decode cX7_at 4 = .ok (.getfield 9, 3) := by decide +kernel
theorem dX7_at_7 : decode cX7_at 7 = .ok (.iconst 0, 1) := by decide +kernel
theorem dX7_at_8 : decode cX7_at 8 = .ok (.iaload, 1) := by decide +kernel
theorem dX7_at_9 : decode cX7_at 9 = .ok (.if_icmp .ge 21, 3) := by decide +kernel
theorem dX7_at_12 : decode cX7_at 12 = .ok (.aload_n 0, 1) := by decide +kernel
theorem dX7_at_13 : decode cX7_at 13 = .ok (.iload_n 3, 1) := by decide +kernel
theorem dX7_at_14 : decode cX7_at 14 = .ok (.iload_n 1, 1) := by decide +kernel
theorem dX7_at_15 : decode cX7_at 15 = .ok (.iload_n 2, 1) := by decide +kernel
theorem dX7_at_16 : decode cX7_at 16 = .ok (.invokevirtual 58, 3) := by decide +kernel
theorem dX7_at_19 : decode cX7_at 19 = .ok (.ifCond .ne 5, 3) := by decide +kernel
theorem dX7_at_22 : decode cX7_at 22 = .ok (.iload_n 3, 1) := by decide +kernel
theorem dX7_at_23 : decode cX7_at 23 = .ok (.ireturn, 1) := by decide +kernel
theorem dX7_at_24 : decode cX7_at 24 = .ok (.iinc 3 1, 3) := by decide +kernel
theorem dX7_at_27 : decode cX7_at 27 = .ok (.goto (-25), 3) := by decide +kernel
theorem dX7_at_30 : decode cX7_at 30 = .ok (.iconst (-1), 1) := by decide +kernel
theorem dX7_at_31 : decode cX7_at 31 = .ok (.ireturn, 1) := by decide +kernel
theorem dX7_isPossible_0 : decode cX7_isPossible 0 = .ok (.iload_n 2, 1) := by decide +kernel
theorem dX7_isPossible_1 : decode cX7_isPossible 1 = .ok (.iload_n 3, 1) := by decide +kernel
theorem dX7_isPossible_2 : decode cX7_isPossible 2 = .ok (.invokestatic 62, 3) := by decide +kernel
theorem dX7_isPossible_5 : decode cX7_isPossible 5 = .ok (.ifCond .eq 26, 3) := by decide +kernel
theorem dX7_isPossible_8 : decode cX7_isPossible 8 = .ok (.aload_n 0, 1) := by decide +kernel
theorem dX7_isPossible_9 : decode cX7_isPossible 9 = .ok (.iload_n 2, 1) := by decide +kernel
theorem dX7_isPossible_10 : decode cX7_isPossible 10 = .ok (.iload_n 3, 1) := by decide +kernel
theorem dX7_isPossible_11 : decode cX7_isPossible 11 = .ok (.invokevirtual 66, 3) := by decide +kernel
theorem dX7_isPossible_14 : decode cX7_isPossible 14 = .ok (.ifCond .ge 17, 3) := by decide +kernel
theorem dX7_isPossible_17 : decode cX7_isPossible 17 = .ok (.aload_n 0, 1) := by decide +kernel
theorem dX7_isPossible_18 : decode cX7_isPossible 18 = .ok (.iload_n 1, 1) := by decide +kernel
theorem dX7_isPossible_19 : decode cX7_isPossible 19 = .ok (.iload_n 2, 1) := by decide +kernel
theorem dX7_isPossible_20 : decode cX7_isPossible 20 = .ok (.iload_n 3, 1) := by decide +kernel
theorem dX7_isPossible_21 : decode cX7_isPossible 21 = .ok (.invokevirtual 69, 3) := by decide +kernel
theorem dX7_isPossible_24 : decode cX7_isPossible 24 = .ok (.ifCond .ge 7, 3) := by decide +kernel
theorem dX7_isPossible_27 : decode cX7_isPossible 27 = .ok (.iconst 1, 1) := by decide +kernel
theorem dX7_isPossible_28 : decode cX7_isPossible 28 = .ok (.goto 4, 3) := by decide +kernel
theorem dX7_isPossible_31 : decode cX7_isPossible 31 = .ok (.iconst 0, 1) := by decide +kernel
theorem dX7_isPossible_32 : decode cX7_isPossible 32 = .ok (.ireturn, 1) := by decide +kernel
theorem dX7_refuses_0 : decode cX7_refuses 0 = .ok (.aload_n 0, 1) := by decide +kernel
theorem dX7_refuses_1 : decode cX7_refuses 1 = .ok (.iload_n 2, 1) := by decide +kernel
theorem dX7_refuses_2 : decode cX7_refuses 2 = .ok (.iload_n 3, 1) := by decide +kernel
theorem dX7_refuses_3 : decode cX7_refuses 3 = .ok (.invokevirtual 66, 3) := by decide +kernel
theorem dX7_refuses_6 : decode cX7_refuses 6 = .ok (.istore 4, 2) := by decide +kernel
theorem dX7_refuses_8 : decode cX7_refuses 8 = .ok (.aload_n 0, 1) := by decide +kernel
theorem dX7_refuses_9 : decode cX7_refuses 9 = .ok (.iload_n 1, 1) := by decide +kernel
theorem dX7_refuses_10 : decode cX7_refuses 10 = .ok (.iload_n 2, 1) := by decide +kernel
theorem dX7_refuses_11 : decode cX7_refuses 11 = .ok (.iload_n 3, 1) := by decide +kernel
theorem dX7_refuses_12 : decode cX7_refuses 12 = .ok (.invokevirtual 69, 3) := by decide +kernel
theorem dX7_refuses_15 : decode cX7_refuses 15 = .ok (.istore 5, 2) := by decide +kernel
theorem dX7_refuses_17 : decode cX7_refuses 17 = .ok (.iload 4, 2) := by decide +kernel
theorem dX7_refuses_19 : decode cX7_refuses 19 = .ok (.ifCond .ge 10, 3) := by decide +kernel
theorem dX7_refuses_22 : decode cX7_refuses 22 = .ok (.iload 5, 2) := by decide +kernel
theorem dX7_refuses_24 : decode cX7_refuses 24 = .ok (.ifCond .ge 5, 3) := by decide +kernel
theorem dX7_refuses_27 : decode cX7_refuses 27 = .ok (.iconst 0, 1) := by decide +kernel
theorem dX7_refuses_28 : decode cX7_refuses 28 = .ok (.ireturn, 1) := by decide +kernel
theorem dX7_refuses_29 : decode cX7_refuses 29 = .ok (.aload_n 0, 1) := by decide +kernel
theorem dX7_refuses_30 : decode cX7_refuses 30 = .ok (.iload 4, 2) := by decide +kernel
theorem dX7_refuses_32 : decode cX7_refuses 32 = .ok (.ifCond .lt 7, 3) := by decide +kernel
theorem dX7_refuses_35 : decode cX7_refuses 35 = .ok (.iconst 1, 1) := by decide +kernel
theorem dX7_refuses_36 : decode cX7_refuses 36 = .ok (.goto 4, 3) := by decide +kernel
theorem dX7_refuses_39 : decode cX7_refuses 39 = .ok (.iconst 2, 1) := by decide +kernel
theorem dX7_refuses_40 : decode cX7_refuses 40 = .ok (.putfield 72, 3) := by decide +kernel
theorem dX7_refuses_43 : decode cX7_refuses 43 = .ok (.aload_n 0, 1) := by decide +kernel
theorem dX7_refuses_44 : decode cX7_refuses 44 = .ok (.iload 4, 2) := by decide +kernel
theorem dX7_refuses_46 : decode cX7_refuses 46 = .ok (.ifCond .lt 12, 3) := by decide +kernel
theorem dX7_refuses_49 : decode cX7_refuses 49 = .ok (.aload_n 0, 1) := by decide +kernel
theorem dX7_refuses_50 : decode cX7_refuses 50 = .ok (.getfield 9, 3) := by decide +kernel
theorem dX7_refuses_53 : decode cX7_refuses 53 = .ok (.iconst 1, 1) := by decide +kernel
theorem dX7_refuses_54 : decode cX7_refuses 54 = .ok (.iaload, 1) := by decide +kernel
theorem dX7_refuses_55 : decode cX7_refuses 55 = .ok (.goto 5, 3) := by decide +kernel
theorem dX7_refuses_58 : decode cX7_refuses 58 = .ok (.iload 5, 2) := by decide +kernel
theorem dX7_refuses_60 : decode cX7_refuses 60 = .ok (.putfield 75, 3) := by decide +kernel
theorem dX7_refuses_63 : decode cX7_refuses 63 = .ok (.iconst 1, 1) := by decide +kernel
theorem dX7_refuses_64 : decode cX7_refuses 64 = .ok (.ireturn, 1) := by decide +kernel
theorem dX7_refusalReason_0 : decode cX7_refusalReason 0 = .ok (.aload_n 0, 1) := by decide +kernel
theorem dX7_refusalReason_1 : decode cX7_refusalReason 1 = .ok (.aload_n 0, 1) := by decide +kernel
theorem dX7_refusalReason_2 : decode cX7_refusalReason 2 = .ok (.getfield 72, 3) := by decide +kernel
theorem dX7_refusalReason_5 : decode cX7_refusalReason 5 = .ok (.ifCond .eq 7, 3) := by decide +kernel
theorem dX7_refusalReason_8 : decode cX7_refusalReason 8 = .ok (.iconst 1, 1) := by decide +kernel
theorem dX7_refusalReason_9 : decode cX7_refusalReason 9 = .ok (.goto 4, 3) := by decide +kernel
theorem dX7_refusalReason_12 : decode cX7_refusalReason 12 = .ok (.iconst 0, 1) := by decide +kernel
theorem dX7_refusalReason_13 : decode cX7_refusalReason 13 = .ok (.invokevirtual 78, 3) := by decide +kernel
theorem dX7_refusalReason_16 : decode cX7_refusalReason 16 = .ok (.ifCond .eq 10, 3) := by decide +kernel
theorem dX7_refusalReason_19 : decode cX7_refusalReason 19 = .ok (.aload_n 0, 1) := by decide +kernel
theorem dX7_refusalReason_20 : decode cX7_refusalReason 20 = .ok (.getfield 72, 3) := by decide +kernel
theorem dX7_refusalReason_23 : decode cX7_refusalReason 23 = .ok (.goto 4, 3) := by decide +kernel
theorem dX7_refusalReason_26 : decode cX7_refusalReason 26 = .ok (.iconst 0, 1) := by decide +kernel
theorem dX7_refusalReason_27 : decode cX7_refusalReason 27 = .ok (.ireturn, 1) := by decide +kernel
theorem dX7_refusalDetail_0 : decode cX7_refusalDetail 0 = .ok (.aload_n 0, 1) := by decide +kernel
theorem dX7_refusalDetail_1 : decode cX7_refusalDetail 1 = .ok (.aload_n 0, 1) := by decide +kernel
theorem dX7_refusalDetail_2 : decode cX7_refusalDetail 2 = .ok (.getfield 72, 3) := by decide +kernel
theorem dX7_refusalDetail_5 : decode cX7_refusalDetail 5 = .ok (.ifCond .eq 7, 3) := by decide +kernel
theorem dX7_refusalDetail_8 : decode cX7_refusalDetail 8 = .ok (.iconst 1, 1) := by decide +kernel
theorem dX7_refusalDetail_9 : decode cX7_refusalDetail 9 = .ok (.goto 4, 3) := by decide +kernel
theorem dX7_refusalDetail_12 : decode cX7_refusalDetail 12 = .ok (.iconst 0, 1) := by decide +kernel
theorem dX7_refusalDetail_13 : decode cX7_refusalDetail 13 = .ok (.invokevirtual 78, 3) := by decide +kernel
theorem dX7_refusalDetail_16 : decode cX7_refusalDetail 16 = .ok (.ifCond .eq 10, 3) := by decide +kernel
theorem dX7_refusalDetail_19 : decode cX7_refusalDetail 19 = .ok (.aload_n 0, 1) := by decide +kernel
theorem dX7_refusalDetail_20 : decode cX7_refusalDetail 20 = .ok (.getfield 75, 3) := by decide +kernel
theorem dX7_refusalDetail_23 : decode cX7_refusalDetail 23 = .ok (.goto 4, 3) := by decide +kernel
theorem dX7_refusalDetail_26 : decode cX7_refusalDetail 26 = .ok (.iconst 0, 1) := by decide +kernel
theorem dX7_refusalDetail_27 : decode cX7_refusalDetail 27 = .ok (.ireturn, 1) := by decide +kernel
theorem dX7_goes_0 : decode cX7_goes 0 = .ok (.aload_n 0, 1) := by decide +kernel
theorem dX7_goes_1 : decode cX7_goes 1 = .ok (.iload_n 1, 1) := by decide +kernel
theorem dX7_goes_2 : decode cX7_goes 2 = .ok (.iload_n 2, 1) := by decide +kernel
theorem dX7_goes_3 : decode cX7_goes 3 = .ok (.iload_n 3, 1) := by decide +kernel
theorem dX7_goes_4 : decode cX7_goes 4 = .ok (.invokevirtual 82, 3) := by decide +kernel
theorem dX7_goes_7 : decode cX7_goes 7 = .ok (.ifCond .ne 5, 3) := by decide +kernel
theorem dX7_goes_10 : decode cX7_goes 10 = .ok (.iconst 0, 1) := by decide +kernel
theorem dX7_goes_11 : decode cX7_goes 11 = .ok (.ireturn, 1) := by decide +kernel
theorem dX7_goes_12 : decode cX7_goes 12 = .ok (.aload_n 0, 1) := by decide +kernel
theorem dX7_goes_13 : decode cX7_goes 13 = .ok (.iload_n 1, 1) := by decide +kernel
theorem dX7_goes_14 : decode cX7_goes 14 = .ok (.iconst 0, 1) := by decide +kernel
theorem dX7_goes_15 : decode cX7_goes 15 = .ok (.iload_n 2, 1) := by decide +kernel
theorem dX7_goes_16 : decode cX7_goes 16 = .ok (.invokevirtual 85, 3) := by decide +kernel
theorem dX7_goes_19 : decode cX7_goes 19 = .ok (.aload_n 0, 1) := by decide +kernel
theorem dX7_goes_20 : decode cX7_goes 20 = .ok (.iload_n 1, 1) := by decide +kernel
theorem dX7_goes_21 : decode cX7_goes 21 = .ok (.iconst 1, 1) := by decide +kernel
theorem dX7_goes_22 : decode cX7_goes 22 = .ok (.iload_n 3, 1) := by decide +kernel
theorem dX7_goes_23 : decode cX7_goes 23 = .ok (.invokevirtual 85, 3) := by decide +kernel
theorem dX7_goes_26 : decode cX7_goes 26 = .ok (.aload_n 0, 1) := by decide +kernel
theorem dX7_goes_27 : decode cX7_goes 27 = .ok (.iload_n 1, 1) := by decide +kernel
theorem dX7_goes_28 : decode cX7_goes 28 = .ok (.iconst 3, 1) := by decide +kernel
theorem dX7_goes_29 : decode cX7_goes 29 = .ok (.aload_n 0, 1) := by decide +kernel
theorem dX7_goes_30 : decode cX7_goes 30 = .ok (.iload_n 1, 1) := by decide +kernel
theorem dX7_goes_31 : decode cX7_goes 31 = .ok (.iconst 3, 1) := by decide +kernel
theorem dX7_goes_32 : decode cX7_goes 32 = .ok (.invokevirtual 50, 3) := by decide +kernel
theorem dX7_goes_35 : decode cX7_goes 35 = .ok (.iconst 1, 1) := by decide +kernel
theorem dX7_goes_36 : decode cX7_goes 36 = .ok (.iadd, 1) := by decide +kernel
theorem dX7_goes_37 : decode cX7_goes 37 = .ok (.invokevirtual 85, 3) := by decide +kernel
theorem dX7_goes_40 : decode cX7_goes 40 = .ok (.iconst 1, 1) := by decide +kernel
theorem dX7_goes_41 : decode cX7_goes 41 = .ok (.ireturn, 1) := by decide +kernel
theorem dX7_toward_0 : decode cX7_toward 0 = .ok (.iload_n 0, 1) := by decide +kernel
theorem dX7_toward_1 : decode cX7_toward 1 = .ok (.ifCond .ge 7, 3) := by decide +kernel
theorem dX7_toward_4 : decode cX7_toward 4 = .ok (.iconst (-1), 1) := by decide +kernel
theorem dX7_toward_5 : decode cX7_toward 5 = .ok (.goto 12, 3) := by decide +kernel
theorem dX7_toward_8 : decode cX7_toward 8 = .ok (.iload_n 0, 1) := by decide +kernel
theorem dX7_toward_9 : decode cX7_toward 9 = .ok (.ifCond .le 7, 3) := by decide +kernel
theorem dX7_toward_12 : decode cX7_toward 12 = .ok (.iconst 1, 1) := by decide +kernel
theorem dX7_toward_13 : decode cX7_toward 13 = .ok (.goto 4, 3) := by decide +kernel
theorem dX7_toward_16 : decode cX7_toward 16 = .ok (.iconst 0, 1) := by decide +kernel
theorem dX7_toward_17 : decode cX7_toward 17 = .ok (.ireturn, 1) := by decide +kernel
theorem dX7_counted_0 : decode cX7_counted 0 = .ok (.aload_n 0, 1) := by decide +kernel
theorem dX7_counted_1 : decode cX7_counted 1 = .ok (.getfield 9, 3) := by decide +kernel
theorem dX7_counted_4 : decode cX7_counted 4 = .ok (.bipush 8, 2) := by decide +kernel
theorem dX7_counted_6 : decode cX7_counted 6 = .ok (.dup2, 1) := by decide +kernel
theorem dX7_counted_7 : decode cX7_counted 7 = .ok (.iaload, 1) := by decide +kernel
theorem dX7_counted_8 : decode cX7_counted 8 = .ok (.iload_n 1, 1) := by decide +kernel
theorem dX7_counted_9 : decode cX7_counted 9 = .ok (.ifCond .eq 7, 3) := by decide +kernel
theorem dX7_counted_12 : decode cX7_counted 12 = .ok (.iconst 0, 1) := by decide +kernel
theorem dX7_counted_13 : decode cX7_counted 13 = .ok (.goto 4, 3) := by decide +kernel
theorem dX7_counted_16 : decode cX7_counted 16 = .ok (.iconst 1, 1) := by decide +kernel
theorem dX7_counted_17 : decode cX7_counted 17 = .ok (.iadd, 1) := by decide +kernel
theorem dX7_counted_18 : decode cX7_counted 18 = .ok (.iastore, 1) := by decide +kernel
theorem dX7_counted_19 : decode cX7_counted 19 = .ok (.iload_n 1, 1) := by decide +kernel
theorem dX7_counted_20 : decode cX7_counted 20 = .ok (.ifCond .eq 7, 3) := by decide +kernel
theorem dX7_counted_23 : decode cX7_counted 23 = .ok (.iconst 1, 1) := by decide +kernel
theorem dX7_counted_24 : decode cX7_counted 24 = .ok (.goto 4, 3) := by decide +kernel
theorem dX7_counted_27 : decode cX7_counted 27 = .ok (.iconst 0, 1) := by decide +kernel
theorem dX7_counted_28 : decode cX7_counted 28 = .ok (.ireturn, 1) := by decide +kernel
theorem dX7_leads_0 : decode cX7_leads 0 = .ok (.aload_n 0, 1) := by decide +kernel
theorem dX7_leads_1 : decode cX7_leads 1 = .ok (.getfield 9, 3) := by decide +kernel
theorem dX7_leads_4 : decode cX7_leads 4 = .ok (.iconst 2, 1) := by decide +kernel
theorem dX7_leads_5 : decode cX7_leads 5 = .ok (.iaload, 1) := by decide +kernel
theorem dX7_leads_6 : decode cX7_leads 6 = .ok (.istore_n 1, 1) := by decide +kernel
theorem dX7_leads_7 : decode cX7_leads 7 = .ok (.aload_n 0, 1) := by decide +kernel
theorem dX7_leads_8 : decode cX7_leads 8 = .ok (.iload_n 1, 1) := by decide +kernel
theorem dX7_leads_9 : decode cX7_leads 9 = .ok (.iconst 0, 1) := by decide +kernel
theorem dX7_leads_10 : decode cX7_leads 10 = .ok (.invokevirtual 50, 3) := by decide +kernel
theorem dX7_leads_13 : decode cX7_leads 13 = .ok (.istore_n 2, 1) := by decide +kernel
theorem dX7_leads_14 : decode cX7_leads 14 = .ok (.aload_n 0, 1) := by decide +kernel
theorem dX7_leads_15 : decode cX7_leads 15 = .ok (.iload_n 1, 1) := by decide +kernel
theorem dX7_leads_16 : decode cX7_leads 16 = .ok (.iconst 1, 1) := by decide +kernel
theorem dX7_leads_17 : decode cX7_leads 17 = .ok (.invokevirtual 50, 3) := by decide +kernel
theorem dX7_leads_20 : decode cX7_leads 20 = .ok (.istore_n 3, 1) := by decide +kernel
theorem dX7_leads_21 : decode cX7_leads 21 = .ok (.aload_n 0, 1) := by decide +kernel
theorem dX7_leads_22 : decode cX7_leads 22 = .ok (.getfield 9, 3) := by decide +kernel
theorem dX7_leads_25 : decode cX7_leads 25 = .ok (.iconst 5, 1) := by decide +kernel
theorem dX7_leads_26 : decode cX7_leads 26 = .ok (.iaload, 1) := by decide +kernel
theorem dX7_leads_27 : decode cX7_leads 27 = .ok (.iconst 1, 1) := by decide +kernel
theorem dX7_leads_28 : decode cX7_leads 28 = .ok (.isub, 1) := by decide +kernel
theorem dX7_leads_29 : decode cX7_leads 29 = .ok (.bipush 12, 2) := by decide +kernel
theorem dX7_leads_31 : decode cX7_leads 31 = .ok (.irem, 1) := by decide +kernel
theorem dX7_leads_32 : decode cX7_leads 32 = .ok (.iload_n 2, 1) := by decide +kernel
theorem dX7_leads_33 : decode cX7_leads 33 = .ok (.isub, 1) := by decide +kernel
theorem dX7_leads_34 : decode cX7_leads 34 = .ok (.istore 4, 2) := by decide +kernel
theorem dX7_leads_36 : decode cX7_leads 36 = .ok (.aload_n 0, 1) := by decide +kernel
theorem dX7_leads_37 : decode cX7_leads 37 = .ok (.getfield 9, 3) := by decide +kernel
theorem dX7_leads_40 : decode cX7_leads 40 = .ok (.iconst 5, 1) := by decide +kernel
theorem dX7_leads_41 : decode cX7_leads 41 = .ok (.iaload, 1) := by decide +kernel
theorem dX7_leads_42 : decode cX7_leads 42 = .ok (.iconst 1, 1) := by decide +kernel
theorem dX7_leads_43 : decode cX7_leads 43 = .ok (.isub, 1) := by decide +kernel
theorem dX7_leads_44 : decode cX7_leads 44 = .ok (.bipush 12, 2) := by decide +kernel
theorem dX7_leads_46 : decode cX7_leads 46 = .ok (.idiv, 1) := by decide +kernel
theorem dX7_leads_47 : decode cX7_leads 47 = .ok (.iload_n 3, 1) := by decide +kernel
theorem dX7_leads_48 : decode cX7_leads 48 = .ok (.isub, 1) := by decide +kernel
theorem dX7_leads_49 : decode cX7_leads 49 = .ok (.istore 5, 2) := by decide +kernel
theorem dX7_leads_51 : decode cX7_leads 51 = .ok (.aload_n 0, 1) := by decide +kernel
theorem dX7_leads_52 : decode cX7_leads 52 = .ok (.getfield 9, 3) := by decide +kernel
theorem dX7_leads_55 : decode cX7_leads 55 = .ok (.iconst 5, 1) := by decide +kernel
theorem dX7_leads_56 : decode cX7_leads 56 = .ok (.iaload, 1) := by decide +kernel
theorem dX7_leads_57 : decode cX7_leads 57 = .ok (.ifCond .eq 13, 3) := by decide +kernel
theorem dX7_leads_60 : decode cX7_leads 60 = .ok (.iload 4, 2) := by decide +kernel
theorem dX7_leads_62 : decode cX7_leads 62 = .ok (.ifCond .ne 10, 3) := by decide +kernel
theorem dX7_leads_65 : decode cX7_leads 65 = .ok (.iload 5, 2) := by decide +kernel
theorem dX7_leads_67 : decode cX7_leads 67 = .ok (.ifCond .ne 5, 3) := by decide +kernel
theorem dX7_leads_70 : decode cX7_leads 70 = .ok (.iconst 0, 1) := by decide +kernel
theorem dX7_leads_71 : decode cX7_leads 71 = .ok (.ireturn, 1) := by decide +kernel
theorem dX7_leads_72 : decode cX7_leads 72 = .ok (.iload 4, 2) := by decide +kernel
theorem dX7_leads_74 : decode cX7_leads 74 = .ok (.invokestatic 54, 3) := by decide +kernel
theorem dX7_leads_77 : decode cX7_leads 77 = .ok (.iload 5, 2) := by decide +kernel
theorem dX7_leads_79 : decode cX7_leads 79 = .ok (.invokestatic 54, 3) := by decide +kernel
theorem dX7_leads_82 : decode cX7_leads 82 = .ok (.if_icmp .lt 7, 3) := by decide +kernel
theorem dX7_leads_85 : decode cX7_leads 85 = .ok (.iconst 1, 1) := by decide +kernel
theorem dX7_leads_86 : decode cX7_leads 86 = .ok (.goto 4, 3) := by decide +kernel
theorem dX7_leads_89 : decode cX7_leads 89 = .ok (.iconst 0, 1) := by decide +kernel
theorem dX7_leads_90 : decode cX7_leads 90 = .ok (.istore 6, 2) := by decide +kernel
theorem dX7_leads_92 : decode cX7_leads 92 = .ok (.iload 6, 2) := by decide +kernel
theorem dX7_leads_94 : decode cX7_leads 94 = .ok (.ifCond .eq 19, 3) := by decide +kernel
theorem dX7_leads_97 : decode cX7_leads 97 = .ok (.aload_n 0, 1) := by decide +kernel
theorem dX7_leads_98 : decode cX7_leads 98 = .ok (.iload_n 1, 1) := by decide +kernel
theorem dX7_leads_99 : decode cX7_leads 99 = .ok (.iload_n 2, 1) := by decide +kernel
theorem dX7_leads_100 : decode cX7_leads 100 = .ok (.iload 4, 2) := by decide +kernel
theorem dX7_leads_102 : decode cX7_leads 102 = .ok (.invokestatic 89, 3) := by decide +kernel
theorem dX7_leads_105 : decode cX7_leads 105 = .ok (.iadd, 1) := by decide +kernel
theorem dX7_leads_106 : decode cX7_leads 106 = .ok (.iload_n 3, 1) := by decide +kernel
theorem dX7_leads_107 : decode cX7_leads 107 = .ok (.invokevirtual 92, 3) := by decide +kernel
theorem dX7_leads_110 : decode cX7_leads 110 = .ok (.goto 16, 3) := by decide +kernel
theorem dX7_leads_113 : decode cX7_leads 113 = .ok (.aload_n 0, 1) := by decide +kernel
theorem dX7_leads_114 : decode cX7_leads 114 = .ok (.iload_n 1, 1) := by decide +kernel
theorem dX7_leads_115 : decode cX7_leads 115 = .ok (.iload_n 2, 1) := by decide +kernel
theorem dX7_leads_116 : decode cX7_leads 116 = .ok (.iload_n 3, 1) := by decide +kernel
theorem dX7_leads_117 : decode cX7_leads 117 = .ok (.iload 5, 2) := by decide +kernel
theorem dX7_leads_119 : decode cX7_leads 119 = .ok (.invokestatic 89, 3) := by decide +kernel
theorem dX7_leads_122 : decode cX7_leads 122 = .ok (.iadd, 1) := by decide +kernel
theorem dX7_leads_123 : decode cX7_leads 123 = .ok (.invokevirtual 92, 3) := by decide +kernel
theorem dX7_leads_126 : decode cX7_leads 126 = .ok (.istore 7, 2) := by decide +kernel
theorem dX7_leads_128 : decode cX7_leads 128 = .ok (.iload 7, 2) := by decide +kernel
theorem dX7_leads_130 : decode cX7_leads 130 = .ok (.ifCond .ne 28, 3) := by decide +kernel
theorem dX7_leads_133 : decode cX7_leads 133 = .ok (.iload 6, 2) := by decide +kernel
theorem dX7_leads_135 : decode cX7_leads 135 = .ok (.ifCond .eq 23, 3) := by decide +kernel
theorem dX7_leads_138 : decode cX7_leads 138 = .ok (.iload 5, 2) := by decide +kernel
theorem dX7_leads_140 : decode cX7_leads 140 = .ok (.ifCond .eq 18, 3) := by decide +kernel
theorem dX7_leads_143 : decode cX7_leads 143 = .ok (.aload_n 0, 1) := by decide +kernel
theorem dX7_leads_144 : decode cX7_leads 144 = .ok (.iload_n 1, 1) := by decide +kernel
theorem dX7_leads_145 : decode cX7_leads 145 = .ok (.iload_n 2, 1) := by decide +kernel
theorem dX7_leads_146 : decode cX7_leads 146 = .ok (.iload_n 3, 1) := by decide +kernel
theorem dX7_leads_147 : decode cX7_leads 147 = .ok (.iload 5, 2) := by decide +kernel
theorem dX7_leads_149 : decode cX7_leads 149 = .ok (.invokestatic 89, 3) := by decide +kernel
theorem dX7_leads_152 : decode cX7_leads 152 = .ok (.iadd, 1) := by decide +kernel
theorem dX7_leads_153 : decode cX7_leads 153 = .ok (.invokevirtual 92, 3) := by decide +kernel
theorem dX7_leads_156 : decode cX7_leads 156 = .ok (.istore 7, 2) := by decide +kernel
theorem dX7_leads_158 : decode cX7_leads 158 = .ok (.iload 7, 2) := by decide +kernel
theorem dX7_leads_160 : decode cX7_leads 160 = .ok (.ifCond .ne 28, 3) := by decide +kernel
theorem dX7_leads_163 : decode cX7_leads 163 = .ok (.iload 6, 2) := by decide +kernel
theorem dX7_leads_165 : decode cX7_leads 165 = .ok (.ifCond .ne 23, 3) := by decide +kernel
theorem dX7_leads_168 : decode cX7_leads 168 = .ok (.iload 4, 2) := by decide +kernel
theorem dX7_leads_170 : decode cX7_leads 170 = .ok (.ifCond .eq 18, 3) := by decide +kernel
theorem dX7_leads_173 : decode cX7_leads 173 = .ok (.aload_n 0, 1) := by decide +kernel
theorem dX7_leads_174 : decode cX7_leads 174 = .ok (.iload_n 1, 1) := by decide +kernel
theorem dX7_leads_175 : decode cX7_leads 175 = .ok (.iload_n 2, 1) := by decide +kernel
theorem dX7_leads_176 : decode cX7_leads 176 = .ok (.iload 4, 2) := by decide +kernel
theorem dX7_leads_178 : decode cX7_leads 178 = .ok (.invokestatic 89, 3) := by decide +kernel
theorem dX7_leads_181 : decode cX7_leads 181 = .ok (.iadd, 1) := by decide +kernel
theorem dX7_leads_182 : decode cX7_leads 182 = .ok (.iload_n 3, 1) := by decide +kernel
theorem dX7_leads_183 : decode cX7_leads 183 = .ok (.invokevirtual 92, 3) := by decide +kernel
theorem dX7_leads_186 : decode cX7_leads 186 = .ok (.istore 7, 2) := by decide +kernel
theorem dX7_leads_188 : decode cX7_leads 188 = .ok (.aload_n 0, 1) := by decide +kernel
theorem dX7_leads_189 : decode cX7_leads 189 = .ok (.iload 7, 2) := by decide +kernel
theorem dX7_leads_191 : decode cX7_leads 191 = .ok (.invokevirtual 95, 3) := by decide +kernel
theorem dX7_leads_194 : decode cX7_leads 194 = .ok (.ireturn, 1) := by decide +kernel
theorem dX7_follows_0 : decode cX7_follows 0 = .ok (.aload_n 0, 1) := by decide +kernel
theorem dX7_follows_1 : decode cX7_follows 1 = .ok (.getfield 9, 3) := by decide +kernel
theorem dX7_follows_4 : decode cX7_follows 4 = .ok (.iconst 2, 1) := by decide +kernel
theorem dX7_follows_5 : decode cX7_follows 5 = .ok (.iaload, 1) := by decide +kernel
theorem dX7_follows_6 : decode cX7_follows 6 = .ok (.istore_n 2, 1) := by decide +kernel
theorem dX7_follows_7 : decode cX7_follows 7 = .ok (.aload_n 0, 1) := by decide +kernel
theorem dX7_follows_8 : decode cX7_follows 8 = .ok (.iload_n 1, 1) := by decide +kernel
theorem dX7_follows_9 : decode cX7_follows 9 = .ok (.iload_n 2, 1) := by decide +kernel
theorem dX7_follows_10 : decode cX7_follows 10 = .ok (.invokevirtual 99, 3) := by decide +kernel
theorem dX7_follows_13 : decode cX7_follows 13 = .ok (.istore_n 3, 1) := by decide +kernel
theorem dX7_follows_14 : decode cX7_follows 14 = .ok (.aload_n 0, 1) := by decide +kernel
theorem dX7_follows_15 : decode cX7_follows 15 = .ok (.iload_n 1, 1) := by decide +kernel
theorem dX7_follows_16 : decode cX7_follows 16 = .ok (.iconst 0, 1) := by decide +kernel
theorem dX7_follows_17 : decode cX7_follows 17 = .ok (.invokevirtual 50, 3) := by decide +kernel
theorem dX7_follows_20 : decode cX7_follows 20 = .ok (.istore 4, 2) := by decide +kernel
theorem dX7_follows_22 : decode cX7_follows 22 = .ok (.aload_n 0, 1) := by decide +kernel
theorem dX7_follows_23 : decode cX7_follows 23 = .ok (.iload_n 1, 1) := by decide +kernel
theorem dX7_follows_24 : decode cX7_follows 24 = .ok (.iconst 1, 1) := by decide +kernel
theorem dX7_follows_25 : decode cX7_follows 25 = .ok (.invokevirtual 50, 3) := by decide +kernel
theorem dX7_follows_28 : decode cX7_follows 28 = .ok (.istore 5, 2) := by decide +kernel
theorem dX7_follows_30 : decode cX7_follows 30 = .ok (.iload_n 1, 1) := by decide +kernel
theorem dX7_follows_31 : decode cX7_follows 31 = .ok (.iload_n 2, 1) := by decide +kernel
theorem dX7_follows_32 : decode cX7_follows 32 = .ok (.if_icmp .eq 14, 3) := by decide +kernel
theorem dX7_follows_35 : decode cX7_follows 35 = .ok (.iload_n 3, 1) := by decide +kernel
theorem dX7_follows_36 : decode cX7_follows 36 = .ok (.aload_n 0, 1) := by decide +kernel
theorem dX7_follows_37 : decode cX7_follows 37 = .ok (.getfield 9, 3) := by decide +kernel
theorem dX7_follows_40 : decode cX7_follows 40 = .ok (.bipush 6, 2) := by decide +kernel
theorem dX7_follows_42 : decode cX7_follows 42 = .ok (.iaload, 1) := by decide +kernel
theorem dX7_follows_43 : decode cX7_follows 43 = .ok (.if_icmp .gt 5, 3) := by decide +kernel
theorem dX7_follows_46 : decode cX7_follows 46 = .ok (.iconst 0, 1) := by decide +kernel
theorem dX7_follows_47 : decode cX7_follows 47 = .ok (.ireturn, 1) := by decide +kernel
theorem dX7_follows_48 : decode cX7_follows 48 = .ok (.iconst 0, 1) := by decide +kernel
theorem dX7_follows_49 : decode cX7_follows 49 = .ok (.istore 6, 2) := by decide +kernel
theorem dX7_follows_51 : decode cX7_follows 51 = .ok (.iconst 0, 1) := by decide +kernel
theorem dX7_follows_52 : decode cX7_follows 52 = .ok (.istore 7, 2) := by decide +kernel
theorem dX7_follows_54 : decode cX7_follows 54 = .ok (.iload 7, 2) := by decide +kernel
theorem dX7_follows_56 : decode cX7_follows 56 = .ok (.iconst 4, 1) := by decide +kernel
theorem dX7_follows_57 : decode cX7_follows 57 = .ok (.if_icmp .ge 105, 3) := by decide +kernel
theorem dX7_follows_60 : decode cX7_follows 60 = .ok (.iload 6, 2) := by decide +kernel
theorem dX7_follows_62 : decode cX7_follows 62 = .ok (.ifCond .ne 100, 3) := by decide +kernel
theorem dX7_follows_65 : decode cX7_follows 65 = .ok (.iload 7, 2) := by decide +kernel
theorem dX7_follows_67 : decode cX7_follows 67 = .ok (.iconst 1, 1) := by decide +kernel
theorem dX7_follows_68 : decode cX7_follows 68 = .ok (.if_icmp .ne 10, 3) := by decide +kernel
theorem dX7_follows_71 : decode cX7_follows 71 = .ok (.iload 4, 2) := by decide +kernel
theorem dX7_follows_73 : decode cX7_follows 73 = .ok (.iconst 1, 1) := by decide +kernel
theorem dX7_follows_74 : decode cX7_follows 74 = .ok (.iadd, 1) := by decide +kernel
theorem dX7_follows_75 : decode cX7_follows 75 = .ok (.goto 18, 3) := by decide +kernel
theorem dX7_follows_78 : decode cX7_follows 78 = .ok (.iload 7, 2) := by decide +kernel
theorem dX7_follows_80 : decode cX7_follows 80 = .ok (.iconst 3, 1) := by decide +kernel
theorem dX7_follows_81 : decode cX7_follows 81 = .ok (.if_icmp .ne 10, 3) := by decide +kernel
theorem dX7_follows_84 : decode cX7_follows 84 = .ok (.iload 4, 2) := by decide +kernel
theorem dX7_follows_86 : decode cX7_follows 86 = .ok (.iconst 1, 1) := by decide +kernel
theorem dX7_follows_87 : decode cX7_follows 87 = .ok (.isub, 1) := by decide +kernel
theorem dX7_follows_88 : decode cX7_follows 88 = .ok (.goto 5, 3) := by decide +kernel
theorem dX7_follows_91 : decode cX7_follows 91 = .ok (.iload 4, 2) := by decide +kernel
theorem dX7_follows_93 : decode cX7_follows 93 = .ok (.istore 8, 2) := by decide +kernel
theorem dX7_follows_95 : decode cX7_follows 95 = .ok (.iload 7, 2) := by decide +kernel
theorem dX7_follows_97 : decode cX7_follows 97 = .ok (.ifCond .ne 10, 3) := by decide +kernel
theorem dX7_follows_100 : decode cX7_follows 100 = .ok (.iload 5, 2) := by decide +kernel
theorem dX7_follows_102 : decode cX7_follows 102 = .ok (.iconst 1, 1) := by decide +kernel
theorem dX7_follows_103 : decode cX7_follows 103 = .ok (.iadd, 1) := by decide +kernel
theorem dX7_follows_104 : decode cX7_follows 104 = .ok (.goto 18, 3) := by decide +kernel
theorem dX7_follows_107 : decode cX7_follows 107 = .ok (.iload 7, 2) := by decide +kernel
theorem dX7_follows_109 : decode cX7_follows 109 = .ok (.iconst 2, 1) := by decide +kernel
theorem dX7_follows_110 : decode cX7_follows 110 = .ok (.if_icmp .ne 10, 3) := by decide +kernel
theorem dX7_follows_113 : decode cX7_follows 113 = .ok (.iload 5, 2) := by decide +kernel
theorem dX7_follows_115 : decode cX7_follows 115 = .ok (.iconst 1, 1) := by decide +kernel
theorem dX7_follows_116 : decode cX7_follows 116 = .ok (.isub, 1) := by decide +kernel
theorem dX7_follows_117 : decode cX7_follows 117 = .ok (.goto 5, 3) := by decide +kernel
theorem dX7_follows_120 : decode cX7_follows 120 = .ok (.iload 5, 2) := by decide +kernel
theorem dX7_follows_122 : decode cX7_follows 122 = .ok (.istore 9, 2) := by decide +kernel
theorem dX7_follows_124 : decode cX7_follows 124 = .ok (.aload_n 0, 1) := by decide +kernel
theorem dX7_follows_125 : decode cX7_follows 125 = .ok (.iload_n 2, 1) := by decide +kernel
theorem dX7_follows_126 : decode cX7_follows 126 = .ok (.iload 8, 2) := by decide +kernel
theorem dX7_follows_128 : decode cX7_follows 128 = .ok (.iload 9, 2) := by decide +kernel
theorem dX7_follows_130 : decode cX7_follows 130 = .ok (.invokevirtual 58, 3) := by decide +kernel
theorem dX7_follows_133 : decode cX7_follows 133 = .ok (.iload_n 3, 1) := by decide +kernel
theorem dX7_follows_134 : decode cX7_follows 134 = .ok (.if_icmp .ge 19, 3) := by decide +kernel
theorem dX7_follows_137 : decode cX7_follows 137 = .ok (.aload_n 0, 1) := by decide +kernel
theorem dX7_follows_138 : decode cX7_follows 138 = .ok (.iload_n 1, 1) := by decide +kernel
theorem dX7_follows_139 : decode cX7_follows 139 = .ok (.iload 8, 2) := by decide +kernel
theorem dX7_follows_141 : decode cX7_follows 141 = .ok (.iload 9, 2) := by decide +kernel
theorem dX7_follows_143 : decode cX7_follows 143 = .ok (.invokevirtual 92, 3) := by decide +kernel
theorem dX7_follows_146 : decode cX7_follows 146 = .ok (.ifCond .eq 7, 3) := by decide +kernel
theorem dX7_follows_149 : decode cX7_follows 149 = .ok (.iconst 1, 1) := by decide +kernel
theorem dX7_follows_150 : decode cX7_follows 150 = .ok (.goto 4, 3) := by decide +kernel
theorem dX7_follows_153 : decode cX7_follows 153 = .ok (.iconst 0, 1) := by decide +kernel
theorem dX7_follows_154 : decode cX7_follows 154 = .ok (.istore 6, 2) := by decide +kernel
theorem dX7_follows_156 : decode cX7_follows 156 = .ok (.iinc 7 1, 3) := by decide +kernel
theorem dX7_follows_159 : decode cX7_follows 159 = .ok (.goto (-105), 3) := by decide +kernel
theorem dX7_follows_162 : decode cX7_follows 162 = .ok (.aload_n 0, 1) := by decide +kernel
theorem dX7_follows_163 : decode cX7_follows 163 = .ok (.iload 6, 2) := by decide +kernel
theorem dX7_follows_165 : decode cX7_follows 165 = .ok (.invokevirtual 95, 3) := by decide +kernel
theorem dX7_follows_168 : decode cX7_follows 168 = .ok (.ireturn, 1) := by decide +kernel
theorem dX7_shapes_0 : decode cX7_shapes 0 = .ok (.bipush 12, 2) := by decide +kernel
theorem dX7_shapes_2 : decode cX7_shapes 2 = .ok (.istore_n 1, 1) := by decide +kernel
theorem dX7_shapes_3 : decode cX7_shapes 3 = .ok (.bipush 12, 2) := by decide +kernel
theorem dX7_shapes_5 : decode cX7_shapes 5 = .ok (.istore_n 2, 1) := by decide +kernel
theorem dX7_shapes_6 : decode cX7_shapes 6 = .ok (.iconst 0, 1) := by decide +kernel
theorem dX7_shapes_7 : decode cX7_shapes 7 = .ok (.istore_n 3, 1) := by decide +kernel
theorem dX7_shapes_8 : decode cX7_shapes 8 = .ok (.iload_n 3, 1) := by decide +kernel
theorem dX7_shapes_9 : decode cX7_shapes 9 = .ok (.bipush 12, 2) := by decide +kernel
theorem dX7_shapes_11 : decode cX7_shapes 11 = .ok (.if_icmp .ge 16, 3) := by decide +kernel
theorem dX7_shapes_14 : decode cX7_shapes 14 = .ok (.aload_n 0, 1) := by decide +kernel
theorem dX7_shapes_15 : decode cX7_shapes 15 = .ok (.getfield 13, 3) := by decide +kernel
theorem dX7_shapes_18 : decode cX7_shapes 18 = .ok (.iload_n 3, 1) := by decide +kernel
theorem dX7_shapes_19 : decode cX7_shapes 19 = .ok (.iconst 0, 1) := by decide +kernel
theorem dX7_shapes_20 : decode cX7_shapes 20 = .ok (.iastore, 1) := by decide +kernel
theorem dX7_shapes_21 : decode cX7_shapes 21 = .ok (.iinc 3 1, 3) := by decide +kernel
theorem dX7_shapes_24 : decode cX7_shapes 24 = .ok (.goto (-16), 3) := by decide +kernel
theorem dX7_shapes_27 : decode cX7_shapes 27 = .ok (.iconst 0, 1) := by decide +kernel
theorem dX7_shapes_28 : decode cX7_shapes 28 = .ok (.istore_n 3, 1) := by decide +kernel
theorem dX7_shapes_29 : decode cX7_shapes 29 = .ok (.iload_n 3, 1) := by decide +kernel
theorem dX7_shapes_30 : decode cX7_shapes 30 = .ok (.aload_n 0, 1) := by decide +kernel
theorem dX7_shapes_31 : decode cX7_shapes 31 = .ok (.getfield 9, 3) := by decide +kernel
theorem dX7_shapes_34 : decode cX7_shapes 34 = .ok (.iconst 0, 1) := by decide +kernel
theorem dX7_shapes_35 : decode cX7_shapes 35 = .ok (.iaload, 1) := by decide +kernel
theorem dX7_shapes_36 : decode cX7_shapes 36 = .ok (.if_icmp .ge 51, 3) := by decide +kernel
theorem dX7_shapes_39 : decode cX7_shapes 39 = .ok (.aload_n 0, 1) := by decide +kernel
theorem dX7_shapes_40 : decode cX7_shapes 40 = .ok (.iload_n 3, 1) := by decide +kernel
theorem dX7_shapes_41 : decode cX7_shapes 41 = .ok (.iconst 0, 1) := by decide +kernel
theorem dX7_shapes_42 : decode cX7_shapes 42 = .ok (.invokevirtual 50, 3) := by decide +kernel
theorem dX7_shapes_45 : decode cX7_shapes 45 = .ok (.iload_n 1, 1) := by decide +kernel
theorem dX7_shapes_46 : decode cX7_shapes 46 = .ok (.if_icmp .ge 12, 3) := by decide +kernel
theorem dX7_shapes_49 : decode cX7_shapes 49 = .ok (.aload_n 0, 1) := by decide +kernel
theorem dX7_shapes_50 : decode cX7_shapes 50 = .ok (.iload_n 3, 1) := by decide +kernel
theorem dX7_shapes_51 : decode cX7_shapes 51 = .ok (.iconst 0, 1) := by decide +kernel
theorem dX7_shapes_52 : decode cX7_shapes 52 = .ok (.invokevirtual 50, 3) := by decide +kernel
theorem dX7_shapes_55 : decode cX7_shapes 55 = .ok (.goto 4, 3) := by decide +kernel
theorem dX7_shapes_58 : decode cX7_shapes 58 = .ok (.iload_n 1, 1) := by decide +kernel
theorem dX7_shapes_59 : decode cX7_shapes 59 = .ok (.istore_n 1, 1) := by decide +kernel
theorem dX7_shapes_60 : decode cX7_shapes 60 = .ok (.aload_n 0, 1) := by decide +kernel
theorem dX7_shapes_61 : decode cX7_shapes 61 = .ok (.iload_n 3, 1) := by decide +kernel
theorem dX7_shapes_62 : decode cX7_shapes 62 = .ok (.iconst 1, 1) := by decide +kernel
theorem dX7_shapes_63 : decode cX7_shapes 63 = .ok (.invokevirtual 50, 3) := by decide +kernel
theorem dX7_shapes_66 : decode cX7_shapes 66 = .ok (.iload_n 2, 1) := by decide +kernel
theorem dX7_shapes_67 : decode cX7_shapes 67 = .ok (.if_icmp .ge 12, 3) := by decide +kernel
theorem dX7_shapes_70 : decode cX7_shapes 70 = .ok (.aload_n 0, 1) := by decide +kernel
theorem dX7_shapes_71 : decode cX7_shapes 71 = .ok (.iload_n 3, 1) := by decide +kernel
theorem dX7_shapes_72 : decode cX7_shapes 72 = .ok (.iconst 1, 1) := by decide +kernel
theorem dX7_shapes_73 : decode cX7_shapes 73 = .ok (.invokevirtual 50, 3) := by decide +kernel
theorem dX7_shapes_76 : decode cX7_shapes 76 = .ok (.goto 4, 3) := by decide +kernel
theorem dX7_shapes_79 : decode cX7_shapes 79 = .ok (.iload_n 2, 1) := by decide +kernel
theorem dX7_shapes_80 : decode cX7_shapes 80 = .ok (.istore_n 2, 1) := by decide +kernel
theorem dX7_shapes_81 : decode cX7_shapes 81 = .ok (.iinc 3 1, 3) := by decide +kernel
theorem dX7_shapes_84 : decode cX7_shapes 84 = .ok (.goto (-55), 3) := by decide +kernel
theorem dX7_shapes_87 : decode cX7_shapes 87 = .ok (.iconst 0, 1) := by decide +kernel
theorem dX7_shapes_88 : decode cX7_shapes 88 = .ok (.istore_n 3, 1) := by decide +kernel
theorem dX7_shapes_89 : decode cX7_shapes 89 = .ok (.iload_n 3, 1) := by decide +kernel
theorem dX7_shapes_90 : decode cX7_shapes 90 = .ok (.aload_n 0, 1) := by decide +kernel
theorem dX7_shapes_91 : decode cX7_shapes 91 = .ok (.getfield 9, 3) := by decide +kernel
theorem dX7_shapes_94 : decode cX7_shapes 94 = .ok (.iconst 0, 1) := by decide +kernel
theorem dX7_shapes_95 : decode cX7_shapes 95 = .ok (.iaload, 1) := by decide +kernel
theorem dX7_shapes_96 : decode cX7_shapes 96 = .ok (.if_icmp .ge 35, 3) := by decide +kernel
theorem dX7_shapes_99 : decode cX7_shapes 99 = .ok (.aload_n 0, 1) := by decide +kernel
theorem dX7_shapes_100 : decode cX7_shapes 100 = .ok (.getfield 13, 3) := by decide +kernel
theorem dX7_shapes_103 : decode cX7_shapes 103 = .ok (.aload_n 0, 1) := by decide +kernel
theorem dX7_shapes_104 : decode cX7_shapes 104 = .ok (.iload_n 3, 1) := by decide +kernel
theorem dX7_shapes_105 : decode cX7_shapes 105 = .ok (.iconst 1, 1) := by decide +kernel
theorem dX7_shapes_106 : decode cX7_shapes 106 = .ok (.invokevirtual 50, 3) := by decide +kernel
theorem dX7_shapes_109 : decode cX7_shapes 109 = .ok (.iload_n 2, 1) := by decide +kernel
theorem dX7_shapes_110 : decode cX7_shapes 110 = .ok (.isub, 1) := by decide +kernel
theorem dX7_shapes_111 : decode cX7_shapes 111 = .ok (.dup2, 1) := by decide +kernel
theorem dX7_shapes_112 : decode cX7_shapes 112 = .ok (.iaload, 1) := by decide +kernel
theorem dX7_shapes_113 : decode cX7_shapes 113 = .ok (.iconst 1, 1) := by decide +kernel
theorem dX7_shapes_114 : decode cX7_shapes 114 = .ok (.aload_n 0, 1) := by decide +kernel
theorem dX7_shapes_115 : decode cX7_shapes 115 = .ok (.iload_n 3, 1) := by decide +kernel
theorem dX7_shapes_116 : decode cX7_shapes 116 = .ok (.iconst 0, 1) := by decide +kernel
theorem dX7_shapes_117 : decode cX7_shapes 117 = .ok (.invokevirtual 50, 3) := by decide +kernel
theorem dX7_shapes_120 : decode cX7_shapes 120 = .ok (.iload_n 1, 1) := by decide +kernel
theorem dX7_shapes_121 : decode cX7_shapes 121 = .ok (.isub, 1) := by decide +kernel
theorem dX7_shapes_122 : decode cX7_shapes 122 = .ok (.ishl, 1) := by decide +kernel
theorem dX7_shapes_123 : decode cX7_shapes 123 = .ok (.ior, 1) := by decide +kernel
theorem dX7_shapes_124 : decode cX7_shapes 124 = .ok (.iastore, 1) := by decide +kernel
theorem dX7_shapes_125 : decode cX7_shapes 125 = .ok (.iinc 3 1, 3) := by decide +kernel
theorem dX7_shapes_128 : decode cX7_shapes 128 = .ok (.goto (-39), 3) := by decide +kernel
theorem dX7_shapes_131 : decode cX7_shapes 131 = .ok (.return_, 1) := by decide +kernel
theorem dX7_isShape_0 : decode cX7_isShape 0 = .ok (.iconst 1, 1) := by decide +kernel
theorem dX7_isShape_1 : decode cX7_isShape 1 = .ok (.istore_n 2, 1) := by decide +kernel
theorem dX7_isShape_2 : decode cX7_isShape 2 = .ok (.iconst 0, 1) := by decide +kernel
theorem dX7_isShape_3 : decode cX7_isShape 3 = .ok (.istore_n 3, 1) := by decide +kernel
theorem dX7_isShape_4 : decode cX7_isShape 4 = .ok (.iload_n 3, 1) := by decide +kernel
theorem dX7_isShape_5 : decode cX7_isShape 5 = .ok (.bipush 12, 2) := by decide +kernel
theorem dX7_isShape_7 : decode cX7_isShape 7 = .ok (.if_icmp .ge 40, 3) := by decide +kernel
theorem dX7_isShape_10 : decode cX7_isShape 10 = .ok (.iload_n 2, 1) := by decide +kernel
theorem dX7_isShape_11 : decode cX7_isShape 11 = .ok (.aload_n 0, 1) := by decide +kernel
theorem dX7_isShape_12 : decode cX7_isShape 12 = .ok (.getfield 13, 3) := by decide +kernel
theorem dX7_isShape_15 : decode cX7_isShape 15 = .ok (.iload_n 3, 1) := by decide +kernel
theorem dX7_isShape_16 : decode cX7_isShape 16 = .ok (.iaload, 1) := by decide +kernel
theorem dX7_isShape_17 : decode cX7_isShape 17 = .ok (.aload_n 0, 1) := by decide +kernel
theorem dX7_isShape_18 : decode cX7_isShape 18 = .ok (.getfield 9, 3) := by decide +kernel
theorem dX7_isShape_21 : decode cX7_isShape 21 = .ok (.bipush 58, 2) := by decide +kernel
theorem dX7_isShape_23 : decode cX7_isShape 23 = .ok (.bipush 12, 2) := by decide +kernel
theorem dX7_isShape_25 : decode cX7_isShape 25 = .ok (.iload_n 1, 1) := by decide +kernel
theorem dX7_isShape_26 : decode cX7_isShape 26 = .ok (.imul, 1) := by decide +kernel
theorem dX7_isShape_27 : decode cX7_isShape 27 = .ok (.iadd, 1) := by decide +kernel
theorem dX7_isShape_28 : decode cX7_isShape 28 = .ok (.iload_n 3, 1) := by decide +kernel
theorem dX7_isShape_29 : decode cX7_isShape 29 = .ok (.iadd, 1) := by decide +kernel
theorem dX7_isShape_30 : decode cX7_isShape 30 = .ok (.iaload, 1) := by decide +kernel
theorem dX7_isShape_31 : decode cX7_isShape 31 = .ok (.if_icmp .ne 7, 3) := by decide +kernel
theorem dX7_isShape_34 : decode cX7_isShape 34 = .ok (.iconst 1, 1) := by decide +kernel
theorem dX7_isShape_35 : decode cX7_isShape 35 = .ok (.goto 4, 3) := by decide +kernel
theorem dX7_isShape_38 : decode cX7_isShape 38 = .ok (.iconst 0, 1) := by decide +kernel
theorem dX7_isShape_39 : decode cX7_isShape 39 = .ok (.iand, 1) := by decide +kernel
theorem dX7_isShape_40 : decode cX7_isShape 40 = .ok (.istore_n 2, 1) := by decide +kernel
theorem dX7_isShape_41 : decode cX7_isShape 41 = .ok (.iinc 3 1, 3) := by decide +kernel
theorem dX7_isShape_44 : decode cX7_isShape 44 = .ok (.goto (-40), 3) := by decide +kernel
theorem dX7_isShape_47 : decode cX7_isShape 47 = .ok (.iload_n 2, 1) := by decide +kernel
theorem dX7_isShape_48 : decode cX7_isShape 48 = .ok (.ireturn, 1) := by decide +kernel
theorem dX7_remembers_0 : decode cX7_remembers 0 = .ok (.aload_n 0, 1) := by decide +kernel
theorem dX7_remembers_1 : decode cX7_remembers 1 = .ok (.invokevirtual 102, 3) := by decide +kernel
theorem dX7_remembers_4 : decode cX7_remembers 4 = .ok (.sipush 191, 3) := by decide +kernel
theorem dX7_remembers_7 : decode cX7_remembers 7 = .ok (.istore_n 1, 1) := by decide +kernel
theorem dX7_remembers_8 : decode cX7_remembers 8 = .ok (.iload_n 1, 1) := by decide +kernel
theorem dX7_remembers_9 : decode cX7_remembers 9 = .ok (.bipush 12, 2) := by decide +kernel
theorem dX7_remembers_11 : decode cX7_remembers 11 = .ok (.if_icmp .lt 30, 3) := by decide +kernel
theorem dX7_remembers_14 : decode cX7_remembers 14 = .ok (.aload_n 0, 1) := by decide +kernel
theorem dX7_remembers_15 : decode cX7_remembers 15 = .ok (.getfield 9, 3) := by decide +kernel
theorem dX7_remembers_18 : decode cX7_remembers 18 = .ok (.bipush 58, 2) := by decide +kernel
theorem dX7_remembers_20 : decode cX7_remembers 20 = .ok (.iload_n 1, 1) := by decide +kernel
theorem dX7_remembers_21 : decode cX7_remembers 21 = .ok (.iadd, 1) := by decide +kernel
theorem dX7_remembers_22 : decode cX7_remembers 22 = .ok (.aload_n 0, 1) := by decide +kernel
theorem dX7_remembers_23 : decode cX7_remembers 23 = .ok (.getfield 9, 3) := by decide +kernel
theorem dX7_remembers_26 : decode cX7_remembers 26 = .ok (.bipush 58, 2) := by decide +kernel
theorem dX7_remembers_28 : decode cX7_remembers 28 = .ok (.iload_n 1, 1) := by decide +kernel
theorem dX7_remembers_29 : decode cX7_remembers 29 = .ok (.iadd, 1) := by decide +kernel
theorem dX7_remembers_30 : decode cX7_remembers 30 = .ok (.bipush 12, 2) := by decide +kernel
theorem dX7_remembers_32 : decode cX7_remembers 32 = .ok (.isub, 1) := by decide +kernel
theorem dX7_remembers_33 : decode cX7_remembers 33 = .ok (.iaload, 1) := by decide +kernel
theorem dX7_remembers_34 : decode cX7_remembers 34 = .ok (.iastore, 1) := by decide +kernel
theorem dX7_remembers_35 : decode cX7_remembers 35 = .ok (.iinc 1 (-1), 3) := by decide +kernel
theorem dX7_remembers_38 : decode cX7_remembers 38 = .ok (.goto (-30), 3) := by decide +kernel
theorem dX7_remembers_41 : decode cX7_remembers 41 = .ok (.iconst 0, 1) := by decide +kernel
theorem dX7_remembers_42 : decode cX7_remembers 42 = .ok (.istore_n 1, 1) := by decide +kernel
theorem dX7_remembers_43 : decode cX7_remembers 43 = .ok (.iload_n 1, 1) := by decide +kernel
theorem dX7_remembers_44 : decode cX7_remembers 44 = .ok (.bipush 12, 2) := by decide +kernel
theorem dX7_remembers_46 : decode cX7_remembers 46 = .ok (.if_icmp .ge 24, 3) := by decide +kernel
theorem dX7_remembers_49 : decode cX7_remembers 49 = .ok (.aload_n 0, 1) := by decide +kernel
theorem dX7_remembers_50 : decode cX7_remembers 50 = .ok (.getfield 9, 3) := by decide +kernel
theorem dX7_remembers_53 : decode cX7_remembers 53 = .ok (.bipush 58, 2) := by decide +kernel
theorem dX7_remembers_55 : decode cX7_remembers 55 = .ok (.iload_n 1, 1) := by decide +kernel
theorem dX7_remembers_56 : decode cX7_remembers 56 = .ok (.iadd, 1) := by decide +kernel
theorem dX7_remembers_57 : decode cX7_remembers 57 = .ok (.aload_n 0, 1) := by decide +kernel
theorem dX7_remembers_58 : decode cX7_remembers 58 = .ok (.getfield 13, 3) := by decide +kernel
theorem dX7_remembers_61 : decode cX7_remembers 61 = .ok (.iload_n 1, 1) := by decide +kernel
theorem dX7_remembers_62 : decode cX7_remembers 62 = .ok (.iaload, 1) := by decide +kernel
theorem dX7_remembers_63 : decode cX7_remembers 63 = .ok (.iastore, 1) := by decide +kernel
theorem dX7_remembers_64 : decode cX7_remembers 64 = .ok (.iinc 1 1, 3) := by decide +kernel
theorem dX7_remembers_67 : decode cX7_remembers 67 = .ok (.goto (-24), 3) := by decide +kernel
theorem dX7_remembers_70 : decode cX7_remembers 70 = .ok (.aload_n 0, 1) := by decide +kernel
theorem dX7_remembers_71 : decode cX7_remembers 71 = .ok (.getfield 9, 3) := by decide +kernel
theorem dX7_remembers_74 : decode cX7_remembers 74 = .ok (.bipush 9, 2) := by decide +kernel
theorem dX7_remembers_76 : decode cX7_remembers 76 = .ok (.aload_n 0, 1) := by decide +kernel
theorem dX7_remembers_77 : decode cX7_remembers 77 = .ok (.getfield 9, 3) := by decide +kernel
theorem dX7_remembers_80 : decode cX7_remembers 80 = .ok (.bipush 9, 2) := by decide +kernel
theorem dX7_remembers_82 : decode cX7_remembers 82 = .ok (.iaload, 1) := by decide +kernel
theorem dX7_remembers_83 : decode cX7_remembers 83 = .ok (.bipush 16, 2) := by decide +kernel
theorem dX7_remembers_85 : decode cX7_remembers 85 = .ok (.if_icmp .ge 15, 3) := by decide +kernel
theorem dX7_remembers_88 : decode cX7_remembers 88 = .ok (.aload_n 0, 1) := by decide +kernel
theorem dX7_remembers_89 : decode cX7_remembers 89 = .ok (.getfield 9, 3) := by decide +kernel
theorem dX7_remembers_92 : decode cX7_remembers 92 = .ok (.bipush 9, 2) := by decide +kernel
theorem dX7_remembers_94 : decode cX7_remembers 94 = .ok (.iaload, 1) := by decide +kernel
theorem dX7_remembers_95 : decode cX7_remembers 95 = .ok (.iconst 1, 1) := by decide +kernel
theorem dX7_remembers_96 : decode cX7_remembers 96 = .ok (.iadd, 1) := by decide +kernel
theorem dX7_remembers_97 : decode cX7_remembers 97 = .ok (.goto 5, 3) := by decide +kernel
theorem dX7_remembers_100 : decode cX7_remembers 100 = .ok (.bipush 16, 2) := by decide +kernel
theorem dX7_remembers_102 : decode cX7_remembers 102 = .ok (.iastore, 1) := by decide +kernel
theorem dX7_remembers_103 : decode cX7_remembers 103 = .ok (.return_, 1) := by decide +kernel
theorem dX7_steps_0 : decode cX7_steps 0 = .ok (.iconst 0, 1) := by decide +kernel
theorem dX7_steps_1 : decode cX7_steps 1 = .ok (.istore_n 1, 1) := by decide +kernel
theorem dX7_steps_2 : decode cX7_steps 2 = .ok (.aload_n 0, 1) := by decide +kernel
theorem dX7_steps_3 : decode cX7_steps 3 = .ok (.getfield 9, 3) := by decide +kernel
theorem dX7_steps_6 : decode cX7_steps 6 = .ok (.bipush 7, 2) := by decide +kernel
theorem dX7_steps_8 : decode cX7_steps 8 = .ok (.dup2, 1) := by decide +kernel
theorem dX7_steps_9 : decode cX7_steps 9 = .ok (.iaload, 1) := by decide +kernel
theorem dX7_steps_10 : decode cX7_steps 10 = .ok (.iconst 1, 1) := by decide +kernel
theorem dX7_steps_11 : decode cX7_steps 11 = .ok (.iadd, 1) := by decide +kernel
theorem dX7_steps_12 : decode cX7_steps 12 = .ok (.iastore, 1) := by decide +kernel
theorem dX7_steps_13 : decode cX7_steps 13 = .ok (.aload_n 0, 1) := by decide +kernel
theorem dX7_steps_14 : decode cX7_steps 14 = .ok (.getfield 9, 3) := by decide +kernel
theorem dX7_steps_17 : decode cX7_steps 17 = .ok (.iconst 0, 1) := by decide +kernel
theorem dX7_steps_18 : decode cX7_steps 18 = .ok (.iaload, 1) := by decide +kernel
theorem dX7_steps_19 : decode cX7_steps 19 = .ok (.ifCond .ne 5, 3) := by decide +kernel
theorem dX7_steps_22 : decode cX7_steps 22 = .ok (.iconst 0, 1) := by decide +kernel
theorem dX7_steps_23 : decode cX7_steps 23 = .ok (.ireturn, 1) := by decide +kernel
theorem dX7_steps_24 : decode cX7_steps 24 = .ok (.iload_n 1, 1) := by decide +kernel
theorem dX7_steps_25 : decode cX7_steps 25 = .ok (.aload_n 0, 1) := by decide +kernel
theorem dX7_steps_26 : decode cX7_steps 26 = .ok (.invokevirtual 105, 3) := by decide +kernel
theorem dX7_steps_29 : decode cX7_steps 29 = .ok (.iadd, 1) := by decide +kernel
theorem dX7_steps_30 : decode cX7_steps 30 = .ok (.istore_n 1, 1) := by decide +kernel
theorem dX7_steps_31 : decode cX7_steps 31 = .ok (.iconst 0, 1) := by decide +kernel
theorem dX7_steps_32 : decode cX7_steps 32 = .ok (.istore_n 2, 1) := by decide +kernel
theorem dX7_steps_33 : decode cX7_steps 33 = .ok (.iload_n 2, 1) := by decide +kernel
theorem dX7_steps_34 : decode cX7_steps 34 = .ok (.aload_n 0, 1) := by decide +kernel
theorem dX7_steps_35 : decode cX7_steps 35 = .ok (.getfield 9, 3) := by decide +kernel
theorem dX7_steps_38 : decode cX7_steps 38 = .ok (.iconst 0, 1) := by decide +kernel
theorem dX7_steps_39 : decode cX7_steps 39 = .ok (.iaload, 1) := by decide +kernel
theorem dX7_steps_40 : decode cX7_steps 40 = .ok (.if_icmp .ge 17, 3) := by decide +kernel
theorem dX7_steps_43 : decode cX7_steps 43 = .ok (.iload_n 1, 1) := by decide +kernel
theorem dX7_steps_44 : decode cX7_steps 44 = .ok (.aload_n 0, 1) := by decide +kernel
theorem dX7_steps_45 : decode cX7_steps 45 = .ok (.iload_n 2, 1) := by decide +kernel
theorem dX7_steps_46 : decode cX7_steps 46 = .ok (.invokevirtual 109, 3) := by decide +kernel
theorem dX7_steps_49 : decode cX7_steps 49 = .ok (.iadd, 1) := by decide +kernel
theorem dX7_steps_50 : decode cX7_steps 50 = .ok (.istore_n 1, 1) := by decide +kernel
theorem dX7_steps_51 : decode cX7_steps 51 = .ok (.iinc 2 1, 3) := by decide +kernel
theorem dX7_steps_54 : decode cX7_steps 54 = .ok (.goto (-21), 3) := by decide +kernel
theorem dX7_steps_57 : decode cX7_steps 57 = .ok (.aload_n 0, 1) := by decide +kernel
theorem dX7_steps_58 : decode cX7_steps 58 = .ok (.invokevirtual 112, 3) := by decide +kernel
theorem dX7_steps_61 : decode cX7_steps 61 = .ok (.aload_n 0, 1) := by decide +kernel
theorem dX7_steps_62 : decode cX7_steps 62 = .ok (.getfield 9, 3) := by decide +kernel
theorem dX7_steps_65 : decode cX7_steps 65 = .ok (.iconst 3, 1) := by decide +kernel
theorem dX7_steps_66 : decode cX7_steps 66 = .ok (.dup2, 1) := by decide +kernel
theorem dX7_steps_67 : decode cX7_steps 67 = .ok (.iaload, 1) := by decide +kernel
theorem dX7_steps_68 : decode cX7_steps 68 = .ok (.iconst 1, 1) := by decide +kernel
theorem dX7_steps_69 : decode cX7_steps 69 = .ok (.iadd, 1) := by decide +kernel
theorem dX7_steps_70 : decode cX7_steps 70 = .ok (.iastore, 1) := by decide +kernel
theorem dX7_steps_71 : decode cX7_steps 71 = .ok (.aload_n 0, 1) := by decide +kernel
theorem dX7_steps_72 : decode cX7_steps 72 = .ok (.getfield 9, 3) := by decide +kernel
theorem dX7_steps_75 : decode cX7_steps 75 = .ok (.iconst 3, 1) := by decide +kernel
theorem dX7_steps_76 : decode cX7_steps 76 = .ok (.iaload, 1) := by decide +kernel
theorem dX7_steps_77 : decode cX7_steps 77 = .ok (.aload_n 0, 1) := by decide +kernel
theorem dX7_steps_78 : decode cX7_steps 78 = .ok (.getfield 9, 3) := by decide +kernel
theorem dX7_steps_81 : decode cX7_steps 81 = .ok (.iconst 4, 1) := by decide +kernel
theorem dX7_steps_82 : decode cX7_steps 82 = .ok (.iaload, 1) := by decide +kernel
theorem dX7_steps_83 : decode cX7_steps 83 = .ok (.if_icmp .ne 31, 3) := by decide +kernel
theorem dX7_steps_86 : decode cX7_steps 86 = .ok (.aload_n 0, 1) := by decide +kernel
theorem dX7_steps_87 : decode cX7_steps 87 = .ok (.getfield 9, 3) := by decide +kernel
theorem dX7_steps_90 : decode cX7_steps 90 = .ok (.iconst 3, 1) := by decide +kernel
theorem dX7_steps_91 : decode cX7_steps 91 = .ok (.iconst 0, 1) := by decide +kernel
theorem dX7_steps_92 : decode cX7_steps 92 = .ok (.iastore, 1) := by decide +kernel
theorem dX7_steps_93 : decode cX7_steps 93 = .ok (.aload_n 0, 1) := by decide +kernel
theorem dX7_steps_94 : decode cX7_steps 94 = .ok (.getfield 9, 3) := by decide +kernel
theorem dX7_steps_97 : decode cX7_steps 97 = .ok (.iconst 2, 1) := by decide +kernel
theorem dX7_steps_98 : decode cX7_steps 98 = .ok (.aload_n 0, 1) := by decide +kernel
theorem dX7_steps_99 : decode cX7_steps 99 = .ok (.getfield 9, 3) := by decide +kernel
theorem dX7_steps_102 : decode cX7_steps 102 = .ok (.iconst 2, 1) := by decide +kernel
theorem dX7_steps_103 : decode cX7_steps 103 = .ok (.iaload, 1) := by decide +kernel
theorem dX7_steps_104 : decode cX7_steps 104 = .ok (.iconst 1, 1) := by decide +kernel
theorem dX7_steps_105 : decode cX7_steps 105 = .ok (.iadd, 1) := by decide +kernel
theorem dX7_steps_106 : decode cX7_steps 106 = .ok (.aload_n 0, 1) := by decide +kernel
theorem dX7_steps_107 : decode cX7_steps 107 = .ok (.getfield 9, 3) := by decide +kernel
theorem dX7_steps_110 : decode cX7_steps 110 = .ok (.iconst 0, 1) := by decide +kernel
theorem dX7_steps_111 : decode cX7_steps 111 = .ok (.iaload, 1) := by decide +kernel
theorem dX7_steps_112 : decode cX7_steps 112 = .ok (.irem, 1) := by decide +kernel
theorem dX7_steps_113 : decode cX7_steps 113 = .ok (.iastore, 1) := by decide +kernel
theorem dX7_steps_114 : decode cX7_steps 114 = .ok (.iload_n 1, 1) := by decide +kernel
theorem dX7_steps_115 : decode cX7_steps 115 = .ok (.ireturn, 1) := by decide +kernel
theorem dX7_adds_0 : decode cX7_adds 0 = .ok (.iload_n 1, 1) := by decide +kernel
theorem dX7_adds_1 : decode cX7_adds 1 = .ok (.iload_n 2, 1) := by decide +kernel
theorem dX7_adds_2 : decode cX7_adds 2 = .ok (.invokestatic 62, 3) := by decide +kernel
theorem dX7_adds_5 : decode cX7_adds 5 = .ok (.ifCond .eq 12, 3) := by decide +kernel
theorem dX7_adds_8 : decode cX7_adds 8 = .ok (.iload_n 3, 1) := by decide +kernel
theorem dX7_adds_9 : decode cX7_adds 9 = .ok (.iconst 0, 1) := by decide +kernel
theorem dX7_adds_10 : decode cX7_adds 10 = .ok (.iconst 2, 1) := by decide +kernel
theorem dX7_adds_11 : decode cX7_adds 11 = .ok (.invokestatic 46, 3) := by decide +kernel
theorem dX7_adds_14 : decode cX7_adds 14 = .ok (.ifCond .ne 5, 3) := by decide +kernel
theorem dX7_adds_17 : decode cX7_adds 17 = .ok (.iconst 2, 1) := by decide +kernel
theorem dX7_adds_18 : decode cX7_adds 18 = .ok (.ireturn, 1) := by decide +kernel
theorem dX7_adds_19 : decode cX7_adds 19 = .ok (.aload_n 0, 1) := by decide +kernel
theorem dX7_adds_20 : decode cX7_adds 20 = .ok (.getfield 9, 3) := by decide +kernel
theorem dX7_adds_23 : decode cX7_adds 23 = .ok (.iconst 0, 1) := by decide +kernel
theorem dX7_adds_24 : decode cX7_adds 24 = .ok (.iaload, 1) := by decide +kernel
theorem dX7_adds_25 : decode cX7_adds 25 = .ok (.istore 4, 2) := by decide +kernel
theorem dX7_adds_27 : decode cX7_adds 27 = .ok (.iload 4, 2) := by decide +kernel
theorem dX7_adds_29 : decode cX7_adds 29 = .ok (.bipush 10, 2) := by decide +kernel
theorem dX7_adds_31 : decode cX7_adds 31 = .ok (.if_icmp .ne 5, 3) := by decide +kernel
theorem dX7_adds_34 : decode cX7_adds 34 = .ok (.iconst 3, 1) := by decide +kernel
theorem dX7_adds_35 : decode cX7_adds 35 = .ok (.ireturn, 1) := by decide +kernel
theorem dX7_adds_36 : decode cX7_adds 36 = .ok (.aload_n 0, 1) := by decide +kernel
theorem dX7_adds_37 : decode cX7_adds 37 = .ok (.iload 4, 2) := by decide +kernel
theorem dX7_adds_39 : decode cX7_adds 39 = .ok (.iload_n 1, 1) := by decide +kernel
theorem dX7_adds_40 : decode cX7_adds 40 = .ok (.iload_n 2, 1) := by decide +kernel
theorem dX7_adds_41 : decode cX7_adds 41 = .ok (.invokevirtual 115, 3) := by decide +kernel
theorem dX7_adds_44 : decode cX7_adds 44 = .ok (.ifCond .eq 5, 3) := by decide +kernel
theorem dX7_adds_47 : decode cX7_adds 47 = .ok (.iconst 4, 1) := by decide +kernel
theorem dX7_adds_48 : decode cX7_adds 48 = .ok (.ireturn, 1) := by decide +kernel
theorem dX7_adds_49 : decode cX7_adds 49 = .ok (.aload_n 0, 1) := by decide +kernel
theorem dX7_adds_50 : decode cX7_adds 50 = .ok (.getfield 9, 3) := by decide +kernel
theorem dX7_adds_53 : decode cX7_adds 53 = .ok (.iconst 0, 1) := by decide +kernel
theorem dX7_adds_54 : decode cX7_adds 54 = .ok (.dup2, 1) := by decide +kernel
theorem dX7_adds_55 : decode cX7_adds 55 = .ok (.iaload, 1) := by decide +kernel
theorem dX7_adds_56 : decode cX7_adds 56 = .ok (.iconst 1, 1) := by decide +kernel
theorem dX7_adds_57 : decode cX7_adds 57 = .ok (.iadd, 1) := by decide +kernel
theorem dX7_adds_58 : decode cX7_adds 58 = .ok (.iastore, 1) := by decide +kernel
theorem dX7_adds_59 : decode cX7_adds 59 = .ok (.aload_n 0, 1) := by decide +kernel
theorem dX7_adds_60 : decode cX7_adds 60 = .ok (.iload 4, 2) := by decide +kernel
theorem dX7_adds_62 : decode cX7_adds 62 = .ok (.iconst 0, 1) := by decide +kernel
theorem dX7_adds_63 : decode cX7_adds 63 = .ok (.iload_n 1, 1) := by decide +kernel
theorem dX7_adds_64 : decode cX7_adds 64 = .ok (.invokevirtual 85, 3) := by decide +kernel
theorem dX7_adds_67 : decode cX7_adds 67 = .ok (.aload_n 0, 1) := by decide +kernel
theorem dX7_adds_68 : decode cX7_adds 68 = .ok (.iload 4, 2) := by decide +kernel
theorem dX7_adds_70 : decode cX7_adds 70 = .ok (.iconst 1, 1) := by decide +kernel
theorem dX7_adds_71 : decode cX7_adds 71 = .ok (.iload_n 2, 1) := by decide +kernel
theorem dX7_adds_72 : decode cX7_adds 72 = .ok (.invokevirtual 85, 3) := by decide +kernel
theorem dX7_adds_75 : decode cX7_adds 75 = .ok (.aload_n 0, 1) := by decide +kernel
theorem dX7_adds_76 : decode cX7_adds 76 = .ok (.iload 4, 2) := by decide +kernel
theorem dX7_adds_78 : decode cX7_adds 78 = .ok (.iconst 2, 1) := by decide +kernel
theorem dX7_adds_79 : decode cX7_adds 79 = .ok (.iload_n 3, 1) := by decide +kernel
theorem dX7_adds_80 : decode cX7_adds 80 = .ok (.invokevirtual 85, 3) := by decide +kernel
theorem dX7_adds_83 : decode cX7_adds 83 = .ok (.aload_n 0, 1) := by decide +kernel
theorem dX7_adds_84 : decode cX7_adds 84 = .ok (.iload 4, 2) := by decide +kernel
theorem dX7_adds_86 : decode cX7_adds 86 = .ok (.iconst 3, 1) := by decide +kernel
theorem dX7_adds_87 : decode cX7_adds 87 = .ok (.iconst 0, 1) := by decide +kernel
theorem dX7_adds_88 : decode cX7_adds 88 = .ok (.invokevirtual 85, 3) := by decide +kernel
theorem dX7_adds_91 : decode cX7_adds 91 = .ok (.aload_n 0, 1) := by decide +kernel
theorem dX7_adds_92 : decode cX7_adds 92 = .ok (.iload 4, 2) := by decide +kernel
theorem dX7_adds_94 : decode cX7_adds 94 = .ok (.putfield 43, 3) := by decide +kernel
theorem dX7_adds_97 : decode cX7_adds 97 = .ok (.iconst 0, 1) := by decide +kernel
theorem dX7_adds_98 : decode cX7_adds 98 = .ok (.ireturn, 1) := by decide +kernel
theorem dX7_addBasket_0 : decode cX7_addBasket 0 = .ok (.aload_n 0, 1) := by decide +kernel
theorem dX7_addBasket_1 : decode cX7_addBasket 1 = .ok (.invokevirtual 118, 3) := by decide +kernel
theorem dX7_addBasket_4 : decode cX7_addBasket 4 = .ok (.aload_n 0, 1) := by decide +kernel
theorem dX7_addBasket_5 : decode cX7_addBasket 5 = .ok (.aload_n 0, 1) := by decide +kernel
theorem dX7_addBasket_6 : decode cX7_addBasket 6 = .ok (.iload_n 1, 1) := by decide +kernel
theorem dX7_addBasket_7 : decode cX7_addBasket 7 = .ok (.iload_n 2, 1) := by decide +kernel
theorem dX7_addBasket_8 : decode cX7_addBasket 8 = .ok (.iload_n 3, 1) := by decide +kernel
theorem dX7_addBasket_9 : decode cX7_addBasket 9 = .ok (.invokevirtual 121, 3) := by decide +kernel
theorem dX7_addBasket_12 : decode cX7_addBasket 12 = .ok (.iconst 0, 1) := by decide +kernel
theorem dX7_addBasket_13 : decode cX7_addBasket 13 = .ok (.iconst 1, 1) := by decide +kernel
theorem dX7_addBasket_14 : decode cX7_addBasket 14 = .ok (.iconst 2, 1) := by decide +kernel
theorem dX7_addBasket_15 : decode cX7_addBasket 15 = .ok (.iconst 3, 1) := by decide +kernel
theorem dX7_addBasket_16 : decode cX7_addBasket 16 = .ok (.iconst 0, 1) := by decide +kernel
theorem dX7_addBasket_17 : decode cX7_addBasket 17 = .ok (.invokevirtual 124, 3) := by decide +kernel
theorem dX7_addBasket_20 : decode cX7_addBasket 20 = .ok (.ireturn, 1) := by decide +kernel
theorem dX7_jumps_0 : decode cX7_jumps 0 = .ok (.aload_n 0, 1) := by decide +kernel
theorem dX7_jumps_1 : decode cX7_jumps 1 = .ok (.iload_n 1, 1) := by decide +kernel
theorem dX7_jumps_2 : decode cX7_jumps 2 = .ok (.invokevirtual 128, 3) := by decide +kernel
theorem dX7_jumps_5 : decode cX7_jumps 5 = .ok (.ifCond .ne 5, 3) := by decide +kernel
theorem dX7_jumps_8 : decode cX7_jumps 8 = .ok (.iconst 1, 1) := by decide +kernel
theorem dX7_jumps_9 : decode cX7_jumps 9 = .ok (.ireturn, 1) := by decide +kernel
theorem dX7_jumps_10 : decode cX7_jumps 10 = .ok (.iload_n 2, 1) := by decide +kernel
theorem dX7_jumps_11 : decode cX7_jumps 11 = .ok (.iload_n 3, 1) := by decide +kernel
theorem dX7_jumps_12 : decode cX7_jumps 12 = .ok (.invokestatic 62, 3) := by decide +kernel
theorem dX7_jumps_15 : decode cX7_jumps 15 = .ok (.ifCond .ne 5, 3) := by decide +kernel
theorem dX7_jumps_18 : decode cX7_jumps 18 = .ok (.iconst 2, 1) := by decide +kernel
theorem dX7_jumps_19 : decode cX7_jumps 19 = .ok (.ireturn, 1) := by decide +kernel
theorem dX7_jumps_20 : decode cX7_jumps 20 = .ok (.aload_n 0, 1) := by decide +kernel
theorem dX7_jumps_21 : decode cX7_jumps 21 = .ok (.iload_n 1, 1) := by decide +kernel
theorem dX7_jumps_22 : decode cX7_jumps 22 = .ok (.iload_n 2, 1) := by decide +kernel
theorem dX7_jumps_23 : decode cX7_jumps 23 = .ok (.iload_n 3, 1) := by decide +kernel
theorem dX7_jumps_24 : decode cX7_jumps 24 = .ok (.invokevirtual 115, 3) := by decide +kernel
theorem dX7_jumps_27 : decode cX7_jumps 27 = .ok (.ifCond .eq 5, 3) := by decide +kernel
theorem dX7_jumps_30 : decode cX7_jumps 30 = .ok (.iconst 4, 1) := by decide +kernel
theorem dX7_jumps_31 : decode cX7_jumps 31 = .ok (.ireturn, 1) := by decide +kernel
theorem dX7_jumps_32 : decode cX7_jumps 32 = .ok (.aload_n 0, 1) := by decide +kernel
theorem dX7_jumps_33 : decode cX7_jumps 33 = .ok (.aload_n 0, 1) := by decide +kernel
theorem dX7_jumps_34 : decode cX7_jumps 34 = .ok (.iload_n 1, 1) := by decide +kernel
theorem dX7_jumps_35 : decode cX7_jumps 35 = .ok (.iload_n 2, 1) := by decide +kernel
theorem dX7_jumps_36 : decode cX7_jumps 36 = .ok (.iload_n 3, 1) := by decide +kernel
theorem dX7_jumps_37 : decode cX7_jumps 37 = .ok (.invokevirtual 58, 3) := by decide +kernel
theorem dX7_jumps_40 : decode cX7_jumps 40 = .ok (.putfield 43, 3) := by decide +kernel
theorem dX7_jumps_43 : decode cX7_jumps 43 = .ok (.aload_n 0, 1) := by decide +kernel
theorem dX7_jumps_44 : decode cX7_jumps 44 = .ok (.iload_n 1, 1) := by decide +kernel
theorem dX7_jumps_45 : decode cX7_jumps 45 = .ok (.iconst 0, 1) := by decide +kernel
theorem dX7_jumps_46 : decode cX7_jumps 46 = .ok (.iload_n 2, 1) := by decide +kernel
theorem dX7_jumps_47 : decode cX7_jumps 47 = .ok (.invokevirtual 85, 3) := by decide +kernel
theorem dX7_jumps_50 : decode cX7_jumps 50 = .ok (.aload_n 0, 1) := by decide +kernel
theorem dX7_jumps_51 : decode cX7_jumps 51 = .ok (.iload_n 1, 1) := by decide +kernel
theorem dX7_jumps_52 : decode cX7_jumps 52 = .ok (.iconst 1, 1) := by decide +kernel
theorem dX7_jumps_53 : decode cX7_jumps 53 = .ok (.iload_n 3, 1) := by decide +kernel
theorem dX7_jumps_54 : decode cX7_jumps 54 = .ok (.invokevirtual 85, 3) := by decide +kernel
theorem dX7_jumps_57 : decode cX7_jumps 57 = .ok (.iconst 0, 1) := by decide +kernel
theorem dX7_jumps_58 : decode cX7_jumps 58 = .ok (.ireturn, 1) := by decide +kernel
theorem dX7_jump_0 : decode cX7_jump 0 = .ok (.aload_n 0, 1) := by decide +kernel
theorem dX7_jump_1 : decode cX7_jump 1 = .ok (.invokevirtual 118, 3) := by decide +kernel
theorem dX7_jump_4 : decode cX7_jump 4 = .ok (.aload_n 0, 1) := by decide +kernel
theorem dX7_jump_5 : decode cX7_jump 5 = .ok (.aload_n 0, 1) := by decide +kernel
theorem dX7_jump_6 : decode cX7_jump 6 = .ok (.iload_n 1, 1) := by decide +kernel
theorem dX7_jump_7 : decode cX7_jump 7 = .ok (.iload_n 2, 1) := by decide +kernel
theorem dX7_jump_8 : decode cX7_jump 8 = .ok (.iload_n 3, 1) := by decide +kernel
theorem dX7_jump_9 : decode cX7_jump 9 = .ok (.invokevirtual 132, 3) := by decide +kernel
theorem dX7_jump_12 : decode cX7_jump 12 = .ok (.iconst 1, 1) := by decide +kernel
theorem dX7_jump_13 : decode cX7_jump 13 = .ok (.iconst 2, 1) := by decide +kernel
theorem dX7_jump_14 : decode cX7_jump 14 = .ok (.iconst 0, 1) := by decide +kernel
theorem dX7_jump_15 : decode cX7_jump 15 = .ok (.iconst 3, 1) := by decide +kernel
theorem dX7_jump_16 : decode cX7_jump 16 = .ok (.iconst 0, 1) := by decide +kernel
theorem dX7_jump_17 : decode cX7_jump 17 = .ok (.invokevirtual 124, 3) := by decide +kernel
theorem dX7_jump_20 : decode cX7_jump 20 = .ok (.ireturn, 1) := by decide +kernel
theorem dX7_handles_0 : decode cX7_handles 0 = .ok (.aload_n 0, 1) := by decide +kernel
theorem dX7_handles_1 : decode cX7_handles 1 = .ok (.iload_n 1, 1) := by decide +kernel
theorem dX7_handles_2 : decode cX7_handles 2 = .ok (.invokevirtual 128, 3) := by decide +kernel
theorem dX7_handles_5 : decode cX7_handles 5 = .ok (.ifCond .ne 5, 3) := by decide +kernel
theorem dX7_handles_8 : decode cX7_handles 8 = .ok (.iconst 1, 1) := by decide +kernel
theorem dX7_handles_9 : decode cX7_handles 9 = .ok (.ireturn, 1) := by decide +kernel
theorem dX7_handles_10 : decode cX7_handles 10 = .ok (.iload_n 2, 1) := by decide +kernel
theorem dX7_handles_11 : decode cX7_handles 11 = .ok (.iconst 0, 1) := by decide +kernel
theorem dX7_handles_12 : decode cX7_handles 12 = .ok (.iconst 2, 1) := by decide +kernel
theorem dX7_handles_13 : decode cX7_handles 13 = .ok (.invokestatic 46, 3) := by decide +kernel
theorem dX7_handles_16 : decode cX7_handles 16 = .ok (.ifCond .ne 5, 3) := by decide +kernel
theorem dX7_handles_19 : decode cX7_handles 19 = .ok (.iconst 2, 1) := by decide +kernel
theorem dX7_handles_20 : decode cX7_handles 20 = .ok (.ireturn, 1) := by decide +kernel
theorem dX7_handles_21 : decode cX7_handles 21 = .ok (.aload_n 0, 1) := by decide +kernel
theorem dX7_handles_22 : decode cX7_handles 22 = .ok (.aload_n 0, 1) := by decide +kernel
theorem dX7_handles_23 : decode cX7_handles 23 = .ok (.iload_n 1, 1) := by decide +kernel
theorem dX7_handles_24 : decode cX7_handles 24 = .ok (.iconst 2, 1) := by decide +kernel
theorem dX7_handles_25 : decode cX7_handles 25 = .ok (.invokevirtual 50, 3) := by decide +kernel
theorem dX7_handles_28 : decode cX7_handles 28 = .ok (.putfield 43, 3) := by decide +kernel
theorem dX7_handles_31 : decode cX7_handles 31 = .ok (.aload_n 0, 1) := by decide +kernel
theorem dX7_handles_32 : decode cX7_handles 32 = .ok (.iload_n 1, 1) := by decide +kernel
theorem dX7_handles_33 : decode cX7_handles 33 = .ok (.iconst 2, 1) := by decide +kernel
theorem dX7_handles_34 : decode cX7_handles 34 = .ok (.iload_n 2, 1) := by decide +kernel
theorem dX7_handles_35 : decode cX7_handles 35 = .ok (.invokevirtual 85, 3) := by decide +kernel
theorem dX7_handles_38 : decode cX7_handles 38 = .ok (.iconst 0, 1) := by decide +kernel
theorem dX7_handles_39 : decode cX7_handles 39 = .ok (.ireturn, 1) := by decide +kernel
theorem dX7_setHandle_0 : decode cX7_setHandle 0 = .ok (.aload_n 0, 1) := by decide +kernel
theorem dX7_setHandle_1 : decode cX7_setHandle 1 = .ok (.invokevirtual 118, 3) := by decide +kernel
theorem dX7_setHandle_4 : decode cX7_setHandle 4 = .ok (.aload_n 0, 1) := by decide +kernel
theorem dX7_setHandle_5 : decode cX7_setHandle 5 = .ok (.aload_n 0, 1) := by decide +kernel
theorem dX7_setHandle_6 : decode cX7_setHandle 6 = .ok (.iload_n 1, 1) := by decide +kernel
theorem dX7_setHandle_7 : decode cX7_setHandle 7 = .ok (.iload_n 2, 1) := by decide +kernel
theorem dX7_setHandle_8 : decode cX7_setHandle 8 = .ok (.invokevirtual 135, 3) := by decide +kernel
theorem dX7_setHandle_11 : decode cX7_setHandle 11 = .ok (.iconst 1, 1) := by decide +kernel
theorem dX7_setHandle_12 : decode cX7_setHandle 12 = .ok (.iconst 2, 1) := by decide +kernel
theorem dX7_setHandle_13 : decode cX7_setHandle 13 = .ok (.iconst 0, 1) := by decide +kernel
theorem dX7_setHandle_14 : decode cX7_setHandle 14 = .ok (.iconst 0, 1) := by decide +kernel
theorem dX7_setHandle_15 : decode cX7_setHandle 15 = .ok (.iconst 0, 1) := by decide +kernel
theorem dX7_setHandle_16 : decode cX7_setHandle 16 = .ok (.invokevirtual 124, 3) := by decide +kernel
theorem dX7_setHandle_19 : decode cX7_setHandle 19 = .ok (.ireturn, 1) := by decide +kernel
theorem dX7_clouds_0 : decode cX7_clouds 0 = .ok (.iload_n 1, 1) := by decide +kernel
theorem dX7_clouds_1 : decode cX7_clouds 1 = .ok (.iload_n 2, 1) := by decide +kernel
theorem dX7_clouds_2 : decode cX7_clouds 2 = .ok (.invokestatic 62, 3) := by decide +kernel
theorem dX7_clouds_5 : decode cX7_clouds 5 = .ok (.ifCond .ne 5, 3) := by decide +kernel
theorem dX7_clouds_8 : decode cX7_clouds 8 = .ok (.iconst 2, 1) := by decide +kernel
theorem dX7_clouds_9 : decode cX7_clouds 9 = .ok (.ireturn, 1) := by decide +kernel
theorem dX7_clouds_10 : decode cX7_clouds 10 = .ok (.aload_n 0, 1) := by decide +kernel
theorem dX7_clouds_11 : decode cX7_clouds 11 = .ok (.getfield 9, 3) := by decide +kernel
theorem dX7_clouds_14 : decode cX7_clouds 14 = .ok (.iconst 1, 1) := by decide +kernel
theorem dX7_clouds_15 : decode cX7_clouds 15 = .ok (.iaload, 1) := by decide +kernel
theorem dX7_clouds_16 : decode cX7_clouds 16 = .ok (.bipush 8, 2) := by decide +kernel
theorem dX7_clouds_18 : decode cX7_clouds 18 = .ok (.if_icmp .eq 12, 3) := by decide +kernel
theorem dX7_clouds_21 : decode cX7_clouds 21 = .ok (.aload_n 0, 1) := by decide +kernel
theorem dX7_clouds_22 : decode cX7_clouds 22 = .ok (.iload_n 1, 1) := by decide +kernel
theorem dX7_clouds_23 : decode cX7_clouds 23 = .ok (.iload_n 2, 1) := by decide +kernel
theorem dX7_clouds_24 : decode cX7_clouds 24 = .ok (.invokevirtual 66, 3) := by decide +kernel
theorem dX7_clouds_27 : decode cX7_clouds 27 = .ok (.ifCond .lt 5, 3) := by decide +kernel
theorem dX7_clouds_30 : decode cX7_clouds 30 = .ok (.iconst 3, 1) := by decide +kernel
theorem dX7_clouds_31 : decode cX7_clouds 31 = .ok (.ireturn, 1) := by decide +kernel
theorem dX7_clouds_32 : decode cX7_clouds 32 = .ok (.aload_n 0, 1) := by decide +kernel
theorem dX7_clouds_33 : decode cX7_clouds 33 = .ok (.iload_n 1, 1) := by decide +kernel
theorem dX7_clouds_34 : decode cX7_clouds 34 = .ok (.iload_n 2, 1) := by decide +kernel
theorem dX7_clouds_35 : decode cX7_clouds 35 = .ok (.invokevirtual 138, 3) := by decide +kernel
theorem dX7_clouds_38 : decode cX7_clouds 38 = .ok (.ifCond .lt 5, 3) := by decide +kernel
theorem dX7_clouds_41 : decode cX7_clouds 41 = .ok (.iconst 4, 1) := by decide +kernel
theorem dX7_clouds_42 : decode cX7_clouds 42 = .ok (.ireturn, 1) := by decide +kernel
theorem dX7_clouds_43 : decode cX7_clouds 43 = .ok (.aload_n 0, 1) := by decide +kernel
theorem dX7_clouds_44 : decode cX7_clouds 44 = .ok (.getfield 9, 3) := by decide +kernel
theorem dX7_clouds_47 : decode cX7_clouds 47 = .ok (.bipush 50, 2) := by decide +kernel
theorem dX7_clouds_49 : decode cX7_clouds 49 = .ok (.aload_n 0, 1) := by decide +kernel
theorem dX7_clouds_50 : decode cX7_clouds 50 = .ok (.getfield 9, 3) := by decide +kernel
theorem dX7_clouds_53 : decode cX7_clouds 53 = .ok (.iconst 1, 1) := by decide +kernel
theorem dX7_clouds_54 : decode cX7_clouds 54 = .ok (.iaload, 1) := by decide +kernel
theorem dX7_clouds_55 : decode cX7_clouds 55 = .ok (.iadd, 1) := by decide +kernel
theorem dX7_clouds_56 : decode cX7_clouds 56 = .ok (.bipush 12, 2) := by decide +kernel
theorem dX7_clouds_58 : decode cX7_clouds 58 = .ok (.iload_n 2, 1) := by decide +kernel
theorem dX7_clouds_59 : decode cX7_clouds 59 = .ok (.imul, 1) := by decide +kernel
theorem dX7_clouds_60 : decode cX7_clouds 60 = .ok (.iload_n 1, 1) := by decide +kernel
theorem dX7_clouds_61 : decode cX7_clouds 61 = .ok (.iadd, 1) := by decide +kernel
theorem dX7_clouds_62 : decode cX7_clouds 62 = .ok (.iastore, 1) := by decide +kernel
theorem dX7_clouds_63 : decode cX7_clouds 63 = .ok (.aload_n 0, 1) := by decide +kernel
theorem dX7_clouds_64 : decode cX7_clouds 64 = .ok (.getfield 9, 3) := by decide +kernel
theorem dX7_clouds_67 : decode cX7_clouds 67 = .ok (.iconst 1, 1) := by decide +kernel
theorem dX7_clouds_68 : decode cX7_clouds 68 = .ok (.dup2, 1) := by decide +kernel
theorem dX7_clouds_69 : decode cX7_clouds 69 = .ok (.iaload, 1) := by decide +kernel
theorem dX7_clouds_70 : decode cX7_clouds 70 = .ok (.iconst 1, 1) := by decide +kernel
theorem dX7_clouds_71 : decode cX7_clouds 71 = .ok (.iadd, 1) := by decide +kernel
theorem dX7_clouds_72 : decode cX7_clouds 72 = .ok (.iastore, 1) := by decide +kernel
theorem dX7_clouds_73 : decode cX7_clouds 73 = .ok (.aload_n 0, 1) := by decide +kernel
theorem dX7_clouds_74 : decode cX7_clouds 74 = .ok (.aload_n 0, 1) := by decide +kernel
theorem dX7_clouds_75 : decode cX7_clouds 75 = .ok (.getfield 9, 3) := by decide +kernel
theorem dX7_clouds_78 : decode cX7_clouds 78 = .ok (.iconst 1, 1) := by decide +kernel
theorem dX7_clouds_79 : decode cX7_clouds 79 = .ok (.iaload, 1) := by decide +kernel
theorem dX7_clouds_80 : decode cX7_clouds 80 = .ok (.putfield 43, 3) := by decide +kernel
theorem dX7_clouds_83 : decode cX7_clouds 83 = .ok (.iconst 0, 1) := by decide +kernel
theorem dX7_clouds_84 : decode cX7_clouds 84 = .ok (.ireturn, 1) := by decide +kernel
theorem dX7_addCloud_0 : decode cX7_addCloud 0 = .ok (.aload_n 0, 1) := by decide +kernel
theorem dX7_addCloud_1 : decode cX7_addCloud 1 = .ok (.invokevirtual 118, 3) := by decide +kernel
theorem dX7_addCloud_4 : decode cX7_addCloud 4 = .ok (.aload_n 0, 1) := by decide +kernel
theorem dX7_addCloud_5 : decode cX7_addCloud 5 = .ok (.aload_n 0, 1) := by decide +kernel
theorem dX7_addCloud_6 : decode cX7_addCloud 6 = .ok (.iload_n 1, 1) := by decide +kernel
theorem dX7_addCloud_7 : decode cX7_addCloud 7 = .ok (.iload_n 2, 1) := by decide +kernel
theorem dX7_addCloud_8 : decode cX7_addCloud 8 = .ok (.invokevirtual 141, 3) := by decide +kernel
theorem dX7_addCloud_11 : decode cX7_addCloud 11 = .ok (.iconst 0, 1) := by decide +kernel
theorem dX7_addCloud_12 : decode cX7_addCloud 12 = .ok (.iconst 1, 1) := by decide +kernel
theorem dX7_addCloud_13 : decode cX7_addCloud 13 = .ok (.iconst 2, 1) := by decide +kernel
theorem dX7_addCloud_14 : decode cX7_addCloud 14 = .ok (.iconst 3, 1) := by decide +kernel
theorem dX7_addCloud_15 : decode cX7_addCloud 15 = .ok (.iconst 0, 1) := by decide +kernel
theorem dX7_addCloud_16 : decode cX7_addCloud 16 = .ok (.invokevirtual 124, 3) := by decide +kernel
theorem dX7_addCloud_19 : decode cX7_addCloud 19 = .ok (.ireturn, 1) := by decide +kernel
theorem dX7_clears_0 : decode cX7_clears 0 = .ok (.iload_n 1, 1) := by decide +kernel
theorem dX7_clears_1 : decode cX7_clears 1 = .ok (.iload_n 2, 1) := by decide +kernel
theorem dX7_clears_2 : decode cX7_clears 2 = .ok (.invokestatic 62, 3) := by decide +kernel
theorem dX7_clears_5 : decode cX7_clears 5 = .ok (.ifCond .ne 5, 3) := by decide +kernel
theorem dX7_clears_8 : decode cX7_clears 8 = .ok (.iconst 2, 1) := by decide +kernel
theorem dX7_clears_9 : decode cX7_clears 9 = .ok (.ireturn, 1) := by decide +kernel
theorem dX7_clears_10 : decode cX7_clears 10 = .ok (.aload_n 0, 1) := by decide +kernel
theorem dX7_clears_11 : decode cX7_clears 11 = .ok (.iload_n 1, 1) := by decide +kernel
theorem dX7_clears_12 : decode cX7_clears 12 = .ok (.iload_n 2, 1) := by decide +kernel
theorem dX7_clears_13 : decode cX7_clears 13 = .ok (.invokevirtual 66, 3) := by decide +kernel
theorem dX7_clears_16 : decode cX7_clears 16 = .ok (.istore_n 3, 1) := by decide +kernel
theorem dX7_clears_17 : decode cX7_clears 17 = .ok (.iload_n 3, 1) := by decide +kernel
theorem dX7_clears_18 : decode cX7_clears 18 = .ok (.ifCond .ge 5, 3) := by decide +kernel
theorem dX7_clears_21 : decode cX7_clears 21 = .ok (.iconst 5, 1) := by decide +kernel
theorem dX7_clears_22 : decode cX7_clears 22 = .ok (.ireturn, 1) := by decide +kernel
theorem dX7_clears_23 : decode cX7_clears 23 = .ok (.aload_n 0, 1) := by decide +kernel
theorem dX7_clears_24 : decode cX7_clears 24 = .ok (.getfield 9, 3) := by decide +kernel
theorem dX7_clears_27 : decode cX7_clears 27 = .ok (.iconst 1, 1) := by decide +kernel
theorem dX7_clears_28 : decode cX7_clears 28 = .ok (.dup2, 1) := by decide +kernel
theorem dX7_clears_29 : decode cX7_clears 29 = .ok (.iaload, 1) := by decide +kernel
theorem dX7_clears_30 : decode cX7_clears 30 = .ok (.iconst 1, 1) := by decide +kernel
theorem dX7_clears_31 : decode cX7_clears 31 = .ok (.isub, 1) := by decide +kernel
theorem dX7_clears_32 : decode cX7_clears 32 = .ok (.iastore, 1) := by decide +kernel
theorem dX7_clears_33 : decode cX7_clears 33 = .ok (.aload_n 0, 1) := by decide +kernel
theorem dX7_clears_34 : decode cX7_clears 34 = .ok (.getfield 9, 3) := by decide +kernel
theorem dX7_clears_37 : decode cX7_clears 37 = .ok (.bipush 50, 2) := by decide +kernel
theorem dX7_clears_39 : decode cX7_clears 39 = .ok (.iload_n 3, 1) := by decide +kernel
theorem dX7_clears_40 : decode cX7_clears 40 = .ok (.iadd, 1) := by decide +kernel
theorem dX7_clears_41 : decode cX7_clears 41 = .ok (.aload_n 0, 1) := by decide +kernel
theorem dX7_clears_42 : decode cX7_clears 42 = .ok (.getfield 9, 3) := by decide +kernel
theorem dX7_clears_45 : decode cX7_clears 45 = .ok (.bipush 50, 2) := by decide +kernel
theorem dX7_clears_47 : decode cX7_clears 47 = .ok (.aload_n 0, 1) := by decide +kernel
theorem dX7_clears_48 : decode cX7_clears 48 = .ok (.getfield 9, 3) := by decide +kernel
theorem dX7_clears_51 : decode cX7_clears 51 = .ok (.iconst 1, 1) := by decide +kernel
theorem dX7_clears_52 : decode cX7_clears 52 = .ok (.iaload, 1) := by decide +kernel
theorem dX7_clears_53 : decode cX7_clears 53 = .ok (.iadd, 1) := by decide +kernel
theorem dX7_clears_54 : decode cX7_clears 54 = .ok (.iaload, 1) := by decide +kernel
theorem dX7_clears_55 : decode cX7_clears 55 = .ok (.iastore, 1) := by decide +kernel
theorem dX7_clears_56 : decode cX7_clears 56 = .ok (.aload_n 0, 1) := by decide +kernel
theorem dX7_clears_57 : decode cX7_clears 57 = .ok (.getfield 9, 3) := by decide +kernel
theorem dX7_clears_60 : decode cX7_clears 60 = .ok (.bipush 50, 2) := by decide +kernel
theorem dX7_clears_62 : decode cX7_clears 62 = .ok (.aload_n 0, 1) := by decide +kernel
theorem dX7_clears_63 : decode cX7_clears 63 = .ok (.getfield 9, 3) := by decide +kernel
theorem dX7_clears_66 : decode cX7_clears 66 = .ok (.iconst 1, 1) := by decide +kernel
theorem dX7_clears_67 : decode cX7_clears 67 = .ok (.iaload, 1) := by decide +kernel
theorem dX7_clears_68 : decode cX7_clears 68 = .ok (.iadd, 1) := by decide +kernel
theorem dX7_clears_69 : decode cX7_clears 69 = .ok (.iconst 0, 1) := by decide +kernel
theorem dX7_clears_70 : decode cX7_clears 70 = .ok (.iastore, 1) := by decide +kernel
theorem dX7_clears_71 : decode cX7_clears 71 = .ok (.aload_n 0, 1) := by decide +kernel
theorem dX7_clears_72 : decode cX7_clears 72 = .ok (.aload_n 0, 1) := by decide +kernel
theorem dX7_clears_73 : decode cX7_clears 73 = .ok (.getfield 9, 3) := by decide +kernel
theorem dX7_clears_76 : decode cX7_clears 76 = .ok (.iconst 1, 1) := by decide +kernel
theorem dX7_clears_77 : decode cX7_clears 77 = .ok (.iaload, 1) := by decide +kernel
theorem dX7_clears_78 : decode cX7_clears 78 = .ok (.putfield 43, 3) := by decide +kernel
theorem dX7_clears_81 : decode cX7_clears 81 = .ok (.iconst 0, 1) := by decide +kernel
theorem dX7_clears_82 : decode cX7_clears 82 = .ok (.ireturn, 1) := by decide +kernel
theorem dX7_removeCloud_0 : decode cX7_removeCloud 0 = .ok (.aload_n 0, 1) := by decide +kernel
theorem dX7_removeCloud_1 : decode cX7_removeCloud 1 = .ok (.invokevirtual 118, 3) := by decide +kernel
theorem dX7_removeCloud_4 : decode cX7_removeCloud 4 = .ok (.aload_n 0, 1) := by decide +kernel
theorem dX7_removeCloud_5 : decode cX7_removeCloud 5 = .ok (.aload_n 0, 1) := by decide +kernel
theorem dX7_removeCloud_6 : decode cX7_removeCloud 6 = .ok (.iload_n 1, 1) := by decide +kernel
theorem dX7_removeCloud_7 : decode cX7_removeCloud 7 = .ok (.iload_n 2, 1) := by decide +kernel
theorem dX7_removeCloud_8 : decode cX7_removeCloud 8 = .ok (.invokevirtual 144, 3) := by decide +kernel
theorem dX7_removeCloud_11 : decode cX7_removeCloud 11 = .ok (.iconst 0, 1) := by decide +kernel
theorem dX7_removeCloud_12 : decode cX7_removeCloud 12 = .ok (.iconst 1, 1) := by decide +kernel
theorem dX7_removeCloud_13 : decode cX7_removeCloud 13 = .ok (.iconst 0, 1) := by decide +kernel
theorem dX7_removeCloud_14 : decode cX7_removeCloud 14 = .ok (.iconst 0, 1) := by decide +kernel
theorem dX7_removeCloud_15 : decode cX7_removeCloud 15 = .ok (.iconst 2, 1) := by decide +kernel
theorem dX7_removeCloud_16 : decode cX7_removeCloud 16 = .ok (.invokevirtual 124, 3) := by decide +kernel
theorem dX7_removeCloud_19 : decode cX7_removeCloud 19 = .ok (.ireturn, 1) := by decide +kernel
theorem dX7_turns_0 : decode cX7_turns 0 = .ok (.iload_n 1, 1) := by decide +kernel
theorem dX7_turns_1 : decode cX7_turns 1 = .ok (.iconst 2, 1) := by decide +kernel
theorem dX7_turns_2 : decode cX7_turns 2 = .ok (.bipush 9, 2) := by decide +kernel
theorem dX7_turns_4 : decode cX7_turns 4 = .ok (.invokestatic 46, 3) := by decide +kernel
theorem dX7_turns_7 : decode cX7_turns 7 = .ok (.ifCond .ne 5, 3) := by decide +kernel
theorem dX7_turns_10 : decode cX7_turns 10 = .ok (.iconst 2, 1) := by decide +kernel
theorem dX7_turns_11 : decode cX7_turns 11 = .ok (.ireturn, 1) := by decide +kernel
theorem dX7_turns_12 : decode cX7_turns 12 = .ok (.aload_n 0, 1) := by decide +kernel
theorem dX7_turns_13 : decode cX7_turns 13 = .ok (.aload_n 0, 1) := by decide +kernel
theorem dX7_turns_14 : decode cX7_turns 14 = .ok (.getfield 9, 3) := by decide +kernel
theorem dX7_turns_17 : decode cX7_turns 17 = .ok (.iconst 4, 1) := by decide +kernel
theorem dX7_turns_18 : decode cX7_turns 18 = .ok (.iaload, 1) := by decide +kernel
theorem dX7_turns_19 : decode cX7_turns 19 = .ok (.putfield 43, 3) := by decide +kernel
theorem dX7_turns_22 : decode cX7_turns 22 = .ok (.aload_n 0, 1) := by decide +kernel
theorem dX7_turns_23 : decode cX7_turns 23 = .ok (.getfield 9, 3) := by decide +kernel
theorem dX7_turns_26 : decode cX7_turns 26 = .ok (.iconst 4, 1) := by decide +kernel
theorem dX7_turns_27 : decode cX7_turns 27 = .ok (.iload_n 1, 1) := by decide +kernel
theorem dX7_turns_28 : decode cX7_turns 28 = .ok (.iastore, 1) := by decide +kernel
theorem dX7_turns_29 : decode cX7_turns 29 = .ok (.aload_n 0, 1) := by decide +kernel
theorem dX7_turns_30 : decode cX7_turns 30 = .ok (.getfield 9, 3) := by decide +kernel
theorem dX7_turns_33 : decode cX7_turns 33 = .ok (.iconst 3, 1) := by decide +kernel
theorem dX7_turns_34 : decode cX7_turns 34 = .ok (.iconst 0, 1) := by decide +kernel
theorem dX7_turns_35 : decode cX7_turns 35 = .ok (.iastore, 1) := by decide +kernel
theorem dX7_turns_36 : decode cX7_turns 36 = .ok (.iconst 0, 1) := by decide +kernel
theorem dX7_turns_37 : decode cX7_turns 37 = .ok (.ireturn, 1) := by decide +kernel
theorem dX7_setTurnLength_0 : decode cX7_setTurnLength 0 = .ok (.aload_n 0, 1) := by decide +kernel
theorem dX7_setTurnLength_1 : decode cX7_setTurnLength 1 = .ok (.invokevirtual 118, 3) := by decide +kernel
theorem dX7_setTurnLength_4 : decode cX7_setTurnLength 4 = .ok (.aload_n 0, 1) := by decide +kernel
theorem dX7_setTurnLength_5 : decode cX7_setTurnLength 5 = .ok (.aload_n 0, 1) := by decide +kernel
theorem dX7_setTurnLength_6 : decode cX7_setTurnLength 6 = .ok (.iload_n 1, 1) := by decide +kernel
theorem dX7_setTurnLength_7 : decode cX7_setTurnLength 7 = .ok (.invokevirtual 147, 3) := by decide +kernel
theorem dX7_setTurnLength_10 : decode cX7_setTurnLength 10 = .ok (.iconst 0, 1) := by decide +kernel
theorem dX7_setTurnLength_11 : decode cX7_setTurnLength 11 = .ok (.iconst 1, 1) := by decide +kernel
theorem dX7_setTurnLength_12 : decode cX7_setTurnLength 12 = .ok (.iconst 0, 1) := by decide +kernel
theorem dX7_setTurnLength_13 : decode cX7_setTurnLength 13 = .ok (.iconst 0, 1) := by decide +kernel
theorem dX7_setTurnLength_14 : decode cX7_setTurnLength 14 = .ok (.iconst 0, 1) := by decide +kernel
theorem dX7_setTurnLength_15 : decode cX7_setTurnLength 15 = .ok (.invokevirtual 124, 3) := by decide +kernel
theorem dX7_setTurnLength_18 : decode cX7_setTurnLength 18 = .ok (.ireturn, 1) := by decide +kernel
theorem dX7_aims_0 : decode cX7_aims 0 = .ok (.iload_n 1, 1) := by decide +kernel
theorem dX7_aims_1 : decode cX7_aims 1 = .ok (.iload_n 2, 1) := by decide +kernel
theorem dX7_aims_2 : decode cX7_aims 2 = .ok (.invokestatic 62, 3) := by decide +kernel
theorem dX7_aims_5 : decode cX7_aims 5 = .ok (.ifCond .ne 5, 3) := by decide +kernel
theorem dX7_aims_8 : decode cX7_aims 8 = .ok (.iconst 2, 1) := by decide +kernel
theorem dX7_aims_9 : decode cX7_aims 9 = .ok (.ireturn, 1) := by decide +kernel
theorem dX7_aims_10 : decode cX7_aims 10 = .ok (.aload_n 0, 1) := by decide +kernel
theorem dX7_aims_11 : decode cX7_aims 11 = .ok (.getfield 9, 3) := by decide +kernel
theorem dX7_aims_14 : decode cX7_aims 14 = .ok (.iconst 0, 1) := by decide +kernel
theorem dX7_aims_15 : decode cX7_aims 15 = .ok (.iaload, 1) := by decide +kernel
theorem dX7_aims_16 : decode cX7_aims 16 = .ok (.ifCond .ne 5, 3) := by decide +kernel
theorem dX7_aims_19 : decode cX7_aims 19 = .ok (.iconst 5, 1) := by decide +kernel
theorem dX7_aims_20 : decode cX7_aims 20 = .ok (.ireturn, 1) := by decide +kernel
theorem dX7_aims_21 : decode cX7_aims 21 = .ok (.aload_n 0, 1) := by decide +kernel
theorem dX7_aims_22 : decode cX7_aims 22 = .ok (.getfield 9, 3) := by decide +kernel
theorem dX7_aims_25 : decode cX7_aims 25 = .ok (.iconst 5, 1) := by decide +kernel
theorem dX7_aims_26 : decode cX7_aims 26 = .ok (.bipush 12, 2) := by decide +kernel
theorem dX7_aims_28 : decode cX7_aims 28 = .ok (.iload_n 2, 1) := by decide +kernel
theorem dX7_aims_29 : decode cX7_aims 29 = .ok (.imul, 1) := by decide +kernel
theorem dX7_aims_30 : decode cX7_aims 30 = .ok (.iload_n 1, 1) := by decide +kernel
theorem dX7_aims_31 : decode cX7_aims 31 = .ok (.iadd, 1) := by decide +kernel
theorem dX7_aims_32 : decode cX7_aims 32 = .ok (.iconst 1, 1) := by decide +kernel
theorem dX7_aims_33 : decode cX7_aims 33 = .ok (.iadd, 1) := by decide +kernel
theorem dX7_aims_34 : decode cX7_aims 34 = .ok (.iastore, 1) := by decide +kernel
theorem dX7_aims_35 : decode cX7_aims 35 = .ok (.aload_n 0, 1) := by decide +kernel
theorem dX7_aims_36 : decode cX7_aims 36 = .ok (.aload_n 0, 1) := by decide +kernel
theorem dX7_aims_37 : decode cX7_aims 37 = .ok (.aload_n 0, 1) := by decide +kernel
theorem dX7_aims_38 : decode cX7_aims 38 = .ok (.getfield 9, 3) := by decide +kernel
theorem dX7_aims_41 : decode cX7_aims 41 = .ok (.iconst 2, 1) := by decide +kernel
theorem dX7_aims_42 : decode cX7_aims 42 = .ok (.iaload, 1) := by decide +kernel
theorem dX7_aims_43 : decode cX7_aims 43 = .ok (.iload_n 1, 1) := by decide +kernel
theorem dX7_aims_44 : decode cX7_aims 44 = .ok (.iload_n 2, 1) := by decide +kernel
theorem dX7_aims_45 : decode cX7_aims 45 = .ok (.invokevirtual 58, 3) := by decide +kernel
theorem dX7_aims_48 : decode cX7_aims 48 = .ok (.putfield 43, 3) := by decide +kernel
theorem dX7_aims_51 : decode cX7_aims 51 = .ok (.iconst 0, 1) := by decide +kernel
theorem dX7_aims_52 : decode cX7_aims 52 = .ok (.ireturn, 1) := by decide +kernel
theorem dX7_setTarget_0 : decode cX7_setTarget 0 = .ok (.aload_n 0, 1) := by decide +kernel
theorem dX7_setTarget_1 : decode cX7_setTarget 1 = .ok (.invokevirtual 118, 3) := by decide +kernel
theorem dX7_setTarget_4 : decode cX7_setTarget 4 = .ok (.aload_n 0, 1) := by decide +kernel
theorem dX7_setTarget_5 : decode cX7_setTarget 5 = .ok (.aload_n 0, 1) := by decide +kernel
theorem dX7_setTarget_6 : decode cX7_setTarget 6 = .ok (.iload_n 1, 1) := by decide +kernel
theorem dX7_setTarget_7 : decode cX7_setTarget 7 = .ok (.iload_n 2, 1) := by decide +kernel
theorem dX7_setTarget_8 : decode cX7_setTarget 8 = .ok (.invokevirtual 150, 3) := by decide +kernel
theorem dX7_setTarget_11 : decode cX7_setTarget 11 = .ok (.iconst 0, 1) := by decide +kernel
theorem dX7_setTarget_12 : decode cX7_setTarget 12 = .ok (.iconst 1, 1) := by decide +kernel
theorem dX7_setTarget_13 : decode cX7_setTarget 13 = .ok (.iconst 0, 1) := by decide +kernel
theorem dX7_setTarget_14 : decode cX7_setTarget 14 = .ok (.iconst 0, 1) := by decide +kernel
theorem dX7_setTarget_15 : decode cX7_setTarget 15 = .ok (.iconst 2, 1) := by decide +kernel
theorem dX7_setTarget_16 : decode cX7_setTarget 16 = .ok (.invokevirtual 124, 3) := by decide +kernel
theorem dX7_setTarget_19 : decode cX7_setTarget 19 = .ok (.ireturn, 1) := by decide +kernel
theorem dX7_keeps_0 : decode cX7_keeps 0 = .ok (.iload_n 1, 1) := by decide +kernel
theorem dX7_keeps_1 : decode cX7_keeps 1 = .ok (.iconst 2, 1) := by decide +kernel
theorem dX7_keeps_2 : decode cX7_keeps 2 = .ok (.bipush 6, 2) := by decide +kernel
theorem dX7_keeps_4 : decode cX7_keeps 4 = .ok (.invokestatic 46, 3) := by decide +kernel
theorem dX7_keeps_7 : decode cX7_keeps 7 = .ok (.ifCond .ne 5, 3) := by decide +kernel
theorem dX7_keeps_10 : decode cX7_keeps 10 = .ok (.iconst 2, 1) := by decide +kernel
theorem dX7_keeps_11 : decode cX7_keeps 11 = .ok (.ireturn, 1) := by decide +kernel
theorem dX7_keeps_12 : decode cX7_keeps 12 = .ok (.aload_n 0, 1) := by decide +kernel
theorem dX7_keeps_13 : decode cX7_keeps 13 = .ok (.aload_n 0, 1) := by decide +kernel
theorem dX7_keeps_14 : decode cX7_keeps 14 = .ok (.getfield 9, 3) := by decide +kernel
theorem dX7_keeps_17 : decode cX7_keeps 17 = .ok (.bipush 6, 2) := by decide +kernel
theorem dX7_keeps_19 : decode cX7_keeps 19 = .ok (.iaload, 1) := by decide +kernel
theorem dX7_keeps_20 : decode cX7_keeps 20 = .ok (.putfield 43, 3) := by decide +kernel
theorem dX7_keeps_23 : decode cX7_keeps 23 = .ok (.aload_n 0, 1) := by decide +kernel
theorem dX7_keeps_24 : decode cX7_keeps 24 = .ok (.getfield 9, 3) := by decide +kernel
theorem dX7_keeps_27 : decode cX7_keeps 27 = .ok (.bipush 6, 2) := by decide +kernel
theorem dX7_keeps_29 : decode cX7_keeps 29 = .ok (.iload_n 1, 1) := by decide +kernel
theorem dX7_keeps_30 : decode cX7_keeps 30 = .ok (.iastore, 1) := by decide +kernel
theorem dX7_keeps_31 : decode cX7_keeps 31 = .ok (.iconst 0, 1) := by decide +kernel
theorem dX7_keeps_32 : decode cX7_keeps 32 = .ok (.ireturn, 1) := by decide +kernel
theorem dX7_setKeep_0 : decode cX7_setKeep 0 = .ok (.aload_n 0, 1) := by decide +kernel
theorem dX7_setKeep_1 : decode cX7_setKeep 1 = .ok (.invokevirtual 118, 3) := by decide +kernel
theorem dX7_setKeep_4 : decode cX7_setKeep 4 = .ok (.aload_n 0, 1) := by decide +kernel
theorem dX7_setKeep_5 : decode cX7_setKeep 5 = .ok (.aload_n 0, 1) := by decide +kernel
theorem dX7_setKeep_6 : decode cX7_setKeep 6 = .ok (.iload_n 1, 1) := by decide +kernel
theorem dX7_setKeep_7 : decode cX7_setKeep 7 = .ok (.invokevirtual 153, 3) := by decide +kernel
theorem dX7_setKeep_10 : decode cX7_setKeep 10 = .ok (.iconst 0, 1) := by decide +kernel
theorem dX7_setKeep_11 : decode cX7_setKeep 11 = .ok (.iconst 1, 1) := by decide +kernel
theorem dX7_setKeep_12 : decode cX7_setKeep 12 = .ok (.iconst 0, 1) := by decide +kernel
theorem dX7_setKeep_13 : decode cX7_setKeep 13 = .ok (.iconst 0, 1) := by decide +kernel
theorem dX7_setKeep_14 : decode cX7_setKeep 14 = .ok (.iconst 0, 1) := by decide +kernel
theorem dX7_setKeep_15 : decode cX7_setKeep 15 = .ok (.invokevirtual 124, 3) := by decide +kernel
theorem dX7_setKeep_18 : decode cX7_setKeep 18 = .ok (.ireturn, 1) := by decide +kernel
theorem dX7_passes_0 : decode cX7_passes 0 = .ok (.iload_n 1, 1) := by decide +kernel
theorem dX7_passes_1 : decode cX7_passes 1 = .ok (.iconst 1, 1) := by decide +kernel
theorem dX7_passes_2 : decode cX7_passes 2 = .ok (.bipush 20, 2) := by decide +kernel
theorem dX7_passes_4 : decode cX7_passes 4 = .ok (.invokestatic 46, 3) := by decide +kernel
theorem dX7_passes_7 : decode cX7_passes 7 = .ok (.ifCond .ne 5, 3) := by decide +kernel
theorem dX7_passes_10 : decode cX7_passes 10 = .ok (.iconst 2, 1) := by decide +kernel
theorem dX7_passes_11 : decode cX7_passes 11 = .ok (.ireturn, 1) := by decide +kernel
theorem dX7_passes_12 : decode cX7_passes 12 = .ok (.aload_n 0, 1) := by decide +kernel
theorem dX7_passes_13 : decode cX7_passes 13 = .ok (.iconst 0, 1) := by decide +kernel
theorem dX7_passes_14 : decode cX7_passes 14 = .ok (.putfield 43, 3) := by decide +kernel
theorem dX7_passes_17 : decode cX7_passes 17 = .ok (.iconst 0, 1) := by decide +kernel
theorem dX7_passes_18 : decode cX7_passes 18 = .ok (.istore_n 2, 1) := by decide +kernel
theorem dX7_passes_19 : decode cX7_passes 19 = .ok (.iload_n 2, 1) := by decide +kernel
theorem dX7_passes_20 : decode cX7_passes 20 = .ok (.iload_n 1, 1) := by decide +kernel
theorem dX7_passes_21 : decode cX7_passes 21 = .ok (.if_icmp .ge 22, 3) := by decide +kernel
theorem dX7_passes_24 : decode cX7_passes 24 = .ok (.aload_n 0, 1) := by decide +kernel
theorem dX7_passes_25 : decode cX7_passes 25 = .ok (.dup, 1) := by decide +kernel
theorem dX7_passes_26 : decode cX7_passes 26 = .ok (.getfield 43, 3) := by decide +kernel
theorem dX7_passes_29 : decode cX7_passes 29 = .ok (.aload_n 0, 1) := by decide +kernel
theorem dX7_passes_30 : decode cX7_passes 30 = .ok (.invokevirtual 156, 3) := by decide +kernel
theorem dX7_passes_33 : decode cX7_passes 33 = .ok (.iadd, 1) := by decide +kernel
theorem dX7_passes_34 : decode cX7_passes 34 = .ok (.putfield 43, 3) := by decide +kernel
theorem dX7_passes_37 : decode cX7_passes 37 = .ok (.iinc 2 1, 3) := by decide +kernel
theorem dX7_passes_40 : decode cX7_passes 40 = .ok (.goto (-21), 3) := by decide +kernel
theorem dX7_passes_43 : decode cX7_passes 43 = .ok (.iconst 0, 1) := by decide +kernel
theorem dX7_passes_44 : decode cX7_passes 44 = .ok (.ireturn, 1) := by decide +kernel
theorem dX7_advance_0 : decode cX7_advance 0 = .ok (.aload_n 0, 1) := by decide +kernel
theorem dX7_advance_1 : decode cX7_advance 1 = .ok (.invokevirtual 118, 3) := by decide +kernel
theorem dX7_advance_4 : decode cX7_advance 4 = .ok (.aload_n 0, 1) := by decide +kernel
theorem dX7_advance_5 : decode cX7_advance 5 = .ok (.aload_n 0, 1) := by decide +kernel
theorem dX7_advance_6 : decode cX7_advance 6 = .ok (.iload_n 1, 1) := by decide +kernel
theorem dX7_advance_7 : decode cX7_advance 7 = .ok (.invokevirtual 159, 3) := by decide +kernel
theorem dX7_advance_10 : decode cX7_advance 10 = .ok (.iconst 0, 1) := by decide +kernel
theorem dX7_advance_11 : decode cX7_advance 11 = .ok (.iconst 1, 1) := by decide +kernel
theorem dX7_advance_12 : decode cX7_advance 12 = .ok (.iconst 0, 1) := by decide +kernel
theorem dX7_advance_13 : decode cX7_advance 13 = .ok (.iconst 0, 1) := by decide +kernel
theorem dX7_advance_14 : decode cX7_advance 14 = .ok (.iconst 0, 1) := by decide +kernel
theorem dX7_advance_15 : decode cX7_advance 15 = .ok (.invokevirtual 124, 3) := by decide +kernel
theorem dX7_advance_18 : decode cX7_advance 18 = .ok (.ireturn, 1) := by decide +kernel
theorem dX7_told_0 : decode cX7_told 0 = .ok (.aload_n 0, 1) := by decide +kernel
theorem dX7_told_1 : decode cX7_told 1 = .ok (.iconst 0, 1) := by decide +kernel
theorem dX7_told_2 : decode cX7_told 2 = .ok (.putfield 33, 3) := by decide +kernel
theorem dX7_told_5 : decode cX7_told 5 = .ok (.aload_n 0, 1) := by decide +kernel
theorem dX7_told_6 : decode cX7_told 6 = .ok (.getfield 9, 3) := by decide +kernel
theorem dX7_told_9 : decode cX7_told 9 = .ok (.iload_n 1, 1) := by decide +kernel
theorem dX7_told_10 : decode cX7_told 10 = .ok (.iaload, 1) := by decide +kernel
theorem dX7_told_11 : decode cX7_told 11 = .ok (.ireturn, 1) := by decide +kernel
theorem dX7_basketCount_0 : decode cX7_basketCount 0 = .ok (.aload_n 0, 1) := by decide +kernel
theorem dX7_basketCount_1 : decode cX7_basketCount 1 = .ok (.iconst 0, 1) := by decide +kernel
theorem dX7_basketCount_2 : decode cX7_basketCount 2 = .ok (.invokevirtual 162, 3) := by decide +kernel
theorem dX7_basketCount_5 : decode cX7_basketCount 5 = .ok (.ireturn, 1) := by decide +kernel
theorem dX7_ofBasket_0 : decode cX7_ofBasket 0 = .ok (.aload_n 0, 1) := by decide +kernel
theorem dX7_ofBasket_1 : decode cX7_ofBasket 1 = .ok (.aload_n 0, 1) := by decide +kernel
theorem dX7_ofBasket_2 : decode cX7_ofBasket 2 = .ok (.iload_n 1, 1) := by decide +kernel
theorem dX7_ofBasket_3 : decode cX7_ofBasket 3 = .ok (.invokevirtual 128, 3) := by decide +kernel
theorem dX7_ofBasket_6 : decode cX7_ofBasket 6 = .ok (.invokevirtual 78, 3) := by decide +kernel
theorem dX7_ofBasket_9 : decode cX7_ofBasket 9 = .ok (.ifCond .eq 12, 3) := by decide +kernel
theorem dX7_ofBasket_12 : decode cX7_ofBasket 12 = .ok (.aload_n 0, 1) := by decide +kernel
theorem dX7_ofBasket_13 : decode cX7_ofBasket 13 = .ok (.iload_n 1, 1) := by decide +kernel
theorem dX7_ofBasket_14 : decode cX7_ofBasket 14 = .ok (.iload_n 2, 1) := by decide +kernel
theorem dX7_ofBasket_15 : decode cX7_ofBasket 15 = .ok (.invokevirtual 50, 3) := by decide +kernel
theorem dX7_ofBasket_18 : decode cX7_ofBasket 18 = .ok (.goto 4, 3) := by decide +kernel
theorem dX7_ofBasket_21 : decode cX7_ofBasket 21 = .ok (.iconst 0, 1) := by decide +kernel
theorem dX7_ofBasket_22 : decode cX7_ofBasket 22 = .ok (.ireturn, 1) := by decide +kernel
theorem dX7_xOf_0 : decode cX7_xOf 0 = .ok (.aload_n 0, 1) := by decide +kernel
theorem dX7_xOf_1 : decode cX7_xOf 1 = .ok (.iload_n 1, 1) := by decide +kernel
theorem dX7_xOf_2 : decode cX7_xOf 2 = .ok (.iconst 0, 1) := by decide +kernel
theorem dX7_xOf_3 : decode cX7_xOf 3 = .ok (.invokevirtual 165, 3) := by decide +kernel
theorem dX7_xOf_6 : decode cX7_xOf 6 = .ok (.ireturn, 1) := by decide +kernel
theorem dX7_yOf_0 : decode cX7_yOf 0 = .ok (.aload_n 0, 1) := by decide +kernel
theorem dX7_yOf_1 : decode cX7_yOf 1 = .ok (.iload_n 1, 1) := by decide +kernel
theorem dX7_yOf_2 : decode cX7_yOf 2 = .ok (.iconst 1, 1) := by decide +kernel
theorem dX7_yOf_3 : decode cX7_yOf 3 = .ok (.invokevirtual 165, 3) := by decide +kernel
theorem dX7_yOf_6 : decode cX7_yOf 6 = .ok (.ireturn, 1) := by decide +kernel
theorem dX7_handleOf_0 : decode cX7_handleOf 0 = .ok (.aload_n 0, 1) := by decide +kernel
theorem dX7_handleOf_1 : decode cX7_handleOf 1 = .ok (.iload_n 1, 1) := by decide +kernel
theorem dX7_handleOf_2 : decode cX7_handleOf 2 = .ok (.iconst 2, 1) := by decide +kernel
theorem dX7_handleOf_3 : decode cX7_handleOf 3 = .ok (.invokevirtual 165, 3) := by decide +kernel
theorem dX7_handleOf_6 : decode cX7_handleOf 6 = .ok (.ireturn, 1) := by decide +kernel
theorem dX7_basketAt_0 : decode cX7_basketAt 0 = .ok (.aload_n 0, 1) := by decide +kernel
theorem dX7_basketAt_1 : decode cX7_basketAt 1 = .ok (.iload_n 1, 1) := by decide +kernel
theorem dX7_basketAt_2 : decode cX7_basketAt 2 = .ok (.iload_n 2, 1) := by decide +kernel
theorem dX7_basketAt_3 : decode cX7_basketAt 3 = .ok (.invokestatic 62, 3) := by decide +kernel
theorem dX7_basketAt_6 : decode cX7_basketAt 6 = .ok (.ifCond .ne 7, 3) := by decide +kernel
theorem dX7_basketAt_9 : decode cX7_basketAt 9 = .ok (.iconst 1, 1) := by decide +kernel
theorem dX7_basketAt_10 : decode cX7_basketAt 10 = .ok (.goto 17, 3) := by decide +kernel
theorem dX7_basketAt_13 : decode cX7_basketAt 13 = .ok (.aload_n 0, 1) := by decide +kernel
theorem dX7_basketAt_14 : decode cX7_basketAt 14 = .ok (.iload_n 1, 1) := by decide +kernel
theorem dX7_basketAt_15 : decode cX7_basketAt 15 = .ok (.iload_n 2, 1) := by decide +kernel
theorem dX7_basketAt_16 : decode cX7_basketAt 16 = .ok (.invokevirtual 138, 3) := by decide +kernel
theorem dX7_basketAt_19 : decode cX7_basketAt 19 = .ok (.ifCond .ge 7, 3) := by decide +kernel
theorem dX7_basketAt_22 : decode cX7_basketAt 22 = .ok (.iconst 2, 1) := by decide +kernel
theorem dX7_basketAt_23 : decode cX7_basketAt 23 = .ok (.goto 4, 3) := by decide +kernel
theorem dX7_basketAt_26 : decode cX7_basketAt 26 = .ok (.iconst 0, 1) := by decide +kernel
theorem dX7_basketAt_27 : decode cX7_basketAt 27 = .ok (.putfield 33, 3) := by decide +kernel
theorem dX7_basketAt_30 : decode cX7_basketAt 30 = .ok (.aload_n 0, 1) := by decide +kernel
theorem dX7_basketAt_31 : decode cX7_basketAt 31 = .ok (.getfield 33, 3) := by decide +kernel
theorem dX7_basketAt_34 : decode cX7_basketAt 34 = .ok (.ifCond .ne 12, 3) := by decide +kernel
theorem dX7_basketAt_37 : decode cX7_basketAt 37 = .ok (.aload_n 0, 1) := by decide +kernel
theorem dX7_basketAt_38 : decode cX7_basketAt 38 = .ok (.iload_n 1, 1) := by decide +kernel
theorem dX7_basketAt_39 : decode cX7_basketAt 39 = .ok (.iload_n 2, 1) := by decide +kernel
theorem dX7_basketAt_40 : decode cX7_basketAt 40 = .ok (.invokevirtual 138, 3) := by decide +kernel
theorem dX7_basketAt_43 : decode cX7_basketAt 43 = .ok (.goto 4, 3) := by decide +kernel
theorem dX7_basketAt_46 : decode cX7_basketAt 46 = .ok (.iconst 0, 1) := by decide +kernel
theorem dX7_basketAt_47 : decode cX7_basketAt 47 = .ok (.ireturn, 1) := by decide +kernel
theorem dX7_distance_0 : decode cX7_distance 0 = .ok (.aload_n 0, 1) := by decide +kernel
theorem dX7_distance_1 : decode cX7_distance 1 = .ok (.aload_n 0, 1) := by decide +kernel
theorem dX7_distance_2 : decode cX7_distance 2 = .ok (.iload_n 1, 1) := by decide +kernel
theorem dX7_distance_3 : decode cX7_distance 3 = .ok (.invokevirtual 128, 3) := by decide +kernel
theorem dX7_distance_6 : decode cX7_distance 6 = .ok (.ifCond .eq 15, 3) := by decide +kernel
theorem dX7_distance_9 : decode cX7_distance 9 = .ok (.aload_n 0, 1) := by decide +kernel
theorem dX7_distance_10 : decode cX7_distance 10 = .ok (.iload_n 2, 1) := by decide +kernel
theorem dX7_distance_11 : decode cX7_distance 11 = .ok (.invokevirtual 128, 3) := by decide +kernel
theorem dX7_distance_14 : decode cX7_distance 14 = .ok (.ifCond .eq 7, 3) := by decide +kernel
theorem dX7_distance_17 : decode cX7_distance 17 = .ok (.iconst 1, 1) := by decide +kernel
theorem dX7_distance_18 : decode cX7_distance 18 = .ok (.goto 4, 3) := by decide +kernel
theorem dX7_distance_21 : decode cX7_distance 21 = .ok (.iconst 0, 1) := by decide +kernel
theorem dX7_distance_22 : decode cX7_distance 22 = .ok (.invokevirtual 78, 3) := by decide +kernel
theorem dX7_distance_25 : decode cX7_distance 25 = .ok (.ifCond .eq 12, 3) := by decide +kernel
theorem dX7_distance_28 : decode cX7_distance 28 = .ok (.aload_n 0, 1) := by decide +kernel
theorem dX7_distance_29 : decode cX7_distance 29 = .ok (.iload_n 1, 1) := by decide +kernel
theorem dX7_distance_30 : decode cX7_distance 30 = .ok (.iload_n 2, 1) := by decide +kernel
theorem dX7_distance_31 : decode cX7_distance 31 = .ok (.invokevirtual 99, 3) := by decide +kernel
theorem dX7_distance_34 : decode cX7_distance 34 = .ok (.goto 4, 3) := by decide +kernel
theorem dX7_distance_37 : decode cX7_distance 37 = .ok (.iconst 0, 1) := by decide +kernel
theorem dX7_distance_38 : decode cX7_distance 38 = .ok (.ireturn, 1) := by decide +kernel
theorem dX7_nearestTo_0 : decode cX7_nearestTo 0 = .ok (.aload_n 0, 1) := by decide +kernel
theorem dX7_nearestTo_1 : decode cX7_nearestTo 1 = .ok (.aload_n 0, 1) := by decide +kernel
theorem dX7_nearestTo_2 : decode cX7_nearestTo 2 = .ok (.iload_n 1, 1) := by decide +kernel
theorem dX7_nearestTo_3 : decode cX7_nearestTo 3 = .ok (.invokevirtual 128, 3) := by decide +kernel
theorem dX7_nearestTo_6 : decode cX7_nearestTo 6 = .ok (.ifCond .ne 7, 3) := by decide +kernel
theorem dX7_nearestTo_9 : decode cX7_nearestTo 9 = .ok (.iconst 1, 1) := by decide +kernel
theorem dX7_nearestTo_10 : decode cX7_nearestTo 10 = .ok (.goto 18, 3) := by decide +kernel
theorem dX7_nearestTo_13 : decode cX7_nearestTo 13 = .ok (.aload_n 0, 1) := by decide +kernel
theorem dX7_nearestTo_14 : decode cX7_nearestTo 14 = .ok (.getfield 9, 3) := by decide +kernel
theorem dX7_nearestTo_17 : decode cX7_nearestTo 17 = .ok (.iconst 0, 1) := by decide +kernel
theorem dX7_nearestTo_18 : decode cX7_nearestTo 18 = .ok (.iaload, 1) := by decide +kernel
theorem dX7_nearestTo_19 : decode cX7_nearestTo 19 = .ok (.iconst 2, 1) := by decide +kernel
theorem dX7_nearestTo_20 : decode cX7_nearestTo 20 = .ok (.if_icmp .ge 7, 3) := by decide +kernel
theorem dX7_nearestTo_23 : decode cX7_nearestTo 23 = .ok (.iconst 2, 1) := by decide +kernel
theorem dX7_nearestTo_24 : decode cX7_nearestTo 24 = .ok (.goto 4, 3) := by decide +kernel
theorem dX7_nearestTo_27 : decode cX7_nearestTo 27 = .ok (.iconst 0, 1) := by decide +kernel
theorem dX7_nearestTo_28 : decode cX7_nearestTo 28 = .ok (.putfield 33, 3) := by decide +kernel
theorem dX7_nearestTo_31 : decode cX7_nearestTo 31 = .ok (.aload_n 0, 1) := by decide +kernel
theorem dX7_nearestTo_32 : decode cX7_nearestTo 32 = .ok (.getfield 33, 3) := by decide +kernel
theorem dX7_nearestTo_35 : decode cX7_nearestTo 35 = .ok (.ifCond .eq 5, 3) := by decide +kernel
theorem dX7_nearestTo_38 : decode cX7_nearestTo 38 = .ok (.iconst 0, 1) := by decide +kernel
theorem dX7_nearestTo_39 : decode cX7_nearestTo 39 = .ok (.ireturn, 1) := by decide +kernel
theorem dX7_nearestTo_40 : decode cX7_nearestTo 40 = .ok (.iload_n 1, 1) := by decide +kernel
theorem dX7_nearestTo_41 : decode cX7_nearestTo 41 = .ok (.ifCond .ne 7, 3) := by decide +kernel
theorem dX7_nearestTo_44 : decode cX7_nearestTo 44 = .ok (.iconst 1, 1) := by decide +kernel
theorem dX7_nearestTo_45 : decode cX7_nearestTo 45 = .ok (.goto 4, 3) := by decide +kernel
theorem dX7_nearestTo_48 : decode cX7_nearestTo 48 = .ok (.iconst 0, 1) := by decide +kernel
theorem dX7_nearestTo_49 : decode cX7_nearestTo 49 = .ok (.istore_n 2, 1) := by decide +kernel
theorem dX7_nearestTo_50 : decode cX7_nearestTo 50 = .ok (.iload_n 2, 1) := by decide +kernel
theorem dX7_nearestTo_51 : decode cX7_nearestTo 51 = .ok (.iconst 1, 1) := by decide +kernel
theorem dX7_nearestTo_52 : decode cX7_nearestTo 52 = .ok (.iadd, 1) := by decide +kernel
theorem dX7_nearestTo_53 : decode cX7_nearestTo 53 = .ok (.istore_n 3, 1) := by decide +kernel
theorem dX7_nearestTo_54 : decode cX7_nearestTo 54 = .ok (.iload_n 3, 1) := by decide +kernel
theorem dX7_nearestTo_55 : decode cX7_nearestTo 55 = .ok (.aload_n 0, 1) := by decide +kernel
theorem dX7_nearestTo_56 : decode cX7_nearestTo 56 = .ok (.getfield 9, 3) := by decide +kernel
theorem dX7_nearestTo_59 : decode cX7_nearestTo 59 = .ok (.iconst 0, 1) := by decide +kernel
theorem dX7_nearestTo_60 : decode cX7_nearestTo 60 = .ok (.iaload, 1) := by decide +kernel
theorem dX7_nearestTo_61 : decode cX7_nearestTo 61 = .ok (.if_icmp .ge 35, 3) := by decide +kernel
theorem dX7_nearestTo_64 : decode cX7_nearestTo 64 = .ok (.iload_n 3, 1) := by decide +kernel
theorem dX7_nearestTo_65 : decode cX7_nearestTo 65 = .ok (.iload_n 1, 1) := by decide +kernel
theorem dX7_nearestTo_66 : decode cX7_nearestTo 66 = .ok (.if_icmp .eq 22, 3) := by decide +kernel
theorem dX7_nearestTo_69 : decode cX7_nearestTo 69 = .ok (.aload_n 0, 1) := by decide +kernel
theorem dX7_nearestTo_70 : decode cX7_nearestTo 70 = .ok (.iload_n 1, 1) := by decide +kernel
theorem dX7_nearestTo_71 : decode cX7_nearestTo 71 = .ok (.iload_n 3, 1) := by decide +kernel
theorem dX7_nearestTo_72 : decode cX7_nearestTo 72 = .ok (.invokevirtual 99, 3) := by decide +kernel
theorem dX7_nearestTo_75 : decode cX7_nearestTo 75 = .ok (.aload_n 0, 1) := by decide +kernel
theorem dX7_nearestTo_76 : decode cX7_nearestTo 76 = .ok (.iload_n 1, 1) := by decide +kernel
theorem dX7_nearestTo_77 : decode cX7_nearestTo 77 = .ok (.iload_n 2, 1) := by decide +kernel
theorem dX7_nearestTo_78 : decode cX7_nearestTo 78 = .ok (.invokevirtual 99, 3) := by decide +kernel
theorem dX7_nearestTo_81 : decode cX7_nearestTo 81 = .ok (.if_icmp .ge 7, 3) := by decide +kernel
theorem dX7_nearestTo_84 : decode cX7_nearestTo 84 = .ok (.iload_n 3, 1) := by decide +kernel
theorem dX7_nearestTo_85 : decode cX7_nearestTo 85 = .ok (.goto 4, 3) := by decide +kernel
theorem dX7_nearestTo_88 : decode cX7_nearestTo 88 = .ok (.iload_n 2, 1) := by decide +kernel
theorem dX7_nearestTo_89 : decode cX7_nearestTo 89 = .ok (.istore_n 2, 1) := by decide +kernel
theorem dX7_nearestTo_90 : decode cX7_nearestTo 90 = .ok (.iinc 3 1, 3) := by decide +kernel
theorem dX7_nearestTo_93 : decode cX7_nearestTo 93 = .ok (.goto (-39), 3) := by decide +kernel
theorem dX7_nearestTo_96 : decode cX7_nearestTo 96 = .ok (.iload_n 2, 1) := by decide +kernel
theorem dX7_nearestTo_97 : decode cX7_nearestTo 97 = .ok (.ireturn, 1) := by decide +kernel
theorem dX7_isCloud_0 : decode cX7_isCloud 0 = .ok (.aload_n 0, 1) := by decide +kernel
theorem dX7_isCloud_1 : decode cX7_isCloud 1 = .ok (.iload_n 1, 1) := by decide +kernel
theorem dX7_isCloud_2 : decode cX7_isCloud 2 = .ok (.iload_n 2, 1) := by decide +kernel
theorem dX7_isCloud_3 : decode cX7_isCloud 3 = .ok (.invokestatic 62, 3) := by decide +kernel
theorem dX7_isCloud_6 : decode cX7_isCloud 6 = .ok (.invokevirtual 78, 3) := by decide +kernel
theorem dX7_isCloud_9 : decode cX7_isCloud 9 = .ok (.ifCond .eq 16, 3) := by decide +kernel
theorem dX7_isCloud_12 : decode cX7_isCloud 12 = .ok (.aload_n 0, 1) := by decide +kernel
theorem dX7_isCloud_13 : decode cX7_isCloud 13 = .ok (.iload_n 1, 1) := by decide +kernel
theorem dX7_isCloud_14 : decode cX7_isCloud 14 = .ok (.iload_n 2, 1) := by decide +kernel
theorem dX7_isCloud_15 : decode cX7_isCloud 15 = .ok (.invokevirtual 66, 3) := by decide +kernel
theorem dX7_isCloud_18 : decode cX7_isCloud 18 = .ok (.ifCond .lt 7, 3) := by decide +kernel
theorem dX7_isCloud_21 : decode cX7_isCloud 21 = .ok (.iconst 1, 1) := by decide +kernel
theorem dX7_isCloud_22 : decode cX7_isCloud 22 = .ok (.goto 4, 3) := by decide +kernel
theorem dX7_isCloud_25 : decode cX7_isCloud 25 = .ok (.iconst 0, 1) := by decide +kernel
theorem dX7_isCloud_26 : decode cX7_isCloud 26 = .ok (.ireturn, 1) := by decide +kernel
theorem dX7_cloudCount_0 : decode cX7_cloudCount 0 = .ok (.aload_n 0, 1) := by decide +kernel
theorem dX7_cloudCount_1 : decode cX7_cloudCount 1 = .ok (.iconst 1, 1) := by decide +kernel
theorem dX7_cloudCount_2 : decode cX7_cloudCount 2 = .ok (.invokevirtual 162, 3) := by decide +kernel
theorem dX7_cloudCount_5 : decode cX7_cloudCount 5 = .ok (.ireturn, 1) := by decide +kernel
theorem dX7_turnLength_0 : decode cX7_turnLength 0 = .ok (.aload_n 0, 1) := by decide +kernel
theorem dX7_turnLength_1 : decode cX7_turnLength 1 = .ok (.iconst 4, 1) := by decide +kernel
theorem dX7_turnLength_2 : decode cX7_turnLength 2 = .ok (.invokevirtual 162, 3) := by decide +kernel
theorem dX7_turnLength_5 : decode cX7_turnLength 5 = .ok (.ireturn, 1) := by decide +kernel
theorem dX7_leader_0 : decode cX7_leader 0 = .ok (.aload_n 0, 1) := by decide +kernel
theorem dX7_leader_1 : decode cX7_leader 1 = .ok (.aload_n 0, 1) := by decide +kernel
theorem dX7_leader_2 : decode cX7_leader 2 = .ok (.getfield 9, 3) := by decide +kernel
theorem dX7_leader_5 : decode cX7_leader 5 = .ok (.iconst 0, 1) := by decide +kernel
theorem dX7_leader_6 : decode cX7_leader 6 = .ok (.iaload, 1) := by decide +kernel
theorem dX7_leader_7 : decode cX7_leader 7 = .ok (.ifCond .le 7, 3) := by decide +kernel
theorem dX7_leader_10 : decode cX7_leader 10 = .ok (.iconst 1, 1) := by decide +kernel
theorem dX7_leader_11 : decode cX7_leader 11 = .ok (.goto 4, 3) := by decide +kernel
theorem dX7_leader_14 : decode cX7_leader 14 = .ok (.iconst 0, 1) := by decide +kernel
theorem dX7_leader_15 : decode cX7_leader 15 = .ok (.invokevirtual 78, 3) := by decide +kernel
theorem dX7_leader_18 : decode cX7_leader 18 = .ok (.ifCond .eq 12, 3) := by decide +kernel
theorem dX7_leader_21 : decode cX7_leader 21 = .ok (.aload_n 0, 1) := by decide +kernel
theorem dX7_leader_22 : decode cX7_leader 22 = .ok (.getfield 9, 3) := by decide +kernel
theorem dX7_leader_25 : decode cX7_leader 25 = .ok (.iconst 2, 1) := by decide +kernel
theorem dX7_leader_26 : decode cX7_leader 26 = .ok (.iaload, 1) := by decide +kernel
theorem dX7_leader_27 : decode cX7_leader 27 = .ok (.goto 4, 3) := by decide +kernel
theorem dX7_leader_30 : decode cX7_leader 30 = .ok (.iconst 0, 1) := by decide +kernel
theorem dX7_leader_31 : decode cX7_leader 31 = .ok (.ireturn, 1) := by decide +kernel
theorem dX7_leaderAfter_0 : decode cX7_leaderAfter 0 = .ok (.aload_n 0, 1) := by decide +kernel
theorem dX7_leaderAfter_1 : decode cX7_leaderAfter 1 = .ok (.iload_n 1, 1) := by decide +kernel
theorem dX7_leaderAfter_2 : decode cX7_leaderAfter 2 = .ok (.iconst 0, 1) := by decide +kernel
theorem dX7_leaderAfter_3 : decode cX7_leaderAfter 3 = .ok (.bipush 99, 2) := by decide +kernel
theorem dX7_leaderAfter_5 : decode cX7_leaderAfter 5 = .ok (.invokestatic 46, 3) := by decide +kernel
theorem dX7_leaderAfter_8 : decode cX7_leaderAfter 8 = .ok (.ifCond .ne 7, 3) := by decide +kernel
theorem dX7_leaderAfter_11 : decode cX7_leaderAfter 11 = .ok (.iconst 1, 1) := by decide +kernel
theorem dX7_leaderAfter_12 : decode cX7_leaderAfter 12 = .ok (.goto 17, 3) := by decide +kernel
theorem dX7_leaderAfter_15 : decode cX7_leaderAfter 15 = .ok (.aload_n 0, 1) := by decide +kernel
theorem dX7_leaderAfter_16 : decode cX7_leaderAfter 16 = .ok (.getfield 9, 3) := by decide +kernel
theorem dX7_leaderAfter_19 : decode cX7_leaderAfter 19 = .ok (.iconst 0, 1) := by decide +kernel
theorem dX7_leaderAfter_20 : decode cX7_leaderAfter 20 = .ok (.iaload, 1) := by decide +kernel
theorem dX7_leaderAfter_21 : decode cX7_leaderAfter 21 = .ok (.ifCond .ne 7, 3) := by decide +kernel
theorem dX7_leaderAfter_24 : decode cX7_leaderAfter 24 = .ok (.iconst 2, 1) := by decide +kernel
theorem dX7_leaderAfter_25 : decode cX7_leaderAfter 25 = .ok (.goto 4, 3) := by decide +kernel
theorem dX7_leaderAfter_28 : decode cX7_leaderAfter 28 = .ok (.iconst 0, 1) := by decide +kernel
theorem dX7_leaderAfter_29 : decode cX7_leaderAfter 29 = .ok (.putfield 33, 3) := by decide +kernel
theorem dX7_leaderAfter_32 : decode cX7_leaderAfter 32 = .ok (.aload_n 0, 1) := by decide +kernel
theorem dX7_leaderAfter_33 : decode cX7_leaderAfter 33 = .ok (.getfield 33, 3) := by decide +kernel
theorem dX7_leaderAfter_36 : decode cX7_leaderAfter 36 = .ok (.ifCond .ne 35, 3) := by decide +kernel
theorem dX7_leaderAfter_39 : decode cX7_leaderAfter 39 = .ok (.aload_n 0, 1) := by decide +kernel
theorem dX7_leaderAfter_40 : decode cX7_leaderAfter 40 = .ok (.getfield 9, 3) := by decide +kernel
theorem dX7_leaderAfter_43 : decode cX7_leaderAfter 43 = .ok (.iconst 2, 1) := by decide +kernel
theorem dX7_leaderAfter_44 : decode cX7_leaderAfter 44 = .ok (.iaload, 1) := by decide +kernel
theorem dX7_leaderAfter_45 : decode cX7_leaderAfter 45 = .ok (.aload_n 0, 1) := by decide +kernel
theorem dX7_leaderAfter_46 : decode cX7_leaderAfter 46 = .ok (.getfield 9, 3) := by decide +kernel
theorem dX7_leaderAfter_49 : decode cX7_leaderAfter 49 = .ok (.iconst 3, 1) := by decide +kernel
theorem dX7_leaderAfter_50 : decode cX7_leaderAfter 50 = .ok (.iaload, 1) := by decide +kernel
theorem dX7_leaderAfter_51 : decode cX7_leaderAfter 51 = .ok (.iload_n 1, 1) := by decide +kernel
theorem dX7_leaderAfter_52 : decode cX7_leaderAfter 52 = .ok (.iadd, 1) := by decide +kernel
theorem dX7_leaderAfter_53 : decode cX7_leaderAfter 53 = .ok (.aload_n 0, 1) := by decide +kernel
theorem dX7_leaderAfter_54 : decode cX7_leaderAfter 54 = .ok (.getfield 9, 3) := by decide +kernel
theorem dX7_leaderAfter_57 : decode cX7_leaderAfter 57 = .ok (.iconst 4, 1) := by decide +kernel
theorem dX7_leaderAfter_58 : decode cX7_leaderAfter 58 = .ok (.iaload, 1) := by decide +kernel
theorem dX7_leaderAfter_59 : decode cX7_leaderAfter 59 = .ok (.idiv, 1) := by decide +kernel
theorem dX7_leaderAfter_60 : decode cX7_leaderAfter 60 = .ok (.iadd, 1) := by decide +kernel
theorem dX7_leaderAfter_61 : decode cX7_leaderAfter 61 = .ok (.aload_n 0, 1) := by decide +kernel
theorem dX7_leaderAfter_62 : decode cX7_leaderAfter 62 = .ok (.getfield 9, 3) := by decide +kernel
theorem dX7_leaderAfter_65 : decode cX7_leaderAfter 65 = .ok (.iconst 0, 1) := by decide +kernel
theorem dX7_leaderAfter_66 : decode cX7_leaderAfter 66 = .ok (.iaload, 1) := by decide +kernel
theorem dX7_leaderAfter_67 : decode cX7_leaderAfter 67 = .ok (.irem, 1) := by decide +kernel
theorem dX7_leaderAfter_68 : decode cX7_leaderAfter 68 = .ok (.goto 4, 3) := by decide +kernel
theorem dX7_leaderAfter_71 : decode cX7_leaderAfter 71 = .ok (.iconst 0, 1) := by decide +kernel
theorem dX7_leaderAfter_72 : decode cX7_leaderAfter 72 = .ok (.ireturn, 1) := by decide +kernel
theorem dX7_leaderAfterByCounting_0 : decode cX7_leaderAfterByCounting 0 = .ok (.aload_n 0, 1) := by decide +kernel
theorem dX7_leaderAfterByCounting_1 : decode cX7_leaderAfterByCounting 1 = .ok (.iload_n 1, 1) := by decide +kernel
theorem dX7_leaderAfterByCounting_2 : decode cX7_leaderAfterByCounting 2 = .ok (.invokevirtual 168, 3) := by decide +kernel
theorem dX7_leaderAfterByCounting_5 : decode cX7_leaderAfterByCounting 5 = .ok (.ireturn, 1) := by decide +kernel
theorem dX7_targetX_0 : decode cX7_targetX 0 = .ok (.aload_n 0, 1) := by decide +kernel
theorem dX7_targetX_1 : decode cX7_targetX 1 = .ok (.aload_n 0, 1) := by decide +kernel
theorem dX7_targetX_2 : decode cX7_targetX 2 = .ok (.getfield 9, 3) := by decide +kernel
theorem dX7_targetX_5 : decode cX7_targetX 5 = .ok (.iconst 5, 1) := by decide +kernel
theorem dX7_targetX_6 : decode cX7_targetX 6 = .ok (.iaload, 1) := by decide +kernel
theorem dX7_targetX_7 : decode cX7_targetX 7 = .ok (.ifCond .le 7, 3) := by decide +kernel
theorem dX7_targetX_10 : decode cX7_targetX 10 = .ok (.iconst 1, 1) := by decide +kernel
theorem dX7_targetX_11 : decode cX7_targetX 11 = .ok (.goto 4, 3) := by decide +kernel
theorem dX7_targetX_14 : decode cX7_targetX 14 = .ok (.iconst 0, 1) := by decide +kernel
theorem dX7_targetX_15 : decode cX7_targetX 15 = .ok (.invokevirtual 78, 3) := by decide +kernel
theorem dX7_targetX_18 : decode cX7_targetX 18 = .ok (.ifCond .eq 17, 3) := by decide +kernel
theorem dX7_targetX_21 : decode cX7_targetX 21 = .ok (.aload_n 0, 1) := by decide +kernel
theorem dX7_targetX_22 : decode cX7_targetX 22 = .ok (.getfield 9, 3) := by decide +kernel
theorem dX7_targetX_25 : decode cX7_targetX 25 = .ok (.iconst 5, 1) := by decide +kernel
theorem dX7_targetX_26 : decode cX7_targetX 26 = .ok (.iaload, 1) := by decide +kernel
theorem dX7_targetX_27 : decode cX7_targetX 27 = .ok (.iconst 1, 1) := by decide +kernel
theorem dX7_targetX_28 : decode cX7_targetX 28 = .ok (.isub, 1) := by decide +kernel
theorem dX7_targetX_29 : decode cX7_targetX 29 = .ok (.bipush 12, 2) := by decide +kernel
theorem dX7_targetX_31 : decode cX7_targetX 31 = .ok (.irem, 1) := by decide +kernel
theorem dX7_targetX_32 : decode cX7_targetX 32 = .ok (.goto 4, 3) := by decide +kernel
theorem dX7_targetX_35 : decode cX7_targetX 35 = .ok (.iconst 0, 1) := by decide +kernel
theorem dX7_targetX_36 : decode cX7_targetX 36 = .ok (.ireturn, 1) := by decide +kernel
theorem dX7_targetY_0 : decode cX7_targetY 0 = .ok (.aload_n 0, 1) := by decide +kernel
theorem dX7_targetY_1 : decode cX7_targetY 1 = .ok (.aload_n 0, 1) := by decide +kernel
theorem dX7_targetY_2 : decode cX7_targetY 2 = .ok (.getfield 9, 3) := by decide +kernel
theorem dX7_targetY_5 : decode cX7_targetY 5 = .ok (.iconst 5, 1) := by decide +kernel
theorem dX7_targetY_6 : decode cX7_targetY 6 = .ok (.iaload, 1) := by decide +kernel
theorem dX7_targetY_7 : decode cX7_targetY 7 = .ok (.ifCond .le 7, 3) := by decide +kernel
theorem dX7_targetY_10 : decode cX7_targetY 10 = .ok (.iconst 1, 1) := by decide +kernel
theorem dX7_targetY_11 : decode cX7_targetY 11 = .ok (.goto 4, 3) := by decide +kernel
theorem dX7_targetY_14 : decode cX7_targetY 14 = .ok (.iconst 0, 1) := by decide +kernel
theorem dX7_targetY_15 : decode cX7_targetY 15 = .ok (.invokevirtual 78, 3) := by decide +kernel
theorem dX7_targetY_18 : decode cX7_targetY 18 = .ok (.ifCond .eq 17, 3) := by decide +kernel
theorem dX7_targetY_21 : decode cX7_targetY 21 = .ok (.aload_n 0, 1) := by decide +kernel
theorem dX7_targetY_22 : decode cX7_targetY 22 = .ok (.getfield 9, 3) := by decide +kernel
theorem dX7_targetY_25 : decode cX7_targetY 25 = .ok (.iconst 5, 1) := by decide +kernel
theorem dX7_targetY_26 : decode cX7_targetY 26 = .ok (.iaload, 1) := by decide +kernel
theorem dX7_targetY_27 : decode cX7_targetY 27 = .ok (.iconst 1, 1) := by decide +kernel
theorem dX7_targetY_28 : decode cX7_targetY 28 = .ok (.isub, 1) := by decide +kernel
theorem dX7_targetY_29 : decode cX7_targetY 29 = .ok (.bipush 12, 2) := by decide +kernel
theorem dX7_targetY_31 : decode cX7_targetY 31 = .ok (.idiv, 1) := by decide +kernel
theorem dX7_targetY_32 : decode cX7_targetY 32 = .ok (.goto 4, 3) := by decide +kernel
theorem dX7_targetY_35 : decode cX7_targetY 35 = .ok (.iconst 0, 1) := by decide +kernel
theorem dX7_targetY_36 : decode cX7_targetY 36 = .ok (.ireturn, 1) := by decide +kernel
theorem dX7_isThere_0 : decode cX7_isThere 0 = .ok (.aload_n 0, 1) := by decide +kernel
theorem dX7_isThere_1 : decode cX7_isThere 1 = .ok (.getfield 9, 3) := by decide +kernel
theorem dX7_isThere_4 : decode cX7_isThere 4 = .ok (.iconst 0, 1) := by decide +kernel
theorem dX7_isThere_5 : decode cX7_isThere 5 = .ok (.iaload, 1) := by decide +kernel
theorem dX7_isThere_6 : decode cX7_isThere 6 = .ok (.ifCond .le 42, 3) := by decide +kernel
theorem dX7_isThere_9 : decode cX7_isThere 9 = .ok (.aload_n 0, 1) := by decide +kernel
theorem dX7_isThere_10 : decode cX7_isThere 10 = .ok (.aload_n 0, 1) := by decide +kernel
theorem dX7_isThere_11 : decode cX7_isThere 11 = .ok (.getfield 9, 3) := by decide +kernel
theorem dX7_isThere_14 : decode cX7_isThere 14 = .ok (.iconst 2, 1) := by decide +kernel
theorem dX7_isThere_15 : decode cX7_isThere 15 = .ok (.iaload, 1) := by decide +kernel
theorem dX7_isThere_16 : decode cX7_isThere 16 = .ok (.aload_n 0, 1) := by decide +kernel
theorem dX7_isThere_17 : decode cX7_isThere 17 = .ok (.getfield 9, 3) := by decide +kernel
theorem dX7_isThere_20 : decode cX7_isThere 20 = .ok (.iconst 5, 1) := by decide +kernel
theorem dX7_isThere_21 : decode cX7_isThere 21 = .ok (.iaload, 1) := by decide +kernel
theorem dX7_isThere_22 : decode cX7_isThere 22 = .ok (.iconst 1, 1) := by decide +kernel
theorem dX7_isThere_23 : decode cX7_isThere 23 = .ok (.isub, 1) := by decide +kernel
theorem dX7_isThere_24 : decode cX7_isThere 24 = .ok (.bipush 12, 2) := by decide +kernel
theorem dX7_isThere_26 : decode cX7_isThere 26 = .ok (.irem, 1) := by decide +kernel
theorem dX7_isThere_27 : decode cX7_isThere 27 = .ok (.aload_n 0, 1) := by decide +kernel
theorem dX7_isThere_28 : decode cX7_isThere 28 = .ok (.getfield 9, 3) := by decide +kernel
theorem dX7_isThere_31 : decode cX7_isThere 31 = .ok (.iconst 5, 1) := by decide +kernel
theorem dX7_isThere_32 : decode cX7_isThere 32 = .ok (.iaload, 1) := by decide +kernel
theorem dX7_isThere_33 : decode cX7_isThere 33 = .ok (.iconst 1, 1) := by decide +kernel
theorem dX7_isThere_34 : decode cX7_isThere 34 = .ok (.isub, 1) := by decide +kernel
theorem dX7_isThere_35 : decode cX7_isThere 35 = .ok (.bipush 12, 2) := by decide +kernel
theorem dX7_isThere_37 : decode cX7_isThere 37 = .ok (.idiv, 1) := by decide +kernel
theorem dX7_isThere_38 : decode cX7_isThere 38 = .ok (.invokevirtual 58, 3) := by decide +kernel
theorem dX7_isThere_41 : decode cX7_isThere 41 = .ok (.ifCond .ne 7, 3) := by decide +kernel
theorem dX7_isThere_44 : decode cX7_isThere 44 = .ok (.iconst 1, 1) := by decide +kernel
theorem dX7_isThere_45 : decode cX7_isThere 45 = .ok (.goto 4, 3) := by decide +kernel
theorem dX7_isThere_48 : decode cX7_isThere 48 = .ok (.iconst 0, 1) := by decide +kernel
theorem dX7_isThere_49 : decode cX7_isThere 49 = .ok (.ireturn, 1) := by decide +kernel
theorem dX7_stepsToTarget_0 : decode cX7_stepsToTarget 0 = .ok (.aload_n 0, 1) := by decide +kernel
theorem dX7_stepsToTarget_1 : decode cX7_stepsToTarget 1 = .ok (.aload_n 0, 1) := by decide +kernel
theorem dX7_stepsToTarget_2 : decode cX7_stepsToTarget 2 = .ok (.getfield 9, 3) := by decide +kernel
theorem dX7_stepsToTarget_5 : decode cX7_stepsToTarget 5 = .ok (.iconst 5, 1) := by decide +kernel
theorem dX7_stepsToTarget_6 : decode cX7_stepsToTarget 6 = .ok (.iaload, 1) := by decide +kernel
theorem dX7_stepsToTarget_7 : decode cX7_stepsToTarget 7 = .ok (.ifCond .le 7, 3) := by decide +kernel
theorem dX7_stepsToTarget_10 : decode cX7_stepsToTarget 10 = .ok (.iconst 1, 1) := by decide +kernel
theorem dX7_stepsToTarget_11 : decode cX7_stepsToTarget 11 = .ok (.goto 4, 3) := by decide +kernel
theorem dX7_stepsToTarget_14 : decode cX7_stepsToTarget 14 = .ok (.iconst 0, 1) := by decide +kernel
theorem dX7_stepsToTarget_15 : decode cX7_stepsToTarget 15 = .ok (.invokevirtual 78, 3) := by decide +kernel
theorem dX7_stepsToTarget_18 : decode cX7_stepsToTarget 18 = .ok (.ifCond .ne 5, 3) := by decide +kernel
theorem dX7_stepsToTarget_21 : decode cX7_stepsToTarget 21 = .ok (.iconst 0, 1) := by decide +kernel
theorem dX7_stepsToTarget_22 : decode cX7_stepsToTarget 22 = .ok (.ireturn, 1) := by decide +kernel
theorem dX7_stepsToTarget_23 : decode cX7_stepsToTarget 23 = .ok (.aload_n 0, 1) := by decide +kernel
theorem dX7_stepsToTarget_24 : decode cX7_stepsToTarget 24 = .ok (.invokevirtual 171, 3) := by decide +kernel
theorem dX7_stepsToTarget_27 : decode cX7_stepsToTarget 27 = .ok (.ifCond .eq 7, 3) := by decide +kernel
theorem dX7_stepsToTarget_30 : decode cX7_stepsToTarget 30 = .ok (.iconst 0, 1) := by decide +kernel
theorem dX7_stepsToTarget_31 : decode cX7_stepsToTarget 31 = .ok (.goto 4, 3) := by decide +kernel
theorem dX7_stepsToTarget_34 : decode cX7_stepsToTarget 34 = .ok (.iconst (-1), 1) := by decide +kernel
theorem dX7_stepsToTarget_35 : decode cX7_stepsToTarget 35 = .ok (.istore_n 1, 1) := by decide +kernel
theorem dX7_stepsToTarget_36 : decode cX7_stepsToTarget 36 = .ok (.aload_n 0, 1) := by decide +kernel
theorem dX7_stepsToTarget_37 : decode cX7_stepsToTarget 37 = .ok (.iconst 0, 1) := by decide +kernel
theorem dX7_stepsToTarget_38 : decode cX7_stepsToTarget 38 = .ok (.bipush 11, 2) := by decide +kernel
theorem dX7_stepsToTarget_40 : decode cX7_stepsToTarget 40 = .ok (.invokevirtual 36, 3) := by decide +kernel
theorem dX7_stepsToTarget_43 : decode cX7_stepsToTarget 43 = .ok (.iconst 1, 1) := by decide +kernel
theorem dX7_stepsToTarget_44 : decode cX7_stepsToTarget 44 = .ok (.istore_n 2, 1) := by decide +kernel
theorem dX7_stepsToTarget_45 : decode cX7_stepsToTarget 45 = .ok (.iload_n 1, 1) := by decide +kernel
theorem dX7_stepsToTarget_46 : decode cX7_stepsToTarget 46 = .ok (.ifCond .ge 33, 3) := by decide +kernel
theorem dX7_stepsToTarget_49 : decode cX7_stepsToTarget 49 = .ok (.iload_n 2, 1) := by decide +kernel
theorem dX7_stepsToTarget_50 : decode cX7_stepsToTarget 50 = .ok (.bipush 60, 2) := by decide +kernel
theorem dX7_stepsToTarget_52 : decode cX7_stepsToTarget 52 = .ok (.if_icmp .gt 27, 3) := by decide +kernel
theorem dX7_stepsToTarget_55 : decode cX7_stepsToTarget 55 = .ok (.aload_n 0, 1) := by decide +kernel
theorem dX7_stepsToTarget_56 : decode cX7_stepsToTarget 56 = .ok (.invokevirtual 156, 3) := by decide +kernel
theorem dX7_stepsToTarget_59 : decode cX7_stepsToTarget 59 = .ok (.istore_n 3, 1) := by decide +kernel
theorem dX7_stepsToTarget_60 : decode cX7_stepsToTarget 60 = .ok (.aload_n 0, 1) := by decide +kernel
theorem dX7_stepsToTarget_61 : decode cX7_stepsToTarget 61 = .ok (.invokevirtual 171, 3) := by decide +kernel
theorem dX7_stepsToTarget_64 : decode cX7_stepsToTarget 64 = .ok (.ifCond .eq 7, 3) := by decide +kernel
theorem dX7_stepsToTarget_67 : decode cX7_stepsToTarget 67 = .ok (.iload_n 2, 1) := by decide +kernel
theorem dX7_stepsToTarget_68 : decode cX7_stepsToTarget 68 = .ok (.goto 4, 3) := by decide +kernel
theorem dX7_stepsToTarget_71 : decode cX7_stepsToTarget 71 = .ok (.iconst (-1), 1) := by decide +kernel
theorem dX7_stepsToTarget_72 : decode cX7_stepsToTarget 72 = .ok (.istore_n 1, 1) := by decide +kernel
theorem dX7_stepsToTarget_73 : decode cX7_stepsToTarget 73 = .ok (.iinc 2 1, 3) := by decide +kernel
theorem dX7_stepsToTarget_76 : decode cX7_stepsToTarget 76 = .ok (.goto (-31), 3) := by decide +kernel
theorem dX7_stepsToTarget_79 : decode cX7_stepsToTarget 79 = .ok (.aload_n 0, 1) := by decide +kernel
theorem dX7_stepsToTarget_80 : decode cX7_stepsToTarget 80 = .ok (.bipush 11, 2) := by decide +kernel
theorem dX7_stepsToTarget_82 : decode cX7_stepsToTarget 82 = .ok (.iconst 0, 1) := by decide +kernel
theorem dX7_stepsToTarget_83 : decode cX7_stepsToTarget 83 = .ok (.invokevirtual 36, 3) := by decide +kernel
theorem dX7_stepsToTarget_86 : decode cX7_stepsToTarget 86 = .ok (.aload_n 0, 1) := by decide +kernel
theorem dX7_stepsToTarget_87 : decode cX7_stepsToTarget 87 = .ok (.iload_n 1, 1) := by decide +kernel
theorem dX7_stepsToTarget_88 : decode cX7_stepsToTarget 88 = .ok (.ifCond .lt 7, 3) := by decide +kernel
theorem dX7_stepsToTarget_91 : decode cX7_stepsToTarget 91 = .ok (.iconst 1, 1) := by decide +kernel
theorem dX7_stepsToTarget_92 : decode cX7_stepsToTarget 92 = .ok (.goto 4, 3) := by decide +kernel
theorem dX7_stepsToTarget_95 : decode cX7_stepsToTarget 95 = .ok (.iconst 0, 1) := by decide +kernel
theorem dX7_stepsToTarget_96 : decode cX7_stepsToTarget 96 = .ok (.invokevirtual 78, 3) := by decide +kernel
theorem dX7_stepsToTarget_99 : decode cX7_stepsToTarget 99 = .ok (.ifCond .eq 7, 3) := by decide +kernel
theorem dX7_stepsToTarget_102 : decode cX7_stepsToTarget 102 = .ok (.iload_n 1, 1) := by decide +kernel
theorem dX7_stepsToTarget_103 : decode cX7_stepsToTarget 103 = .ok (.goto 4, 3) := by decide +kernel
theorem dX7_stepsToTarget_106 : decode cX7_stepsToTarget 106 = .ok (.iconst 0, 1) := by decide +kernel
theorem dX7_stepsToTarget_107 : decode cX7_stepsToTarget 107 = .ok (.ireturn, 1) := by decide +kernel
theorem dX7_keep_0 : decode cX7_keep 0 = .ok (.aload_n 0, 1) := by decide +kernel
theorem dX7_keep_1 : decode cX7_keep 1 = .ok (.bipush 6, 2) := by decide +kernel
theorem dX7_keep_3 : decode cX7_keep 3 = .ok (.invokevirtual 162, 3) := by decide +kernel
theorem dX7_keep_6 : decode cX7_keep 6 = .ok (.ireturn, 1) := by decide +kernel
theorem dX7_stepCount_0 : decode cX7_stepCount 0 = .ok (.aload_n 0, 1) := by decide +kernel
theorem dX7_stepCount_1 : decode cX7_stepCount 1 = .ok (.bipush 7, 2) := by decide +kernel
theorem dX7_stepCount_3 : decode cX7_stepCount 3 = .ok (.invokevirtual 162, 3) := by decide +kernel
theorem dX7_stepCount_6 : decode cX7_stepCount 6 = .ok (.ireturn, 1) := by decide +kernel
theorem dX7_movesOf_0 : decode cX7_movesOf 0 = .ok (.aload_n 0, 1) := by decide +kernel
theorem dX7_movesOf_1 : decode cX7_movesOf 1 = .ok (.iload_n 1, 1) := by decide +kernel
theorem dX7_movesOf_2 : decode cX7_movesOf 2 = .ok (.iconst 3, 1) := by decide +kernel
theorem dX7_movesOf_3 : decode cX7_movesOf 3 = .ok (.invokevirtual 165, 3) := by decide +kernel
theorem dX7_movesOf_6 : decode cX7_movesOf 6 = .ok (.ireturn, 1) := by decide +kernel
theorem dX7_moveTotal_0 : decode cX7_moveTotal 0 = .ok (.aload_n 0, 1) := by decide +kernel
theorem dX7_moveTotal_1 : decode cX7_moveTotal 1 = .ok (.iconst 0, 1) := by decide +kernel
theorem dX7_moveTotal_2 : decode cX7_moveTotal 2 = .ok (.putfield 33, 3) := by decide +kernel
theorem dX7_moveTotal_5 : decode cX7_moveTotal 5 = .ok (.iconst 0, 1) := by decide +kernel
theorem dX7_moveTotal_6 : decode cX7_moveTotal 6 = .ok (.istore_n 1, 1) := by decide +kernel
theorem dX7_moveTotal_7 : decode cX7_moveTotal 7 = .ok (.iconst 0, 1) := by decide +kernel
theorem dX7_moveTotal_8 : decode cX7_moveTotal 8 = .ok (.istore_n 2, 1) := by decide +kernel
theorem dX7_moveTotal_9 : decode cX7_moveTotal 9 = .ok (.iload_n 2, 1) := by decide +kernel
theorem dX7_moveTotal_10 : decode cX7_moveTotal 10 = .ok (.aload_n 0, 1) := by decide +kernel
theorem dX7_moveTotal_11 : decode cX7_moveTotal 11 = .ok (.getfield 9, 3) := by decide +kernel
theorem dX7_moveTotal_14 : decode cX7_moveTotal 14 = .ok (.iconst 0, 1) := by decide +kernel
theorem dX7_moveTotal_15 : decode cX7_moveTotal 15 = .ok (.iaload, 1) := by decide +kernel
theorem dX7_moveTotal_16 : decode cX7_moveTotal 16 = .ok (.if_icmp .ge 18, 3) := by decide +kernel
theorem dX7_moveTotal_19 : decode cX7_moveTotal 19 = .ok (.iload_n 1, 1) := by decide +kernel
theorem dX7_moveTotal_20 : decode cX7_moveTotal 20 = .ok (.aload_n 0, 1) := by decide +kernel
theorem dX7_moveTotal_21 : decode cX7_moveTotal 21 = .ok (.iload_n 2, 1) := by decide +kernel
theorem dX7_moveTotal_22 : decode cX7_moveTotal 22 = .ok (.iconst 3, 1) := by decide +kernel
theorem dX7_moveTotal_23 : decode cX7_moveTotal 23 = .ok (.invokevirtual 50, 3) := by decide +kernel
theorem dX7_moveTotal_26 : decode cX7_moveTotal 26 = .ok (.iadd, 1) := by decide +kernel
theorem dX7_moveTotal_27 : decode cX7_moveTotal 27 = .ok (.istore_n 1, 1) := by decide +kernel
theorem dX7_moveTotal_28 : decode cX7_moveTotal 28 = .ok (.iinc 2 1, 3) := by decide +kernel
theorem dX7_moveTotal_31 : decode cX7_moveTotal 31 = .ok (.goto (-22), 3) := by decide +kernel
theorem dX7_moveTotal_34 : decode cX7_moveTotal 34 = .ok (.iload_n 1, 1) := by decide +kernel
theorem dX7_moveTotal_35 : decode cX7_moveTotal 35 = .ok (.i2l, 1) := by decide +kernel
theorem dX7_moveTotal_36 : decode cX7_moveTotal 36 = .ok (.lreturn, 1) := by decide +kernel
theorem dX7_waitTotal_0 : decode cX7_waitTotal 0 = .ok (.aload_n 0, 1) := by decide +kernel
theorem dX7_waitTotal_1 : decode cX7_waitTotal 1 = .ok (.bipush 8, 2) := by decide +kernel
theorem dX7_waitTotal_3 : decode cX7_waitTotal 3 = .ok (.invokevirtual 162, 3) := by decide +kernel
theorem dX7_waitTotal_6 : decode cX7_waitTotal 6 = .ok (.ireturn, 1) := by decide +kernel
theorem dX7_areLinked_0 : decode cX7_areLinked 0 = .ok (.iload_n 1, 1) := by decide +kernel
theorem dX7_areLinked_1 : decode cX7_areLinked 1 = .ok (.iload_n 2, 1) := by decide +kernel
theorem dX7_areLinked_2 : decode cX7_areLinked 2 = .ok (.if_icmp .eq 23, 3) := by decide +kernel
theorem dX7_areLinked_5 : decode cX7_areLinked 5 = .ok (.aload_n 0, 1) := by decide +kernel
theorem dX7_areLinked_6 : decode cX7_areLinked 6 = .ok (.iload_n 1, 1) := by decide +kernel
theorem dX7_areLinked_7 : decode cX7_areLinked 7 = .ok (.iload_n 2, 1) := by decide +kernel
theorem dX7_areLinked_8 : decode cX7_areLinked 8 = .ok (.invokevirtual 99, 3) := by decide +kernel
theorem dX7_areLinked_11 : decode cX7_areLinked 11 = .ok (.aload_n 0, 1) := by decide +kernel
theorem dX7_areLinked_12 : decode cX7_areLinked 12 = .ok (.getfield 9, 3) := by decide +kernel
theorem dX7_areLinked_15 : decode cX7_areLinked 15 = .ok (.bipush 6, 2) := by decide +kernel
theorem dX7_areLinked_17 : decode cX7_areLinked 17 = .ok (.iaload, 1) := by decide +kernel
theorem dX7_areLinked_18 : decode cX7_areLinked 18 = .ok (.if_icmp .gt 7, 3) := by decide +kernel
theorem dX7_areLinked_21 : decode cX7_areLinked 21 = .ok (.iconst 1, 1) := by decide +kernel
theorem dX7_areLinked_22 : decode cX7_areLinked 22 = .ok (.goto 4, 3) := by decide +kernel
theorem dX7_areLinked_25 : decode cX7_areLinked 25 = .ok (.iconst 0, 1) := by decide +kernel
theorem dX7_areLinked_26 : decode cX7_areLinked 26 = .ok (.ireturn, 1) := by decide +kernel
theorem dX7_formation_0 : decode cX7_formation 0 = .ok (.iconst 1, 1) := by decide +kernel
theorem dX7_formation_1 : decode cX7_formation 1 = .ok (.iload_n 1, 1) := by decide +kernel
theorem dX7_formation_2 : decode cX7_formation 2 = .ok (.ishl, 1) := by decide +kernel
theorem dX7_formation_3 : decode cX7_formation 3 = .ok (.istore_n 2, 1) := by decide +kernel
theorem dX7_formation_4 : decode cX7_formation 4 = .ok (.iconst 0, 1) := by decide +kernel
theorem dX7_formation_5 : decode cX7_formation 5 = .ok (.istore_n 3, 1) := by decide +kernel
theorem dX7_formation_6 : decode cX7_formation 6 = .ok (.iload_n 2, 1) := by decide +kernel
theorem dX7_formation_7 : decode cX7_formation 7 = .ok (.iload_n 3, 1) := by decide +kernel
theorem dX7_formation_8 : decode cX7_formation 8 = .ok (.if_icmp .eq 80, 3) := by decide +kernel
theorem dX7_formation_11 : decode cX7_formation 11 = .ok (.iload_n 2, 1) := by decide +kernel
theorem dX7_formation_12 : decode cX7_formation 12 = .ok (.istore_n 3, 1) := by decide +kernel
theorem dX7_formation_13 : decode cX7_formation 13 = .ok (.iconst 0, 1) := by decide +kernel
theorem dX7_formation_14 : decode cX7_formation 14 = .ok (.istore 4, 2) := by decide +kernel
theorem dX7_formation_16 : decode cX7_formation 16 = .ok (.iload 4, 2) := by decide +kernel
theorem dX7_formation_18 : decode cX7_formation 18 = .ok (.aload_n 0, 1) := by decide +kernel
theorem dX7_formation_19 : decode cX7_formation 19 = .ok (.getfield 9, 3) := by decide +kernel
theorem dX7_formation_22 : decode cX7_formation 22 = .ok (.iconst 0, 1) := by decide +kernel
theorem dX7_formation_23 : decode cX7_formation 23 = .ok (.iaload, 1) := by decide +kernel
theorem dX7_formation_24 : decode cX7_formation 24 = .ok (.if_icmp .ge 61, 3) := by decide +kernel
theorem dX7_formation_27 : decode cX7_formation 27 = .ok (.iconst 0, 1) := by decide +kernel
theorem dX7_formation_28 : decode cX7_formation 28 = .ok (.istore 5, 2) := by decide +kernel
theorem dX7_formation_30 : decode cX7_formation 30 = .ok (.iload 5, 2) := by decide +kernel
theorem dX7_formation_32 : decode cX7_formation 32 = .ok (.aload_n 0, 1) := by decide +kernel
theorem dX7_formation_33 : decode cX7_formation 33 = .ok (.getfield 9, 3) := by decide +kernel
theorem dX7_formation_36 : decode cX7_formation 36 = .ok (.iconst 0, 1) := by decide +kernel
theorem dX7_formation_37 : decode cX7_formation 37 = .ok (.iaload, 1) := by decide +kernel
theorem dX7_formation_38 : decode cX7_formation 38 = .ok (.if_icmp .ge 41, 3) := by decide +kernel
theorem dX7_formation_41 : decode cX7_formation 41 = .ok (.iload_n 2, 1) := by decide +kernel
theorem dX7_formation_42 : decode cX7_formation 42 = .ok (.iload_n 3, 1) := by decide +kernel
theorem dX7_formation_43 : decode cX7_formation 43 = .ok (.iload 4, 2) := by decide +kernel
theorem dX7_formation_45 : decode cX7_formation 45 = .ok (.ishr, 1) := by decide +kernel
theorem dX7_formation_46 : decode cX7_formation 46 = .ok (.iconst 1, 1) := by decide +kernel
theorem dX7_formation_47 : decode cX7_formation 47 = .ok (.iand, 1) := by decide +kernel
theorem dX7_formation_48 : decode cX7_formation 48 = .ok (.iconst 1, 1) := by decide +kernel
theorem dX7_formation_49 : decode cX7_formation 49 = .ok (.if_icmp .ne 21, 3) := by decide +kernel
theorem dX7_formation_52 : decode cX7_formation 52 = .ok (.aload_n 0, 1) := by decide +kernel
theorem dX7_formation_53 : decode cX7_formation 53 = .ok (.iload 4, 2) := by decide +kernel
theorem dX7_formation_55 : decode cX7_formation 55 = .ok (.iload 5, 2) := by decide +kernel
theorem dX7_formation_57 : decode cX7_formation 57 = .ok (.invokevirtual 175, 3) := by decide +kernel
theorem dX7_formation_60 : decode cX7_formation 60 = .ok (.ifCond .eq 10, 3) := by decide +kernel
theorem dX7_formation_63 : decode cX7_formation 63 = .ok (.iconst 1, 1) := by decide +kernel
theorem dX7_formation_64 : decode cX7_formation 64 = .ok (.iload 5, 2) := by decide +kernel
theorem dX7_formation_66 : decode cX7_formation 66 = .ok (.ishl, 1) := by decide +kernel
theorem dX7_formation_67 : decode cX7_formation 67 = .ok (.goto 4, 3) := by decide +kernel
theorem dX7_formation_70 : decode cX7_formation 70 = .ok (.iconst 0, 1) := by decide +kernel
theorem dX7_formation_71 : decode cX7_formation 71 = .ok (.ior, 1) := by decide +kernel
theorem dX7_formation_72 : decode cX7_formation 72 = .ok (.istore_n 2, 1) := by decide +kernel
theorem dX7_formation_73 : decode cX7_formation 73 = .ok (.iinc 5 1, 3) := by decide +kernel
theorem dX7_formation_76 : decode cX7_formation 76 = .ok (.goto (-46), 3) := by decide +kernel
theorem dX7_formation_79 : decode cX7_formation 79 = .ok (.iinc 4 1, 3) := by decide +kernel
theorem dX7_formation_82 : decode cX7_formation 82 = .ok (.goto (-66), 3) := by decide +kernel
theorem dX7_formation_85 : decode cX7_formation 85 = .ok (.goto (-79), 3) := by decide +kernel
theorem dX7_formation_88 : decode cX7_formation 88 = .ok (.iload_n 2, 1) := by decide +kernel
theorem dX7_formation_89 : decode cX7_formation 89 = .ok (.ireturn, 1) := by decide +kernel
theorem dX7_lowest_0 : decode cX7_lowest 0 = .ok (.iconst 0, 1) := by decide +kernel
theorem dX7_lowest_1 : decode cX7_lowest 1 = .ok (.istore_n 1, 1) := by decide +kernel
theorem dX7_lowest_2 : decode cX7_lowest 2 = .ok (.iload_n 0, 1) := by decide +kernel
theorem dX7_lowest_3 : decode cX7_lowest 3 = .ok (.iload_n 1, 1) := by decide +kernel
theorem dX7_lowest_4 : decode cX7_lowest 4 = .ok (.ishr, 1) := by decide +kernel
theorem dX7_lowest_5 : decode cX7_lowest 5 = .ok (.iconst 1, 1) := by decide +kernel
theorem dX7_lowest_6 : decode cX7_lowest 6 = .ok (.iand, 1) := by decide +kernel
theorem dX7_lowest_7 : decode cX7_lowest 7 = .ok (.ifCond .ne 9, 3) := by decide +kernel
theorem dX7_lowest_10 : decode cX7_lowest 10 = .ok (.iinc 1 1, 3) := by decide +kernel
theorem dX7_lowest_13 : decode cX7_lowest 13 = .ok (.goto (-11), 3) := by decide +kernel
theorem dX7_lowest_16 : decode cX7_lowest 16 = .ok (.iload_n 1, 1) := by decide +kernel
theorem dX7_lowest_17 : decode cX7_lowest 17 = .ok (.ireturn, 1) := by decide +kernel
theorem dX7_formationCount_0 : decode cX7_formationCount 0 = .ok (.aload_n 0, 1) := by decide +kernel
theorem dX7_formationCount_1 : decode cX7_formationCount 1 = .ok (.iconst 0, 1) := by decide +kernel
theorem dX7_formationCount_2 : decode cX7_formationCount 2 = .ok (.putfield 33, 3) := by decide +kernel
theorem dX7_formationCount_5 : decode cX7_formationCount 5 = .ok (.iconst 0, 1) := by decide +kernel
theorem dX7_formationCount_6 : decode cX7_formationCount 6 = .ok (.istore_n 1, 1) := by decide +kernel
theorem dX7_formationCount_7 : decode cX7_formationCount 7 = .ok (.iconst 0, 1) := by decide +kernel
theorem dX7_formationCount_8 : decode cX7_formationCount 8 = .ok (.istore_n 2, 1) := by decide +kernel
theorem dX7_formationCount_9 : decode cX7_formationCount 9 = .ok (.iload_n 2, 1) := by decide +kernel
theorem dX7_formationCount_10 : decode cX7_formationCount 10 = .ok (.aload_n 0, 1) := by decide +kernel
theorem dX7_formationCount_11 : decode cX7_formationCount 11 = .ok (.getfield 9, 3) := by decide +kernel
theorem dX7_formationCount_14 : decode cX7_formationCount 14 = .ok (.iconst 0, 1) := by decide +kernel
theorem dX7_formationCount_15 : decode cX7_formationCount 15 = .ok (.iaload, 1) := by decide +kernel
theorem dX7_formationCount_16 : decode cX7_formationCount 16 = .ok (.if_icmp .ge 29, 3) := by decide +kernel
theorem dX7_formationCount_19 : decode cX7_formationCount 19 = .ok (.iload_n 1, 1) := by decide +kernel
theorem dX7_formationCount_20 : decode cX7_formationCount 20 = .ok (.aload_n 0, 1) := by decide +kernel
theorem dX7_formationCount_21 : decode cX7_formationCount 21 = .ok (.iload_n 2, 1) := by decide +kernel
theorem dX7_formationCount_22 : decode cX7_formationCount 22 = .ok (.invokevirtual 178, 3) := by decide +kernel
theorem dX7_formationCount_25 : decode cX7_formationCount 25 = .ok (.invokestatic 181, 3) := by decide +kernel
theorem dX7_formationCount_28 : decode cX7_formationCount 28 = .ok (.iload_n 2, 1) := by decide +kernel
theorem dX7_formationCount_29 : decode cX7_formationCount 29 = .ok (.if_icmp .ne 7, 3) := by decide +kernel
theorem dX7_formationCount_32 : decode cX7_formationCount 32 = .ok (.iconst 1, 1) := by decide +kernel
theorem dX7_formationCount_33 : decode cX7_formationCount 33 = .ok (.goto 4, 3) := by decide +kernel
theorem dX7_formationCount_36 : decode cX7_formationCount 36 = .ok (.iconst 0, 1) := by decide +kernel
theorem dX7_formationCount_37 : decode cX7_formationCount 37 = .ok (.iadd, 1) := by decide +kernel
theorem dX7_formationCount_38 : decode cX7_formationCount 38 = .ok (.istore_n 1, 1) := by decide +kernel
theorem dX7_formationCount_39 : decode cX7_formationCount 39 = .ok (.iinc 2 1, 3) := by decide +kernel
theorem dX7_formationCount_42 : decode cX7_formationCount 42 = .ok (.goto (-33), 3) := by decide +kernel
theorem dX7_formationCount_45 : decode cX7_formationCount 45 = .ok (.iload_n 1, 1) := by decide +kernel
theorem dX7_formationCount_46 : decode cX7_formationCount 46 = .ok (.ireturn, 1) := by decide +kernel
theorem dX7_formationCountByMerging_0 : decode cX7_formationCountByMerging 0 = .ok (.aload_n 0, 1) := by decide +kernel
theorem dX7_formationCountByMerging_1 : decode cX7_formationCountByMerging 1 = .ok (.invokevirtual 184, 3) := by decide +kernel
theorem dX7_formationCountByMerging_4 : decode cX7_formationCountByMerging 4 = .ok (.ireturn, 1) := by decide +kernel
theorem dX7_largestFormation_0 : decode cX7_largestFormation 0 = .ok (.aload_n 0, 1) := by decide +kernel
theorem dX7_largestFormation_1 : decode cX7_largestFormation 1 = .ok (.iconst 0, 1) := by decide +kernel
theorem dX7_largestFormation_2 : decode cX7_largestFormation 2 = .ok (.putfield 33, 3) := by decide +kernel
theorem dX7_largestFormation_5 : decode cX7_largestFormation 5 = .ok (.iconst 0, 1) := by decide +kernel
theorem dX7_largestFormation_6 : decode cX7_largestFormation 6 = .ok (.istore_n 1, 1) := by decide +kernel
theorem dX7_largestFormation_7 : decode cX7_largestFormation 7 = .ok (.iconst 0, 1) := by decide +kernel
theorem dX7_largestFormation_8 : decode cX7_largestFormation 8 = .ok (.istore_n 2, 1) := by decide +kernel
theorem dX7_largestFormation_9 : decode cX7_largestFormation 9 = .ok (.iload_n 2, 1) := by decide +kernel
theorem dX7_largestFormation_10 : decode cX7_largestFormation 10 = .ok (.aload_n 0, 1) := by decide +kernel
theorem dX7_largestFormation_11 : decode cX7_largestFormation 11 = .ok (.getfield 9, 3) := by decide +kernel
theorem dX7_largestFormation_14 : decode cX7_largestFormation 14 = .ok (.iconst 0, 1) := by decide +kernel
theorem dX7_largestFormation_15 : decode cX7_largestFormation 15 = .ok (.iaload, 1) := by decide +kernel
theorem dX7_largestFormation_16 : decode cX7_largestFormation 16 = .ok (.if_icmp .ge 62, 3) := by decide +kernel
theorem dX7_largestFormation_19 : decode cX7_largestFormation 19 = .ok (.aload_n 0, 1) := by decide +kernel
theorem dX7_largestFormation_20 : decode cX7_largestFormation 20 = .ok (.iload_n 2, 1) := by decide +kernel
theorem dX7_largestFormation_21 : decode cX7_largestFormation 21 = .ok (.invokevirtual 178, 3) := by decide +kernel
theorem dX7_largestFormation_24 : decode cX7_largestFormation 24 = .ok (.istore_n 3, 1) := by decide +kernel
theorem dX7_largestFormation_25 : decode cX7_largestFormation 25 = .ok (.iconst 0, 1) := by decide +kernel
theorem dX7_largestFormation_26 : decode cX7_largestFormation 26 = .ok (.istore 4, 2) := by decide +kernel
theorem dX7_largestFormation_28 : decode cX7_largestFormation 28 = .ok (.iconst 0, 1) := by decide +kernel
theorem dX7_largestFormation_29 : decode cX7_largestFormation 29 = .ok (.istore 5, 2) := by decide +kernel
theorem dX7_largestFormation_31 : decode cX7_largestFormation 31 = .ok (.iload 5, 2) := by decide +kernel
theorem dX7_largestFormation_33 : decode cX7_largestFormation 33 = .ok (.aload_n 0, 1) := by decide +kernel
theorem dX7_largestFormation_34 : decode cX7_largestFormation 34 = .ok (.getfield 9, 3) := by decide +kernel
theorem dX7_largestFormation_37 : decode cX7_largestFormation 37 = .ok (.iconst 0, 1) := by decide +kernel
theorem dX7_largestFormation_38 : decode cX7_largestFormation 38 = .ok (.iaload, 1) := by decide +kernel
theorem dX7_largestFormation_39 : decode cX7_largestFormation 39 = .ok (.if_icmp .ge 20, 3) := by decide +kernel
theorem dX7_largestFormation_42 : decode cX7_largestFormation 42 = .ok (.iload 4, 2) := by decide +kernel
theorem dX7_largestFormation_44 : decode cX7_largestFormation 44 = .ok (.iload_n 3, 1) := by decide +kernel
theorem dX7_largestFormation_45 : decode cX7_largestFormation 45 = .ok (.iload 5, 2) := by decide +kernel
theorem dX7_largestFormation_47 : decode cX7_largestFormation 47 = .ok (.ishr, 1) := by decide +kernel
theorem dX7_largestFormation_48 : decode cX7_largestFormation 48 = .ok (.iconst 1, 1) := by decide +kernel
theorem dX7_largestFormation_49 : decode cX7_largestFormation 49 = .ok (.iand, 1) := by decide +kernel
theorem dX7_largestFormation_50 : decode cX7_largestFormation 50 = .ok (.iadd, 1) := by decide +kernel
theorem dX7_largestFormation_51 : decode cX7_largestFormation 51 = .ok (.istore 4, 2) := by decide +kernel
theorem dX7_largestFormation_53 : decode cX7_largestFormation 53 = .ok (.iinc 5 1, 3) := by decide +kernel
theorem dX7_largestFormation_56 : decode cX7_largestFormation 56 = .ok (.goto (-25), 3) := by decide +kernel
theorem dX7_largestFormation_59 : decode cX7_largestFormation 59 = .ok (.iload 4, 2) := by decide +kernel
theorem dX7_largestFormation_61 : decode cX7_largestFormation 61 = .ok (.iload_n 1, 1) := by decide +kernel
theorem dX7_largestFormation_62 : decode cX7_largestFormation 62 = .ok (.if_icmp .le 8, 3) := by decide +kernel
theorem dX7_largestFormation_65 : decode cX7_largestFormation 65 = .ok (.iload 4, 2) := by decide +kernel
theorem dX7_largestFormation_67 : decode cX7_largestFormation 67 = .ok (.goto 4, 3) := by decide +kernel
theorem dX7_largestFormation_70 : decode cX7_largestFormation 70 = .ok (.iload_n 1, 1) := by decide +kernel
theorem dX7_largestFormation_71 : decode cX7_largestFormation 71 = .ok (.istore_n 1, 1) := by decide +kernel
theorem dX7_largestFormation_72 : decode cX7_largestFormation 72 = .ok (.iinc 2 1, 3) := by decide +kernel
theorem dX7_largestFormation_75 : decode cX7_largestFormation 75 = .ok (.goto (-66), 3) := by decide +kernel
theorem dX7_largestFormation_78 : decode cX7_largestFormation 78 = .ok (.iload_n 1, 1) := by decide +kernel
theorem dX7_largestFormation_79 : decode cX7_largestFormation 79 = .ok (.ireturn, 1) := by decide +kernel
theorem dX7_formationOf_0 : decode cX7_formationOf 0 = .ok (.aload_n 0, 1) := by decide +kernel
theorem dX7_formationOf_1 : decode cX7_formationOf 1 = .ok (.aload_n 0, 1) := by decide +kernel
theorem dX7_formationOf_2 : decode cX7_formationOf 2 = .ok (.iload_n 1, 1) := by decide +kernel
theorem dX7_formationOf_3 : decode cX7_formationOf 3 = .ok (.invokevirtual 128, 3) := by decide +kernel
theorem dX7_formationOf_6 : decode cX7_formationOf 6 = .ok (.invokevirtual 78, 3) := by decide +kernel
theorem dX7_formationOf_9 : decode cX7_formationOf 9 = .ok (.ifCond .eq 14, 3) := by decide +kernel
theorem dX7_formationOf_12 : decode cX7_formationOf 12 = .ok (.aload_n 0, 1) := by decide +kernel
theorem dX7_formationOf_13 : decode cX7_formationOf 13 = .ok (.iload_n 1, 1) := by decide +kernel
theorem dX7_formationOf_14 : decode cX7_formationOf 14 = .ok (.invokevirtual 178, 3) := by decide +kernel
theorem dX7_formationOf_17 : decode cX7_formationOf 17 = .ok (.invokestatic 181, 3) := by decide +kernel
theorem dX7_formationOf_20 : decode cX7_formationOf 20 = .ok (.goto 4, 3) := by decide +kernel
theorem dX7_formationOf_23 : decode cX7_formationOf 23 = .ok (.iconst 0, 1) := by decide +kernel
theorem dX7_formationOf_24 : decode cX7_formationOf 24 = .ok (.ireturn, 1) := by decide +kernel
theorem dX7_pairs_0 : decode cX7_pairs 0 = .ok (.iconst 0, 1) := by decide +kernel
theorem dX7_pairs_1 : decode cX7_pairs 1 = .ok (.istore_n 2, 1) := by decide +kernel
theorem dX7_pairs_2 : decode cX7_pairs 2 = .ok (.iconst 0, 1) := by decide +kernel
theorem dX7_pairs_3 : decode cX7_pairs 3 = .ok (.istore_n 3, 1) := by decide +kernel
theorem dX7_pairs_4 : decode cX7_pairs 4 = .ok (.iload_n 3, 1) := by decide +kernel
theorem dX7_pairs_5 : decode cX7_pairs 5 = .ok (.aload_n 0, 1) := by decide +kernel
theorem dX7_pairs_6 : decode cX7_pairs 6 = .ok (.getfield 9, 3) := by decide +kernel
theorem dX7_pairs_9 : decode cX7_pairs 9 = .ok (.iconst 0, 1) := by decide +kernel
theorem dX7_pairs_10 : decode cX7_pairs 10 = .ok (.iaload, 1) := by decide +kernel
theorem dX7_pairs_11 : decode cX7_pairs 11 = .ok (.if_icmp .ge 62, 3) := by decide +kernel
theorem dX7_pairs_14 : decode cX7_pairs 14 = .ok (.iconst 0, 1) := by decide +kernel
theorem dX7_pairs_15 : decode cX7_pairs 15 = .ok (.istore 4, 2) := by decide +kernel
theorem dX7_pairs_17 : decode cX7_pairs 17 = .ok (.iload 4, 2) := by decide +kernel
theorem dX7_pairs_19 : decode cX7_pairs 19 = .ok (.iload_n 3, 1) := by decide +kernel
theorem dX7_pairs_20 : decode cX7_pairs 20 = .ok (.if_icmp .ge 47, 3) := by decide +kernel
theorem dX7_pairs_23 : decode cX7_pairs 23 = .ok (.iload_n 2, 1) := by decide +kernel
theorem dX7_pairs_24 : decode cX7_pairs 24 = .ok (.aload_n 0, 1) := by decide +kernel
theorem dX7_pairs_25 : decode cX7_pairs 25 = .ok (.iload_n 3, 1) := by decide +kernel
theorem dX7_pairs_26 : decode cX7_pairs 26 = .ok (.iload 4, 2) := by decide +kernel
theorem dX7_pairs_28 : decode cX7_pairs 28 = .ok (.invokevirtual 175, 3) := by decide +kernel
theorem dX7_pairs_31 : decode cX7_pairs 31 = .ok (.ifCond .eq 27, 3) := by decide +kernel
theorem dX7_pairs_34 : decode cX7_pairs 34 = .ok (.iload_n 1, 1) := by decide +kernel
theorem dX7_pairs_35 : decode cX7_pairs 35 = .ok (.ifCond .eq 19, 3) := by decide +kernel
theorem dX7_pairs_38 : decode cX7_pairs 38 = .ok (.aload_n 0, 1) := by decide +kernel
theorem dX7_pairs_39 : decode cX7_pairs 39 = .ok (.iload_n 3, 1) := by decide +kernel
theorem dX7_pairs_40 : decode cX7_pairs 40 = .ok (.iconst 2, 1) := by decide +kernel
theorem dX7_pairs_41 : decode cX7_pairs 41 = .ok (.invokevirtual 50, 3) := by decide +kernel
theorem dX7_pairs_44 : decode cX7_pairs 44 = .ok (.aload_n 0, 1) := by decide +kernel
theorem dX7_pairs_45 : decode cX7_pairs 45 = .ok (.iload 4, 2) := by decide +kernel
theorem dX7_pairs_47 : decode cX7_pairs 47 = .ok (.iconst 2, 1) := by decide +kernel
theorem dX7_pairs_48 : decode cX7_pairs 48 = .ok (.invokevirtual 50, 3) := by decide +kernel
theorem dX7_pairs_51 : decode cX7_pairs 51 = .ok (.if_icmp .eq 7, 3) := by decide +kernel
theorem dX7_pairs_54 : decode cX7_pairs 54 = .ok (.iconst 1, 1) := by decide +kernel
theorem dX7_pairs_55 : decode cX7_pairs 55 = .ok (.goto 4, 3) := by decide +kernel
theorem dX7_pairs_58 : decode cX7_pairs 58 = .ok (.iconst 0, 1) := by decide +kernel
theorem dX7_pairs_59 : decode cX7_pairs 59 = .ok (.iadd, 1) := by decide +kernel
theorem dX7_pairs_60 : decode cX7_pairs 60 = .ok (.istore_n 2, 1) := by decide +kernel
theorem dX7_pairs_61 : decode cX7_pairs 61 = .ok (.iinc 4 1, 3) := by decide +kernel
theorem dX7_pairs_64 : decode cX7_pairs 64 = .ok (.goto (-47), 3) := by decide +kernel
theorem dX7_pairs_67 : decode cX7_pairs 67 = .ok (.iinc 3 1, 3) := by decide +kernel
theorem dX7_pairs_70 : decode cX7_pairs 70 = .ok (.goto (-66), 3) := by decide +kernel
theorem dX7_pairs_73 : decode cX7_pairs 73 = .ok (.iload_n 2, 1) := by decide +kernel
theorem dX7_pairs_74 : decode cX7_pairs 74 = .ok (.ireturn, 1) := by decide +kernel
theorem dX7_mixedPairs_0 : decode cX7_mixedPairs 0 = .ok (.aload_n 0, 1) := by decide +kernel
theorem dX7_mixedPairs_1 : decode cX7_mixedPairs 1 = .ok (.iconst 0, 1) := by decide +kernel
theorem dX7_mixedPairs_2 : decode cX7_mixedPairs 2 = .ok (.putfield 33, 3) := by decide +kernel
theorem dX7_mixedPairs_5 : decode cX7_mixedPairs 5 = .ok (.aload_n 0, 1) := by decide +kernel
theorem dX7_mixedPairs_6 : decode cX7_mixedPairs 6 = .ok (.iconst 1, 1) := by decide +kernel
theorem dX7_mixedPairs_7 : decode cX7_mixedPairs 7 = .ok (.invokevirtual 187, 3) := by decide +kernel
theorem dX7_mixedPairs_10 : decode cX7_mixedPairs 10 = .ok (.ireturn, 1) := by decide +kernel
theorem dX7_mixedPairsByHandles_0 : decode cX7_mixedPairsByHandles 0 = .ok (.aload_n 0, 1) := by decide +kernel
theorem dX7_mixedPairsByHandles_1 : decode cX7_mixedPairsByHandles 1 = .ok (.invokevirtual 190, 3) := by decide +kernel
theorem dX7_mixedPairsByHandles_4 : decode cX7_mixedPairsByHandles 4 = .ok (.ireturn, 1) := by decide +kernel
theorem dX7_shapeCount_0 : decode cX7_shapeCount 0 = .ok (.aload_n 0, 1) := by decide +kernel
theorem dX7_shapeCount_1 : decode cX7_shapeCount 1 = .ok (.bipush 9, 2) := by decide +kernel
theorem dX7_shapeCount_3 : decode cX7_shapeCount 3 = .ok (.invokevirtual 162, 3) := by decide +kernel
theorem dX7_shapeCount_6 : decode cX7_shapeCount 6 = .ok (.ireturn, 1) := by decide +kernel
theorem dX7_areAlike_0 : decode cX7_areAlike 0 = .ok (.iconst 1, 1) := by decide +kernel
theorem dX7_areAlike_1 : decode cX7_areAlike 1 = .ok (.istore_n 3, 1) := by decide +kernel
theorem dX7_areAlike_2 : decode cX7_areAlike 2 = .ok (.iconst 0, 1) := by decide +kernel
theorem dX7_areAlike_3 : decode cX7_areAlike 3 = .ok (.istore 4, 2) := by decide +kernel
theorem dX7_areAlike_5 : decode cX7_areAlike 5 = .ok (.iload 4, 2) := by decide +kernel
theorem dX7_areAlike_7 : decode cX7_areAlike 7 = .ok (.bipush 12, 2) := by decide +kernel
theorem dX7_areAlike_9 : decode cX7_areAlike 9 = .ok (.if_icmp .ge 50, 3) := by decide +kernel
theorem dX7_areAlike_12 : decode cX7_areAlike 12 = .ok (.iload_n 3, 1) := by decide +kernel
theorem dX7_areAlike_13 : decode cX7_areAlike 13 = .ok (.aload_n 0, 1) := by decide +kernel
theorem dX7_areAlike_14 : decode cX7_areAlike 14 = .ok (.getfield 9, 3) := by decide +kernel
theorem dX7_areAlike_17 : decode cX7_areAlike 17 = .ok (.bipush 58, 2) := by decide +kernel
theorem dX7_areAlike_19 : decode cX7_areAlike 19 = .ok (.bipush 12, 2) := by decide +kernel
theorem dX7_areAlike_21 : decode cX7_areAlike 21 = .ok (.iload_n 1, 1) := by decide +kernel
theorem dX7_areAlike_22 : decode cX7_areAlike 22 = .ok (.imul, 1) := by decide +kernel
theorem dX7_areAlike_23 : decode cX7_areAlike 23 = .ok (.iadd, 1) := by decide +kernel
theorem dX7_areAlike_24 : decode cX7_areAlike 24 = .ok (.iload 4, 2) := by decide +kernel
theorem dX7_areAlike_26 : decode cX7_areAlike 26 = .ok (.iadd, 1) := by decide +kernel
theorem dX7_areAlike_27 : decode cX7_areAlike 27 = .ok (.iaload, 1) := by decide +kernel
theorem dX7_areAlike_28 : decode cX7_areAlike 28 = .ok (.aload_n 0, 1) := by decide +kernel
theorem dX7_areAlike_29 : decode cX7_areAlike 29 = .ok (.getfield 9, 3) := by decide +kernel
theorem dX7_areAlike_32 : decode cX7_areAlike 32 = .ok (.bipush 58, 2) := by decide +kernel
theorem dX7_areAlike_34 : decode cX7_areAlike 34 = .ok (.bipush 12, 2) := by decide +kernel
theorem dX7_areAlike_36 : decode cX7_areAlike 36 = .ok (.iload_n 2, 1) := by decide +kernel
theorem dX7_areAlike_37 : decode cX7_areAlike 37 = .ok (.imul, 1) := by decide +kernel
theorem dX7_areAlike_38 : decode cX7_areAlike 38 = .ok (.iadd, 1) := by decide +kernel
theorem dX7_areAlike_39 : decode cX7_areAlike 39 = .ok (.iload 4, 2) := by decide +kernel
theorem dX7_areAlike_41 : decode cX7_areAlike 41 = .ok (.iadd, 1) := by decide +kernel
theorem dX7_areAlike_42 : decode cX7_areAlike 42 = .ok (.iaload, 1) := by decide +kernel
theorem dX7_areAlike_43 : decode cX7_areAlike 43 = .ok (.if_icmp .ne 7, 3) := by decide +kernel
theorem dX7_areAlike_46 : decode cX7_areAlike 46 = .ok (.iconst 1, 1) := by decide +kernel
theorem dX7_areAlike_47 : decode cX7_areAlike 47 = .ok (.goto 4, 3) := by decide +kernel
theorem dX7_areAlike_50 : decode cX7_areAlike 50 = .ok (.iconst 0, 1) := by decide +kernel
theorem dX7_areAlike_51 : decode cX7_areAlike 51 = .ok (.iand, 1) := by decide +kernel
theorem dX7_areAlike_52 : decode cX7_areAlike 52 = .ok (.istore_n 3, 1) := by decide +kernel
theorem dX7_areAlike_53 : decode cX7_areAlike 53 = .ok (.iinc 4 1, 3) := by decide +kernel
theorem dX7_areAlike_56 : decode cX7_areAlike 56 = .ok (.goto (-51), 3) := by decide +kernel
theorem dX7_areAlike_59 : decode cX7_areAlike 59 = .ok (.iload_n 3, 1) := by decide +kernel
theorem dX7_areAlike_60 : decode cX7_areAlike 60 = .ok (.ireturn, 1) := by decide +kernel
theorem dX7_differentShapes_0 : decode cX7_differentShapes 0 = .ok (.aload_n 0, 1) := by decide +kernel
theorem dX7_differentShapes_1 : decode cX7_differentShapes 1 = .ok (.iconst 0, 1) := by decide +kernel
theorem dX7_differentShapes_2 : decode cX7_differentShapes 2 = .ok (.putfield 33, 3) := by decide +kernel
theorem dX7_differentShapes_5 : decode cX7_differentShapes 5 = .ok (.iconst 0, 1) := by decide +kernel
theorem dX7_differentShapes_6 : decode cX7_differentShapes 6 = .ok (.istore_n 1, 1) := by decide +kernel
theorem dX7_differentShapes_7 : decode cX7_differentShapes 7 = .ok (.iconst 0, 1) := by decide +kernel
theorem dX7_differentShapes_8 : decode cX7_differentShapes 8 = .ok (.istore_n 2, 1) := by decide +kernel
theorem dX7_differentShapes_9 : decode cX7_differentShapes 9 = .ok (.iload_n 2, 1) := by decide +kernel
theorem dX7_differentShapes_10 : decode cX7_differentShapes 10 = .ok (.aload_n 0, 1) := by decide +kernel
theorem dX7_differentShapes_11 : decode cX7_differentShapes 11 = .ok (.getfield 9, 3) := by decide +kernel
theorem dX7_differentShapes_14 : decode cX7_differentShapes 14 = .ok (.bipush 9, 2) := by decide +kernel
theorem dX7_differentShapes_16 : decode cX7_differentShapes 16 = .ok (.iaload, 1) := by decide +kernel
theorem dX7_differentShapes_17 : decode cX7_differentShapes 17 = .ok (.if_icmp .ge 56, 3) := by decide +kernel
theorem dX7_differentShapes_20 : decode cX7_differentShapes 20 = .ok (.iconst 1, 1) := by decide +kernel
theorem dX7_differentShapes_21 : decode cX7_differentShapes 21 = .ok (.istore_n 3, 1) := by decide +kernel
theorem dX7_differentShapes_22 : decode cX7_differentShapes 22 = .ok (.iconst 0, 1) := by decide +kernel
theorem dX7_differentShapes_23 : decode cX7_differentShapes 23 = .ok (.istore 4, 2) := by decide +kernel
theorem dX7_differentShapes_25 : decode cX7_differentShapes 25 = .ok (.iload 4, 2) := by decide +kernel
theorem dX7_differentShapes_27 : decode cX7_differentShapes 27 = .ok (.iload_n 2, 1) := by decide +kernel
theorem dX7_differentShapes_28 : decode cX7_differentShapes 28 = .ok (.if_icmp .ge 27, 3) := by decide +kernel
theorem dX7_differentShapes_31 : decode cX7_differentShapes 31 = .ok (.iload_n 3, 1) := by decide +kernel
theorem dX7_differentShapes_32 : decode cX7_differentShapes 32 = .ok (.aload_n 0, 1) := by decide +kernel
theorem dX7_differentShapes_33 : decode cX7_differentShapes 33 = .ok (.iload 4, 2) := by decide +kernel
theorem dX7_differentShapes_35 : decode cX7_differentShapes 35 = .ok (.iload_n 2, 1) := by decide +kernel
theorem dX7_differentShapes_36 : decode cX7_differentShapes 36 = .ok (.invokevirtual 193, 3) := by decide +kernel
theorem dX7_differentShapes_39 : decode cX7_differentShapes 39 = .ok (.ifCond .ne 7, 3) := by decide +kernel
theorem dX7_differentShapes_42 : decode cX7_differentShapes 42 = .ok (.iconst 1, 1) := by decide +kernel
theorem dX7_differentShapes_43 : decode cX7_differentShapes 43 = .ok (.goto 4, 3) := by decide +kernel
theorem dX7_differentShapes_46 : decode cX7_differentShapes 46 = .ok (.iconst 0, 1) := by decide +kernel
theorem dX7_differentShapes_47 : decode cX7_differentShapes 47 = .ok (.iand, 1) := by decide +kernel
theorem dX7_differentShapes_48 : decode cX7_differentShapes 48 = .ok (.istore_n 3, 1) := by decide +kernel
theorem dX7_differentShapes_49 : decode cX7_differentShapes 49 = .ok (.iinc 4 1, 3) := by decide +kernel
theorem dX7_differentShapes_52 : decode cX7_differentShapes 52 = .ok (.goto (-27), 3) := by decide +kernel
theorem dX7_differentShapes_55 : decode cX7_differentShapes 55 = .ok (.iload_n 1, 1) := by decide +kernel
theorem dX7_differentShapes_56 : decode cX7_differentShapes 56 = .ok (.iload_n 3, 1) := by decide +kernel
theorem dX7_differentShapes_57 : decode cX7_differentShapes 57 = .ok (.ifCond .eq 7, 3) := by decide +kernel
theorem dX7_differentShapes_60 : decode cX7_differentShapes 60 = .ok (.iconst 1, 1) := by decide +kernel
theorem dX7_differentShapes_61 : decode cX7_differentShapes 61 = .ok (.goto 4, 3) := by decide +kernel
theorem dX7_differentShapes_64 : decode cX7_differentShapes 64 = .ok (.iconst 0, 1) := by decide +kernel
theorem dX7_differentShapes_65 : decode cX7_differentShapes 65 = .ok (.iadd, 1) := by decide +kernel
theorem dX7_differentShapes_66 : decode cX7_differentShapes 66 = .ok (.istore_n 1, 1) := by decide +kernel
theorem dX7_differentShapes_67 : decode cX7_differentShapes 67 = .ok (.iinc 2 1, 3) := by decide +kernel
theorem dX7_differentShapes_70 : decode cX7_differentShapes 70 = .ok (.goto (-61), 3) := by decide +kernel
theorem dX7_differentShapes_73 : decode cX7_differentShapes 73 = .ok (.iload_n 1, 1) := by decide +kernel
theorem dX7_differentShapes_74 : decode cX7_differentShapes 74 = .ok (.ireturn, 1) := by decide +kernel
theorem dX7_stepsSinceShape_0 : decode cX7_stepsSinceShape 0 = .ok (.aload_n 0, 1) := by decide +kernel
theorem dX7_stepsSinceShape_1 : decode cX7_stepsSinceShape 1 = .ok (.invokevirtual 102, 3) := by decide +kernel
theorem dX7_stepsSinceShape_4 : decode cX7_stepsSinceShape 4 = .ok (.iconst 0, 1) := by decide +kernel
theorem dX7_stepsSinceShape_5 : decode cX7_stepsSinceShape 5 = .ok (.istore_n 1, 1) := by decide +kernel
theorem dX7_stepsSinceShape_6 : decode cX7_stepsSinceShape 6 = .ok (.iload_n 1, 1) := by decide +kernel
theorem dX7_stepsSinceShape_7 : decode cX7_stepsSinceShape 7 = .ok (.aload_n 0, 1) := by decide +kernel
theorem dX7_stepsSinceShape_8 : decode cX7_stepsSinceShape 8 = .ok (.getfield 9, 3) := by decide +kernel
theorem dX7_stepsSinceShape_11 : decode cX7_stepsSinceShape 11 = .ok (.bipush 9, 2) := by decide +kernel
theorem dX7_stepsSinceShape_13 : decode cX7_stepsSinceShape 13 = .ok (.iaload, 1) := by decide +kernel
theorem dX7_stepsSinceShape_14 : decode cX7_stepsSinceShape 14 = .ok (.if_icmp .ge 23, 3) := by decide +kernel
theorem dX7_stepsSinceShape_17 : decode cX7_stepsSinceShape 17 = .ok (.aload_n 0, 1) := by decide +kernel
theorem dX7_stepsSinceShape_18 : decode cX7_stepsSinceShape 18 = .ok (.aload_n 0, 1) := by decide +kernel
theorem dX7_stepsSinceShape_19 : decode cX7_stepsSinceShape 19 = .ok (.iload_n 1, 1) := by decide +kernel
theorem dX7_stepsSinceShape_20 : decode cX7_stepsSinceShape 20 = .ok (.invokevirtual 196, 3) := by decide +kernel
theorem dX7_stepsSinceShape_23 : decode cX7_stepsSinceShape 23 = .ok (.invokevirtual 78, 3) := by decide +kernel
theorem dX7_stepsSinceShape_26 : decode cX7_stepsSinceShape 26 = .ok (.ifCond .eq 5, 3) := by decide +kernel
theorem dX7_stepsSinceShape_29 : decode cX7_stepsSinceShape 29 = .ok (.iload_n 1, 1) := by decide +kernel
theorem dX7_stepsSinceShape_30 : decode cX7_stepsSinceShape 30 = .ok (.ireturn, 1) := by decide +kernel
theorem dX7_stepsSinceShape_31 : decode cX7_stepsSinceShape 31 = .ok (.iinc 1 1, 3) := by decide +kernel
theorem dX7_stepsSinceShape_34 : decode cX7_stepsSinceShape 34 = .ok (.goto (-28), 3) := by decide +kernel
theorem dX7_stepsSinceShape_37 : decode cX7_stepsSinceShape 37 = .ok (.aload_n 0, 1) := by decide +kernel
theorem dX7_stepsSinceShape_38 : decode cX7_stepsSinceShape 38 = .ok (.iconst 1, 1) := by decide +kernel
theorem dX7_stepsSinceShape_39 : decode cX7_stepsSinceShape 39 = .ok (.putfield 33, 3) := by decide +kernel
theorem dX7_stepsSinceShape_42 : decode cX7_stepsSinceShape 42 = .ok (.iconst 0, 1) := by decide +kernel
theorem dX7_stepsSinceShape_43 : decode cX7_stepsSinceShape 43 = .ok (.ireturn, 1) := by decide +kernel
theorem dX7_basketAtRank_0 : decode cX7_basketAtRank 0 = .ok (.aload_n 0, 1) := by decide +kernel
theorem dX7_basketAtRank_1 : decode cX7_basketAtRank 1 = .ok (.getfield 9, 3) := by decide +kernel
theorem dX7_basketAtRank_4 : decode cX7_basketAtRank 4 = .ok (.iconst 2, 1) := by decide +kernel
theorem dX7_basketAtRank_5 : decode cX7_basketAtRank 5 = .ok (.iaload, 1) := by decide +kernel
theorem dX7_basketAtRank_6 : decode cX7_basketAtRank 6 = .ok (.istore_n 2, 1) := by decide +kernel
theorem dX7_basketAtRank_7 : decode cX7_basketAtRank 7 = .ok (.iconst 0, 1) := by decide +kernel
theorem dX7_basketAtRank_8 : decode cX7_basketAtRank 8 = .ok (.istore_n 3, 1) := by decide +kernel
theorem dX7_basketAtRank_9 : decode cX7_basketAtRank 9 = .ok (.iload_n 3, 1) := by decide +kernel
theorem dX7_basketAtRank_10 : decode cX7_basketAtRank 10 = .ok (.aload_n 0, 1) := by decide +kernel
theorem dX7_basketAtRank_11 : decode cX7_basketAtRank 11 = .ok (.getfield 9, 3) := by decide +kernel
theorem dX7_basketAtRank_14 : decode cX7_basketAtRank 14 = .ok (.iconst 0, 1) := by decide +kernel
theorem dX7_basketAtRank_15 : decode cX7_basketAtRank 15 = .ok (.iaload, 1) := by decide +kernel
theorem dX7_basketAtRank_16 : decode cX7_basketAtRank 16 = .ok (.if_icmp .ge 100, 3) := by decide +kernel
theorem dX7_basketAtRank_19 : decode cX7_basketAtRank 19 = .ok (.iconst 0, 1) := by decide +kernel
theorem dX7_basketAtRank_20 : decode cX7_basketAtRank 20 = .ok (.istore 4, 2) := by decide +kernel
theorem dX7_basketAtRank_22 : decode cX7_basketAtRank 22 = .ok (.iconst 0, 1) := by decide +kernel
theorem dX7_basketAtRank_23 : decode cX7_basketAtRank 23 = .ok (.istore 5, 2) := by decide +kernel
theorem dX7_basketAtRank_25 : decode cX7_basketAtRank 25 = .ok (.iload 5, 2) := by decide +kernel
theorem dX7_basketAtRank_27 : decode cX7_basketAtRank 27 = .ok (.aload_n 0, 1) := by decide +kernel
theorem dX7_basketAtRank_28 : decode cX7_basketAtRank 28 = .ok (.getfield 9, 3) := by decide +kernel
theorem dX7_basketAtRank_31 : decode cX7_basketAtRank 31 = .ok (.iconst 0, 1) := by decide +kernel
theorem dX7_basketAtRank_32 : decode cX7_basketAtRank 32 = .ok (.iaload, 1) := by decide +kernel
theorem dX7_basketAtRank_33 : decode cX7_basketAtRank 33 = .ok (.if_icmp .ge 57, 3) := by decide +kernel
theorem dX7_basketAtRank_36 : decode cX7_basketAtRank 36 = .ok (.iload 4, 2) := by decide +kernel
theorem dX7_basketAtRank_38 : decode cX7_basketAtRank 38 = .ok (.aload_n 0, 1) := by decide +kernel
theorem dX7_basketAtRank_39 : decode cX7_basketAtRank 39 = .ok (.iload 5, 2) := by decide +kernel
theorem dX7_basketAtRank_41 : decode cX7_basketAtRank 41 = .ok (.iload_n 2, 1) := by decide +kernel
theorem dX7_basketAtRank_42 : decode cX7_basketAtRank 42 = .ok (.invokevirtual 99, 3) := by decide +kernel
theorem dX7_basketAtRank_45 : decode cX7_basketAtRank 45 = .ok (.aload_n 0, 1) := by decide +kernel
theorem dX7_basketAtRank_46 : decode cX7_basketAtRank 46 = .ok (.iload_n 3, 1) := by decide +kernel
theorem dX7_basketAtRank_47 : decode cX7_basketAtRank 47 = .ok (.iload_n 2, 1) := by decide +kernel
theorem dX7_basketAtRank_48 : decode cX7_basketAtRank 48 = .ok (.invokevirtual 99, 3) := by decide +kernel
theorem dX7_basketAtRank_51 : decode cX7_basketAtRank 51 = .ok (.if_icmp .lt 25, 3) := by decide +kernel
theorem dX7_basketAtRank_54 : decode cX7_basketAtRank 54 = .ok (.aload_n 0, 1) := by decide +kernel
theorem dX7_basketAtRank_55 : decode cX7_basketAtRank 55 = .ok (.iload 5, 2) := by decide +kernel
theorem dX7_basketAtRank_57 : decode cX7_basketAtRank 57 = .ok (.iload_n 2, 1) := by decide +kernel
theorem dX7_basketAtRank_58 : decode cX7_basketAtRank 58 = .ok (.invokevirtual 99, 3) := by decide +kernel
theorem dX7_basketAtRank_61 : decode cX7_basketAtRank 61 = .ok (.aload_n 0, 1) := by decide +kernel
theorem dX7_basketAtRank_62 : decode cX7_basketAtRank 62 = .ok (.iload_n 3, 1) := by decide +kernel
theorem dX7_basketAtRank_63 : decode cX7_basketAtRank 63 = .ok (.iload_n 2, 1) := by decide +kernel
theorem dX7_basketAtRank_64 : decode cX7_basketAtRank 64 = .ok (.invokevirtual 99, 3) := by decide +kernel
theorem dX7_basketAtRank_67 : decode cX7_basketAtRank 67 = .ok (.if_icmp .ne 13, 3) := by decide +kernel
theorem dX7_basketAtRank_70 : decode cX7_basketAtRank 70 = .ok (.iload 5, 2) := by decide +kernel
theorem dX7_basketAtRank_72 : decode cX7_basketAtRank 72 = .ok (.iload_n 3, 1) := by decide +kernel
theorem dX7_basketAtRank_73 : decode cX7_basketAtRank 73 = .ok (.if_icmp .ge 7, 3) := by decide +kernel
theorem dX7_basketAtRank_76 : decode cX7_basketAtRank 76 = .ok (.iconst 1, 1) := by decide +kernel
theorem dX7_basketAtRank_77 : decode cX7_basketAtRank 77 = .ok (.goto 4, 3) := by decide +kernel
theorem dX7_basketAtRank_80 : decode cX7_basketAtRank 80 = .ok (.iconst 0, 1) := by decide +kernel
theorem dX7_basketAtRank_81 : decode cX7_basketAtRank 81 = .ok (.iadd, 1) := by decide +kernel
theorem dX7_basketAtRank_82 : decode cX7_basketAtRank 82 = .ok (.istore 4, 2) := by decide +kernel
theorem dX7_basketAtRank_84 : decode cX7_basketAtRank 84 = .ok (.iinc 5 1, 3) := by decide +kernel
theorem dX7_basketAtRank_87 : decode cX7_basketAtRank 87 = .ok (.goto (-62), 3) := by decide +kernel
theorem dX7_basketAtRank_90 : decode cX7_basketAtRank 90 = .ok (.aload_n 0, 1) := by decide +kernel
theorem dX7_basketAtRank_91 : decode cX7_basketAtRank 91 = .ok (.iload 4, 2) := by decide +kernel
theorem dX7_basketAtRank_93 : decode cX7_basketAtRank 93 = .ok (.iload_n 1, 1) := by decide +kernel
theorem dX7_basketAtRank_94 : decode cX7_basketAtRank 94 = .ok (.if_icmp .ne 7, 3) := by decide +kernel
theorem dX7_basketAtRank_97 : decode cX7_basketAtRank 97 = .ok (.iconst 1, 1) := by decide +kernel
theorem dX7_basketAtRank_98 : decode cX7_basketAtRank 98 = .ok (.goto 4, 3) := by decide +kernel
theorem dX7_basketAtRank_101 : decode cX7_basketAtRank 101 = .ok (.iconst 0, 1) := by decide +kernel
theorem dX7_basketAtRank_102 : decode cX7_basketAtRank 102 = .ok (.invokevirtual 78, 3) := by decide +kernel
theorem dX7_basketAtRank_105 : decode cX7_basketAtRank 105 = .ok (.ifCond .eq 5, 3) := by decide +kernel
theorem dX7_basketAtRank_108 : decode cX7_basketAtRank 108 = .ok (.iload_n 3, 1) := by decide +kernel
theorem dX7_basketAtRank_109 : decode cX7_basketAtRank 109 = .ok (.ireturn, 1) := by decide +kernel
theorem dX7_basketAtRank_110 : decode cX7_basketAtRank 110 = .ok (.iinc 3 1, 3) := by decide +kernel
theorem dX7_basketAtRank_113 : decode cX7_basketAtRank 113 = .ok (.goto (-104), 3) := by decide +kernel
theorem dX7_basketAtRank_116 : decode cX7_basketAtRank 116 = .ok (.aload_n 0, 1) := by decide +kernel
theorem dX7_basketAtRank_117 : decode cX7_basketAtRank 117 = .ok (.iconst 1, 1) := by decide +kernel
theorem dX7_basketAtRank_118 : decode cX7_basketAtRank 118 = .ok (.putfield 33, 3) := by decide +kernel
theorem dX7_basketAtRank_121 : decode cX7_basketAtRank 121 = .ok (.iconst 0, 1) := by decide +kernel
theorem dX7_basketAtRank_122 : decode cX7_basketAtRank 122 = .ok (.ireturn, 1) := by decide +kernel
theorem dX7_append_0 : decode cX7_append 0 = .ok (.aload_n 0, 1) := by decide +kernel
theorem dX7_append_1 : decode cX7_append 1 = .ok (.iload_n 1, 1) := by decide +kernel
theorem dX7_append_2 : decode cX7_append 2 = .ok (.bipush 32, 2) := by decide +kernel
theorem dX7_append_4 : decode cX7_append 4 = .ok (.bipush 126, 2) := by decide +kernel
theorem dX7_append_6 : decode cX7_append 6 = .ok (.invokestatic 46, 3) := by decide +kernel
theorem dX7_append_9 : decode cX7_append 9 = .ok (.ifCond .ne 7, 3) := by decide +kernel
theorem dX7_append_12 : decode cX7_append 12 = .ok (.iconst 1, 1) := by decide +kernel
theorem dX7_append_13 : decode cX7_append 13 = .ok (.goto 17, 3) := by decide +kernel
theorem dX7_append_16 : decode cX7_append 16 = .ok (.aload_n 0, 1) := by decide +kernel
theorem dX7_append_17 : decode cX7_append 17 = .ok (.getfield 199, 3) := by decide +kernel
theorem dX7_append_20 : decode cX7_append 20 = .ok (.bipush 60, 2) := by decide +kernel
theorem dX7_append_22 : decode cX7_append 22 = .ok (.if_icmp .ne 7, 3) := by decide +kernel
theorem dX7_append_25 : decode cX7_append 25 = .ok (.iconst 2, 1) := by decide +kernel
theorem dX7_append_26 : decode cX7_append 26 = .ok (.goto 4, 3) := by decide +kernel
theorem dX7_append_29 : decode cX7_append 29 = .ok (.iconst 0, 1) := by decide +kernel
theorem dX7_append_30 : decode cX7_append 30 = .ok (.putfield 33, 3) := by decide +kernel
theorem dX7_append_33 : decode cX7_append 33 = .ok (.aload_n 0, 1) := by decide +kernel
theorem dX7_append_34 : decode cX7_append 34 = .ok (.getfield 33, 3) := by decide +kernel
theorem dX7_append_37 : decode cX7_append 37 = .ok (.ifCond .eq 5, 3) := by decide +kernel
theorem dX7_append_40 : decode cX7_append 40 = .ok (.iconst 0, 1) := by decide +kernel
theorem dX7_append_41 : decode cX7_append 41 = .ok (.ireturn, 1) := by decide +kernel
theorem dX7_append_42 : decode cX7_append 42 = .ok (.aload_n 0, 1) := by decide +kernel
theorem dX7_append_43 : decode cX7_append 43 = .ok (.getfield 16, 3) := by decide +kernel
theorem dX7_append_46 : decode cX7_append 46 = .ok (.aload_n 0, 1) := by decide +kernel
theorem dX7_append_47 : decode cX7_append 47 = .ok (.getfield 199, 3) := by decide +kernel
theorem dX7_append_50 : decode cX7_append 50 = .ok (.iload_n 1, 1) := by decide +kernel
theorem dX7_append_51 : decode cX7_append 51 = .ok (.castore, 1) := by decide +kernel
theorem dX7_append_52 : decode cX7_append 52 = .ok (.aload_n 0, 1) := by decide +kernel
theorem dX7_append_53 : decode cX7_append 53 = .ok (.dup, 1) := by decide +kernel
theorem dX7_append_54 : decode cX7_append 54 = .ok (.getfield 199, 3) := by decide +kernel
theorem dX7_append_57 : decode cX7_append 57 = .ok (.iconst 1, 1) := by decide +kernel
theorem dX7_append_58 : decode cX7_append 58 = .ok (.iadd, 1) := by decide +kernel
theorem dX7_append_59 : decode cX7_append 59 = .ok (.putfield 199, 3) := by decide +kernel
theorem dX7_append_62 : decode cX7_append 62 = .ok (.aload_n 0, 1) := by decide +kernel
theorem dX7_append_63 : decode cX7_append 63 = .ok (.getfield 199, 3) := by decide +kernel
theorem dX7_append_66 : decode cX7_append 66 = .ok (.ireturn, 1) := by decide +kernel
theorem dX7_sign_0 : decode cX7_sign 0 = .ok (.aload_n 0, 1) := by decide +kernel
theorem dX7_sign_1 : decode cX7_sign 1 = .ok (.getfield 202, 3) := by decide +kernel
theorem dX7_sign_4 : decode cX7_sign 4 = .ok (.aload_n 0, 1) := by decide +kernel
theorem dX7_sign_5 : decode cX7_sign 5 = .ok (.getfield 199, 3) := by decide +kernel
theorem dX7_sign_8 : decode cX7_sign 8 = .ok (.if_icmp .ge 15, 3) := by decide +kernel
theorem dX7_sign_11 : decode cX7_sign 11 = .ok (.aload_n 0, 1) := by decide +kernel
theorem dX7_sign_12 : decode cX7_sign 12 = .ok (.getfield 16, 3) := by decide +kernel
theorem dX7_sign_15 : decode cX7_sign 15 = .ok (.aload_n 0, 1) := by decide +kernel
theorem dX7_sign_16 : decode cX7_sign 16 = .ok (.getfield 202, 3) := by decide +kernel
theorem dX7_sign_19 : decode cX7_sign 19 = .ok (.caload, 1) := by decide +kernel
theorem dX7_sign_20 : decode cX7_sign 20 = .ok (.goto 4, 3) := by decide +kernel
theorem dX7_sign_23 : decode cX7_sign 23 = .ok (.iconst (-1), 1) := by decide +kernel
theorem dX7_sign_24 : decode cX7_sign 24 = .ok (.ireturn, 1) := by decide +kernel
theorem dX7_needs_0 : decode cX7_needs 0 = .ok (.aload_n 0, 1) := by decide +kernel
theorem dX7_needs_1 : decode cX7_needs 1 = .ok (.getfield 205, 3) := by decide +kernel
theorem dX7_needs_4 : decode cX7_needs 4 = .ok (.ifCond .lt 4, 3) := by decide +kernel
theorem dX7_needs_7 : decode cX7_needs 7 = .ok (.return_, 1) := by decide +kernel
theorem dX7_needs_8 : decode cX7_needs 8 = .ok (.aload_n 0, 1) := by decide +kernel
theorem dX7_needs_9 : decode cX7_needs 9 = .ok (.invokevirtual 208, 3) := by decide +kernel
theorem dX7_needs_12 : decode cX7_needs 12 = .ok (.iload_n 1, 1) := by decide +kernel
theorem dX7_needs_13 : decode cX7_needs 13 = .ok (.if_icmp .eq 12, 3) := by decide +kernel
theorem dX7_needs_16 : decode cX7_needs 16 = .ok (.aload_n 0, 1) := by decide +kernel
theorem dX7_needs_17 : decode cX7_needs 17 = .ok (.aload_n 0, 1) := by decide +kernel
theorem dX7_needs_18 : decode cX7_needs 18 = .ok (.getfield 202, 3) := by decide +kernel
theorem dX7_needs_21 : decode cX7_needs 21 = .ok (.putfield 205, 3) := by decide +kernel
theorem dX7_needs_24 : decode cX7_needs 24 = .ok (.return_, 1) := by decide +kernel
theorem dX7_needs_25 : decode cX7_needs 25 = .ok (.aload_n 0, 1) := by decide +kernel
theorem dX7_needs_26 : decode cX7_needs 26 = .ok (.dup, 1) := by decide +kernel
theorem dX7_needs_27 : decode cX7_needs 27 = .ok (.getfield 202, 3) := by decide +kernel
theorem dX7_needs_30 : decode cX7_needs 30 = .ok (.iconst 1, 1) := by decide +kernel
theorem dX7_needs_31 : decode cX7_needs 31 = .ok (.iadd, 1) := by decide +kernel
theorem dX7_needs_32 : decode cX7_needs 32 = .ok (.putfield 202, 3) := by decide +kernel
theorem dX7_needs_35 : decode cX7_needs 35 = .ok (.return_, 1) := by decide +kernel
theorem dX7_letters_0 : decode cX7_letters 0 = .ok (.aload_n 0, 1) := by decide +kernel
theorem dX7_letters_1 : decode cX7_letters 1 = .ok (.iload_n 1, 1) := by decide +kernel
theorem dX7_letters_2 : decode cX7_letters 2 = .ok (.invokevirtual 211, 3) := by decide +kernel
theorem dX7_letters_5 : decode cX7_letters 5 = .ok (.aload_n 0, 1) := by decide +kernel
theorem dX7_letters_6 : decode cX7_letters 6 = .ok (.iload_n 2, 1) := by decide +kernel
theorem dX7_letters_7 : decode cX7_letters 7 = .ok (.invokevirtual 211, 3) := by decide +kernel
theorem dX7_letters_10 : decode cX7_letters 10 = .ok (.aload_n 0, 1) := by decide +kernel
theorem dX7_letters_11 : decode cX7_letters 11 = .ok (.iload_n 3, 1) := by decide +kernel
theorem dX7_letters_12 : decode cX7_letters 12 = .ok (.invokevirtual 211, 3) := by decide +kernel
theorem dX7_letters_15 : decode cX7_letters 15 = .ok (.return_, 1) := by decide +kernel
theorem dX7_number_0 : decode cX7_number 0 = .ok (.aload_n 0, 1) := by decide +kernel
theorem dX7_number_1 : decode cX7_number 1 = .ok (.getfield 205, 3) := by decide +kernel
theorem dX7_number_4 : decode cX7_number 4 = .ok (.ifCond .lt 5, 3) := by decide +kernel
theorem dX7_number_7 : decode cX7_number 7 = .ok (.iconst 0, 1) := by decide +kernel
theorem dX7_number_8 : decode cX7_number 8 = .ok (.ireturn, 1) := by decide +kernel
theorem dX7_number_9 : decode cX7_number 9 = .ok (.aload_n 0, 1) := by decide +kernel
theorem dX7_number_10 : decode cX7_number 10 = .ok (.invokevirtual 208, 3) := by decide +kernel
theorem dX7_number_13 : decode cX7_number 13 = .ok (.bipush 48, 2) := by decide +kernel
theorem dX7_number_15 : decode cX7_number 15 = .ok (.bipush 57, 2) := by decide +kernel
theorem dX7_number_17 : decode cX7_number 17 = .ok (.invokestatic 46, 3) := by decide +kernel
theorem dX7_number_20 : decode cX7_number 20 = .ok (.ifCond .ne 13, 3) := by decide +kernel
theorem dX7_number_23 : decode cX7_number 23 = .ok (.aload_n 0, 1) := by decide +kernel
theorem dX7_number_24 : decode cX7_number 24 = .ok (.aload_n 0, 1) := by decide +kernel
theorem dX7_number_25 : decode cX7_number 25 = .ok (.getfield 202, 3) := by decide +kernel
theorem dX7_number_28 : decode cX7_number 28 = .ok (.putfield 205, 3) := by decide +kernel
theorem dX7_number_31 : decode cX7_number 31 = .ok (.iconst 0, 1) := by decide +kernel
theorem dX7_number_32 : decode cX7_number 32 = .ok (.ireturn, 1) := by decide +kernel
theorem dX7_number_33 : decode cX7_number 33 = .ok (.iconst 0, 1) := by decide +kernel
theorem dX7_number_34 : decode cX7_number 34 = .ok (.istore_n 2, 1) := by decide +kernel
theorem dX7_number_35 : decode cX7_number 35 = .ok (.iconst 0, 1) := by decide +kernel
theorem dX7_number_36 : decode cX7_number 36 = .ok (.istore_n 3, 1) := by decide +kernel
theorem dX7_number_37 : decode cX7_number 37 = .ok (.iload_n 3, 1) := by decide +kernel
theorem dX7_number_38 : decode cX7_number 38 = .ok (.iload_n 1, 1) := by decide +kernel
theorem dX7_number_39 : decode cX7_number 39 = .ok (.if_icmp .ge 46, 3) := by decide +kernel
theorem dX7_number_42 : decode cX7_number 42 = .ok (.aload_n 0, 1) := by decide +kernel
theorem dX7_number_43 : decode cX7_number 43 = .ok (.invokevirtual 208, 3) := by decide +kernel
theorem dX7_number_46 : decode cX7_number 46 = .ok (.bipush 48, 2) := by decide +kernel
theorem dX7_number_48 : decode cX7_number 48 = .ok (.bipush 57, 2) := by decide +kernel
theorem dX7_number_50 : decode cX7_number 50 = .ok (.invokestatic 46, 3) := by decide +kernel
theorem dX7_number_53 : decode cX7_number 53 = .ok (.ifCond .eq 32, 3) := by decide +kernel
theorem dX7_number_56 : decode cX7_number 56 = .ok (.bipush 10, 2) := by decide +kernel
theorem dX7_number_58 : decode cX7_number 58 = .ok (.iload_n 2, 1) := by decide +kernel
theorem dX7_number_59 : decode cX7_number 59 = .ok (.imul, 1) := by decide +kernel
theorem dX7_number_60 : decode cX7_number 60 = .ok (.aload_n 0, 1) := by decide +kernel
theorem dX7_number_61 : decode cX7_number 61 = .ok (.invokevirtual 208, 3) := by decide +kernel
theorem dX7_number_64 : decode cX7_number 64 = .ok (.iadd, 1) := by decide +kernel
theorem dX7_number_65 : decode cX7_number 65 = .ok (.bipush 48, 2) := by decide +kernel
theorem dX7_number_67 : decode cX7_number 67 = .ok (.isub, 1) := by decide +kernel
theorem dX7_number_68 : decode cX7_number 68 = .ok (.istore_n 2, 1) := by decide +kernel
theorem dX7_number_69 : decode cX7_number 69 = .ok (.aload_n 0, 1) := by decide +kernel
theorem dX7_number_70 : decode cX7_number 70 = .ok (.dup, 1) := by decide +kernel
theorem dX7_number_71 : decode cX7_number 71 = .ok (.getfield 202, 3) := by decide +kernel
theorem dX7_number_74 : decode cX7_number 74 = .ok (.iconst 1, 1) := by decide +kernel
theorem dX7_number_75 : decode cX7_number 75 = .ok (.iadd, 1) := by decide +kernel
theorem dX7_number_76 : decode cX7_number 76 = .ok (.putfield 202, 3) := by decide +kernel
theorem dX7_number_79 : decode cX7_number 79 = .ok (.iinc 3 1, 3) := by decide +kernel
theorem dX7_number_82 : decode cX7_number 82 = .ok (.goto (-45), 3) := by decide +kernel
theorem dX7_number_85 : decode cX7_number 85 = .ok (.iload_n 2, 1) := by decide +kernel
theorem dX7_number_86 : decode cX7_number 86 = .ok (.ireturn, 1) := by decide +kernel
theorem dX7_behind_0 : decode cX7_behind 0 = .ok (.aload_n 0, 1) := by decide +kernel
theorem dX7_behind_1 : decode cX7_behind 1 = .ok (.iload_n 1, 1) := by decide +kernel
theorem dX7_behind_2 : decode cX7_behind 2 = .ok (.invokevirtual 211, 3) := by decide +kernel
theorem dX7_behind_5 : decode cX7_behind 5 = .ok (.aload_n 0, 1) := by decide +kernel
theorem dX7_behind_6 : decode cX7_behind 6 = .ok (.iload_n 2, 1) := by decide +kernel
theorem dX7_behind_7 : decode cX7_behind 7 = .ok (.invokevirtual 215, 3) := by decide +kernel
theorem dX7_behind_10 : decode cX7_behind 10 = .ok (.ireturn, 1) := by decide +kernel
theorem dX7_word_0 : decode cX7_word 0 = .ok (.iload_n 1, 1) := by decide +kernel
theorem dX7_word_1 : decode cX7_word 1 = .ok (.tableswitch 200 97 116 #[95, 200, 200, 200, 200, 200, 161, 123, 200, 110, 174, 200, 200, 200, 200, 200, 200, 200, 187, 148], 95) := by decide +kernel
theorem dX7_word_96 : decode cX7_word 96 = .ok (.aload_n 0, 1) := by decide +kernel
theorem dX7_word_97 : decode cX7_word 97 = .ok (.bipush 100, 2) := by decide +kernel
theorem dX7_word_99 : decode cX7_word 99 = .ok (.invokevirtual 211, 3) := by decide +kernel
theorem dX7_word_102 : decode cX7_word 102 = .ok (.aload_n 0, 1) := by decide +kernel
theorem dX7_word_103 : decode cX7_word 103 = .ok (.bipush 100, 2) := by decide +kernel
theorem dX7_word_105 : decode cX7_word 105 = .ok (.invokevirtual 211, 3) := by decide +kernel
theorem dX7_word_108 : decode cX7_word 108 = .ok (.bipush 97, 2) := by decide +kernel
theorem dX7_word_110 : decode cX7_word 110 = .ok (.ireturn, 1) := by decide +kernel
theorem dX7_word_111 : decode cX7_word 111 = .ok (.aload_n 0, 1) := by decide +kernel
theorem dX7_word_112 : decode cX7_word 112 = .ok (.bipush 117, 2) := by decide +kernel
theorem dX7_word_114 : decode cX7_word 114 = .ok (.bipush 109, 2) := by decide +kernel
theorem dX7_word_116 : decode cX7_word 116 = .ok (.bipush 112, 2) := by decide +kernel
theorem dX7_word_118 : decode cX7_word 118 = .ok (.invokevirtual 218, 3) := by decide +kernel
theorem dX7_word_121 : decode cX7_word 121 = .ok (.bipush 106, 2) := by decide +kernel
theorem dX7_word_123 : decode cX7_word 123 = .ok (.ireturn, 1) := by decide +kernel
theorem dX7_word_124 : decode cX7_word 124 = .ok (.aload_n 0, 1) := by decide +kernel
theorem dX7_word_125 : decode cX7_word 125 = .ok (.bipush 97, 2) := by decide +kernel
theorem dX7_word_127 : decode cX7_word 127 = .ok (.bipush 110, 2) := by decide +kernel
theorem dX7_word_129 : decode cX7_word 129 = .ok (.bipush 100, 2) := by decide +kernel
theorem dX7_word_131 : decode cX7_word 131 = .ok (.invokevirtual 218, 3) := by decide +kernel
theorem dX7_word_134 : decode cX7_word 134 = .ok (.aload_n 0, 1) := by decide +kernel
theorem dX7_word_135 : decode cX7_word 135 = .ok (.bipush 108, 2) := by decide +kernel
theorem dX7_word_137 : decode cX7_word 137 = .ok (.invokevirtual 211, 3) := by decide +kernel
theorem dX7_word_140 : decode cX7_word 140 = .ok (.aload_n 0, 1) := by decide +kernel
theorem dX7_word_141 : decode cX7_word 141 = .ok (.bipush 101, 2) := by decide +kernel
theorem dX7_word_143 : decode cX7_word 143 = .ok (.invokevirtual 211, 3) := by decide +kernel
theorem dX7_word_146 : decode cX7_word 146 = .ok (.bipush 104, 2) := by decide +kernel
theorem dX7_word_148 : decode cX7_word 148 = .ok (.ireturn, 1) := by decide +kernel
theorem dX7_word_149 : decode cX7_word 149 = .ok (.aload_n 0, 1) := by decide +kernel
theorem dX7_word_150 : decode cX7_word 150 = .ok (.bipush 117, 2) := by decide +kernel
theorem dX7_word_152 : decode cX7_word 152 = .ok (.bipush 114, 2) := by decide +kernel
theorem dX7_word_154 : decode cX7_word 154 = .ok (.bipush 110, 2) := by decide +kernel
theorem dX7_word_156 : decode cX7_word 156 = .ok (.invokevirtual 218, 3) := by decide +kernel
theorem dX7_word_159 : decode cX7_word 159 = .ok (.bipush 116, 2) := by decide +kernel
theorem dX7_word_161 : decode cX7_word 161 = .ok (.ireturn, 1) := by decide +kernel
theorem dX7_word_162 : decode cX7_word 162 = .ok (.aload_n 0, 1) := by decide +kernel
theorem dX7_word_163 : decode cX7_word 163 = .ok (.bipush 111, 2) := by decide +kernel
theorem dX7_word_165 : decode cX7_word 165 = .ok (.bipush 97, 2) := by decide +kernel
theorem dX7_word_167 : decode cX7_word 167 = .ok (.bipush 108, 2) := by decide +kernel
theorem dX7_word_169 : decode cX7_word 169 = .ok (.invokevirtual 218, 3) := by decide +kernel
theorem dX7_word_172 : decode cX7_word 172 = .ok (.bipush 103, 2) := by decide +kernel
theorem dX7_word_174 : decode cX7_word 174 = .ok (.ireturn, 1) := by decide +kernel
theorem dX7_word_175 : decode cX7_word 175 = .ok (.aload_n 0, 1) := by decide +kernel
theorem dX7_word_176 : decode cX7_word 176 = .ok (.bipush 101, 2) := by decide +kernel
theorem dX7_word_178 : decode cX7_word 178 = .ok (.bipush 101, 2) := by decide +kernel
theorem dX7_word_180 : decode cX7_word 180 = .ok (.bipush 112, 2) := by decide +kernel
theorem dX7_word_182 : decode cX7_word 182 = .ok (.invokevirtual 218, 3) := by decide +kernel
theorem dX7_word_185 : decode cX7_word 185 = .ok (.bipush 107, 2) := by decide +kernel
theorem dX7_word_187 : decode cX7_word 187 = .ok (.ireturn, 1) := by decide +kernel
theorem dX7_word_188 : decode cX7_word 188 = .ok (.aload_n 0, 1) := by decide +kernel
theorem dX7_word_189 : decode cX7_word 189 = .ok (.bipush 116, 2) := by decide +kernel
theorem dX7_word_191 : decode cX7_word 191 = .ok (.bipush 101, 2) := by decide +kernel
theorem dX7_word_193 : decode cX7_word 193 = .ok (.bipush 112, 2) := by decide +kernel
theorem dX7_word_195 : decode cX7_word 195 = .ok (.invokevirtual 218, 3) := by decide +kernel
theorem dX7_word_198 : decode cX7_word 198 = .ok (.bipush 115, 2) := by decide +kernel
theorem dX7_word_200 : decode cX7_word 200 = .ok (.ireturn, 1) := by decide +kernel
theorem dX7_word_201 : decode cX7_word 201 = .ok (.aload_n 0, 1) := by decide +kernel
theorem dX7_word_202 : decode cX7_word 202 = .ok (.bipush 108, 2) := by decide +kernel
theorem dX7_word_204 : decode cX7_word 204 = .ok (.invokevirtual 211, 3) := by decide +kernel
theorem dX7_word_207 : decode cX7_word 207 = .ok (.aload_n 0, 1) := by decide +kernel
theorem dX7_word_208 : decode cX7_word 208 = .ok (.getfield 205, 3) := by decide +kernel
theorem dX7_word_211 : decode cX7_word 211 = .ok (.ifCond .ge 25, 3) := by decide +kernel
theorem dX7_word_214 : decode cX7_word 214 = .ok (.aload_n 0, 1) := by decide +kernel
theorem dX7_word_215 : decode cX7_word 215 = .ok (.invokevirtual 208, 3) := by decide +kernel
theorem dX7_word_218 : decode cX7_word 218 = .ok (.bipush 101, 2) := by decide +kernel
theorem dX7_word_220 : decode cX7_word 220 = .ok (.if_icmp .ne 16, 3) := by decide +kernel
theorem dX7_word_223 : decode cX7_word 223 = .ok (.aload_n 0, 1) := by decide +kernel
theorem dX7_word_224 : decode cX7_word 224 = .ok (.bipush 101, 2) := by decide +kernel
theorem dX7_word_226 : decode cX7_word 226 = .ok (.bipush 97, 2) := by decide +kernel
theorem dX7_word_228 : decode cX7_word 228 = .ok (.bipush 114, 2) := by decide +kernel
theorem dX7_word_230 : decode cX7_word 230 = .ok (.invokevirtual 218, 3) := by decide +kernel
theorem dX7_word_233 : decode cX7_word 233 = .ok (.bipush 101, 2) := by decide +kernel
theorem dX7_word_235 : decode cX7_word 235 = .ok (.ireturn, 1) := by decide +kernel
theorem dX7_word_236 : decode cX7_word 236 = .ok (.aload_n 0, 1) := by decide +kernel
theorem dX7_word_237 : decode cX7_word 237 = .ok (.bipush 111, 2) := by decide +kernel
theorem dX7_word_239 : decode cX7_word 239 = .ok (.bipush 117, 2) := by decide +kernel
theorem dX7_word_241 : decode cX7_word 241 = .ok (.bipush 100, 2) := by decide +kernel
theorem dX7_word_243 : decode cX7_word 243 = .ok (.invokevirtual 218, 3) := by decide +kernel
theorem dX7_word_246 : decode cX7_word 246 = .ok (.bipush 99, 2) := by decide +kernel
theorem dX7_word_248 : decode cX7_word 248 = .ok (.ireturn, 1) := by decide +kernel
theorem dX7_cell_0 : decode cX7_cell 0 = .ok (.aload_n 0, 1) := by decide +kernel
theorem dX7_cell_1 : decode cX7_cell 1 = .ok (.getfield 27, 3) := by decide +kernel
theorem dX7_cell_4 : decode cX7_cell 4 = .ok (.iload_n 1, 1) := by decide +kernel
theorem dX7_cell_5 : decode cX7_cell 5 = .ok (.aload_n 0, 1) := by decide +kernel
theorem dX7_cell_6 : decode cX7_cell 6 = .ok (.bipush 32, 2) := by decide +kernel
theorem dX7_cell_8 : decode cX7_cell 8 = .ok (.iconst 2, 1) := by decide +kernel
theorem dX7_cell_9 : decode cX7_cell 9 = .ok (.invokevirtual 221, 3) := by decide +kernel
theorem dX7_cell_12 : decode cX7_cell 12 = .ok (.iastore, 1) := by decide +kernel
theorem dX7_cell_13 : decode cX7_cell 13 = .ok (.aload_n 0, 1) := by decide +kernel
theorem dX7_cell_14 : decode cX7_cell 14 = .ok (.getfield 27, 3) := by decide +kernel
theorem dX7_cell_17 : decode cX7_cell 17 = .ok (.iload_n 1, 1) := by decide +kernel
theorem dX7_cell_18 : decode cX7_cell 18 = .ok (.iconst 1, 1) := by decide +kernel
theorem dX7_cell_19 : decode cX7_cell 19 = .ok (.iadd, 1) := by decide +kernel
theorem dX7_cell_20 : decode cX7_cell 20 = .ok (.aload_n 0, 1) := by decide +kernel
theorem dX7_cell_21 : decode cX7_cell 21 = .ok (.bipush 44, 2) := by decide +kernel
theorem dX7_cell_23 : decode cX7_cell 23 = .ok (.iconst 2, 1) := by decide +kernel
theorem dX7_cell_24 : decode cX7_cell 24 = .ok (.invokevirtual 221, 3) := by decide +kernel
theorem dX7_cell_27 : decode cX7_cell 27 = .ok (.iastore, 1) := by decide +kernel
theorem dX7_cell_28 : decode cX7_cell 28 = .ok (.return_, 1) := by decide +kernel
theorem dX7_command_0 : decode cX7_command 0 = .ok (.iconst 4, 1) := by decide +kernel
theorem dX7_command_1 : decode cX7_command 1 = .ok (.aload_n 0, 1) := by decide +kernel
theorem dX7_command_2 : decode cX7_command 2 = .ok (.getfield 224, 3) := by decide +kernel
theorem dX7_command_5 : decode cX7_command 5 = .ok (.imul, 1) := by decide +kernel
theorem dX7_command_6 : decode cX7_command 6 = .ok (.istore_n 1, 1) := by decide +kernel
theorem dX7_command_7 : decode cX7_command 7 = .ok (.aload_n 0, 1) := by decide +kernel
theorem dX7_command_8 : decode cX7_command 8 = .ok (.dup, 1) := by decide +kernel
theorem dX7_command_9 : decode cX7_command 9 = .ok (.getfield 224, 3) := by decide +kernel
theorem dX7_command_12 : decode cX7_command 12 = .ok (.iconst 1, 1) := by decide +kernel
theorem dX7_command_13 : decode cX7_command 13 = .ok (.iadd, 1) := by decide +kernel
theorem dX7_command_14 : decode cX7_command 14 = .ok (.putfield 224, 3) := by decide +kernel
theorem dX7_command_17 : decode cX7_command 17 = .ok (.aload_n 0, 1) := by decide +kernel
theorem dX7_command_18 : decode cX7_command 18 = .ok (.invokevirtual 208, 3) := by decide +kernel
theorem dX7_command_21 : decode cX7_command 21 = .ok (.istore_n 2, 1) := by decide +kernel
theorem dX7_command_22 : decode cX7_command 22 = .ok (.iconst 0, 1) := by decide +kernel
theorem dX7_command_23 : decode cX7_command 23 = .ok (.istore_n 3, 1) := by decide +kernel
theorem dX7_command_24 : decode cX7_command 24 = .ok (.iload_n 3, 1) := by decide +kernel
theorem dX7_command_25 : decode cX7_command 25 = .ok (.iconst 4, 1) := by decide +kernel
theorem dX7_command_26 : decode cX7_command 26 = .ok (.if_icmp .ge 18, 3) := by decide +kernel
theorem dX7_command_29 : decode cX7_command 29 = .ok (.aload_n 0, 1) := by decide +kernel
theorem dX7_command_30 : decode cX7_command 30 = .ok (.getfield 27, 3) := by decide +kernel
theorem dX7_command_33 : decode cX7_command 33 = .ok (.iload_n 1, 1) := by decide +kernel
theorem dX7_command_34 : decode cX7_command 34 = .ok (.iload_n 3, 1) := by decide +kernel
theorem dX7_command_35 : decode cX7_command 35 = .ok (.iadd, 1) := by decide +kernel
theorem dX7_command_36 : decode cX7_command 36 = .ok (.iconst 0, 1) := by decide +kernel
theorem dX7_command_37 : decode cX7_command 37 = .ok (.iastore, 1) := by decide +kernel
theorem dX7_command_38 : decode cX7_command 38 = .ok (.iinc 3 1, 3) := by decide +kernel
theorem dX7_command_41 : decode cX7_command 41 = .ok (.goto (-17), 3) := by decide +kernel
theorem dX7_command_44 : decode cX7_command 44 = .ok (.iload_n 2, 1) := by decide +kernel
theorem dX7_command_45 : decode cX7_command 45 = .ok (.bipush 97, 2) := by decide +kernel
theorem dX7_command_47 : decode cX7_command 47 = .ok (.if_icmp .eq 54, 3) := by decide +kernel
theorem dX7_command_50 : decode cX7_command 50 = .ok (.iload_n 2, 1) := by decide +kernel
theorem dX7_command_51 : decode cX7_command 51 = .ok (.bipush 106, 2) := by decide +kernel
theorem dX7_command_53 : decode cX7_command 53 = .ok (.if_icmp .eq 48, 3) := by decide +kernel
theorem dX7_command_56 : decode cX7_command 56 = .ok (.iload_n 2, 1) := by decide +kernel
theorem dX7_command_57 : decode cX7_command 57 = .ok (.bipush 104, 2) := by decide +kernel
theorem dX7_command_59 : decode cX7_command 59 = .ok (.if_icmp .eq 42, 3) := by decide +kernel
theorem dX7_command_62 : decode cX7_command 62 = .ok (.iload_n 2, 1) := by decide +kernel
theorem dX7_command_63 : decode cX7_command 63 = .ok (.bipush 99, 2) := by decide +kernel
theorem dX7_command_65 : decode cX7_command 65 = .ok (.if_icmp .eq 36, 3) := by decide +kernel
theorem dX7_command_68 : decode cX7_command 68 = .ok (.iload_n 2, 1) := by decide +kernel
theorem dX7_command_69 : decode cX7_command 69 = .ok (.bipush 116, 2) := by decide +kernel
theorem dX7_command_71 : decode cX7_command 71 = .ok (.if_icmp .eq 30, 3) := by decide +kernel
theorem dX7_command_74 : decode cX7_command 74 = .ok (.iload_n 2, 1) := by decide +kernel
theorem dX7_command_75 : decode cX7_command 75 = .ok (.bipush 103, 2) := by decide +kernel
theorem dX7_command_77 : decode cX7_command 77 = .ok (.if_icmp .eq 24, 3) := by decide +kernel
theorem dX7_command_80 : decode cX7_command 80 = .ok (.iload_n 2, 1) := by decide +kernel
theorem dX7_command_81 : decode cX7_command 81 = .ok (.bipush 107, 2) := by decide +kernel
theorem dX7_command_83 : decode cX7_command 83 = .ok (.if_icmp .eq 18, 3) := by decide +kernel
theorem dX7_command_86 : decode cX7_command 86 = .ok (.iload_n 2, 1) := by decide +kernel
theorem dX7_command_87 : decode cX7_command 87 = .ok (.bipush 115, 2) := by decide +kernel
theorem dX7_command_89 : decode cX7_command 89 = .ok (.if_icmp .eq 12, 3) := by decide +kernel
theorem dX7_command_92 : decode cX7_command 92 = .ok (.aload_n 0, 1) := by decide +kernel
theorem dX7_command_93 : decode cX7_command 93 = .ok (.aload_n 0, 1) := by decide +kernel
theorem dX7_command_94 : decode cX7_command 94 = .ok (.getfield 202, 3) := by decide +kernel
theorem dX7_command_97 : decode cX7_command 97 = .ok (.putfield 205, 3) := by decide +kernel
theorem dX7_command_100 : decode cX7_command 100 = .ok (.return_, 1) := by decide +kernel
theorem dX7_command_101 : decode cX7_command 101 = .ok (.aload_n 0, 1) := by decide +kernel
theorem dX7_command_102 : decode cX7_command 102 = .ok (.dup, 1) := by decide +kernel
theorem dX7_command_103 : decode cX7_command 103 = .ok (.getfield 202, 3) := by decide +kernel
theorem dX7_command_106 : decode cX7_command 106 = .ok (.iconst 1, 1) := by decide +kernel
theorem dX7_command_107 : decode cX7_command 107 = .ok (.iadd, 1) := by decide +kernel
theorem dX7_command_108 : decode cX7_command 108 = .ok (.putfield 202, 3) := by decide +kernel
theorem dX7_command_111 : decode cX7_command 111 = .ok (.aload_n 0, 1) := by decide +kernel
theorem dX7_command_112 : decode cX7_command 112 = .ok (.iload_n 2, 1) := by decide +kernel
theorem dX7_command_113 : decode cX7_command 113 = .ok (.invokevirtual 227, 3) := by decide +kernel
theorem dX7_command_116 : decode cX7_command 116 = .ok (.istore_n 3, 1) := by decide +kernel
theorem dX7_command_117 : decode cX7_command 117 = .ok (.aload_n 0, 1) := by decide +kernel
theorem dX7_command_118 : decode cX7_command 118 = .ok (.getfield 27, 3) := by decide +kernel
theorem dX7_command_121 : decode cX7_command 121 = .ok (.iload_n 1, 1) := by decide +kernel
theorem dX7_command_122 : decode cX7_command 122 = .ok (.iload_n 3, 1) := by decide +kernel
theorem dX7_command_123 : decode cX7_command 123 = .ok (.iastore, 1) := by decide +kernel
theorem dX7_command_124 : decode cX7_command 124 = .ok (.iload_n 3, 1) := by decide +kernel
theorem dX7_command_125 : decode cX7_command 125 = .ok (.tableswitch 214 97 116 #[95, 214, 214, 214, 214, 214, 214, 145, 214, 120, 178, 214, 214, 214, 214, 214, 214, 214, 196, 178], 95) := by decide +kernel
theorem dX7_command_220 : decode cX7_command 220 = .ok (.aload_n 0, 1) := by decide +kernel
theorem dX7_command_221 : decode cX7_command 221 = .ok (.iload_n 1, 1) := by decide +kernel
theorem dX7_command_222 : decode cX7_command 222 = .ok (.iconst 1, 1) := by decide +kernel
theorem dX7_command_223 : decode cX7_command 223 = .ok (.iadd, 1) := by decide +kernel
theorem dX7_command_224 : decode cX7_command 224 = .ok (.invokevirtual 230, 3) := by decide +kernel
theorem dX7_command_227 : decode cX7_command 227 = .ok (.aload_n 0, 1) := by decide +kernel
theorem dX7_command_228 : decode cX7_command 228 = .ok (.getfield 27, 3) := by decide +kernel
theorem dX7_command_231 : decode cX7_command 231 = .ok (.iload_n 1, 1) := by decide +kernel
theorem dX7_command_232 : decode cX7_command 232 = .ok (.iconst 3, 1) := by decide +kernel
theorem dX7_command_233 : decode cX7_command 233 = .ok (.iadd, 1) := by decide +kernel
theorem dX7_command_234 : decode cX7_command 234 = .ok (.aload_n 0, 1) := by decide +kernel
theorem dX7_command_235 : decode cX7_command 235 = .ok (.bipush 32, 2) := by decide +kernel
theorem dX7_command_237 : decode cX7_command 237 = .ok (.iconst 1, 1) := by decide +kernel
theorem dX7_command_238 : decode cX7_command 238 = .ok (.invokevirtual 221, 3) := by decide +kernel
theorem dX7_command_241 : decode cX7_command 241 = .ok (.iastore, 1) := by decide +kernel
theorem dX7_command_242 : decode cX7_command 242 = .ok (.goto 104, 3) := by decide +kernel
theorem dX7_command_245 : decode cX7_command 245 = .ok (.aload_n 0, 1) := by decide +kernel
theorem dX7_command_246 : decode cX7_command 246 = .ok (.getfield 27, 3) := by decide +kernel
theorem dX7_command_249 : decode cX7_command 249 = .ok (.iload_n 1, 1) := by decide +kernel
theorem dX7_command_250 : decode cX7_command 250 = .ok (.iconst 1, 1) := by decide +kernel
theorem dX7_command_251 : decode cX7_command 251 = .ok (.iadd, 1) := by decide +kernel
theorem dX7_command_252 : decode cX7_command 252 = .ok (.aload_n 0, 1) := by decide +kernel
theorem dX7_command_253 : decode cX7_command 253 = .ok (.bipush 32, 2) := by decide +kernel
theorem dX7_command_255 : decode cX7_command 255 = .ok (.iconst 1, 1) := by decide +kernel
theorem dX7_command_256 : decode cX7_command 256 = .ok (.invokevirtual 221, 3) := by decide +kernel
theorem dX7_command_259 : decode cX7_command 259 = .ok (.iastore, 1) := by decide +kernel
theorem dX7_command_260 : decode cX7_command 260 = .ok (.aload_n 0, 1) := by decide +kernel
theorem dX7_command_261 : decode cX7_command 261 = .ok (.iload_n 1, 1) := by decide +kernel
theorem dX7_command_262 : decode cX7_command 262 = .ok (.iconst 2, 1) := by decide +kernel
theorem dX7_command_263 : decode cX7_command 263 = .ok (.iadd, 1) := by decide +kernel
theorem dX7_command_264 : decode cX7_command 264 = .ok (.invokevirtual 230, 3) := by decide +kernel
theorem dX7_command_267 : decode cX7_command 267 = .ok (.goto 79, 3) := by decide +kernel
theorem dX7_command_270 : decode cX7_command 270 = .ok (.aload_n 0, 1) := by decide +kernel
theorem dX7_command_271 : decode cX7_command 271 = .ok (.getfield 27, 3) := by decide +kernel
theorem dX7_command_274 : decode cX7_command 274 = .ok (.iload_n 1, 1) := by decide +kernel
theorem dX7_command_275 : decode cX7_command 275 = .ok (.iconst 1, 1) := by decide +kernel
theorem dX7_command_276 : decode cX7_command 276 = .ok (.iadd, 1) := by decide +kernel
theorem dX7_command_277 : decode cX7_command 277 = .ok (.aload_n 0, 1) := by decide +kernel
theorem dX7_command_278 : decode cX7_command 278 = .ok (.bipush 32, 2) := by decide +kernel
theorem dX7_command_280 : decode cX7_command 280 = .ok (.iconst 1, 1) := by decide +kernel
theorem dX7_command_281 : decode cX7_command 281 = .ok (.invokevirtual 221, 3) := by decide +kernel
theorem dX7_command_284 : decode cX7_command 284 = .ok (.iastore, 1) := by decide +kernel
theorem dX7_command_285 : decode cX7_command 285 = .ok (.aload_n 0, 1) := by decide +kernel
theorem dX7_command_286 : decode cX7_command 286 = .ok (.getfield 27, 3) := by decide +kernel
theorem dX7_command_289 : decode cX7_command 289 = .ok (.iload_n 1, 1) := by decide +kernel
theorem dX7_command_290 : decode cX7_command 290 = .ok (.iconst 2, 1) := by decide +kernel
theorem dX7_command_291 : decode cX7_command 291 = .ok (.iadd, 1) := by decide +kernel
theorem dX7_command_292 : decode cX7_command 292 = .ok (.aload_n 0, 1) := by decide +kernel
theorem dX7_command_293 : decode cX7_command 293 = .ok (.bipush 32, 2) := by decide +kernel
theorem dX7_command_295 : decode cX7_command 295 = .ok (.iconst 1, 1) := by decide +kernel
theorem dX7_command_296 : decode cX7_command 296 = .ok (.invokevirtual 221, 3) := by decide +kernel
theorem dX7_command_299 : decode cX7_command 299 = .ok (.iastore, 1) := by decide +kernel
theorem dX7_command_300 : decode cX7_command 300 = .ok (.goto 46, 3) := by decide +kernel
theorem dX7_command_303 : decode cX7_command 303 = .ok (.aload_n 0, 1) := by decide +kernel
theorem dX7_command_304 : decode cX7_command 304 = .ok (.getfield 27, 3) := by decide +kernel
theorem dX7_command_307 : decode cX7_command 307 = .ok (.iload_n 1, 1) := by decide +kernel
theorem dX7_command_308 : decode cX7_command 308 = .ok (.iconst 1, 1) := by decide +kernel
theorem dX7_command_309 : decode cX7_command 309 = .ok (.iadd, 1) := by decide +kernel
theorem dX7_command_310 : decode cX7_command 310 = .ok (.aload_n 0, 1) := by decide +kernel
theorem dX7_command_311 : decode cX7_command 311 = .ok (.bipush 32, 2) := by decide +kernel
theorem dX7_command_313 : decode cX7_command 313 = .ok (.iconst 1, 1) := by decide +kernel
theorem dX7_command_314 : decode cX7_command 314 = .ok (.invokevirtual 221, 3) := by decide +kernel
theorem dX7_command_317 : decode cX7_command 317 = .ok (.iastore, 1) := by decide +kernel
theorem dX7_command_318 : decode cX7_command 318 = .ok (.goto 28, 3) := by decide +kernel
theorem dX7_command_321 : decode cX7_command 321 = .ok (.aload_n 0, 1) := by decide +kernel
theorem dX7_command_322 : decode cX7_command 322 = .ok (.getfield 27, 3) := by decide +kernel
theorem dX7_command_325 : decode cX7_command 325 = .ok (.iload_n 1, 1) := by decide +kernel
theorem dX7_command_326 : decode cX7_command 326 = .ok (.iconst 1, 1) := by decide +kernel
theorem dX7_command_327 : decode cX7_command 327 = .ok (.iadd, 1) := by decide +kernel
theorem dX7_command_328 : decode cX7_command 328 = .ok (.aload_n 0, 1) := by decide +kernel
theorem dX7_command_329 : decode cX7_command 329 = .ok (.bipush 32, 2) := by decide +kernel
theorem dX7_command_331 : decode cX7_command 331 = .ok (.iconst 2, 1) := by decide +kernel
theorem dX7_command_332 : decode cX7_command 332 = .ok (.invokevirtual 221, 3) := by decide +kernel
theorem dX7_command_335 : decode cX7_command 335 = .ok (.iastore, 1) := by decide +kernel
theorem dX7_command_336 : decode cX7_command 336 = .ok (.goto 10, 3) := by decide +kernel
theorem dX7_command_339 : decode cX7_command 339 = .ok (.aload_n 0, 1) := by decide +kernel
theorem dX7_command_340 : decode cX7_command 340 = .ok (.iload_n 1, 1) := by decide +kernel
theorem dX7_command_341 : decode cX7_command 341 = .ok (.iconst 1, 1) := by decide +kernel
theorem dX7_command_342 : decode cX7_command 342 = .ok (.iadd, 1) := by decide +kernel
theorem dX7_command_343 : decode cX7_command 343 = .ok (.invokevirtual 230, 3) := by decide +kernel
theorem dX7_command_346 : decode cX7_command 346 = .ok (.return_, 1) := by decide +kernel
theorem dX7_parse_0 : decode cX7_parse 0 = .ok (.aload_n 0, 1) := by decide +kernel
theorem dX7_parse_1 : decode cX7_parse 1 = .ok (.iconst 0, 1) := by decide +kernel
theorem dX7_parse_2 : decode cX7_parse 2 = .ok (.putfield 202, 3) := by decide +kernel
theorem dX7_parse_5 : decode cX7_parse 5 = .ok (.aload_n 0, 1) := by decide +kernel
theorem dX7_parse_6 : decode cX7_parse 6 = .ok (.iconst (-1), 1) := by decide +kernel
theorem dX7_parse_7 : decode cX7_parse 7 = .ok (.putfield 205, 3) := by decide +kernel
theorem dX7_parse_10 : decode cX7_parse 10 = .ok (.aload_n 0, 1) := by decide +kernel
theorem dX7_parse_11 : decode cX7_parse 11 = .ok (.iconst 0, 1) := by decide +kernel
theorem dX7_parse_12 : decode cX7_parse 12 = .ok (.putfield 224, 3) := by decide +kernel
theorem dX7_parse_15 : decode cX7_parse 15 = .ok (.aload_n 0, 1) := by decide +kernel
theorem dX7_parse_16 : decode cX7_parse 16 = .ok (.invokevirtual 233, 3) := by decide +kernel
theorem dX7_parse_19 : decode cX7_parse 19 = .ok (.aload_n 0, 1) := by decide +kernel
theorem dX7_parse_20 : decode cX7_parse 20 = .ok (.getfield 205, 3) := by decide +kernel
theorem dX7_parse_23 : decode cX7_parse 23 = .ok (.ifCond .ge 29, 3) := by decide +kernel
theorem dX7_parse_26 : decode cX7_parse 26 = .ok (.aload_n 0, 1) := by decide +kernel
theorem dX7_parse_27 : decode cX7_parse 27 = .ok (.invokevirtual 208, 3) := by decide +kernel
theorem dX7_parse_30 : decode cX7_parse 30 = .ok (.bipush 59, 2) := by decide +kernel
theorem dX7_parse_32 : decode cX7_parse 32 = .ok (.if_icmp .ne 20, 3) := by decide +kernel
theorem dX7_parse_35 : decode cX7_parse 35 = .ok (.aload_n 0, 1) := by decide +kernel
theorem dX7_parse_36 : decode cX7_parse 36 = .ok (.dup, 1) := by decide +kernel
theorem dX7_parse_37 : decode cX7_parse 37 = .ok (.getfield 202, 3) := by decide +kernel
theorem dX7_parse_40 : decode cX7_parse 40 = .ok (.iconst 1, 1) := by decide +kernel
theorem dX7_parse_41 : decode cX7_parse 41 = .ok (.iadd, 1) := by decide +kernel
theorem dX7_parse_42 : decode cX7_parse 42 = .ok (.putfield 202, 3) := by decide +kernel
theorem dX7_parse_45 : decode cX7_parse 45 = .ok (.aload_n 0, 1) := by decide +kernel
theorem dX7_parse_46 : decode cX7_parse 46 = .ok (.invokevirtual 233, 3) := by decide +kernel
theorem dX7_parse_49 : decode cX7_parse 49 = .ok (.goto (-30), 3) := by decide +kernel
theorem dX7_parse_52 : decode cX7_parse 52 = .ok (.aload_n 0, 1) := by decide +kernel
theorem dX7_parse_53 : decode cX7_parse 53 = .ok (.getfield 205, 3) := by decide +kernel
theorem dX7_parse_56 : decode cX7_parse 56 = .ok (.ifCond .ge 22, 3) := by decide +kernel
theorem dX7_parse_59 : decode cX7_parse 59 = .ok (.aload_n 0, 1) := by decide +kernel
theorem dX7_parse_60 : decode cX7_parse 60 = .ok (.getfield 202, 3) := by decide +kernel
theorem dX7_parse_63 : decode cX7_parse 63 = .ok (.aload_n 0, 1) := by decide +kernel
theorem dX7_parse_64 : decode cX7_parse 64 = .ok (.getfield 199, 3) := by decide +kernel
theorem dX7_parse_67 : decode cX7_parse 67 = .ok (.if_icmp .ge 11, 3) := by decide +kernel
theorem dX7_parse_70 : decode cX7_parse 70 = .ok (.aload_n 0, 1) := by decide +kernel
theorem dX7_parse_71 : decode cX7_parse 71 = .ok (.aload_n 0, 1) := by decide +kernel
theorem dX7_parse_72 : decode cX7_parse 72 = .ok (.getfield 202, 3) := by decide +kernel
theorem dX7_parse_75 : decode cX7_parse 75 = .ok (.putfield 205, 3) := by decide +kernel
theorem dX7_parse_78 : decode cX7_parse 78 = .ok (.return_, 1) := by decide +kernel
theorem dX7_does_0 : decode cX7_does 0 = .ok (.aload_n 0, 1) := by decide +kernel
theorem dX7_does_1 : decode cX7_does 1 = .ok (.getfield 27, 3) := by decide +kernel
theorem dX7_does_4 : decode cX7_does 4 = .ok (.iload_n 1, 1) := by decide +kernel
theorem dX7_does_5 : decode cX7_does 5 = .ok (.iconst 1, 1) := by decide +kernel
theorem dX7_does_6 : decode cX7_does 6 = .ok (.iadd, 1) := by decide +kernel
theorem dX7_does_7 : decode cX7_does 7 = .ok (.iaload, 1) := by decide +kernel
theorem dX7_does_8 : decode cX7_does 8 = .ok (.istore_n 2, 1) := by decide +kernel
theorem dX7_does_9 : decode cX7_does 9 = .ok (.aload_n 0, 1) := by decide +kernel
theorem dX7_does_10 : decode cX7_does 10 = .ok (.getfield 27, 3) := by decide +kernel
theorem dX7_does_13 : decode cX7_does 13 = .ok (.iload_n 1, 1) := by decide +kernel
theorem dX7_does_14 : decode cX7_does 14 = .ok (.iconst 2, 1) := by decide +kernel
theorem dX7_does_15 : decode cX7_does 15 = .ok (.iadd, 1) := by decide +kernel
theorem dX7_does_16 : decode cX7_does 16 = .ok (.iaload, 1) := by decide +kernel
theorem dX7_does_17 : decode cX7_does 17 = .ok (.istore_n 3, 1) := by decide +kernel
theorem dX7_does_18 : decode cX7_does 18 = .ok (.aload_n 0, 1) := by decide +kernel
theorem dX7_does_19 : decode cX7_does 19 = .ok (.getfield 27, 3) := by decide +kernel
theorem dX7_does_22 : decode cX7_does 22 = .ok (.iload_n 1, 1) := by decide +kernel
theorem dX7_does_23 : decode cX7_does 23 = .ok (.iconst 3, 1) := by decide +kernel
theorem dX7_does_24 : decode cX7_does 24 = .ok (.iadd, 1) := by decide +kernel
theorem dX7_does_25 : decode cX7_does 25 = .ok (.iaload, 1) := by decide +kernel
theorem dX7_does_26 : decode cX7_does 26 = .ok (.istore 4, 2) := by decide +kernel
theorem dX7_does_28 : decode cX7_does 28 = .ok (.aload_n 0, 1) := by decide +kernel
theorem dX7_does_29 : decode cX7_does 29 = .ok (.getfield 27, 3) := by decide +kernel
theorem dX7_does_32 : decode cX7_does 32 = .ok (.iload_n 1, 1) := by decide +kernel
theorem dX7_does_33 : decode cX7_does 33 = .ok (.iaload, 1) := by decide +kernel
theorem dX7_does_34 : decode cX7_does 34 = .ok (.tableswitch 152 97 116 #[94, 152, 119, 152, 126, 152, 139, 112, 152, 103, 146, 152, 152, 152, 152, 152, 152, 152, 152, 133], 94) := by decide +kernel
theorem dX7_does_128 : decode cX7_does 128 = .ok (.aload_n 0, 1) := by decide +kernel
theorem dX7_does_129 : decode cX7_does 129 = .ok (.iload_n 2, 1) := by decide +kernel
theorem dX7_does_130 : decode cX7_does 130 = .ok (.iload_n 3, 1) := by decide +kernel
theorem dX7_does_131 : decode cX7_does 131 = .ok (.iload 4, 2) := by decide +kernel
theorem dX7_does_133 : decode cX7_does 133 = .ok (.invokevirtual 121, 3) := by decide +kernel
theorem dX7_does_136 : decode cX7_does 136 = .ok (.ireturn, 1) := by decide +kernel
theorem dX7_does_137 : decode cX7_does 137 = .ok (.aload_n 0, 1) := by decide +kernel
theorem dX7_does_138 : decode cX7_does 138 = .ok (.iload_n 2, 1) := by decide +kernel
theorem dX7_does_139 : decode cX7_does 139 = .ok (.iload_n 3, 1) := by decide +kernel
theorem dX7_does_140 : decode cX7_does 140 = .ok (.iload 4, 2) := by decide +kernel
theorem dX7_does_142 : decode cX7_does 142 = .ok (.invokevirtual 132, 3) := by decide +kernel
theorem dX7_does_145 : decode cX7_does 145 = .ok (.ireturn, 1) := by decide +kernel
theorem dX7_does_146 : decode cX7_does 146 = .ok (.aload_n 0, 1) := by decide +kernel
theorem dX7_does_147 : decode cX7_does 147 = .ok (.iload_n 2, 1) := by decide +kernel
theorem dX7_does_148 : decode cX7_does 148 = .ok (.iload_n 3, 1) := by decide +kernel
theorem dX7_does_149 : decode cX7_does 149 = .ok (.invokevirtual 135, 3) := by decide +kernel
theorem dX7_does_152 : decode cX7_does 152 = .ok (.ireturn, 1) := by decide +kernel
theorem dX7_does_153 : decode cX7_does 153 = .ok (.aload_n 0, 1) := by decide +kernel
theorem dX7_does_154 : decode cX7_does 154 = .ok (.iload_n 2, 1) := by decide +kernel
theorem dX7_does_155 : decode cX7_does 155 = .ok (.iload_n 3, 1) := by decide +kernel
theorem dX7_does_156 : decode cX7_does 156 = .ok (.invokevirtual 141, 3) := by decide +kernel
theorem dX7_does_159 : decode cX7_does 159 = .ok (.ireturn, 1) := by decide +kernel
theorem dX7_does_160 : decode cX7_does 160 = .ok (.aload_n 0, 1) := by decide +kernel
theorem dX7_does_161 : decode cX7_does 161 = .ok (.iload_n 2, 1) := by decide +kernel
theorem dX7_does_162 : decode cX7_does 162 = .ok (.iload_n 3, 1) := by decide +kernel
theorem dX7_does_163 : decode cX7_does 163 = .ok (.invokevirtual 144, 3) := by decide +kernel
theorem dX7_does_166 : decode cX7_does 166 = .ok (.ireturn, 1) := by decide +kernel
theorem dX7_does_167 : decode cX7_does 167 = .ok (.aload_n 0, 1) := by decide +kernel
theorem dX7_does_168 : decode cX7_does 168 = .ok (.iload_n 2, 1) := by decide +kernel
theorem dX7_does_169 : decode cX7_does 169 = .ok (.invokevirtual 147, 3) := by decide +kernel
theorem dX7_does_172 : decode cX7_does 172 = .ok (.ireturn, 1) := by decide +kernel
theorem dX7_does_173 : decode cX7_does 173 = .ok (.aload_n 0, 1) := by decide +kernel
theorem dX7_does_174 : decode cX7_does 174 = .ok (.iload_n 2, 1) := by decide +kernel
theorem dX7_does_175 : decode cX7_does 175 = .ok (.iload_n 3, 1) := by decide +kernel
theorem dX7_does_176 : decode cX7_does 176 = .ok (.invokevirtual 150, 3) := by decide +kernel
theorem dX7_does_179 : decode cX7_does 179 = .ok (.ireturn, 1) := by decide +kernel
theorem dX7_does_180 : decode cX7_does 180 = .ok (.aload_n 0, 1) := by decide +kernel
theorem dX7_does_181 : decode cX7_does 181 = .ok (.iload_n 2, 1) := by decide +kernel
theorem dX7_does_182 : decode cX7_does 182 = .ok (.invokevirtual 153, 3) := by decide +kernel
theorem dX7_does_185 : decode cX7_does 185 = .ok (.ireturn, 1) := by decide +kernel
theorem dX7_does_186 : decode cX7_does 186 = .ok (.aload_n 0, 1) := by decide +kernel
theorem dX7_does_187 : decode cX7_does 187 = .ok (.iload_n 2, 1) := by decide +kernel
theorem dX7_does_188 : decode cX7_does 188 = .ok (.invokevirtual 159, 3) := by decide +kernel
theorem dX7_does_191 : decode cX7_does 191 = .ok (.ireturn, 1) := by decide +kernel
theorem dX7_run_0 : decode cX7_run 0 = .ok (.aload_n 0, 1) := by decide +kernel
theorem dX7_run_1 : decode cX7_run 1 = .ok (.invokevirtual 236, 3) := by decide +kernel
theorem dX7_run_4 : decode cX7_run 4 = .ok (.aload_n 0, 1) := by decide +kernel
theorem dX7_run_5 : decode cX7_run 5 = .ok (.iconst 0, 1) := by decide +kernel
theorem dX7_run_6 : decode cX7_run 6 = .ok (.putfield 199, 3) := by decide +kernel
theorem dX7_run_9 : decode cX7_run 9 = .ok (.aload_n 0, 1) := by decide +kernel
theorem dX7_run_10 : decode cX7_run 10 = .ok (.getfield 205, 3) := by decide +kernel
theorem dX7_run_13 : decode cX7_run 13 = .ok (.ifCond .lt 18, 3) := by decide +kernel
theorem dX7_run_16 : decode cX7_run 16 = .ok (.aload_n 0, 1) := by decide +kernel
theorem dX7_run_17 : decode cX7_run 17 = .ok (.aload_n 0, 1) := by decide +kernel
theorem dX7_run_18 : decode cX7_run 18 = .ok (.getfield 205, 3) := by decide +kernel
theorem dX7_run_21 : decode cX7_run 21 = .ok (.putfield 20, 3) := by decide +kernel
theorem dX7_run_24 : decode cX7_run 24 = .ok (.aload_n 0, 1) := by decide +kernel
theorem dX7_run_25 : decode cX7_run 25 = .ok (.iconst 1, 1) := by decide +kernel
theorem dX7_run_26 : decode cX7_run 26 = .ok (.putfield 33, 3) := by decide +kernel
theorem dX7_run_29 : decode cX7_run 29 = .ok (.iconst 0, 1) := by decide +kernel
theorem dX7_run_30 : decode cX7_run 30 = .ok (.ireturn, 1) := by decide +kernel
theorem dX7_run_31 : decode cX7_run 31 = .ok (.aload_n 0, 1) := by decide +kernel
theorem dX7_run_32 : decode cX7_run 32 = .ok (.invokevirtual 118, 3) := by decide +kernel
theorem dX7_run_35 : decode cX7_run 35 = .ok (.iconst 0, 1) := by decide +kernel
theorem dX7_run_36 : decode cX7_run 36 = .ok (.istore_n 1, 1) := by decide +kernel
theorem dX7_run_37 : decode cX7_run 37 = .ok (.iload_n 1, 1) := by decide +kernel
theorem dX7_run_38 : decode cX7_run 38 = .ok (.aload_n 0, 1) := by decide +kernel
theorem dX7_run_39 : decode cX7_run 39 = .ok (.getfield 224, 3) := by decide +kernel
theorem dX7_run_42 : decode cX7_run 42 = .ok (.if_icmp .ge 19, 3) := by decide +kernel
theorem dX7_run_45 : decode cX7_run 45 = .ok (.aload_n 0, 1) := by decide +kernel
theorem dX7_run_46 : decode cX7_run 46 = .ok (.iconst 4, 1) := by decide +kernel
theorem dX7_run_47 : decode cX7_run 47 = .ok (.iload_n 1, 1) := by decide +kernel
theorem dX7_run_48 : decode cX7_run 48 = .ok (.imul, 1) := by decide +kernel
theorem dX7_run_49 : decode cX7_run 49 = .ok (.invokevirtual 239, 3) := by decide +kernel
theorem dX7_run_52 : decode cX7_run 52 = .ok (.ifCond .ne 9, 3) := by decide +kernel
theorem dX7_run_55 : decode cX7_run 55 = .ok (.iinc 1 1, 3) := by decide +kernel
theorem dX7_run_58 : decode cX7_run 58 = .ok (.goto (-21), 3) := by decide +kernel
theorem dX7_run_61 : decode cX7_run 61 = .ok (.iload_n 1, 1) := by decide +kernel
theorem dX7_run_62 : decode cX7_run 62 = .ok (.aload_n 0, 1) := by decide +kernel
theorem dX7_run_63 : decode cX7_run 63 = .ok (.getfield 224, 3) := by decide +kernel
theorem dX7_run_66 : decode cX7_run 66 = .ok (.if_icmp .ne 7, 3) := by decide +kernel
theorem dX7_run_69 : decode cX7_run 69 = .ok (.iconst 1, 1) := by decide +kernel
theorem dX7_run_70 : decode cX7_run 70 = .ok (.goto 4, 3) := by decide +kernel
theorem dX7_run_73 : decode cX7_run 73 = .ok (.iconst 0, 1) := by decide +kernel
theorem dX7_run_74 : decode cX7_run 74 = .ok (.istore_n 2, 1) := by decide +kernel
theorem dX7_run_75 : decode cX7_run 75 = .ok (.aload_n 0, 1) := by decide +kernel
theorem dX7_run_76 : decode cX7_run 76 = .ok (.iload_n 2, 1) := by decide +kernel
theorem dX7_run_77 : decode cX7_run 77 = .ok (.ifCond .eq 10, 3) := by decide +kernel
theorem dX7_run_80 : decode cX7_run 80 = .ok (.aload_n 0, 1) := by decide +kernel
theorem dX7_run_81 : decode cX7_run 81 = .ok (.getfield 24, 3) := by decide +kernel
theorem dX7_run_84 : decode cX7_run 84 = .ok (.goto 4, 3) := by decide +kernel
theorem dX7_run_87 : decode cX7_run 87 = .ok (.iload_n 1, 1) := by decide +kernel
theorem dX7_run_88 : decode cX7_run 88 = .ok (.putfield 24, 3) := by decide +kernel
theorem dX7_run_91 : decode cX7_run 91 = .ok (.aload_n 0, 1) := by decide +kernel
theorem dX7_run_92 : decode cX7_run 92 = .ok (.aload_n 0, 1) := by decide +kernel
theorem dX7_run_93 : decode cX7_run 93 = .ok (.getfield 224, 3) := by decide +kernel
theorem dX7_run_96 : decode cX7_run 96 = .ok (.putfield 43, 3) := by decide +kernel
theorem dX7_run_99 : decode cX7_run 99 = .ok (.aload_n 0, 1) := by decide +kernel
theorem dX7_run_100 : decode cX7_run 100 = .ok (.iload_n 2, 1) := by decide +kernel
theorem dX7_run_101 : decode cX7_run 101 = .ok (.ifCond .eq 7, 3) := by decide +kernel
theorem dX7_run_104 : decode cX7_run 104 = .ok (.iconst 0, 1) := by decide +kernel
theorem dX7_run_105 : decode cX7_run 105 = .ok (.goto 4, 3) := by decide +kernel
theorem dX7_run_108 : decode cX7_run 108 = .ok (.iconst 3, 1) := by decide +kernel
theorem dX7_run_109 : decode cX7_run 109 = .ok (.iconst 0, 1) := by decide +kernel
theorem dX7_run_110 : decode cX7_run 110 = .ok (.iconst 0, 1) := by decide +kernel
theorem dX7_run_111 : decode cX7_run 111 = .ok (.iconst 2, 1) := by decide +kernel
theorem dX7_run_112 : decode cX7_run 112 = .ok (.iconst 0, 1) := by decide +kernel
theorem dX7_run_113 : decode cX7_run 113 = .ok (.iconst 0, 1) := by decide +kernel
theorem dX7_run_114 : decode cX7_run 114 = .ok (.invokevirtual 124, 3) := by decide +kernel
theorem dX7_run_117 : decode cX7_run 117 = .ok (.ireturn, 1) := by decide +kernel
theorem dX7_errorPosition_0 : decode cX7_errorPosition 0 = .ok (.aload_n 0, 1) := by decide +kernel
theorem dX7_errorPosition_1 : decode cX7_errorPosition 1 = .ok (.aload_n 0, 1) := by decide +kernel
theorem dX7_errorPosition_2 : decode cX7_errorPosition 2 = .ok (.getfield 20, 3) := by decide +kernel
theorem dX7_errorPosition_5 : decode cX7_errorPosition 5 = .ok (.iconst (-1), 1) := by decide +kernel
theorem dX7_errorPosition_6 : decode cX7_errorPosition 6 = .ok (.if_icmp .eq 7, 3) := by decide +kernel
theorem dX7_errorPosition_9 : decode cX7_errorPosition 9 = .ok (.iconst 1, 1) := by decide +kernel
theorem dX7_errorPosition_10 : decode cX7_errorPosition 10 = .ok (.goto 4, 3) := by decide +kernel
theorem dX7_errorPosition_13 : decode cX7_errorPosition 13 = .ok (.iconst 0, 1) := by decide +kernel
theorem dX7_errorPosition_14 : decode cX7_errorPosition 14 = .ok (.invokevirtual 78, 3) := by decide +kernel
theorem dX7_errorPosition_17 : decode cX7_errorPosition 17 = .ok (.ifCond .eq 10, 3) := by decide +kernel
theorem dX7_errorPosition_20 : decode cX7_errorPosition 20 = .ok (.aload_n 0, 1) := by decide +kernel
theorem dX7_errorPosition_21 : decode cX7_errorPosition 21 = .ok (.getfield 20, 3) := by decide +kernel
theorem dX7_errorPosition_24 : decode cX7_errorPosition 24 = .ok (.goto 4, 3) := by decide +kernel
theorem dX7_errorPosition_27 : decode cX7_errorPosition 27 = .ok (.iconst 0, 1) := by decide +kernel
theorem dX7_errorPosition_28 : decode cX7_errorPosition 28 = .ok (.ireturn, 1) := by decide +kernel
theorem dX7_failedCommand_0 : decode cX7_failedCommand 0 = .ok (.aload_n 0, 1) := by decide +kernel
theorem dX7_failedCommand_1 : decode cX7_failedCommand 1 = .ok (.aload_n 0, 1) := by decide +kernel
theorem dX7_failedCommand_2 : decode cX7_failedCommand 2 = .ok (.getfield 24, 3) := by decide +kernel
theorem dX7_failedCommand_5 : decode cX7_failedCommand 5 = .ok (.iconst (-1), 1) := by decide +kernel
theorem dX7_failedCommand_6 : decode cX7_failedCommand 6 = .ok (.if_icmp .eq 7, 3) := by decide +kernel
theorem dX7_failedCommand_9 : decode cX7_failedCommand 9 = .ok (.iconst 1, 1) := by decide +kernel
theorem dX7_failedCommand_10 : decode cX7_failedCommand 10 = .ok (.goto 4, 3) := by decide +kernel
theorem dX7_failedCommand_13 : decode cX7_failedCommand 13 = .ok (.iconst 0, 1) := by decide +kernel
theorem dX7_failedCommand_14 : decode cX7_failedCommand 14 = .ok (.invokevirtual 78, 3) := by decide +kernel
theorem dX7_failedCommand_17 : decode cX7_failedCommand 17 = .ok (.ifCond .eq 10, 3) := by decide +kernel
theorem dX7_failedCommand_20 : decode cX7_failedCommand 20 = .ok (.aload_n 0, 1) := by decide +kernel
theorem dX7_failedCommand_21 : decode cX7_failedCommand 21 = .ok (.getfield 24, 3) := by decide +kernel
theorem dX7_failedCommand_24 : decode cX7_failedCommand 24 = .ok (.goto 4, 3) := by decide +kernel
theorem dX7_failedCommand_27 : decode cX7_failedCommand 27 = .ok (.iconst 0, 1) := by decide +kernel
theorem dX7_failedCommand_28 : decode cX7_failedCommand 28 = .ok (.ireturn, 1) := by decide +kernel
theorem dX7_describeRow_0 : decode cX7_describeRow 0 = .ok (.aload_n 0, 1) := by decide +kernel
theorem dX7_describeRow_1 : decode cX7_describeRow 1 = .ok (.iload_n 1, 1) := by decide +kernel
theorem dX7_describeRow_2 : decode cX7_describeRow 2 = .ok (.iconst 0, 1) := by decide +kernel
theorem dX7_describeRow_3 : decode cX7_describeRow 3 = .ok (.bipush 11, 2) := by decide +kernel
theorem dX7_describeRow_5 : decode cX7_describeRow 5 = .ok (.invokestatic 46, 3) := by decide +kernel
theorem dX7_describeRow_8 : decode cX7_describeRow 8 = .ok (.invokevirtual 78, 3) := by decide +kernel
theorem dX7_describeRow_11 : decode cX7_describeRow 11 = .ok (.ifCond .ne 5, 3) := by decide +kernel
theorem dX7_describeRow_14 : decode cX7_describeRow 14 = .ok (.iconst 0, 1) := by decide +kernel
theorem dX7_describeRow_15 : decode cX7_describeRow 15 = .ok (.ireturn, 1) := by decide +kernel
theorem dX7_describeRow_16 : decode cX7_describeRow 16 = .ok (.aload_n 0, 1) := by decide +kernel
theorem dX7_describeRow_17 : decode cX7_describeRow 17 = .ok (.bipush 12, 2) := by decide +kernel
theorem dX7_describeRow_19 : decode cX7_describeRow 19 = .ok (.putfield 242, 3) := by decide +kernel
theorem dX7_describeRow_22 : decode cX7_describeRow 22 = .ok (.iconst 0, 1) := by decide +kernel
theorem dX7_describeRow_23 : decode cX7_describeRow 23 = .ok (.istore_n 2, 1) := by decide +kernel
theorem dX7_describeRow_24 : decode cX7_describeRow 24 = .ok (.iload_n 2, 1) := by decide +kernel
theorem dX7_describeRow_25 : decode cX7_describeRow 25 = .ok (.bipush 12, 2) := by decide +kernel
theorem dX7_describeRow_27 : decode cX7_describeRow 27 = .ok (.if_icmp .ge 53, 3) := by decide +kernel
theorem dX7_describeRow_30 : decode cX7_describeRow 30 = .ok (.aload_n 0, 1) := by decide +kernel
theorem dX7_describeRow_31 : decode cX7_describeRow 31 = .ok (.getfield 30, 3) := by decide +kernel
theorem dX7_describeRow_34 : decode cX7_describeRow 34 = .ok (.iload_n 2, 1) := by decide +kernel
theorem dX7_describeRow_35 : decode cX7_describeRow 35 = .ok (.aload_n 0, 1) := by decide +kernel
theorem dX7_describeRow_36 : decode cX7_describeRow 36 = .ok (.iload_n 2, 1) := by decide +kernel
theorem dX7_describeRow_37 : decode cX7_describeRow 37 = .ok (.iload_n 1, 1) := by decide +kernel
theorem dX7_describeRow_38 : decode cX7_describeRow 38 = .ok (.invokevirtual 138, 3) := by decide +kernel
theorem dX7_describeRow_41 : decode cX7_describeRow 41 = .ok (.ifCond .lt 15, 3) := by decide +kernel
theorem dX7_describeRow_44 : decode cX7_describeRow 44 = .ok (.bipush 48, 2) := by decide +kernel
theorem dX7_describeRow_46 : decode cX7_describeRow 46 = .ok (.aload_n 0, 1) := by decide +kernel
theorem dX7_describeRow_47 : decode cX7_describeRow 47 = .ok (.iload_n 2, 1) := by decide +kernel
theorem dX7_describeRow_48 : decode cX7_describeRow 48 = .ok (.iload_n 1, 1) := by decide +kernel
theorem dX7_describeRow_49 : decode cX7_describeRow 49 = .ok (.invokevirtual 138, 3) := by decide +kernel
theorem dX7_describeRow_52 : decode cX7_describeRow 52 = .ok (.iadd, 1) := by decide +kernel
theorem dX7_describeRow_53 : decode cX7_describeRow 53 = .ok (.goto 19, 3) := by decide +kernel
theorem dX7_describeRow_56 : decode cX7_describeRow 56 = .ok (.aload_n 0, 1) := by decide +kernel
theorem dX7_describeRow_57 : decode cX7_describeRow 57 = .ok (.iload_n 2, 1) := by decide +kernel
theorem dX7_describeRow_58 : decode cX7_describeRow 58 = .ok (.iload_n 1, 1) := by decide +kernel
theorem dX7_describeRow_59 : decode cX7_describeRow 59 = .ok (.invokevirtual 66, 3) := by decide +kernel
theorem dX7_describeRow_62 : decode cX7_describeRow 62 = .ok (.ifCond .lt 8, 3) := by decide +kernel
theorem dX7_describeRow_65 : decode cX7_describeRow 65 = .ok (.bipush 35, 2) := by decide +kernel
theorem dX7_describeRow_67 : decode cX7_describeRow 67 = .ok (.goto 5, 3) := by decide +kernel
theorem dX7_describeRow_70 : decode cX7_describeRow 70 = .ok (.bipush 46, 2) := by decide +kernel
theorem dX7_describeRow_72 : decode cX7_describeRow 72 = .ok (.i2c, 1) := by decide +kernel
theorem dX7_describeRow_73 : decode cX7_describeRow 73 = .ok (.castore, 1) := by decide +kernel
theorem dX7_describeRow_74 : decode cX7_describeRow 74 = .ok (.iinc 2 1, 3) := by decide +kernel
theorem dX7_describeRow_77 : decode cX7_describeRow 77 = .ok (.goto (-53), 3) := by decide +kernel
theorem dX7_describeRow_80 : decode cX7_describeRow 80 = .ok (.aload_n 0, 1) := by decide +kernel
theorem dX7_describeRow_81 : decode cX7_describeRow 81 = .ok (.getfield 242, 3) := by decide +kernel
theorem dX7_describeRow_84 : decode cX7_describeRow 84 = .ok (.ireturn, 1) := by decide +kernel
theorem dX7_lineAt_0 : decode cX7_lineAt 0 = .ok (.aload_n 0, 1) := by decide +kernel
theorem dX7_lineAt_1 : decode cX7_lineAt 1 = .ok (.iload_n 1, 1) := by decide +kernel
theorem dX7_lineAt_2 : decode cX7_lineAt 2 = .ok (.iconst 0, 1) := by decide +kernel
theorem dX7_lineAt_3 : decode cX7_lineAt 3 = .ok (.aload_n 0, 1) := by decide +kernel
theorem dX7_lineAt_4 : decode cX7_lineAt 4 = .ok (.getfield 242, 3) := by decide +kernel
theorem dX7_lineAt_7 : decode cX7_lineAt 7 = .ok (.iconst 1, 1) := by decide +kernel
theorem dX7_lineAt_8 : decode cX7_lineAt 8 = .ok (.isub, 1) := by decide +kernel
theorem dX7_lineAt_9 : decode cX7_lineAt 9 = .ok (.invokestatic 46, 3) := by decide +kernel
theorem dX7_lineAt_12 : decode cX7_lineAt 12 = .ok (.invokevirtual 78, 3) := by decide +kernel
theorem dX7_lineAt_15 : decode cX7_lineAt 15 = .ok (.ifCond .eq 12, 3) := by decide +kernel
theorem dX7_lineAt_18 : decode cX7_lineAt 18 = .ok (.aload_n 0, 1) := by decide +kernel
theorem dX7_lineAt_19 : decode cX7_lineAt 19 = .ok (.getfield 30, 3) := by decide +kernel
theorem dX7_lineAt_22 : decode cX7_lineAt 22 = .ok (.iload_n 1, 1) := by decide +kernel
theorem dX7_lineAt_23 : decode cX7_lineAt 23 = .ok (.caload, 1) := by decide +kernel
theorem dX7_lineAt_24 : decode cX7_lineAt 24 = .ok (.goto 4, 3) := by decide +kernel
theorem dX7_lineAt_27 : decode cX7_lineAt 27 = .ok (.iconst 0, 1) := by decide +kernel
theorem dX7_lineAt_28 : decode cX7_lineAt 28 = .ok (.ireturn, 1) := by decide +kernel
theorem dX7_meanDistance_0 : decode cX7_meanDistance 0 = .ok (.aload_n 0, 1) := by decide +kernel
theorem dX7_meanDistance_1 : decode cX7_meanDistance 1 = .ok (.aload_n 0, 1) := by decide +kernel
theorem dX7_meanDistance_2 : decode cX7_meanDistance 2 = .ok (.getfield 9, 3) := by decide +kernel
theorem dX7_meanDistance_5 : decode cX7_meanDistance 5 = .ok (.iconst 0, 1) := by decide +kernel
theorem dX7_meanDistance_6 : decode cX7_meanDistance 6 = .ok (.iaload, 1) := by decide +kernel
theorem dX7_meanDistance_7 : decode cX7_meanDistance 7 = .ok (.iconst 1, 1) := by decide +kernel
theorem dX7_meanDistance_8 : decode cX7_meanDistance 8 = .ok (.if_icmp .le 7, 3) := by decide +kernel
theorem dX7_meanDistance_11 : decode cX7_meanDistance 11 = .ok (.iconst 1, 1) := by decide +kernel
theorem dX7_meanDistance_12 : decode cX7_meanDistance 12 = .ok (.goto 4, 3) := by decide +kernel
theorem dX7_meanDistance_15 : decode cX7_meanDistance 15 = .ok (.iconst 0, 1) := by decide +kernel
theorem dX7_meanDistance_16 : decode cX7_meanDistance 16 = .ok (.invokevirtual 78, 3) := by decide +kernel
theorem dX7_meanDistance_19 : decode cX7_meanDistance 19 = .ok (.ifCond .ne 5, 3) := by decide +kernel
theorem dX7_meanDistance_22 : decode cX7_meanDistance 22 = .ok (.dconst 0, 1) := by decide +kernel
theorem dX7_meanDistance_23 : decode cX7_meanDistance 23 = .ok (.dreturn, 1) := by decide +kernel
theorem dX7_meanDistance_24 : decode cX7_meanDistance 24 = .ok (.iconst 0, 1) := by decide +kernel
theorem dX7_meanDistance_25 : decode cX7_meanDistance 25 = .ok (.istore_n 1, 1) := by decide +kernel
theorem dX7_meanDistance_26 : decode cX7_meanDistance 26 = .ok (.iconst 0, 1) := by decide +kernel
theorem dX7_meanDistance_27 : decode cX7_meanDistance 27 = .ok (.istore_n 2, 1) := by decide +kernel
theorem dX7_meanDistance_28 : decode cX7_meanDistance 28 = .ok (.iload_n 2, 1) := by decide +kernel
theorem dX7_meanDistance_29 : decode cX7_meanDistance 29 = .ok (.aload_n 0, 1) := by decide +kernel
theorem dX7_meanDistance_30 : decode cX7_meanDistance 30 = .ok (.getfield 9, 3) := by decide +kernel
theorem dX7_meanDistance_33 : decode cX7_meanDistance 33 = .ok (.iconst 0, 1) := by decide +kernel
theorem dX7_meanDistance_34 : decode cX7_meanDistance 34 = .ok (.iaload, 1) := by decide +kernel
theorem dX7_meanDistance_35 : decode cX7_meanDistance 35 = .ok (.if_icmp .ge 23, 3) := by decide +kernel
theorem dX7_meanDistance_38 : decode cX7_meanDistance 38 = .ok (.iload_n 1, 1) := by decide +kernel
theorem dX7_meanDistance_39 : decode cX7_meanDistance 39 = .ok (.aload_n 0, 1) := by decide +kernel
theorem dX7_meanDistance_40 : decode cX7_meanDistance 40 = .ok (.iload_n 2, 1) := by decide +kernel
theorem dX7_meanDistance_41 : decode cX7_meanDistance 41 = .ok (.aload_n 0, 1) := by decide +kernel
theorem dX7_meanDistance_42 : decode cX7_meanDistance 42 = .ok (.getfield 9, 3) := by decide +kernel
theorem dX7_meanDistance_45 : decode cX7_meanDistance 45 = .ok (.iconst 2, 1) := by decide +kernel
theorem dX7_meanDistance_46 : decode cX7_meanDistance 46 = .ok (.iaload, 1) := by decide +kernel
theorem dX7_meanDistance_47 : decode cX7_meanDistance 47 = .ok (.invokevirtual 99, 3) := by decide +kernel
theorem dX7_meanDistance_50 : decode cX7_meanDistance 50 = .ok (.iadd, 1) := by decide +kernel
theorem dX7_meanDistance_51 : decode cX7_meanDistance 51 = .ok (.istore_n 1, 1) := by decide +kernel
theorem dX7_meanDistance_52 : decode cX7_meanDistance 52 = .ok (.iinc 2 1, 3) := by decide +kernel
theorem dX7_meanDistance_55 : decode cX7_meanDistance 55 = .ok (.goto (-27), 3) := by decide +kernel
theorem dX7_meanDistance_58 : decode cX7_meanDistance 58 = .ok (.iload_n 1, 1) := by decide +kernel
theorem dX7_meanDistance_59 : decode cX7_meanDistance 59 = .ok (.i2d, 1) := by decide +kernel
theorem dX7_meanDistance_60 : decode cX7_meanDistance 60 = .ok (.aload_n 0, 1) := by decide +kernel
theorem dX7_meanDistance_61 : decode cX7_meanDistance 61 = .ok (.getfield 9, 3) := by decide +kernel
theorem dX7_meanDistance_64 : decode cX7_meanDistance 64 = .ok (.iconst 0, 1) := by decide +kernel
theorem dX7_meanDistance_65 : decode cX7_meanDistance 65 = .ok (.iaload, 1) := by decide +kernel
theorem dX7_meanDistance_66 : decode cX7_meanDistance 66 = .ok (.iconst 1, 1) := by decide +kernel
theorem dX7_meanDistance_67 : decode cX7_meanDistance 67 = .ok (.isub, 1) := by decide +kernel
theorem dX7_meanDistance_68 : decode cX7_meanDistance 68 = .ok (.i2d, 1) := by decide +kernel
theorem dX7_meanDistance_69 : decode cX7_meanDistance 69 = .ok (.ddiv, 1) := by decide +kernel
theorem dX7_meanDistance_70 : decode cX7_meanDistance 70 = .ok (.dreturn, 1) := by decide +kernel
theorem dX7_mixedShare_0 : decode cX7_mixedShare 0 = .ok (.aload_n 0, 1) := by decide +kernel
theorem dX7_mixedShare_1 : decode cX7_mixedShare 1 = .ok (.iconst 0, 1) := by decide +kernel
theorem dX7_mixedShare_2 : decode cX7_mixedShare 2 = .ok (.invokevirtual 187, 3) := by decide +kernel
theorem dX7_mixedShare_5 : decode cX7_mixedShare 5 = .ok (.istore_n 1, 1) := by decide +kernel
theorem dX7_mixedShare_6 : decode cX7_mixedShare 6 = .ok (.aload_n 0, 1) := by decide +kernel
theorem dX7_mixedShare_7 : decode cX7_mixedShare 7 = .ok (.iload_n 1, 1) := by decide +kernel
theorem dX7_mixedShare_8 : decode cX7_mixedShare 8 = .ok (.ifCond .le 7, 3) := by decide +kernel
theorem dX7_mixedShare_11 : decode cX7_mixedShare 11 = .ok (.iconst 1, 1) := by decide +kernel
theorem dX7_mixedShare_12 : decode cX7_mixedShare 12 = .ok (.goto 4, 3) := by decide +kernel
theorem dX7_mixedShare_15 : decode cX7_mixedShare 15 = .ok (.iconst 0, 1) := by decide +kernel
theorem dX7_mixedShare_16 : decode cX7_mixedShare 16 = .ok (.invokevirtual 78, 3) := by decide +kernel
theorem dX7_mixedShare_19 : decode cX7_mixedShare 19 = .ok (.ifCond .eq 15, 3) := by decide +kernel
theorem dX7_mixedShare_22 : decode cX7_mixedShare 22 = .ok (.aload_n 0, 1) := by decide +kernel
theorem dX7_mixedShare_23 : decode cX7_mixedShare 23 = .ok (.iconst 1, 1) := by decide +kernel
theorem dX7_mixedShare_24 : decode cX7_mixedShare 24 = .ok (.invokevirtual 187, 3) := by decide +kernel
theorem dX7_mixedShare_27 : decode cX7_mixedShare 27 = .ok (.i2f, 1) := by decide +kernel
theorem dX7_mixedShare_28 : decode cX7_mixedShare 28 = .ok (.iload_n 1, 1) := by decide +kernel
theorem dX7_mixedShare_29 : decode cX7_mixedShare 29 = .ok (.i2f, 1) := by decide +kernel
theorem dX7_mixedShare_30 : decode cX7_mixedShare 30 = .ok (.fdiv, 1) := by decide +kernel
theorem dX7_mixedShare_31 : decode cX7_mixedShare 31 = .ok (.goto 4, 3) := by decide +kernel
theorem dX7_mixedShare_34 : decode cX7_mixedShare 34 = .ok (.fconst 0, 1) := by decide +kernel
theorem dX7_mixedShare_35 : decode cX7_mixedShare 35 = .ok (.freturn, 1) := by decide +kernel
theorem dX7_isConsistent_0 : decode cX7_isConsistent 0 = .ok (.aload_n 0, 1) := by decide +kernel
theorem dX7_isConsistent_1 : decode cX7_isConsistent 1 = .ok (.iconst 0, 1) := by decide +kernel
theorem dX7_isConsistent_2 : decode cX7_isConsistent 2 = .ok (.putfield 33, 3) := by decide +kernel
theorem dX7_isConsistent_5 : decode cX7_isConsistent 5 = .ok (.iconst 1, 1) := by decide +kernel
theorem dX7_isConsistent_6 : decode cX7_isConsistent 6 = .ok (.ireturn, 1) := by decide +kernel
theorem dX7_undo_0 : decode cX7_undo 0 = .ok (.aload_n 0, 1) := by decide +kernel
theorem dX7_undo_1 : decode cX7_undo 1 = .ok (.aload_n 0, 1) := by decide +kernel
theorem dX7_undo_2 : decode cX7_undo 2 = .ok (.getfield 40, 3) := by decide +kernel
theorem dX7_undo_5 : decode cX7_undo 5 = .ok (.ifCond .le 7, 3) := by decide +kernel
theorem dX7_undo_8 : decode cX7_undo 8 = .ok (.iconst 1, 1) := by decide +kernel
theorem dX7_undo_9 : decode cX7_undo 9 = .ok (.goto 4, 3) := by decide +kernel
theorem dX7_undo_12 : decode cX7_undo 12 = .ok (.iconst 0, 1) := by decide +kernel
theorem dX7_undo_13 : decode cX7_undo 13 = .ok (.invokevirtual 78, 3) := by decide +kernel
theorem dX7_undo_16 : decode cX7_undo 16 = .ok (.ifCond .ne 5, 3) := by decide +kernel
theorem dX7_undo_19 : decode cX7_undo 19 = .ok (.iconst 0, 1) := by decide +kernel
theorem dX7_undo_20 : decode cX7_undo 20 = .ok (.ireturn, 1) := by decide +kernel
theorem dX7_undo_21 : decode cX7_undo 21 = .ok (.aload_n 0, 1) := by decide +kernel
theorem dX7_undo_22 : decode cX7_undo 22 = .ok (.aload_n 0, 1) := by decide +kernel
theorem dX7_undo_23 : decode cX7_undo 23 = .ok (.getfield 40, 3) := by decide +kernel
theorem dX7_undo_26 : decode cX7_undo 26 = .ok (.iconst 0, 1) := by decide +kernel
theorem dX7_undo_27 : decode cX7_undo 27 = .ok (.invokevirtual 36, 3) := by decide +kernel
theorem dX7_undo_30 : decode cX7_undo 30 = .ok (.aload_n 0, 1) := by decide +kernel
theorem dX7_undo_31 : decode cX7_undo 31 = .ok (.dup, 1) := by decide +kernel
theorem dX7_undo_32 : decode cX7_undo 32 = .ok (.getfield 40, 3) := by decide +kernel
theorem dX7_undo_35 : decode cX7_undo 35 = .ok (.iconst 1, 1) := by decide +kernel
theorem dX7_undo_36 : decode cX7_undo 36 = .ok (.isub, 1) := by decide +kernel
theorem dX7_undo_37 : decode cX7_undo 37 = .ok (.putfield 40, 3) := by decide +kernel
theorem dX7_undo_40 : decode cX7_undo 40 = .ok (.aload_n 0, 1) := by decide +kernel
theorem dX7_undo_41 : decode cX7_undo 41 = .ok (.getfield 40, 3) := by decide +kernel
theorem dX7_undo_44 : decode cX7_undo 44 = .ok (.ireturn, 1) := by decide +kernel
theorem dX7_save_0 : decode cX7_save 0 = .ok (.aload_n 0, 1) := by decide +kernel
theorem dX7_save_1 : decode cX7_save 1 = .ok (.iconst 0, 1) := by decide +kernel
theorem dX7_save_2 : decode cX7_save 2 = .ok (.putfield 33, 3) := by decide +kernel
theorem dX7_save_5 : decode cX7_save 5 = .ok (.aload_n 0, 1) := by decide +kernel
theorem dX7_save_6 : decode cX7_save 6 = .ok (.iconst 1, 1) := by decide +kernel
theorem dX7_save_7 : decode cX7_save 7 = .ok (.putfield 245, 3) := by decide +kernel
theorem dX7_save_10 : decode cX7_save 10 = .ok (.aload_n 0, 1) := by decide +kernel
theorem dX7_save_11 : decode cX7_save 11 = .ok (.iconst 0, 1) := by decide +kernel
theorem dX7_save_12 : decode cX7_save 12 = .ok (.bipush 9, 2) := by decide +kernel
theorem dX7_save_14 : decode cX7_save 14 = .ok (.invokevirtual 36, 3) := by decide +kernel
theorem dX7_save_17 : decode cX7_save 17 = .ok (.aload_n 0, 1) := by decide +kernel
theorem dX7_save_18 : decode cX7_save 18 = .ok (.getfield 9, 3) := by decide +kernel
theorem dX7_save_21 : decode cX7_save 21 = .ok (.iconst 0, 1) := by decide +kernel
theorem dX7_save_22 : decode cX7_save 22 = .ok (.iaload, 1) := by decide +kernel
theorem dX7_save_23 : decode cX7_save 23 = .ok (.ireturn, 1) := by decide +kernel
theorem dX7_restore_0 : decode cX7_restore 0 = .ok (.aload_n 0, 1) := by decide +kernel
theorem dX7_restore_1 : decode cX7_restore 1 = .ok (.aload_n 0, 1) := by decide +kernel
theorem dX7_restore_2 : decode cX7_restore 2 = .ok (.getfield 245, 3) := by decide +kernel
theorem dX7_restore_5 : decode cX7_restore 5 = .ok (.invokevirtual 78, 3) := by decide +kernel
theorem dX7_restore_8 : decode cX7_restore 8 = .ok (.ifCond .ne 5, 3) := by decide +kernel
theorem dX7_restore_11 : decode cX7_restore 11 = .ok (.iconst 0, 1) := by decide +kernel
theorem dX7_restore_12 : decode cX7_restore 12 = .ok (.ireturn, 1) := by decide +kernel
theorem dX7_restore_13 : decode cX7_restore 13 = .ok (.aload_n 0, 1) := by decide +kernel
theorem dX7_restore_14 : decode cX7_restore 14 = .ok (.bipush 9, 2) := by decide +kernel
theorem dX7_restore_16 : decode cX7_restore 16 = .ok (.iconst 0, 1) := by decide +kernel
theorem dX7_restore_17 : decode cX7_restore 17 = .ok (.invokevirtual 36, 3) := by decide +kernel
theorem dX7_restore_20 : decode cX7_restore 20 = .ok (.aload_n 0, 1) := by decide +kernel
theorem dX7_restore_21 : decode cX7_restore 21 = .ok (.iconst 0, 1) := by decide +kernel
theorem dX7_restore_22 : decode cX7_restore 22 = .ok (.putfield 40, 3) := by decide +kernel
theorem dX7_restore_25 : decode cX7_restore 25 = .ok (.aload_n 0, 1) := by decide +kernel
theorem dX7_restore_26 : decode cX7_restore 26 = .ok (.getfield 9, 3) := by decide +kernel
theorem dX7_restore_29 : decode cX7_restore 29 = .ok (.iconst 0, 1) := by decide +kernel
theorem dX7_restore_30 : decode cX7_restore 30 = .ok (.iaload, 1) := by decide +kernel
theorem dX7_restore_31 : decode cX7_restore 31 = .ok (.ireturn, 1) := by decide +kernel
theorem dJx00060_init_a7421_0 : decode cJx00060_init_a7421 0 = .ok (.aload_n 0, 1) := by decide +kernel
theorem dJx00060_init_a7421_1 : decode cJx00060_init_a7421 1 = .ok (.aload_n 1, 1) := by decide +kernel
theorem dJx00060_init_a7421_2 : decode cJx00060_init_a7421 2 = .ok (.invokespecial 7, 3) := by decide +kernel
theorem dJx00060_init_a7421_5 : decode cJx00060_init_a7421 5 = .ok (.return_, 1) := by decide +kernel
theorem dJ9_abs_0f7a4_0 : decode cJ9_abs_0f7a4 0 = .ok (.iload_n 0, 1) := by decide +kernel
theorem dJ9_abs_0f7a4_1 : decode cJ9_abs_0f7a4 1 = .ok (.ifCond .ge 8, 3) := by decide +kernel
theorem dJ9_abs_0f7a4_4 : decode cJ9_abs_0f7a4 4 = .ok (.iload_n 0, 1) := by decide +kernel
theorem dJ9_abs_0f7a4_5 : decode cJ9_abs_0f7a4 5 = .ok (.ineg, 1) := by decide +kernel
theorem dJ9_abs_0f7a4_6 : decode cJ9_abs_0f7a4 6 = .ok (.goto 4, 3) := by decide +kernel
theorem dJ9_abs_0f7a4_9 : decode cJ9_abs_0f7a4 9 = .ok (.iload_n 0, 1) := by decide +kernel
theorem dJ9_abs_0f7a4_10 : decode cJ9_abs_0f7a4 10 = .ok (.ireturn, 1) := by decide +kernel
theorem dJ9_max_7cf53_0 : decode cJ9_max_7cf53 0 = .ok (.iload_n 0, 1) := by decide +kernel
theorem dJ9_max_7cf53_1 : decode cJ9_max_7cf53 1 = .ok (.iload_n 1, 1) := by decide +kernel
theorem dJ9_max_7cf53_2 : decode cJ9_max_7cf53 2 = .ok (.if_icmp .lt 7, 3) := by decide +kernel
theorem dJ9_max_7cf53_5 : decode cJ9_max_7cf53 5 = .ok (.iload_n 0, 1) := by decide +kernel
theorem dJ9_max_7cf53_6 : decode cJ9_max_7cf53 6 = .ok (.goto 4, 3) := by decide +kernel
theorem dJ9_max_7cf53_9 : decode cJ9_max_7cf53 9 = .ok (.iload_n 1, 1) := by decide +kernel
theorem dJ9_max_7cf53_10 : decode cJ9_max_7cf53 10 = .ok (.ireturn, 1) := by decide +kernel
theorem dJ9_min_7cf53_0 : decode cJ9_min_7cf53 0 = .ok (.iload_n 0, 1) := by decide +kernel
theorem dJ9_min_7cf53_1 : decode cJ9_min_7cf53 1 = .ok (.iload_n 1, 1) := by decide +kernel
theorem dJ9_min_7cf53_2 : decode cJ9_min_7cf53 2 = .ok (.if_icmp .gt 7, 3) := by decide +kernel
theorem dJ9_min_7cf53_5 : decode cJ9_min_7cf53 5 = .ok (.iload_n 0, 1) := by decide +kernel
theorem dJ9_min_7cf53_6 : decode cJ9_min_7cf53 6 = .ok (.goto 4, 3) := by decide +kernel
theorem dJ9_min_7cf53_9 : decode cJ9_min_7cf53 9 = .ok (.iload_n 1, 1) := by decide +kernel
theorem dJ9_min_7cf53_10 : decode cJ9_min_7cf53 10 = .ok (.ireturn, 1) := by decide +kernel
theorem dJ0_length_8abf5_0 : decode cJ0_length_8abf5 0 = .ok (.aload_n 0, 1) := by decide +kernel
theorem dJ0_length_8abf5_1 : decode cJ0_length_8abf5 1 = .ok (.getfield 9, 3) := by decide +kernel
theorem dJ0_length_8abf5_4 : decode cJ0_length_8abf5 4 = .ok (.arraylength, 1) := by decide +kernel
theorem dJ0_length_8abf5_5 : decode cJ0_length_8abf5 5 = .ok (.aload_n 0, 1) := by decide +kernel
theorem dJ0_length_8abf5_6 : decode cJ0_length_8abf5 6 = .ok (.invokevirtual 335, 3) := by decide +kernel
theorem dJ0_length_8abf5_9 : decode cJ0_length_8abf5 9 = .ok (.ishr, 1) := by decide +kernel
theorem dJ0_length_8abf5_10 : decode cJ0_length_8abf5 10 = .ok (.ireturn, 1) := by decide +kernel
theorem dJ0_charAt_5068e_0 : decode cJ0_charAt_5068e 0 = .ok (.aload_n 0, 1) := by decide +kernel
theorem dJ0_charAt_5068e_1 : decode cJ0_charAt_5068e 1 = .ok (.invokevirtual 492, 3) := by decide +kernel
theorem dJ0_charAt_5068e_4 : decode cJ0_charAt_5068e 4 = .ok (.ifCond .eq 12, 3) := by decide +kernel
theorem dJ0_charAt_5068e_7 : decode cJ0_charAt_5068e 7 = .ok (.aload_n 0, 1) := by decide +kernel
theorem dJ0_charAt_5068e_8 : decode cJ0_charAt_5068e 8 = .ok (.getfield 9, 3) := by decide +kernel
theorem dJ0_charAt_5068e_11 : decode cJ0_charAt_5068e 11 = .ok (.iload_n 1, 1) := by decide +kernel
theorem dJ0_charAt_5068e_12 : decode cJ0_charAt_5068e 12 = .ok (.invokestatic 495, 3) := by decide +kernel
theorem dJ0_charAt_5068e_15 : decode cJ0_charAt_5068e 15 = .ok (.ireturn, 1) := by decide +kernel
theorem dJ0_charAt_5068e_16 : decode cJ0_charAt_5068e 16 = .ok (.aload_n 0, 1) := by decide +kernel
theorem dJ0_charAt_5068e_17 : decode cJ0_charAt_5068e 17 = .ok (.getfield 9, 3) := by decide +kernel
theorem dJ0_charAt_5068e_20 : decode cJ0_charAt_5068e 20 = .ok (.iload_n 1, 1) := by decide +kernel
theorem dJ0_charAt_5068e_21 : decode cJ0_charAt_5068e 21 = .ok (.invokestatic 498, 3) := by decide +kernel
theorem dJ0_charAt_5068e_24 : decode cJ0_charAt_5068e 24 = .ok (.ireturn, 1) := by decide +kernel
theorem dJ0_coder_7d493_0 : decode cJ0_coder_7d493 0 = .ok (.getstatic 38, 3) := by decide +kernel
theorem dJ0_coder_7d493_3 : decode cJ0_coder_7d493 3 = .ok (.ifCond .eq 10, 3) := by decide +kernel
theorem dJ0_coder_7d493_6 : decode cJ0_coder_7d493 6 = .ok (.aload_n 0, 1) := by decide +kernel
theorem dJ0_coder_7d493_7 : decode cJ0_coder_7d493 7 = .ok (.getfield 15, 3) := by decide +kernel
theorem dJ0_coder_7d493_10 : decode cJ0_coder_7d493 10 = .ok (.goto 4, 3) := by decide +kernel
theorem dJ0_coder_7d493_13 : decode cJ0_coder_7d493 13 = .ok (.iconst 1, 1) := by decide +kernel
theorem dJ0_coder_7d493_14 : decode cJ0_coder_7d493 14 = .ok (.ireturn, 1) := by decide +kernel
theorem dJ0_isLatin1_aae02_0 : decode cJ0_isLatin1_aae02 0 = .ok (.getstatic 38, 3) := by decide +kernel
theorem dJ0_isLatin1_aae02_3 : decode cJ0_isLatin1_aae02 3 = .ok (.ifCond .eq 14, 3) := by decide +kernel
theorem dJ0_isLatin1_aae02_6 : decode cJ0_isLatin1_aae02 6 = .ok (.aload_n 0, 1) := by decide +kernel
theorem dJ0_isLatin1_aae02_7 : decode cJ0_isLatin1_aae02 7 = .ok (.getfield 15, 3) := by decide +kernel
theorem dJ0_isLatin1_aae02_10 : decode cJ0_isLatin1_aae02 10 = .ok (.ifCond .ne 7, 3) := by decide +kernel
theorem dJ0_isLatin1_aae02_13 : decode cJ0_isLatin1_aae02 13 = .ok (.iconst 1, 1) := by decide +kernel
theorem dJ0_isLatin1_aae02_14 : decode cJ0_isLatin1_aae02 14 = .ok (.goto 4, 3) := by decide +kernel
theorem dJ0_isLatin1_aae02_17 : decode cJ0_isLatin1_aae02 17 = .ok (.iconst 0, 1) := by decide +kernel
theorem dJ0_isLatin1_aae02_18 : decode cJ0_isLatin1_aae02 18 = .ok (.ireturn, 1) := by decide +kernel
theorem dJ0_checkIndex_df160_0 : decode cJ0_checkIndex_df160 0 = .ok (.iload_n 0, 1) := by decide +kernel
theorem dJ0_checkIndex_df160_1 : decode cJ0_checkIndex_df160 1 = .ok (.iload_n 1, 1) := by decide +kernel
theorem dJ0_checkIndex_df160_2 : decode cJ0_checkIndex_df160 2 = .ok (.getstatic 1053, 3) := by decide +kernel
theorem dJ0_checkIndex_df160_5 : decode cJ0_checkIndex_df160 5 = .ok (.invokestatic 1059, 3) := by decide +kernel
theorem dJ0_checkIndex_df160_8 : decode cJ0_checkIndex_df160 8 = .ok (.pop, 1) := by decide +kernel
theorem dJ0_checkIndex_df160_9 : decode cJ0_checkIndex_df160 9 = .ok (.return_, 1) := by decide +kernel
theorem dJ1_charAt_3b067_0 : decode cJ1_charAt_3b067 0 = .ok (.iload_n 1, 1) := by decide +kernel
theorem dJ1_charAt_3b067_1 : decode cJ1_charAt_3b067 1 = .ok (.aload_n 0, 1) := by decide +kernel
theorem dJ1_charAt_3b067_2 : decode cJ1_charAt_3b067 2 = .ok (.arraylength, 1) := by decide +kernel
theorem dJ1_charAt_3b067_3 : decode cJ1_charAt_3b067 3 = .ok (.invokestatic 9, 3) := by decide +kernel
theorem dJ1_charAt_3b067_6 : decode cJ1_charAt_3b067 6 = .ok (.aload_n 0, 1) := by decide +kernel
theorem dJ1_charAt_3b067_7 : decode cJ1_charAt_3b067 7 = .ok (.iload_n 1, 1) := by decide +kernel
theorem dJ1_charAt_3b067_8 : decode cJ1_charAt_3b067 8 = .ok (.baload, 1) := by decide +kernel
theorem dJ1_charAt_3b067_9 : decode cJ1_charAt_3b067 9 = .ok (.sipush 255, 3) := by decide +kernel
theorem dJ1_charAt_3b067_12 : decode cJ1_charAt_3b067 12 = .ok (.iand, 1) := by decide +kernel
theorem dJ1_charAt_3b067_13 : decode cJ1_charAt_3b067 13 = .ok (.i2c, 1) := by decide +kernel
theorem dJ1_charAt_3b067_14 : decode cJ1_charAt_3b067 14 = .ok (.ireturn, 1) := by decide +kernel
theorem dJ2_getChar_3b067_0 : decode cJ2_getChar_3b067 0 = .ok (.getstatic 44, 3) := by decide +kernel
theorem dJ2_getChar_3b067_3 : decode cJ2_getChar_3b067 3 = .ok (.ifCond .ne 25, 3) := by decide +kernel
theorem dJ2_getChar_3b067_6 : decode cJ2_getChar_3b067 6 = .ok (.iload_n 1, 1) := by decide +kernel
theorem dJ2_getChar_3b067_7 : decode cJ2_getChar_3b067 7 = .ok (.ifCond .lt 11, 3) := by decide +kernel
theorem dJ2_getChar_3b067_10 : decode cJ2_getChar_3b067 10 = .ok (.iload_n 1, 1) := by decide +kernel
theorem dJ2_getChar_3b067_11 : decode cJ2_getChar_3b067 11 = .ok (.aload_n 0, 1) := by decide +kernel
theorem dJ2_getChar_3b067_12 : decode cJ2_getChar_3b067 12 = .ok (.invokestatic 48, 3) := by decide +kernel
theorem dJ2_getChar_3b067_15 : decode cJ2_getChar_3b067 15 = .ok (.if_icmp .lt 13, 3) := by decide +kernel
theorem dJ2_getChar_3b067_18 : decode cJ2_getChar_3b067 18 = .ok (.new 52, 3) := by decide +kernel
theorem dJ2_getChar_3b067_21 : decode cJ2_getChar_3b067 21 = .ok (.dup, 1) := by decide +kernel
theorem dJ2_getChar_3b067_22 : decode cJ2_getChar_3b067 22 = .ok (.ldc 54, 2) := by decide +kernel
theorem dJ2_getChar_3b067_24 : decode cJ2_getChar_3b067 24 = .ok (.invokespecial 56, 3) := by decide +kernel
theorem dJ2_getChar_3b067_27 : decode cJ2_getChar_3b067 27 = .ok (.athrow, 1) := by decide +kernel
theorem dJ2_getChar_3b067_28 : decode cJ2_getChar_3b067 28 = .ok (.iload_n 1, 1) := by decide +kernel
theorem dJ2_getChar_3b067_29 : decode cJ2_getChar_3b067 29 = .ok (.iconst 1, 1) := by decide +kernel
theorem dJ2_getChar_3b067_30 : decode cJ2_getChar_3b067 30 = .ok (.ishl, 1) := by decide +kernel
theorem dJ2_getChar_3b067_31 : decode cJ2_getChar_3b067 31 = .ok (.istore_n 1, 1) := by decide +kernel
theorem dJ2_getChar_3b067_32 : decode cJ2_getChar_3b067 32 = .ok (.aload_n 0, 1) := by decide +kernel
theorem dJ2_getChar_3b067_33 : decode cJ2_getChar_3b067 33 = .ok (.iload_n 1, 1) := by decide +kernel
theorem dJ2_getChar_3b067_34 : decode cJ2_getChar_3b067 34 = .ok (.iinc 1 1, 3) := by decide +kernel
theorem dJ2_getChar_3b067_37 : decode cJ2_getChar_3b067 37 = .ok (.baload, 1) := by decide +kernel
theorem dJ2_getChar_3b067_38 : decode cJ2_getChar_3b067 38 = .ok (.sipush 255, 3) := by decide +kernel
theorem dJ2_getChar_3b067_41 : decode cJ2_getChar_3b067 41 = .ok (.iand, 1) := by decide +kernel
theorem dJ2_getChar_3b067_42 : decode cJ2_getChar_3b067 42 = .ok (.getstatic 59, 3) := by decide +kernel
theorem dJ2_getChar_3b067_45 : decode cJ2_getChar_3b067 45 = .ok (.ishl, 1) := by decide +kernel
theorem dJ2_getChar_3b067_46 : decode cJ2_getChar_3b067 46 = .ok (.aload_n 0, 1) := by decide +kernel
theorem dJ2_getChar_3b067_47 : decode cJ2_getChar_3b067 47 = .ok (.iload_n 1, 1) := by decide +kernel
theorem dJ2_getChar_3b067_48 : decode cJ2_getChar_3b067 48 = .ok (.baload, 1) := by decide +kernel
theorem dJ2_getChar_3b067_49 : decode cJ2_getChar_3b067 49 = .ok (.sipush 255, 3) := by decide +kernel
theorem dJ2_getChar_3b067_52 : decode cJ2_getChar_3b067 52 = .ok (.iand, 1) := by decide +kernel
theorem dJ2_getChar_3b067_53 : decode cJ2_getChar_3b067 53 = .ok (.getstatic 63, 3) := by decide +kernel
theorem dJ2_getChar_3b067_56 : decode cJ2_getChar_3b067 56 = .ok (.ishl, 1) := by decide +kernel
theorem dJ2_getChar_3b067_57 : decode cJ2_getChar_3b067 57 = .ok (.ior, 1) := by decide +kernel
theorem dJ2_getChar_3b067_58 : decode cJ2_getChar_3b067 58 = .ok (.i2c, 1) := by decide +kernel
theorem dJ2_getChar_3b067_59 : decode cJ2_getChar_3b067 59 = .ok (.ireturn, 1) := by decide +kernel
theorem dJ2_length_9d52b_0 : decode cJ2_length_9d52b 0 = .ok (.aload_n 0, 1) := by decide +kernel
theorem dJ2_length_9d52b_1 : decode cJ2_length_9d52b 1 = .ok (.arraylength, 1) := by decide +kernel
theorem dJ2_length_9d52b_2 : decode cJ2_length_9d52b 2 = .ok (.iconst 1, 1) := by decide +kernel
theorem dJ2_length_9d52b_3 : decode cJ2_length_9d52b 3 = .ok (.ishr, 1) := by decide +kernel
theorem dJ2_length_9d52b_4 : decode cJ2_length_9d52b 4 = .ok (.ireturn, 1) := by decide +kernel
theorem dJ2_charAt_3b067_0 : decode cJ2_charAt_3b067 0 = .ok (.iload_n 1, 1) := by decide +kernel
theorem dJ2_charAt_3b067_1 : decode cJ2_charAt_3b067 1 = .ok (.aload_n 0, 1) := by decide +kernel
theorem dJ2_charAt_3b067_2 : decode cJ2_charAt_3b067 2 = .ok (.invokestatic 67, 3) := by decide +kernel
theorem dJ2_charAt_3b067_5 : decode cJ2_charAt_3b067 5 = .ok (.aload_n 0, 1) := by decide +kernel
theorem dJ2_charAt_3b067_6 : decode cJ2_charAt_3b067 6 = .ok (.iload_n 1, 1) := by decide +kernel
theorem dJ2_charAt_3b067_7 : decode cJ2_charAt_3b067 7 = .ok (.invokestatic 71, 3) := by decide +kernel
theorem dJ2_charAt_3b067_10 : decode cJ2_charAt_3b067 10 = .ok (.ireturn, 1) := by decide +kernel
theorem dJ2_checkIndex_2214a_0 : decode cJ2_checkIndex_2214a 0 = .ok (.iload_n 0, 1) := by decide +kernel
theorem dJ2_checkIndex_2214a_1 : decode cJ2_checkIndex_2214a 1 = .ok (.aload_n 1, 1) := by decide +kernel
theorem dJ2_checkIndex_2214a_2 : decode cJ2_checkIndex_2214a 2 = .ok (.invokestatic 48, 3) := by decide +kernel
theorem dJ2_checkIndex_2214a_5 : decode cJ2_checkIndex_2214a 5 = .ok (.invokestatic 414, 3) := by decide +kernel
theorem dJ2_checkIndex_2214a_8 : decode cJ2_checkIndex_2214a 8 = .ok (.return_, 1) := by decide +kernel
theorem dJ3_checkIndex_8e157_0 : decode cJ3_checkIndex_8e157 0 = .ok (.iload_n 0, 1) := by decide +kernel
theorem dJ3_checkIndex_8e157_1 : decode cJ3_checkIndex_8e157 1 = .ok (.ifCond .lt 8, 3) := by decide +kernel
theorem dJ3_checkIndex_8e157_4 : decode cJ3_checkIndex_8e157 4 = .ok (.iload_n 0, 1) := by decide +kernel
theorem dJ3_checkIndex_8e157_5 : decode cJ3_checkIndex_8e157 5 = .ok (.iload_n 1, 1) := by decide +kernel
theorem dJ3_checkIndex_8e157_6 : decode cJ3_checkIndex_8e157 6 = .ok (.if_icmp .lt 10, 3) := by decide +kernel
theorem dJ3_checkIndex_8e157_9 : decode cJ3_checkIndex_8e157 9 = .ok (.aload_n 2, 1) := by decide +kernel
theorem dJ3_checkIndex_8e157_10 : decode cJ3_checkIndex_8e157 10 = .ok (.iload_n 0, 1) := by decide +kernel
theorem dJ3_checkIndex_8e157_11 : decode cJ3_checkIndex_8e157 11 = .ok (.iload_n 1, 1) := by decide +kernel
theorem dJ3_checkIndex_8e157_12 : decode cJ3_checkIndex_8e157 12 = .ok (.invokestatic 95, 3) := by decide +kernel
theorem dJ3_checkIndex_8e157_15 : decode cJ3_checkIndex_8e157 15 = .ok (.athrow, 1) := by decide +kernel
theorem dJ3_checkIndex_8e157_16 : decode cJ3_checkIndex_8e157 16 = .ok (.iload_n 0, 1) := by decide +kernel
theorem dJ3_checkIndex_8e157_17 : decode cJ3_checkIndex_8e157 17 = .ok (.ireturn, 1) := by decide +kernel
