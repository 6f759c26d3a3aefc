/-! ===== instructions, one after another ===== -/
theorem dX0_init_0 : decode cX0_init 0 = .ok (.aload_n 0, 1) := by decide +kernel
theorem dX0_init_1 : decode cX0_init 1 = .ok (.invokespecial 3, 3) := by decide +kernel
theorem dX0_init_4 : decode cX0_init 4 = .ok (.aload_n 0, 1) := by decide +kernel
theorem dX0_init_5 : decode cX0_init 5 = .ok (.bipush 12, 2) := by decide +kernel
theorem dX0_init_7 : decode cX0_init 7 = .ok (.newarray .int, 2) := by decide +kernel
theorem dX0_init_9 : decode cX0_init 9 = .ok (.putfield 9, 3) := by decide +kernel
theorem dX0_init_12 : decode cX0_init 12 = .ok (.aload_n 0, 1) := by decide +kernel
theorem dX0_init_13 : decode cX0_init 13 = .ok (.iconst 0, 1) := by decide +kernel
theorem dX0_init_14 : decode cX0_init 14 = .ok (.putfield 15, 3) := by decide +kernel
theorem dX0_init_17 : decode cX0_init 17 = .ok (.return_, 1) := by decide +kernel
theorem dX0_inSky_0 : decode cX0_inSky 0 = .ok (.iload_n 0, 1) := by decide +kernel
theorem dX0_inSky_1 : decode cX0_inSky 1 = .ok (.ifCond .lt 23, 3) := by decide +kernel
theorem dX0_inSky_4 : decode cX0_inSky 4 = .ok (.iload_n 0, 1) := by decide +kernel
theorem dX0_inSky_5 : decode cX0_inSky 5 = .ok (.bipush 12, 2) := by decide +kernel
theorem dX0_inSky_7 : decode cX0_inSky 7 = .ok (.if_icmp .ge 17, 3) := by decide +kernel
theorem dX0_inSky_10 : decode cX0_inSky 10 = .ok (.iload_n 1, 1) := by decide +kernel
theorem dX0_inSky_11 : decode cX0_inSky 11 = .ok (.ifCond .lt 13, 3) := by decide +kernel
theorem dX0_inSky_14 : decode cX0_inSky 14 = .ok (.iload_n 1, 1) := by decide +kernel
theorem dX0_inSky_15 : decode cX0_inSky 15 = .ok (.bipush 12, 2) := by decide +kernel
theorem dX0_inSky_17 : decode cX0_inSky 17 = .ok (.if_icmp .ge 7, 3) := by decide +kernel
theorem dX0_inSky_20 : decode cX0_inSky 20 = .ok (.iconst 1, 1) := by decide +kernel
theorem dX0_inSky_21 : decode cX0_inSky 21 = .ok (.goto 4, 3) := by decide +kernel
theorem dX0_inSky_24 : decode cX0_inSky 24 = .ok (.iconst 0, 1) := by decide +kernel
theorem dX0_inSky_25 : decode cX0_inSky 25 = .ok (.ireturn, 1) := by decide +kernel
theorem dX0_covers_0 : decode cX0_covers 0 = .ok (.iload_n 1, 1) := by decide +kernel
theorem dX0_covers_1 : decode cX0_covers 1 = .ok (.iload_n 2, 1) := by decide +kernel
theorem dX0_covers_2 : decode cX0_covers 2 = .ok (.invokestatic 19, 3) := by decide +kernel
theorem dX0_covers_5 : decode cX0_covers 5 = .ok (.ifCond .eq 20, 3) := by decide +kernel
theorem dX0_covers_8 : decode cX0_covers 8 = .ok (.aload_n 0, 1) := by decide +kernel
theorem dX0_covers_9 : decode cX0_covers 9 = .ok (.getfield 9, 3) := by decide +kernel
theorem dX0_covers_12 : decode cX0_covers 12 = .ok (.iload_n 2, 1) := by decide +kernel
theorem dX0_covers_13 : decode cX0_covers 13 = .ok (.iaload, 1) := by decide +kernel
theorem dX0_covers_14 : decode cX0_covers 14 = .ok (.iconst 1, 1) := by decide +kernel
theorem dX0_covers_15 : decode cX0_covers 15 = .ok (.iload_n 1, 1) := by decide +kernel
theorem dX0_covers_16 : decode cX0_covers 16 = .ok (.ishl, 1) := by decide +kernel
theorem dX0_covers_17 : decode cX0_covers 17 = .ok (.iand, 1) := by decide +kernel
theorem dX0_covers_18 : decode cX0_covers 18 = .ok (.ifCond .eq 7, 3) := by decide +kernel
theorem dX0_covers_21 : decode cX0_covers 21 = .ok (.iconst 1, 1) := by decide +kernel
theorem dX0_covers_22 : decode cX0_covers 22 = .ok (.goto 4, 3) := by decide +kernel
theorem dX0_covers_25 : decode cX0_covers 25 = .ok (.iconst 0, 1) := by decide +kernel
theorem dX0_covers_26 : decode cX0_covers 26 = .ok (.ireturn, 1) := by decide +kernel
theorem dX0_put_0 : decode cX0_put 0 = .ok (.iload_n 1, 1) := by decide +kernel
theorem dX0_put_1 : decode cX0_put 1 = .ok (.iload_n 2, 1) := by decide +kernel
theorem dX0_put_2 : decode cX0_put 2 = .ok (.invokestatic 19, 3) := by decide +kernel
theorem dX0_put_5 : decode cX0_put 5 = .ok (.ifCond .eq 34, 3) := by decide +kernel
theorem dX0_put_8 : decode cX0_put 8 = .ok (.aload_n 0, 1) := by decide +kernel
theorem dX0_put_9 : decode cX0_put 9 = .ok (.iload_n 1, 1) := by decide +kernel
theorem dX0_put_10 : decode cX0_put 10 = .ok (.iload_n 2, 1) := by decide +kernel
theorem dX0_put_11 : decode cX0_put 11 = .ok (.invokevirtual 23, 3) := by decide +kernel
theorem dX0_put_14 : decode cX0_put 14 = .ok (.ifCond .ne 25, 3) := by decide +kernel
theorem dX0_put_17 : decode cX0_put 17 = .ok (.aload_n 0, 1) := by decide +kernel
theorem dX0_put_18 : decode cX0_put 18 = .ok (.getfield 9, 3) := by decide +kernel
theorem dX0_put_21 : decode cX0_put 21 = .ok (.iload_n 2, 1) := by decide +kernel
theorem dX0_put_22 : decode cX0_put 22 = .ok (.dup2, 1) := by decide +kernel
theorem dX0_put_23 : decode cX0_put 23 = .ok (.iaload, 1) := by decide +kernel
theorem dX0_put_24 : decode cX0_put 24 = .ok (.iconst 1, 1) := by decide +kernel
theorem dX0_put_25 : decode cX0_put 25 = .ok (.iload_n 1, 1) := by decide +kernel
theorem dX0_put_26 : decode cX0_put 26 = .ok (.ishl, 1) := by decide +kernel
theorem dX0_put_27 : decode cX0_put 27 = .ok (.ior, 1) := by decide +kernel
theorem dX0_put_28 : decode cX0_put 28 = .ok (.iastore, 1) := by decide +kernel
theorem dX0_put_29 : decode cX0_put 29 = .ok (.aload_n 0, 1) := by decide +kernel
theorem dX0_put_30 : decode cX0_put 30 = .ok (.dup, 1) := by decide +kernel
theorem dX0_put_31 : decode cX0_put 31 = .ok (.getfield 15, 3) := by decide +kernel
theorem dX0_put_34 : decode cX0_put 34 = .ok (.iconst 1, 1) := by decide +kernel
theorem dX0_put_35 : decode cX0_put 35 = .ok (.iadd, 1) := by decide +kernel
theorem dX0_put_36 : decode cX0_put 36 = .ok (.putfield 15, 3) := by decide +kernel
theorem dX0_put_39 : decode cX0_put 39 = .ok (.aload_n 0, 1) := by decide +kernel
theorem dX0_put_40 : decode cX0_put 40 = .ok (.getfield 15, 3) := by decide +kernel
theorem dX0_put_43 : decode cX0_put 43 = .ok (.ireturn, 1) := by decide +kernel
theorem dX0_remove_0 : decode cX0_remove 0 = .ok (.aload_n 0, 1) := by decide +kernel
theorem dX0_remove_1 : decode cX0_remove 1 = .ok (.iload_n 1, 1) := by decide +kernel
theorem dX0_remove_2 : decode cX0_remove 2 = .ok (.iload_n 2, 1) := by decide +kernel
theorem dX0_remove_3 : decode cX0_remove 3 = .ok (.invokevirtual 23, 3) := by decide +kernel
theorem dX0_remove_6 : decode cX0_remove 6 = .ok (.ifCond .eq 27, 3) := by decide +kernel
theorem dX0_remove_9 : decode cX0_remove 9 = .ok (.aload_n 0, 1) := by decide +kernel
theorem dX0_remove_10 : decode cX0_remove 10 = .ok (.getfield 9, 3) := by decide +kernel
theorem dX0_remove_13 : decode cX0_remove 13 = .ok (.iload_n 2, 1) := by decide +kernel
theorem dX0_remove_14 : decode cX0_remove 14 = .ok (.dup2, 1) := by decide +kernel
theorem dX0_remove_15 : decode cX0_remove 15 = .ok (.iaload, 1) := by decide +kernel
theorem dX0_remove_16 : decode cX0_remove 16 = .ok (.iconst 1, 1) := by decide +kernel
theorem dX0_remove_17 : decode cX0_remove 17 = .ok (.iload_n 1, 1) := by decide +kernel
theorem dX0_remove_18 : decode cX0_remove 18 = .ok (.ishl, 1) := by decide +kernel
theorem dX0_remove_19 : decode cX0_remove 19 = .ok (.iconst (-1), 1) := by decide +kernel
theorem dX0_remove_20 : decode cX0_remove 20 = .ok (.ixor, 1) := by decide +kernel
theorem dX0_remove_21 : decode cX0_remove 21 = .ok (.iand, 1) := by decide +kernel
theorem dX0_remove_22 : decode cX0_remove 22 = .ok (.iastore, 1) := by decide +kernel
theorem dX0_remove_23 : decode cX0_remove 23 = .ok (.aload_n 0, 1) := by decide +kernel
theorem dX0_remove_24 : decode cX0_remove 24 = .ok (.dup, 1) := by decide +kernel
theorem dX0_remove_25 : decode cX0_remove 25 = .ok (.getfield 15, 3) := by decide +kernel
theorem dX0_remove_28 : decode cX0_remove 28 = .ok (.iconst 1, 1) := by decide +kernel
theorem dX0_remove_29 : decode cX0_remove 29 = .ok (.isub, 1) := by decide +kernel
theorem dX0_remove_30 : decode cX0_remove 30 = .ok (.putfield 15, 3) := by decide +kernel
theorem dX0_remove_33 : decode cX0_remove 33 = .ok (.aload_n 0, 1) := by decide +kernel
theorem dX0_remove_34 : decode cX0_remove 34 = .ok (.getfield 15, 3) := by decide +kernel
theorem dX0_remove_37 : decode cX0_remove 37 = .ok (.ireturn, 1) := by decide +kernel
theorem dX0_copyFrom_0 : decode cX0_copyFrom 0 = .ok (.aload_n 1, 1) := by decide +kernel
theorem dX0_copyFrom_1 : decode cX0_copyFrom 1 = .ok (.getfield 9, 3) := by decide +kernel
theorem dX0_copyFrom_4 : decode cX0_copyFrom 4 = .ok (.iconst 0, 1) := by decide +kernel
theorem dX0_copyFrom_5 : decode cX0_copyFrom 5 = .ok (.aload_n 0, 1) := by decide +kernel
theorem dX0_copyFrom_6 : decode cX0_copyFrom 6 = .ok (.getfield 9, 3) := by decide +kernel
theorem dX0_copyFrom_9 : decode cX0_copyFrom 9 = .ok (.iconst 0, 1) := by decide +kernel
theorem dX0_copyFrom_10 : decode cX0_copyFrom 10 = .ok (.bipush 12, 2) := by decide +kernel
theorem dX0_copyFrom_12 : decode cX0_copyFrom 12 = .ok (.invokestatic 26, 3) := by decide +kernel
theorem dX0_copyFrom_15 : decode cX0_copyFrom 15 = .ok (.aload_n 0, 1) := by decide +kernel
theorem dX0_copyFrom_16 : decode cX0_copyFrom 16 = .ok (.aload_n 1, 1) := by decide +kernel
theorem dX0_copyFrom_17 : decode cX0_copyFrom 17 = .ok (.getfield 15, 3) := by decide +kernel
theorem dX0_copyFrom_20 : decode cX0_copyFrom 20 = .ok (.putfield 15, 3) := by decide +kernel
theorem dX0_copyFrom_23 : decode cX0_copyFrom 23 = .ok (.return_, 1) := by decide +kernel
theorem dX1_init_0 : decode cX1_init 0 = .ok (.aload_n 0, 1) := by decide +kernel
theorem dX1_init_1 : decode cX1_init 1 = .ok (.invokespecial 3, 3) := by decide +kernel
theorem dX1_init_4 : decode cX1_init 4 = .ok (.aload_n 0, 1) := by decide +kernel
theorem dX1_init_5 : decode cX1_init 5 = .ok (.bipush 60, 2) := by decide +kernel
theorem dX1_init_7 : decode cX1_init 7 = .ok (.newarray .char, 2) := by decide +kernel
theorem dX1_init_9 : decode cX1_init 9 = .ok (.putfield 9, 3) := by decide +kernel
theorem dX1_init_12 : decode cX1_init 12 = .ok (.aload_n 0, 1) := by decide +kernel
theorem dX1_init_13 : decode cX1_init 13 = .ok (.iconst 0, 1) := by decide +kernel
theorem dX1_init_14 : decode cX1_init 14 = .ok (.putfield 15, 3) := by decide +kernel
theorem dX1_init_17 : decode cX1_init 17 = .ok (.aload_n 0, 1) := by decide +kernel
theorem dX1_init_18 : decode cX1_init 18 = .ok (.bipush 10, 2) := by decide +kernel
theorem dX1_init_20 : decode cX1_init 20 = .ok (.newarray .int, 2) := by decide +kernel
theorem dX1_init_22 : decode cX1_init 22 = .ok (.putfield 19, 3) := by decide +kernel
theorem dX1_init_25 : decode cX1_init 25 = .ok (.aload_n 0, 1) := by decide +kernel
theorem dX1_init_26 : decode cX1_init 26 = .ok (.bipush 10, 2) := by decide +kernel
theorem dX1_init_28 : decode cX1_init 28 = .ok (.iconst 3, 1) := by decide +kernel
theorem dX1_init_29 : decode cX1_init 29 = .ok (.multianewarray 23 2, 4) := by decide +kernel
theorem dX1_init_33 : decode cX1_init 33 = .ok (.putfield 25, 3) := by decide +kernel
theorem dX1_init_36 : decode cX1_init 36 = .ok (.aload_n 0, 1) := by decide +kernel
theorem dX1_init_37 : decode cX1_init 37 = .ok (.iconst 0, 1) := by decide +kernel
theorem dX1_init_38 : decode cX1_init 38 = .ok (.putfield 28, 3) := by decide +kernel
theorem dX1_init_41 : decode cX1_init 41 = .ok (.aload_n 0, 1) := by decide +kernel
theorem dX1_init_42 : decode cX1_init 42 = .ok (.iconst 0, 1) := by decide +kernel
theorem dX1_init_43 : decode cX1_init 43 = .ok (.putfield 31, 3) := by decide +kernel
theorem dX1_init_46 : decode cX1_init 46 = .ok (.return_, 1) := by decide +kernel
theorem dX1_isFull_0 : decode cX1_isFull 0 = .ok (.aload_n 0, 1) := by decide +kernel
theorem dX1_isFull_1 : decode cX1_isFull 1 = .ok (.getfield 15, 3) := by decide +kernel
theorem dX1_isFull_4 : decode cX1_isFull 4 = .ok (.bipush 60, 2) := by decide +kernel
theorem dX1_isFull_6 : decode cX1_isFull 6 = .ok (.if_icmp .lt 7, 3) := by decide +kernel
theorem dX1_isFull_9 : decode cX1_isFull 9 = .ok (.iconst 1, 1) := by decide +kernel
theorem dX1_isFull_10 : decode cX1_isFull 10 = .ok (.goto 4, 3) := by decide +kernel
theorem dX1_isFull_13 : decode cX1_isFull 13 = .ok (.iconst 0, 1) := by decide +kernel
theorem dX1_isFull_14 : decode cX1_isFull 14 = .ok (.ireturn, 1) := by decide +kernel
theorem dX1_put_0 : decode cX1_put 0 = .ok (.aload_n 0, 1) := by decide +kernel
theorem dX1_put_1 : decode cX1_put 1 = .ok (.invokevirtual 34, 3) := by decide +kernel
theorem dX1_put_4 : decode cX1_put 4 = .ok (.ifCond .ne 23, 3) := by decide +kernel
theorem dX1_put_7 : decode cX1_put 7 = .ok (.aload_n 0, 1) := by decide +kernel
theorem dX1_put_8 : decode cX1_put 8 = .ok (.getfield 9, 3) := by decide +kernel
theorem dX1_put_11 : decode cX1_put 11 = .ok (.aload_n 0, 1) := by decide +kernel
theorem dX1_put_12 : decode cX1_put 12 = .ok (.getfield 15, 3) := by decide +kernel
theorem dX1_put_15 : decode cX1_put 15 = .ok (.iload_n 1, 1) := by decide +kernel
theorem dX1_put_16 : decode cX1_put 16 = .ok (.castore, 1) := by decide +kernel
theorem dX1_put_17 : decode cX1_put 17 = .ok (.aload_n 0, 1) := by decide +kernel
theorem dX1_put_18 : decode cX1_put 18 = .ok (.dup, 1) := by decide +kernel
theorem dX1_put_19 : decode cX1_put 19 = .ok (.getfield 15, 3) := by decide +kernel
theorem dX1_put_22 : decode cX1_put 22 = .ok (.iconst 1, 1) := by decide +kernel
theorem dX1_put_23 : decode cX1_put 23 = .ok (.iadd, 1) := by decide +kernel
theorem dX1_put_24 : decode cX1_put 24 = .ok (.putfield 15, 3) := by decide +kernel
theorem dX1_put_27 : decode cX1_put 27 = .ok (.aload_n 0, 1) := by decide +kernel
theorem dX1_put_28 : decode cX1_put 28 = .ok (.getfield 15, 3) := by decide +kernel
theorem dX1_put_31 : decode cX1_put 31 = .ok (.ireturn, 1) := by decide +kernel
theorem dX1_clear_0 : decode cX1_clear 0 = .ok (.aload_n 0, 1) := by decide +kernel
theorem dX1_clear_1 : decode cX1_clear 1 = .ok (.iconst 0, 1) := by decide +kernel
theorem dX1_clear_2 : decode cX1_clear 2 = .ok (.putfield 15, 3) := by decide +kernel
theorem dX1_clear_5 : decode cX1_clear 5 = .ok (.return_, 1) := by decide +kernel
theorem dX1_kindOf_0 : decode cX1_kindOf 0 = .ok (.iload_n 1, 1) := by decide +kernel
theorem dX1_kindOf_1 : decode cX1_kindOf 1 = .ok (.ifCond .lt 20, 3) := by decide +kernel
theorem dX1_kindOf_4 : decode cX1_kindOf 4 = .ok (.iload_n 1, 1) := by decide +kernel
theorem dX1_kindOf_5 : decode cX1_kindOf 5 = .ok (.aload_n 0, 1) := by decide +kernel
theorem dX1_kindOf_6 : decode cX1_kindOf 6 = .ok (.getfield 28, 3) := by decide +kernel
theorem dX1_kindOf_9 : decode cX1_kindOf 9 = .ok (.if_icmp .ge 12, 3) := by decide +kernel
theorem dX1_kindOf_12 : decode cX1_kindOf 12 = .ok (.aload_n 0, 1) := by decide +kernel
theorem dX1_kindOf_13 : decode cX1_kindOf 13 = .ok (.getfield 19, 3) := by decide +kernel
theorem dX1_kindOf_16 : decode cX1_kindOf 16 = .ok (.iload_n 1, 1) := by decide +kernel
theorem dX1_kindOf_17 : decode cX1_kindOf 17 = .ok (.iaload, 1) := by decide +kernel
theorem dX1_kindOf_18 : decode cX1_kindOf 18 = .ok (.goto 4, 3) := by decide +kernel
theorem dX1_kindOf_21 : decode cX1_kindOf 21 = .ok (.iconst (-1), 1) := by decide +kernel
theorem dX1_kindOf_22 : decode cX1_kindOf 22 = .ok (.ireturn, 1) := by decide +kernel
theorem dX1_number_0 : decode cX1_number 0 = .ok (.iload_n 1, 1) := by decide +kernel
theorem dX1_number_1 : decode cX1_number 1 = .ok (.ifCond .lt 24, 3) := by decide +kernel
theorem dX1_number_4 : decode cX1_number 4 = .ok (.iload_n 1, 1) := by decide +kernel
theorem dX1_number_5 : decode cX1_number 5 = .ok (.aload_n 0, 1) := by decide +kernel
theorem dX1_number_6 : decode cX1_number 6 = .ok (.getfield 28, 3) := by decide +kernel
theorem dX1_number_9 : decode cX1_number 9 = .ok (.if_icmp .ge 16, 3) := by decide +kernel
theorem dX1_number_12 : decode cX1_number 12 = .ok (.iload_n 2, 1) := by decide +kernel
theorem dX1_number_13 : decode cX1_number 13 = .ok (.ifCond .lt 12, 3) := by decide +kernel
theorem dX1_number_16 : decode cX1_number 16 = .ok (.iload_n 2, 1) := by decide +kernel
theorem dX1_number_17 : decode cX1_number 17 = .ok (.iconst 3, 1) := by decide +kernel
theorem dX1_number_18 : decode cX1_number 18 = .ok (.if_icmp .ge 7, 3) := by decide +kernel
theorem dX1_number_21 : decode cX1_number 21 = .ok (.iconst 1, 1) := by decide +kernel
theorem dX1_number_22 : decode cX1_number 22 = .ok (.goto 4, 3) := by decide +kernel
theorem dX1_number_25 : decode cX1_number 25 = .ok (.iconst 0, 1) := by decide +kernel
theorem dX1_number_26 : decode cX1_number 26 = .ok (.istore_n 3, 1) := by decide +kernel
theorem dX1_number_27 : decode cX1_number 27 = .ok (.iload_n 3, 1) := by decide +kernel
theorem dX1_number_28 : decode cX1_number 28 = .ok (.ifCond .eq 14, 3) := by decide +kernel
theorem dX1_number_31 : decode cX1_number 31 = .ok (.aload_n 0, 1) := by decide +kernel
theorem dX1_number_32 : decode cX1_number 32 = .ok (.getfield 25, 3) := by decide +kernel
theorem dX1_number_35 : decode cX1_number 35 = .ok (.iload_n 1, 1) := by decide +kernel
theorem dX1_number_36 : decode cX1_number 36 = .ok (.aaload, 1) := by decide +kernel
theorem dX1_number_37 : decode cX1_number 37 = .ok (.iload_n 2, 1) := by decide +kernel
theorem dX1_number_38 : decode cX1_number 38 = .ok (.iaload, 1) := by decide +kernel
theorem dX1_number_39 : decode cX1_number 39 = .ok (.goto 4, 3) := by decide +kernel
theorem dX1_number_42 : decode cX1_number 42 = .ok (.iconst 0, 1) := by decide +kernel
theorem dX1_number_43 : decode cX1_number 43 = .ok (.ireturn, 1) := by decide +kernel
theorem dX1_formOf_0 : decode cX1_formOf 0 = .ok (.iload_n 0, 1) := by decide +kernel
theorem dX1_formOf_1 : decode cX1_formOf 1 = .ok (.tableswitch 71 0 7 #[47, 50, 53, 56, 59, 62, 65, 68], 47) := by decide +kernel
theorem dX1_formOf_48 : decode cX1_formOf 48 = .ok (.ldc 38, 2) := by decide +kernel
theorem dX1_formOf_50 : decode cX1_formOf 50 = .ok (.areturn, 1) := by decide +kernel
theorem dX1_formOf_51 : decode cX1_formOf 51 = .ok (.ldc 40, 2) := by decide +kernel
theorem dX1_formOf_53 : decode cX1_formOf 53 = .ok (.areturn, 1) := by decide +kernel
theorem dX1_formOf_54 : decode cX1_formOf 54 = .ok (.ldc 42, 2) := by decide +kernel
theorem dX1_formOf_56 : decode cX1_formOf 56 = .ok (.areturn, 1) := by decide +kernel
theorem dX1_formOf_57 : decode cX1_formOf 57 = .ok (.ldc 44, 2) := by decide +kernel
theorem dX1_formOf_59 : decode cX1_formOf 59 = .ok (.areturn, 1) := by decide +kernel
theorem dX1_formOf_60 : decode cX1_formOf 60 = .ok (.ldc 46, 2) := by decide +kernel
theorem dX1_formOf_62 : decode cX1_formOf 62 = .ok (.areturn, 1) := by decide +kernel
theorem dX1_formOf_63 : decode cX1_formOf 63 = .ok (.ldc 48, 2) := by decide +kernel
theorem dX1_formOf_65 : decode cX1_formOf 65 = .ok (.areturn, 1) := by decide +kernel
theorem dX1_formOf_66 : decode cX1_formOf 66 = .ok (.ldc 50, 2) := by decide +kernel
theorem dX1_formOf_68 : decode cX1_formOf 68 = .ok (.areturn, 1) := by decide +kernel
theorem dX1_formOf_69 : decode cX1_formOf 69 = .ok (.ldc 52, 2) := by decide +kernel
theorem dX1_formOf_71 : decode cX1_formOf 71 = .ok (.areturn, 1) := by decide +kernel
theorem dX1_formOf_72 : decode cX1_formOf 72 = .ok (.ldc 54, 2) := by decide +kernel
theorem dX1_formOf_74 : decode cX1_formOf 74 = .ok (.areturn, 1) := by decide +kernel
theorem dX1_parse_0 : decode cX1_parse 0 = .ok (.aload_n 0, 1) := by decide +kernel
theorem dX1_parse_1 : decode cX1_parse 1 = .ok (.iconst 0, 1) := by decide +kernel
theorem dX1_parse_2 : decode cX1_parse 2 = .ok (.putfield 31, 3) := by decide +kernel
theorem dX1_parse_5 : decode cX1_parse 5 = .ok (.aload_n 0, 1) := by decide +kernel
theorem dX1_parse_6 : decode cX1_parse 6 = .ok (.iconst 0, 1) := by decide +kernel
theorem dX1_parse_7 : decode cX1_parse 7 = .ok (.putfield 28, 3) := by decide +kernel
theorem dX1_parse_10 : decode cX1_parse 10 = .ok (.iconst 1, 1) := by decide +kernel
theorem dX1_parse_11 : decode cX1_parse 11 = .ok (.istore_n 1, 1) := by decide +kernel
theorem dX1_parse_12 : decode cX1_parse 12 = .ok (.iconst 0, 1) := by decide +kernel
theorem dX1_parse_13 : decode cX1_parse 13 = .ok (.istore_n 2, 1) := by decide +kernel
theorem dX1_parse_14 : decode cX1_parse 14 = .ok (.iload_n 1, 1) := by decide +kernel
theorem dX1_parse_15 : decode cX1_parse 15 = .ok (.ifCond .eq 83, 3) := by decide +kernel
theorem dX1_parse_18 : decode cX1_parse 18 = .ok (.iload_n 2, 1) := by decide +kernel
theorem dX1_parse_19 : decode cX1_parse 19 = .ok (.bipush 10, 2) := by decide +kernel
theorem dX1_parse_21 : decode cX1_parse 21 = .ok (.if_icmp .ge 77, 3) := by decide +kernel
theorem dX1_parse_24 : decode cX1_parse 24 = .ok (.aload_n 0, 1) := by decide +kernel
theorem dX1_parse_25 : decode cX1_parse 25 = .ok (.iload_n 2, 1) := by decide +kernel
theorem dX1_parse_26 : decode cX1_parse 26 = .ok (.invokevirtual 56, 3) := by decide +kernel
theorem dX1_parse_29 : decode cX1_parse 29 = .ok (.ifCond .ne 8, 3) := by decide +kernel
theorem dX1_parse_32 : decode cX1_parse 32 = .ok (.aload_n 0, 1) := by decide +kernel
theorem dX1_parse_33 : decode cX1_parse 33 = .ok (.getfield 31, 3) := by decide +kernel
theorem dX1_parse_36 : decode cX1_parse 36 = .ok (.ireturn, 1) := by decide +kernel
theorem dX1_parse_37 : decode cX1_parse 37 = .ok (.aload_n 0, 1) := by decide +kernel
theorem dX1_parse_38 : decode cX1_parse 38 = .ok (.dup, 1) := by decide +kernel
theorem dX1_parse_39 : decode cX1_parse 39 = .ok (.getfield 28, 3) := by decide +kernel
theorem dX1_parse_42 : decode cX1_parse 42 = .ok (.iconst 1, 1) := by decide +kernel
theorem dX1_parse_43 : decode cX1_parse 43 = .ok (.iadd, 1) := by decide +kernel
theorem dX1_parse_44 : decode cX1_parse 44 = .ok (.putfield 28, 3) := by decide +kernel
theorem dX1_parse_47 : decode cX1_parse 47 = .ok (.aload_n 0, 1) := by decide +kernel
theorem dX1_parse_48 : decode cX1_parse 48 = .ok (.getfield 31, 3) := by decide +kernel
theorem dX1_parse_51 : decode cX1_parse 51 = .ok (.aload_n 0, 1) := by decide +kernel
theorem dX1_parse_52 : decode cX1_parse 52 = .ok (.getfield 15, 3) := by decide +kernel
theorem dX1_parse_55 : decode cX1_parse 55 = .ok (.if_icmp .ge 21, 3) := by decide +kernel
theorem dX1_parse_58 : decode cX1_parse 58 = .ok (.aload_n 0, 1) := by decide +kernel
theorem dX1_parse_59 : decode cX1_parse 59 = .ok (.getfield 9, 3) := by decide +kernel
theorem dX1_parse_62 : decode cX1_parse 62 = .ok (.aload_n 0, 1) := by decide +kernel
theorem dX1_parse_63 : decode cX1_parse 63 = .ok (.getfield 31, 3) := by decide +kernel
theorem dX1_parse_66 : decode cX1_parse 66 = .ok (.caload, 1) := by decide +kernel
theorem dX1_parse_67 : decode cX1_parse 67 = .ok (.bipush 59, 2) := by decide +kernel
theorem dX1_parse_69 : decode cX1_parse 69 = .ok (.if_icmp .ne 7, 3) := by decide +kernel
theorem dX1_parse_72 : decode cX1_parse 72 = .ok (.iconst 1, 1) := by decide +kernel
theorem dX1_parse_73 : decode cX1_parse 73 = .ok (.goto 4, 3) := by decide +kernel
theorem dX1_parse_76 : decode cX1_parse 76 = .ok (.iconst 0, 1) := by decide +kernel
theorem dX1_parse_77 : decode cX1_parse 77 = .ok (.istore_n 1, 1) := by decide +kernel
theorem dX1_parse_78 : decode cX1_parse 78 = .ok (.iload_n 1, 1) := by decide +kernel
theorem dX1_parse_79 : decode cX1_parse 79 = .ok (.ifCond .eq 13, 3) := by decide +kernel
theorem dX1_parse_82 : decode cX1_parse 82 = .ok (.aload_n 0, 1) := by decide +kernel
theorem dX1_parse_83 : decode cX1_parse 83 = .ok (.dup, 1) := by decide +kernel
theorem dX1_parse_84 : decode cX1_parse 84 = .ok (.getfield 31, 3) := by decide +kernel
theorem dX1_parse_87 : decode cX1_parse 87 = .ok (.iconst 1, 1) := by decide +kernel
theorem dX1_parse_88 : decode cX1_parse 88 = .ok (.iadd, 1) := by decide +kernel
theorem dX1_parse_89 : decode cX1_parse 89 = .ok (.putfield 31, 3) := by decide +kernel
theorem dX1_parse_92 : decode cX1_parse 92 = .ok (.iinc 2 1, 3) := by decide +kernel
theorem dX1_parse_95 : decode cX1_parse 95 = .ok (.goto (-81), 3) := by decide +kernel
theorem dX1_parse_98 : decode cX1_parse 98 = .ok (.aload_n 0, 1) := by decide +kernel
theorem dX1_parse_99 : decode cX1_parse 99 = .ok (.getfield 31, 3) := by decide +kernel
theorem dX1_parse_102 : decode cX1_parse 102 = .ok (.aload_n 0, 1) := by decide +kernel
theorem dX1_parse_103 : decode cX1_parse 103 = .ok (.getfield 15, 3) := by decide +kernel
theorem dX1_parse_106 : decode cX1_parse 106 = .ok (.if_icmp .lt 11, 3) := by decide +kernel
theorem dX1_parse_109 : decode cX1_parse 109 = .ok (.iload_n 1, 1) := by decide +kernel
theorem dX1_parse_110 : decode cX1_parse 110 = .ok (.ifCond .ne 7, 3) := by decide +kernel
theorem dX1_parse_113 : decode cX1_parse 113 = .ok (.iconst 1, 1) := by decide +kernel
theorem dX1_parse_114 : decode cX1_parse 114 = .ok (.goto 4, 3) := by decide +kernel
theorem dX1_parse_117 : decode cX1_parse 117 = .ok (.iconst 0, 1) := by decide +kernel
theorem dX1_parse_118 : decode cX1_parse 118 = .ok (.istore_n 2, 1) := by decide +kernel
theorem dX1_parse_119 : decode cX1_parse 119 = .ok (.iload_n 2, 1) := by decide +kernel
theorem dX1_parse_120 : decode cX1_parse 120 = .ok (.ifCond .eq 7, 3) := by decide +kernel
theorem dX1_parse_123 : decode cX1_parse 123 = .ok (.iconst (-1), 1) := by decide +kernel
theorem dX1_parse_124 : decode cX1_parse 124 = .ok (.goto 7, 3) := by decide +kernel
theorem dX1_parse_127 : decode cX1_parse 127 = .ok (.aload_n 0, 1) := by decide +kernel
theorem dX1_parse_128 : decode cX1_parse 128 = .ok (.getfield 31, 3) := by decide +kernel
theorem dX1_parse_131 : decode cX1_parse 131 = .ok (.ireturn, 1) := by decide +kernel
theorem dX1_parseCommand_0 : decode cX1_parseCommand 0 = .ok (.aload_n 0, 1) := by decide +kernel
theorem dX1_parseCommand_1 : decode cX1_parseCommand 1 = .ok (.getfield 31, 3) := by decide +kernel
theorem dX1_parseCommand_4 : decode cX1_parseCommand 4 = .ok (.istore_n 2, 1) := by decide +kernel
theorem dX1_parseCommand_5 : decode cX1_parseCommand 5 = .ok (.iload_n 2, 1) := by decide +kernel
theorem dX1_parseCommand_6 : decode cX1_parseCommand 6 = .ok (.istore_n 3, 1) := by decide +kernel
theorem dX1_parseCommand_7 : decode cX1_parseCommand 7 = .ok (.iconst 0, 1) := by decide +kernel
theorem dX1_parseCommand_8 : decode cX1_parseCommand 8 = .ok (.istore 4, 2) := by decide +kernel
theorem dX1_parseCommand_10 : decode cX1_parseCommand 10 = .ok (.iload 4, 2) := by decide +kernel
theorem dX1_parseCommand_12 : decode cX1_parseCommand 12 = .ok (.bipush 9, 2) := by decide +kernel
theorem dX1_parseCommand_14 : decode cX1_parseCommand 14 = .ok (.if_icmp .ge 46, 3) := by decide +kernel
theorem dX1_parseCommand_17 : decode cX1_parseCommand 17 = .ok (.aload_n 0, 1) := by decide +kernel
theorem dX1_parseCommand_18 : decode cX1_parseCommand 18 = .ok (.iload_n 2, 1) := by decide +kernel
theorem dX1_parseCommand_19 : decode cX1_parseCommand 19 = .ok (.putfield 31, 3) := by decide +kernel
theorem dX1_parseCommand_22 : decode cX1_parseCommand 22 = .ok (.aload_n 0, 1) := by decide +kernel
theorem dX1_parseCommand_23 : decode cX1_parseCommand 23 = .ok (.iload 4, 2) := by decide +kernel
theorem dX1_parseCommand_25 : decode cX1_parseCommand 25 = .ok (.invokestatic 60, 3) := by decide +kernel
theorem dX1_parseCommand_28 : decode cX1_parseCommand 28 = .ok (.iload_n 1, 1) := by decide +kernel
theorem dX1_parseCommand_29 : decode cX1_parseCommand 29 = .ok (.invokevirtual 64, 3) := by decide +kernel
theorem dX1_parseCommand_32 : decode cX1_parseCommand 32 = .ok (.ifCond .eq 13, 3) := by decide +kernel
theorem dX1_parseCommand_35 : decode cX1_parseCommand 35 = .ok (.aload_n 0, 1) := by decide +kernel
theorem dX1_parseCommand_36 : decode cX1_parseCommand 36 = .ok (.getfield 19, 3) := by decide +kernel
theorem dX1_parseCommand_39 : decode cX1_parseCommand 39 = .ok (.iload_n 1, 1) := by decide +kernel
theorem dX1_parseCommand_40 : decode cX1_parseCommand 40 = .ok (.iload 4, 2) := by decide +kernel
theorem dX1_parseCommand_42 : decode cX1_parseCommand 42 = .ok (.iastore, 1) := by decide +kernel
theorem dX1_parseCommand_43 : decode cX1_parseCommand 43 = .ok (.iconst 1, 1) := by decide +kernel
theorem dX1_parseCommand_44 : decode cX1_parseCommand 44 = .ok (.ireturn, 1) := by decide +kernel
theorem dX1_parseCommand_45 : decode cX1_parseCommand 45 = .ok (.iload_n 3, 1) := by decide +kernel
theorem dX1_parseCommand_46 : decode cX1_parseCommand 46 = .ok (.aload_n 0, 1) := by decide +kernel
theorem dX1_parseCommand_47 : decode cX1_parseCommand 47 = .ok (.getfield 31, 3) := by decide +kernel
theorem dX1_parseCommand_50 : decode cX1_parseCommand 50 = .ok (.invokestatic 68, 3) := by decide +kernel
theorem dX1_parseCommand_53 : decode cX1_parseCommand 53 = .ok (.istore_n 3, 1) := by decide +kernel
theorem dX1_parseCommand_54 : decode cX1_parseCommand 54 = .ok (.iinc 4 1, 3) := by decide +kernel
theorem dX1_parseCommand_57 : decode cX1_parseCommand 57 = .ok (.goto (-47), 3) := by decide +kernel
theorem dX1_parseCommand_60 : decode cX1_parseCommand 60 = .ok (.aload_n 0, 1) := by decide +kernel
theorem dX1_parseCommand_61 : decode cX1_parseCommand 61 = .ok (.iload_n 3, 1) := by decide +kernel
theorem dX1_parseCommand_62 : decode cX1_parseCommand 62 = .ok (.putfield 31, 3) := by decide +kernel
theorem dX1_parseCommand_65 : decode cX1_parseCommand 65 = .ok (.iconst 0, 1) := by decide +kernel
theorem dX1_parseCommand_66 : decode cX1_parseCommand 66 = .ok (.ireturn, 1) := by decide +kernel
theorem dX1_matches_0 : decode cX1_matches 0 = .ok (.iconst 0, 1) := by decide +kernel
theorem dX1_matches_1 : decode cX1_matches 1 = .ok (.istore_n 3, 1) := by decide +kernel
theorem dX1_matches_2 : decode cX1_matches 2 = .ok (.iconst 0, 1) := by decide +kernel
theorem dX1_matches_3 : decode cX1_matches 3 = .ok (.istore 4, 2) := by decide +kernel
theorem dX1_matches_5 : decode cX1_matches 5 = .ok (.iload 4, 2) := by decide +kernel
theorem dX1_matches_7 : decode cX1_matches 7 = .ok (.aload_n 1, 1) := by decide +kernel
theorem dX1_matches_8 : decode cX1_matches 8 = .ok (.invokevirtual 74, 3) := by decide +kernel
theorem dX1_matches_11 : decode cX1_matches 11 = .ok (.if_icmp .ge 118, 3) := by decide +kernel
theorem dX1_matches_14 : decode cX1_matches 14 = .ok (.aload_n 1, 1) := by decide +kernel
theorem dX1_matches_15 : decode cX1_matches 15 = .ok (.iload 4, 2) := by decide +kernel
theorem dX1_matches_17 : decode cX1_matches 17 = .ok (.invokevirtual 79, 3) := by decide +kernel
theorem dX1_matches_20 : decode cX1_matches 20 = .ok (.istore 5, 2) := by decide +kernel
theorem dX1_matches_22 : decode cX1_matches 22 = .ok (.iload 5, 2) := by decide +kernel
theorem dX1_matches_24 : decode cX1_matches 24 = .ok (.bipush 37, 2) := by decide +kernel
theorem dX1_matches_26 : decode cX1_matches 26 = .ok (.if_icmp .eq 10, 3) := by decide +kernel
theorem dX1_matches_29 : decode cX1_matches 29 = .ok (.iload 5, 2) := by decide +kernel
theorem dX1_matches_31 : decode cX1_matches 31 = .ok (.bipush 35, 2) := by decide +kernel
theorem dX1_matches_33 : decode cX1_matches 33 = .ok (.if_icmp .ne 7, 3) := by decide +kernel
theorem dX1_matches_36 : decode cX1_matches 36 = .ok (.iconst 1, 1) := by decide +kernel
theorem dX1_matches_37 : decode cX1_matches 37 = .ok (.goto 4, 3) := by decide +kernel
theorem dX1_matches_40 : decode cX1_matches 40 = .ok (.iconst 0, 1) := by decide +kernel
theorem dX1_matches_41 : decode cX1_matches 41 = .ok (.istore 6, 2) := by decide +kernel
theorem dX1_matches_43 : decode cX1_matches 43 = .ok (.iload 6, 2) := by decide +kernel
theorem dX1_matches_45 : decode cX1_matches 45 = .ok (.ifCond .eq 13, 3) := by decide +kernel
theorem dX1_matches_48 : decode cX1_matches 48 = .ok (.aload_n 0, 1) := by decide +kernel
theorem dX1_matches_49 : decode cX1_matches 49 = .ok (.invokevirtual 83, 3) := by decide +kernel
theorem dX1_matches_52 : decode cX1_matches 52 = .ok (.ifCond .ne 17, 3) := by decide +kernel
theorem dX1_matches_55 : decode cX1_matches 55 = .ok (.goto 12, 3) := by decide +kernel
theorem dX1_matches_58 : decode cX1_matches 58 = .ok (.aload_n 0, 1) := by decide +kernel
theorem dX1_matches_59 : decode cX1_matches 59 = .ok (.iload 5, 2) := by decide +kernel
theorem dX1_matches_61 : decode cX1_matches 61 = .ok (.invokevirtual 86, 3) := by decide +kernel
theorem dX1_matches_64 : decode cX1_matches 64 = .ok (.ifCond .ne 5, 3) := by decide +kernel
theorem dX1_matches_67 : decode cX1_matches 67 = .ok (.iconst 0, 1) := by decide +kernel
theorem dX1_matches_68 : decode cX1_matches 68 = .ok (.ireturn, 1) := by decide +kernel
theorem dX1_matches_69 : decode cX1_matches 69 = .ok (.iload 6, 2) := by decide +kernel
theorem dX1_matches_71 : decode cX1_matches 71 = .ok (.ifCond .eq 42, 3) := by decide +kernel
theorem dX1_matches_74 : decode cX1_matches 74 = .ok (.aload_n 0, 1) := by decide +kernel
theorem dX1_matches_75 : decode cX1_matches 75 = .ok (.iload 5, 2) := by decide +kernel
theorem dX1_matches_77 : decode cX1_matches 77 = .ok (.bipush 37, 2) := by decide +kernel
theorem dX1_matches_79 : decode cX1_matches 79 = .ok (.if_icmp .ne 7, 3) := by decide +kernel
theorem dX1_matches_82 : decode cX1_matches 82 = .ok (.iconst 1, 1) := by decide +kernel
theorem dX1_matches_83 : decode cX1_matches 83 = .ok (.goto 4, 3) := by decide +kernel
theorem dX1_matches_86 : decode cX1_matches 86 = .ok (.iconst 0, 1) := by decide +kernel
theorem dX1_matches_87 : decode cX1_matches 87 = .ok (.invokevirtual 90, 3) := by decide +kernel
theorem dX1_matches_90 : decode cX1_matches 90 = .ok (.istore 7, 2) := by decide +kernel
theorem dX1_matches_92 : decode cX1_matches 92 = .ok (.iload_n 3, 1) := by decide +kernel
theorem dX1_matches_93 : decode cX1_matches 93 = .ok (.iconst 3, 1) := by decide +kernel
theorem dX1_matches_94 : decode cX1_matches 94 = .ok (.if_icmp .ge 16, 3) := by decide +kernel
theorem dX1_matches_97 : decode cX1_matches 97 = .ok (.aload_n 0, 1) := by decide +kernel
theorem dX1_matches_98 : decode cX1_matches 98 = .ok (.getfield 25, 3) := by decide +kernel
theorem dX1_matches_101 : decode cX1_matches 101 = .ok (.iload_n 2, 1) := by decide +kernel
theorem dX1_matches_102 : decode cX1_matches 102 = .ok (.aaload, 1) := by decide +kernel
theorem dX1_matches_103 : decode cX1_matches 103 = .ok (.iload_n 3, 1) := by decide +kernel
theorem dX1_matches_104 : decode cX1_matches 104 = .ok (.iload 7, 2) := by decide +kernel
theorem dX1_matches_106 : decode cX1_matches 106 = .ok (.iastore, 1) := by decide +kernel
theorem dX1_matches_107 : decode cX1_matches 107 = .ok (.iinc 3 1, 3) := by decide +kernel
theorem dX1_matches_110 : decode cX1_matches 110 = .ok (.goto 13, 3) := by decide +kernel
theorem dX1_matches_113 : decode cX1_matches 113 = .ok (.aload_n 0, 1) := by decide +kernel
theorem dX1_matches_114 : decode cX1_matches 114 = .ok (.dup, 1) := by decide +kernel
theorem dX1_matches_115 : decode cX1_matches 115 = .ok (.getfield 31, 3) := by decide +kernel
theorem dX1_matches_118 : decode cX1_matches 118 = .ok (.iconst 1, 1) := by decide +kernel
theorem dX1_matches_119 : decode cX1_matches 119 = .ok (.iadd, 1) := by decide +kernel
theorem dX1_matches_120 : decode cX1_matches 120 = .ok (.putfield 31, 3) := by decide +kernel
theorem dX1_matches_123 : decode cX1_matches 123 = .ok (.iinc 4 1, 3) := by decide +kernel
theorem dX1_matches_126 : decode cX1_matches 126 = .ok (.goto (-121), 3) := by decide +kernel
theorem dX1_matches_129 : decode cX1_matches 129 = .ok (.iconst 1, 1) := by decide +kernel
theorem dX1_matches_130 : decode cX1_matches 130 = .ok (.ireturn, 1) := by decide +kernel
theorem dX1_takeNumber_0 : decode cX1_takeNumber 0 = .ok (.aload_n 0, 1) := by decide +kernel
theorem dX1_takeNumber_1 : decode cX1_takeNumber 1 = .ok (.invokevirtual 94, 3) := by decide +kernel
theorem dX1_takeNumber_4 : decode cX1_takeNumber 4 = .ok (.istore_n 2, 1) := by decide +kernel
theorem dX1_takeNumber_5 : decode cX1_takeNumber 5 = .ok (.iload_n 1, 1) := by decide +kernel
theorem dX1_takeNumber_6 : decode cX1_takeNumber 6 = .ok (.ifCond .eq 20, 3) := by decide +kernel
theorem dX1_takeNumber_9 : decode cX1_takeNumber 9 = .ok (.aload_n 0, 1) := by decide +kernel
theorem dX1_takeNumber_10 : decode cX1_takeNumber 10 = .ok (.invokevirtual 83, 3) := by decide +kernel
theorem dX1_takeNumber_13 : decode cX1_takeNumber 13 = .ok (.ifCond .eq 13, 3) := by decide +kernel
theorem dX1_takeNumber_16 : decode cX1_takeNumber 16 = .ok (.iload_n 2, 1) := by decide +kernel
theorem dX1_takeNumber_17 : decode cX1_takeNumber 17 = .ok (.bipush 10, 2) := by decide +kernel
theorem dX1_takeNumber_19 : decode cX1_takeNumber 19 = .ok (.imul, 1) := by decide +kernel
theorem dX1_takeNumber_20 : decode cX1_takeNumber 20 = .ok (.aload_n 0, 1) := by decide +kernel
theorem dX1_takeNumber_21 : decode cX1_takeNumber 21 = .ok (.invokevirtual 94, 3) := by decide +kernel
theorem dX1_takeNumber_24 : decode cX1_takeNumber 24 = .ok (.iadd, 1) := by decide +kernel
theorem dX1_takeNumber_25 : decode cX1_takeNumber 25 = .ok (.istore_n 2, 1) := by decide +kernel
theorem dX1_takeNumber_26 : decode cX1_takeNumber 26 = .ok (.iload_n 2, 1) := by decide +kernel
theorem dX1_takeNumber_27 : decode cX1_takeNumber 27 = .ok (.ireturn, 1) := by decide +kernel
theorem dX1_takeDigit_0 : decode cX1_takeDigit 0 = .ok (.aload_n 0, 1) := by decide +kernel
theorem dX1_takeDigit_1 : decode cX1_takeDigit 1 = .ok (.invokevirtual 83, 3) := by decide +kernel
theorem dX1_takeDigit_4 : decode cX1_takeDigit 4 = .ok (.ifCond .eq 18, 3) := by decide +kernel
theorem dX1_takeDigit_7 : decode cX1_takeDigit 7 = .ok (.aload_n 0, 1) := by decide +kernel
theorem dX1_takeDigit_8 : decode cX1_takeDigit 8 = .ok (.getfield 9, 3) := by decide +kernel
theorem dX1_takeDigit_11 : decode cX1_takeDigit 11 = .ok (.aload_n 0, 1) := by decide +kernel
theorem dX1_takeDigit_12 : decode cX1_takeDigit 12 = .ok (.getfield 31, 3) := by decide +kernel
theorem dX1_takeDigit_15 : decode cX1_takeDigit 15 = .ok (.caload, 1) := by decide +kernel
theorem dX1_takeDigit_16 : decode cX1_takeDigit 16 = .ok (.bipush 48, 2) := by decide +kernel
theorem dX1_takeDigit_18 : decode cX1_takeDigit 18 = .ok (.isub, 1) := by decide +kernel
theorem dX1_takeDigit_19 : decode cX1_takeDigit 19 = .ok (.goto 4, 3) := by decide +kernel
theorem dX1_takeDigit_22 : decode cX1_takeDigit 22 = .ok (.iconst 0, 1) := by decide +kernel
theorem dX1_takeDigit_23 : decode cX1_takeDigit 23 = .ok (.istore_n 1, 1) := by decide +kernel
theorem dX1_takeDigit_24 : decode cX1_takeDigit 24 = .ok (.aload_n 0, 1) := by decide +kernel
theorem dX1_takeDigit_25 : decode cX1_takeDigit 25 = .ok (.dup, 1) := by decide +kernel
theorem dX1_takeDigit_26 : decode cX1_takeDigit 26 = .ok (.getfield 31, 3) := by decide +kernel
theorem dX1_takeDigit_29 : decode cX1_takeDigit 29 = .ok (.iconst 1, 1) := by decide +kernel
theorem dX1_takeDigit_30 : decode cX1_takeDigit 30 = .ok (.iadd, 1) := by decide +kernel
theorem dX1_takeDigit_31 : decode cX1_takeDigit 31 = .ok (.putfield 31, 3) := by decide +kernel
theorem dX1_takeDigit_34 : decode cX1_takeDigit 34 = .ok (.iload_n 1, 1) := by decide +kernel
theorem dX1_takeDigit_35 : decode cX1_takeDigit 35 = .ok (.ireturn, 1) := by decide +kernel
theorem dX1_isDigit_0 : decode cX1_isDigit 0 = .ok (.aload_n 0, 1) := by decide +kernel
theorem dX1_isDigit_1 : decode cX1_isDigit 1 = .ok (.getfield 31, 3) := by decide +kernel
theorem dX1_isDigit_4 : decode cX1_isDigit 4 = .ok (.aload_n 0, 1) := by decide +kernel
theorem dX1_isDigit_5 : decode cX1_isDigit 5 = .ok (.getfield 15, 3) := by decide +kernel
theorem dX1_isDigit_8 : decode cX1_isDigit 8 = .ok (.if_icmp .ge 35, 3) := by decide +kernel
theorem dX1_isDigit_11 : decode cX1_isDigit 11 = .ok (.aload_n 0, 1) := by decide +kernel
theorem dX1_isDigit_12 : decode cX1_isDigit 12 = .ok (.getfield 9, 3) := by decide +kernel
theorem dX1_isDigit_15 : decode cX1_isDigit 15 = .ok (.aload_n 0, 1) := by decide +kernel
theorem dX1_isDigit_16 : decode cX1_isDigit 16 = .ok (.getfield 31, 3) := by decide +kernel
theorem dX1_isDigit_19 : decode cX1_isDigit 19 = .ok (.caload, 1) := by decide +kernel
theorem dX1_isDigit_20 : decode cX1_isDigit 20 = .ok (.bipush 48, 2) := by decide +kernel
theorem dX1_isDigit_22 : decode cX1_isDigit 22 = .ok (.if_icmp .lt 21, 3) := by decide +kernel
theorem dX1_isDigit_25 : decode cX1_isDigit 25 = .ok (.aload_n 0, 1) := by decide +kernel
theorem dX1_isDigit_26 : decode cX1_isDigit 26 = .ok (.getfield 9, 3) := by decide +kernel
theorem dX1_isDigit_29 : decode cX1_isDigit 29 = .ok (.aload_n 0, 1) := by decide +kernel
theorem dX1_isDigit_30 : decode cX1_isDigit 30 = .ok (.getfield 31, 3) := by decide +kernel
theorem dX1_isDigit_33 : decode cX1_isDigit 33 = .ok (.caload, 1) := by decide +kernel
theorem dX1_isDigit_34 : decode cX1_isDigit 34 = .ok (.bipush 57, 2) := by decide +kernel
theorem dX1_isDigit_36 : decode cX1_isDigit 36 = .ok (.if_icmp .gt 7, 3) := by decide +kernel
theorem dX1_isDigit_39 : decode cX1_isDigit 39 = .ok (.iconst 1, 1) := by decide +kernel
theorem dX1_isDigit_40 : decode cX1_isDigit 40 = .ok (.goto 4, 3) := by decide +kernel
theorem dX1_isDigit_43 : decode cX1_isDigit 43 = .ok (.iconst 0, 1) := by decide +kernel
theorem dX1_isDigit_44 : decode cX1_isDigit 44 = .ok (.ireturn, 1) := by decide +kernel
theorem dX1_isCharacter_0 : decode cX1_isCharacter 0 = .ok (.aload_n 0, 1) := by decide +kernel
theorem dX1_isCharacter_1 : decode cX1_isCharacter 1 = .ok (.getfield 31, 3) := by decide +kernel
theorem dX1_isCharacter_4 : decode cX1_isCharacter 4 = .ok (.aload_n 0, 1) := by decide +kernel
theorem dX1_isCharacter_5 : decode cX1_isCharacter 5 = .ok (.getfield 15, 3) := by decide +kernel
theorem dX1_isCharacter_8 : decode cX1_isCharacter 8 = .ok (.if_icmp .ge 20, 3) := by decide +kernel
theorem dX1_isCharacter_11 : decode cX1_isCharacter 11 = .ok (.aload_n 0, 1) := by decide +kernel
theorem dX1_isCharacter_12 : decode cX1_isCharacter 12 = .ok (.getfield 9, 3) := by decide +kernel
theorem dX1_isCharacter_15 : decode cX1_isCharacter 15 = .ok (.aload_n 0, 1) := by decide +kernel
theorem dX1_isCharacter_16 : decode cX1_isCharacter 16 = .ok (.getfield 31, 3) := by decide +kernel
theorem dX1_isCharacter_19 : decode cX1_isCharacter 19 = .ok (.caload, 1) := by decide +kernel
theorem dX1_isCharacter_20 : decode cX1_isCharacter 20 = .ok (.iload_n 1, 1) := by decide +kernel
theorem dX1_isCharacter_21 : decode cX1_isCharacter 21 = .ok (.if_icmp .ne 7, 3) := by decide +kernel
theorem dX1_isCharacter_24 : decode cX1_isCharacter 24 = .ok (.iconst 1, 1) := by decide +kernel
theorem dX1_isCharacter_25 : decode cX1_isCharacter 25 = .ok (.goto 4, 3) := by decide +kernel
theorem dX1_isCharacter_28 : decode cX1_isCharacter 28 = .ok (.iconst 0, 1) := by decide +kernel
theorem dX1_isCharacter_29 : decode cX1_isCharacter 29 = .ok (.ireturn, 1) := by decide +kernel
theorem dX2_init_0 : decode cX2_init 0 = .ok (.aload_n 0, 1) := by decide +kernel
theorem dX2_init_1 : decode cX2_init 1 = .ok (.invokespecial 3, 3) := by decide +kernel
theorem dX2_init_4 : decode cX2_init 4 = .ok (.aload_n 0, 1) := by decide +kernel
theorem dX2_init_5 : decode cX2_init 5 = .ok (.bipush 10, 2) := by decide +kernel
theorem dX2_init_7 : decode cX2_init 7 = .ok (.newarray .int, 2) := by decide +kernel
theorem dX2_init_9 : decode cX2_init 9 = .ok (.putfield 9, 3) := by decide +kernel
theorem dX2_init_12 : decode cX2_init 12 = .ok (.aload_n 0, 1) := by decide +kernel
theorem dX2_init_13 : decode cX2_init 13 = .ok (.bipush 10, 2) := by decide +kernel
theorem dX2_init_15 : decode cX2_init 15 = .ok (.newarray .int, 2) := by decide +kernel
theorem dX2_init_17 : decode cX2_init 17 = .ok (.putfield 15, 3) := by decide +kernel
theorem dX2_init_20 : decode cX2_init 20 = .ok (.aload_n 0, 1) := by decide +kernel
theorem dX2_init_21 : decode cX2_init 21 = .ok (.bipush 10, 2) := by decide +kernel
theorem dX2_init_23 : decode cX2_init 23 = .ok (.newarray .int, 2) := by decide +kernel
theorem dX2_init_25 : decode cX2_init 25 = .ok (.putfield 18, 3) := by decide +kernel
theorem dX2_init_28 : decode cX2_init 28 = .ok (.aload_n 0, 1) := by decide +kernel
theorem dX2_init_29 : decode cX2_init 29 = .ok (.bipush 10, 2) := by decide +kernel
theorem dX2_init_31 : decode cX2_init 31 = .ok (.newarray .int, 2) := by decide +kernel
theorem dX2_init_33 : decode cX2_init 33 = .ok (.putfield 21, 3) := by decide +kernel
theorem dX2_init_36 : decode cX2_init 36 = .ok (.aload_n 0, 1) := by decide +kernel
theorem dX2_init_37 : decode cX2_init 37 = .ok (.iconst 0, 1) := by decide +kernel
theorem dX2_init_38 : decode cX2_init 38 = .ok (.putfield 24, 3) := by decide +kernel
theorem dX2_init_41 : decode cX2_init 41 = .ok (.aload_n 0, 1) := by decide +kernel
theorem dX2_init_42 : decode cX2_init 42 = .ok (.new 28, 3) := by decide +kernel
theorem dX2_init_45 : decode cX2_init 45 = .ok (.dup, 1) := by decide +kernel
theorem dX2_init_46 : decode cX2_init 46 = .ok (.invokespecial 30, 3) := by decide +kernel
theorem dX2_init_49 : decode cX2_init 49 = .ok (.putfield 31, 3) := by decide +kernel
theorem dX2_init_52 : decode cX2_init 52 = .ok (.aload_n 0, 1) := by decide +kernel
theorem dX2_init_53 : decode cX2_init 53 = .ok (.new 35, 3) := by decide +kernel
theorem dX2_init_56 : decode cX2_init 56 = .ok (.dup, 1) := by decide +kernel
theorem dX2_init_57 : decode cX2_init 57 = .ok (.invokespecial 37, 3) := by decide +kernel
theorem dX2_init_60 : decode cX2_init 60 = .ok (.putfield 38, 3) := by decide +kernel
theorem dX2_init_63 : decode cX2_init 63 = .ok (.aload_n 0, 1) := by decide +kernel
theorem dX2_init_64 : decode cX2_init 64 = .ok (.iconst 3, 1) := by decide +kernel
theorem dX2_init_65 : decode cX2_init 65 = .ok (.newarray .long, 2) := by decide +kernel
theorem dX2_init_67 : decode cX2_init 67 = .ok (.putfield 42, 3) := by decide +kernel
theorem dX2_init_70 : decode cX2_init 70 = .ok (.aload_n 0, 1) := by decide +kernel
theorem dX2_init_71 : decode cX2_init 71 = .ok (.iconst 0, 1) := by decide +kernel
theorem dX2_init_72 : decode cX2_init 72 = .ok (.putfield 46, 3) := by decide +kernel
theorem dX2_init_75 : decode cX2_init 75 = .ok (.aload_n 0, 1) := by decide +kernel
theorem dX2_init_76 : decode cX2_init 76 = .ok (.iconst 0, 1) := by decide +kernel
theorem dX2_init_77 : decode cX2_init 77 = .ok (.putfield 49, 3) := by decide +kernel
theorem dX2_init_80 : decode cX2_init 80 = .ok (.aload_n 0, 1) := by decide +kernel
theorem dX2_init_81 : decode cX2_init 81 = .ok (.iconst 4, 1) := by decide +kernel
theorem dX2_init_82 : decode cX2_init 82 = .ok (.putfield 52, 3) := by decide +kernel
theorem dX2_init_85 : decode cX2_init 85 = .ok (.aload_n 0, 1) := by decide +kernel
theorem dX2_init_86 : decode cX2_init 86 = .ok (.iconst (-1), 1) := by decide +kernel
theorem dX2_init_87 : decode cX2_init 87 = .ok (.putfield 55, 3) := by decide +kernel
theorem dX2_init_90 : decode cX2_init 90 = .ok (.aload_n 0, 1) := by decide +kernel
theorem dX2_init_91 : decode cX2_init 91 = .ok (.iconst (-1), 1) := by decide +kernel
theorem dX2_init_92 : decode cX2_init 92 = .ok (.putfield 58, 3) := by decide +kernel
theorem dX2_init_95 : decode cX2_init 95 = .ok (.aload_n 0, 1) := by decide +kernel
theorem dX2_init_96 : decode cX2_init 96 = .ok (.iconst 3, 1) := by decide +kernel
theorem dX2_init_97 : decode cX2_init 97 = .ok (.putfield 61, 3) := by decide +kernel
theorem dX2_init_100 : decode cX2_init 100 = .ok (.aload_n 0, 1) := by decide +kernel
theorem dX2_init_101 : decode cX2_init 101 = .ok (.iconst 0, 1) := by decide +kernel
theorem dX2_init_102 : decode cX2_init 102 = .ok (.putfield 64, 3) := by decide +kernel
theorem dX2_init_105 : decode cX2_init 105 = .ok (.aload_n 0, 1) := by decide +kernel
theorem dX2_init_106 : decode cX2_init 106 = .ok (.iconst 0, 1) := by decide +kernel
theorem dX2_init_107 : decode cX2_init 107 = .ok (.putfield 67, 3) := by decide +kernel
theorem dX2_init_110 : decode cX2_init 110 = .ok (.return_, 1) := by decide +kernel
theorem dX2_copyFrom_0 : decode cX2_copyFrom 0 = .ok (.aload_n 1, 1) := by decide +kernel
theorem dX2_copyFrom_1 : decode cX2_copyFrom 1 = .ok (.getfield 9, 3) := by decide +kernel
theorem dX2_copyFrom_4 : decode cX2_copyFrom 4 = .ok (.iconst 0, 1) := by decide +kernel
theorem dX2_copyFrom_5 : decode cX2_copyFrom 5 = .ok (.aload_n 0, 1) := by decide +kernel
theorem dX2_copyFrom_6 : decode cX2_copyFrom 6 = .ok (.getfield 9, 3) := by decide +kernel
theorem dX2_copyFrom_9 : decode cX2_copyFrom 9 = .ok (.iconst 0, 1) := by decide +kernel
theorem dX2_copyFrom_10 : decode cX2_copyFrom 10 = .ok (.bipush 10, 2) := by decide +kernel
theorem dX2_copyFrom_12 : decode cX2_copyFrom 12 = .ok (.invokestatic 70, 3) := by decide +kernel
theorem dX2_copyFrom_15 : decode cX2_copyFrom 15 = .ok (.aload_n 1, 1) := by decide +kernel
theorem dX2_copyFrom_16 : decode cX2_copyFrom 16 = .ok (.getfield 15, 3) := by decide +kernel
theorem dX2_copyFrom_19 : decode cX2_copyFrom 19 = .ok (.iconst 0, 1) := by decide +kernel
theorem dX2_copyFrom_20 : decode cX2_copyFrom 20 = .ok (.aload_n 0, 1) := by decide +kernel
theorem dX2_copyFrom_21 : decode cX2_copyFrom 21 = .ok (.getfield 15, 3) := by decide +kernel
theorem dX2_copyFrom_24 : decode cX2_copyFrom 24 = .ok (.iconst 0, 1) := by decide +kernel
theorem dX2_copyFrom_25 : decode cX2_copyFrom 25 = .ok (.bipush 10, 2) := by decide +kernel
theorem dX2_copyFrom_27 : decode cX2_copyFrom 27 = .ok (.invokestatic 70, 3) := by decide +kernel
theorem dX2_copyFrom_30 : decode cX2_copyFrom 30 = .ok (.aload_n 1, 1) := by decide +kernel
theorem dX2_copyFrom_31 : decode cX2_copyFrom 31 = .ok (.getfield 18, 3) := by decide +kernel
theorem dX2_copyFrom_34 : decode cX2_copyFrom 34 = .ok (.iconst 0, 1) := by decide +kernel
theorem dX2_copyFrom_35 : decode cX2_copyFrom 35 = .ok (.aload_n 0, 1) := by decide +kernel
theorem dX2_copyFrom_36 : decode cX2_copyFrom 36 = .ok (.getfield 18, 3) := by decide +kernel
theorem dX2_copyFrom_39 : decode cX2_copyFrom 39 = .ok (.iconst 0, 1) := by decide +kernel
theorem dX2_copyFrom_40 : decode cX2_copyFrom 40 = .ok (.bipush 10, 2) := by decide +kernel
theorem dX2_copyFrom_42 : decode cX2_copyFrom 42 = .ok (.invokestatic 70, 3) := by decide +kernel
theorem dX2_copyFrom_45 : decode cX2_copyFrom 45 = .ok (.aload_n 1, 1) := by decide +kernel
theorem dX2_copyFrom_46 : decode cX2_copyFrom 46 = .ok (.getfield 21, 3) := by decide +kernel
theorem dX2_copyFrom_49 : decode cX2_copyFrom 49 = .ok (.iconst 0, 1) := by decide +kernel
theorem dX2_copyFrom_50 : decode cX2_copyFrom 50 = .ok (.aload_n 0, 1) := by decide +kernel
theorem dX2_copyFrom_51 : decode cX2_copyFrom 51 = .ok (.getfield 21, 3) := by decide +kernel
theorem dX2_copyFrom_54 : decode cX2_copyFrom 54 = .ok (.iconst 0, 1) := by decide +kernel
theorem dX2_copyFrom_55 : decode cX2_copyFrom 55 = .ok (.bipush 10, 2) := by decide +kernel
theorem dX2_copyFrom_57 : decode cX2_copyFrom 57 = .ok (.invokestatic 70, 3) := by decide +kernel
theorem dX2_copyFrom_60 : decode cX2_copyFrom 60 = .ok (.aload_n 0, 1) := by decide +kernel
theorem dX2_copyFrom_61 : decode cX2_copyFrom 61 = .ok (.aload_n 1, 1) := by decide +kernel
theorem dX2_copyFrom_62 : decode cX2_copyFrom 62 = .ok (.getfield 24, 3) := by decide +kernel
theorem dX2_copyFrom_65 : decode cX2_copyFrom 65 = .ok (.putfield 24, 3) := by decide +kernel
theorem dX2_copyFrom_68 : decode cX2_copyFrom 68 = .ok (.aload_n 0, 1) := by decide +kernel
theorem dX2_copyFrom_69 : decode cX2_copyFrom 69 = .ok (.getfield 31, 3) := by decide +kernel
theorem dX2_copyFrom_72 : decode cX2_copyFrom 72 = .ok (.aload_n 1, 1) := by decide +kernel
theorem dX2_copyFrom_73 : decode cX2_copyFrom 73 = .ok (.getfield 31, 3) := by decide +kernel
theorem dX2_copyFrom_76 : decode cX2_copyFrom 76 = .ok (.invokevirtual 76, 3) := by decide +kernel
theorem dX2_copyFrom_79 : decode cX2_copyFrom 79 = .ok (.aload_n 0, 1) := by decide +kernel
theorem dX2_copyFrom_80 : decode cX2_copyFrom 80 = .ok (.getfield 38, 3) := by decide +kernel
theorem dX2_copyFrom_83 : decode cX2_copyFrom 83 = .ok (.aload_n 1, 1) := by decide +kernel
theorem dX2_copyFrom_84 : decode cX2_copyFrom 84 = .ok (.getfield 38, 3) := by decide +kernel
theorem dX2_copyFrom_87 : decode cX2_copyFrom 87 = .ok (.invokevirtual 80, 3) := by decide +kernel
theorem dX2_copyFrom_90 : decode cX2_copyFrom 90 = .ok (.aload_n 0, 1) := by decide +kernel
theorem dX2_copyFrom_91 : decode cX2_copyFrom 91 = .ok (.aload_n 1, 1) := by decide +kernel
theorem dX2_copyFrom_92 : decode cX2_copyFrom 92 = .ok (.getfield 46, 3) := by decide +kernel
theorem dX2_copyFrom_95 : decode cX2_copyFrom 95 = .ok (.putfield 46, 3) := by decide +kernel
theorem dX2_copyFrom_98 : decode cX2_copyFrom 98 = .ok (.aload_n 0, 1) := by decide +kernel
theorem dX2_copyFrom_99 : decode cX2_copyFrom 99 = .ok (.aload_n 1, 1) := by decide +kernel
theorem dX2_copyFrom_100 : decode cX2_copyFrom 100 = .ok (.getfield 49, 3) := by decide +kernel
theorem dX2_copyFrom_103 : decode cX2_copyFrom 103 = .ok (.putfield 49, 3) := by decide +kernel
theorem dX2_copyFrom_106 : decode cX2_copyFrom 106 = .ok (.aload_n 0, 1) := by decide +kernel
theorem dX2_copyFrom_107 : decode cX2_copyFrom 107 = .ok (.aload_n 1, 1) := by decide +kernel
theorem dX2_copyFrom_108 : decode cX2_copyFrom 108 = .ok (.getfield 52, 3) := by decide +kernel
theorem dX2_copyFrom_111 : decode cX2_copyFrom 111 = .ok (.putfield 52, 3) := by decide +kernel
theorem dX2_copyFrom_114 : decode cX2_copyFrom 114 = .ok (.aload_n 0, 1) := by decide +kernel
theorem dX2_copyFrom_115 : decode cX2_copyFrom 115 = .ok (.aload_n 1, 1) := by decide +kernel
theorem dX2_copyFrom_116 : decode cX2_copyFrom 116 = .ok (.getfield 55, 3) := by decide +kernel
theorem dX2_copyFrom_119 : decode cX2_copyFrom 119 = .ok (.putfield 55, 3) := by decide +kernel
theorem dX2_copyFrom_122 : decode cX2_copyFrom 122 = .ok (.aload_n 0, 1) := by decide +kernel
theorem dX2_copyFrom_123 : decode cX2_copyFrom 123 = .ok (.aload_n 1, 1) := by decide +kernel
theorem dX2_copyFrom_124 : decode cX2_copyFrom 124 = .ok (.getfield 58, 3) := by decide +kernel
theorem dX2_copyFrom_127 : decode cX2_copyFrom 127 = .ok (.putfield 58, 3) := by decide +kernel
theorem dX2_copyFrom_130 : decode cX2_copyFrom 130 = .ok (.aload_n 0, 1) := by decide +kernel
theorem dX2_copyFrom_131 : decode cX2_copyFrom 131 = .ok (.aload_n 1, 1) := by decide +kernel
theorem dX2_copyFrom_132 : decode cX2_copyFrom 132 = .ok (.getfield 61, 3) := by decide +kernel
theorem dX2_copyFrom_135 : decode cX2_copyFrom 135 = .ok (.putfield 61, 3) := by decide +kernel
theorem dX2_copyFrom_138 : decode cX2_copyFrom 138 = .ok (.aload_n 0, 1) := by decide +kernel
theorem dX2_copyFrom_139 : decode cX2_copyFrom 139 = .ok (.aload_n 1, 1) := by decide +kernel
theorem dX2_copyFrom_140 : decode cX2_copyFrom 140 = .ok (.getfield 64, 3) := by decide +kernel
theorem dX2_copyFrom_143 : decode cX2_copyFrom 143 = .ok (.putfield 64, 3) := by decide +kernel
theorem dX2_copyFrom_146 : decode cX2_copyFrom 146 = .ok (.aload_n 0, 1) := by decide +kernel
theorem dX2_copyFrom_147 : decode cX2_copyFrom 147 = .ok (.aload_n 1, 1) := by decide +kernel
theorem dX2_copyFrom_148 : decode cX2_copyFrom 148 = .ok (.getfield 67, 3) := by decide +kernel
theorem dX2_copyFrom_151 : decode cX2_copyFrom 151 = .ok (.putfield 67, 3) := by decide +kernel
theorem dX2_copyFrom_154 : decode cX2_copyFrom 154 = .ok (.return_, 1) := by decide +kernel
theorem dX2_hindrance_0 : decode cX2_hindrance 0 = .ok (.iload_n 1, 1) := by decide +kernel
theorem dX2_hindrance_1 : decode cX2_hindrance 1 = .ok (.tableswitch 133 0 8 #[51, 60, 69, 88, 95, 102, 110, 117, 125], 51) := by decide +kernel
theorem dX2_hindrance_52 : decode cX2_hindrance 52 = .ok (.aload_n 0, 1) := by decide +kernel
theorem dX2_hindrance_53 : decode cX2_hindrance 53 = .ok (.iload_n 2, 1) := by decide +kernel
theorem dX2_hindrance_54 : decode cX2_hindrance 54 = .ok (.iload_n 3, 1) := by decide +kernel
theorem dX2_hindrance_55 : decode cX2_hindrance 55 = .ok (.iload 4, 2) := by decide +kernel
theorem dX2_hindrance_57 : decode cX2_hindrance 57 = .ok (.invokevirtual 83, 3) := by decide +kernel
theorem dX2_hindrance_60 : decode cX2_hindrance 60 = .ok (.ireturn, 1) := by decide +kernel
theorem dX2_hindrance_61 : decode cX2_hindrance 61 = .ok (.aload_n 0, 1) := by decide +kernel
theorem dX2_hindrance_62 : decode cX2_hindrance 62 = .ok (.iload_n 2, 1) := by decide +kernel
theorem dX2_hindrance_63 : decode cX2_hindrance 63 = .ok (.iload_n 3, 1) := by decide +kernel
theorem dX2_hindrance_64 : decode cX2_hindrance 64 = .ok (.iload 4, 2) := by decide +kernel
theorem dX2_hindrance_66 : decode cX2_hindrance 66 = .ok (.invokevirtual 87, 3) := by decide +kernel
theorem dX2_hindrance_69 : decode cX2_hindrance 69 = .ok (.ireturn, 1) := by decide +kernel
theorem dX2_hindrance_70 : decode cX2_hindrance 70 = .ok (.aload_n 0, 1) := by decide +kernel
theorem dX2_hindrance_71 : decode cX2_hindrance 71 = .ok (.iload_n 2, 1) := by decide +kernel
theorem dX2_hindrance_72 : decode cX2_hindrance 72 = .ok (.invokevirtual 90, 3) := by decide +kernel
theorem dX2_hindrance_75 : decode cX2_hindrance 75 = .ok (.ifCond .eq 12, 3) := by decide +kernel
theorem dX2_hindrance_78 : decode cX2_hindrance 78 = .ok (.iload_n 3, 1) := by decide +kernel
theorem dX2_hindrance_79 : decode cX2_hindrance 79 = .ok (.iconst 0, 1) := by decide +kernel
theorem dX2_hindrance_80 : decode cX2_hindrance 80 = .ok (.iconst 2, 1) := by decide +kernel
theorem dX2_hindrance_81 : decode cX2_hindrance 81 = .ok (.invokestatic 94, 3) := by decide +kernel
theorem dX2_hindrance_84 : decode cX2_hindrance 84 = .ok (.goto 4, 3) := by decide +kernel
theorem dX2_hindrance_87 : decode cX2_hindrance 87 = .ok (.iconst 1, 1) := by decide +kernel
theorem dX2_hindrance_88 : decode cX2_hindrance 88 = .ok (.ireturn, 1) := by decide +kernel
theorem dX2_hindrance_89 : decode cX2_hindrance 89 = .ok (.aload_n 0, 1) := by decide +kernel
theorem dX2_hindrance_90 : decode cX2_hindrance 90 = .ok (.iload_n 2, 1) := by decide +kernel
theorem dX2_hindrance_91 : decode cX2_hindrance 91 = .ok (.iload_n 3, 1) := by decide +kernel
theorem dX2_hindrance_92 : decode cX2_hindrance 92 = .ok (.invokevirtual 97, 3) := by decide +kernel
theorem dX2_hindrance_95 : decode cX2_hindrance 95 = .ok (.ireturn, 1) := by decide +kernel
theorem dX2_hindrance_96 : decode cX2_hindrance 96 = .ok (.aload_n 0, 1) := by decide +kernel
theorem dX2_hindrance_97 : decode cX2_hindrance 97 = .ok (.iload_n 2, 1) := by decide +kernel
theorem dX2_hindrance_98 : decode cX2_hindrance 98 = .ok (.iload_n 3, 1) := by decide +kernel
theorem dX2_hindrance_99 : decode cX2_hindrance 99 = .ok (.invokevirtual 101, 3) := by decide +kernel
theorem dX2_hindrance_102 : decode cX2_hindrance 102 = .ok (.ireturn, 1) := by decide +kernel
theorem dX2_hindrance_103 : decode cX2_hindrance 103 = .ok (.iload_n 2, 1) := by decide +kernel
theorem dX2_hindrance_104 : decode cX2_hindrance 104 = .ok (.iconst 2, 1) := by decide +kernel
theorem dX2_hindrance_105 : decode cX2_hindrance 105 = .ok (.bipush 9, 2) := by decide +kernel
theorem dX2_hindrance_107 : decode cX2_hindrance 107 = .ok (.invokestatic 94, 3) := by decide +kernel
theorem dX2_hindrance_110 : decode cX2_hindrance 110 = .ok (.ireturn, 1) := by decide +kernel
theorem dX2_hindrance_111 : decode cX2_hindrance 111 = .ok (.aload_n 0, 1) := by decide +kernel
theorem dX2_hindrance_112 : decode cX2_hindrance 112 = .ok (.iload_n 2, 1) := by decide +kernel
theorem dX2_hindrance_113 : decode cX2_hindrance 113 = .ok (.iload_n 3, 1) := by decide +kernel
theorem dX2_hindrance_114 : decode cX2_hindrance 114 = .ok (.invokevirtual 104, 3) := by decide +kernel
theorem dX2_hindrance_117 : decode cX2_hindrance 117 = .ok (.ireturn, 1) := by decide +kernel
theorem dX2_hindrance_118 : decode cX2_hindrance 118 = .ok (.iload_n 2, 1) := by decide +kernel
theorem dX2_hindrance_119 : decode cX2_hindrance 119 = .ok (.iconst 2, 1) := by decide +kernel
theorem dX2_hindrance_120 : decode cX2_hindrance 120 = .ok (.bipush 6, 2) := by decide +kernel
theorem dX2_hindrance_122 : decode cX2_hindrance 122 = .ok (.invokestatic 94, 3) := by decide +kernel
theorem dX2_hindrance_125 : decode cX2_hindrance 125 = .ok (.ireturn, 1) := by decide +kernel
theorem dX2_hindrance_126 : decode cX2_hindrance 126 = .ok (.iload_n 2, 1) := by decide +kernel
theorem dX2_hindrance_127 : decode cX2_hindrance 127 = .ok (.iconst 1, 1) := by decide +kernel
theorem dX2_hindrance_128 : decode cX2_hindrance 128 = .ok (.bipush 20, 2) := by decide +kernel
theorem dX2_hindrance_130 : decode cX2_hindrance 130 = .ok (.invokestatic 94, 3) := by decide +kernel
theorem dX2_hindrance_133 : decode cX2_hindrance 133 = .ok (.ireturn, 1) := by decide +kernel
theorem dX2_hindrance_134 : decode cX2_hindrance 134 = .ok (.iconst 3, 1) := by decide +kernel
theorem dX2_hindrance_135 : decode cX2_hindrance 135 = .ok (.ireturn, 1) := by decide +kernel
theorem dX2_hindranceOutside_0 : decode cX2_hindranceOutside 0 = .ok (.iload_n 0, 1) := by decide +kernel
theorem dX2_hindranceOutside_1 : decode cX2_hindranceOutside 1 = .ok (.iload_n 1, 1) := by decide +kernel
theorem dX2_hindranceOutside_2 : decode cX2_hindranceOutside 2 = .ok (.if_icmp .lt 12, 3) := by decide +kernel
theorem dX2_hindranceOutside_5 : decode cX2_hindranceOutside 5 = .ok (.iload_n 0, 1) := by decide +kernel
theorem dX2_hindranceOutside_6 : decode cX2_hindranceOutside 6 = .ok (.iload_n 2, 1) := by decide +kernel
theorem dX2_hindranceOutside_7 : decode cX2_hindranceOutside 7 = .ok (.if_icmp .gt 7, 3) := by decide +kernel
theorem dX2_hindranceOutside_10 : decode cX2_hindranceOutside 10 = .ok (.iconst 0, 1) := by decide +kernel
theorem dX2_hindranceOutside_11 : decode cX2_hindranceOutside 11 = .ok (.goto 4, 3) := by decide +kernel
theorem dX2_hindranceOutside_14 : decode cX2_hindranceOutside 14 = .ok (.iconst 2, 1) := by decide +kernel
theorem dX2_hindranceOutside_15 : decode cX2_hindranceOutside 15 = .ok (.ireturn, 1) := by decide +kernel
theorem dX2_hindranceToAdd_0 : decode cX2_hindranceToAdd 0 = .ok (.iload_n 1, 1) := by decide +kernel
theorem dX2_hindranceToAdd_1 : decode cX2_hindranceToAdd 1 = .ok (.iload_n 2, 1) := by decide +kernel
theorem dX2_hindranceToAdd_2 : decode cX2_hindranceToAdd 2 = .ok (.invokestatic 107, 3) := by decide +kernel
theorem dX2_hindranceToAdd_5 : decode cX2_hindranceToAdd 5 = .ok (.ifCond .eq 12, 3) := by decide +kernel
theorem dX2_hindranceToAdd_8 : decode cX2_hindranceToAdd 8 = .ok (.iload_n 3, 1) := by decide +kernel
theorem dX2_hindranceToAdd_9 : decode cX2_hindranceToAdd 9 = .ok (.ifCond .lt 8, 3) := by decide +kernel
theorem dX2_hindranceToAdd_12 : decode cX2_hindranceToAdd 12 = .ok (.iload_n 3, 1) := by decide +kernel
theorem dX2_hindranceToAdd_13 : decode cX2_hindranceToAdd 13 = .ok (.iconst 3, 1) := by decide +kernel
theorem dX2_hindranceToAdd_14 : decode cX2_hindranceToAdd 14 = .ok (.if_icmp .lt 5, 3) := by decide +kernel
theorem dX2_hindranceToAdd_17 : decode cX2_hindranceToAdd 17 = .ok (.iconst 2, 1) := by decide +kernel
theorem dX2_hindranceToAdd_18 : decode cX2_hindranceToAdd 18 = .ok (.ireturn, 1) := by decide +kernel
theorem dX2_hindranceToAdd_19 : decode cX2_hindranceToAdd 19 = .ok (.aload_n 0, 1) := by decide +kernel
theorem dX2_hindranceToAdd_20 : decode cX2_hindranceToAdd 20 = .ok (.getfield 24, 3) := by decide +kernel
theorem dX2_hindranceToAdd_23 : decode cX2_hindranceToAdd 23 = .ok (.bipush 10, 2) := by decide +kernel
theorem dX2_hindranceToAdd_25 : decode cX2_hindranceToAdd 25 = .ok (.if_icmp .lt 5, 3) := by decide +kernel
theorem dX2_hindranceToAdd_28 : decode cX2_hindranceToAdd 28 = .ok (.iconst 3, 1) := by decide +kernel
theorem dX2_hindranceToAdd_29 : decode cX2_hindranceToAdd 29 = .ok (.ireturn, 1) := by decide +kernel
theorem dX2_hindranceToAdd_30 : decode cX2_hindranceToAdd 30 = .ok (.aload_n 0, 1) := by decide +kernel
theorem dX2_hindranceToAdd_31 : decode cX2_hindranceToAdd 31 = .ok (.iconst (-1), 1) := by decide +kernel
theorem dX2_hindranceToAdd_32 : decode cX2_hindranceToAdd 32 = .ok (.iload_n 1, 1) := by decide +kernel
theorem dX2_hindranceToAdd_33 : decode cX2_hindranceToAdd 33 = .ok (.iload_n 2, 1) := by decide +kernel
theorem dX2_hindranceToAdd_34 : decode cX2_hindranceToAdd 34 = .ok (.invokevirtual 111, 3) := by decide +kernel
theorem dX2_hindranceToAdd_37 : decode cX2_hindranceToAdd 37 = .ok (.ifCond .eq 7, 3) := by decide +kernel
theorem dX2_hindranceToAdd_40 : decode cX2_hindranceToAdd 40 = .ok (.iconst 0, 1) := by decide +kernel
theorem dX2_hindranceToAdd_41 : decode cX2_hindranceToAdd 41 = .ok (.goto 5, 3) := by decide +kernel
theorem dX2_hindranceToAdd_44 : decode cX2_hindranceToAdd 44 = .ok (.bipush 6, 2) := by decide +kernel
theorem dX2_hindranceToAdd_46 : decode cX2_hindranceToAdd 46 = .ok (.ireturn, 1) := by decide +kernel
theorem dX2_hindranceToJump_0 : decode cX2_hindranceToJump 0 = .ok (.aload_n 0, 1) := by decide +kernel
theorem dX2_hindranceToJump_1 : decode cX2_hindranceToJump 1 = .ok (.iload_n 1, 1) := by decide +kernel
theorem dX2_hindranceToJump_2 : decode cX2_hindranceToJump 2 = .ok (.invokevirtual 90, 3) := by decide +kernel
theorem dX2_hindranceToJump_5 : decode cX2_hindranceToJump 5 = .ok (.ifCond .ne 5, 3) := by decide +kernel
theorem dX2_hindranceToJump_8 : decode cX2_hindranceToJump 8 = .ok (.iconst 1, 1) := by decide +kernel
theorem dX2_hindranceToJump_9 : decode cX2_hindranceToJump 9 = .ok (.ireturn, 1) := by decide +kernel
theorem dX2_hindranceToJump_10 : decode cX2_hindranceToJump 10 = .ok (.iload_n 2, 1) := by decide +kernel
theorem dX2_hindranceToJump_11 : decode cX2_hindranceToJump 11 = .ok (.iload_n 3, 1) := by decide +kernel
theorem dX2_hindranceToJump_12 : decode cX2_hindranceToJump 12 = .ok (.invokestatic 107, 3) := by decide +kernel
theorem dX2_hindranceToJump_15 : decode cX2_hindranceToJump 15 = .ok (.ifCond .ne 5, 3) := by decide +kernel
theorem dX2_hindranceToJump_18 : decode cX2_hindranceToJump 18 = .ok (.iconst 2, 1) := by decide +kernel
theorem dX2_hindranceToJump_19 : decode cX2_hindranceToJump 19 = .ok (.ireturn, 1) := by decide +kernel
theorem dX2_hindranceToJump_20 : decode cX2_hindranceToJump 20 = .ok (.aload_n 0, 1) := by decide +kernel
theorem dX2_hindranceToJump_21 : decode cX2_hindranceToJump 21 = .ok (.iload_n 1, 1) := by decide +kernel
theorem dX2_hindranceToJump_22 : decode cX2_hindranceToJump 22 = .ok (.iload_n 2, 1) := by decide +kernel
theorem dX2_hindranceToJump_23 : decode cX2_hindranceToJump 23 = .ok (.iload_n 3, 1) := by decide +kernel
theorem dX2_hindranceToJump_24 : decode cX2_hindranceToJump 24 = .ok (.invokevirtual 111, 3) := by decide +kernel
theorem dX2_hindranceToJump_27 : decode cX2_hindranceToJump 27 = .ok (.ifCond .eq 7, 3) := by decide +kernel
theorem dX2_hindranceToJump_30 : decode cX2_hindranceToJump 30 = .ok (.iconst 0, 1) := by decide +kernel
theorem dX2_hindranceToJump_31 : decode cX2_hindranceToJump 31 = .ok (.goto 5, 3) := by decide +kernel
theorem dX2_hindranceToJump_34 : decode cX2_hindranceToJump 34 = .ok (.bipush 6, 2) := by decide +kernel
theorem dX2_hindranceToJump_36 : decode cX2_hindranceToJump 36 = .ok (.ireturn, 1) := by decide +kernel
theorem dX2_hindranceToCloud_0 : decode cX2_hindranceToCloud 0 = .ok (.iload_n 1, 1) := by decide +kernel
theorem dX2_hindranceToCloud_1 : decode cX2_hindranceToCloud 1 = .ok (.iload_n 2, 1) := by decide +kernel
theorem dX2_hindranceToCloud_2 : decode cX2_hindranceToCloud 2 = .ok (.invokestatic 107, 3) := by decide +kernel
theorem dX2_hindranceToCloud_5 : decode cX2_hindranceToCloud 5 = .ok (.ifCond .ne 5, 3) := by decide +kernel
theorem dX2_hindranceToCloud_8 : decode cX2_hindranceToCloud 8 = .ok (.iconst 2, 1) := by decide +kernel
theorem dX2_hindranceToCloud_9 : decode cX2_hindranceToCloud 9 = .ok (.ireturn, 1) := by decide +kernel
theorem dX2_hindranceToCloud_10 : decode cX2_hindranceToCloud 10 = .ok (.aload_n 0, 1) := by decide +kernel
theorem dX2_hindranceToCloud_11 : decode cX2_hindranceToCloud 11 = .ok (.getfield 31, 3) := by decide +kernel
theorem dX2_hindranceToCloud_14 : decode cX2_hindranceToCloud 14 = .ok (.getfield 115, 3) := by decide +kernel
theorem dX2_hindranceToCloud_17 : decode cX2_hindranceToCloud 17 = .ok (.bipush 8, 2) := by decide +kernel
theorem dX2_hindranceToCloud_19 : decode cX2_hindranceToCloud 19 = .ok (.if_icmp .ge 15, 3) := by decide +kernel
theorem dX2_hindranceToCloud_22 : decode cX2_hindranceToCloud 22 = .ok (.aload_n 0, 1) := by decide +kernel
theorem dX2_hindranceToCloud_23 : decode cX2_hindranceToCloud 23 = .ok (.getfield 31, 3) := by decide +kernel
theorem dX2_hindranceToCloud_26 : decode cX2_hindranceToCloud 26 = .ok (.iload_n 1, 1) := by decide +kernel
theorem dX2_hindranceToCloud_27 : decode cX2_hindranceToCloud 27 = .ok (.iload_n 2, 1) := by decide +kernel
theorem dX2_hindranceToCloud_28 : decode cX2_hindranceToCloud 28 = .ok (.invokevirtual 116, 3) := by decide +kernel
theorem dX2_hindranceToCloud_31 : decode cX2_hindranceToCloud 31 = .ok (.ifCond .eq 5, 3) := by decide +kernel
theorem dX2_hindranceToCloud_34 : decode cX2_hindranceToCloud 34 = .ok (.iconst 3, 1) := by decide +kernel
theorem dX2_hindranceToCloud_35 : decode cX2_hindranceToCloud 35 = .ok (.ireturn, 1) := by decide +kernel
theorem dX2_hindranceToCloud_36 : decode cX2_hindranceToCloud 36 = .ok (.aload_n 0, 1) := by decide +kernel
theorem dX2_hindranceToCloud_37 : decode cX2_hindranceToCloud 37 = .ok (.iload_n 1, 1) := by decide +kernel
theorem dX2_hindranceToCloud_38 : decode cX2_hindranceToCloud 38 = .ok (.iload_n 2, 1) := by decide +kernel
theorem dX2_hindranceToCloud_39 : decode cX2_hindranceToCloud 39 = .ok (.invokevirtual 119, 3) := by decide +kernel
theorem dX2_hindranceToCloud_42 : decode cX2_hindranceToCloud 42 = .ok (.iconst (-1), 1) := by decide +kernel
theorem dX2_hindranceToCloud_43 : decode cX2_hindranceToCloud 43 = .ok (.if_icmp .ne 7, 3) := by decide +kernel
theorem dX2_hindranceToCloud_46 : decode cX2_hindranceToCloud 46 = .ok (.iconst 0, 1) := by decide +kernel
theorem dX2_hindranceToCloud_47 : decode cX2_hindranceToCloud 47 = .ok (.goto 4, 3) := by decide +kernel
theorem dX2_hindranceToCloud_50 : decode cX2_hindranceToCloud 50 = .ok (.iconst 5, 1) := by decide +kernel
theorem dX2_hindranceToCloud_51 : decode cX2_hindranceToCloud 51 = .ok (.ireturn, 1) := by decide +kernel
theorem dX2_hindranceToClear_0 : decode cX2_hindranceToClear 0 = .ok (.iload_n 1, 1) := by decide +kernel
theorem dX2_hindranceToClear_1 : decode cX2_hindranceToClear 1 = .ok (.iload_n 2, 1) := by decide +kernel
theorem dX2_hindranceToClear_2 : decode cX2_hindranceToClear 2 = .ok (.invokestatic 107, 3) := by decide +kernel
theorem dX2_hindranceToClear_5 : decode cX2_hindranceToClear 5 = .ok (.ifCond .ne 5, 3) := by decide +kernel
theorem dX2_hindranceToClear_8 : decode cX2_hindranceToClear 8 = .ok (.iconst 2, 1) := by decide +kernel
theorem dX2_hindranceToClear_9 : decode cX2_hindranceToClear 9 = .ok (.ireturn, 1) := by decide +kernel
theorem dX2_hindranceToClear_10 : decode cX2_hindranceToClear 10 = .ok (.aload_n 0, 1) := by decide +kernel
theorem dX2_hindranceToClear_11 : decode cX2_hindranceToClear 11 = .ok (.getfield 31, 3) := by decide +kernel
theorem dX2_hindranceToClear_14 : decode cX2_hindranceToClear 14 = .ok (.iload_n 1, 1) := by decide +kernel
theorem dX2_hindranceToClear_15 : decode cX2_hindranceToClear 15 = .ok (.iload_n 2, 1) := by decide +kernel
theorem dX2_hindranceToClear_16 : decode cX2_hindranceToClear 16 = .ok (.invokevirtual 116, 3) := by decide +kernel
theorem dX2_hindranceToClear_19 : decode cX2_hindranceToClear 19 = .ok (.ifCond .eq 7, 3) := by decide +kernel
theorem dX2_hindranceToClear_22 : decode cX2_hindranceToClear 22 = .ok (.iconst 0, 1) := by decide +kernel
theorem dX2_hindranceToClear_23 : decode cX2_hindranceToClear 23 = .ok (.goto 4, 3) := by decide +kernel
theorem dX2_hindranceToClear_26 : decode cX2_hindranceToClear 26 = .ok (.iconst 4, 1) := by decide +kernel
theorem dX2_hindranceToClear_27 : decode cX2_hindranceToClear 27 = .ok (.ireturn, 1) := by decide +kernel
theorem dX2_hindranceToGoal_0 : decode cX2_hindranceToGoal 0 = .ok (.iload_n 1, 1) := by decide +kernel
theorem dX2_hindranceToGoal_1 : decode cX2_hindranceToGoal 1 = .ok (.iload_n 2, 1) := by decide +kernel
theorem dX2_hindranceToGoal_2 : decode cX2_hindranceToGoal 2 = .ok (.invokestatic 107, 3) := by decide +kernel
theorem dX2_hindranceToGoal_5 : decode cX2_hindranceToGoal 5 = .ok (.ifCond .ne 5, 3) := by decide +kernel
theorem dX2_hindranceToGoal_8 : decode cX2_hindranceToGoal 8 = .ok (.iconst 2, 1) := by decide +kernel
theorem dX2_hindranceToGoal_9 : decode cX2_hindranceToGoal 9 = .ok (.ireturn, 1) := by decide +kernel
theorem dX2_hindranceToGoal_10 : decode cX2_hindranceToGoal 10 = .ok (.aload_n 0, 1) := by decide +kernel
theorem dX2_hindranceToGoal_11 : decode cX2_hindranceToGoal 11 = .ok (.getfield 24, 3) := by decide +kernel
theorem dX2_hindranceToGoal_14 : decode cX2_hindranceToGoal 14 = .ok (.ifCond .le 7, 3) := by decide +kernel
theorem dX2_hindranceToGoal_17 : decode cX2_hindranceToGoal 17 = .ok (.iconst 0, 1) := by decide +kernel
theorem dX2_hindranceToGoal_18 : decode cX2_hindranceToGoal 18 = .ok (.goto 4, 3) := by decide +kernel
theorem dX2_hindranceToGoal_21 : decode cX2_hindranceToGoal 21 = .ok (.iconst 4, 1) := by decide +kernel
theorem dX2_hindranceToGoal_22 : decode cX2_hindranceToGoal 22 = .ok (.ireturn, 1) := by decide +kernel
theorem dX2_carryOut_0 : decode cX2_carryOut 0 = .ok (.iload_n 1, 1) := by decide +kernel
theorem dX2_carryOut_1 : decode cX2_carryOut 1 = .ok (.tableswitch 121 0 8 #[51, 60, 69, 76, 86, 96, 102, 109, 115], 51) := by decide +kernel
theorem dX2_carryOut_52 : decode cX2_carryOut 52 = .ok (.aload_n 0, 1) := by decide +kernel
theorem dX2_carryOut_53 : decode cX2_carryOut 53 = .ok (.iload_n 2, 1) := by decide +kernel
theorem dX2_carryOut_54 : decode cX2_carryOut 54 = .ok (.iload_n 3, 1) := by decide +kernel
theorem dX2_carryOut_55 : decode cX2_carryOut 55 = .ok (.iload 4, 2) := by decide +kernel
theorem dX2_carryOut_57 : decode cX2_carryOut 57 = .ok (.invokevirtual 122, 3) := by decide +kernel
theorem dX2_carryOut_60 : decode cX2_carryOut 60 = .ok (.ireturn, 1) := by decide +kernel
theorem dX2_carryOut_61 : decode cX2_carryOut 61 = .ok (.aload_n 0, 1) := by decide +kernel
theorem dX2_carryOut_62 : decode cX2_carryOut 62 = .ok (.iload_n 2, 1) := by decide +kernel
theorem dX2_carryOut_63 : decode cX2_carryOut 63 = .ok (.iload_n 3, 1) := by decide +kernel
theorem dX2_carryOut_64 : decode cX2_carryOut 64 = .ok (.iload 4, 2) := by decide +kernel
theorem dX2_carryOut_66 : decode cX2_carryOut 66 = .ok (.invokevirtual 125, 3) := by decide +kernel
theorem dX2_carryOut_69 : decode cX2_carryOut 69 = .ok (.ireturn, 1) := by decide +kernel
theorem dX2_carryOut_70 : decode cX2_carryOut 70 = .ok (.aload_n 0, 1) := by decide +kernel
theorem dX2_carryOut_71 : decode cX2_carryOut 71 = .ok (.iload_n 2, 1) := by decide +kernel
theorem dX2_carryOut_72 : decode cX2_carryOut 72 = .ok (.iload_n 3, 1) := by decide +kernel
theorem dX2_carryOut_73 : decode cX2_carryOut 73 = .ok (.invokevirtual 128, 3) := by decide +kernel
theorem dX2_carryOut_76 : decode cX2_carryOut 76 = .ok (.ireturn, 1) := by decide +kernel
theorem dX2_carryOut_77 : decode cX2_carryOut 77 = .ok (.aload_n 0, 1) := by decide +kernel
theorem dX2_carryOut_78 : decode cX2_carryOut 78 = .ok (.getfield 31, 3) := by decide +kernel
theorem dX2_carryOut_81 : decode cX2_carryOut 81 = .ok (.iload_n 2, 1) := by decide +kernel
theorem dX2_carryOut_82 : decode cX2_carryOut 82 = .ok (.iload_n 3, 1) := by decide +kernel
theorem dX2_carryOut_83 : decode cX2_carryOut 83 = .ok (.invokevirtual 131, 3) := by decide +kernel
theorem dX2_carryOut_86 : decode cX2_carryOut 86 = .ok (.ireturn, 1) := by decide +kernel
theorem dX2_carryOut_87 : decode cX2_carryOut 87 = .ok (.aload_n 0, 1) := by decide +kernel
theorem dX2_carryOut_88 : decode cX2_carryOut 88 = .ok (.getfield 31, 3) := by decide +kernel
theorem dX2_carryOut_91 : decode cX2_carryOut 91 = .ok (.iload_n 2, 1) := by decide +kernel
theorem dX2_carryOut_92 : decode cX2_carryOut 92 = .ok (.iload_n 3, 1) := by decide +kernel
theorem dX2_carryOut_93 : decode cX2_carryOut 93 = .ok (.invokevirtual 133, 3) := by decide +kernel
theorem dX2_carryOut_96 : decode cX2_carryOut 96 = .ok (.ireturn, 1) := by decide +kernel
theorem dX2_carryOut_97 : decode cX2_carryOut 97 = .ok (.aload_n 0, 1) := by decide +kernel
theorem dX2_carryOut_98 : decode cX2_carryOut 98 = .ok (.iload_n 2, 1) := by decide +kernel
theorem dX2_carryOut_99 : decode cX2_carryOut 99 = .ok (.invokevirtual 136, 3) := by decide +kernel
theorem dX2_carryOut_102 : decode cX2_carryOut 102 = .ok (.ireturn, 1) := by decide +kernel
theorem dX2_carryOut_103 : decode cX2_carryOut 103 = .ok (.aload_n 0, 1) := by decide +kernel
theorem dX2_carryOut_104 : decode cX2_carryOut 104 = .ok (.iload_n 2, 1) := by decide +kernel
theorem dX2_carryOut_105 : decode cX2_carryOut 105 = .ok (.iload_n 3, 1) := by decide +kernel
theorem dX2_carryOut_106 : decode cX2_carryOut 106 = .ok (.invokevirtual 140, 3) := by decide +kernel
theorem dX2_carryOut_109 : decode cX2_carryOut 109 = .ok (.ireturn, 1) := by decide +kernel
theorem dX2_carryOut_110 : decode cX2_carryOut 110 = .ok (.aload_n 0, 1) := by decide +kernel
theorem dX2_carryOut_111 : decode cX2_carryOut 111 = .ok (.iload_n 2, 1) := by decide +kernel
theorem dX2_carryOut_112 : decode cX2_carryOut 112 = .ok (.invokevirtual 143, 3) := by decide +kernel
theorem dX2_carryOut_115 : decode cX2_carryOut 115 = .ok (.ireturn, 1) := by decide +kernel
theorem dX2_carryOut_116 : decode cX2_carryOut 116 = .ok (.aload_n 0, 1) := by decide +kernel
theorem dX2_carryOut_117 : decode cX2_carryOut 117 = .ok (.iload_n 2, 1) := by decide +kernel
theorem dX2_carryOut_118 : decode cX2_carryOut 118 = .ok (.invokevirtual 146, 3) := by decide +kernel
theorem dX2_carryOut_121 : decode cX2_carryOut 121 = .ok (.ireturn, 1) := by decide +kernel
theorem dX2_carryOut_122 : decode cX2_carryOut 122 = .ok (.iconst (-1), 1) := by decide +kernel
theorem dX2_carryOut_123 : decode cX2_carryOut 123 = .ok (.ireturn, 1) := by decide +kernel
theorem dX2_add_0 : decode cX2_add 0 = .ok (.aload_n 0, 1) := by decide +kernel
theorem dX2_add_1 : decode cX2_add 1 = .ok (.getfield 24, 3) := by decide +kernel
theorem dX2_add_4 : decode cX2_add 4 = .ok (.bipush 10, 2) := by decide +kernel
theorem dX2_add_6 : decode cX2_add 6 = .ok (.if_icmp .lt 5, 3) := by decide +kernel
theorem dX2_add_9 : decode cX2_add 9 = .ok (.iconst (-1), 1) := by decide +kernel
theorem dX2_add_10 : decode cX2_add 10 = .ok (.ireturn, 1) := by decide +kernel
theorem dX2_add_11 : decode cX2_add 11 = .ok (.aload_n 0, 1) := by decide +kernel
theorem dX2_add_12 : decode cX2_add 12 = .ok (.getfield 9, 3) := by decide +kernel
theorem dX2_add_15 : decode cX2_add 15 = .ok (.aload_n 0, 1) := by decide +kernel
theorem dX2_add_16 : decode cX2_add 16 = .ok (.getfield 24, 3) := by decide +kernel
theorem dX2_add_19 : decode cX2_add 19 = .ok (.iload_n 1, 1) := by decide +kernel
theorem dX2_add_20 : decode cX2_add 20 = .ok (.iastore, 1) := by decide +kernel
theorem dX2_add_21 : decode cX2_add 21 = .ok (.aload_n 0, 1) := by decide +kernel
theorem dX2_add_22 : decode cX2_add 22 = .ok (.getfield 15, 3) := by decide +kernel
theorem dX2_add_25 : decode cX2_add 25 = .ok (.aload_n 0, 1) := by decide +kernel
theorem dX2_add_26 : decode cX2_add 26 = .ok (.getfield 24, 3) := by decide +kernel
theorem dX2_add_29 : decode cX2_add 29 = .ok (.iload_n 2, 1) := by decide +kernel
theorem dX2_add_30 : decode cX2_add 30 = .ok (.iastore, 1) := by decide +kernel
theorem dX2_add_31 : decode cX2_add 31 = .ok (.aload_n 0, 1) := by decide +kernel
theorem dX2_add_32 : decode cX2_add 32 = .ok (.getfield 18, 3) := by decide +kernel
theorem dX2_add_35 : decode cX2_add 35 = .ok (.aload_n 0, 1) := by decide +kernel
theorem dX2_add_36 : decode cX2_add 36 = .ok (.getfield 24, 3) := by decide +kernel
theorem dX2_add_39 : decode cX2_add 39 = .ok (.iload_n 3, 1) := by decide +kernel
theorem dX2_add_40 : decode cX2_add 40 = .ok (.iastore, 1) := by decide +kernel
theorem dX2_add_41 : decode cX2_add 41 = .ok (.aload_n 0, 1) := by decide +kernel
theorem dX2_add_42 : decode cX2_add 42 = .ok (.getfield 21, 3) := by decide +kernel
theorem dX2_add_45 : decode cX2_add 45 = .ok (.aload_n 0, 1) := by decide +kernel
theorem dX2_add_46 : decode cX2_add 46 = .ok (.getfield 24, 3) := by decide +kernel
theorem dX2_add_49 : decode cX2_add 49 = .ok (.iconst 0, 1) := by decide +kernel
theorem dX2_add_50 : decode cX2_add 50 = .ok (.iastore, 1) := by decide +kernel
theorem dX2_add_51 : decode cX2_add 51 = .ok (.aload_n 0, 1) := by decide +kernel
theorem dX2_add_52 : decode cX2_add 52 = .ok (.dup, 1) := by decide +kernel
theorem dX2_add_53 : decode cX2_add 53 = .ok (.getfield 24, 3) := by decide +kernel
theorem dX2_add_56 : decode cX2_add 56 = .ok (.iconst 1, 1) := by decide +kernel
theorem dX2_add_57 : decode cX2_add 57 = .ok (.iadd, 1) := by decide +kernel
theorem dX2_add_58 : decode cX2_add 58 = .ok (.putfield 24, 3) := by decide +kernel
theorem dX2_add_61 : decode cX2_add 61 = .ok (.aload_n 0, 1) := by decide +kernel
theorem dX2_add_62 : decode cX2_add 62 = .ok (.getfield 24, 3) := by decide +kernel
theorem dX2_add_65 : decode cX2_add 65 = .ok (.iconst 1, 1) := by decide +kernel
theorem dX2_add_66 : decode cX2_add 66 = .ok (.isub, 1) := by decide +kernel
theorem dX2_add_67 : decode cX2_add 67 = .ok (.ireturn, 1) := by decide +kernel
theorem dX2_put_0 : decode cX2_put 0 = .ok (.aload_n 0, 1) := by decide +kernel
theorem dX2_put_1 : decode cX2_put 1 = .ok (.iload_n 1, 1) := by decide +kernel
theorem dX2_put_2 : decode cX2_put 2 = .ok (.invokevirtual 90, 3) := by decide +kernel
theorem dX2_put_5 : decode cX2_put 5 = .ok (.ifCond .ne 5, 3) := by decide +kernel
theorem dX2_put_8 : decode cX2_put 8 = .ok (.iconst (-1), 1) := by decide +kernel
theorem dX2_put_9 : decode cX2_put 9 = .ok (.ireturn, 1) := by decide +kernel
theorem dX2_put_10 : decode cX2_put 10 = .ok (.aload_n 0, 1) := by decide +kernel
theorem dX2_put_11 : decode cX2_put 11 = .ok (.iload_n 1, 1) := by decide +kernel
theorem dX2_put_12 : decode cX2_put 12 = .ok (.iload_n 2, 1) := by decide +kernel
theorem dX2_put_13 : decode cX2_put 13 = .ok (.iload_n 3, 1) := by decide +kernel
theorem dX2_put_14 : decode cX2_put 14 = .ok (.invokevirtual 149, 3) := by decide +kernel
theorem dX2_put_17 : decode cX2_put 17 = .ok (.istore 4, 2) := by decide +kernel
theorem dX2_put_19 : decode cX2_put 19 = .ok (.aload_n 0, 1) := by decide +kernel
theorem dX2_put_20 : decode cX2_put 20 = .ok (.getfield 9, 3) := by decide +kernel
theorem dX2_put_23 : decode cX2_put 23 = .ok (.iload_n 1, 1) := by decide +kernel
theorem dX2_put_24 : decode cX2_put 24 = .ok (.iload_n 2, 1) := by decide +kernel
theorem dX2_put_25 : decode cX2_put 25 = .ok (.iastore, 1) := by decide +kernel
theorem dX2_put_26 : decode cX2_put 26 = .ok (.aload_n 0, 1) := by decide +kernel
theorem dX2_put_27 : decode cX2_put 27 = .ok (.getfield 15, 3) := by decide +kernel
theorem dX2_put_30 : decode cX2_put 30 = .ok (.iload_n 1, 1) := by decide +kernel
theorem dX2_put_31 : decode cX2_put 31 = .ok (.iload_n 3, 1) := by decide +kernel
theorem dX2_put_32 : decode cX2_put 32 = .ok (.iastore, 1) := by decide +kernel
theorem dX2_put_33 : decode cX2_put 33 = .ok (.iload 4, 2) := by decide +kernel
theorem dX2_put_35 : decode cX2_put 35 = .ok (.ireturn, 1) := by decide +kernel
theorem dX2_replaceHandle_0 : decode cX2_replaceHandle 0 = .ok (.aload_n 0, 1) := by decide +kernel
theorem dX2_replaceHandle_1 : decode cX2_replaceHandle 1 = .ok (.iload_n 1, 1) := by decide +kernel
theorem dX2_replaceHandle_2 : decode cX2_replaceHandle 2 = .ok (.invokevirtual 90, 3) := by decide +kernel
theorem dX2_replaceHandle_5 : decode cX2_replaceHandle 5 = .ok (.ifCond .ne 5, 3) := by decide +kernel
theorem dX2_replaceHandle_8 : decode cX2_replaceHandle 8 = .ok (.iconst (-1), 1) := by decide +kernel
theorem dX2_replaceHandle_9 : decode cX2_replaceHandle 9 = .ok (.ireturn, 1) := by decide +kernel
theorem dX2_replaceHandle_10 : decode cX2_replaceHandle 10 = .ok (.aload_n 0, 1) := by decide +kernel
theorem dX2_replaceHandle_11 : decode cX2_replaceHandle 11 = .ok (.getfield 18, 3) := by decide +kernel
theorem dX2_replaceHandle_14 : decode cX2_replaceHandle 14 = .ok (.iload_n 1, 1) := by decide +kernel
theorem dX2_replaceHandle_15 : decode cX2_replaceHandle 15 = .ok (.iaload, 1) := by decide +kernel
theorem dX2_replaceHandle_16 : decode cX2_replaceHandle 16 = .ok (.istore_n 3, 1) := by decide +kernel
theorem dX2_replaceHandle_17 : decode cX2_replaceHandle 17 = .ok (.aload_n 0, 1) := by decide +kernel
theorem dX2_replaceHandle_18 : decode cX2_replaceHandle 18 = .ok (.getfield 18, 3) := by decide +kernel
theorem dX2_replaceHandle_21 : decode cX2_replaceHandle 21 = .ok (.iload_n 1, 1) := by decide +kernel
theorem dX2_replaceHandle_22 : decode cX2_replaceHandle 22 = .ok (.iload_n 2, 1) := by decide +kernel
theorem dX2_replaceHandle_23 : decode cX2_replaceHandle 23 = .ok (.iastore, 1) := by decide +kernel
theorem dX2_replaceHandle_24 : decode cX2_replaceHandle 24 = .ok (.iload_n 3, 1) := by decide +kernel
theorem dX2_replaceHandle_25 : decode cX2_replaceHandle 25 = .ok (.ireturn, 1) := by decide +kernel
theorem dX2_replaceTurn_0 : decode cX2_replaceTurn 0 = .ok (.aload_n 0, 1) := by decide +kernel
theorem dX2_replaceTurn_1 : decode cX2_replaceTurn 1 = .ok (.getfield 52, 3) := by decide +kernel
theorem dX2_replaceTurn_4 : decode cX2_replaceTurn 4 = .ok (.istore_n 2, 1) := by decide +kernel
theorem dX2_replaceTurn_5 : decode cX2_replaceTurn 5 = .ok (.aload_n 0, 1) := by decide +kernel
theorem dX2_replaceTurn_6 : decode cX2_replaceTurn 6 = .ok (.iload_n 1, 1) := by decide +kernel
theorem dX2_replaceTurn_7 : decode cX2_replaceTurn 7 = .ok (.putfield 52, 3) := by decide +kernel
theorem dX2_replaceTurn_10 : decode cX2_replaceTurn 10 = .ok (.aload_n 0, 1) := by decide +kernel
theorem dX2_replaceTurn_11 : decode cX2_replaceTurn 11 = .ok (.iconst 0, 1) := by decide +kernel
theorem dX2_replaceTurn_12 : decode cX2_replaceTurn 12 = .ok (.putfield 49, 3) := by decide +kernel
theorem dX2_replaceTurn_15 : decode cX2_replaceTurn 15 = .ok (.iload_n 2, 1) := by decide +kernel
theorem dX2_replaceTurn_16 : decode cX2_replaceTurn 16 = .ok (.ireturn, 1) := by decide +kernel
theorem dX2_replaceGoal_0 : decode cX2_replaceGoal 0 = .ok (.aload_n 0, 1) := by decide +kernel
theorem dX2_replaceGoal_1 : decode cX2_replaceGoal 1 = .ok (.iload_n 1, 1) := by decide +kernel
theorem dX2_replaceGoal_2 : decode cX2_replaceGoal 2 = .ok (.putfield 55, 3) := by decide +kernel
theorem dX2_replaceGoal_5 : decode cX2_replaceGoal 5 = .ok (.aload_n 0, 1) := by decide +kernel
theorem dX2_replaceGoal_6 : decode cX2_replaceGoal 6 = .ok (.iload_n 2, 1) := by decide +kernel
theorem dX2_replaceGoal_7 : decode cX2_replaceGoal 7 = .ok (.putfield 58, 3) := by decide +kernel
theorem dX2_replaceGoal_10 : decode cX2_replaceGoal 10 = .ok (.aload_n 0, 1) := by decide +kernel
theorem dX2_replaceGoal_11 : decode cX2_replaceGoal 11 = .ok (.aload_n 0, 1) := by decide +kernel
theorem dX2_replaceGoal_12 : decode cX2_replaceGoal 12 = .ok (.getfield 46, 3) := by decide +kernel
theorem dX2_replaceGoal_15 : decode cX2_replaceGoal 15 = .ok (.iload_n 1, 1) := by decide +kernel
theorem dX2_replaceGoal_16 : decode cX2_replaceGoal 16 = .ok (.iload_n 2, 1) := by decide +kernel
theorem dX2_replaceGoal_17 : decode cX2_replaceGoal 17 = .ok (.invokevirtual 149, 3) := by decide +kernel
theorem dX2_replaceGoal_20 : decode cX2_replaceGoal 20 = .ok (.ireturn, 1) := by decide +kernel
theorem dX2_replaceKept_0 : decode cX2_replaceKept 0 = .ok (.aload_n 0, 1) := by decide +kernel
theorem dX2_replaceKept_1 : decode cX2_replaceKept 1 = .ok (.getfield 61, 3) := by decide +kernel
theorem dX2_replaceKept_4 : decode cX2_replaceKept 4 = .ok (.istore_n 2, 1) := by decide +kernel
theorem dX2_replaceKept_5 : decode cX2_replaceKept 5 = .ok (.aload_n 0, 1) := by decide +kernel
theorem dX2_replaceKept_6 : decode cX2_replaceKept 6 = .ok (.iload_n 1, 1) := by decide +kernel
theorem dX2_replaceKept_7 : decode cX2_replaceKept 7 = .ok (.putfield 61, 3) := by decide +kernel
theorem dX2_replaceKept_10 : decode cX2_replaceKept 10 = .ok (.iload_n 2, 1) := by decide +kernel
theorem dX2_replaceKept_11 : decode cX2_replaceKept 11 = .ok (.ireturn, 1) := by decide +kernel
theorem dX2_passSteps_0 : decode cX2_passSteps 0 = .ok (.iconst 0, 1) := by decide +kernel
theorem dX2_passSteps_1 : decode cX2_passSteps 1 = .ok (.istore_n 2, 1) := by decide +kernel
theorem dX2_passSteps_2 : decode cX2_passSteps 2 = .ok (.iconst 0, 1) := by decide +kernel
theorem dX2_passSteps_3 : decode cX2_passSteps 3 = .ok (.istore_n 3, 1) := by decide +kernel
theorem dX2_passSteps_4 : decode cX2_passSteps 4 = .ok (.iload_n 3, 1) := by decide +kernel
theorem dX2_passSteps_5 : decode cX2_passSteps 5 = .ok (.iload_n 1, 1) := by decide +kernel
theorem dX2_passSteps_6 : decode cX2_passSteps 6 = .ok (.if_icmp .ge 61, 3) := by decide +kernel
theorem dX2_passSteps_9 : decode cX2_passSteps 9 = .ok (.iload_n 2, 1) := by decide +kernel
theorem dX2_passSteps_10 : decode cX2_passSteps 10 = .ok (.aload_n 0, 1) := by decide +kernel
theorem dX2_passSteps_11 : decode cX2_passSteps 11 = .ok (.invokevirtual 152, 3) := by decide +kernel
theorem dX2_passSteps_14 : decode cX2_passSteps 14 = .ok (.iadd, 1) := by decide +kernel
theorem dX2_passSteps_15 : decode cX2_passSteps 15 = .ok (.istore_n 2, 1) := by decide +kernel
theorem dX2_passSteps_16 : decode cX2_passSteps 16 = .ok (.iconst 0, 1) := by decide +kernel
theorem dX2_passSteps_17 : decode cX2_passSteps 17 = .ok (.istore 4, 2) := by decide +kernel
theorem dX2_passSteps_19 : decode cX2_passSteps 19 = .ok (.iload 4, 2) := by decide +kernel
theorem dX2_passSteps_21 : decode cX2_passSteps 21 = .ok (.aload_n 0, 1) := by decide +kernel
theorem dX2_passSteps_22 : decode cX2_passSteps 22 = .ok (.getfield 24, 3) := by decide +kernel
theorem dX2_passSteps_25 : decode cX2_passSteps 25 = .ok (.if_icmp .ge 18, 3) := by decide +kernel
theorem dX2_passSteps_28 : decode cX2_passSteps 28 = .ok (.iload_n 2, 1) := by decide +kernel
theorem dX2_passSteps_29 : decode cX2_passSteps 29 = .ok (.aload_n 0, 1) := by decide +kernel
theorem dX2_passSteps_30 : decode cX2_passSteps 30 = .ok (.iload 4, 2) := by decide +kernel
theorem dX2_passSteps_32 : decode cX2_passSteps 32 = .ok (.invokevirtual 156, 3) := by decide +kernel
theorem dX2_passSteps_35 : decode cX2_passSteps 35 = .ok (.iadd, 1) := by decide +kernel
theorem dX2_passSteps_36 : decode cX2_passSteps 36 = .ok (.istore_n 2, 1) := by decide +kernel
theorem dX2_passSteps_37 : decode cX2_passSteps 37 = .ok (.iinc 4 1, 3) := by decide +kernel
theorem dX2_passSteps_40 : decode cX2_passSteps 40 = .ok (.goto (-21), 3) := by decide +kernel
theorem dX2_passSteps_43 : decode cX2_passSteps 43 = .ok (.aload_n 0, 1) := by decide +kernel
theorem dX2_passSteps_44 : decode cX2_passSteps 44 = .ok (.invokevirtual 159, 3) := by decide +kernel
theorem dX2_passSteps_47 : decode cX2_passSteps 47 = .ok (.aload_n 0, 1) := by decide +kernel
theorem dX2_passSteps_48 : decode cX2_passSteps 48 = .ok (.dup, 1) := by decide +kernel
theorem dX2_passSteps_49 : decode cX2_passSteps 49 = .ok (.getfield 64, 3) := by decide +kernel
theorem dX2_passSteps_52 : decode cX2_passSteps 52 = .ok (.iconst 1, 1) := by decide +kernel
theorem dX2_passSteps_53 : decode cX2_passSteps 53 = .ok (.iadd, 1) := by decide +kernel
theorem dX2_passSteps_54 : decode cX2_passSteps 54 = .ok (.putfield 64, 3) := by decide +kernel
theorem dX2_passSteps_57 : decode cX2_passSteps 57 = .ok (.aload_n 0, 1) := by decide +kernel
theorem dX2_passSteps_58 : decode cX2_passSteps 58 = .ok (.invokevirtual 162, 3) := by decide +kernel
theorem dX2_passSteps_61 : decode cX2_passSteps 61 = .ok (.iinc 3 1, 3) := by decide +kernel
theorem dX2_passSteps_64 : decode cX2_passSteps 64 = .ok (.goto (-60), 3) := by decide +kernel
theorem dX2_passSteps_67 : decode cX2_passSteps 67 = .ok (.iload_n 2, 1) := by decide +kernel
theorem dX2_passSteps_68 : decode cX2_passSteps 68 = .ok (.ireturn, 1) := by decide +kernel
theorem dX2_moveLeader_0 : decode cX2_moveLeader 0 = .ok (.aload_n 0, 1) := by decide +kernel
theorem dX2_moveLeader_1 : decode cX2_moveLeader 1 = .ok (.aload_n 0, 1) := by decide +kernel
theorem dX2_moveLeader_2 : decode cX2_moveLeader 2 = .ok (.getfield 46, 3) := by decide +kernel
theorem dX2_moveLeader_5 : decode cX2_moveLeader 5 = .ok (.invokevirtual 90, 3) := by decide +kernel
theorem dX2_moveLeader_8 : decode cX2_moveLeader 8 = .ok (.ifCond .eq 17, 3) := by decide +kernel
theorem dX2_moveLeader_11 : decode cX2_moveLeader 11 = .ok (.aload_n 0, 1) := by decide +kernel
theorem dX2_moveLeader_12 : decode cX2_moveLeader 12 = .ok (.invokevirtual 165, 3) := by decide +kernel
theorem dX2_moveLeader_15 : decode cX2_moveLeader 15 = .ok (.ifCond .eq 10, 3) := by decide +kernel
theorem dX2_moveLeader_18 : decode cX2_moveLeader 18 = .ok (.aload_n 0, 1) := by decide +kernel
theorem dX2_moveLeader_19 : decode cX2_moveLeader 19 = .ok (.invokevirtual 169, 3) := by decide +kernel
theorem dX2_moveLeader_22 : decode cX2_moveLeader 22 = .ok (.ifCond .eq 5, 3) := by decide +kernel
theorem dX2_moveLeader_25 : decode cX2_moveLeader 25 = .ok (.iconst 0, 1) := by decide +kernel
theorem dX2_moveLeader_26 : decode cX2_moveLeader 26 = .ok (.ireturn, 1) := by decide +kernel
theorem dX2_moveLeader_27 : decode cX2_moveLeader 27 = .ok (.aload_n 0, 1) := by decide +kernel
theorem dX2_moveLeader_28 : decode cX2_moveLeader 28 = .ok (.getfield 9, 3) := by decide +kernel
theorem dX2_moveLeader_31 : decode cX2_moveLeader 31 = .ok (.aload_n 0, 1) := by decide +kernel
theorem dX2_moveLeader_32 : decode cX2_moveLeader 32 = .ok (.getfield 46, 3) := by decide +kernel
theorem dX2_moveLeader_35 : decode cX2_moveLeader 35 = .ok (.iaload, 1) := by decide +kernel
theorem dX2_moveLeader_36 : decode cX2_moveLeader 36 = .ok (.istore_n 1, 1) := by decide +kernel
theorem dX2_moveLeader_37 : decode cX2_moveLeader 37 = .ok (.aload_n 0, 1) := by decide +kernel
theorem dX2_moveLeader_38 : decode cX2_moveLeader 38 = .ok (.getfield 15, 3) := by decide +kernel
theorem dX2_moveLeader_41 : decode cX2_moveLeader 41 = .ok (.aload_n 0, 1) := by decide +kernel
theorem dX2_moveLeader_42 : decode cX2_moveLeader 42 = .ok (.getfield 46, 3) := by decide +kernel
theorem dX2_moveLeader_45 : decode cX2_moveLeader 45 = .ok (.iaload, 1) := by decide +kernel
theorem dX2_moveLeader_46 : decode cX2_moveLeader 46 = .ok (.istore_n 2, 1) := by decide +kernel
theorem dX2_moveLeader_47 : decode cX2_moveLeader 47 = .ok (.iload_n 1, 1) := by decide +kernel
theorem dX2_moveLeader_48 : decode cX2_moveLeader 48 = .ok (.aload_n 0, 1) := by decide +kernel
theorem dX2_moveLeader_49 : decode cX2_moveLeader 49 = .ok (.getfield 55, 3) := by decide +kernel
theorem dX2_moveLeader_52 : decode cX2_moveLeader 52 = .ok (.invokestatic 172, 3) := by decide +kernel
theorem dX2_moveLeader_55 : decode cX2_moveLeader 55 = .ok (.istore_n 3, 1) := by decide +kernel
theorem dX2_moveLeader_56 : decode cX2_moveLeader 56 = .ok (.iload_n 2, 1) := by decide +kernel
theorem dX2_moveLeader_57 : decode cX2_moveLeader 57 = .ok (.aload_n 0, 1) := by decide +kernel
theorem dX2_moveLeader_58 : decode cX2_moveLeader 58 = .ok (.getfield 58, 3) := by decide +kernel
theorem dX2_moveLeader_61 : decode cX2_moveLeader 61 = .ok (.invokestatic 172, 3) := by decide +kernel
theorem dX2_moveLeader_64 : decode cX2_moveLeader 64 = .ok (.istore 4, 2) := by decide +kernel
theorem dX2_moveLeader_66 : decode cX2_moveLeader 66 = .ok (.aload_n 0, 1) := by decide +kernel
theorem dX2_moveLeader_67 : decode cX2_moveLeader 67 = .ok (.getfield 55, 3) := by decide +kernel
theorem dX2_moveLeader_70 : decode cX2_moveLeader 70 = .ok (.iload_n 1, 1) := by decide +kernel
theorem dX2_moveLeader_71 : decode cX2_moveLeader 71 = .ok (.isub, 1) := by decide +kernel
theorem dX2_moveLeader_72 : decode cX2_moveLeader 72 = .ok (.invokestatic 175, 3) := by decide +kernel
theorem dX2_moveLeader_75 : decode cX2_moveLeader 75 = .ok (.aload_n 0, 1) := by decide +kernel
theorem dX2_moveLeader_76 : decode cX2_moveLeader 76 = .ok (.getfield 58, 3) := by decide +kernel
theorem dX2_moveLeader_79 : decode cX2_moveLeader 79 = .ok (.iload_n 2, 1) := by decide +kernel
theorem dX2_moveLeader_80 : decode cX2_moveLeader 80 = .ok (.isub, 1) := by decide +kernel
theorem dX2_moveLeader_81 : decode cX2_moveLeader 81 = .ok (.invokestatic 175, 3) := by decide +kernel
theorem dX2_moveLeader_84 : decode cX2_moveLeader 84 = .ok (.if_icmp .lt 7, 3) := by decide +kernel
theorem dX2_moveLeader_87 : decode cX2_moveLeader 87 = .ok (.iconst 1, 1) := by decide +kernel
theorem dX2_moveLeader_88 : decode cX2_moveLeader 88 = .ok (.goto 4, 3) := by decide +kernel
theorem dX2_moveLeader_91 : decode cX2_moveLeader 91 = .ok (.iconst 0, 1) := by decide +kernel
theorem dX2_moveLeader_92 : decode cX2_moveLeader 92 = .ok (.istore 5, 2) := by decide +kernel
theorem dX2_moveLeader_94 : decode cX2_moveLeader 94 = .ok (.iload 5, 2) := by decide +kernel
theorem dX2_moveLeader_96 : decode cX2_moveLeader 96 = .ok (.ifCond .eq 17, 3) := by decide +kernel
theorem dX2_moveLeader_99 : decode cX2_moveLeader 99 = .ok (.iload 4, 2) := by decide +kernel
theorem dX2_moveLeader_101 : decode cX2_moveLeader 101 = .ok (.iload_n 2, 1) := by decide +kernel
theorem dX2_moveLeader_102 : decode cX2_moveLeader 102 = .ok (.if_icmp .eq 7, 3) := by decide +kernel
theorem dX2_moveLeader_105 : decode cX2_moveLeader 105 = .ok (.iconst 1, 1) := by decide +kernel
theorem dX2_moveLeader_106 : decode cX2_moveLeader 106 = .ok (.goto 17, 3) := by decide +kernel
theorem dX2_moveLeader_109 : decode cX2_moveLeader 109 = .ok (.iconst 0, 1) := by decide +kernel
theorem dX2_moveLeader_110 : decode cX2_moveLeader 110 = .ok (.goto 13, 3) := by decide +kernel
theorem dX2_moveLeader_113 : decode cX2_moveLeader 113 = .ok (.iload_n 3, 1) := by decide +kernel
theorem dX2_moveLeader_114 : decode cX2_moveLeader 114 = .ok (.iload_n 1, 1) := by decide +kernel
theorem dX2_moveLeader_115 : decode cX2_moveLeader 115 = .ok (.if_icmp .eq 7, 3) := by decide +kernel
theorem dX2_moveLeader_118 : decode cX2_moveLeader 118 = .ok (.iconst 1, 1) := by decide +kernel
theorem dX2_moveLeader_119 : decode cX2_moveLeader 119 = .ok (.goto 4, 3) := by decide +kernel
theorem dX2_moveLeader_122 : decode cX2_moveLeader 122 = .ok (.iconst 0, 1) := by decide +kernel
theorem dX2_moveLeader_123 : decode cX2_moveLeader 123 = .ok (.istore 6, 2) := by decide +kernel
theorem dX2_moveLeader_125 : decode cX2_moveLeader 125 = .ok (.aload_n 0, 1) := by decide +kernel
theorem dX2_moveLeader_126 : decode cX2_moveLeader 126 = .ok (.aload_n 0, 1) := by decide +kernel
theorem dX2_moveLeader_127 : decode cX2_moveLeader 127 = .ok (.getfield 46, 3) := by decide +kernel
theorem dX2_moveLeader_130 : decode cX2_moveLeader 130 = .ok (.iload 5, 2) := by decide +kernel
theorem dX2_moveLeader_132 : decode cX2_moveLeader 132 = .ok (.ifCond .eq 7, 3) := by decide +kernel
theorem dX2_moveLeader_135 : decode cX2_moveLeader 135 = .ok (.iload_n 3, 1) := by decide +kernel
theorem dX2_moveLeader_136 : decode cX2_moveLeader 136 = .ok (.goto 4, 3) := by decide +kernel
theorem dX2_moveLeader_139 : decode cX2_moveLeader 139 = .ok (.iload_n 1, 1) := by decide +kernel
theorem dX2_moveLeader_140 : decode cX2_moveLeader 140 = .ok (.iload 5, 2) := by decide +kernel
theorem dX2_moveLeader_142 : decode cX2_moveLeader 142 = .ok (.ifCond .eq 7, 3) := by decide +kernel
theorem dX2_moveLeader_145 : decode cX2_moveLeader 145 = .ok (.iload_n 2, 1) := by decide +kernel
theorem dX2_moveLeader_146 : decode cX2_moveLeader 146 = .ok (.goto 5, 3) := by decide +kernel
theorem dX2_moveLeader_149 : decode cX2_moveLeader 149 = .ok (.iload 4, 2) := by decide +kernel
theorem dX2_moveLeader_151 : decode cX2_moveLeader 151 = .ok (.invokevirtual 180, 3) := by decide +kernel
theorem dX2_moveLeader_154 : decode cX2_moveLeader 154 = .ok (.ifCond .eq 5, 3) := by decide +kernel
theorem dX2_moveLeader_157 : decode cX2_moveLeader 157 = .ok (.iconst 1, 1) := by decide +kernel
theorem dX2_moveLeader_158 : decode cX2_moveLeader 158 = .ok (.ireturn, 1) := by decide +kernel
theorem dX2_moveLeader_159 : decode cX2_moveLeader 159 = .ok (.iload 6, 2) := by decide +kernel
theorem dX2_moveLeader_161 : decode cX2_moveLeader 161 = .ok (.ifCond .eq 37, 3) := by decide +kernel
theorem dX2_moveLeader_164 : decode cX2_moveLeader 164 = .ok (.aload_n 0, 1) := by decide +kernel
theorem dX2_moveLeader_165 : decode cX2_moveLeader 165 = .ok (.aload_n 0, 1) := by decide +kernel
theorem dX2_moveLeader_166 : decode cX2_moveLeader 166 = .ok (.getfield 46, 3) := by decide +kernel
theorem dX2_moveLeader_169 : decode cX2_moveLeader 169 = .ok (.iload 5, 2) := by decide +kernel
theorem dX2_moveLeader_171 : decode cX2_moveLeader 171 = .ok (.ifCond .eq 7, 3) := by decide +kernel
theorem dX2_moveLeader_174 : decode cX2_moveLeader 174 = .ok (.iload_n 1, 1) := by decide +kernel
theorem dX2_moveLeader_175 : decode cX2_moveLeader 175 = .ok (.goto 4, 3) := by decide +kernel
theorem dX2_moveLeader_178 : decode cX2_moveLeader 178 = .ok (.iload_n 3, 1) := by decide +kernel
theorem dX2_moveLeader_179 : decode cX2_moveLeader 179 = .ok (.iload 5, 2) := by decide +kernel
theorem dX2_moveLeader_181 : decode cX2_moveLeader 181 = .ok (.ifCond .eq 8, 3) := by decide +kernel
theorem dX2_moveLeader_184 : decode cX2_moveLeader 184 = .ok (.iload 4, 2) := by decide +kernel
theorem dX2_moveLeader_186 : decode cX2_moveLeader 186 = .ok (.goto 4, 3) := by decide +kernel
theorem dX2_moveLeader_189 : decode cX2_moveLeader 189 = .ok (.iload_n 2, 1) := by decide +kernel
theorem dX2_moveLeader_190 : decode cX2_moveLeader 190 = .ok (.invokevirtual 180, 3) := by decide +kernel
theorem dX2_moveLeader_193 : decode cX2_moveLeader 193 = .ok (.ifCond .eq 5, 3) := by decide +kernel
theorem dX2_moveLeader_196 : decode cX2_moveLeader 196 = .ok (.iconst 1, 1) := by decide +kernel
theorem dX2_moveLeader_197 : decode cX2_moveLeader 197 = .ok (.ireturn, 1) := by decide +kernel
theorem dX2_moveLeader_198 : decode cX2_moveLeader 198 = .ok (.aload_n 0, 1) := by decide +kernel
theorem dX2_moveLeader_199 : decode cX2_moveLeader 199 = .ok (.dup, 1) := by decide +kernel
theorem dX2_moveLeader_200 : decode cX2_moveLeader 200 = .ok (.getfield 67, 3) := by decide +kernel
theorem dX2_moveLeader_203 : decode cX2_moveLeader 203 = .ok (.iconst 1, 1) := by decide +kernel
theorem dX2_moveLeader_204 : decode cX2_moveLeader 204 = .ok (.iadd, 1) := by decide +kernel
theorem dX2_moveLeader_205 : decode cX2_moveLeader 205 = .ok (.putfield 67, 3) := by decide +kernel
theorem dX2_moveLeader_208 : decode cX2_moveLeader 208 = .ok (.iconst 0, 1) := by decide +kernel
theorem dX2_moveLeader_209 : decode cX2_moveLeader 209 = .ok (.ireturn, 1) := by decide +kernel
theorem dX2_oneTowards_0 : decode cX2_oneTowards 0 = .ok (.iload_n 0, 1) := by decide +kernel
theorem dX2_oneTowards_1 : decode cX2_oneTowards 1 = .ok (.iload_n 1, 1) := by decide +kernel
theorem dX2_oneTowards_2 : decode cX2_oneTowards 2 = .ok (.if_icmp .ne 5, 3) := by decide +kernel
theorem dX2_oneTowards_5 : decode cX2_oneTowards 5 = .ok (.iload_n 0, 1) := by decide +kernel
theorem dX2_oneTowards_6 : decode cX2_oneTowards 6 = .ok (.ireturn, 1) := by decide +kernel
theorem dX2_oneTowards_7 : decode cX2_oneTowards 7 = .ok (.iload_n 0, 1) := by decide +kernel
theorem dX2_oneTowards_8 : decode cX2_oneTowards 8 = .ok (.iload_n 1, 1) := by decide +kernel
theorem dX2_oneTowards_9 : decode cX2_oneTowards 9 = .ok (.if_icmp .ge 9, 3) := by decide +kernel
theorem dX2_oneTowards_12 : decode cX2_oneTowards 12 = .ok (.iload_n 0, 1) := by decide +kernel
theorem dX2_oneTowards_13 : decode cX2_oneTowards 13 = .ok (.iconst 1, 1) := by decide +kernel
theorem dX2_oneTowards_14 : decode cX2_oneTowards 14 = .ok (.iadd, 1) := by decide +kernel
theorem dX2_oneTowards_15 : decode cX2_oneTowards 15 = .ok (.goto 6, 3) := by decide +kernel
theorem dX2_oneTowards_18 : decode cX2_oneTowards 18 = .ok (.iload_n 0, 1) := by decide +kernel
theorem dX2_oneTowards_19 : decode cX2_oneTowards 19 = .ok (.iconst 1, 1) := by decide +kernel
theorem dX2_oneTowards_20 : decode cX2_oneTowards 20 = .ok (.isub, 1) := by decide +kernel
theorem dX2_oneTowards_21 : decode cX2_oneTowards 21 = .ok (.ireturn, 1) := by decide +kernel
theorem dX2_moveFollower_0 : decode cX2_moveFollower 0 = .ok (.iload_n 1, 1) := by decide +kernel
theorem dX2_moveFollower_1 : decode cX2_moveFollower 1 = .ok (.aload_n 0, 1) := by decide +kernel
theorem dX2_moveFollower_2 : decode cX2_moveFollower 2 = .ok (.getfield 46, 3) := by decide +kernel
theorem dX2_moveFollower_5 : decode cX2_moveFollower 5 = .ok (.if_icmp .eq 19, 3) := by decide +kernel
theorem dX2_moveFollower_8 : decode cX2_moveFollower 8 = .ok (.aload_n 0, 1) := by decide +kernel
theorem dX2_moveFollower_9 : decode cX2_moveFollower 9 = .ok (.iload_n 1, 1) := by decide +kernel
theorem dX2_moveFollower_10 : decode cX2_moveFollower 10 = .ok (.aload_n 0, 1) := by decide +kernel
theorem dX2_moveFollower_11 : decode cX2_moveFollower 11 = .ok (.getfield 46, 3) := by decide +kernel
theorem dX2_moveFollower_14 : decode cX2_moveFollower 14 = .ok (.invokevirtual 183, 3) := by decide +kernel
theorem dX2_moveFollower_17 : decode cX2_moveFollower 17 = .ok (.aload_n 0, 1) := by decide +kernel
theorem dX2_moveFollower_18 : decode cX2_moveFollower 18 = .ok (.getfield 61, 3) := by decide +kernel
theorem dX2_moveFollower_21 : decode cX2_moveFollower 21 = .ok (.if_icmp .gt 5, 3) := by decide +kernel
theorem dX2_moveFollower_24 : decode cX2_moveFollower 24 = .ok (.iconst 0, 1) := by decide +kernel
theorem dX2_moveFollower_25 : decode cX2_moveFollower 25 = .ok (.ireturn, 1) := by decide +kernel
theorem dX2_moveFollower_26 : decode cX2_moveFollower 26 = .ok (.aload_n 0, 1) := by decide +kernel
theorem dX2_moveFollower_27 : decode cX2_moveFollower 27 = .ok (.getfield 9, 3) := by decide +kernel
theorem dX2_moveFollower_30 : decode cX2_moveFollower 30 = .ok (.iload_n 1, 1) := by decide +kernel
theorem dX2_moveFollower_31 : decode cX2_moveFollower 31 = .ok (.iaload, 1) := by decide +kernel
theorem dX2_moveFollower_32 : decode cX2_moveFollower 32 = .ok (.istore_n 2, 1) := by decide +kernel
theorem dX2_moveFollower_33 : decode cX2_moveFollower 33 = .ok (.aload_n 0, 1) := by decide +kernel
theorem dX2_moveFollower_34 : decode cX2_moveFollower 34 = .ok (.getfield 15, 3) := by decide +kernel
theorem dX2_moveFollower_37 : decode cX2_moveFollower 37 = .ok (.iload_n 1, 1) := by decide +kernel
theorem dX2_moveFollower_38 : decode cX2_moveFollower 38 = .ok (.iaload, 1) := by decide +kernel
theorem dX2_moveFollower_39 : decode cX2_moveFollower 39 = .ok (.istore_n 3, 1) := by decide +kernel
theorem dX2_moveFollower_40 : decode cX2_moveFollower 40 = .ok (.iload_n 3, 1) := by decide +kernel
theorem dX2_moveFollower_41 : decode cX2_moveFollower 41 = .ok (.aload_n 0, 1) := by decide +kernel
theorem dX2_moveFollower_42 : decode cX2_moveFollower 42 = .ok (.getfield 15, 3) := by decide +kernel
theorem dX2_moveFollower_45 : decode cX2_moveFollower 45 = .ok (.aload_n 0, 1) := by decide +kernel
theorem dX2_moveFollower_46 : decode cX2_moveFollower 46 = .ok (.getfield 46, 3) := by decide +kernel
theorem dX2_moveFollower_49 : decode cX2_moveFollower 49 = .ok (.iaload, 1) := by decide +kernel
theorem dX2_moveFollower_50 : decode cX2_moveFollower 50 = .ok (.if_icmp .ge 15, 3) := by decide +kernel
theorem dX2_moveFollower_53 : decode cX2_moveFollower 53 = .ok (.aload_n 0, 1) := by decide +kernel
theorem dX2_moveFollower_54 : decode cX2_moveFollower 54 = .ok (.iload_n 1, 1) := by decide +kernel
theorem dX2_moveFollower_55 : decode cX2_moveFollower 55 = .ok (.iload_n 2, 1) := by decide +kernel
theorem dX2_moveFollower_56 : decode cX2_moveFollower 56 = .ok (.iload_n 3, 1) := by decide +kernel
theorem dX2_moveFollower_57 : decode cX2_moveFollower 57 = .ok (.iconst 1, 1) := by decide +kernel
theorem dX2_moveFollower_58 : decode cX2_moveFollower 58 = .ok (.iadd, 1) := by decide +kernel
theorem dX2_moveFollower_59 : decode cX2_moveFollower 59 = .ok (.invokevirtual 180, 3) := by decide +kernel
theorem dX2_moveFollower_62 : decode cX2_moveFollower 62 = .ok (.ifCond .ne 78, 3) := by decide +kernel
theorem dX2_moveFollower_65 : decode cX2_moveFollower 65 = .ok (.iload_n 2, 1) := by decide +kernel
theorem dX2_moveFollower_66 : decode cX2_moveFollower 66 = .ok (.aload_n 0, 1) := by decide +kernel
theorem dX2_moveFollower_67 : decode cX2_moveFollower 67 = .ok (.getfield 9, 3) := by decide +kernel
theorem dX2_moveFollower_70 : decode cX2_moveFollower 70 = .ok (.aload_n 0, 1) := by decide +kernel
theorem dX2_moveFollower_71 : decode cX2_moveFollower 71 = .ok (.getfield 46, 3) := by decide +kernel
theorem dX2_moveFollower_74 : decode cX2_moveFollower 74 = .ok (.iaload, 1) := by decide +kernel
theorem dX2_moveFollower_75 : decode cX2_moveFollower 75 = .ok (.if_icmp .ge 15, 3) := by decide +kernel
theorem dX2_moveFollower_78 : decode cX2_moveFollower 78 = .ok (.aload_n 0, 1) := by decide +kernel
theorem dX2_moveFollower_79 : decode cX2_moveFollower 79 = .ok (.iload_n 1, 1) := by decide +kernel
theorem dX2_moveFollower_80 : decode cX2_moveFollower 80 = .ok (.iload_n 2, 1) := by decide +kernel
theorem dX2_moveFollower_81 : decode cX2_moveFollower 81 = .ok (.iconst 1, 1) := by decide +kernel
theorem dX2_moveFollower_82 : decode cX2_moveFollower 82 = .ok (.iadd, 1) := by decide +kernel
theorem dX2_moveFollower_83 : decode cX2_moveFollower 83 = .ok (.iload_n 3, 1) := by decide +kernel
theorem dX2_moveFollower_84 : decode cX2_moveFollower 84 = .ok (.invokevirtual 180, 3) := by decide +kernel
theorem dX2_moveFollower_87 : decode cX2_moveFollower 87 = .ok (.ifCond .ne 53, 3) := by decide +kernel
theorem dX2_moveFollower_90 : decode cX2_moveFollower 90 = .ok (.iload_n 3, 1) := by decide +kernel
theorem dX2_moveFollower_91 : decode cX2_moveFollower 91 = .ok (.aload_n 0, 1) := by decide +kernel
theorem dX2_moveFollower_92 : decode cX2_moveFollower 92 = .ok (.getfield 15, 3) := by decide +kernel
theorem dX2_moveFollower_95 : decode cX2_moveFollower 95 = .ok (.aload_n 0, 1) := by decide +kernel
theorem dX2_moveFollower_96 : decode cX2_moveFollower 96 = .ok (.getfield 46, 3) := by decide +kernel
theorem dX2_moveFollower_99 : decode cX2_moveFollower 99 = .ok (.iaload, 1) := by decide +kernel
theorem dX2_moveFollower_100 : decode cX2_moveFollower 100 = .ok (.if_icmp .le 15, 3) := by decide +kernel
theorem dX2_moveFollower_103 : decode cX2_moveFollower 103 = .ok (.aload_n 0, 1) := by decide +kernel
theorem dX2_moveFollower_104 : decode cX2_moveFollower 104 = .ok (.iload_n 1, 1) := by decide +kernel
theorem dX2_moveFollower_105 : decode cX2_moveFollower 105 = .ok (.iload_n 2, 1) := by decide +kernel
theorem dX2_moveFollower_106 : decode cX2_moveFollower 106 = .ok (.iload_n 3, 1) := by decide +kernel
theorem dX2_moveFollower_107 : decode cX2_moveFollower 107 = .ok (.iconst 1, 1) := by decide +kernel
theorem dX2_moveFollower_108 : decode cX2_moveFollower 108 = .ok (.isub, 1) := by decide +kernel
theorem dX2_moveFollower_109 : decode cX2_moveFollower 109 = .ok (.invokevirtual 180, 3) := by decide +kernel
theorem dX2_moveFollower_112 : decode cX2_moveFollower 112 = .ok (.ifCond .ne 28, 3) := by decide +kernel
theorem dX2_moveFollower_115 : decode cX2_moveFollower 115 = .ok (.iload_n 2, 1) := by decide +kernel
theorem dX2_moveFollower_116 : decode cX2_moveFollower 116 = .ok (.aload_n 0, 1) := by decide +kernel
theorem dX2_moveFollower_117 : decode cX2_moveFollower 117 = .ok (.getfield 9, 3) := by decide +kernel
theorem dX2_moveFollower_120 : decode cX2_moveFollower 120 = .ok (.aload_n 0, 1) := by decide +kernel
theorem dX2_moveFollower_121 : decode cX2_moveFollower 121 = .ok (.getfield 46, 3) := by decide +kernel
theorem dX2_moveFollower_124 : decode cX2_moveFollower 124 = .ok (.iaload, 1) := by decide +kernel
theorem dX2_moveFollower_125 : decode cX2_moveFollower 125 = .ok (.if_icmp .le 19, 3) := by decide +kernel
theorem dX2_moveFollower_128 : decode cX2_moveFollower 128 = .ok (.aload_n 0, 1) := by decide +kernel
theorem dX2_moveFollower_129 : decode cX2_moveFollower 129 = .ok (.iload_n 1, 1) := by decide +kernel
theorem dX2_moveFollower_130 : decode cX2_moveFollower 130 = .ok (.iload_n 2, 1) := by decide +kernel
theorem dX2_moveFollower_131 : decode cX2_moveFollower 131 = .ok (.iconst 1, 1) := by decide +kernel
theorem dX2_moveFollower_132 : decode cX2_moveFollower 132 = .ok (.isub, 1) := by decide +kernel
theorem dX2_moveFollower_133 : decode cX2_moveFollower 133 = .ok (.iload_n 3, 1) := by decide +kernel
theorem dX2_moveFollower_134 : decode cX2_moveFollower 134 = .ok (.invokevirtual 180, 3) := by decide +kernel
theorem dX2_moveFollower_137 : decode cX2_moveFollower 137 = .ok (.ifCond .eq 7, 3) := by decide +kernel
theorem dX2_moveFollower_140 : decode cX2_moveFollower 140 = .ok (.iconst 1, 1) := by decide +kernel
theorem dX2_moveFollower_141 : decode cX2_moveFollower 141 = .ok (.goto 4, 3) := by decide +kernel
theorem dX2_moveFollower_144 : decode cX2_moveFollower 144 = .ok (.iconst 0, 1) := by decide +kernel
theorem dX2_moveFollower_145 : decode cX2_moveFollower 145 = .ok (.istore 4, 2) := by decide +kernel
theorem dX2_moveFollower_147 : decode cX2_moveFollower 147 = .ok (.iload 4, 2) := by decide +kernel
theorem dX2_moveFollower_149 : decode cX2_moveFollower 149 = .ok (.ifCond .ne 13, 3) := by decide +kernel
theorem dX2_moveFollower_152 : decode cX2_moveFollower 152 = .ok (.aload_n 0, 1) := by decide +kernel
theorem dX2_moveFollower_153 : decode cX2_moveFollower 153 = .ok (.dup, 1) := by decide +kernel
theorem dX2_moveFollower_154 : decode cX2_moveFollower 154 = .ok (.getfield 67, 3) := by decide +kernel
theorem dX2_moveFollower_157 : decode cX2_moveFollower 157 = .ok (.iconst 1, 1) := by decide +kernel
theorem dX2_moveFollower_158 : decode cX2_moveFollower 158 = .ok (.iadd, 1) := by decide +kernel
theorem dX2_moveFollower_159 : decode cX2_moveFollower 159 = .ok (.putfield 67, 3) := by decide +kernel
theorem dX2_moveFollower_162 : decode cX2_moveFollower 162 = .ok (.iload 4, 2) := by decide +kernel
theorem dX2_moveFollower_164 : decode cX2_moveFollower 164 = .ok (.ifCond .eq 7, 3) := by decide +kernel
theorem dX2_moveFollower_167 : decode cX2_moveFollower 167 = .ok (.iconst 1, 1) := by decide +kernel
theorem dX2_moveFollower_168 : decode cX2_moveFollower 168 = .ok (.goto 4, 3) := by decide +kernel
theorem dX2_moveFollower_171 : decode cX2_moveFollower 171 = .ok (.iconst 0, 1) := by decide +kernel
theorem dX2_moveFollower_172 : decode cX2_moveFollower 172 = .ok (.ireturn, 1) := by decide +kernel
theorem dX2_goTo_0 : decode cX2_goTo 0 = .ok (.aload_n 0, 1) := by decide +kernel
theorem dX2_goTo_1 : decode cX2_goTo 1 = .ok (.iload_n 1, 1) := by decide +kernel
theorem dX2_goTo_2 : decode cX2_goTo 2 = .ok (.invokevirtual 90, 3) := by decide +kernel
theorem dX2_goTo_5 : decode cX2_goTo 5 = .ok (.ifCond .eq 13, 3) := by decide +kernel
theorem dX2_goTo_8 : decode cX2_goTo 8 = .ok (.aload_n 0, 1) := by decide +kernel
theorem dX2_goTo_9 : decode cX2_goTo 9 = .ok (.iload_n 1, 1) := by decide +kernel
theorem dX2_goTo_10 : decode cX2_goTo 10 = .ok (.iload_n 2, 1) := by decide +kernel
theorem dX2_goTo_11 : decode cX2_goTo 11 = .ok (.iload_n 3, 1) := by decide +kernel
theorem dX2_goTo_12 : decode cX2_goTo 12 = .ok (.invokevirtual 111, 3) := by decide +kernel
theorem dX2_goTo_15 : decode cX2_goTo 15 = .ok (.ifCond .ne 5, 3) := by decide +kernel
theorem dX2_goTo_18 : decode cX2_goTo 18 = .ok (.iconst 0, 1) := by decide +kernel
theorem dX2_goTo_19 : decode cX2_goTo 19 = .ok (.ireturn, 1) := by decide +kernel
theorem dX2_goTo_20 : decode cX2_goTo 20 = .ok (.aload_n 0, 1) := by decide +kernel
theorem dX2_goTo_21 : decode cX2_goTo 21 = .ok (.getfield 9, 3) := by decide +kernel
theorem dX2_goTo_24 : decode cX2_goTo 24 = .ok (.iload_n 1, 1) := by decide +kernel
theorem dX2_goTo_25 : decode cX2_goTo 25 = .ok (.iload_n 2, 1) := by decide +kernel
theorem dX2_goTo_26 : decode cX2_goTo 26 = .ok (.iastore, 1) := by decide +kernel
theorem dX2_goTo_27 : decode cX2_goTo 27 = .ok (.aload_n 0, 1) := by decide +kernel
theorem dX2_goTo_28 : decode cX2_goTo 28 = .ok (.getfield 15, 3) := by decide +kernel
theorem dX2_goTo_31 : decode cX2_goTo 31 = .ok (.iload_n 1, 1) := by decide +kernel
theorem dX2_goTo_32 : decode cX2_goTo 32 = .ok (.iload_n 3, 1) := by decide +kernel
theorem dX2_goTo_33 : decode cX2_goTo 33 = .ok (.iastore, 1) := by decide +kernel
theorem dX2_goTo_34 : decode cX2_goTo 34 = .ok (.aload_n 0, 1) := by decide +kernel
theorem dX2_goTo_35 : decode cX2_goTo 35 = .ok (.getfield 21, 3) := by decide +kernel
theorem dX2_goTo_38 : decode cX2_goTo 38 = .ok (.iload_n 1, 1) := by decide +kernel
theorem dX2_goTo_39 : decode cX2_goTo 39 = .ok (.dup2, 1) := by decide +kernel
theorem dX2_goTo_40 : decode cX2_goTo 40 = .ok (.iaload, 1) := by decide +kernel
theorem dX2_goTo_41 : decode cX2_goTo 41 = .ok (.iconst 1, 1) := by decide +kernel
theorem dX2_goTo_42 : decode cX2_goTo 42 = .ok (.iadd, 1) := by decide +kernel
theorem dX2_goTo_43 : decode cX2_goTo 43 = .ok (.iastore, 1) := by decide +kernel
theorem dX2_goTo_44 : decode cX2_goTo 44 = .ok (.iconst 1, 1) := by decide +kernel
theorem dX2_goTo_45 : decode cX2_goTo 45 = .ok (.ireturn, 1) := by decide +kernel
theorem dX2_rememberShape_0 : decode cX2_rememberShape 0 = .ok (.aload_n 0, 1) := by decide +kernel
theorem dX2_rememberShape_1 : decode cX2_rememberShape 1 = .ok (.getfield 24, 3) := by decide +kernel
theorem dX2_rememberShape_4 : decode cX2_rememberShape 4 = .ok (.ifCond .le 18, 3) := by decide +kernel
theorem dX2_rememberShape_7 : decode cX2_rememberShape 7 = .ok (.aload_n 0, 1) := by decide +kernel
theorem dX2_rememberShape_8 : decode cX2_rememberShape 8 = .ok (.invokevirtual 186, 3) := by decide +kernel
theorem dX2_rememberShape_11 : decode cX2_rememberShape 11 = .ok (.aload_n 0, 1) := by decide +kernel
theorem dX2_rememberShape_12 : decode cX2_rememberShape 12 = .ok (.getfield 38, 3) := by decide +kernel
theorem dX2_rememberShape_15 : decode cX2_rememberShape 15 = .ok (.aload_n 0, 1) := by decide +kernel
theorem dX2_rememberShape_16 : decode cX2_rememberShape 16 = .ok (.getfield 42, 3) := by decide +kernel
theorem dX2_rememberShape_19 : decode cX2_rememberShape 19 = .ok (.invokevirtual 189, 3) := by decide +kernel
theorem dX2_rememberShape_22 : decode cX2_rememberShape 22 = .ok (.return_, 1) := by decide +kernel
theorem dX2_passLead_0 : decode cX2_passLead 0 = .ok (.aload_n 0, 1) := by decide +kernel
theorem dX2_passLead_1 : decode cX2_passLead 1 = .ok (.getfield 24, 3) := by decide +kernel
theorem dX2_passLead_4 : decode cX2_passLead 4 = .ok (.iconst 1, 1) := by decide +kernel
theorem dX2_passLead_5 : decode cX2_passLead 5 = .ok (.if_icmp .ge 4, 3) := by decide +kernel
theorem dX2_passLead_8 : decode cX2_passLead 8 = .ok (.return_, 1) := by decide +kernel
theorem dX2_passLead_9 : decode cX2_passLead 9 = .ok (.aload_n 0, 1) := by decide +kernel
theorem dX2_passLead_10 : decode cX2_passLead 10 = .ok (.dup, 1) := by decide +kernel
theorem dX2_passLead_11 : decode cX2_passLead 11 = .ok (.getfield 49, 3) := by decide +kernel
theorem dX2_passLead_14 : decode cX2_passLead 14 = .ok (.iconst 1, 1) := by decide +kernel
theorem dX2_passLead_15 : decode cX2_passLead 15 = .ok (.iadd, 1) := by decide +kernel
theorem dX2_passLead_16 : decode cX2_passLead 16 = .ok (.putfield 49, 3) := by decide +kernel
theorem dX2_passLead_19 : decode cX2_passLead 19 = .ok (.aload_n 0, 1) := by decide +kernel
theorem dX2_passLead_20 : decode cX2_passLead 20 = .ok (.getfield 49, 3) := by decide +kernel
theorem dX2_passLead_23 : decode cX2_passLead 23 = .ok (.aload_n 0, 1) := by decide +kernel
theorem dX2_passLead_24 : decode cX2_passLead 24 = .ok (.getfield 52, 3) := by decide +kernel
theorem dX2_passLead_27 : decode cX2_passLead 27 = .ok (.if_icmp .lt 35, 3) := by decide +kernel
theorem dX2_passLead_30 : decode cX2_passLead 30 = .ok (.aload_n 0, 1) := by decide +kernel
theorem dX2_passLead_31 : decode cX2_passLead 31 = .ok (.iconst 0, 1) := by decide +kernel
theorem dX2_passLead_32 : decode cX2_passLead 32 = .ok (.putfield 49, 3) := by decide +kernel
theorem dX2_passLead_35 : decode cX2_passLead 35 = .ok (.aload_n 0, 1) := by decide +kernel
theorem dX2_passLead_36 : decode cX2_passLead 36 = .ok (.aload_n 0, 1) := by decide +kernel
theorem dX2_passLead_37 : decode cX2_passLead 37 = .ok (.getfield 46, 3) := by decide +kernel
theorem dX2_passLead_40 : decode cX2_passLead 40 = .ok (.iconst 1, 1) := by decide +kernel
theorem dX2_passLead_41 : decode cX2_passLead 41 = .ok (.iadd, 1) := by decide +kernel
theorem dX2_passLead_42 : decode cX2_passLead 42 = .ok (.aload_n 0, 1) := by decide +kernel
theorem dX2_passLead_43 : decode cX2_passLead 43 = .ok (.getfield 24, 3) := by decide +kernel
theorem dX2_passLead_46 : decode cX2_passLead 46 = .ok (.if_icmp .ge 12, 3) := by decide +kernel
theorem dX2_passLead_49 : decode cX2_passLead 49 = .ok (.aload_n 0, 1) := by decide +kernel
theorem dX2_passLead_50 : decode cX2_passLead 50 = .ok (.getfield 46, 3) := by decide +kernel
theorem dX2_passLead_53 : decode cX2_passLead 53 = .ok (.iconst 1, 1) := by decide +kernel
theorem dX2_passLead_54 : decode cX2_passLead 54 = .ok (.iadd, 1) := by decide +kernel
theorem dX2_passLead_55 : decode cX2_passLead 55 = .ok (.goto 4, 3) := by decide +kernel
theorem dX2_passLead_58 : decode cX2_passLead 58 = .ok (.iconst 0, 1) := by decide +kernel
theorem dX2_passLead_59 : decode cX2_passLead 59 = .ok (.putfield 46, 3) := by decide +kernel
theorem dX2_passLead_62 : decode cX2_passLead 62 = .ok (.return_, 1) := by decide +kernel
theorem dX2_isPossible_0 : decode cX2_isPossible 0 = .ok (.iload_n 2, 1) := by decide +kernel
theorem dX2_isPossible_1 : decode cX2_isPossible 1 = .ok (.iload_n 3, 1) := by decide +kernel
theorem dX2_isPossible_2 : decode cX2_isPossible 2 = .ok (.invokestatic 107, 3) := by decide +kernel
theorem dX2_isPossible_5 : decode cX2_isPossible 5 = .ok (.ifCond .eq 30, 3) := by decide +kernel
theorem dX2_isPossible_8 : decode cX2_isPossible 8 = .ok (.aload_n 0, 1) := by decide +kernel
theorem dX2_isPossible_9 : decode cX2_isPossible 9 = .ok (.getfield 31, 3) := by decide +kernel
theorem dX2_isPossible_12 : decode cX2_isPossible 12 = .ok (.iload_n 2, 1) := by decide +kernel
theorem dX2_isPossible_13 : decode cX2_isPossible 13 = .ok (.iload_n 3, 1) := by decide +kernel
theorem dX2_isPossible_14 : decode cX2_isPossible 14 = .ok (.invokevirtual 116, 3) := by decide +kernel
theorem dX2_isPossible_17 : decode cX2_isPossible 17 = .ok (.ifCond .ne 18, 3) := by decide +kernel
theorem dX2_isPossible_20 : decode cX2_isPossible 20 = .ok (.aload_n 0, 1) := by decide +kernel
theorem dX2_isPossible_21 : decode cX2_isPossible 21 = .ok (.iload_n 1, 1) := by decide +kernel
theorem dX2_isPossible_22 : decode cX2_isPossible 22 = .ok (.iload_n 2, 1) := by decide +kernel
theorem dX2_isPossible_23 : decode cX2_isPossible 23 = .ok (.iload_n 3, 1) := by decide +kernel
theorem dX2_isPossible_24 : decode cX2_isPossible 24 = .ok (.invokevirtual 193, 3) := by decide +kernel
theorem dX2_isPossible_27 : decode cX2_isPossible 27 = .ok (.iconst (-1), 1) := by decide +kernel
theorem dX2_isPossible_28 : decode cX2_isPossible 28 = .ok (.if_icmp .ne 7, 3) := by decide +kernel
theorem dX2_isPossible_31 : decode cX2_isPossible 31 = .ok (.iconst 1, 1) := by decide +kernel
theorem dX2_isPossible_32 : decode cX2_isPossible 32 = .ok (.goto 4, 3) := by decide +kernel
theorem dX2_isPossible_35 : decode cX2_isPossible 35 = .ok (.iconst 0, 1) := by decide +kernel
theorem dX2_isPossible_36 : decode cX2_isPossible 36 = .ok (.ireturn, 1) := by decide +kernel
theorem dX2_lowestTouched_0 : decode cX2_lowestTouched 0 = .ok (.iconst 0, 1) := by decide +kernel
theorem dX2_lowestTouched_1 : decode cX2_lowestTouched 1 = .ok (.istore 4, 2) := by decide +kernel
theorem dX2_lowestTouched_3 : decode cX2_lowestTouched 3 = .ok (.iload 4, 2) := by decide +kernel
theorem dX2_lowestTouched_5 : decode cX2_lowestTouched 5 = .ok (.aload_n 0, 1) := by decide +kernel
theorem dX2_lowestTouched_6 : decode cX2_lowestTouched 6 = .ok (.getfield 24, 3) := by decide +kernel
theorem dX2_lowestTouched_9 : decode cX2_lowestTouched 9 = .ok (.if_icmp .ge 47, 3) := by decide +kernel
theorem dX2_lowestTouched_12 : decode cX2_lowestTouched 12 = .ok (.iload 4, 2) := by decide +kernel
theorem dX2_lowestTouched_14 : decode cX2_lowestTouched 14 = .ok (.iload_n 1, 1) := by decide +kernel
theorem dX2_lowestTouched_15 : decode cX2_lowestTouched 15 = .ok (.if_icmp .eq 35, 3) := by decide +kernel
theorem dX2_lowestTouched_18 : decode cX2_lowestTouched 18 = .ok (.aload_n 0, 1) := by decide +kernel
theorem dX2_lowestTouched_19 : decode cX2_lowestTouched 19 = .ok (.getfield 9, 3) := by decide +kernel
theorem dX2_lowestTouched_22 : decode cX2_lowestTouched 22 = .ok (.iload 4, 2) := by decide +kernel
theorem dX2_lowestTouched_24 : decode cX2_lowestTouched 24 = .ok (.iaload, 1) := by decide +kernel
theorem dX2_lowestTouched_25 : decode cX2_lowestTouched 25 = .ok (.iload_n 2, 1) := by decide +kernel
theorem dX2_lowestTouched_26 : decode cX2_lowestTouched 26 = .ok (.isub, 1) := by decide +kernel
theorem dX2_lowestTouched_27 : decode cX2_lowestTouched 27 = .ok (.invokestatic 175, 3) := by decide +kernel
theorem dX2_lowestTouched_30 : decode cX2_lowestTouched 30 = .ok (.aload_n 0, 1) := by decide +kernel
theorem dX2_lowestTouched_31 : decode cX2_lowestTouched 31 = .ok (.getfield 15, 3) := by decide +kernel
theorem dX2_lowestTouched_34 : decode cX2_lowestTouched 34 = .ok (.iload 4, 2) := by decide +kernel
theorem dX2_lowestTouched_36 : decode cX2_lowestTouched 36 = .ok (.iaload, 1) := by decide +kernel
theorem dX2_lowestTouched_37 : decode cX2_lowestTouched 37 = .ok (.iload_n 3, 1) := by decide +kernel
theorem dX2_lowestTouched_38 : decode cX2_lowestTouched 38 = .ok (.isub, 1) := by decide +kernel
theorem dX2_lowestTouched_39 : decode cX2_lowestTouched 39 = .ok (.invokestatic 175, 3) := by decide +kernel
theorem dX2_lowestTouched_42 : decode cX2_lowestTouched 42 = .ok (.iadd, 1) := by decide +kernel
theorem dX2_lowestTouched_43 : decode cX2_lowestTouched 43 = .ok (.iconst 2, 1) := by decide +kernel
theorem dX2_lowestTouched_44 : decode cX2_lowestTouched 44 = .ok (.if_icmp .ge 6, 3) := by decide +kernel
theorem dX2_lowestTouched_47 : decode cX2_lowestTouched 47 = .ok (.iload 4, 2) := by decide +kernel
theorem dX2_lowestTouched_49 : decode cX2_lowestTouched 49 = .ok (.ireturn, 1) := by decide +kernel
theorem dX2_lowestTouched_50 : decode cX2_lowestTouched 50 = .ok (.iinc 4 1, 3) := by decide +kernel
theorem dX2_lowestTouched_53 : decode cX2_lowestTouched 53 = .ok (.goto (-50), 3) := by decide +kernel
theorem dX2_lowestTouched_56 : decode cX2_lowestTouched 56 = .ok (.iconst (-1), 1) := by decide +kernel
theorem dX2_lowestTouched_57 : decode cX2_lowestTouched 57 = .ok (.ireturn, 1) := by decide +kernel
theorem dX2_basketIn_0 : decode cX2_basketIn 0 = .ok (.iconst 0, 1) := by decide +kernel
theorem dX2_basketIn_1 : decode cX2_basketIn 1 = .ok (.istore_n 3, 1) := by decide +kernel
theorem dX2_basketIn_2 : decode cX2_basketIn 2 = .ok (.iload_n 3, 1) := by decide +kernel
theorem dX2_basketIn_3 : decode cX2_basketIn 3 = .ok (.aload_n 0, 1) := by decide +kernel
theorem dX2_basketIn_4 : decode cX2_basketIn 4 = .ok (.getfield 24, 3) := by decide +kernel
theorem dX2_basketIn_7 : decode cX2_basketIn 7 = .ok (.if_icmp .ge 31, 3) := by decide +kernel
theorem dX2_basketIn_10 : decode cX2_basketIn 10 = .ok (.aload_n 0, 1) := by decide +kernel
theorem dX2_basketIn_11 : decode cX2_basketIn 11 = .ok (.getfield 9, 3) := by decide +kernel
theorem dX2_basketIn_14 : decode cX2_basketIn 14 = .ok (.iload_n 3, 1) := by decide +kernel
theorem dX2_basketIn_15 : decode cX2_basketIn 15 = .ok (.iaload, 1) := by decide +kernel
theorem dX2_basketIn_16 : decode cX2_basketIn 16 = .ok (.iload_n 1, 1) := by decide +kernel
theorem dX2_basketIn_17 : decode cX2_basketIn 17 = .ok (.if_icmp .ne 15, 3) := by decide +kernel
theorem dX2_basketIn_20 : decode cX2_basketIn 20 = .ok (.aload_n 0, 1) := by decide +kernel
theorem dX2_basketIn_21 : decode cX2_basketIn 21 = .ok (.getfield 15, 3) := by decide +kernel
theorem dX2_basketIn_24 : decode cX2_basketIn 24 = .ok (.iload_n 3, 1) := by decide +kernel
theorem dX2_basketIn_25 : decode cX2_basketIn 25 = .ok (.iaload, 1) := by decide +kernel
theorem dX2_basketIn_26 : decode cX2_basketIn 26 = .ok (.iload_n 2, 1) := by decide +kernel
theorem dX2_basketIn_27 : decode cX2_basketIn 27 = .ok (.if_icmp .ne 5, 3) := by decide +kernel
theorem dX2_basketIn_30 : decode cX2_basketIn 30 = .ok (.iload_n 3, 1) := by decide +kernel
theorem dX2_basketIn_31 : decode cX2_basketIn 31 = .ok (.ireturn, 1) := by decide +kernel
theorem dX2_basketIn_32 : decode cX2_basketIn 32 = .ok (.iinc 3 1, 3) := by decide +kernel
theorem dX2_basketIn_35 : decode cX2_basketIn 35 = .ok (.goto (-33), 3) := by decide +kernel
theorem dX2_basketIn_38 : decode cX2_basketIn 38 = .ok (.iconst (-1), 1) := by decide +kernel
theorem dX2_basketIn_39 : decode cX2_basketIn 39 = .ok (.ireturn, 1) := by decide +kernel
theorem dX2_signOf_0 : decode cX2_signOf 0 = .ok (.aload_n 0, 1) := by decide +kernel
theorem dX2_signOf_1 : decode cX2_signOf 1 = .ok (.iload_n 1, 1) := by decide +kernel
theorem dX2_signOf_2 : decode cX2_signOf 2 = .ok (.iload_n 2, 1) := by decide +kernel
theorem dX2_signOf_3 : decode cX2_signOf 3 = .ok (.invokevirtual 119, 3) := by decide +kernel
theorem dX2_signOf_6 : decode cX2_signOf 6 = .ok (.istore_n 3, 1) := by decide +kernel
theorem dX2_signOf_7 : decode cX2_signOf 7 = .ok (.iload_n 3, 1) := by decide +kernel
theorem dX2_signOf_8 : decode cX2_signOf 8 = .ok (.iconst (-1), 1) := by decide +kernel
theorem dX2_signOf_9 : decode cX2_signOf 9 = .ok (.if_icmp .eq 9, 3) := by decide +kernel
theorem dX2_signOf_12 : decode cX2_signOf 12 = .ok (.bipush 48, 2) := by decide +kernel
theorem dX2_signOf_14 : decode cX2_signOf 14 = .ok (.iload_n 3, 1) := by decide +kernel
theorem dX2_signOf_15 : decode cX2_signOf 15 = .ok (.iadd, 1) := by decide +kernel
theorem dX2_signOf_16 : decode cX2_signOf 16 = .ok (.i2c, 1) := by decide +kernel
theorem dX2_signOf_17 : decode cX2_signOf 17 = .ok (.ireturn, 1) := by decide +kernel
theorem dX2_signOf_18 : decode cX2_signOf 18 = .ok (.aload_n 0, 1) := by decide +kernel
theorem dX2_signOf_19 : decode cX2_signOf 19 = .ok (.getfield 31, 3) := by decide +kernel
theorem dX2_signOf_22 : decode cX2_signOf 22 = .ok (.iload_n 1, 1) := by decide +kernel
theorem dX2_signOf_23 : decode cX2_signOf 23 = .ok (.iload_n 2, 1) := by decide +kernel
theorem dX2_signOf_24 : decode cX2_signOf 24 = .ok (.invokevirtual 116, 3) := by decide +kernel
theorem dX2_signOf_27 : decode cX2_signOf 27 = .ok (.ifCond .eq 8, 3) := by decide +kernel
theorem dX2_signOf_30 : decode cX2_signOf 30 = .ok (.bipush 35, 2) := by decide +kernel
theorem dX2_signOf_32 : decode cX2_signOf 32 = .ok (.goto 5, 3) := by decide +kernel
theorem dX2_signOf_35 : decode cX2_signOf 35 = .ok (.bipush 46, 2) := by decide +kernel
theorem dX2_signOf_37 : decode cX2_signOf 37 = .ok (.ireturn, 1) := by decide +kernel
theorem dX2_isApartAndClear_0 : decode cX2_isApartAndClear 0 = .ok (.iconst 0, 1) := by decide +kernel
theorem dX2_isApartAndClear_1 : decode cX2_isApartAndClear 1 = .ok (.istore_n 1, 1) := by decide +kernel
theorem dX2_isApartAndClear_2 : decode cX2_isApartAndClear 2 = .ok (.iload_n 1, 1) := by decide +kernel
theorem dX2_isApartAndClear_3 : decode cX2_isApartAndClear 3 = .ok (.aload_n 0, 1) := by decide +kernel
theorem dX2_isApartAndClear_4 : decode cX2_isApartAndClear 4 = .ok (.getfield 24, 3) := by decide +kernel
theorem dX2_isApartAndClear_7 : decode cX2_isApartAndClear 7 = .ok (.if_icmp .ge 31, 3) := by decide +kernel
theorem dX2_isApartAndClear_10 : decode cX2_isApartAndClear 10 = .ok (.aload_n 0, 1) := by decide +kernel
theorem dX2_isApartAndClear_11 : decode cX2_isApartAndClear 11 = .ok (.iload_n 1, 1) := by decide +kernel
theorem dX2_isApartAndClear_12 : decode cX2_isApartAndClear 12 = .ok (.aload_n 0, 1) := by decide +kernel
theorem dX2_isApartAndClear_13 : decode cX2_isApartAndClear 13 = .ok (.getfield 9, 3) := by decide +kernel
theorem dX2_isApartAndClear_16 : decode cX2_isApartAndClear 16 = .ok (.iload_n 1, 1) := by decide +kernel
theorem dX2_isApartAndClear_17 : decode cX2_isApartAndClear 17 = .ok (.iaload, 1) := by decide +kernel
theorem dX2_isApartAndClear_18 : decode cX2_isApartAndClear 18 = .ok (.aload_n 0, 1) := by decide +kernel
theorem dX2_isApartAndClear_19 : decode cX2_isApartAndClear 19 = .ok (.getfield 15, 3) := by decide +kernel
theorem dX2_isApartAndClear_22 : decode cX2_isApartAndClear 22 = .ok (.iload_n 1, 1) := by decide +kernel
theorem dX2_isApartAndClear_23 : decode cX2_isApartAndClear 23 = .ok (.iaload, 1) := by decide +kernel
theorem dX2_isApartAndClear_24 : decode cX2_isApartAndClear 24 = .ok (.invokevirtual 111, 3) := by decide +kernel
theorem dX2_isApartAndClear_27 : decode cX2_isApartAndClear 27 = .ok (.ifCond .ne 5, 3) := by decide +kernel
theorem dX2_isApartAndClear_30 : decode cX2_isApartAndClear 30 = .ok (.iconst 0, 1) := by decide +kernel
theorem dX2_isApartAndClear_31 : decode cX2_isApartAndClear 31 = .ok (.ireturn, 1) := by decide +kernel
theorem dX2_isApartAndClear_32 : decode cX2_isApartAndClear 32 = .ok (.iinc 1 1, 3) := by decide +kernel
theorem dX2_isApartAndClear_35 : decode cX2_isApartAndClear 35 = .ok (.goto (-33), 3) := by decide +kernel
theorem dX2_isApartAndClear_38 : decode cX2_isApartAndClear 38 = .ok (.iconst 1, 1) := by decide +kernel
theorem dX2_isApartAndClear_39 : decode cX2_isApartAndClear 39 = .ok (.ireturn, 1) := by decide +kernel
theorem dX2_has_0 : decode cX2_has 0 = .ok (.iload_n 1, 1) := by decide +kernel
theorem dX2_has_1 : decode cX2_has 1 = .ok (.ifCond .lt 15, 3) := by decide +kernel
theorem dX2_has_4 : decode cX2_has 4 = .ok (.iload_n 1, 1) := by decide +kernel
theorem dX2_has_5 : decode cX2_has 5 = .ok (.aload_n 0, 1) := by decide +kernel
theorem dX2_has_6 : decode cX2_has 6 = .ok (.getfield 24, 3) := by decide +kernel
theorem dX2_has_9 : decode cX2_has 9 = .ok (.if_icmp .ge 7, 3) := by decide +kernel
theorem dX2_has_12 : decode cX2_has 12 = .ok (.iconst 1, 1) := by decide +kernel
theorem dX2_has_13 : decode cX2_has 13 = .ok (.goto 4, 3) := by decide +kernel
theorem dX2_has_16 : decode cX2_has 16 = .ok (.iconst 0, 1) := by decide +kernel
theorem dX2_has_17 : decode cX2_has 17 = .ok (.ireturn, 1) := by decide +kernel
theorem dX2_distanceFrom_0 : decode cX2_distanceFrom 0 = .ok (.aload_n 0, 1) := by decide +kernel
theorem dX2_distanceFrom_1 : decode cX2_distanceFrom 1 = .ok (.iload_n 1, 1) := by decide +kernel
theorem dX2_distanceFrom_2 : decode cX2_distanceFrom 2 = .ok (.invokevirtual 90, 3) := by decide +kernel
theorem dX2_distanceFrom_5 : decode cX2_distanceFrom 5 = .ok (.ifCond .eq 29, 3) := by decide +kernel
theorem dX2_distanceFrom_8 : decode cX2_distanceFrom 8 = .ok (.aload_n 0, 1) := by decide +kernel
theorem dX2_distanceFrom_9 : decode cX2_distanceFrom 9 = .ok (.getfield 9, 3) := by decide +kernel
theorem dX2_distanceFrom_12 : decode cX2_distanceFrom 12 = .ok (.iload_n 1, 1) := by decide +kernel
theorem dX2_distanceFrom_13 : decode cX2_distanceFrom 13 = .ok (.iaload, 1) := by decide +kernel
theorem dX2_distanceFrom_14 : decode cX2_distanceFrom 14 = .ok (.iload_n 2, 1) := by decide +kernel
theorem dX2_distanceFrom_15 : decode cX2_distanceFrom 15 = .ok (.isub, 1) := by decide +kernel
theorem dX2_distanceFrom_16 : decode cX2_distanceFrom 16 = .ok (.invokestatic 175, 3) := by decide +kernel
theorem dX2_distanceFrom_19 : decode cX2_distanceFrom 19 = .ok (.aload_n 0, 1) := by decide +kernel
theorem dX2_distanceFrom_20 : decode cX2_distanceFrom 20 = .ok (.getfield 15, 3) := by decide +kernel
theorem dX2_distanceFrom_23 : decode cX2_distanceFrom 23 = .ok (.iload_n 1, 1) := by decide +kernel
theorem dX2_distanceFrom_24 : decode cX2_distanceFrom 24 = .ok (.iaload, 1) := by decide +kernel
theorem dX2_distanceFrom_25 : decode cX2_distanceFrom 25 = .ok (.iload_n 3, 1) := by decide +kernel
theorem dX2_distanceFrom_26 : decode cX2_distanceFrom 26 = .ok (.isub, 1) := by decide +kernel
theorem dX2_distanceFrom_27 : decode cX2_distanceFrom 27 = .ok (.invokestatic 175, 3) := by decide +kernel
theorem dX2_distanceFrom_30 : decode cX2_distanceFrom 30 = .ok (.iadd, 1) := by decide +kernel
theorem dX2_distanceFrom_31 : decode cX2_distanceFrom 31 = .ok (.goto 4, 3) := by decide +kernel
theorem dX2_distanceFrom_34 : decode cX2_distanceFrom 34 = .ok (.iconst (-1), 1) := by decide +kernel
theorem dX2_distanceFrom_35 : decode cX2_distanceFrom 35 = .ok (.ireturn, 1) := by decide +kernel
theorem dX2_distanceOf_0 : decode cX2_distanceOf 0 = .ok (.aload_n 0, 1) := by decide +kernel
theorem dX2_distanceOf_1 : decode cX2_distanceOf 1 = .ok (.iload_n 2, 1) := by decide +kernel
theorem dX2_distanceOf_2 : decode cX2_distanceOf 2 = .ok (.invokevirtual 90, 3) := by decide +kernel
theorem dX2_distanceOf_5 : decode cX2_distanceOf 5 = .ok (.ifCond .eq 23, 3) := by decide +kernel
theorem dX2_distanceOf_8 : decode cX2_distanceOf 8 = .ok (.aload_n 0, 1) := by decide +kernel
theorem dX2_distanceOf_9 : decode cX2_distanceOf 9 = .ok (.iload_n 1, 1) := by decide +kernel
theorem dX2_distanceOf_10 : decode cX2_distanceOf 10 = .ok (.aload_n 0, 1) := by decide +kernel
theorem dX2_distanceOf_11 : decode cX2_distanceOf 11 = .ok (.getfield 9, 3) := by decide +kernel
theorem dX2_distanceOf_14 : decode cX2_distanceOf 14 = .ok (.iload_n 2, 1) := by decide +kernel
theorem dX2_distanceOf_15 : decode cX2_distanceOf 15 = .ok (.iaload, 1) := by decide +kernel
theorem dX2_distanceOf_16 : decode cX2_distanceOf 16 = .ok (.aload_n 0, 1) := by decide +kernel
theorem dX2_distanceOf_17 : decode cX2_distanceOf 17 = .ok (.getfield 15, 3) := by decide +kernel
theorem dX2_distanceOf_20 : decode cX2_distanceOf 20 = .ok (.iload_n 2, 1) := by decide +kernel
theorem dX2_distanceOf_21 : decode cX2_distanceOf 21 = .ok (.iaload, 1) := by decide +kernel
theorem dX2_distanceOf_22 : decode cX2_distanceOf 22 = .ok (.invokevirtual 149, 3) := by decide +kernel
theorem dX2_distanceOf_25 : decode cX2_distanceOf 25 = .ok (.goto 4, 3) := by decide +kernel
theorem dX2_distanceOf_28 : decode cX2_distanceOf 28 = .ok (.iconst (-1), 1) := by decide +kernel
theorem dX2_distanceOf_29 : decode cX2_distanceOf 29 = .ok (.ireturn, 1) := by decide +kernel
theorem dX2_nearestOther_0 : decode cX2_nearestOther 0 = .ok (.iconst (-1), 1) := by decide +kernel
theorem dX2_nearestOther_1 : decode cX2_nearestOther 1 = .ok (.istore_n 2, 1) := by decide +kernel
theorem dX2_nearestOther_2 : decode cX2_nearestOther 2 = .ok (.iconst 0, 1) := by decide +kernel
theorem dX2_nearestOther_3 : decode cX2_nearestOther 3 = .ok (.istore_n 3, 1) := by decide +kernel
theorem dX2_nearestOther_4 : decode cX2_nearestOther 4 = .ok (.iload_n 3, 1) := by decide +kernel
theorem dX2_nearestOther_5 : decode cX2_nearestOther 5 = .ok (.aload_n 0, 1) := by decide +kernel
theorem dX2_nearestOther_6 : decode cX2_nearestOther 6 = .ok (.getfield 24, 3) := by decide +kernel
theorem dX2_nearestOther_9 : decode cX2_nearestOther 9 = .ok (.if_icmp .ge 36, 3) := by decide +kernel
theorem dX2_nearestOther_12 : decode cX2_nearestOther 12 = .ok (.iload_n 3, 1) := by decide +kernel
theorem dX2_nearestOther_13 : decode cX2_nearestOther 13 = .ok (.iload_n 1, 1) := by decide +kernel
theorem dX2_nearestOther_14 : decode cX2_nearestOther 14 = .ok (.if_icmp .eq 25, 3) := by decide +kernel
theorem dX2_nearestOther_17 : decode cX2_nearestOther 17 = .ok (.iload_n 2, 1) := by decide +kernel
theorem dX2_nearestOther_18 : decode cX2_nearestOther 18 = .ok (.iconst (-1), 1) := by decide +kernel
theorem dX2_nearestOther_19 : decode cX2_nearestOther 19 = .ok (.if_icmp .eq 18, 3) := by decide +kernel
theorem dX2_nearestOther_22 : decode cX2_nearestOther 22 = .ok (.aload_n 0, 1) := by decide +kernel
theorem dX2_nearestOther_23 : decode cX2_nearestOther 23 = .ok (.iload_n 1, 1) := by decide +kernel
theorem dX2_nearestOther_24 : decode cX2_nearestOther 24 = .ok (.iload_n 3, 1) := by decide +kernel
theorem dX2_nearestOther_25 : decode cX2_nearestOther 25 = .ok (.invokevirtual 183, 3) := by decide +kernel
theorem dX2_nearestOther_28 : decode cX2_nearestOther 28 = .ok (.aload_n 0, 1) := by decide +kernel
theorem dX2_nearestOther_29 : decode cX2_nearestOther 29 = .ok (.iload_n 1, 1) := by decide +kernel
theorem dX2_nearestOther_30 : decode cX2_nearestOther 30 = .ok (.iload_n 2, 1) := by decide +kernel
theorem dX2_nearestOther_31 : decode cX2_nearestOther 31 = .ok (.invokevirtual 183, 3) := by decide +kernel
theorem dX2_nearestOther_34 : decode cX2_nearestOther 34 = .ok (.if_icmp .ge 5, 3) := by decide +kernel
theorem dX2_nearestOther_37 : decode cX2_nearestOther 37 = .ok (.iload_n 3, 1) := by decide +kernel
theorem dX2_nearestOther_38 : decode cX2_nearestOther 38 = .ok (.istore_n 2, 1) := by decide +kernel
theorem dX2_nearestOther_39 : decode cX2_nearestOther 39 = .ok (.iinc 3 1, 3) := by decide +kernel
theorem dX2_nearestOther_42 : decode cX2_nearestOther 42 = .ok (.goto (-38), 3) := by decide +kernel
theorem dX2_nearestOther_45 : decode cX2_nearestOther 45 = .ok (.iload_n 2, 1) := by decide +kernel
theorem dX2_nearestOther_46 : decode cX2_nearestOther 46 = .ok (.ireturn, 1) := by decide +kernel
theorem dX2_basketWithRank_0 : decode cX2_basketWithRank 0 = .ok (.iconst 0, 1) := by decide +kernel
theorem dX2_basketWithRank_1 : decode cX2_basketWithRank 1 = .ok (.istore_n 2, 1) := by decide +kernel
theorem dX2_basketWithRank_2 : decode cX2_basketWithRank 2 = .ok (.iload_n 2, 1) := by decide +kernel
theorem dX2_basketWithRank_3 : decode cX2_basketWithRank 3 = .ok (.aload_n 0, 1) := by decide +kernel
theorem dX2_basketWithRank_4 : decode cX2_basketWithRank 4 = .ok (.getfield 24, 3) := by decide +kernel
theorem dX2_basketWithRank_7 : decode cX2_basketWithRank 7 = .ok (.if_icmp .ge 20, 3) := by decide +kernel
theorem dX2_basketWithRank_10 : decode cX2_basketWithRank 10 = .ok (.aload_n 0, 1) := by decide +kernel
theorem dX2_basketWithRank_11 : decode cX2_basketWithRank 11 = .ok (.iload_n 2, 1) := by decide +kernel
theorem dX2_basketWithRank_12 : decode cX2_basketWithRank 12 = .ok (.invokevirtual 196, 3) := by decide +kernel
theorem dX2_basketWithRank_15 : decode cX2_basketWithRank 15 = .ok (.iload_n 1, 1) := by decide +kernel
theorem dX2_basketWithRank_16 : decode cX2_basketWithRank 16 = .ok (.if_icmp .ne 5, 3) := by decide +kernel
theorem dX2_basketWithRank_19 : decode cX2_basketWithRank 19 = .ok (.iload_n 2, 1) := by decide +kernel
theorem dX2_basketWithRank_20 : decode cX2_basketWithRank 20 = .ok (.ireturn, 1) := by decide +kernel
theorem dX2_basketWithRank_21 : decode cX2_basketWithRank 21 = .ok (.iinc 2 1, 3) := by decide +kernel
theorem dX2_basketWithRank_24 : decode cX2_basketWithRank 24 = .ok (.goto (-22), 3) := by decide +kernel
theorem dX2_basketWithRank_27 : decode cX2_basketWithRank 27 = .ok (.iconst (-1), 1) := by decide +kernel
theorem dX2_basketWithRank_28 : decode cX2_basketWithRank 28 = .ok (.ireturn, 1) := by decide +kernel
theorem dX2_rankOf_0 : decode cX2_rankOf 0 = .ok (.aload_n 0, 1) := by decide +kernel
theorem dX2_rankOf_1 : decode cX2_rankOf 1 = .ok (.iload_n 1, 1) := by decide +kernel
theorem dX2_rankOf_2 : decode cX2_rankOf 2 = .ok (.aload_n 0, 1) := by decide +kernel
theorem dX2_rankOf_3 : decode cX2_rankOf 3 = .ok (.getfield 46, 3) := by decide +kernel
theorem dX2_rankOf_6 : decode cX2_rankOf 6 = .ok (.invokevirtual 183, 3) := by decide +kernel
theorem dX2_rankOf_9 : decode cX2_rankOf 9 = .ok (.istore_n 2, 1) := by decide +kernel
theorem dX2_rankOf_10 : decode cX2_rankOf 10 = .ok (.iconst 0, 1) := by decide +kernel
theorem dX2_rankOf_11 : decode cX2_rankOf 11 = .ok (.istore_n 3, 1) := by decide +kernel
theorem dX2_rankOf_12 : decode cX2_rankOf 12 = .ok (.iconst 0, 1) := by decide +kernel
theorem dX2_rankOf_13 : decode cX2_rankOf 13 = .ok (.istore 4, 2) := by decide +kernel
theorem dX2_rankOf_15 : decode cX2_rankOf 15 = .ok (.iload 4, 2) := by decide +kernel
theorem dX2_rankOf_17 : decode cX2_rankOf 17 = .ok (.aload_n 0, 1) := by decide +kernel
theorem dX2_rankOf_18 : decode cX2_rankOf 18 = .ok (.getfield 24, 3) := by decide +kernel
theorem dX2_rankOf_21 : decode cX2_rankOf 21 = .ok (.if_icmp .ge 42, 3) := by decide +kernel
theorem dX2_rankOf_24 : decode cX2_rankOf 24 = .ok (.aload_n 0, 1) := by decide +kernel
theorem dX2_rankOf_25 : decode cX2_rankOf 25 = .ok (.iload 4, 2) := by decide +kernel
theorem dX2_rankOf_27 : decode cX2_rankOf 27 = .ok (.aload_n 0, 1) := by decide +kernel
theorem dX2_rankOf_28 : decode cX2_rankOf 28 = .ok (.getfield 46, 3) := by decide +kernel
theorem dX2_rankOf_31 : decode cX2_rankOf 31 = .ok (.invokevirtual 183, 3) := by decide +kernel
theorem dX2_rankOf_34 : decode cX2_rankOf 34 = .ok (.istore 5, 2) := by decide +kernel
theorem dX2_rankOf_36 : decode cX2_rankOf 36 = .ok (.iload 5, 2) := by decide +kernel
theorem dX2_rankOf_38 : decode cX2_rankOf 38 = .ok (.iload_n 2, 1) := by decide +kernel
theorem dX2_rankOf_39 : decode cX2_rankOf 39 = .ok (.if_icmp .lt 15, 3) := by decide +kernel
theorem dX2_rankOf_42 : decode cX2_rankOf 42 = .ok (.iload 5, 2) := by decide +kernel
theorem dX2_rankOf_44 : decode cX2_rankOf 44 = .ok (.iload_n 2, 1) := by decide +kernel
theorem dX2_rankOf_45 : decode cX2_rankOf 45 = .ok (.if_icmp .ne 12, 3) := by decide +kernel
theorem dX2_rankOf_48 : decode cX2_rankOf 48 = .ok (.iload 4, 2) := by decide +kernel
theorem dX2_rankOf_50 : decode cX2_rankOf 50 = .ok (.iload_n 1, 1) := by decide +kernel
theorem dX2_rankOf_51 : decode cX2_rankOf 51 = .ok (.if_icmp .ge 6, 3) := by decide +kernel
theorem dX2_rankOf_54 : decode cX2_rankOf 54 = .ok (.iinc 3 1, 3) := by decide +kernel
theorem dX2_rankOf_57 : decode cX2_rankOf 57 = .ok (.iinc 4 1, 3) := by decide +kernel
theorem dX2_rankOf_60 : decode cX2_rankOf 60 = .ok (.goto (-45), 3) := by decide +kernel
theorem dX2_rankOf_63 : decode cX2_rankOf 63 = .ok (.iload_n 3, 1) := by decide +kernel
theorem dX2_rankOf_64 : decode cX2_rankOf 64 = .ok (.ireturn, 1) := by decide +kernel
theorem dX2_sumOfDistancesFromLeader_0 : decode cX2_sumOfDistancesFromLeader 0 = .ok (.iconst 0, 1) := by decide +kernel
theorem dX2_sumOfDistancesFromLeader_1 : decode cX2_sumOfDistancesFromLeader 1 = .ok (.istore_n 1, 1) := by decide +kernel
theorem dX2_sumOfDistancesFromLeader_2 : decode cX2_sumOfDistancesFromLeader 2 = .ok (.iconst 0, 1) := by decide +kernel
theorem dX2_sumOfDistancesFromLeader_3 : decode cX2_sumOfDistancesFromLeader 3 = .ok (.istore_n 2, 1) := by decide +kernel
theorem dX2_sumOfDistancesFromLeader_4 : decode cX2_sumOfDistancesFromLeader 4 = .ok (.iload_n 2, 1) := by decide +kernel
theorem dX2_sumOfDistancesFromLeader_5 : decode cX2_sumOfDistancesFromLeader 5 = .ok (.aload_n 0, 1) := by decide +kernel
theorem dX2_sumOfDistancesFromLeader_6 : decode cX2_sumOfDistancesFromLeader 6 = .ok (.getfield 24, 3) := by decide +kernel
theorem dX2_sumOfDistancesFromLeader_9 : decode cX2_sumOfDistancesFromLeader 9 = .ok (.if_icmp .ge 21, 3) := by decide +kernel
theorem dX2_sumOfDistancesFromLeader_12 : decode cX2_sumOfDistancesFromLeader 12 = .ok (.iload_n 1, 1) := by decide +kernel
theorem dX2_sumOfDistancesFromLeader_13 : decode cX2_sumOfDistancesFromLeader 13 = .ok (.aload_n 0, 1) := by decide +kernel
theorem dX2_sumOfDistancesFromLeader_14 : decode cX2_sumOfDistancesFromLeader 14 = .ok (.iload_n 2, 1) := by decide +kernel
theorem dX2_sumOfDistancesFromLeader_15 : decode cX2_sumOfDistancesFromLeader 15 = .ok (.aload_n 0, 1) := by decide +kernel
theorem dX2_sumOfDistancesFromLeader_16 : decode cX2_sumOfDistancesFromLeader 16 = .ok (.getfield 46, 3) := by decide +kernel
theorem dX2_sumOfDistancesFromLeader_19 : decode cX2_sumOfDistancesFromLeader 19 = .ok (.invokevirtual 183, 3) := by decide +kernel
theorem dX2_sumOfDistancesFromLeader_22 : decode cX2_sumOfDistancesFromLeader 22 = .ok (.iadd, 1) := by decide +kernel
theorem dX2_sumOfDistancesFromLeader_23 : decode cX2_sumOfDistancesFromLeader 23 = .ok (.istore_n 1, 1) := by decide +kernel
theorem dX2_sumOfDistancesFromLeader_24 : decode cX2_sumOfDistancesFromLeader 24 = .ok (.iinc 2 1, 3) := by decide +kernel
theorem dX2_sumOfDistancesFromLeader_27 : decode cX2_sumOfDistancesFromLeader 27 = .ok (.goto (-23), 3) := by decide +kernel
theorem dX2_sumOfDistancesFromLeader_30 : decode cX2_sumOfDistancesFromLeader 30 = .ok (.iload_n 1, 1) := by decide +kernel
theorem dX2_sumOfDistancesFromLeader_31 : decode cX2_sumOfDistancesFromLeader 31 = .ok (.ireturn, 1) := by decide +kernel
theorem dX2_hasTarget_0 : decode cX2_hasTarget 0 = .ok (.aload_n 0, 1) := by decide +kernel
theorem dX2_hasTarget_1 : decode cX2_hasTarget 1 = .ok (.getfield 55, 3) := by decide +kernel
theorem dX2_hasTarget_4 : decode cX2_hasTarget 4 = .ok (.iconst (-1), 1) := by decide +kernel
theorem dX2_hasTarget_5 : decode cX2_hasTarget 5 = .ok (.if_icmp .eq 7, 3) := by decide +kernel
theorem dX2_hasTarget_8 : decode cX2_hasTarget 8 = .ok (.iconst 1, 1) := by decide +kernel
theorem dX2_hasTarget_9 : decode cX2_hasTarget 9 = .ok (.goto 4, 3) := by decide +kernel
theorem dX2_hasTarget_12 : decode cX2_hasTarget 12 = .ok (.iconst 0, 1) := by decide +kernel
theorem dX2_hasTarget_13 : decode cX2_hasTarget 13 = .ok (.ireturn, 1) := by decide +kernel
theorem dX2_leaderIsOnTarget_0 : decode cX2_leaderIsOnTarget 0 = .ok (.aload_n 0, 1) := by decide +kernel
theorem dX2_leaderIsOnTarget_1 : decode cX2_leaderIsOnTarget 1 = .ok (.invokevirtual 165, 3) := by decide +kernel
theorem dX2_leaderIsOnTarget_4 : decode cX2_leaderIsOnTarget 4 = .ok (.ifCond .eq 26, 3) := by decide +kernel
theorem dX2_leaderIsOnTarget_7 : decode cX2_leaderIsOnTarget 7 = .ok (.aload_n 0, 1) := by decide +kernel
theorem dX2_leaderIsOnTarget_8 : decode cX2_leaderIsOnTarget 8 = .ok (.aload_n 0, 1) := by decide +kernel
theorem dX2_leaderIsOnTarget_9 : decode cX2_leaderIsOnTarget 9 = .ok (.getfield 46, 3) := by decide +kernel
theorem dX2_leaderIsOnTarget_12 : decode cX2_leaderIsOnTarget 12 = .ok (.aload_n 0, 1) := by decide +kernel
theorem dX2_leaderIsOnTarget_13 : decode cX2_leaderIsOnTarget 13 = .ok (.getfield 55, 3) := by decide +kernel
theorem dX2_leaderIsOnTarget_16 : decode cX2_leaderIsOnTarget 16 = .ok (.aload_n 0, 1) := by decide +kernel
theorem dX2_leaderIsOnTarget_17 : decode cX2_leaderIsOnTarget 17 = .ok (.getfield 58, 3) := by decide +kernel
theorem dX2_leaderIsOnTarget_20 : decode cX2_leaderIsOnTarget 20 = .ok (.invokevirtual 149, 3) := by decide +kernel
theorem dX2_leaderIsOnTarget_23 : decode cX2_leaderIsOnTarget 23 = .ok (.ifCond .ne 7, 3) := by decide +kernel
theorem dX2_leaderIsOnTarget_26 : decode cX2_leaderIsOnTarget 26 = .ok (.iconst 1, 1) := by decide +kernel
theorem dX2_leaderIsOnTarget_27 : decode cX2_leaderIsOnTarget 27 = .ok (.goto 4, 3) := by decide +kernel
theorem dX2_leaderIsOnTarget_30 : decode cX2_leaderIsOnTarget 30 = .ok (.iconst 0, 1) := by decide +kernel
theorem dX2_leaderIsOnTarget_31 : decode cX2_leaderIsOnTarget 31 = .ok (.ireturn, 1) := by decide +kernel
theorem dX2_leaderByFormula_0 : decode cX2_leaderByFormula 0 = .ok (.aload_n 0, 1) := by decide +kernel
theorem dX2_leaderByFormula_1 : decode cX2_leaderByFormula 1 = .ok (.getfield 24, 3) := by decide +kernel
theorem dX2_leaderByFormula_4 : decode cX2_leaderByFormula 4 = .ok (.iconst 1, 1) := by decide +kernel
theorem dX2_leaderByFormula_5 : decode cX2_leaderByFormula 5 = .ok (.if_icmp .lt 11, 3) := by decide +kernel
theorem dX2_leaderByFormula_8 : decode cX2_leaderByFormula 8 = .ok (.aload_n 0, 1) := by decide +kernel
theorem dX2_leaderByFormula_9 : decode cX2_leaderByFormula 9 = .ok (.getfield 52, 3) := by decide +kernel
theorem dX2_leaderByFormula_12 : decode cX2_leaderByFormula 12 = .ok (.iconst 1, 1) := by decide +kernel
theorem dX2_leaderByFormula_13 : decode cX2_leaderByFormula 13 = .ok (.if_icmp .ge 5, 3) := by decide +kernel
theorem dX2_leaderByFormula_16 : decode cX2_leaderByFormula 16 = .ok (.iconst (-1), 1) := by decide +kernel
theorem dX2_leaderByFormula_17 : decode cX2_leaderByFormula 17 = .ok (.ireturn, 1) := by decide +kernel
theorem dX2_leaderByFormula_18 : decode cX2_leaderByFormula 18 = .ok (.aload_n 0, 1) := by decide +kernel
theorem dX2_leaderByFormula_19 : decode cX2_leaderByFormula 19 = .ok (.getfield 46, 3) := by decide +kernel
theorem dX2_leaderByFormula_22 : decode cX2_leaderByFormula 22 = .ok (.aload_n 0, 1) := by decide +kernel
theorem dX2_leaderByFormula_23 : decode cX2_leaderByFormula 23 = .ok (.getfield 49, 3) := by decide +kernel
theorem dX2_leaderByFormula_26 : decode cX2_leaderByFormula 26 = .ok (.iload_n 1, 1) := by decide +kernel
theorem dX2_leaderByFormula_27 : decode cX2_leaderByFormula 27 = .ok (.iadd, 1) := by decide +kernel
theorem dX2_leaderByFormula_28 : decode cX2_leaderByFormula 28 = .ok (.aload_n 0, 1) := by decide +kernel
theorem dX2_leaderByFormula_29 : decode cX2_leaderByFormula 29 = .ok (.getfield 52, 3) := by decide +kernel
theorem dX2_leaderByFormula_32 : decode cX2_leaderByFormula 32 = .ok (.idiv, 1) := by decide +kernel
theorem dX2_leaderByFormula_33 : decode cX2_leaderByFormula 33 = .ok (.iadd, 1) := by decide +kernel
theorem dX2_leaderByFormula_34 : decode cX2_leaderByFormula 34 = .ok (.aload_n 0, 1) := by decide +kernel
theorem dX2_leaderByFormula_35 : decode cX2_leaderByFormula 35 = .ok (.getfield 24, 3) := by decide +kernel
theorem dX2_leaderByFormula_38 : decode cX2_leaderByFormula 38 = .ok (.irem, 1) := by decide +kernel
theorem dX2_leaderByFormula_39 : decode cX2_leaderByFormula 39 = .ok (.ireturn, 1) := by decide +kernel
theorem dX2_leaderByCounting_0 : decode cX2_leaderByCounting 0 = .ok (.aload_n 0, 1) := by decide +kernel
theorem dX2_leaderByCounting_1 : decode cX2_leaderByCounting 1 = .ok (.getfield 24, 3) := by decide +kernel
theorem dX2_leaderByCounting_4 : decode cX2_leaderByCounting 4 = .ok (.iconst 1, 1) := by decide +kernel
theorem dX2_leaderByCounting_5 : decode cX2_leaderByCounting 5 = .ok (.if_icmp .ge 5, 3) := by decide +kernel
theorem dX2_leaderByCounting_8 : decode cX2_leaderByCounting 8 = .ok (.iconst (-1), 1) := by decide +kernel
theorem dX2_leaderByCounting_9 : decode cX2_leaderByCounting 9 = .ok (.ireturn, 1) := by decide +kernel
theorem dX2_leaderByCounting_10 : decode cX2_leaderByCounting 10 = .ok (.aload_n 0, 1) := by decide +kernel
theorem dX2_leaderByCounting_11 : decode cX2_leaderByCounting 11 = .ok (.getfield 46, 3) := by decide +kernel
theorem dX2_leaderByCounting_14 : decode cX2_leaderByCounting 14 = .ok (.istore_n 2, 1) := by decide +kernel
theorem dX2_leaderByCounting_15 : decode cX2_leaderByCounting 15 = .ok (.aload_n 0, 1) := by decide +kernel
theorem dX2_leaderByCounting_16 : decode cX2_leaderByCounting 16 = .ok (.getfield 49, 3) := by decide +kernel
theorem dX2_leaderByCounting_19 : decode cX2_leaderByCounting 19 = .ok (.istore_n 3, 1) := by decide +kernel
theorem dX2_leaderByCounting_20 : decode cX2_leaderByCounting 20 = .ok (.iconst 0, 1) := by decide +kernel
theorem dX2_leaderByCounting_21 : decode cX2_leaderByCounting 21 = .ok (.istore 4, 2) := by decide +kernel
theorem dX2_leaderByCounting_23 : decode cX2_leaderByCounting 23 = .ok (.iload 4, 2) := by decide +kernel
theorem dX2_leaderByCounting_25 : decode cX2_leaderByCounting 25 = .ok (.iload_n 1, 1) := by decide +kernel
theorem dX2_leaderByCounting_26 : decode cX2_leaderByCounting 26 = .ok (.if_icmp .ge 40, 3) := by decide +kernel
theorem dX2_leaderByCounting_29 : decode cX2_leaderByCounting 29 = .ok (.iinc 3 1, 3) := by decide +kernel
theorem dX2_leaderByCounting_32 : decode cX2_leaderByCounting 32 = .ok (.iload_n 3, 1) := by decide +kernel
theorem dX2_leaderByCounting_33 : decode cX2_leaderByCounting 33 = .ok (.aload_n 0, 1) := by decide +kernel
theorem dX2_leaderByCounting_34 : decode cX2_leaderByCounting 34 = .ok (.getfield 52, 3) := by decide +kernel
theorem dX2_leaderByCounting_37 : decode cX2_leaderByCounting 37 = .ok (.if_icmp .lt 23, 3) := by decide +kernel
theorem dX2_leaderByCounting_40 : decode cX2_leaderByCounting 40 = .ok (.iconst 0, 1) := by decide +kernel
theorem dX2_leaderByCounting_41 : decode cX2_leaderByCounting 41 = .ok (.istore_n 3, 1) := by decide +kernel
theorem dX2_leaderByCounting_42 : decode cX2_leaderByCounting 42 = .ok (.iload_n 2, 1) := by decide +kernel
theorem dX2_leaderByCounting_43 : decode cX2_leaderByCounting 43 = .ok (.iconst 1, 1) := by decide +kernel
theorem dX2_leaderByCounting_44 : decode cX2_leaderByCounting 44 = .ok (.iadd, 1) := by decide +kernel
theorem dX2_leaderByCounting_45 : decode cX2_leaderByCounting 45 = .ok (.aload_n 0, 1) := by decide +kernel
theorem dX2_leaderByCounting_46 : decode cX2_leaderByCounting 46 = .ok (.getfield 24, 3) := by decide +kernel
theorem dX2_leaderByCounting_49 : decode cX2_leaderByCounting 49 = .ok (.if_icmp .ge 9, 3) := by decide +kernel
theorem dX2_leaderByCounting_52 : decode cX2_leaderByCounting 52 = .ok (.iload_n 2, 1) := by decide +kernel
theorem dX2_leaderByCounting_53 : decode cX2_leaderByCounting 53 = .ok (.iconst 1, 1) := by decide +kernel
theorem dX2_leaderByCounting_54 : decode cX2_leaderByCounting 54 = .ok (.iadd, 1) := by decide +kernel
theorem dX2_leaderByCounting_55 : decode cX2_leaderByCounting 55 = .ok (.goto 4, 3) := by decide +kernel
theorem dX2_leaderByCounting_58 : decode cX2_leaderByCounting 58 = .ok (.iconst 0, 1) := by decide +kernel
theorem dX2_leaderByCounting_59 : decode cX2_leaderByCounting 59 = .ok (.istore_n 2, 1) := by decide +kernel
theorem dX2_leaderByCounting_60 : decode cX2_leaderByCounting 60 = .ok (.iinc 4 1, 3) := by decide +kernel
theorem dX2_leaderByCounting_63 : decode cX2_leaderByCounting 63 = .ok (.goto (-40), 3) := by decide +kernel
theorem dX2_leaderByCounting_66 : decode cX2_leaderByCounting 66 = .ok (.iload_n 2, 1) := by decide +kernel
theorem dX2_leaderByCounting_67 : decode cX2_leaderByCounting 67 = .ok (.ireturn, 1) := by decide +kernel
theorem dX2_sumOfMoves_0 : decode cX2_sumOfMoves 0 = .ok (.lconst 0, 1) := by decide +kernel
theorem dX2_sumOfMoves_1 : decode cX2_sumOfMoves 1 = .ok (.lstore_n 1, 1) := by decide +kernel
theorem dX2_sumOfMoves_2 : decode cX2_sumOfMoves 2 = .ok (.iconst 0, 1) := by decide +kernel
theorem dX2_sumOfMoves_3 : decode cX2_sumOfMoves 3 = .ok (.istore_n 3, 1) := by decide +kernel
theorem dX2_sumOfMoves_4 : decode cX2_sumOfMoves 4 = .ok (.iload_n 3, 1) := by decide +kernel
theorem dX2_sumOfMoves_5 : decode cX2_sumOfMoves 5 = .ok (.aload_n 0, 1) := by decide +kernel
theorem dX2_sumOfMoves_6 : decode cX2_sumOfMoves 6 = .ok (.getfield 24, 3) := by decide +kernel
theorem dX2_sumOfMoves_9 : decode cX2_sumOfMoves 9 = .ok (.if_icmp .ge 19, 3) := by decide +kernel
theorem dX2_sumOfMoves_12 : decode cX2_sumOfMoves 12 = .ok (.lload_n 1, 1) := by decide +kernel
theorem dX2_sumOfMoves_13 : decode cX2_sumOfMoves 13 = .ok (.aload_n 0, 1) := by decide +kernel
theorem dX2_sumOfMoves_14 : decode cX2_sumOfMoves 14 = .ok (.getfield 21, 3) := by decide +kernel
theorem dX2_sumOfMoves_17 : decode cX2_sumOfMoves 17 = .ok (.iload_n 3, 1) := by decide +kernel
theorem dX2_sumOfMoves_18 : decode cX2_sumOfMoves 18 = .ok (.iaload, 1) := by decide +kernel
theorem dX2_sumOfMoves_19 : decode cX2_sumOfMoves 19 = .ok (.i2l, 1) := by decide +kernel
theorem dX2_sumOfMoves_20 : decode cX2_sumOfMoves 20 = .ok (.ladd, 1) := by decide +kernel
theorem dX2_sumOfMoves_21 : decode cX2_sumOfMoves 21 = .ok (.lstore_n 1, 1) := by decide +kernel
theorem dX2_sumOfMoves_22 : decode cX2_sumOfMoves 22 = .ok (.iinc 3 1, 3) := by decide +kernel
theorem dX2_sumOfMoves_25 : decode cX2_sumOfMoves 25 = .ok (.goto (-21), 3) := by decide +kernel
theorem dX2_sumOfMoves_28 : decode cX2_sumOfMoves 28 = .ok (.lload_n 1, 1) := by decide +kernel
theorem dX2_sumOfMoves_29 : decode cX2_sumOfMoves 29 = .ok (.lreturn, 1) := by decide +kernel
theorem dX2_linked_0 : decode cX2_linked 0 = .ok (.aload_n 0, 1) := by decide +kernel
theorem dX2_linked_1 : decode cX2_linked 1 = .ok (.iload_n 1, 1) := by decide +kernel
theorem dX2_linked_2 : decode cX2_linked 2 = .ok (.iload_n 2, 1) := by decide +kernel
theorem dX2_linked_3 : decode cX2_linked 3 = .ok (.invokevirtual 183, 3) := by decide +kernel
theorem dX2_linked_6 : decode cX2_linked 6 = .ok (.aload_n 0, 1) := by decide +kernel
theorem dX2_linked_7 : decode cX2_linked 7 = .ok (.getfield 61, 3) := by decide +kernel
theorem dX2_linked_10 : decode cX2_linked 10 = .ok (.if_icmp .gt 7, 3) := by decide +kernel
theorem dX2_linked_13 : decode cX2_linked 13 = .ok (.iconst 1, 1) := by decide +kernel
theorem dX2_linked_14 : decode cX2_linked 14 = .ok (.goto 4, 3) := by decide +kernel
theorem dX2_linked_17 : decode cX2_linked 17 = .ok (.iconst 0, 1) := by decide +kernel
theorem dX2_linked_18 : decode cX2_linked 18 = .ok (.ireturn, 1) := by decide +kernel
theorem dX2_linkedPairs_0 : decode cX2_linkedPairs 0 = .ok (.iconst 0, 1) := by decide +kernel
theorem dX2_linkedPairs_1 : decode cX2_linkedPairs 1 = .ok (.istore_n 1, 1) := by decide +kernel
theorem dX2_linkedPairs_2 : decode cX2_linkedPairs 2 = .ok (.iconst 0, 1) := by decide +kernel
theorem dX2_linkedPairs_3 : decode cX2_linkedPairs 3 = .ok (.istore_n 2, 1) := by decide +kernel
theorem dX2_linkedPairs_4 : decode cX2_linkedPairs 4 = .ok (.iload_n 2, 1) := by decide +kernel
theorem dX2_linkedPairs_5 : decode cX2_linkedPairs 5 = .ok (.aload_n 0, 1) := by decide +kernel
theorem dX2_linkedPairs_6 : decode cX2_linkedPairs 6 = .ok (.getfield 24, 3) := by decide +kernel
theorem dX2_linkedPairs_9 : decode cX2_linkedPairs 9 = .ok (.if_icmp .ge 44, 3) := by decide +kernel
theorem dX2_linkedPairs_12 : decode cX2_linkedPairs 12 = .ok (.iload_n 2, 1) := by decide +kernel
theorem dX2_linkedPairs_13 : decode cX2_linkedPairs 13 = .ok (.iconst 1, 1) := by decide +kernel
theorem dX2_linkedPairs_14 : decode cX2_linkedPairs 14 = .ok (.iadd, 1) := by decide +kernel
theorem dX2_linkedPairs_15 : decode cX2_linkedPairs 15 = .ok (.istore_n 3, 1) := by decide +kernel
theorem dX2_linkedPairs_16 : decode cX2_linkedPairs 16 = .ok (.iload_n 3, 1) := by decide +kernel
theorem dX2_linkedPairs_17 : decode cX2_linkedPairs 17 = .ok (.aload_n 0, 1) := by decide +kernel
theorem dX2_linkedPairs_18 : decode cX2_linkedPairs 18 = .ok (.getfield 24, 3) := by decide +kernel
theorem dX2_linkedPairs_21 : decode cX2_linkedPairs 21 = .ok (.if_icmp .ge 26, 3) := by decide +kernel
theorem dX2_linkedPairs_24 : decode cX2_linkedPairs 24 = .ok (.iload_n 1, 1) := by decide +kernel
theorem dX2_linkedPairs_25 : decode cX2_linkedPairs 25 = .ok (.aload_n 0, 1) := by decide +kernel
theorem dX2_linkedPairs_26 : decode cX2_linkedPairs 26 = .ok (.iload_n 2, 1) := by decide +kernel
theorem dX2_linkedPairs_27 : decode cX2_linkedPairs 27 = .ok (.iload_n 3, 1) := by decide +kernel
theorem dX2_linkedPairs_28 : decode cX2_linkedPairs 28 = .ok (.invokevirtual 199, 3) := by decide +kernel
theorem dX2_linkedPairs_31 : decode cX2_linkedPairs 31 = .ok (.ifCond .eq 7, 3) := by decide +kernel
theorem dX2_linkedPairs_34 : decode cX2_linkedPairs 34 = .ok (.iconst 1, 1) := by decide +kernel
theorem dX2_linkedPairs_35 : decode cX2_linkedPairs 35 = .ok (.goto 4, 3) := by decide +kernel
theorem dX2_linkedPairs_38 : decode cX2_linkedPairs 38 = .ok (.iconst 0, 1) := by decide +kernel
theorem dX2_linkedPairs_39 : decode cX2_linkedPairs 39 = .ok (.iadd, 1) := by decide +kernel
theorem dX2_linkedPairs_40 : decode cX2_linkedPairs 40 = .ok (.istore_n 1, 1) := by decide +kernel
theorem dX2_linkedPairs_41 : decode cX2_linkedPairs 41 = .ok (.iinc 3 1, 3) := by decide +kernel
theorem dX2_linkedPairs_44 : decode cX2_linkedPairs 44 = .ok (.goto (-28), 3) := by decide +kernel
theorem dX2_linkedPairs_47 : decode cX2_linkedPairs 47 = .ok (.iinc 2 1, 3) := by decide +kernel
theorem dX2_linkedPairs_50 : decode cX2_linkedPairs 50 = .ok (.goto (-46), 3) := by decide +kernel
theorem dX2_linkedPairs_53 : decode cX2_linkedPairs 53 = .ok (.iload_n 1, 1) := by decide +kernel
theorem dX2_linkedPairs_54 : decode cX2_linkedPairs 54 = .ok (.ireturn, 1) := by decide +kernel
theorem dX2_mixedByComparing_0 : decode cX2_mixedByComparing 0 = .ok (.iconst 0, 1) := by decide +kernel
theorem dX2_mixedByComparing_1 : decode cX2_mixedByComparing 1 = .ok (.istore_n 1, 1) := by decide +kernel
theorem dX2_mixedByComparing_2 : decode cX2_mixedByComparing 2 = .ok (.iconst 0, 1) := by decide +kernel
theorem dX2_mixedByComparing_3 : decode cX2_mixedByComparing 3 = .ok (.istore_n 2, 1) := by decide +kernel
theorem dX2_mixedByComparing_4 : decode cX2_mixedByComparing 4 = .ok (.iload_n 2, 1) := by decide +kernel
theorem dX2_mixedByComparing_5 : decode cX2_mixedByComparing 5 = .ok (.aload_n 0, 1) := by decide +kernel
theorem dX2_mixedByComparing_6 : decode cX2_mixedByComparing 6 = .ok (.getfield 24, 3) := by decide +kernel
theorem dX2_mixedByComparing_9 : decode cX2_mixedByComparing 9 = .ok (.if_icmp .ge 59, 3) := by decide +kernel
theorem dX2_mixedByComparing_12 : decode cX2_mixedByComparing 12 = .ok (.iload_n 2, 1) := by decide +kernel
theorem dX2_mixedByComparing_13 : decode cX2_mixedByComparing 13 = .ok (.iconst 1, 1) := by decide +kernel
theorem dX2_mixedByComparing_14 : decode cX2_mixedByComparing 14 = .ok (.iadd, 1) := by decide +kernel
theorem dX2_mixedByComparing_15 : decode cX2_mixedByComparing 15 = .ok (.istore_n 3, 1) := by decide +kernel
theorem dX2_mixedByComparing_16 : decode cX2_mixedByComparing 16 = .ok (.iload_n 3, 1) := by decide +kernel
theorem dX2_mixedByComparing_17 : decode cX2_mixedByComparing 17 = .ok (.aload_n 0, 1) := by decide +kernel
theorem dX2_mixedByComparing_18 : decode cX2_mixedByComparing 18 = .ok (.getfield 24, 3) := by decide +kernel
theorem dX2_mixedByComparing_21 : decode cX2_mixedByComparing 21 = .ok (.if_icmp .ge 41, 3) := by decide +kernel
theorem dX2_mixedByComparing_24 : decode cX2_mixedByComparing 24 = .ok (.iload_n 1, 1) := by decide +kernel
theorem dX2_mixedByComparing_25 : decode cX2_mixedByComparing 25 = .ok (.aload_n 0, 1) := by decide +kernel
theorem dX2_mixedByComparing_26 : decode cX2_mixedByComparing 26 = .ok (.getfield 18, 3) := by decide +kernel
theorem dX2_mixedByComparing_29 : decode cX2_mixedByComparing 29 = .ok (.iload_n 2, 1) := by decide +kernel
theorem dX2_mixedByComparing_30 : decode cX2_mixedByComparing 30 = .ok (.iaload, 1) := by decide +kernel
theorem dX2_mixedByComparing_31 : decode cX2_mixedByComparing 31 = .ok (.aload_n 0, 1) := by decide +kernel
theorem dX2_mixedByComparing_32 : decode cX2_mixedByComparing 32 = .ok (.getfield 18, 3) := by decide +kernel
theorem dX2_mixedByComparing_35 : decode cX2_mixedByComparing 35 = .ok (.iload_n 3, 1) := by decide +kernel
theorem dX2_mixedByComparing_36 : decode cX2_mixedByComparing 36 = .ok (.iaload, 1) := by decide +kernel
theorem dX2_mixedByComparing_37 : decode cX2_mixedByComparing 37 = .ok (.if_icmp .eq 16, 3) := by decide +kernel
theorem dX2_mixedByComparing_40 : decode cX2_mixedByComparing 40 = .ok (.aload_n 0, 1) := by decide +kernel
theorem dX2_mixedByComparing_41 : decode cX2_mixedByComparing 41 = .ok (.iload_n 2, 1) := by decide +kernel
theorem dX2_mixedByComparing_42 : decode cX2_mixedByComparing 42 = .ok (.iload_n 3, 1) := by decide +kernel
theorem dX2_mixedByComparing_43 : decode cX2_mixedByComparing 43 = .ok (.invokevirtual 199, 3) := by decide +kernel
theorem dX2_mixedByComparing_46 : decode cX2_mixedByComparing 46 = .ok (.ifCond .eq 7, 3) := by decide +kernel
theorem dX2_mixedByComparing_49 : decode cX2_mixedByComparing 49 = .ok (.iconst 1, 1) := by decide +kernel
theorem dX2_mixedByComparing_50 : decode cX2_mixedByComparing 50 = .ok (.goto 4, 3) := by decide +kernel
theorem dX2_mixedByComparing_53 : decode cX2_mixedByComparing 53 = .ok (.iconst 0, 1) := by decide +kernel
theorem dX2_mixedByComparing_54 : decode cX2_mixedByComparing 54 = .ok (.iadd, 1) := by decide +kernel
theorem dX2_mixedByComparing_55 : decode cX2_mixedByComparing 55 = .ok (.istore_n 1, 1) := by decide +kernel
theorem dX2_mixedByComparing_56 : decode cX2_mixedByComparing 56 = .ok (.iinc 3 1, 3) := by decide +kernel
theorem dX2_mixedByComparing_59 : decode cX2_mixedByComparing 59 = .ok (.goto (-43), 3) := by decide +kernel
theorem dX2_mixedByComparing_62 : decode cX2_mixedByComparing 62 = .ok (.iinc 2 1, 3) := by decide +kernel
theorem dX2_mixedByComparing_65 : decode cX2_mixedByComparing 65 = .ok (.goto (-61), 3) := by decide +kernel
theorem dX2_mixedByComparing_68 : decode cX2_mixedByComparing 68 = .ok (.iload_n 1, 1) := by decide +kernel
theorem dX2_mixedByComparing_69 : decode cX2_mixedByComparing 69 = .ok (.ireturn, 1) := by decide +kernel
theorem dX2_mixedByHandles_0 : decode cX2_mixedByHandles 0 = .ok (.aload_n 0, 1) := by decide +kernel
theorem dX2_mixedByHandles_1 : decode cX2_mixedByHandles 1 = .ok (.invokevirtual 202, 3) := by decide +kernel
theorem dX2_mixedByHandles_4 : decode cX2_mixedByHandles 4 = .ok (.istore_n 1, 1) := by decide +kernel
theorem dX2_mixedByHandles_5 : decode cX2_mixedByHandles 5 = .ok (.iconst 0, 1) := by decide +kernel
theorem dX2_mixedByHandles_6 : decode cX2_mixedByHandles 6 = .ok (.istore_n 2, 1) := by decide +kernel
theorem dX2_mixedByHandles_7 : decode cX2_mixedByHandles 7 = .ok (.iload_n 2, 1) := by decide +kernel
theorem dX2_mixedByHandles_8 : decode cX2_mixedByHandles 8 = .ok (.iconst 3, 1) := by decide +kernel
theorem dX2_mixedByHandles_9 : decode cX2_mixedByHandles 9 = .ok (.if_icmp .ge 17, 3) := by decide +kernel
theorem dX2_mixedByHandles_12 : decode cX2_mixedByHandles 12 = .ok (.iload_n 1, 1) := by decide +kernel
theorem dX2_mixedByHandles_13 : decode cX2_mixedByHandles 13 = .ok (.aload_n 0, 1) := by decide +kernel
theorem dX2_mixedByHandles_14 : decode cX2_mixedByHandles 14 = .ok (.iload_n 2, 1) := by decide +kernel
theorem dX2_mixedByHandles_15 : decode cX2_mixedByHandles 15 = .ok (.invokevirtual 205, 3) := by decide +kernel
theorem dX2_mixedByHandles_18 : decode cX2_mixedByHandles 18 = .ok (.isub, 1) := by decide +kernel
theorem dX2_mixedByHandles_19 : decode cX2_mixedByHandles 19 = .ok (.istore_n 1, 1) := by decide +kernel
theorem dX2_mixedByHandles_20 : decode cX2_mixedByHandles 20 = .ok (.iinc 2 1, 3) := by decide +kernel
theorem dX2_mixedByHandles_23 : decode cX2_mixedByHandles 23 = .ok (.goto (-16), 3) := by decide +kernel
theorem dX2_mixedByHandles_26 : decode cX2_mixedByHandles 26 = .ok (.iload_n 1, 1) := by decide +kernel
theorem dX2_mixedByHandles_27 : decode cX2_mixedByHandles 27 = .ok (.ireturn, 1) := by decide +kernel
theorem dX2_linkedPairsOfHandle_0 : decode cX2_linkedPairsOfHandle 0 = .ok (.iconst 0, 1) := by decide +kernel
theorem dX2_linkedPairsOfHandle_1 : decode cX2_linkedPairsOfHandle 1 = .ok (.istore_n 2, 1) := by decide +kernel
theorem dX2_linkedPairsOfHandle_2 : decode cX2_linkedPairsOfHandle 2 = .ok (.iconst 0, 1) := by decide +kernel
theorem dX2_linkedPairsOfHandle_3 : decode cX2_linkedPairsOfHandle 3 = .ok (.istore_n 3, 1) := by decide +kernel
theorem dX2_linkedPairsOfHandle_4 : decode cX2_linkedPairsOfHandle 4 = .ok (.iload_n 3, 1) := by decide +kernel
theorem dX2_linkedPairsOfHandle_5 : decode cX2_linkedPairsOfHandle 5 = .ok (.aload_n 0, 1) := by decide +kernel
theorem dX2_linkedPairsOfHandle_6 : decode cX2_linkedPairsOfHandle 6 = .ok (.getfield 24, 3) := by decide +kernel
theorem dX2_linkedPairsOfHandle_9 : decode cX2_linkedPairsOfHandle 9 = .ok (.if_icmp .ge 68, 3) := by decide +kernel
theorem dX2_linkedPairsOfHandle_12 : decode cX2_linkedPairsOfHandle 12 = .ok (.iload_n 3, 1) := by decide +kernel
theorem dX2_linkedPairsOfHandle_13 : decode cX2_linkedPairsOfHandle 13 = .ok (.iconst 1, 1) := by decide +kernel
theorem dX2_linkedPairsOfHandle_14 : decode cX2_linkedPairsOfHandle 14 = .ok (.iadd, 1) := by decide +kernel
theorem dX2_linkedPairsOfHandle_15 : decode cX2_linkedPairsOfHandle 15 = .ok (.istore 4, 2) := by decide +kernel
theorem dX2_linkedPairsOfHandle_17 : decode cX2_linkedPairsOfHandle 17 = .ok (.iload 4, 2) := by decide +kernel
theorem dX2_linkedPairsOfHandle_19 : decode cX2_linkedPairsOfHandle 19 = .ok (.aload_n 0, 1) := by decide +kernel
theorem dX2_linkedPairsOfHandle_20 : decode cX2_linkedPairsOfHandle 20 = .ok (.getfield 24, 3) := by decide +kernel
theorem dX2_linkedPairsOfHandle_23 : decode cX2_linkedPairsOfHandle 23 = .ok (.if_icmp .ge 48, 3) := by decide +kernel
theorem dX2_linkedPairsOfHandle_26 : decode cX2_linkedPairsOfHandle 26 = .ok (.aload_n 0, 1) := by decide +kernel
theorem dX2_linkedPairsOfHandle_27 : decode cX2_linkedPairsOfHandle 27 = .ok (.getfield 18, 3) := by decide +kernel
theorem dX2_linkedPairsOfHandle_30 : decode cX2_linkedPairsOfHandle 30 = .ok (.iload_n 3, 1) := by decide +kernel
theorem dX2_linkedPairsOfHandle_31 : decode cX2_linkedPairsOfHandle 31 = .ok (.iaload, 1) := by decide +kernel
theorem dX2_linkedPairsOfHandle_32 : decode cX2_linkedPairsOfHandle 32 = .ok (.iload_n 1, 1) := by decide +kernel
theorem dX2_linkedPairsOfHandle_33 : decode cX2_linkedPairsOfHandle 33 = .ok (.if_icmp .ne 38, 3) := by decide +kernel
theorem dX2_linkedPairsOfHandle_36 : decode cX2_linkedPairsOfHandle 36 = .ok (.iload_n 2, 1) := by decide +kernel
theorem dX2_linkedPairsOfHandle_37 : decode cX2_linkedPairsOfHandle 37 = .ok (.aload_n 0, 1) := by decide +kernel
theorem dX2_linkedPairsOfHandle_38 : decode cX2_linkedPairsOfHandle 38 = .ok (.getfield 18, 3) := by decide +kernel
theorem dX2_linkedPairsOfHandle_41 : decode cX2_linkedPairsOfHandle 41 = .ok (.iload 4, 2) := by decide +kernel
theorem dX2_linkedPairsOfHandle_43 : decode cX2_linkedPairsOfHandle 43 = .ok (.iaload, 1) := by decide +kernel
theorem dX2_linkedPairsOfHandle_44 : decode cX2_linkedPairsOfHandle 44 = .ok (.iload_n 1, 1) := by decide +kernel
theorem dX2_linkedPairsOfHandle_45 : decode cX2_linkedPairsOfHandle 45 = .ok (.if_icmp .ne 17, 3) := by decide +kernel
theorem dX2_linkedPairsOfHandle_48 : decode cX2_linkedPairsOfHandle 48 = .ok (.aload_n 0, 1) := by decide +kernel
theorem dX2_linkedPairsOfHandle_49 : decode cX2_linkedPairsOfHandle 49 = .ok (.iload_n 3, 1) := by decide +kernel
theorem dX2_linkedPairsOfHandle_50 : decode cX2_linkedPairsOfHandle 50 = .ok (.iload 4, 2) := by decide +kernel
theorem dX2_linkedPairsOfHandle_52 : decode cX2_linkedPairsOfHandle 52 = .ok (.invokevirtual 199, 3) := by decide +kernel
theorem dX2_linkedPairsOfHandle_55 : decode cX2_linkedPairsOfHandle 55 = .ok (.ifCond .eq 7, 3) := by decide +kernel
theorem dX2_linkedPairsOfHandle_58 : decode cX2_linkedPairsOfHandle 58 = .ok (.iconst 1, 1) := by decide +kernel
theorem dX2_linkedPairsOfHandle_59 : decode cX2_linkedPairsOfHandle 59 = .ok (.goto 4, 3) := by decide +kernel
theorem dX2_linkedPairsOfHandle_62 : decode cX2_linkedPairsOfHandle 62 = .ok (.iconst 0, 1) := by decide +kernel
theorem dX2_linkedPairsOfHandle_63 : decode cX2_linkedPairsOfHandle 63 = .ok (.iadd, 1) := by decide +kernel
theorem dX2_linkedPairsOfHandle_64 : decode cX2_linkedPairsOfHandle 64 = .ok (.istore_n 2, 1) := by decide +kernel
theorem dX2_linkedPairsOfHandle_65 : decode cX2_linkedPairsOfHandle 65 = .ok (.iinc 4 1, 3) := by decide +kernel
theorem dX2_linkedPairsOfHandle_68 : decode cX2_linkedPairsOfHandle 68 = .ok (.goto (-51), 3) := by decide +kernel
theorem dX2_linkedPairsOfHandle_71 : decode cX2_linkedPairsOfHandle 71 = .ok (.iinc 3 1, 3) := by decide +kernel
theorem dX2_linkedPairsOfHandle_74 : decode cX2_linkedPairsOfHandle 74 = .ok (.goto (-70), 3) := by decide +kernel
theorem dX2_linkedPairsOfHandle_77 : decode cX2_linkedPairsOfHandle 77 = .ok (.iload_n 2, 1) := by decide +kernel
theorem dX2_linkedPairsOfHandle_78 : decode cX2_linkedPairsOfHandle 78 = .ok (.ireturn, 1) := by decide +kernel
theorem dX2_stepsSincePresentShape_0 : decode cX2_stepsSincePresentShape 0 = .ok (.aload_n 0, 1) := by decide +kernel
theorem dX2_stepsSincePresentShape_1 : decode cX2_stepsSincePresentShape 1 = .ok (.invokevirtual 186, 3) := by decide +kernel
theorem dX2_stepsSincePresentShape_4 : decode cX2_stepsSincePresentShape 4 = .ok (.aload_n 0, 1) := by decide +kernel
theorem dX2_stepsSincePresentShape_5 : decode cX2_stepsSincePresentShape 5 = .ok (.getfield 38, 3) := by decide +kernel
theorem dX2_stepsSincePresentShape_8 : decode cX2_stepsSincePresentShape 8 = .ok (.aload_n 0, 1) := by decide +kernel
theorem dX2_stepsSincePresentShape_9 : decode cX2_stepsSincePresentShape 9 = .ok (.getfield 42, 3) := by decide +kernel
theorem dX2_stepsSincePresentShape_12 : decode cX2_stepsSincePresentShape 12 = .ok (.invokevirtual 208, 3) := by decide +kernel
theorem dX2_stepsSincePresentShape_15 : decode cX2_stepsSincePresentShape 15 = .ok (.ireturn, 1) := by decide +kernel
theorem dX2_drawPresentShape_0 : decode cX2_drawPresentShape 0 = .ok (.bipush 12, 2) := by decide +kernel
theorem dX2_drawPresentShape_2 : decode cX2_drawPresentShape 2 = .ok (.istore_n 1, 1) := by decide +kernel
theorem dX2_drawPresentShape_3 : decode cX2_drawPresentShape 3 = .ok (.bipush 12, 2) := by decide +kernel
theorem dX2_drawPresentShape_5 : decode cX2_drawPresentShape 5 = .ok (.istore_n 2, 1) := by decide +kernel
theorem dX2_drawPresentShape_6 : decode cX2_drawPresentShape 6 = .ok (.iconst 0, 1) := by decide +kernel
theorem dX2_drawPresentShape_7 : decode cX2_drawPresentShape 7 = .ok (.istore_n 3, 1) := by decide +kernel
theorem dX2_drawPresentShape_8 : decode cX2_drawPresentShape 8 = .ok (.iload_n 3, 1) := by decide +kernel
theorem dX2_drawPresentShape_9 : decode cX2_drawPresentShape 9 = .ok (.aload_n 0, 1) := by decide +kernel
theorem dX2_drawPresentShape_10 : decode cX2_drawPresentShape 10 = .ok (.getfield 24, 3) := by decide +kernel
theorem dX2_drawPresentShape_13 : decode cX2_drawPresentShape 13 = .ok (.if_icmp .ge 31, 3) := by decide +kernel
theorem dX2_drawPresentShape_16 : decode cX2_drawPresentShape 16 = .ok (.iload_n 1, 1) := by decide +kernel
theorem dX2_drawPresentShape_17 : decode cX2_drawPresentShape 17 = .ok (.aload_n 0, 1) := by decide +kernel
theorem dX2_drawPresentShape_18 : decode cX2_drawPresentShape 18 = .ok (.getfield 9, 3) := by decide +kernel
theorem dX2_drawPresentShape_21 : decode cX2_drawPresentShape 21 = .ok (.iload_n 3, 1) := by decide +kernel
theorem dX2_drawPresentShape_22 : decode cX2_drawPresentShape 22 = .ok (.iaload, 1) := by decide +kernel
theorem dX2_drawPresentShape_23 : decode cX2_drawPresentShape 23 = .ok (.invokestatic 212, 3) := by decide +kernel
theorem dX2_drawPresentShape_26 : decode cX2_drawPresentShape 26 = .ok (.istore_n 1, 1) := by decide +kernel
theorem dX2_drawPresentShape_27 : decode cX2_drawPresentShape 27 = .ok (.iload_n 2, 1) := by decide +kernel
theorem dX2_drawPresentShape_28 : decode cX2_drawPresentShape 28 = .ok (.aload_n 0, 1) := by decide +kernel
theorem dX2_drawPresentShape_29 : decode cX2_drawPresentShape 29 = .ok (.getfield 15, 3) := by decide +kernel
theorem dX2_drawPresentShape_32 : decode cX2_drawPresentShape 32 = .ok (.iload_n 3, 1) := by decide +kernel
theorem dX2_drawPresentShape_33 : decode cX2_drawPresentShape 33 = .ok (.iaload, 1) := by decide +kernel
theorem dX2_drawPresentShape_34 : decode cX2_drawPresentShape 34 = .ok (.invokestatic 212, 3) := by decide +kernel
theorem dX2_drawPresentShape_37 : decode cX2_drawPresentShape 37 = .ok (.istore_n 2, 1) := by decide +kernel
theorem dX2_drawPresentShape_38 : decode cX2_drawPresentShape 38 = .ok (.iinc 3 1, 3) := by decide +kernel
theorem dX2_drawPresentShape_41 : decode cX2_drawPresentShape 41 = .ok (.goto (-33), 3) := by decide +kernel
theorem dX2_drawPresentShape_44 : decode cX2_drawPresentShape 44 = .ok (.iconst 0, 1) := by decide +kernel
theorem dX2_drawPresentShape_45 : decode cX2_drawPresentShape 45 = .ok (.istore_n 3, 1) := by decide +kernel
theorem dX2_drawPresentShape_46 : decode cX2_drawPresentShape 46 = .ok (.iload_n 3, 1) := by decide +kernel
theorem dX2_drawPresentShape_47 : decode cX2_drawPresentShape 47 = .ok (.iconst 3, 1) := by decide +kernel
theorem dX2_drawPresentShape_48 : decode cX2_drawPresentShape 48 = .ok (.if_icmp .ge 16, 3) := by decide +kernel
theorem dX2_drawPresentShape_51 : decode cX2_drawPresentShape 51 = .ok (.aload_n 0, 1) := by decide +kernel
theorem dX2_drawPresentShape_52 : decode cX2_drawPresentShape 52 = .ok (.getfield 42, 3) := by decide +kernel
theorem dX2_drawPresentShape_55 : decode cX2_drawPresentShape 55 = .ok (.iload_n 3, 1) := by decide +kernel
theorem dX2_drawPresentShape_56 : decode cX2_drawPresentShape 56 = .ok (.lconst 0, 1) := by decide +kernel
theorem dX2_drawPresentShape_57 : decode cX2_drawPresentShape 57 = .ok (.lastore, 1) := by decide +kernel
theorem dX2_drawPresentShape_58 : decode cX2_drawPresentShape 58 = .ok (.iinc 3 1, 3) := by decide +kernel
theorem dX2_drawPresentShape_61 : decode cX2_drawPresentShape 61 = .ok (.goto (-15), 3) := by decide +kernel
theorem dX2_drawPresentShape_64 : decode cX2_drawPresentShape 64 = .ok (.iconst 0, 1) := by decide +kernel
theorem dX2_drawPresentShape_65 : decode cX2_drawPresentShape 65 = .ok (.istore_n 3, 1) := by decide +kernel
theorem dX2_drawPresentShape_66 : decode cX2_drawPresentShape 66 = .ok (.iload_n 3, 1) := by decide +kernel
theorem dX2_drawPresentShape_67 : decode cX2_drawPresentShape 67 = .ok (.aload_n 0, 1) := by decide +kernel
theorem dX2_drawPresentShape_68 : decode cX2_drawPresentShape 68 = .ok (.getfield 24, 3) := by decide +kernel
theorem dX2_drawPresentShape_71 : decode cX2_drawPresentShape 71 = .ok (.if_icmp .ge 68, 3) := by decide +kernel
theorem dX2_drawPresentShape_74 : decode cX2_drawPresentShape 74 = .ok (.aload_n 0, 1) := by decide +kernel
theorem dX2_drawPresentShape_75 : decode cX2_drawPresentShape 75 = .ok (.getfield 15, 3) := by decide +kernel
theorem dX2_drawPresentShape_78 : decode cX2_drawPresentShape 78 = .ok (.iload_n 3, 1) := by decide +kernel
theorem dX2_drawPresentShape_79 : decode cX2_drawPresentShape 79 = .ok (.iaload, 1) := by decide +kernel
theorem dX2_drawPresentShape_80 : decode cX2_drawPresentShape 80 = .ok (.iload_n 2, 1) := by decide +kernel
theorem dX2_drawPresentShape_81 : decode cX2_drawPresentShape 81 = .ok (.isub, 1) := by decide +kernel
theorem dX2_drawPresentShape_82 : decode cX2_drawPresentShape 82 = .ok (.istore 4, 2) := by decide +kernel
theorem dX2_drawPresentShape_84 : decode cX2_drawPresentShape 84 = .ok (.iload 4, 2) := by decide +kernel
theorem dX2_drawPresentShape_86 : decode cX2_drawPresentShape 86 = .ok (.iconst 4, 1) := by decide +kernel
theorem dX2_drawPresentShape_87 : decode cX2_drawPresentShape 87 = .ok (.idiv, 1) := by decide +kernel
theorem dX2_drawPresentShape_88 : decode cX2_drawPresentShape 88 = .ok (.istore 5, 2) := by decide +kernel
theorem dX2_drawPresentShape_90 : decode cX2_drawPresentShape 90 = .ok (.iload 4, 2) := by decide +kernel
theorem dX2_drawPresentShape_92 : decode cX2_drawPresentShape 92 = .ok (.iconst 4, 1) := by decide +kernel
theorem dX2_drawPresentShape_93 : decode cX2_drawPresentShape 93 = .ok (.irem, 1) := by decide +kernel
theorem dX2_drawPresentShape_94 : decode cX2_drawPresentShape 94 = .ok (.bipush 12, 2) := by decide +kernel
theorem dX2_drawPresentShape_96 : decode cX2_drawPresentShape 96 = .ok (.imul, 1) := by decide +kernel
theorem dX2_drawPresentShape_97 : decode cX2_drawPresentShape 97 = .ok (.aload_n 0, 1) := by decide +kernel
theorem dX2_drawPresentShape_98 : decode cX2_drawPresentShape 98 = .ok (.getfield 9, 3) := by decide +kernel
theorem dX2_drawPresentShape_101 : decode cX2_drawPresentShape 101 = .ok (.iload_n 3, 1) := by decide +kernel
theorem dX2_drawPresentShape_102 : decode cX2_drawPresentShape 102 = .ok (.iaload, 1) := by decide +kernel
theorem dX2_drawPresentShape_103 : decode cX2_drawPresentShape 103 = .ok (.iadd, 1) := by decide +kernel
theorem dX2_drawPresentShape_104 : decode cX2_drawPresentShape 104 = .ok (.iload_n 1, 1) := by decide +kernel
theorem dX2_drawPresentShape_105 : decode cX2_drawPresentShape 105 = .ok (.isub, 1) := by decide +kernel
theorem dX2_drawPresentShape_106 : decode cX2_drawPresentShape 106 = .ok (.istore 6, 2) := by decide +kernel
theorem dX2_drawPresentShape_108 : decode cX2_drawPresentShape 108 = .ok (.iload 5, 2) := by decide +kernel
theorem dX2_drawPresentShape_110 : decode cX2_drawPresentShape 110 = .ok (.ifCond .lt 23, 3) := by decide +kernel
theorem dX2_drawPresentShape_113 : decode cX2_drawPresentShape 113 = .ok (.iload 5, 2) := by decide +kernel
theorem dX2_drawPresentShape_115 : decode cX2_drawPresentShape 115 = .ok (.iconst 3, 1) := by decide +kernel
theorem dX2_drawPresentShape_116 : decode cX2_drawPresentShape 116 = .ok (.if_icmp .ge 17, 3) := by decide +kernel
theorem dX2_drawPresentShape_119 : decode cX2_drawPresentShape 119 = .ok (.aload_n 0, 1) := by decide +kernel
theorem dX2_drawPresentShape_120 : decode cX2_drawPresentShape 120 = .ok (.getfield 42, 3) := by decide +kernel
theorem dX2_drawPresentShape_123 : decode cX2_drawPresentShape 123 = .ok (.iload 5, 2) := by decide +kernel
theorem dX2_drawPresentShape_125 : decode cX2_drawPresentShape 125 = .ok (.dup2, 1) := by decide +kernel
theorem dX2_drawPresentShape_126 : decode cX2_drawPresentShape 126 = .ok (.laload, 1) := by decide +kernel
theorem dX2_drawPresentShape_127 : decode cX2_drawPresentShape 127 = .ok (.lconst 1, 1) := by decide +kernel
theorem dX2_drawPresentShape_128 : decode cX2_drawPresentShape 128 = .ok (.iload 6, 2) := by decide +kernel
theorem dX2_drawPresentShape_130 : decode cX2_drawPresentShape 130 = .ok (.lshl, 1) := by decide +kernel
theorem dX2_drawPresentShape_131 : decode cX2_drawPresentShape 131 = .ok (.lor, 1) := by decide +kernel
theorem dX2_drawPresentShape_132 : decode cX2_drawPresentShape 132 = .ok (.lastore, 1) := by decide +kernel
theorem dX2_drawPresentShape_133 : decode cX2_drawPresentShape 133 = .ok (.iinc 3 1, 3) := by decide +kernel
theorem dX2_drawPresentShape_136 : decode cX2_drawPresentShape 136 = .ok (.goto (-70), 3) := by decide +kernel
theorem dX2_drawPresentShape_139 : decode cX2_drawPresentShape 139 = .ok (.return_, 1) := by decide +kernel
theorem dX3_init_0 : decode cX3_init 0 = .ok (.aload_n 0, 1) := by decide +kernel
theorem dX3_init_1 : decode cX3_init 1 = .ok (.invokespecial 3, 3) := by decide +kernel
theorem dX3_init_4 : decode cX3_init 4 = .ok (.aload_n 0, 1) := by decide +kernel
theorem dX3_init_5 : decode cX3_init 5 = .ok (.bipush 10, 2) := by decide +kernel
theorem dX3_init_7 : decode cX3_init 7 = .ok (.newarray .int, 2) := by decide +kernel
theorem dX3_init_9 : decode cX3_init 9 = .ok (.putfield 9, 3) := by decide +kernel
theorem dX3_init_12 : decode cX3_init 12 = .ok (.aload_n 0, 1) := by decide +kernel
theorem dX3_init_13 : decode cX3_init 13 = .ok (.bipush 10, 2) := by decide +kernel
theorem dX3_init_15 : decode cX3_init 15 = .ok (.newarray .int, 2) := by decide +kernel
theorem dX3_init_17 : decode cX3_init 17 = .ok (.putfield 15, 3) := by decide +kernel
theorem dX3_init_20 : decode cX3_init 20 = .ok (.return_, 1) := by decide +kernel
theorem dX3_countByGoing_0 : decode cX3_countByGoing 0 = .ok (.aload_n 0, 1) := by decide +kernel
theorem dX3_countByGoing_1 : decode cX3_countByGoing 1 = .ok (.aload_n 1, 1) := by decide +kernel
theorem dX3_countByGoing_2 : decode cX3_countByGoing 2 = .ok (.invokevirtual 18, 3) := by decide +kernel
theorem dX3_countByGoing_5 : decode cX3_countByGoing 5 = .ok (.iconst 0, 1) := by decide +kernel
theorem dX3_countByGoing_6 : decode cX3_countByGoing 6 = .ok (.istore_n 2, 1) := by decide +kernel
theorem dX3_countByGoing_7 : decode cX3_countByGoing 7 = .ok (.iconst 0, 1) := by decide +kernel
theorem dX3_countByGoing_8 : decode cX3_countByGoing 8 = .ok (.istore_n 3, 1) := by decide +kernel
theorem dX3_countByGoing_9 : decode cX3_countByGoing 9 = .ok (.iload_n 3, 1) := by decide +kernel
theorem dX3_countByGoing_10 : decode cX3_countByGoing 10 = .ok (.aload_n 1, 1) := by decide +kernel
theorem dX3_countByGoing_11 : decode cX3_countByGoing 11 = .ok (.getfield 22, 3) := by decide +kernel
theorem dX3_countByGoing_14 : decode cX3_countByGoing 14 = .ok (.if_icmp .ge 27, 3) := by decide +kernel
theorem dX3_countByGoing_17 : decode cX3_countByGoing 17 = .ok (.iload_n 2, 1) := by decide +kernel
theorem dX3_countByGoing_18 : decode cX3_countByGoing 18 = .ok (.aload_n 0, 1) := by decide +kernel
theorem dX3_countByGoing_19 : decode cX3_countByGoing 19 = .ok (.getfield 9, 3) := by decide +kernel
theorem dX3_countByGoing_22 : decode cX3_countByGoing 22 = .ok (.iload_n 3, 1) := by decide +kernel
theorem dX3_countByGoing_23 : decode cX3_countByGoing 23 = .ok (.iaload, 1) := by decide +kernel
theorem dX3_countByGoing_24 : decode cX3_countByGoing 24 = .ok (.iload_n 3, 1) := by decide +kernel
theorem dX3_countByGoing_25 : decode cX3_countByGoing 25 = .ok (.if_icmp .ne 7, 3) := by decide +kernel
theorem dX3_countByGoing_28 : decode cX3_countByGoing 28 = .ok (.iconst 1, 1) := by decide +kernel
theorem dX3_countByGoing_29 : decode cX3_countByGoing 29 = .ok (.goto 4, 3) := by decide +kernel
theorem dX3_countByGoing_32 : decode cX3_countByGoing 32 = .ok (.iconst 0, 1) := by decide +kernel
theorem dX3_countByGoing_33 : decode cX3_countByGoing 33 = .ok (.iadd, 1) := by decide +kernel
theorem dX3_countByGoing_34 : decode cX3_countByGoing 34 = .ok (.istore_n 2, 1) := by decide +kernel
theorem dX3_countByGoing_35 : decode cX3_countByGoing 35 = .ok (.iinc 3 1, 3) := by decide +kernel
theorem dX3_countByGoing_38 : decode cX3_countByGoing 38 = .ok (.goto (-29), 3) := by decide +kernel
theorem dX3_countByGoing_41 : decode cX3_countByGoing 41 = .ok (.iload_n 2, 1) := by decide +kernel
theorem dX3_countByGoing_42 : decode cX3_countByGoing 42 = .ok (.ireturn, 1) := by decide +kernel
theorem dX3_lowestWith_0 : decode cX3_lowestWith 0 = .ok (.aload_n 0, 1) := by decide +kernel
theorem dX3_lowestWith_1 : decode cX3_lowestWith 1 = .ok (.aload_n 1, 1) := by decide +kernel
theorem dX3_lowestWith_2 : decode cX3_lowestWith 2 = .ok (.invokevirtual 18, 3) := by decide +kernel
theorem dX3_lowestWith_5 : decode cX3_lowestWith 5 = .ok (.aload_n 1, 1) := by decide +kernel
theorem dX3_lowestWith_6 : decode cX3_lowestWith 6 = .ok (.iload_n 2, 1) := by decide +kernel
theorem dX3_lowestWith_7 : decode cX3_lowestWith 7 = .ok (.invokevirtual 28, 3) := by decide +kernel
theorem dX3_lowestWith_10 : decode cX3_lowestWith 10 = .ok (.ifCond .eq 12, 3) := by decide +kernel
theorem dX3_lowestWith_13 : decode cX3_lowestWith 13 = .ok (.aload_n 0, 1) := by decide +kernel
theorem dX3_lowestWith_14 : decode cX3_lowestWith 14 = .ok (.getfield 9, 3) := by decide +kernel
theorem dX3_lowestWith_17 : decode cX3_lowestWith 17 = .ok (.iload_n 2, 1) := by decide +kernel
theorem dX3_lowestWith_18 : decode cX3_lowestWith 18 = .ok (.iaload, 1) := by decide +kernel
theorem dX3_lowestWith_19 : decode cX3_lowestWith 19 = .ok (.goto 4, 3) := by decide +kernel
theorem dX3_lowestWith_22 : decode cX3_lowestWith 22 = .ok (.iconst (-1), 1) := by decide +kernel
theorem dX3_lowestWith_23 : decode cX3_lowestWith 23 = .ok (.ireturn, 1) := by decide +kernel
theorem dX3_largest_0 : decode cX3_largest 0 = .ok (.aload_n 0, 1) := by decide +kernel
theorem dX3_largest_1 : decode cX3_largest 1 = .ok (.aload_n 1, 1) := by decide +kernel
theorem dX3_largest_2 : decode cX3_largest 2 = .ok (.invokevirtual 18, 3) := by decide +kernel
theorem dX3_largest_5 : decode cX3_largest 5 = .ok (.iconst 0, 1) := by decide +kernel
theorem dX3_largest_6 : decode cX3_largest 6 = .ok (.istore_n 2, 1) := by decide +kernel
theorem dX3_largest_7 : decode cX3_largest 7 = .ok (.iconst 0, 1) := by decide +kernel
theorem dX3_largest_8 : decode cX3_largest 8 = .ok (.istore_n 3, 1) := by decide +kernel
theorem dX3_largest_9 : decode cX3_largest 9 = .ok (.iload_n 3, 1) := by decide +kernel
theorem dX3_largest_10 : decode cX3_largest 10 = .ok (.aload_n 1, 1) := by decide +kernel
theorem dX3_largest_11 : decode cX3_largest 11 = .ok (.getfield 22, 3) := by decide +kernel
theorem dX3_largest_14 : decode cX3_largest 14 = .ok (.if_icmp .ge 20, 3) := by decide +kernel
theorem dX3_largest_17 : decode cX3_largest 17 = .ok (.iload_n 2, 1) := by decide +kernel
theorem dX3_largest_18 : decode cX3_largest 18 = .ok (.aload_n 0, 1) := by decide +kernel
theorem dX3_largest_19 : decode cX3_largest 19 = .ok (.aload_n 1, 1) := by decide +kernel
theorem dX3_largest_20 : decode cX3_largest 20 = .ok (.iload_n 3, 1) := by decide +kernel
theorem dX3_largest_21 : decode cX3_largest 21 = .ok (.invokevirtual 32, 3) := by decide +kernel
theorem dX3_largest_24 : decode cX3_largest 24 = .ok (.invokestatic 36, 3) := by decide +kernel
theorem dX3_largest_27 : decode cX3_largest 27 = .ok (.istore_n 2, 1) := by decide +kernel
theorem dX3_largest_28 : decode cX3_largest 28 = .ok (.iinc 3 1, 3) := by decide +kernel
theorem dX3_largest_31 : decode cX3_largest 31 = .ok (.goto (-22), 3) := by decide +kernel
theorem dX3_largest_34 : decode cX3_largest 34 = .ok (.iload_n 2, 1) := by decide +kernel
theorem dX3_largest_35 : decode cX3_largest 35 = .ok (.ireturn, 1) := by decide +kernel
theorem dX3_sizeOfGroup_0 : decode cX3_sizeOfGroup 0 = .ok (.iconst 0, 1) := by decide +kernel
theorem dX3_sizeOfGroup_1 : decode cX3_sizeOfGroup 1 = .ok (.istore_n 3, 1) := by decide +kernel
theorem dX3_sizeOfGroup_2 : decode cX3_sizeOfGroup 2 = .ok (.iconst 0, 1) := by decide +kernel
theorem dX3_sizeOfGroup_3 : decode cX3_sizeOfGroup 3 = .ok (.istore 4, 2) := by decide +kernel
theorem dX3_sizeOfGroup_5 : decode cX3_sizeOfGroup 5 = .ok (.iload 4, 2) := by decide +kernel
theorem dX3_sizeOfGroup_7 : decode cX3_sizeOfGroup 7 = .ok (.aload_n 1, 1) := by decide +kernel
theorem dX3_sizeOfGroup_8 : decode cX3_sizeOfGroup 8 = .ok (.getfield 22, 3) := by decide +kernel
theorem dX3_sizeOfGroup_11 : decode cX3_sizeOfGroup 11 = .ok (.if_icmp .ge 28, 3) := by decide +kernel
theorem dX3_sizeOfGroup_14 : decode cX3_sizeOfGroup 14 = .ok (.iload_n 3, 1) := by decide +kernel
theorem dX3_sizeOfGroup_15 : decode cX3_sizeOfGroup 15 = .ok (.aload_n 0, 1) := by decide +kernel
theorem dX3_sizeOfGroup_16 : decode cX3_sizeOfGroup 16 = .ok (.getfield 9, 3) := by decide +kernel
theorem dX3_sizeOfGroup_19 : decode cX3_sizeOfGroup 19 = .ok (.iload 4, 2) := by decide +kernel
theorem dX3_sizeOfGroup_21 : decode cX3_sizeOfGroup 21 = .ok (.iaload, 1) := by decide +kernel
theorem dX3_sizeOfGroup_22 : decode cX3_sizeOfGroup 22 = .ok (.iload_n 2, 1) := by decide +kernel
theorem dX3_sizeOfGroup_23 : decode cX3_sizeOfGroup 23 = .ok (.if_icmp .ne 7, 3) := by decide +kernel
theorem dX3_sizeOfGroup_26 : decode cX3_sizeOfGroup 26 = .ok (.iconst 1, 1) := by decide +kernel
theorem dX3_sizeOfGroup_27 : decode cX3_sizeOfGroup 27 = .ok (.goto 4, 3) := by decide +kernel
theorem dX3_sizeOfGroup_30 : decode cX3_sizeOfGroup 30 = .ok (.iconst 0, 1) := by decide +kernel
theorem dX3_sizeOfGroup_31 : decode cX3_sizeOfGroup 31 = .ok (.iadd, 1) := by decide +kernel
theorem dX3_sizeOfGroup_32 : decode cX3_sizeOfGroup 32 = .ok (.istore_n 3, 1) := by decide +kernel
theorem dX3_sizeOfGroup_33 : decode cX3_sizeOfGroup 33 = .ok (.iinc 4 1, 3) := by decide +kernel
theorem dX3_sizeOfGroup_36 : decode cX3_sizeOfGroup 36 = .ok (.goto (-31), 3) := by decide +kernel
theorem dX3_sizeOfGroup_39 : decode cX3_sizeOfGroup 39 = .ok (.iload_n 3, 1) := by decide +kernel
theorem dX3_sizeOfGroup_40 : decode cX3_sizeOfGroup 40 = .ok (.ireturn, 1) := by decide +kernel
theorem dX3_goThrough_0 : decode cX3_goThrough 0 = .ok (.iconst 0, 1) := by decide +kernel
theorem dX3_goThrough_1 : decode cX3_goThrough 1 = .ok (.istore_n 2, 1) := by decide +kernel
theorem dX3_goThrough_2 : decode cX3_goThrough 2 = .ok (.iload_n 2, 1) := by decide +kernel
theorem dX3_goThrough_3 : decode cX3_goThrough 3 = .ok (.aload_n 1, 1) := by decide +kernel
theorem dX3_goThrough_4 : decode cX3_goThrough 4 = .ok (.getfield 22, 3) := by decide +kernel
theorem dX3_goThrough_7 : decode cX3_goThrough 7 = .ok (.if_icmp .ge 16, 3) := by decide +kernel
theorem dX3_goThrough_10 : decode cX3_goThrough 10 = .ok (.aload_n 0, 1) := by decide +kernel
theorem dX3_goThrough_11 : decode cX3_goThrough 11 = .ok (.getfield 9, 3) := by decide +kernel
theorem dX3_goThrough_14 : decode cX3_goThrough 14 = .ok (.iload_n 2, 1) := by decide +kernel
theorem dX3_goThrough_15 : decode cX3_goThrough 15 = .ok (.iconst (-1), 1) := by decide +kernel
theorem dX3_goThrough_16 : decode cX3_goThrough 16 = .ok (.iastore, 1) := by decide +kernel
theorem dX3_goThrough_17 : decode cX3_goThrough 17 = .ok (.iinc 2 1, 3) := by decide +kernel
theorem dX3_goThrough_20 : decode cX3_goThrough 20 = .ok (.goto (-18), 3) := by decide +kernel
theorem dX3_goThrough_23 : decode cX3_goThrough 23 = .ok (.iconst 0, 1) := by decide +kernel
theorem dX3_goThrough_24 : decode cX3_goThrough 24 = .ok (.istore_n 2, 1) := by decide +kernel
theorem dX3_goThrough_25 : decode cX3_goThrough 25 = .ok (.iload_n 2, 1) := by decide +kernel
theorem dX3_goThrough_26 : decode cX3_goThrough 26 = .ok (.aload_n 1, 1) := by decide +kernel
theorem dX3_goThrough_27 : decode cX3_goThrough 27 = .ok (.getfield 22, 3) := by decide +kernel
theorem dX3_goThrough_30 : decode cX3_goThrough 30 = .ok (.if_icmp .ge 25, 3) := by decide +kernel
theorem dX3_goThrough_33 : decode cX3_goThrough 33 = .ok (.aload_n 0, 1) := by decide +kernel
theorem dX3_goThrough_34 : decode cX3_goThrough 34 = .ok (.getfield 9, 3) := by decide +kernel
theorem dX3_goThrough_37 : decode cX3_goThrough 37 = .ok (.iload_n 2, 1) := by decide +kernel
theorem dX3_goThrough_38 : decode cX3_goThrough 38 = .ok (.iaload, 1) := by decide +kernel
theorem dX3_goThrough_39 : decode cX3_goThrough 39 = .ok (.iconst (-1), 1) := by decide +kernel
theorem dX3_goThrough_40 : decode cX3_goThrough 40 = .ok (.if_icmp .ne 9, 3) := by decide +kernel
theorem dX3_goThrough_43 : decode cX3_goThrough 43 = .ok (.aload_n 0, 1) := by decide +kernel
theorem dX3_goThrough_44 : decode cX3_goThrough 44 = .ok (.aload_n 1, 1) := by decide +kernel
theorem dX3_goThrough_45 : decode cX3_goThrough 45 = .ok (.iload_n 2, 1) := by decide +kernel
theorem dX3_goThrough_46 : decode cX3_goThrough 46 = .ok (.invokevirtual 42, 3) := by decide +kernel
theorem dX3_goThrough_49 : decode cX3_goThrough 49 = .ok (.iinc 2 1, 3) := by decide +kernel
theorem dX3_goThrough_52 : decode cX3_goThrough 52 = .ok (.goto (-27), 3) := by decide +kernel
theorem dX3_goThrough_55 : decode cX3_goThrough 55 = .ok (.return_, 1) := by decide +kernel
theorem dX3_goFrom_0 : decode cX3_goFrom 0 = .ok (.aload_n 0, 1) := by decide +kernel
theorem dX3_goFrom_1 : decode cX3_goFrom 1 = .ok (.getfield 9, 3) := by decide +kernel
theorem dX3_goFrom_4 : decode cX3_goFrom 4 = .ok (.iload_n 2, 1) := by decide +kernel
theorem dX3_goFrom_5 : decode cX3_goFrom 5 = .ok (.iload_n 2, 1) := by decide +kernel
theorem dX3_goFrom_6 : decode cX3_goFrom 6 = .ok (.iastore, 1) := by decide +kernel
theorem dX3_goFrom_7 : decode cX3_goFrom 7 = .ok (.aload_n 0, 1) := by decide +kernel
theorem dX3_goFrom_8 : decode cX3_goFrom 8 = .ok (.getfield 15, 3) := by decide +kernel
theorem dX3_goFrom_11 : decode cX3_goFrom 11 = .ok (.iconst 0, 1) := by decide +kernel
theorem dX3_goFrom_12 : decode cX3_goFrom 12 = .ok (.iload_n 2, 1) := by decide +kernel
theorem dX3_goFrom_13 : decode cX3_goFrom 13 = .ok (.iastore, 1) := by decide +kernel
theorem dX3_goFrom_14 : decode cX3_goFrom 14 = .ok (.iconst 1, 1) := by decide +kernel
theorem dX3_goFrom_15 : decode cX3_goFrom 15 = .ok (.istore_n 3, 1) := by decide +kernel
theorem dX3_goFrom_16 : decode cX3_goFrom 16 = .ok (.iconst 0, 1) := by decide +kernel
theorem dX3_goFrom_17 : decode cX3_goFrom 17 = .ok (.istore 4, 2) := by decide +kernel
theorem dX3_goFrom_19 : decode cX3_goFrom 19 = .ok (.iload 4, 2) := by decide +kernel
theorem dX3_goFrom_21 : decode cX3_goFrom 21 = .ok (.iload_n 3, 1) := by decide +kernel
theorem dX3_goFrom_22 : decode cX3_goFrom 22 = .ok (.if_icmp .ge 79, 3) := by decide +kernel
theorem dX3_goFrom_25 : decode cX3_goFrom 25 = .ok (.iconst 0, 1) := by decide +kernel
theorem dX3_goFrom_26 : decode cX3_goFrom 26 = .ok (.istore 5, 2) := by decide +kernel
theorem dX3_goFrom_28 : decode cX3_goFrom 28 = .ok (.iload 5, 2) := by decide +kernel
theorem dX3_goFrom_30 : decode cX3_goFrom 30 = .ok (.aload_n 1, 1) := by decide +kernel
theorem dX3_goFrom_31 : decode cX3_goFrom 31 = .ok (.getfield 22, 3) := by decide +kernel
theorem dX3_goFrom_34 : decode cX3_goFrom 34 = .ok (.if_icmp .ge 61, 3) := by decide +kernel
theorem dX3_goFrom_37 : decode cX3_goFrom 37 = .ok (.iload_n 3, 1) := by decide +kernel
theorem dX3_goFrom_38 : decode cX3_goFrom 38 = .ok (.bipush 10, 2) := by decide +kernel
theorem dX3_goFrom_40 : decode cX3_goFrom 40 = .ok (.if_icmp .ge 49, 3) := by decide +kernel
theorem dX3_goFrom_43 : decode cX3_goFrom 43 = .ok (.aload_n 0, 1) := by decide +kernel
theorem dX3_goFrom_44 : decode cX3_goFrom 44 = .ok (.getfield 9, 3) := by decide +kernel
theorem dX3_goFrom_47 : decode cX3_goFrom 47 = .ok (.iload 5, 2) := by decide +kernel
theorem dX3_goFrom_49 : decode cX3_goFrom 49 = .ok (.iaload, 1) := by decide +kernel
theorem dX3_goFrom_50 : decode cX3_goFrom 50 = .ok (.iconst (-1), 1) := by decide +kernel
theorem dX3_goFrom_51 : decode cX3_goFrom 51 = .ok (.if_icmp .ne 38, 3) := by decide +kernel
theorem dX3_goFrom_54 : decode cX3_goFrom 54 = .ok (.aload_n 1, 1) := by decide +kernel
theorem dX3_goFrom_55 : decode cX3_goFrom 55 = .ok (.aload_n 0, 1) := by decide +kernel
theorem dX3_goFrom_56 : decode cX3_goFrom 56 = .ok (.getfield 15, 3) := by decide +kernel
theorem dX3_goFrom_59 : decode cX3_goFrom 59 = .ok (.iload 4, 2) := by decide +kernel
theorem dX3_goFrom_61 : decode cX3_goFrom 61 = .ok (.iaload, 1) := by decide +kernel
theorem dX3_goFrom_62 : decode cX3_goFrom 62 = .ok (.iload 5, 2) := by decide +kernel
theorem dX3_goFrom_64 : decode cX3_goFrom 64 = .ok (.invokevirtual 46, 3) := by decide +kernel
theorem dX3_goFrom_67 : decode cX3_goFrom 67 = .ok (.ifCond .eq 22, 3) := by decide +kernel
theorem dX3_goFrom_70 : decode cX3_goFrom 70 = .ok (.aload_n 0, 1) := by decide +kernel
theorem dX3_goFrom_71 : decode cX3_goFrom 71 = .ok (.getfield 9, 3) := by decide +kernel
theorem dX3_goFrom_74 : decode cX3_goFrom 74 = .ok (.iload 5, 2) := by decide +kernel
theorem dX3_goFrom_76 : decode cX3_goFrom 76 = .ok (.iload_n 2, 1) := by decide +kernel
theorem dX3_goFrom_77 : decode cX3_goFrom 77 = .ok (.iastore, 1) := by decide +kernel
theorem dX3_goFrom_78 : decode cX3_goFrom 78 = .ok (.aload_n 0, 1) := by decide +kernel
theorem dX3_goFrom_79 : decode cX3_goFrom 79 = .ok (.getfield 15, 3) := by decide +kernel
theorem dX3_goFrom_82 : decode cX3_goFrom 82 = .ok (.iload_n 3, 1) := by decide +kernel
theorem dX3_goFrom_83 : decode cX3_goFrom 83 = .ok (.iload 5, 2) := by decide +kernel
theorem dX3_goFrom_85 : decode cX3_goFrom 85 = .ok (.iastore, 1) := by decide +kernel
theorem dX3_goFrom_86 : decode cX3_goFrom 86 = .ok (.iinc 3 1, 3) := by decide +kernel
theorem dX3_goFrom_89 : decode cX3_goFrom 89 = .ok (.iinc 5 1, 3) := by decide +kernel
theorem dX3_goFrom_92 : decode cX3_goFrom 92 = .ok (.goto (-64), 3) := by decide +kernel
theorem dX3_goFrom_95 : decode cX3_goFrom 95 = .ok (.iinc 4 1, 3) := by decide +kernel
theorem dX3_goFrom_98 : decode cX3_goFrom 98 = .ok (.goto (-79), 3) := by decide +kernel
theorem dX3_goFrom_101 : decode cX3_goFrom 101 = .ok (.return_, 1) := by decide +kernel
theorem dX3_countByMerging_0 : decode cX3_countByMerging 0 = .ok (.iconst 0, 1) := by decide +kernel
theorem dX3_countByMerging_1 : decode cX3_countByMerging 1 = .ok (.istore_n 2, 1) := by decide +kernel
theorem dX3_countByMerging_2 : decode cX3_countByMerging 2 = .ok (.iload_n 2, 1) := by decide +kernel
theorem dX3_countByMerging_3 : decode cX3_countByMerging 3 = .ok (.aload_n 1, 1) := by decide +kernel
theorem dX3_countByMerging_4 : decode cX3_countByMerging 4 = .ok (.getfield 22, 3) := by decide +kernel
theorem dX3_countByMerging_7 : decode cX3_countByMerging 7 = .ok (.if_icmp .ge 16, 3) := by decide +kernel
theorem dX3_countByMerging_10 : decode cX3_countByMerging 10 = .ok (.aload_n 0, 1) := by decide +kernel
theorem dX3_countByMerging_11 : decode cX3_countByMerging 11 = .ok (.getfield 9, 3) := by decide +kernel
theorem dX3_countByMerging_14 : decode cX3_countByMerging 14 = .ok (.iload_n 2, 1) := by decide +kernel
theorem dX3_countByMerging_15 : decode cX3_countByMerging 15 = .ok (.iload_n 2, 1) := by decide +kernel
theorem dX3_countByMerging_16 : decode cX3_countByMerging 16 = .ok (.iastore, 1) := by decide +kernel
theorem dX3_countByMerging_17 : decode cX3_countByMerging 17 = .ok (.iinc 2 1, 3) := by decide +kernel
theorem dX3_countByMerging_20 : decode cX3_countByMerging 20 = .ok (.goto (-18), 3) := by decide +kernel
theorem dX3_countByMerging_23 : decode cX3_countByMerging 23 = .ok (.aload_n 1, 1) := by decide +kernel
theorem dX3_countByMerging_24 : decode cX3_countByMerging 24 = .ok (.getfield 22, 3) := by decide +kernel
theorem dX3_countByMerging_27 : decode cX3_countByMerging 27 = .ok (.istore_n 2, 1) := by decide +kernel
theorem dX3_countByMerging_28 : decode cX3_countByMerging 28 = .ok (.iconst 0, 1) := by decide +kernel
theorem dX3_countByMerging_29 : decode cX3_countByMerging 29 = .ok (.istore_n 3, 1) := by decide +kernel
theorem dX3_countByMerging_30 : decode cX3_countByMerging 30 = .ok (.iload_n 3, 1) := by decide +kernel
theorem dX3_countByMerging_31 : decode cX3_countByMerging 31 = .ok (.aload_n 1, 1) := by decide +kernel
theorem dX3_countByMerging_32 : decode cX3_countByMerging 32 = .ok (.getfield 22, 3) := by decide +kernel
theorem dX3_countByMerging_35 : decode cX3_countByMerging 35 = .ok (.if_icmp .ge 76, 3) := by decide +kernel
theorem dX3_countByMerging_38 : decode cX3_countByMerging 38 = .ok (.iload_n 3, 1) := by decide +kernel
theorem dX3_countByMerging_39 : decode cX3_countByMerging 39 = .ok (.iconst 1, 1) := by decide +kernel
theorem dX3_countByMerging_40 : decode cX3_countByMerging 40 = .ok (.iadd, 1) := by decide +kernel
theorem dX3_countByMerging_41 : decode cX3_countByMerging 41 = .ok (.istore 4, 2) := by decide +kernel
theorem dX3_countByMerging_43 : decode cX3_countByMerging 43 = .ok (.iload 4, 2) := by decide +kernel
theorem dX3_countByMerging_45 : decode cX3_countByMerging 45 = .ok (.aload_n 1, 1) := by decide +kernel
theorem dX3_countByMerging_46 : decode cX3_countByMerging 46 = .ok (.getfield 22, 3) := by decide +kernel
theorem dX3_countByMerging_49 : decode cX3_countByMerging 49 = .ok (.if_icmp .ge 56, 3) := by decide +kernel
theorem dX3_countByMerging_52 : decode cX3_countByMerging 52 = .ok (.aload_n 0, 1) := by decide +kernel
theorem dX3_countByMerging_53 : decode cX3_countByMerging 53 = .ok (.getfield 9, 3) := by decide +kernel
theorem dX3_countByMerging_56 : decode cX3_countByMerging 56 = .ok (.iload_n 3, 1) := by decide +kernel
theorem dX3_countByMerging_57 : decode cX3_countByMerging 57 = .ok (.iaload, 1) := by decide +kernel
theorem dX3_countByMerging_58 : decode cX3_countByMerging 58 = .ok (.aload_n 0, 1) := by decide +kernel
theorem dX3_countByMerging_59 : decode cX3_countByMerging 59 = .ok (.getfield 9, 3) := by decide +kernel
theorem dX3_countByMerging_62 : decode cX3_countByMerging 62 = .ok (.iload 4, 2) := by decide +kernel
theorem dX3_countByMerging_64 : decode cX3_countByMerging 64 = .ok (.iaload, 1) := by decide +kernel
theorem dX3_countByMerging_65 : decode cX3_countByMerging 65 = .ok (.if_icmp .eq 34, 3) := by decide +kernel
theorem dX3_countByMerging_68 : decode cX3_countByMerging 68 = .ok (.aload_n 1, 1) := by decide +kernel
theorem dX3_countByMerging_69 : decode cX3_countByMerging 69 = .ok (.iload_n 3, 1) := by decide +kernel
theorem dX3_countByMerging_70 : decode cX3_countByMerging 70 = .ok (.iload 4, 2) := by decide +kernel
theorem dX3_countByMerging_72 : decode cX3_countByMerging 72 = .ok (.invokevirtual 46, 3) := by decide +kernel
theorem dX3_countByMerging_75 : decode cX3_countByMerging 75 = .ok (.ifCond .eq 24, 3) := by decide +kernel
theorem dX3_countByMerging_78 : decode cX3_countByMerging 78 = .ok (.aload_n 0, 1) := by decide +kernel
theorem dX3_countByMerging_79 : decode cX3_countByMerging 79 = .ok (.aload_n 1, 1) := by decide +kernel
theorem dX3_countByMerging_80 : decode cX3_countByMerging 80 = .ok (.aload_n 0, 1) := by decide +kernel
theorem dX3_countByMerging_81 : decode cX3_countByMerging 81 = .ok (.getfield 9, 3) := by decide +kernel
theorem dX3_countByMerging_84 : decode cX3_countByMerging 84 = .ok (.iload_n 3, 1) := by decide +kernel
theorem dX3_countByMerging_85 : decode cX3_countByMerging 85 = .ok (.iaload, 1) := by decide +kernel
theorem dX3_countByMerging_86 : decode cX3_countByMerging 86 = .ok (.aload_n 0, 1) := by decide +kernel
theorem dX3_countByMerging_87 : decode cX3_countByMerging 87 = .ok (.getfield 9, 3) := by decide +kernel
theorem dX3_countByMerging_90 : decode cX3_countByMerging 90 = .ok (.iload 4, 2) := by decide +kernel
theorem dX3_countByMerging_92 : decode cX3_countByMerging 92 = .ok (.iaload, 1) := by decide +kernel
theorem dX3_countByMerging_93 : decode cX3_countByMerging 93 = .ok (.invokevirtual 50, 3) := by decide +kernel
theorem dX3_countByMerging_96 : decode cX3_countByMerging 96 = .ok (.iinc 2 (-1), 3) := by decide +kernel
theorem dX3_countByMerging_99 : decode cX3_countByMerging 99 = .ok (.iinc 4 1, 3) := by decide +kernel
theorem dX3_countByMerging_102 : decode cX3_countByMerging 102 = .ok (.goto (-59), 3) := by decide +kernel
theorem dX3_countByMerging_105 : decode cX3_countByMerging 105 = .ok (.iinc 3 1, 3) := by decide +kernel
theorem dX3_countByMerging_108 : decode cX3_countByMerging 108 = .ok (.goto (-78), 3) := by decide +kernel
theorem dX3_countByMerging_111 : decode cX3_countByMerging 111 = .ok (.iload_n 2, 1) := by decide +kernel
theorem dX3_countByMerging_112 : decode cX3_countByMerging 112 = .ok (.ireturn, 1) := by decide +kernel
theorem dX3_merge_0 : decode cX3_merge 0 = .ok (.iconst 0, 1) := by decide +kernel
theorem dX3_merge_1 : decode cX3_merge 1 = .ok (.istore 4, 2) := by decide +kernel
theorem dX3_merge_3 : decode cX3_merge 3 = .ok (.iload 4, 2) := by decide +kernel
theorem dX3_merge_5 : decode cX3_merge 5 = .ok (.aload_n 1, 1) := by decide +kernel
theorem dX3_merge_6 : decode cX3_merge 6 = .ok (.getfield 22, 3) := by decide +kernel
theorem dX3_merge_9 : decode cX3_merge 9 = .ok (.if_icmp .ge 28, 3) := by decide +kernel
theorem dX3_merge_12 : decode cX3_merge 12 = .ok (.aload_n 0, 1) := by decide +kernel
theorem dX3_merge_13 : decode cX3_merge 13 = .ok (.getfield 9, 3) := by decide +kernel
theorem dX3_merge_16 : decode cX3_merge 16 = .ok (.iload 4, 2) := by decide +kernel
theorem dX3_merge_18 : decode cX3_merge 18 = .ok (.iaload, 1) := by decide +kernel
theorem dX3_merge_19 : decode cX3_merge 19 = .ok (.iload_n 3, 1) := by decide +kernel
theorem dX3_merge_20 : decode cX3_merge 20 = .ok (.if_icmp .ne 11, 3) := by decide +kernel
theorem dX3_merge_23 : decode cX3_merge 23 = .ok (.aload_n 0, 1) := by decide +kernel
theorem dX3_merge_24 : decode cX3_merge 24 = .ok (.getfield 9, 3) := by decide +kernel
theorem dX3_merge_27 : decode cX3_merge 27 = .ok (.iload 4, 2) := by decide +kernel
theorem dX3_merge_29 : decode cX3_merge 29 = .ok (.iload_n 2, 1) := by decide +kernel
theorem dX3_merge_30 : decode cX3_merge 30 = .ok (.iastore, 1) := by decide +kernel
theorem dX3_merge_31 : decode cX3_merge 31 = .ok (.iinc 4 1, 3) := by decide +kernel
theorem dX3_merge_34 : decode cX3_merge 34 = .ok (.goto (-31), 3) := by decide +kernel
theorem dX3_merge_37 : decode cX3_merge 37 = .ok (.return_, 1) := by decide +kernel
theorem dX4_init_0 : decode cX4_init 0 = .ok (.aload_n 0, 1) := by decide +kernel
theorem dX4_init_1 : decode cX4_init 1 = .ok (.invokespecial 3, 3) := by decide +kernel
theorem dX4_init_4 : decode cX4_init 4 = .ok (.aload_n 0, 1) := by decide +kernel
theorem dX4_init_5 : decode cX4_init 5 = .ok (.bipush 8, 2) := by decide +kernel
theorem dX4_init_7 : decode cX4_init 7 = .ok (.anewarray 9, 3) := by decide +kernel
theorem dX4_init_10 : decode cX4_init 10 = .ok (.putfield 11, 3) := by decide +kernel
theorem dX4_init_13 : decode cX4_init 13 = .ok (.aload_n 0, 1) := by decide +kernel
theorem dX4_init_14 : decode cX4_init 14 = .ok (.iconst 0, 1) := by decide +kernel
theorem dX4_init_15 : decode cX4_init 15 = .ok (.putfield 17, 3) := by decide +kernel
theorem dX4_init_18 : decode cX4_init 18 = .ok (.aload_n 0, 1) := by decide +kernel
theorem dX4_init_19 : decode cX4_init 19 = .ok (.iconst 0, 1) := by decide +kernel
theorem dX4_init_20 : decode cX4_init 20 = .ok (.putfield 21, 3) := by decide +kernel
theorem dX4_init_23 : decode cX4_init 23 = .ok (.iconst 0, 1) := by decide +kernel
theorem dX4_init_24 : decode cX4_init 24 = .ok (.istore_n 1, 1) := by decide +kernel
theorem dX4_init_25 : decode cX4_init 25 = .ok (.iload_n 1, 1) := by decide +kernel
theorem dX4_init_26 : decode cX4_init 26 = .ok (.bipush 8, 2) := by decide +kernel
theorem dX4_init_28 : decode cX4_init 28 = .ok (.if_icmp .ge 22, 3) := by decide +kernel
theorem dX4_init_31 : decode cX4_init 31 = .ok (.aload_n 0, 1) := by decide +kernel
theorem dX4_init_32 : decode cX4_init 32 = .ok (.getfield 11, 3) := by decide +kernel
theorem dX4_init_35 : decode cX4_init 35 = .ok (.iload_n 1, 1) := by decide +kernel
theorem dX4_init_36 : decode cX4_init 36 = .ok (.new 9, 3) := by decide +kernel
theorem dX4_init_39 : decode cX4_init 39 = .ok (.dup, 1) := by decide +kernel
theorem dX4_init_40 : decode cX4_init 40 = .ok (.invokespecial 24, 3) := by decide +kernel
theorem dX4_init_43 : decode cX4_init 43 = .ok (.aastore, 1) := by decide +kernel
theorem dX4_init_44 : decode cX4_init 44 = .ok (.iinc 1 1, 3) := by decide +kernel
theorem dX4_init_47 : decode cX4_init 47 = .ok (.goto (-22), 3) := by decide +kernel
theorem dX4_init_50 : decode cX4_init 50 = .ok (.return_, 1) := by decide +kernel
theorem dX4_push_0 : decode cX4_push 0 = .ok (.aload_n 0, 1) := by decide +kernel
theorem dX4_push_1 : decode cX4_push 1 = .ok (.getfield 11, 3) := by decide +kernel
theorem dX4_push_4 : decode cX4_push 4 = .ok (.aload_n 0, 1) := by decide +kernel
theorem dX4_push_5 : decode cX4_push 5 = .ok (.getfield 21, 3) := by decide +kernel
theorem dX4_push_8 : decode cX4_push 8 = .ok (.aaload, 1) := by decide +kernel
theorem dX4_push_9 : decode cX4_push 9 = .ok (.astore_n 2, 1) := by decide +kernel
theorem dX4_push_10 : decode cX4_push 10 = .ok (.aload_n 2, 1) := by decide +kernel
theorem dX4_push_11 : decode cX4_push 11 = .ok (.ifnull 8, 3) := by decide +kernel
theorem dX4_push_14 : decode cX4_push 14 = .ok (.aload_n 2, 1) := by decide +kernel
theorem dX4_push_15 : decode cX4_push 15 = .ok (.aload_n 1, 1) := by decide +kernel
theorem dX4_push_16 : decode cX4_push 16 = .ok (.invokevirtual 25, 3) := by decide +kernel
theorem dX4_push_19 : decode cX4_push 19 = .ok (.aload_n 0, 1) := by decide +kernel
theorem dX4_push_20 : decode cX4_push 20 = .ok (.aload_n 0, 1) := by decide +kernel
theorem dX4_push_21 : decode cX4_push 21 = .ok (.getfield 21, 3) := by decide +kernel
theorem dX4_push_24 : decode cX4_push 24 = .ok (.iconst 1, 1) := by decide +kernel
theorem dX4_push_25 : decode cX4_push 25 = .ok (.iadd, 1) := by decide +kernel
theorem dX4_push_26 : decode cX4_push 26 = .ok (.bipush 8, 2) := by decide +kernel
theorem dX4_push_28 : decode cX4_push 28 = .ok (.if_icmp .ge 12, 3) := by decide +kernel
theorem dX4_push_31 : decode cX4_push 31 = .ok (.aload_n 0, 1) := by decide +kernel
theorem dX4_push_32 : decode cX4_push 32 = .ok (.getfield 21, 3) := by decide +kernel
theorem dX4_push_35 : decode cX4_push 35 = .ok (.iconst 1, 1) := by decide +kernel
theorem dX4_push_36 : decode cX4_push 36 = .ok (.iadd, 1) := by decide +kernel
theorem dX4_push_37 : decode cX4_push 37 = .ok (.goto 4, 3) := by decide +kernel
theorem dX4_push_40 : decode cX4_push 40 = .ok (.iconst 0, 1) := by decide +kernel
theorem dX4_push_41 : decode cX4_push 41 = .ok (.putfield 21, 3) := by decide +kernel
theorem dX4_push_44 : decode cX4_push 44 = .ok (.aload_n 0, 1) := by decide +kernel
theorem dX4_push_45 : decode cX4_push 45 = .ok (.aload_n 0, 1) := by decide +kernel
theorem dX4_push_46 : decode cX4_push 46 = .ok (.getfield 17, 3) := by decide +kernel
theorem dX4_push_49 : decode cX4_push 49 = .ok (.iconst 1, 1) := by decide +kernel
theorem dX4_push_50 : decode cX4_push 50 = .ok (.iadd, 1) := by decide +kernel
theorem dX4_push_51 : decode cX4_push 51 = .ok (.bipush 8, 2) := by decide +kernel
theorem dX4_push_53 : decode cX4_push 53 = .ok (.invokestatic 29, 3) := by decide +kernel
theorem dX4_push_56 : decode cX4_push 56 = .ok (.putfield 17, 3) := by decide +kernel
theorem dX4_push_59 : decode cX4_push 59 = .ok (.return_, 1) := by decide +kernel
theorem dX4_pop_0 : decode cX4_pop 0 = .ok (.aload_n 0, 1) := by decide +kernel
theorem dX4_pop_1 : decode cX4_pop 1 = .ok (.aload_n 0, 1) := by decide +kernel
theorem dX4_pop_2 : decode cX4_pop 2 = .ok (.getfield 21, 3) := by decide +kernel
theorem dX4_pop_5 : decode cX4_pop 5 = .ok (.ifCond .le 12, 3) := by decide +kernel
theorem dX4_pop_8 : decode cX4_pop 8 = .ok (.aload_n 0, 1) := by decide +kernel
theorem dX4_pop_9 : decode cX4_pop 9 = .ok (.getfield 21, 3) := by decide +kernel
theorem dX4_pop_12 : decode cX4_pop 12 = .ok (.iconst 1, 1) := by decide +kernel
theorem dX4_pop_13 : decode cX4_pop 13 = .ok (.isub, 1) := by decide +kernel
theorem dX4_pop_14 : decode cX4_pop 14 = .ok (.goto 5, 3) := by decide +kernel
theorem dX4_pop_17 : decode cX4_pop 17 = .ok (.bipush 7, 2) := by decide +kernel
theorem dX4_pop_19 : decode cX4_pop 19 = .ok (.putfield 21, 3) := by decide +kernel
theorem dX4_pop_22 : decode cX4_pop 22 = .ok (.aload_n 0, 1) := by decide +kernel
theorem dX4_pop_23 : decode cX4_pop 23 = .ok (.dup, 1) := by decide +kernel
theorem dX4_pop_24 : decode cX4_pop 24 = .ok (.getfield 17, 3) := by decide +kernel
theorem dX4_pop_27 : decode cX4_pop 27 = .ok (.iconst 1, 1) := by decide +kernel
theorem dX4_pop_28 : decode cX4_pop 28 = .ok (.isub, 1) := by decide +kernel
theorem dX4_pop_29 : decode cX4_pop 29 = .ok (.putfield 17, 3) := by decide +kernel
theorem dX4_pop_32 : decode cX4_pop 32 = .ok (.aload_n 0, 1) := by decide +kernel
theorem dX4_pop_33 : decode cX4_pop 33 = .ok (.getfield 11, 3) := by decide +kernel
theorem dX4_pop_36 : decode cX4_pop 36 = .ok (.aload_n 0, 1) := by decide +kernel
theorem dX4_pop_37 : decode cX4_pop 37 = .ok (.getfield 21, 3) := by decide +kernel
theorem dX4_pop_40 : decode cX4_pop 40 = .ok (.aaload, 1) := by decide +kernel
theorem dX4_pop_41 : decode cX4_pop 41 = .ok (.astore_n 2, 1) := by decide +kernel
theorem dX4_pop_42 : decode cX4_pop 42 = .ok (.aload_n 2, 1) := by decide +kernel
theorem dX4_pop_43 : decode cX4_pop 43 = .ok (.ifnull 8, 3) := by decide +kernel
theorem dX4_pop_46 : decode cX4_pop 46 = .ok (.aload_n 1, 1) := by decide +kernel
theorem dX4_pop_47 : decode cX4_pop 47 = .ok (.aload_n 2, 1) := by decide +kernel
theorem dX4_pop_48 : decode cX4_pop 48 = .ok (.invokevirtual 25, 3) := by decide +kernel
theorem dX4_pop_51 : decode cX4_pop 51 = .ok (.return_, 1) := by decide +kernel
theorem dX4_forget_0 : decode cX4_forget 0 = .ok (.aload_n 0, 1) := by decide +kernel
theorem dX4_forget_1 : decode cX4_forget 1 = .ok (.iconst 0, 1) := by decide +kernel
theorem dX4_forget_2 : decode cX4_forget 2 = .ok (.putfield 17, 3) := by decide +kernel
theorem dX4_forget_5 : decode cX4_forget 5 = .ok (.aload_n 0, 1) := by decide +kernel
theorem dX4_forget_6 : decode cX4_forget 6 = .ok (.iconst 0, 1) := by decide +kernel
theorem dX4_forget_7 : decode cX4_forget 7 = .ok (.putfield 21, 3) := by decide +kernel
theorem dX4_forget_10 : decode cX4_forget 10 = .ok (.return_, 1) := by decide +kernel
theorem dX5_init_0 : decode cX5_init 0 = .ok (.aload_n 0, 1) := by decide +kernel
theorem dX5_init_1 : decode cX5_init 1 = .ok (.invokespecial 3, 3) := by decide +kernel
theorem dX5_init_4 : decode cX5_init 4 = .ok (.aload_n 0, 1) := by decide +kernel
theorem dX5_init_5 : decode cX5_init 5 = .ok (.bipush 48, 2) := by decide +kernel
theorem dX5_init_7 : decode cX5_init 7 = .ok (.newarray .long, 2) := by decide +kernel
theorem dX5_init_9 : decode cX5_init 9 = .ok (.putfield 11, 3) := by decide +kernel
theorem dX5_init_12 : decode cX5_init 12 = .ok (.aload_n 0, 1) := by decide +kernel
theorem dX5_init_13 : decode cX5_init 13 = .ok (.iconst 0, 1) := by decide +kernel
theorem dX5_init_14 : decode cX5_init 14 = .ok (.putfield 15, 3) := by decide +kernel
theorem dX5_init_17 : decode cX5_init 17 = .ok (.aload_n 0, 1) := by decide +kernel
theorem dX5_init_18 : decode cX5_init 18 = .ok (.iconst 0, 1) := by decide +kernel
theorem dX5_init_19 : decode cX5_init 19 = .ok (.putfield 19, 3) := by decide +kernel
theorem dX5_init_22 : decode cX5_init 22 = .ok (.return_, 1) := by decide +kernel
theorem dX5_remember_0 : decode cX5_remember 0 = .ok (.aload_n 1, 1) := by decide +kernel
theorem dX5_remember_1 : decode cX5_remember 1 = .ok (.iconst 0, 1) := by decide +kernel
theorem dX5_remember_2 : decode cX5_remember 2 = .ok (.aload_n 0, 1) := by decide +kernel
theorem dX5_remember_3 : decode cX5_remember 3 = .ok (.getfield 11, 3) := by decide +kernel
theorem dX5_remember_6 : decode cX5_remember 6 = .ok (.aload_n 0, 1) := by decide +kernel
theorem dX5_remember_7 : decode cX5_remember 7 = .ok (.getfield 19, 3) := by decide +kernel
theorem dX5_remember_10 : decode cX5_remember 10 = .ok (.iconst 3, 1) := by decide +kernel
theorem dX5_remember_11 : decode cX5_remember 11 = .ok (.imul, 1) := by decide +kernel
theorem dX5_remember_12 : decode cX5_remember 12 = .ok (.iconst 3, 1) := by decide +kernel
theorem dX5_remember_13 : decode cX5_remember 13 = .ok (.invokestatic 22, 3) := by decide +kernel
theorem dX5_remember_16 : decode cX5_remember 16 = .ok (.aload_n 0, 1) := by decide +kernel
theorem dX5_remember_17 : decode cX5_remember 17 = .ok (.aload_n 0, 1) := by decide +kernel
theorem dX5_remember_18 : decode cX5_remember 18 = .ok (.getfield 19, 3) := by decide +kernel
theorem dX5_remember_21 : decode cX5_remember 21 = .ok (.iconst 1, 1) := by decide +kernel
theorem dX5_remember_22 : decode cX5_remember 22 = .ok (.iadd, 1) := by decide +kernel
theorem dX5_remember_23 : decode cX5_remember 23 = .ok (.bipush 16, 2) := by decide +kernel
theorem dX5_remember_25 : decode cX5_remember 25 = .ok (.if_icmp .ge 12, 3) := by decide +kernel
theorem dX5_remember_28 : decode cX5_remember 28 = .ok (.aload_n 0, 1) := by decide +kernel
theorem dX5_remember_29 : decode cX5_remember 29 = .ok (.getfield 19, 3) := by decide +kernel
theorem dX5_remember_32 : decode cX5_remember 32 = .ok (.iconst 1, 1) := by decide +kernel
theorem dX5_remember_33 : decode cX5_remember 33 = .ok (.iadd, 1) := by decide +kernel
theorem dX5_remember_34 : decode cX5_remember 34 = .ok (.goto 4, 3) := by decide +kernel
theorem dX5_remember_37 : decode cX5_remember 37 = .ok (.iconst 0, 1) := by decide +kernel
theorem dX5_remember_38 : decode cX5_remember 38 = .ok (.putfield 19, 3) := by decide +kernel
theorem dX5_remember_41 : decode cX5_remember 41 = .ok (.aload_n 0, 1) := by decide +kernel
theorem dX5_remember_42 : decode cX5_remember 42 = .ok (.aload_n 0, 1) := by decide +kernel
theorem dX5_remember_43 : decode cX5_remember 43 = .ok (.getfield 15, 3) := by decide +kernel
theorem dX5_remember_46 : decode cX5_remember 46 = .ok (.iconst 1, 1) := by decide +kernel
theorem dX5_remember_47 : decode cX5_remember 47 = .ok (.iadd, 1) := by decide +kernel
theorem dX5_remember_48 : decode cX5_remember 48 = .ok (.bipush 16, 2) := by decide +kernel
theorem dX5_remember_50 : decode cX5_remember 50 = .ok (.invokestatic 28, 3) := by decide +kernel
theorem dX5_remember_53 : decode cX5_remember 53 = .ok (.putfield 15, 3) := by decide +kernel
theorem dX5_remember_56 : decode cX5_remember 56 = .ok (.return_, 1) := by decide +kernel
theorem dX5_stepsSince_0 : decode cX5_stepsSince 0 = .ok (.aload_n 0, 1) := by decide +kernel
theorem dX5_stepsSince_1 : decode cX5_stepsSince 1 = .ok (.getfield 19, 3) := by decide +kernel
theorem dX5_stepsSince_4 : decode cX5_stepsSince 4 = .ok (.istore_n 2, 1) := by decide +kernel
theorem dX5_stepsSince_5 : decode cX5_stepsSince 5 = .ok (.iconst 0, 1) := by decide +kernel
theorem dX5_stepsSince_6 : decode cX5_stepsSince 6 = .ok (.istore_n 3, 1) := by decide +kernel
theorem dX5_stepsSince_7 : decode cX5_stepsSince 7 = .ok (.iload_n 3, 1) := by decide +kernel
theorem dX5_stepsSince_8 : decode cX5_stepsSince 8 = .ok (.aload_n 0, 1) := by decide +kernel
theorem dX5_stepsSince_9 : decode cX5_stepsSince 9 = .ok (.getfield 15, 3) := by decide +kernel
theorem dX5_stepsSince_12 : decode cX5_stepsSince 12 = .ok (.if_icmp .ge 34, 3) := by decide +kernel
theorem dX5_stepsSince_15 : decode cX5_stepsSince 15 = .ok (.iload_n 2, 1) := by decide +kernel
theorem dX5_stepsSince_16 : decode cX5_stepsSince 16 = .ok (.ifCond .le 9, 3) := by decide +kernel
theorem dX5_stepsSince_19 : decode cX5_stepsSince 19 = .ok (.iload_n 2, 1) := by decide +kernel
theorem dX5_stepsSince_20 : decode cX5_stepsSince 20 = .ok (.iconst 1, 1) := by decide +kernel
theorem dX5_stepsSince_21 : decode cX5_stepsSince 21 = .ok (.isub, 1) := by decide +kernel
theorem dX5_stepsSince_22 : decode cX5_stepsSince 22 = .ok (.goto 5, 3) := by decide +kernel
theorem dX5_stepsSince_25 : decode cX5_stepsSince 25 = .ok (.bipush 15, 2) := by decide +kernel
theorem dX5_stepsSince_27 : decode cX5_stepsSince 27 = .ok (.istore_n 2, 1) := by decide +kernel
theorem dX5_stepsSince_28 : decode cX5_stepsSince 28 = .ok (.aload_n 0, 1) := by decide +kernel
theorem dX5_stepsSince_29 : decode cX5_stepsSince 29 = .ok (.iload_n 2, 1) := by decide +kernel
theorem dX5_stepsSince_30 : decode cX5_stepsSince 30 = .ok (.aload_n 1, 1) := by decide +kernel
theorem dX5_stepsSince_31 : decode cX5_stepsSince 31 = .ok (.iconst 0, 1) := by decide +kernel
theorem dX5_stepsSince_32 : decode cX5_stepsSince 32 = .ok (.invokevirtual 34, 3) := by decide +kernel
theorem dX5_stepsSince_35 : decode cX5_stepsSince 35 = .ok (.ifCond .eq 5, 3) := by decide +kernel
theorem dX5_stepsSince_38 : decode cX5_stepsSince 38 = .ok (.iload_n 3, 1) := by decide +kernel
theorem dX5_stepsSince_39 : decode cX5_stepsSince 39 = .ok (.ireturn, 1) := by decide +kernel
theorem dX5_stepsSince_40 : decode cX5_stepsSince 40 = .ok (.iinc 3 1, 3) := by decide +kernel
theorem dX5_stepsSince_43 : decode cX5_stepsSince 43 = .ok (.goto (-36), 3) := by decide +kernel
theorem dX5_stepsSince_46 : decode cX5_stepsSince 46 = .ok (.iconst (-1), 1) := by decide +kernel
theorem dX5_stepsSince_47 : decode cX5_stepsSince 47 = .ok (.ireturn, 1) := by decide +kernel
theorem dX5_countDifferent_0 : decode cX5_countDifferent 0 = .ok (.iconst 0, 1) := by decide +kernel
theorem dX5_countDifferent_1 : decode cX5_countDifferent 1 = .ok (.istore_n 1, 1) := by decide +kernel
theorem dX5_countDifferent_2 : decode cX5_countDifferent 2 = .ok (.iconst 0, 1) := by decide +kernel
theorem dX5_countDifferent_3 : decode cX5_countDifferent 3 = .ok (.istore_n 2, 1) := by decide +kernel
theorem dX5_countDifferent_4 : decode cX5_countDifferent 4 = .ok (.iload_n 2, 1) := by decide +kernel
theorem dX5_countDifferent_5 : decode cX5_countDifferent 5 = .ok (.aload_n 0, 1) := by decide +kernel
theorem dX5_countDifferent_6 : decode cX5_countDifferent 6 = .ok (.getfield 15, 3) := by decide +kernel
theorem dX5_countDifferent_9 : decode cX5_countDifferent 9 = .ok (.if_icmp .ge 25, 3) := by decide +kernel
theorem dX5_countDifferent_12 : decode cX5_countDifferent 12 = .ok (.iload_n 1, 1) := by decide +kernel
theorem dX5_countDifferent_13 : decode cX5_countDifferent 13 = .ok (.aload_n 0, 1) := by decide +kernel
theorem dX5_countDifferent_14 : decode cX5_countDifferent 14 = .ok (.iload_n 2, 1) := by decide +kernel
theorem dX5_countDifferent_15 : decode cX5_countDifferent 15 = .ok (.invokevirtual 38, 3) := by decide +kernel
theorem dX5_countDifferent_18 : decode cX5_countDifferent 18 = .ok (.ifCond .eq 7, 3) := by decide +kernel
theorem dX5_countDifferent_21 : decode cX5_countDifferent 21 = .ok (.iconst 0, 1) := by decide +kernel
theorem dX5_countDifferent_22 : decode cX5_countDifferent 22 = .ok (.goto 4, 3) := by decide +kernel
theorem dX5_countDifferent_25 : decode cX5_countDifferent 25 = .ok (.iconst 1, 1) := by decide +kernel
theorem dX5_countDifferent_26 : decode cX5_countDifferent 26 = .ok (.iadd, 1) := by decide +kernel
theorem dX5_countDifferent_27 : decode cX5_countDifferent 27 = .ok (.istore_n 1, 1) := by decide +kernel
theorem dX5_countDifferent_28 : decode cX5_countDifferent 28 = .ok (.iinc 2 1, 3) := by decide +kernel
theorem dX5_countDifferent_31 : decode cX5_countDifferent 31 = .ok (.goto (-27), 3) := by decide +kernel
theorem dX5_countDifferent_34 : decode cX5_countDifferent 34 = .ok (.iload_n 1, 1) := by decide +kernel
theorem dX5_countDifferent_35 : decode cX5_countDifferent 35 = .ok (.ireturn, 1) := by decide +kernel
theorem dX5_standsBefore_0 : decode cX5_standsBefore 0 = .ok (.iconst 0, 1) := by decide +kernel
theorem dX5_standsBefore_1 : decode cX5_standsBefore 1 = .ok (.istore_n 2, 1) := by decide +kernel
theorem dX5_standsBefore_2 : decode cX5_standsBefore 2 = .ok (.iload_n 2, 1) := by decide +kernel
theorem dX5_standsBefore_3 : decode cX5_standsBefore 3 = .ok (.iload_n 1, 1) := by decide +kernel
theorem dX5_standsBefore_4 : decode cX5_standsBefore 4 = .ok (.if_icmp .ge 24, 3) := by decide +kernel
theorem dX5_standsBefore_7 : decode cX5_standsBefore 7 = .ok (.aload_n 0, 1) := by decide +kernel
theorem dX5_standsBefore_8 : decode cX5_standsBefore 8 = .ok (.iload_n 2, 1) := by decide +kernel
theorem dX5_standsBefore_9 : decode cX5_standsBefore 9 = .ok (.aload_n 0, 1) := by decide +kernel
theorem dX5_standsBefore_10 : decode cX5_standsBefore 10 = .ok (.getfield 11, 3) := by decide +kernel
theorem dX5_standsBefore_13 : decode cX5_standsBefore 13 = .ok (.iload_n 1, 1) := by decide +kernel
theorem dX5_standsBefore_14 : decode cX5_standsBefore 14 = .ok (.invokevirtual 34, 3) := by decide +kernel
theorem dX5_standsBefore_17 : decode cX5_standsBefore 17 = .ok (.ifCond .eq 5, 3) := by decide +kernel
theorem dX5_standsBefore_20 : decode cX5_standsBefore 20 = .ok (.iconst 1, 1) := by decide +kernel
theorem dX5_standsBefore_21 : decode cX5_standsBefore 21 = .ok (.ireturn, 1) := by decide +kernel
theorem dX5_standsBefore_22 : decode cX5_standsBefore 22 = .ok (.iinc 2 1, 3) := by decide +kernel
theorem dX5_standsBefore_25 : decode cX5_standsBefore 25 = .ok (.goto (-23), 3) := by decide +kernel
theorem dX5_standsBefore_28 : decode cX5_standsBefore 28 = .ok (.iconst 0, 1) := by decide +kernel
theorem dX5_standsBefore_29 : decode cX5_standsBefore 29 = .ok (.ireturn, 1) := by decide +kernel
theorem dX5_holds_0 : decode cX5_holds 0 = .ok (.iconst 0, 1) := by decide +kernel
theorem dX5_holds_1 : decode cX5_holds 1 = .ok (.istore 4, 2) := by decide +kernel
theorem dX5_holds_3 : decode cX5_holds 3 = .ok (.iload 4, 2) := by decide +kernel
theorem dX5_holds_5 : decode cX5_holds 5 = .ok (.iconst 3, 1) := by decide +kernel
theorem dX5_holds_6 : decode cX5_holds 6 = .ok (.if_icmp .ge 34, 3) := by decide +kernel
theorem dX5_holds_9 : decode cX5_holds 9 = .ok (.aload_n 0, 1) := by decide +kernel
theorem dX5_holds_10 : decode cX5_holds 10 = .ok (.getfield 11, 3) := by decide +kernel
theorem dX5_holds_13 : decode cX5_holds 13 = .ok (.iload_n 1, 1) := by decide +kernel
theorem dX5_holds_14 : decode cX5_holds 14 = .ok (.iconst 3, 1) := by decide +kernel
theorem dX5_holds_15 : decode cX5_holds 15 = .ok (.imul, 1) := by decide +kernel
theorem dX5_holds_16 : decode cX5_holds 16 = .ok (.iload 4, 2) := by decide +kernel
theorem dX5_holds_18 : decode cX5_holds 18 = .ok (.iadd, 1) := by decide +kernel
theorem dX5_holds_19 : decode cX5_holds 19 = .ok (.laload, 1) := by decide +kernel
theorem dX5_holds_20 : decode cX5_holds 20 = .ok (.aload_n 2, 1) := by decide +kernel
theorem dX5_holds_21 : decode cX5_holds 21 = .ok (.iload_n 3, 1) := by decide +kernel
theorem dX5_holds_22 : decode cX5_holds 22 = .ok (.iconst 3, 1) := by decide +kernel
theorem dX5_holds_23 : decode cX5_holds 23 = .ok (.imul, 1) := by decide +kernel
theorem dX5_holds_24 : decode cX5_holds 24 = .ok (.iload 4, 2) := by decide +kernel
theorem dX5_holds_26 : decode cX5_holds 26 = .ok (.iadd, 1) := by decide +kernel
theorem dX5_holds_27 : decode cX5_holds 27 = .ok (.laload, 1) := by decide +kernel
theorem dX5_holds_28 : decode cX5_holds 28 = .ok (.lcmp, 1) := by decide +kernel
theorem dX5_holds_29 : decode cX5_holds 29 = .ok (.ifCond .eq 5, 3) := by decide +kernel
theorem dX5_holds_32 : decode cX5_holds 32 = .ok (.iconst 0, 1) := by decide +kernel
theorem dX5_holds_33 : decode cX5_holds 33 = .ok (.ireturn, 1) := by decide +kernel
theorem dX5_holds_34 : decode cX5_holds 34 = .ok (.iinc 4 1, 3) := by decide +kernel
theorem dX5_holds_37 : decode cX5_holds 37 = .ok (.goto (-34), 3) := by decide +kernel
theorem dX5_holds_40 : decode cX5_holds 40 = .ok (.iconst 1, 1) := by decide +kernel
theorem dX5_holds_41 : decode cX5_holds 41 = .ok (.ireturn, 1) := by decide +kernel
theorem dX5_copyFrom_0 : decode cX5_copyFrom 0 = .ok (.aload_n 1, 1) := by decide +kernel
theorem dX5_copyFrom_1 : decode cX5_copyFrom 1 = .ok (.getfield 11, 3) := by decide +kernel
theorem dX5_copyFrom_4 : decode cX5_copyFrom 4 = .ok (.iconst 0, 1) := by decide +kernel
theorem dX5_copyFrom_5 : decode cX5_copyFrom 5 = .ok (.aload_n 0, 1) := by decide +kernel
theorem dX5_copyFrom_6 : decode cX5_copyFrom 6 = .ok (.getfield 11, 3) := by decide +kernel
theorem dX5_copyFrom_9 : decode cX5_copyFrom 9 = .ok (.iconst 0, 1) := by decide +kernel
theorem dX5_copyFrom_10 : decode cX5_copyFrom 10 = .ok (.bipush 48, 2) := by decide +kernel
theorem dX5_copyFrom_12 : decode cX5_copyFrom 12 = .ok (.invokestatic 22, 3) := by decide +kernel
theorem dX5_copyFrom_15 : decode cX5_copyFrom 15 = .ok (.aload_n 0, 1) := by decide +kernel
theorem dX5_copyFrom_16 : decode cX5_copyFrom 16 = .ok (.aload_n 1, 1) := by decide +kernel
theorem dX5_copyFrom_17 : decode cX5_copyFrom 17 = .ok (.getfield 15, 3) := by decide +kernel
theorem dX5_copyFrom_20 : decode cX5_copyFrom 20 = .ok (.putfield 15, 3) := by decide +kernel
theorem dX5_copyFrom_23 : decode cX5_copyFrom 23 = .ok (.aload_n 0, 1) := by decide +kernel
theorem dX5_copyFrom_24 : decode cX5_copyFrom 24 = .ok (.aload_n 1, 1) := by decide +kernel
theorem dX5_copyFrom_25 : decode cX5_copyFrom 25 = .ok (.getfield 19, 3) := by decide +kernel
theorem dX5_copyFrom_28 : decode cX5_copyFrom 28 = .ok (.putfield 19, 3) := by decide +kernel
theorem dX5_copyFrom_31 : decode cX5_copyFrom 31 = .ok (.return_, 1) := by decide +kernel
theorem dX6_init_0 : decode cX6_init 0 = .ok (.aload_n 0, 1) := by decide +kernel
theorem dX6_init_1 : decode cX6_init 1 = .ok (.invokespecial 1, 3) := by decide +kernel
theorem dX6_init_4 : decode cX6_init 4 = .ok (.aload_n 0, 1) := by decide +kernel
theorem dX6_init_5 : decode cX6_init 5 = .ok (.new 7, 3) := by decide +kernel
theorem dX6_init_8 : decode cX6_init 8 = .ok (.dup, 1) := by decide +kernel
theorem dX6_init_9 : decode cX6_init 9 = .ok (.invokespecial 9, 3) := by decide +kernel
theorem dX6_init_12 : decode cX6_init 12 = .ok (.putfield 10, 3) := by decide +kernel
theorem dX6_init_15 : decode cX6_init 15 = .ok (.aload_n 0, 1) := by decide +kernel
theorem dX6_init_16 : decode cX6_init 16 = .ok (.new 7, 3) := by decide +kernel
theorem dX6_init_19 : decode cX6_init 19 = .ok (.dup, 1) := by decide +kernel
theorem dX6_init_20 : decode cX6_init 20 = .ok (.invokespecial 9, 3) := by decide +kernel
theorem dX6_init_23 : decode cX6_init 23 = .ok (.putfield 16, 3) := by decide +kernel
theorem dX6_init_26 : decode cX6_init 26 = .ok (.aload_n 0, 1) := by decide +kernel
theorem dX6_init_27 : decode cX6_init 27 = .ok (.new 7, 3) := by decide +kernel
theorem dX6_init_30 : decode cX6_init 30 = .ok (.dup, 1) := by decide +kernel
theorem dX6_init_31 : decode cX6_init 31 = .ok (.invokespecial 9, 3) := by decide +kernel
theorem dX6_init_34 : decode cX6_init 34 = .ok (.putfield 19, 3) := by decide +kernel
theorem dX6_init_37 : decode cX6_init 37 = .ok (.aload_n 0, 1) := by decide +kernel
theorem dX6_init_38 : decode cX6_init 38 = .ok (.iconst 0, 1) := by decide +kernel
theorem dX6_init_39 : decode cX6_init 39 = .ok (.putfield 22, 3) := by decide +kernel
theorem dX6_init_42 : decode cX6_init 42 = .ok (.aload_n 0, 1) := by decide +kernel
theorem dX6_init_43 : decode cX6_init 43 = .ok (.new 26, 3) := by decide +kernel
theorem dX6_init_46 : decode cX6_init 46 = .ok (.dup, 1) := by decide +kernel
theorem dX6_init_47 : decode cX6_init 47 = .ok (.invokespecial 28, 3) := by decide +kernel
theorem dX6_init_50 : decode cX6_init 50 = .ok (.putfield 29, 3) := by decide +kernel
theorem dX6_init_53 : decode cX6_init 53 = .ok (.aload_n 0, 1) := by decide +kernel
theorem dX6_init_54 : decode cX6_init 54 = .ok (.new 33, 3) := by decide +kernel
theorem dX6_init_57 : decode cX6_init 57 = .ok (.dup, 1) := by decide +kernel
theorem dX6_init_58 : decode cX6_init 58 = .ok (.invokespecial 35, 3) := by decide +kernel
theorem dX6_init_61 : decode cX6_init 61 = .ok (.putfield 36, 3) := by decide +kernel
theorem dX6_init_64 : decode cX6_init 64 = .ok (.aload_n 0, 1) := by decide +kernel
theorem dX6_init_65 : decode cX6_init 65 = .ok (.new 40, 3) := by decide +kernel
theorem dX6_init_68 : decode cX6_init 68 = .ok (.dup, 1) := by decide +kernel
theorem dX6_init_69 : decode cX6_init 69 = .ok (.invokespecial 42, 3) := by decide +kernel
theorem dX6_init_72 : decode cX6_init 72 = .ok (.putfield 43, 3) := by decide +kernel
theorem dX6_init_75 : decode cX6_init 75 = .ok (.aload_n 0, 1) := by decide +kernel
theorem dX6_init_76 : decode cX6_init 76 = .ok (.iconst (-1), 1) := by decide +kernel
theorem dX6_init_77 : decode cX6_init 77 = .ok (.putfield 47, 3) := by decide +kernel
theorem dX6_init_80 : decode cX6_init 80 = .ok (.aload_n 0, 1) := by decide +kernel
theorem dX6_init_81 : decode cX6_init 81 = .ok (.iconst (-1), 1) := by decide +kernel
theorem dX6_init_82 : decode cX6_init 82 = .ok (.putfield 51, 3) := by decide +kernel
theorem dX6_init_85 : decode cX6_init 85 = .ok (.aload_n 0, 1) := by decide +kernel
theorem dX6_init_86 : decode cX6_init 86 = .ok (.iconst (-1), 1) := by decide +kernel
theorem dX6_init_87 : decode cX6_init 87 = .ok (.putfield 54, 3) := by decide +kernel
theorem dX6_init_90 : decode cX6_init 90 = .ok (.aload_n 0, 1) := by decide +kernel
theorem dX6_init_91 : decode cX6_init 91 = .ok (.iconst (-1), 1) := by decide +kernel
theorem dX6_init_92 : decode cX6_init 92 = .ok (.putfield 57, 3) := by decide +kernel
theorem dX6_init_95 : decode cX6_init 95 = .ok (.aload_n 0, 1) := by decide +kernel
theorem dX6_init_96 : decode cX6_init 96 = .ok (.bipush 12, 2) := by decide +kernel
theorem dX6_init_98 : decode cX6_init 98 = .ok (.newarray .char, 2) := by decide +kernel
theorem dX6_init_100 : decode cX6_init 100 = .ok (.putfield 60, 3) := by decide +kernel
theorem dX6_init_103 : decode cX6_init 103 = .ok (.aload_n 0, 1) := by decide +kernel
theorem dX6_init_104 : decode cX6_init 104 = .ok (.iconst 0, 1) := by decide +kernel
theorem dX6_init_105 : decode cX6_init 105 = .ok (.putfield 64, 3) := by decide +kernel
theorem dX6_init_108 : decode cX6_init 108 = .ok (.return_, 1) := by decide +kernel
theorem dX6_addBasket_0 : decode cX6_addBasket 0 = .ok (.aload_n 0, 1) := by decide +kernel
theorem dX6_addBasket_1 : decode cX6_addBasket 1 = .ok (.iconst 0, 1) := by decide +kernel
theorem dX6_addBasket_2 : decode cX6_addBasket 2 = .ok (.iload_n 1, 1) := by decide +kernel
theorem dX6_addBasket_3 : decode cX6_addBasket 3 = .ok (.iload_n 2, 1) := by decide +kernel
theorem dX6_addBasket_4 : decode cX6_addBasket 4 = .ok (.iload_n 3, 1) := by decide +kernel
theorem dX6_addBasket_5 : decode cX6_addBasket 5 = .ok (.invokevirtual 67, 3) := by decide +kernel
theorem dX6_addBasket_8 : decode cX6_addBasket 8 = .ok (.aload_n 0, 1) := by decide +kernel
theorem dX6_addBasket_9 : decode cX6_addBasket 9 = .ok (.getfield 10, 3) := by decide +kernel
theorem dX6_addBasket_12 : decode cX6_addBasket 12 = .ok (.iload_n 1, 1) := by decide +kernel
theorem dX6_addBasket_13 : decode cX6_addBasket 13 = .ok (.iload_n 2, 1) := by decide +kernel
theorem dX6_addBasket_14 : decode cX6_addBasket 14 = .ok (.iload_n 3, 1) := by decide +kernel
theorem dX6_addBasket_15 : decode cX6_addBasket 15 = .ok (.invokevirtual 71, 3) := by decide +kernel
theorem dX6_addBasket_18 : decode cX6_addBasket 18 = .ok (.ireturn, 1) := by decide +kernel
theorem dX6_jump_0 : decode cX6_jump 0 = .ok (.aload_n 0, 1) := by decide +kernel
theorem dX6_jump_1 : decode cX6_jump 1 = .ok (.iconst 1, 1) := by decide +kernel
theorem dX6_jump_2 : decode cX6_jump 2 = .ok (.iload_n 1, 1) := by decide +kernel
theorem dX6_jump_3 : decode cX6_jump 3 = .ok (.iload_n 2, 1) := by decide +kernel
theorem dX6_jump_4 : decode cX6_jump 4 = .ok (.iload_n 3, 1) := by decide +kernel
theorem dX6_jump_5 : decode cX6_jump 5 = .ok (.invokevirtual 67, 3) := by decide +kernel
theorem dX6_jump_8 : decode cX6_jump 8 = .ok (.aload_n 0, 1) := by decide +kernel
theorem dX6_jump_9 : decode cX6_jump 9 = .ok (.getfield 10, 3) := by decide +kernel
theorem dX6_jump_12 : decode cX6_jump 12 = .ok (.iload_n 1, 1) := by decide +kernel
theorem dX6_jump_13 : decode cX6_jump 13 = .ok (.iload_n 2, 1) := by decide +kernel
theorem dX6_jump_14 : decode cX6_jump 14 = .ok (.iload_n 3, 1) := by decide +kernel
theorem dX6_jump_15 : decode cX6_jump 15 = .ok (.invokevirtual 75, 3) := by decide +kernel
theorem dX6_jump_18 : decode cX6_jump 18 = .ok (.ireturn, 1) := by decide +kernel
theorem dX6_setHandle_0 : decode cX6_setHandle 0 = .ok (.aload_n 0, 1) := by decide +kernel
theorem dX6_setHandle_1 : decode cX6_setHandle 1 = .ok (.iconst 2, 1) := by decide +kernel
theorem dX6_setHandle_2 : decode cX6_setHandle 2 = .ok (.iload_n 1, 1) := by decide +kernel
theorem dX6_setHandle_3 : decode cX6_setHandle 3 = .ok (.iload_n 2, 1) := by decide +kernel
theorem dX6_setHandle_4 : decode cX6_setHandle 4 = .ok (.iconst 0, 1) := by decide +kernel
theorem dX6_setHandle_5 : decode cX6_setHandle 5 = .ok (.invokevirtual 67, 3) := by decide +kernel
theorem dX6_setHandle_8 : decode cX6_setHandle 8 = .ok (.aload_n 0, 1) := by decide +kernel
theorem dX6_setHandle_9 : decode cX6_setHandle 9 = .ok (.getfield 10, 3) := by decide +kernel
theorem dX6_setHandle_12 : decode cX6_setHandle 12 = .ok (.iload_n 1, 1) := by decide +kernel
theorem dX6_setHandle_13 : decode cX6_setHandle 13 = .ok (.iload_n 2, 1) := by decide +kernel
theorem dX6_setHandle_14 : decode cX6_setHandle 14 = .ok (.invokevirtual 78, 3) := by decide +kernel
theorem dX6_setHandle_17 : decode cX6_setHandle 17 = .ok (.ireturn, 1) := by decide +kernel
theorem dX6_basketCount_0 : decode cX6_basketCount 0 = .ok (.aload_n 0, 1) := by decide +kernel
theorem dX6_basketCount_1 : decode cX6_basketCount 1 = .ok (.getfield 10, 3) := by decide +kernel
theorem dX6_basketCount_4 : decode cX6_basketCount 4 = .ok (.getfield 82, 3) := by decide +kernel
theorem dX6_basketCount_7 : decode cX6_basketCount 7 = .ok (.ireturn, 1) := by decide +kernel
theorem dX6_xOf_0 : decode cX6_xOf 0 = .ok (.aload_n 0, 1) := by decide +kernel
theorem dX6_xOf_1 : decode cX6_xOf 1 = .ok (.iload_n 1, 1) := by decide +kernel
theorem dX6_xOf_2 : decode cX6_xOf 2 = .ok (.invokevirtual 85, 3) := by decide +kernel
theorem dX6_xOf_5 : decode cX6_xOf 5 = .ok (.aload_n 0, 1) := by decide +kernel
theorem dX6_xOf_6 : decode cX6_xOf 6 = .ok (.getfield 10, 3) := by decide +kernel
theorem dX6_xOf_9 : decode cX6_xOf 9 = .ok (.getfield 89, 3) := by decide +kernel
theorem dX6_xOf_12 : decode cX6_xOf 12 = .ok (.iload_n 1, 1) := by decide +kernel
theorem dX6_xOf_13 : decode cX6_xOf 13 = .ok (.iaload, 1) := by decide +kernel
theorem dX6_xOf_14 : decode cX6_xOf 14 = .ok (.ireturn, 1) := by decide +kernel
theorem dX6_yOf_0 : decode cX6_yOf 0 = .ok (.aload_n 0, 1) := by decide +kernel
theorem dX6_yOf_1 : decode cX6_yOf 1 = .ok (.iload_n 1, 1) := by decide +kernel
theorem dX6_yOf_2 : decode cX6_yOf 2 = .ok (.invokevirtual 85, 3) := by decide +kernel
theorem dX6_yOf_5 : decode cX6_yOf 5 = .ok (.aload_n 0, 1) := by decide +kernel
theorem dX6_yOf_6 : decode cX6_yOf 6 = .ok (.getfield 10, 3) := by decide +kernel
theorem dX6_yOf_9 : decode cX6_yOf 9 = .ok (.getfield 93, 3) := by decide +kernel
theorem dX6_yOf_12 : decode cX6_yOf 12 = .ok (.iload_n 1, 1) := by decide +kernel
theorem dX6_yOf_13 : decode cX6_yOf 13 = .ok (.iaload, 1) := by decide +kernel
theorem dX6_yOf_14 : decode cX6_yOf 14 = .ok (.ireturn, 1) := by decide +kernel
theorem dX6_handleOf_0 : decode cX6_handleOf 0 = .ok (.aload_n 0, 1) := by decide +kernel
theorem dX6_handleOf_1 : decode cX6_handleOf 1 = .ok (.iload_n 1, 1) := by decide +kernel
theorem dX6_handleOf_2 : decode cX6_handleOf 2 = .ok (.invokevirtual 85, 3) := by decide +kernel
theorem dX6_handleOf_5 : decode cX6_handleOf 5 = .ok (.aload_n 0, 1) := by decide +kernel
theorem dX6_handleOf_6 : decode cX6_handleOf 6 = .ok (.getfield 10, 3) := by decide +kernel
theorem dX6_handleOf_9 : decode cX6_handleOf 9 = .ok (.getfield 96, 3) := by decide +kernel
theorem dX6_handleOf_12 : decode cX6_handleOf 12 = .ok (.iload_n 1, 1) := by decide +kernel
theorem dX6_handleOf_13 : decode cX6_handleOf 13 = .ok (.iaload, 1) := by decide +kernel
theorem dX6_handleOf_14 : decode cX6_handleOf 14 = .ok (.ireturn, 1) := by decide +kernel
theorem dX6_basketAt_0 : decode cX6_basketAt 0 = .ok (.aload_n 0, 1) := by decide +kernel
theorem dX6_basketAt_1 : decode cX6_basketAt 1 = .ok (.iload_n 1, 1) := by decide +kernel
theorem dX6_basketAt_2 : decode cX6_basketAt 2 = .ok (.iload_n 2, 1) := by decide +kernel
theorem dX6_basketAt_3 : decode cX6_basketAt 3 = .ok (.invokevirtual 99, 3) := by decide +kernel
theorem dX6_basketAt_6 : decode cX6_basketAt 6 = .ok (.aload_n 0, 1) := by decide +kernel
theorem dX6_basketAt_7 : decode cX6_basketAt 7 = .ok (.getfield 10, 3) := by decide +kernel
theorem dX6_basketAt_10 : decode cX6_basketAt 10 = .ok (.iload_n 1, 1) := by decide +kernel
theorem dX6_basketAt_11 : decode cX6_basketAt 11 = .ok (.iload_n 2, 1) := by decide +kernel
theorem dX6_basketAt_12 : decode cX6_basketAt 12 = .ok (.invokevirtual 103, 3) := by decide +kernel
theorem dX6_basketAt_15 : decode cX6_basketAt 15 = .ok (.istore_n 3, 1) := by decide +kernel
theorem dX6_basketAt_16 : decode cX6_basketAt 16 = .ok (.iload_n 3, 1) := by decide +kernel
theorem dX6_basketAt_17 : decode cX6_basketAt 17 = .ok (.iconst (-1), 1) := by decide +kernel
theorem dX6_basketAt_18 : decode cX6_basketAt 18 = .ok (.if_icmp .ne 13, 3) := by decide +kernel
theorem dX6_basketAt_21 : decode cX6_basketAt 21 = .ok (.new 106, 3) := by decide +kernel
theorem dX6_basketAt_24 : decode cX6_basketAt 24 = .ok (.dup, 1) := by decide +kernel
theorem dX6_basketAt_25 : decode cX6_basketAt 25 = .ok (.ldc 108, 2) := by decide +kernel
theorem dX6_basketAt_27 : decode cX6_basketAt 27 = .ok (.invokespecial 110, 3) := by decide +kernel
theorem dX6_basketAt_30 : decode cX6_basketAt 30 = .ok (.athrow, 1) := by decide +kernel
theorem dX6_basketAt_31 : decode cX6_basketAt 31 = .ok (.iload_n 3, 1) := by decide +kernel
theorem dX6_basketAt_32 : decode cX6_basketAt 32 = .ok (.ireturn, 1) := by decide +kernel
theorem dX6_distance_0 : decode cX6_distance 0 = .ok (.aload_n 0, 1) := by decide +kernel
theorem dX6_distance_1 : decode cX6_distance 1 = .ok (.iload_n 1, 1) := by decide +kernel
theorem dX6_distance_2 : decode cX6_distance 2 = .ok (.invokevirtual 85, 3) := by decide +kernel
theorem dX6_distance_5 : decode cX6_distance 5 = .ok (.aload_n 0, 1) := by decide +kernel
theorem dX6_distance_6 : decode cX6_distance 6 = .ok (.iload_n 2, 1) := by decide +kernel
theorem dX6_distance_7 : decode cX6_distance 7 = .ok (.invokevirtual 85, 3) := by decide +kernel
theorem dX6_distance_10 : decode cX6_distance 10 = .ok (.aload_n 0, 1) := by decide +kernel
theorem dX6_distance_11 : decode cX6_distance 11 = .ok (.getfield 10, 3) := by decide +kernel
theorem dX6_distance_14 : decode cX6_distance 14 = .ok (.iload_n 1, 1) := by decide +kernel
theorem dX6_distance_15 : decode cX6_distance 15 = .ok (.iload_n 2, 1) := by decide +kernel
theorem dX6_distance_16 : decode cX6_distance 16 = .ok (.invokevirtual 113, 3) := by decide +kernel
theorem dX6_distance_19 : decode cX6_distance 19 = .ok (.ireturn, 1) := by decide +kernel
theorem dX6_nearestTo_0 : decode cX6_nearestTo 0 = .ok (.aload_n 0, 1) := by decide +kernel
theorem dX6_nearestTo_1 : decode cX6_nearestTo 1 = .ok (.iload_n 1, 1) := by decide +kernel
theorem dX6_nearestTo_2 : decode cX6_nearestTo 2 = .ok (.invokevirtual 85, 3) := by decide +kernel
theorem dX6_nearestTo_5 : decode cX6_nearestTo 5 = .ok (.aload_n 0, 1) := by decide +kernel
theorem dX6_nearestTo_6 : decode cX6_nearestTo 6 = .ok (.getfield 10, 3) := by decide +kernel
theorem dX6_nearestTo_9 : decode cX6_nearestTo 9 = .ok (.iload_n 1, 1) := by decide +kernel
theorem dX6_nearestTo_10 : decode cX6_nearestTo 10 = .ok (.invokevirtual 116, 3) := by decide +kernel
theorem dX6_nearestTo_13 : decode cX6_nearestTo 13 = .ok (.istore_n 2, 1) := by decide +kernel
theorem dX6_nearestTo_14 : decode cX6_nearestTo 14 = .ok (.iload_n 2, 1) := by decide +kernel
theorem dX6_nearestTo_15 : decode cX6_nearestTo 15 = .ok (.iconst (-1), 1) := by decide +kernel
theorem dX6_nearestTo_16 : decode cX6_nearestTo 16 = .ok (.if_icmp .ne 13, 3) := by decide +kernel
theorem dX6_nearestTo_19 : decode cX6_nearestTo 19 = .ok (.new 106, 3) := by decide +kernel
theorem dX6_nearestTo_22 : decode cX6_nearestTo 22 = .ok (.dup, 1) := by decide +kernel
theorem dX6_nearestTo_23 : decode cX6_nearestTo 23 = .ok (.ldc 120, 2) := by decide +kernel
theorem dX6_nearestTo_25 : decode cX6_nearestTo 25 = .ok (.invokespecial 110, 3) := by decide +kernel
theorem dX6_nearestTo_28 : decode cX6_nearestTo 28 = .ok (.athrow, 1) := by decide +kernel
theorem dX6_nearestTo_29 : decode cX6_nearestTo 29 = .ok (.iload_n 2, 1) := by decide +kernel
theorem dX6_nearestTo_30 : decode cX6_nearestTo 30 = .ok (.ireturn, 1) := by decide +kernel
theorem dX6_refusalReason_0 : decode cX6_refusalReason 0 = .ok (.aload_n 0, 1) := by decide +kernel
theorem dX6_refusalReason_1 : decode cX6_refusalReason 1 = .ok (.invokevirtual 122, 3) := by decide +kernel
theorem dX6_refusalReason_4 : decode cX6_refusalReason 4 = .ok (.aload_n 0, 1) := by decide +kernel
theorem dX6_refusalReason_5 : decode cX6_refusalReason 5 = .ok (.getfield 54, 3) := by decide +kernel
theorem dX6_refusalReason_8 : decode cX6_refusalReason 8 = .ok (.ireturn, 1) := by decide +kernel
theorem dX6_refusalDetail_0 : decode cX6_refusalDetail 0 = .ok (.aload_n 0, 1) := by decide +kernel
theorem dX6_refusalDetail_1 : decode cX6_refusalDetail 1 = .ok (.invokevirtual 122, 3) := by decide +kernel
theorem dX6_refusalDetail_4 : decode cX6_refusalDetail 4 = .ok (.aload_n 0, 1) := by decide +kernel
theorem dX6_refusalDetail_5 : decode cX6_refusalDetail 5 = .ok (.getfield 57, 3) := by decide +kernel
theorem dX6_refusalDetail_8 : decode cX6_refusalDetail 8 = .ok (.ireturn, 1) := by decide +kernel
theorem dX6_addCloud_0 : decode cX6_addCloud 0 = .ok (.aload_n 0, 1) := by decide +kernel
theorem dX6_addCloud_1 : decode cX6_addCloud 1 = .ok (.iconst 3, 1) := by decide +kernel
theorem dX6_addCloud_2 : decode cX6_addCloud 2 = .ok (.iload_n 1, 1) := by decide +kernel
theorem dX6_addCloud_3 : decode cX6_addCloud 3 = .ok (.iload_n 2, 1) := by decide +kernel
theorem dX6_addCloud_4 : decode cX6_addCloud 4 = .ok (.iconst 0, 1) := by decide +kernel
theorem dX6_addCloud_5 : decode cX6_addCloud 5 = .ok (.invokevirtual 67, 3) := by decide +kernel
theorem dX6_addCloud_8 : decode cX6_addCloud 8 = .ok (.aload_n 0, 1) := by decide +kernel
theorem dX6_addCloud_9 : decode cX6_addCloud 9 = .ok (.getfield 10, 3) := by decide +kernel
theorem dX6_addCloud_12 : decode cX6_addCloud 12 = .ok (.getfield 125, 3) := by decide +kernel
theorem dX6_addCloud_15 : decode cX6_addCloud 15 = .ok (.iload_n 1, 1) := by decide +kernel
theorem dX6_addCloud_16 : decode cX6_addCloud 16 = .ok (.iload_n 2, 1) := by decide +kernel
theorem dX6_addCloud_17 : decode cX6_addCloud 17 = .ok (.invokevirtual 129, 3) := by decide +kernel
theorem dX6_addCloud_20 : decode cX6_addCloud 20 = .ok (.ireturn, 1) := by decide +kernel
theorem dX6_removeCloud_0 : decode cX6_removeCloud 0 = .ok (.aload_n 0, 1) := by decide +kernel
theorem dX6_removeCloud_1 : decode cX6_removeCloud 1 = .ok (.iconst 4, 1) := by decide +kernel
theorem dX6_removeCloud_2 : decode cX6_removeCloud 2 = .ok (.iload_n 1, 1) := by decide +kernel
theorem dX6_removeCloud_3 : decode cX6_removeCloud 3 = .ok (.iload_n 2, 1) := by decide +kernel
theorem dX6_removeCloud_4 : decode cX6_removeCloud 4 = .ok (.iconst 0, 1) := by decide +kernel
theorem dX6_removeCloud_5 : decode cX6_removeCloud 5 = .ok (.invokevirtual 67, 3) := by decide +kernel
theorem dX6_removeCloud_8 : decode cX6_removeCloud 8 = .ok (.aload_n 0, 1) := by decide +kernel
theorem dX6_removeCloud_9 : decode cX6_removeCloud 9 = .ok (.getfield 10, 3) := by decide +kernel
theorem dX6_removeCloud_12 : decode cX6_removeCloud 12 = .ok (.getfield 125, 3) := by decide +kernel
theorem dX6_removeCloud_15 : decode cX6_removeCloud 15 = .ok (.iload_n 1, 1) := by decide +kernel
theorem dX6_removeCloud_16 : decode cX6_removeCloud 16 = .ok (.iload_n 2, 1) := by decide +kernel
theorem dX6_removeCloud_17 : decode cX6_removeCloud 17 = .ok (.invokevirtual 133, 3) := by decide +kernel
theorem dX6_removeCloud_20 : decode cX6_removeCloud 20 = .ok (.ireturn, 1) := by decide +kernel
theorem dX6_isCloud_0 : decode cX6_isCloud 0 = .ok (.aload_n 0, 1) := by decide +kernel
theorem dX6_isCloud_1 : decode cX6_isCloud 1 = .ok (.iload_n 1, 1) := by decide +kernel
theorem dX6_isCloud_2 : decode cX6_isCloud 2 = .ok (.iload_n 2, 1) := by decide +kernel
theorem dX6_isCloud_3 : decode cX6_isCloud 3 = .ok (.invokevirtual 99, 3) := by decide +kernel
theorem dX6_isCloud_6 : decode cX6_isCloud 6 = .ok (.aload_n 0, 1) := by decide +kernel
theorem dX6_isCloud_7 : decode cX6_isCloud 7 = .ok (.getfield 10, 3) := by decide +kernel
theorem dX6_isCloud_10 : decode cX6_isCloud 10 = .ok (.getfield 125, 3) := by decide +kernel
theorem dX6_isCloud_13 : decode cX6_isCloud 13 = .ok (.iload_n 1, 1) := by decide +kernel
theorem dX6_isCloud_14 : decode cX6_isCloud 14 = .ok (.iload_n 2, 1) := by decide +kernel
theorem dX6_isCloud_15 : decode cX6_isCloud 15 = .ok (.invokevirtual 136, 3) := by decide +kernel
theorem dX6_isCloud_18 : decode cX6_isCloud 18 = .ok (.ireturn, 1) := by decide +kernel
theorem dX6_cloudCount_0 : decode cX6_cloudCount 0 = .ok (.aload_n 0, 1) := by decide +kernel
theorem dX6_cloudCount_1 : decode cX6_cloudCount 1 = .ok (.getfield 10, 3) := by decide +kernel
theorem dX6_cloudCount_4 : decode cX6_cloudCount 4 = .ok (.getfield 125, 3) := by decide +kernel
theorem dX6_cloudCount_7 : decode cX6_cloudCount 7 = .ok (.getfield 140, 3) := by decide +kernel
theorem dX6_cloudCount_10 : decode cX6_cloudCount 10 = .ok (.ireturn, 1) := by decide +kernel
theorem dX6_setTurnLength_0 : decode cX6_setTurnLength 0 = .ok (.aload_n 0, 1) := by decide +kernel
theorem dX6_setTurnLength_1 : decode cX6_setTurnLength 1 = .ok (.iconst 5, 1) := by decide +kernel
theorem dX6_setTurnLength_2 : decode cX6_setTurnLength 2 = .ok (.iload_n 1, 1) := by decide +kernel
theorem dX6_setTurnLength_3 : decode cX6_setTurnLength 3 = .ok (.iconst 0, 1) := by decide +kernel
theorem dX6_setTurnLength_4 : decode cX6_setTurnLength 4 = .ok (.iconst 0, 1) := by decide +kernel
theorem dX6_setTurnLength_5 : decode cX6_setTurnLength 5 = .ok (.invokevirtual 67, 3) := by decide +kernel
theorem dX6_setTurnLength_8 : decode cX6_setTurnLength 8 = .ok (.aload_n 0, 1) := by decide +kernel
theorem dX6_setTurnLength_9 : decode cX6_setTurnLength 9 = .ok (.getfield 10, 3) := by decide +kernel
theorem dX6_setTurnLength_12 : decode cX6_setTurnLength 12 = .ok (.iload_n 1, 1) := by decide +kernel
theorem dX6_setTurnLength_13 : decode cX6_setTurnLength 13 = .ok (.invokevirtual 141, 3) := by decide +kernel
theorem dX6_setTurnLength_16 : decode cX6_setTurnLength 16 = .ok (.ireturn, 1) := by decide +kernel
theorem dX6_turnLength_0 : decode cX6_turnLength 0 = .ok (.aload_n 0, 1) := by decide +kernel
theorem dX6_turnLength_1 : decode cX6_turnLength 1 = .ok (.getfield 10, 3) := by decide +kernel
theorem dX6_turnLength_4 : decode cX6_turnLength 4 = .ok (.getfield 144, 3) := by decide +kernel
theorem dX6_turnLength_7 : decode cX6_turnLength 7 = .ok (.ireturn, 1) := by decide +kernel
theorem dX6_leader_0 : decode cX6_leader 0 = .ok (.aload_n 0, 1) := by decide +kernel
theorem dX6_leader_1 : decode cX6_leader 1 = .ok (.invokevirtual 147, 3) := by decide +kernel
theorem dX6_leader_4 : decode cX6_leader 4 = .ok (.aload_n 0, 1) := by decide +kernel
theorem dX6_leader_5 : decode cX6_leader 5 = .ok (.getfield 10, 3) := by decide +kernel
theorem dX6_leader_8 : decode cX6_leader 8 = .ok (.getfield 150, 3) := by decide +kernel
theorem dX6_leader_11 : decode cX6_leader 11 = .ok (.ireturn, 1) := by decide +kernel
theorem dX6_leaderAfter_0 : decode cX6_leaderAfter 0 = .ok (.aload_n 0, 1) := by decide +kernel
theorem dX6_leaderAfter_1 : decode cX6_leaderAfter 1 = .ok (.iload_n 1, 1) := by decide +kernel
theorem dX6_leaderAfter_2 : decode cX6_leaderAfter 2 = .ok (.invokevirtual 153, 3) := by decide +kernel
theorem dX6_leaderAfter_5 : decode cX6_leaderAfter 5 = .ok (.aload_n 0, 1) := by decide +kernel
theorem dX6_leaderAfter_6 : decode cX6_leaderAfter 6 = .ok (.invokevirtual 147, 3) := by decide +kernel
theorem dX6_leaderAfter_9 : decode cX6_leaderAfter 9 = .ok (.aload_n 0, 1) := by decide +kernel
theorem dX6_leaderAfter_10 : decode cX6_leaderAfter 10 = .ok (.getfield 10, 3) := by decide +kernel
theorem dX6_leaderAfter_13 : decode cX6_leaderAfter 13 = .ok (.iload_n 1, 1) := by decide +kernel
theorem dX6_leaderAfter_14 : decode cX6_leaderAfter 14 = .ok (.invokevirtual 156, 3) := by decide +kernel
theorem dX6_leaderAfter_17 : decode cX6_leaderAfter 17 = .ok (.ireturn, 1) := by decide +kernel
theorem dX6_leaderAfterByCounting_0 : decode cX6_leaderAfterByCounting 0 = .ok (.aload_n 0, 1) := by decide +kernel
theorem dX6_leaderAfterByCounting_1 : decode cX6_leaderAfterByCounting 1 = .ok (.iload_n 1, 1) := by decide +kernel
theorem dX6_leaderAfterByCounting_2 : decode cX6_leaderAfterByCounting 2 = .ok (.invokevirtual 153, 3) := by decide +kernel
theorem dX6_leaderAfterByCounting_5 : decode cX6_leaderAfterByCounting 5 = .ok (.aload_n 0, 1) := by decide +kernel
theorem dX6_leaderAfterByCounting_6 : decode cX6_leaderAfterByCounting 6 = .ok (.invokevirtual 147, 3) := by decide +kernel
theorem dX6_leaderAfterByCounting_9 : decode cX6_leaderAfterByCounting 9 = .ok (.aload_n 0, 1) := by decide +kernel
theorem dX6_leaderAfterByCounting_10 : decode cX6_leaderAfterByCounting 10 = .ok (.getfield 10, 3) := by decide +kernel
theorem dX6_leaderAfterByCounting_13 : decode cX6_leaderAfterByCounting 13 = .ok (.iload_n 1, 1) := by decide +kernel
theorem dX6_leaderAfterByCounting_14 : decode cX6_leaderAfterByCounting 14 = .ok (.invokevirtual 159, 3) := by decide +kernel
theorem dX6_leaderAfterByCounting_17 : decode cX6_leaderAfterByCounting 17 = .ok (.ireturn, 1) := by decide +kernel
theorem dX6_setTarget_0 : decode cX6_setTarget 0 = .ok (.aload_n 0, 1) := by decide +kernel
theorem dX6_setTarget_1 : decode cX6_setTarget 1 = .ok (.bipush 6, 2) := by decide +kernel
theorem dX6_setTarget_3 : decode cX6_setTarget 3 = .ok (.iload_n 1, 1) := by decide +kernel
theorem dX6_setTarget_4 : decode cX6_setTarget 4 = .ok (.iload_n 2, 1) := by decide +kernel
theorem dX6_setTarget_5 : decode cX6_setTarget 5 = .ok (.iconst 0, 1) := by decide +kernel
theorem dX6_setTarget_6 : decode cX6_setTarget 6 = .ok (.invokevirtual 67, 3) := by decide +kernel
theorem dX6_setTarget_9 : decode cX6_setTarget 9 = .ok (.aload_n 0, 1) := by decide +kernel
theorem dX6_setTarget_10 : decode cX6_setTarget 10 = .ok (.getfield 10, 3) := by decide +kernel
theorem dX6_setTarget_13 : decode cX6_setTarget 13 = .ok (.iload_n 1, 1) := by decide +kernel
theorem dX6_setTarget_14 : decode cX6_setTarget 14 = .ok (.iload_n 2, 1) := by decide +kernel
theorem dX6_setTarget_15 : decode cX6_setTarget 15 = .ok (.invokevirtual 162, 3) := by decide +kernel
theorem dX6_setTarget_18 : decode cX6_setTarget 18 = .ok (.ireturn, 1) := by decide +kernel
theorem dX6_targetX_0 : decode cX6_targetX 0 = .ok (.aload_n 0, 1) := by decide +kernel
theorem dX6_targetX_1 : decode cX6_targetX 1 = .ok (.invokevirtual 165, 3) := by decide +kernel
theorem dX6_targetX_4 : decode cX6_targetX 4 = .ok (.aload_n 0, 1) := by decide +kernel
theorem dX6_targetX_5 : decode cX6_targetX 5 = .ok (.getfield 10, 3) := by decide +kernel
theorem dX6_targetX_8 : decode cX6_targetX 8 = .ok (.getfield 168, 3) := by decide +kernel
theorem dX6_targetX_11 : decode cX6_targetX 11 = .ok (.ireturn, 1) := by decide +kernel
theorem dX6_targetY_0 : decode cX6_targetY 0 = .ok (.aload_n 0, 1) := by decide +kernel
theorem dX6_targetY_1 : decode cX6_targetY 1 = .ok (.invokevirtual 165, 3) := by decide +kernel
theorem dX6_targetY_4 : decode cX6_targetY 4 = .ok (.aload_n 0, 1) := by decide +kernel
theorem dX6_targetY_5 : decode cX6_targetY 5 = .ok (.getfield 10, 3) := by decide +kernel
theorem dX6_targetY_8 : decode cX6_targetY 8 = .ok (.getfield 171, 3) := by decide +kernel
theorem dX6_targetY_11 : decode cX6_targetY 11 = .ok (.ireturn, 1) := by decide +kernel
theorem dX6_stepsToTarget_0 : decode cX6_stepsToTarget 0 = .ok (.aload_n 0, 1) := by decide +kernel
theorem dX6_stepsToTarget_1 : decode cX6_stepsToTarget 1 = .ok (.invokevirtual 165, 3) := by decide +kernel
theorem dX6_stepsToTarget_4 : decode cX6_stepsToTarget 4 = .ok (.aload_n 0, 1) := by decide +kernel
theorem dX6_stepsToTarget_5 : decode cX6_stepsToTarget 5 = .ok (.getfield 16, 3) := by decide +kernel
theorem dX6_stepsToTarget_8 : decode cX6_stepsToTarget 8 = .ok (.aload_n 0, 1) := by decide +kernel
theorem dX6_stepsToTarget_9 : decode cX6_stepsToTarget 9 = .ok (.getfield 10, 3) := by decide +kernel
theorem dX6_stepsToTarget_12 : decode cX6_stepsToTarget 12 = .ok (.invokevirtual 174, 3) := by decide +kernel
theorem dX6_stepsToTarget_15 : decode cX6_stepsToTarget 15 = .ok (.iconst 0, 1) := by decide +kernel
theorem dX6_stepsToTarget_16 : decode cX6_stepsToTarget 16 = .ok (.istore_n 1, 1) := by decide +kernel
theorem dX6_stepsToTarget_17 : decode cX6_stepsToTarget 17 = .ok (.iload_n 1, 1) := by decide +kernel
theorem dX6_stepsToTarget_18 : decode cX6_stepsToTarget 18 = .ok (.bipush 60, 2) := by decide +kernel
theorem dX6_stepsToTarget_20 : decode cX6_stepsToTarget 20 = .ok (.if_icmp .ge 28, 3) := by decide +kernel
theorem dX6_stepsToTarget_23 : decode cX6_stepsToTarget 23 = .ok (.aload_n 0, 1) := by decide +kernel
theorem dX6_stepsToTarget_24 : decode cX6_stepsToTarget 24 = .ok (.getfield 16, 3) := by decide +kernel
theorem dX6_stepsToTarget_27 : decode cX6_stepsToTarget 27 = .ok (.invokevirtual 178, 3) := by decide +kernel
theorem dX6_stepsToTarget_30 : decode cX6_stepsToTarget 30 = .ok (.ifCond .ne 18, 3) := by decide +kernel
theorem dX6_stepsToTarget_33 : decode cX6_stepsToTarget 33 = .ok (.aload_n 0, 1) := by decide +kernel
theorem dX6_stepsToTarget_34 : decode cX6_stepsToTarget 34 = .ok (.getfield 16, 3) := by decide +kernel
theorem dX6_stepsToTarget_37 : decode cX6_stepsToTarget 37 = .ok (.iconst 1, 1) := by decide +kernel
theorem dX6_stepsToTarget_38 : decode cX6_stepsToTarget 38 = .ok (.invokevirtual 182, 3) := by decide +kernel
theorem dX6_stepsToTarget_41 : decode cX6_stepsToTarget 41 = .ok (.pop, 1) := by decide +kernel
theorem dX6_stepsToTarget_42 : decode cX6_stepsToTarget 42 = .ok (.iinc 1 1, 3) := by decide +kernel
theorem dX6_stepsToTarget_45 : decode cX6_stepsToTarget 45 = .ok (.goto (-28), 3) := by decide +kernel
theorem dX6_stepsToTarget_48 : decode cX6_stepsToTarget 48 = .ok (.aload_n 0, 1) := by decide +kernel
theorem dX6_stepsToTarget_49 : decode cX6_stepsToTarget 49 = .ok (.getfield 16, 3) := by decide +kernel
theorem dX6_stepsToTarget_52 : decode cX6_stepsToTarget 52 = .ok (.invokevirtual 178, 3) := by decide +kernel
theorem dX6_stepsToTarget_55 : decode cX6_stepsToTarget 55 = .ok (.ifCond .ne 13, 3) := by decide +kernel
theorem dX6_stepsToTarget_58 : decode cX6_stepsToTarget 58 = .ok (.new 106, 3) := by decide +kernel
theorem dX6_stepsToTarget_61 : decode cX6_stepsToTarget 61 = .ok (.dup, 1) := by decide +kernel
theorem dX6_stepsToTarget_62 : decode cX6_stepsToTarget 62 = .ok (.ldc 185, 2) := by decide +kernel
theorem dX6_stepsToTarget_64 : decode cX6_stepsToTarget 64 = .ok (.invokespecial 110, 3) := by decide +kernel
theorem dX6_stepsToTarget_67 : decode cX6_stepsToTarget 67 = .ok (.athrow, 1) := by decide +kernel
theorem dX6_stepsToTarget_68 : decode cX6_stepsToTarget 68 = .ok (.iload_n 1, 1) := by decide +kernel
theorem dX6_stepsToTarget_69 : decode cX6_stepsToTarget 69 = .ok (.ireturn, 1) := by decide +kernel
theorem dX6_setKeep_0 : decode cX6_setKeep 0 = .ok (.aload_n 0, 1) := by decide +kernel
theorem dX6_setKeep_1 : decode cX6_setKeep 1 = .ok (.bipush 7, 2) := by decide +kernel
theorem dX6_setKeep_3 : decode cX6_setKeep 3 = .ok (.iload_n 1, 1) := by decide +kernel
theorem dX6_setKeep_4 : decode cX6_setKeep 4 = .ok (.iconst 0, 1) := by decide +kernel
theorem dX6_setKeep_5 : decode cX6_setKeep 5 = .ok (.iconst 0, 1) := by decide +kernel
theorem dX6_setKeep_6 : decode cX6_setKeep 6 = .ok (.invokevirtual 67, 3) := by decide +kernel
theorem dX6_setKeep_9 : decode cX6_setKeep 9 = .ok (.aload_n 0, 1) := by decide +kernel
theorem dX6_setKeep_10 : decode cX6_setKeep 10 = .ok (.getfield 10, 3) := by decide +kernel
theorem dX6_setKeep_13 : decode cX6_setKeep 13 = .ok (.iload_n 1, 1) := by decide +kernel
theorem dX6_setKeep_14 : decode cX6_setKeep 14 = .ok (.invokevirtual 187, 3) := by decide +kernel
theorem dX6_setKeep_17 : decode cX6_setKeep 17 = .ok (.ireturn, 1) := by decide +kernel
theorem dX6_keep_0 : decode cX6_keep 0 = .ok (.aload_n 0, 1) := by decide +kernel
theorem dX6_keep_1 : decode cX6_keep 1 = .ok (.getfield 10, 3) := by decide +kernel
theorem dX6_keep_4 : decode cX6_keep 4 = .ok (.getfield 190, 3) := by decide +kernel
theorem dX6_keep_7 : decode cX6_keep 7 = .ok (.ireturn, 1) := by decide +kernel
theorem dX6_advance_0 : decode cX6_advance 0 = .ok (.aload_n 0, 1) := by decide +kernel
theorem dX6_advance_1 : decode cX6_advance 1 = .ok (.bipush 8, 2) := by decide +kernel
theorem dX6_advance_3 : decode cX6_advance 3 = .ok (.iload_n 1, 1) := by decide +kernel
theorem dX6_advance_4 : decode cX6_advance 4 = .ok (.iconst 0, 1) := by decide +kernel
theorem dX6_advance_5 : decode cX6_advance 5 = .ok (.iconst 0, 1) := by decide +kernel
theorem dX6_advance_6 : decode cX6_advance 6 = .ok (.invokevirtual 67, 3) := by decide +kernel
theorem dX6_advance_9 : decode cX6_advance 9 = .ok (.aload_n 0, 1) := by decide +kernel
theorem dX6_advance_10 : decode cX6_advance 10 = .ok (.getfield 10, 3) := by decide +kernel
theorem dX6_advance_13 : decode cX6_advance 13 = .ok (.iload_n 1, 1) := by decide +kernel
theorem dX6_advance_14 : decode cX6_advance 14 = .ok (.invokevirtual 182, 3) := by decide +kernel
theorem dX6_advance_17 : decode cX6_advance 17 = .ok (.ireturn, 1) := by decide +kernel
theorem dX6_stepCount_0 : decode cX6_stepCount 0 = .ok (.aload_n 0, 1) := by decide +kernel
theorem dX6_stepCount_1 : decode cX6_stepCount 1 = .ok (.getfield 10, 3) := by decide +kernel
theorem dX6_stepCount_4 : decode cX6_stepCount 4 = .ok (.getfield 193, 3) := by decide +kernel
theorem dX6_stepCount_7 : decode cX6_stepCount 7 = .ok (.ireturn, 1) := by decide +kernel
theorem dX6_movesOf_0 : decode cX6_movesOf 0 = .ok (.aload_n 0, 1) := by decide +kernel
theorem dX6_movesOf_1 : decode cX6_movesOf 1 = .ok (.iload_n 1, 1) := by decide +kernel
theorem dX6_movesOf_2 : decode cX6_movesOf 2 = .ok (.invokevirtual 85, 3) := by decide +kernel
theorem dX6_movesOf_5 : decode cX6_movesOf 5 = .ok (.aload_n 0, 1) := by decide +kernel
theorem dX6_movesOf_6 : decode cX6_movesOf 6 = .ok (.getfield 10, 3) := by decide +kernel
theorem dX6_movesOf_9 : decode cX6_movesOf 9 = .ok (.getfield 196, 3) := by decide +kernel
theorem dX6_movesOf_12 : decode cX6_movesOf 12 = .ok (.iload_n 1, 1) := by decide +kernel
theorem dX6_movesOf_13 : decode cX6_movesOf 13 = .ok (.iaload, 1) := by decide +kernel
theorem dX6_movesOf_14 : decode cX6_movesOf 14 = .ok (.ireturn, 1) := by decide +kernel
theorem dX6_moveTotal_0 : decode cX6_moveTotal 0 = .ok (.aload_n 0, 1) := by decide +kernel
theorem dX6_moveTotal_1 : decode cX6_moveTotal 1 = .ok (.getfield 10, 3) := by decide +kernel
theorem dX6_moveTotal_4 : decode cX6_moveTotal 4 = .ok (.invokevirtual 199, 3) := by decide +kernel
theorem dX6_moveTotal_7 : decode cX6_moveTotal 7 = .ok (.lreturn, 1) := by decide +kernel
theorem dX6_waitTotal_0 : decode cX6_waitTotal 0 = .ok (.aload_n 0, 1) := by decide +kernel
theorem dX6_waitTotal_1 : decode cX6_waitTotal 1 = .ok (.getfield 10, 3) := by decide +kernel
theorem dX6_waitTotal_4 : decode cX6_waitTotal 4 = .ok (.getfield 203, 3) := by decide +kernel
theorem dX6_waitTotal_7 : decode cX6_waitTotal 7 = .ok (.ireturn, 1) := by decide +kernel
theorem dX6_formationCount_0 : decode cX6_formationCount 0 = .ok (.aload_n 0, 1) := by decide +kernel
theorem dX6_formationCount_1 : decode cX6_formationCount 1 = .ok (.getfield 36, 3) := by decide +kernel
theorem dX6_formationCount_4 : decode cX6_formationCount 4 = .ok (.aload_n 0, 1) := by decide +kernel
theorem dX6_formationCount_5 : decode cX6_formationCount 5 = .ok (.getfield 10, 3) := by decide +kernel
theorem dX6_formationCount_8 : decode cX6_formationCount 8 = .ok (.invokevirtual 206, 3) := by decide +kernel
theorem dX6_formationCount_11 : decode cX6_formationCount 11 = .ok (.ireturn, 1) := by decide +kernel
theorem dX6_formationCountByMerging_0 : decode cX6_formationCountByMerging 0 = .ok (.aload_n 0, 1) := by decide +kernel
theorem dX6_formationCountByMerging_1 : decode cX6_formationCountByMerging 1 = .ok (.getfield 36, 3) := by decide +kernel
theorem dX6_formationCountByMerging_4 : decode cX6_formationCountByMerging 4 = .ok (.aload_n 0, 1) := by decide +kernel
theorem dX6_formationCountByMerging_5 : decode cX6_formationCountByMerging 5 = .ok (.getfield 10, 3) := by decide +kernel
theorem dX6_formationCountByMerging_8 : decode cX6_formationCountByMerging 8 = .ok (.invokevirtual 210, 3) := by decide +kernel
theorem dX6_formationCountByMerging_11 : decode cX6_formationCountByMerging 11 = .ok (.ireturn, 1) := by decide +kernel
theorem dX6_largestFormation_0 : decode cX6_largestFormation 0 = .ok (.aload_n 0, 1) := by decide +kernel
theorem dX6_largestFormation_1 : decode cX6_largestFormation 1 = .ok (.getfield 36, 3) := by decide +kernel
theorem dX6_largestFormation_4 : decode cX6_largestFormation 4 = .ok (.aload_n 0, 1) := by decide +kernel
theorem dX6_largestFormation_5 : decode cX6_largestFormation 5 = .ok (.getfield 10, 3) := by decide +kernel
theorem dX6_largestFormation_8 : decode cX6_largestFormation 8 = .ok (.invokevirtual 213, 3) := by decide +kernel
theorem dX6_largestFormation_11 : decode cX6_largestFormation 11 = .ok (.ireturn, 1) := by decide +kernel
theorem dX6_formationOf_0 : decode cX6_formationOf 0 = .ok (.aload_n 0, 1) := by decide +kernel
theorem dX6_formationOf_1 : decode cX6_formationOf 1 = .ok (.iload_n 1, 1) := by decide +kernel
theorem dX6_formationOf_2 : decode cX6_formationOf 2 = .ok (.invokevirtual 85, 3) := by decide +kernel
theorem dX6_formationOf_5 : decode cX6_formationOf 5 = .ok (.aload_n 0, 1) := by decide +kernel
theorem dX6_formationOf_6 : decode cX6_formationOf 6 = .ok (.getfield 36, 3) := by decide +kernel
theorem dX6_formationOf_9 : decode cX6_formationOf 9 = .ok (.aload_n 0, 1) := by decide +kernel
theorem dX6_formationOf_10 : decode cX6_formationOf 10 = .ok (.getfield 10, 3) := by decide +kernel
theorem dX6_formationOf_13 : decode cX6_formationOf 13 = .ok (.iload_n 1, 1) := by decide +kernel
theorem dX6_formationOf_14 : decode cX6_formationOf 14 = .ok (.invokevirtual 216, 3) := by decide +kernel
theorem dX6_formationOf_17 : decode cX6_formationOf 17 = .ok (.ireturn, 1) := by decide +kernel
theorem dX6_mixedPairs_0 : decode cX6_mixedPairs 0 = .ok (.aload_n 0, 1) := by decide +kernel
theorem dX6_mixedPairs_1 : decode cX6_mixedPairs 1 = .ok (.getfield 10, 3) := by decide +kernel
theorem dX6_mixedPairs_4 : decode cX6_mixedPairs 4 = .ok (.invokevirtual 220, 3) := by decide +kernel
theorem dX6_mixedPairs_7 : decode cX6_mixedPairs 7 = .ok (.ireturn, 1) := by decide +kernel
theorem dX6_mixedPairsByHandles_0 : decode cX6_mixedPairsByHandles 0 = .ok (.aload_n 0, 1) := by decide +kernel
theorem dX6_mixedPairsByHandles_1 : decode cX6_mixedPairsByHandles 1 = .ok (.getfield 10, 3) := by decide +kernel
theorem dX6_mixedPairsByHandles_4 : decode cX6_mixedPairsByHandles 4 = .ok (.invokevirtual 224, 3) := by decide +kernel
theorem dX6_mixedPairsByHandles_7 : decode cX6_mixedPairsByHandles 7 = .ok (.ireturn, 1) := by decide +kernel
theorem dX6_shapeCount_0 : decode cX6_shapeCount 0 = .ok (.aload_n 0, 1) := by decide +kernel
theorem dX6_shapeCount_1 : decode cX6_shapeCount 1 = .ok (.getfield 10, 3) := by decide +kernel
theorem dX6_shapeCount_4 : decode cX6_shapeCount 4 = .ok (.getfield 227, 3) := by decide +kernel
theorem dX6_shapeCount_7 : decode cX6_shapeCount 7 = .ok (.getfield 231, 3) := by decide +kernel
theorem dX6_shapeCount_10 : decode cX6_shapeCount 10 = .ok (.ireturn, 1) := by decide +kernel
theorem dX6_differentShapes_0 : decode cX6_differentShapes 0 = .ok (.aload_n 0, 1) := by decide +kernel
theorem dX6_differentShapes_1 : decode cX6_differentShapes 1 = .ok (.getfield 10, 3) := by decide +kernel
theorem dX6_differentShapes_4 : decode cX6_differentShapes 4 = .ok (.getfield 227, 3) := by decide +kernel
theorem dX6_differentShapes_7 : decode cX6_differentShapes 7 = .ok (.invokevirtual 234, 3) := by decide +kernel
theorem dX6_differentShapes_10 : decode cX6_differentShapes 10 = .ok (.ireturn, 1) := by decide +kernel
theorem dX6_stepsSinceShape_0 : decode cX6_stepsSinceShape 0 = .ok (.aload_n 0, 1) := by decide +kernel
theorem dX6_stepsSinceShape_1 : decode cX6_stepsSinceShape 1 = .ok (.getfield 10, 3) := by decide +kernel
theorem dX6_stepsSinceShape_4 : decode cX6_stepsSinceShape 4 = .ok (.invokevirtual 237, 3) := by decide +kernel
theorem dX6_stepsSinceShape_7 : decode cX6_stepsSinceShape 7 = .ok (.istore_n 1, 1) := by decide +kernel
theorem dX6_stepsSinceShape_8 : decode cX6_stepsSinceShape 8 = .ok (.iload_n 1, 1) := by decide +kernel
theorem dX6_stepsSinceShape_9 : decode cX6_stepsSinceShape 9 = .ok (.iconst (-1), 1) := by decide +kernel
theorem dX6_stepsSinceShape_10 : decode cX6_stepsSinceShape 10 = .ok (.if_icmp .ne 13, 3) := by decide +kernel
theorem dX6_stepsSinceShape_13 : decode cX6_stepsSinceShape 13 = .ok (.new 106, 3) := by decide +kernel
theorem dX6_stepsSinceShape_16 : decode cX6_stepsSinceShape 16 = .ok (.dup, 1) := by decide +kernel
theorem dX6_stepsSinceShape_17 : decode cX6_stepsSinceShape 17 = .ok (.ldc 240, 2) := by decide +kernel
theorem dX6_stepsSinceShape_19 : decode cX6_stepsSinceShape 19 = .ok (.invokespecial 110, 3) := by decide +kernel
theorem dX6_stepsSinceShape_22 : decode cX6_stepsSinceShape 22 = .ok (.athrow, 1) := by decide +kernel
theorem dX6_stepsSinceShape_23 : decode cX6_stepsSinceShape 23 = .ok (.iload_n 1, 1) := by decide +kernel
theorem dX6_stepsSinceShape_24 : decode cX6_stepsSinceShape 24 = .ok (.ireturn, 1) := by decide +kernel
theorem dX6_basketAtRank_0 : decode cX6_basketAtRank 0 = .ok (.aload_n 0, 1) := by decide +kernel
theorem dX6_basketAtRank_1 : decode cX6_basketAtRank 1 = .ok (.getfield 10, 3) := by decide +kernel
theorem dX6_basketAtRank_4 : decode cX6_basketAtRank 4 = .ok (.iload_n 1, 1) := by decide +kernel
theorem dX6_basketAtRank_5 : decode cX6_basketAtRank 5 = .ok (.invokevirtual 242, 3) := by decide +kernel
theorem dX6_basketAtRank_8 : decode cX6_basketAtRank 8 = .ok (.istore_n 2, 1) := by decide +kernel
theorem dX6_basketAtRank_9 : decode cX6_basketAtRank 9 = .ok (.iload_n 2, 1) := by decide +kernel
theorem dX6_basketAtRank_10 : decode cX6_basketAtRank 10 = .ok (.iconst (-1), 1) := by decide +kernel
theorem dX6_basketAtRank_11 : decode cX6_basketAtRank 11 = .ok (.if_icmp .ne 13, 3) := by decide +kernel
theorem dX6_basketAtRank_14 : decode cX6_basketAtRank 14 = .ok (.new 106, 3) := by decide +kernel
theorem dX6_basketAtRank_17 : decode cX6_basketAtRank 17 = .ok (.dup, 1) := by decide +kernel
theorem dX6_basketAtRank_18 : decode cX6_basketAtRank 18 = .ok (.ldc 245, 2) := by decide +kernel
theorem dX6_basketAtRank_20 : decode cX6_basketAtRank 20 = .ok (.invokespecial 110, 3) := by decide +kernel
theorem dX6_basketAtRank_23 : decode cX6_basketAtRank 23 = .ok (.athrow, 1) := by decide +kernel
theorem dX6_basketAtRank_24 : decode cX6_basketAtRank 24 = .ok (.iload_n 2, 1) := by decide +kernel
theorem dX6_basketAtRank_25 : decode cX6_basketAtRank 25 = .ok (.ireturn, 1) := by decide +kernel
theorem dX6_append_0 : decode cX6_append 0 = .ok (.iload_n 1, 1) := by decide +kernel
theorem dX6_append_1 : decode cX6_append 1 = .ok (.bipush 32, 2) := by decide +kernel
theorem dX6_append_3 : decode cX6_append 3 = .ok (.if_icmp .lt 9, 3) := by decide +kernel
theorem dX6_append_6 : decode cX6_append 6 = .ok (.iload_n 1, 1) := by decide +kernel
theorem dX6_append_7 : decode cX6_append 7 = .ok (.bipush 126, 2) := by decide +kernel
theorem dX6_append_9 : decode cX6_append 9 = .ok (.if_icmp .le 13, 3) := by decide +kernel
theorem dX6_append_12 : decode cX6_append 12 = .ok (.new 247, 3) := by decide +kernel
theorem dX6_append_15 : decode cX6_append 15 = .ok (.dup, 1) := by decide +kernel
theorem dX6_append_16 : decode cX6_append 16 = .ok (.ldc 249, 2) := by decide +kernel
theorem dX6_append_18 : decode cX6_append 18 = .ok (.invokespecial 251, 3) := by decide +kernel
theorem dX6_append_21 : decode cX6_append 21 = .ok (.athrow, 1) := by decide +kernel
theorem dX6_append_22 : decode cX6_append 22 = .ok (.aload_n 0, 1) := by decide +kernel
theorem dX6_append_23 : decode cX6_append 23 = .ok (.getfield 43, 3) := by decide +kernel
theorem dX6_append_26 : decode cX6_append 26 = .ok (.invokevirtual 252, 3) := by decide +kernel
theorem dX6_append_29 : decode cX6_append 29 = .ok (.ifCond .eq 14, 3) := by decide +kernel
theorem dX6_append_32 : decode cX6_append 32 = .ok (.new 255, 3) := by decide +kernel
theorem dX6_append_35 : decode cX6_append 35 = .ok (.dup, 1) := by decide +kernel
theorem dX6_append_36 : decode cX6_append 36 = .ok (.ldc_w 257, 3) := by decide +kernel
theorem dX6_append_39 : decode cX6_append 39 = .ok (.invokespecial 259, 3) := by decide +kernel
theorem dX6_append_42 : decode cX6_append 42 = .ok (.athrow, 1) := by decide +kernel
theorem dX6_append_43 : decode cX6_append 43 = .ok (.aload_n 0, 1) := by decide +kernel
theorem dX6_append_44 : decode cX6_append 44 = .ok (.getfield 43, 3) := by decide +kernel
theorem dX6_append_47 : decode cX6_append 47 = .ok (.iload_n 1, 1) := by decide +kernel
theorem dX6_append_48 : decode cX6_append 48 = .ok (.invokevirtual 260, 3) := by decide +kernel
theorem dX6_append_51 : decode cX6_append 51 = .ok (.ireturn, 1) := by decide +kernel
theorem dX6_run_0 : decode cX6_run 0 = .ok (.aload_n 0, 1) := by decide +kernel
theorem dX6_run_1 : decode cX6_run 1 = .ok (.getfield 43, 3) := by decide +kernel
theorem dX6_run_4 : decode cX6_run 4 = .ok (.invokevirtual 263, 3) := by decide +kernel
theorem dX6_run_7 : decode cX6_run 7 = .ok (.istore_n 1, 1) := by decide +kernel
theorem dX6_run_8 : decode cX6_run 8 = .ok (.aload_n 0, 1) := by decide +kernel
theorem dX6_run_9 : decode cX6_run 9 = .ok (.getfield 43, 3) := by decide +kernel
theorem dX6_run_12 : decode cX6_run 12 = .ok (.invokevirtual 266, 3) := by decide +kernel
theorem dX6_run_15 : decode cX6_run 15 = .ok (.iload_n 1, 1) := by decide +kernel
theorem dX6_run_16 : decode cX6_run 16 = .ok (.iconst (-1), 1) := by decide +kernel
theorem dX6_run_17 : decode cX6_run 17 = .ok (.if_icmp .eq 19, 3) := by decide +kernel
theorem dX6_run_20 : decode cX6_run 20 = .ok (.aload_n 0, 1) := by decide +kernel
theorem dX6_run_21 : decode cX6_run 21 = .ok (.iload_n 1, 1) := by decide +kernel
theorem dX6_run_22 : decode cX6_run 22 = .ok (.putfield 47, 3) := by decide +kernel
theorem dX6_run_25 : decode cX6_run 25 = .ok (.new 247, 3) := by decide +kernel
theorem dX6_run_28 : decode cX6_run 28 = .ok (.dup, 1) := by decide +kernel
theorem dX6_run_29 : decode cX6_run 29 = .ok (.ldc_w 269, 3) := by decide +kernel
theorem dX6_run_32 : decode cX6_run 32 = .ok (.invokespecial 251, 3) := by decide +kernel
theorem dX6_run_35 : decode cX6_run 35 = .ok (.athrow, 1) := by decide +kernel
theorem dX6_run_36 : decode cX6_run 36 = .ok (.aload_n 0, 1) := by decide +kernel
theorem dX6_run_37 : decode cX6_run 37 = .ok (.getfield 16, 3) := by decide +kernel
theorem dX6_run_40 : decode cX6_run 40 = .ok (.aload_n 0, 1) := by decide +kernel
theorem dX6_run_41 : decode cX6_run 41 = .ok (.getfield 10, 3) := by decide +kernel
theorem dX6_run_44 : decode cX6_run 44 = .ok (.invokevirtual 174, 3) := by decide +kernel
theorem dX6_run_47 : decode cX6_run 47 = .ok (.iconst 0, 1) := by decide +kernel
theorem dX6_run_48 : decode cX6_run 48 = .ok (.istore_n 2, 1) := by decide +kernel
theorem dX6_run_49 : decode cX6_run 49 = .ok (.iload_n 2, 1) := by decide +kernel
theorem dX6_run_50 : decode cX6_run 50 = .ok (.aload_n 0, 1) := by decide +kernel
theorem dX6_run_51 : decode cX6_run 51 = .ok (.getfield 43, 3) := by decide +kernel
theorem dX6_run_54 : decode cX6_run 54 = .ok (.getfield 271, 3) := by decide +kernel
theorem dX6_run_57 : decode cX6_run 57 = .ok (.if_icmp .ge 100, 3) := by decide +kernel
theorem dX6_run_60 : decode cX6_run 60 = .ok (.aload_n 0, 1) := by decide +kernel
theorem dX6_run_61 : decode cX6_run 61 = .ok (.getfield 43, 3) := by decide +kernel
theorem dX6_run_64 : decode cX6_run 64 = .ok (.iload_n 2, 1) := by decide +kernel
theorem dX6_run_65 : decode cX6_run 65 = .ok (.invokevirtual 274, 3) := by decide +kernel
theorem dX6_run_68 : decode cX6_run 68 = .ok (.istore_n 3, 1) := by decide +kernel
theorem dX6_run_69 : decode cX6_run 69 = .ok (.aload_n 0, 1) := by decide +kernel
theorem dX6_run_70 : decode cX6_run 70 = .ok (.getfield 43, 3) := by decide +kernel
theorem dX6_run_73 : decode cX6_run 73 = .ok (.iload_n 2, 1) := by decide +kernel
theorem dX6_run_74 : decode cX6_run 74 = .ok (.iconst 0, 1) := by decide +kernel
theorem dX6_run_75 : decode cX6_run 75 = .ok (.invokevirtual 277, 3) := by decide +kernel
theorem dX6_run_78 : decode cX6_run 78 = .ok (.istore 4, 2) := by decide +kernel
theorem dX6_run_80 : decode cX6_run 80 = .ok (.aload_n 0, 1) := by decide +kernel
theorem dX6_run_81 : decode cX6_run 81 = .ok (.getfield 43, 3) := by decide +kernel
theorem dX6_run_84 : decode cX6_run 84 = .ok (.iload_n 2, 1) := by decide +kernel
theorem dX6_run_85 : decode cX6_run 85 = .ok (.iconst 1, 1) := by decide +kernel
theorem dX6_run_86 : decode cX6_run 86 = .ok (.invokevirtual 277, 3) := by decide +kernel
theorem dX6_run_89 : decode cX6_run 89 = .ok (.istore 5, 2) := by decide +kernel
theorem dX6_run_91 : decode cX6_run 91 = .ok (.aload_n 0, 1) := by decide +kernel
theorem dX6_run_92 : decode cX6_run 92 = .ok (.getfield 43, 3) := by decide +kernel
theorem dX6_run_95 : decode cX6_run 95 = .ok (.iload_n 2, 1) := by decide +kernel
theorem dX6_run_96 : decode cX6_run 96 = .ok (.iconst 2, 1) := by decide +kernel
theorem dX6_run_97 : decode cX6_run 97 = .ok (.invokevirtual 277, 3) := by decide +kernel
theorem dX6_run_100 : decode cX6_run 100 = .ok (.istore 6, 2) := by decide +kernel
theorem dX6_run_102 : decode cX6_run 102 = .ok (.aload_n 0, 1) := by decide +kernel
theorem dX6_run_103 : decode cX6_run 103 = .ok (.aload_n 0, 1) := by decide +kernel
theorem dX6_run_104 : decode cX6_run 104 = .ok (.getfield 16, 3) := by decide +kernel
theorem dX6_run_107 : decode cX6_run 107 = .ok (.iload_n 3, 1) := by decide +kernel
theorem dX6_run_108 : decode cX6_run 108 = .ok (.iload 4, 2) := by decide +kernel
theorem dX6_run_110 : decode cX6_run 110 = .ok (.iload 5, 2) := by decide +kernel
theorem dX6_run_112 : decode cX6_run 112 = .ok (.iload 6, 2) := by decide +kernel
theorem dX6_run_114 : decode cX6_run 114 = .ok (.invokevirtual 280, 3) := by decide +kernel
theorem dX6_run_117 : decode cX6_run 117 = .ok (.ifCond .eq 19, 3) := by decide +kernel
theorem dX6_run_120 : decode cX6_run 120 = .ok (.aload_n 0, 1) := by decide +kernel
theorem dX6_run_121 : decode cX6_run 121 = .ok (.iload_n 2, 1) := by decide +kernel
theorem dX6_run_122 : decode cX6_run 122 = .ok (.putfield 51, 3) := by decide +kernel
theorem dX6_run_125 : decode cX6_run 125 = .ok (.new 255, 3) := by decide +kernel
theorem dX6_run_128 : decode cX6_run 128 = .ok (.dup, 1) := by decide +kernel
theorem dX6_run_129 : decode cX6_run 129 = .ok (.ldc_w 284, 3) := by decide +kernel
theorem dX6_run_132 : decode cX6_run 132 = .ok (.invokespecial 259, 3) := by decide +kernel
theorem dX6_run_135 : decode cX6_run 135 = .ok (.athrow, 1) := by decide +kernel
theorem dX6_run_136 : decode cX6_run 136 = .ok (.aload_n 0, 1) := by decide +kernel
theorem dX6_run_137 : decode cX6_run 137 = .ok (.getfield 16, 3) := by decide +kernel
theorem dX6_run_140 : decode cX6_run 140 = .ok (.iload_n 3, 1) := by decide +kernel
theorem dX6_run_141 : decode cX6_run 141 = .ok (.iload 4, 2) := by decide +kernel
theorem dX6_run_143 : decode cX6_run 143 = .ok (.iload 5, 2) := by decide +kernel
theorem dX6_run_145 : decode cX6_run 145 = .ok (.iload 6, 2) := by decide +kernel
theorem dX6_run_147 : decode cX6_run 147 = .ok (.invokevirtual 286, 3) := by decide +kernel
theorem dX6_run_150 : decode cX6_run 150 = .ok (.pop, 1) := by decide +kernel
theorem dX6_run_151 : decode cX6_run 151 = .ok (.iinc 2 1, 3) := by decide +kernel
theorem dX6_run_154 : decode cX6_run 154 = .ok (.goto (-105), 3) := by decide +kernel
theorem dX6_run_157 : decode cX6_run 157 = .ok (.aload_n 0, 1) := by decide +kernel
theorem dX6_run_158 : decode cX6_run 158 = .ok (.getfield 29, 3) := by decide +kernel
theorem dX6_run_161 : decode cX6_run 161 = .ok (.aload_n 0, 1) := by decide +kernel
theorem dX6_run_162 : decode cX6_run 162 = .ok (.getfield 10, 3) := by decide +kernel
theorem dX6_run_165 : decode cX6_run 165 = .ok (.invokevirtual 290, 3) := by decide +kernel
theorem dX6_run_168 : decode cX6_run 168 = .ok (.aload_n 0, 1) := by decide +kernel
theorem dX6_run_169 : decode cX6_run 169 = .ok (.getfield 10, 3) := by decide +kernel
theorem dX6_run_172 : decode cX6_run 172 = .ok (.aload_n 0, 1) := by decide +kernel
theorem dX6_run_173 : decode cX6_run 173 = .ok (.getfield 16, 3) := by decide +kernel
theorem dX6_run_176 : decode cX6_run 176 = .ok (.invokevirtual 174, 3) := by decide +kernel
theorem dX6_run_179 : decode cX6_run 179 = .ok (.aload_n 0, 1) := by decide +kernel
theorem dX6_run_180 : decode cX6_run 180 = .ok (.getfield 43, 3) := by decide +kernel
theorem dX6_run_183 : decode cX6_run 183 = .ok (.getfield 271, 3) := by decide +kernel
theorem dX6_run_186 : decode cX6_run 186 = .ok (.ireturn, 1) := by decide +kernel
theorem dX6_errorPosition_0 : decode cX6_errorPosition 0 = .ok (.aload_n 0, 1) := by decide +kernel
theorem dX6_errorPosition_1 : decode cX6_errorPosition 1 = .ok (.getfield 47, 3) := by decide +kernel
theorem dX6_errorPosition_4 : decode cX6_errorPosition 4 = .ok (.iconst (-1), 1) := by decide +kernel
theorem dX6_errorPosition_5 : decode cX6_errorPosition 5 = .ok (.if_icmp .ne 14, 3) := by decide +kernel
theorem dX6_errorPosition_8 : decode cX6_errorPosition 8 = .ok (.new 106, 3) := by decide +kernel
theorem dX6_errorPosition_11 : decode cX6_errorPosition 11 = .ok (.dup, 1) := by decide +kernel
theorem dX6_errorPosition_12 : decode cX6_errorPosition 12 = .ok (.ldc_w 293, 3) := by decide +kernel
theorem dX6_errorPosition_15 : decode cX6_errorPosition 15 = .ok (.invokespecial 110, 3) := by decide +kernel
theorem dX6_errorPosition_18 : decode cX6_errorPosition 18 = .ok (.athrow, 1) := by decide +kernel
theorem dX6_errorPosition_19 : decode cX6_errorPosition 19 = .ok (.aload_n 0, 1) := by decide +kernel
theorem dX6_errorPosition_20 : decode cX6_errorPosition 20 = .ok (.getfield 47, 3) := by decide +kernel
theorem dX6_errorPosition_23 : decode cX6_errorPosition 23 = .ok (.ireturn, 1) := by decide +kernel
theorem dX6_failedCommand_0 : decode cX6_failedCommand 0 = .ok (.aload_n 0, 1) := by decide +kernel
theorem dX6_failedCommand_1 : decode cX6_failedCommand 1 = .ok (.getfield 51, 3) := by decide +kernel
theorem dX6_failedCommand_4 : decode cX6_failedCommand 4 = .ok (.iconst (-1), 1) := by decide +kernel
theorem dX6_failedCommand_5 : decode cX6_failedCommand 5 = .ok (.if_icmp .ne 14, 3) := by decide +kernel
theorem dX6_failedCommand_8 : decode cX6_failedCommand 8 = .ok (.new 106, 3) := by decide +kernel
theorem dX6_failedCommand_11 : decode cX6_failedCommand 11 = .ok (.dup, 1) := by decide +kernel
theorem dX6_failedCommand_12 : decode cX6_failedCommand 12 = .ok (.ldc_w 295, 3) := by decide +kernel
theorem dX6_failedCommand_15 : decode cX6_failedCommand 15 = .ok (.invokespecial 110, 3) := by decide +kernel
theorem dX6_failedCommand_18 : decode cX6_failedCommand 18 = .ok (.athrow, 1) := by decide +kernel
theorem dX6_failedCommand_19 : decode cX6_failedCommand 19 = .ok (.aload_n 0, 1) := by decide +kernel
theorem dX6_failedCommand_20 : decode cX6_failedCommand 20 = .ok (.getfield 51, 3) := by decide +kernel
theorem dX6_failedCommand_23 : decode cX6_failedCommand 23 = .ok (.ireturn, 1) := by decide +kernel
theorem dX6_describeRow_0 : decode cX6_describeRow 0 = .ok (.aload_n 0, 1) := by decide +kernel
theorem dX6_describeRow_1 : decode cX6_describeRow 1 = .ok (.iconst 0, 1) := by decide +kernel
theorem dX6_describeRow_2 : decode cX6_describeRow 2 = .ok (.iload_n 1, 1) := by decide +kernel
theorem dX6_describeRow_3 : decode cX6_describeRow 3 = .ok (.invokevirtual 99, 3) := by decide +kernel
theorem dX6_describeRow_6 : decode cX6_describeRow 6 = .ok (.iconst 0, 1) := by decide +kernel
theorem dX6_describeRow_7 : decode cX6_describeRow 7 = .ok (.istore_n 2, 1) := by decide +kernel
theorem dX6_describeRow_8 : decode cX6_describeRow 8 = .ok (.iload_n 2, 1) := by decide +kernel
theorem dX6_describeRow_9 : decode cX6_describeRow 9 = .ok (.bipush 12, 2) := by decide +kernel
theorem dX6_describeRow_11 : decode cX6_describeRow 11 = .ok (.if_icmp .ge 24, 3) := by decide +kernel
theorem dX6_describeRow_14 : decode cX6_describeRow 14 = .ok (.aload_n 0, 1) := by decide +kernel
theorem dX6_describeRow_15 : decode cX6_describeRow 15 = .ok (.getfield 60, 3) := by decide +kernel
theorem dX6_describeRow_18 : decode cX6_describeRow 18 = .ok (.iload_n 2, 1) := by decide +kernel
theorem dX6_describeRow_19 : decode cX6_describeRow 19 = .ok (.aload_n 0, 1) := by decide +kernel
theorem dX6_describeRow_20 : decode cX6_describeRow 20 = .ok (.getfield 10, 3) := by decide +kernel
theorem dX6_describeRow_23 : decode cX6_describeRow 23 = .ok (.iload_n 2, 1) := by decide +kernel
theorem dX6_describeRow_24 : decode cX6_describeRow 24 = .ok (.iload_n 1, 1) := by decide +kernel
theorem dX6_describeRow_25 : decode cX6_describeRow 25 = .ok (.invokevirtual 297, 3) := by decide +kernel
theorem dX6_describeRow_28 : decode cX6_describeRow 28 = .ok (.castore, 1) := by decide +kernel
theorem dX6_describeRow_29 : decode cX6_describeRow 29 = .ok (.iinc 2 1, 3) := by decide +kernel
theorem dX6_describeRow_32 : decode cX6_describeRow 32 = .ok (.goto (-24), 3) := by decide +kernel
theorem dX6_describeRow_35 : decode cX6_describeRow 35 = .ok (.aload_n 0, 1) := by decide +kernel
theorem dX6_describeRow_36 : decode cX6_describeRow 36 = .ok (.bipush 12, 2) := by decide +kernel
theorem dX6_describeRow_38 : decode cX6_describeRow 38 = .ok (.putfield 64, 3) := by decide +kernel
theorem dX6_describeRow_41 : decode cX6_describeRow 41 = .ok (.aload_n 0, 1) := by decide +kernel
theorem dX6_describeRow_42 : decode cX6_describeRow 42 = .ok (.getfield 64, 3) := by decide +kernel
theorem dX6_describeRow_45 : decode cX6_describeRow 45 = .ok (.ireturn, 1) := by decide +kernel
theorem dX6_lineAt_0 : decode cX6_lineAt 0 = .ok (.iload_n 1, 1) := by decide +kernel
theorem dX6_lineAt_1 : decode cX6_lineAt 1 = .ok (.ifCond .lt 11, 3) := by decide +kernel
theorem dX6_lineAt_4 : decode cX6_lineAt 4 = .ok (.iload_n 1, 1) := by decide +kernel
theorem dX6_lineAt_5 : decode cX6_lineAt 5 = .ok (.aload_n 0, 1) := by decide +kernel
theorem dX6_lineAt_6 : decode cX6_lineAt 6 = .ok (.getfield 64, 3) := by decide +kernel
theorem dX6_lineAt_9 : decode cX6_lineAt 9 = .ok (.if_icmp .lt 14, 3) := by decide +kernel
theorem dX6_lineAt_12 : decode cX6_lineAt 12 = .ok (.new 301, 3) := by decide +kernel
theorem dX6_lineAt_15 : decode cX6_lineAt 15 = .ok (.dup, 1) := by decide +kernel
theorem dX6_lineAt_16 : decode cX6_lineAt 16 = .ok (.ldc_w 303, 3) := by decide +kernel
theorem dX6_lineAt_19 : decode cX6_lineAt 19 = .ok (.invokespecial 305, 3) := by decide +kernel
theorem dX6_lineAt_22 : decode cX6_lineAt 22 = .ok (.athrow, 1) := by decide +kernel
theorem dX6_lineAt_23 : decode cX6_lineAt 23 = .ok (.aload_n 0, 1) := by decide +kernel
theorem dX6_lineAt_24 : decode cX6_lineAt 24 = .ok (.getfield 60, 3) := by decide +kernel
theorem dX6_lineAt_27 : decode cX6_lineAt 27 = .ok (.iload_n 1, 1) := by decide +kernel
theorem dX6_lineAt_28 : decode cX6_lineAt 28 = .ok (.caload, 1) := by decide +kernel
theorem dX6_lineAt_29 : decode cX6_lineAt 29 = .ok (.ireturn, 1) := by decide +kernel
theorem dX6_meanDistance_0 : decode cX6_meanDistance 0 = .ok (.aload_n 0, 1) := by decide +kernel
theorem dX6_meanDistance_1 : decode cX6_meanDistance 1 = .ok (.getfield 10, 3) := by decide +kernel
theorem dX6_meanDistance_4 : decode cX6_meanDistance 4 = .ok (.getfield 82, 3) := by decide +kernel
theorem dX6_meanDistance_7 : decode cX6_meanDistance 7 = .ok (.iconst 1, 1) := by decide +kernel
theorem dX6_meanDistance_8 : decode cX6_meanDistance 8 = .ok (.isub, 1) := by decide +kernel
theorem dX6_meanDistance_9 : decode cX6_meanDistance 9 = .ok (.istore_n 1, 1) := by decide +kernel
theorem dX6_meanDistance_10 : decode cX6_meanDistance 10 = .ok (.iload_n 1, 1) := by decide +kernel
theorem dX6_meanDistance_11 : decode cX6_meanDistance 11 = .ok (.iconst 1, 1) := by decide +kernel
theorem dX6_meanDistance_12 : decode cX6_meanDistance 12 = .ok (.if_icmp .ge 14, 3) := by decide +kernel
theorem dX6_meanDistance_15 : decode cX6_meanDistance 15 = .ok (.new 306, 3) := by decide +kernel
theorem dX6_meanDistance_18 : decode cX6_meanDistance 18 = .ok (.dup, 1) := by decide +kernel
theorem dX6_meanDistance_19 : decode cX6_meanDistance 19 = .ok (.ldc_w 308, 3) := by decide +kernel
theorem dX6_meanDistance_22 : decode cX6_meanDistance 22 = .ok (.invokespecial 310, 3) := by decide +kernel
theorem dX6_meanDistance_25 : decode cX6_meanDistance 25 = .ok (.athrow, 1) := by decide +kernel
theorem dX6_meanDistance_26 : decode cX6_meanDistance 26 = .ok (.aload_n 0, 1) := by decide +kernel
theorem dX6_meanDistance_27 : decode cX6_meanDistance 27 = .ok (.getfield 10, 3) := by decide +kernel
theorem dX6_meanDistance_30 : decode cX6_meanDistance 30 = .ok (.invokevirtual 311, 3) := by decide +kernel
theorem dX6_meanDistance_33 : decode cX6_meanDistance 33 = .ok (.i2d, 1) := by decide +kernel
theorem dX6_meanDistance_34 : decode cX6_meanDistance 34 = .ok (.iload_n 1, 1) := by decide +kernel
theorem dX6_meanDistance_35 : decode cX6_meanDistance 35 = .ok (.i2d, 1) := by decide +kernel
theorem dX6_meanDistance_36 : decode cX6_meanDistance 36 = .ok (.ddiv, 1) := by decide +kernel
theorem dX6_meanDistance_37 : decode cX6_meanDistance 37 = .ok (.dreturn, 1) := by decide +kernel
theorem dX6_mixedShare_0 : decode cX6_mixedShare 0 = .ok (.aload_n 0, 1) := by decide +kernel
theorem dX6_mixedShare_1 : decode cX6_mixedShare 1 = .ok (.getfield 10, 3) := by decide +kernel
theorem dX6_mixedShare_4 : decode cX6_mixedShare 4 = .ok (.invokevirtual 314, 3) := by decide +kernel
theorem dX6_mixedShare_7 : decode cX6_mixedShare 7 = .ok (.istore_n 1, 1) := by decide +kernel
theorem dX6_mixedShare_8 : decode cX6_mixedShare 8 = .ok (.iload_n 1, 1) := by decide +kernel
theorem dX6_mixedShare_9 : decode cX6_mixedShare 9 = .ok (.iconst 1, 1) := by decide +kernel
theorem dX6_mixedShare_10 : decode cX6_mixedShare 10 = .ok (.if_icmp .ge 14, 3) := by decide +kernel
theorem dX6_mixedShare_13 : decode cX6_mixedShare 13 = .ok (.new 306, 3) := by decide +kernel
theorem dX6_mixedShare_16 : decode cX6_mixedShare 16 = .ok (.dup, 1) := by decide +kernel
theorem dX6_mixedShare_17 : decode cX6_mixedShare 17 = .ok (.ldc_w 317, 3) := by decide +kernel
theorem dX6_mixedShare_20 : decode cX6_mixedShare 20 = .ok (.invokespecial 310, 3) := by decide +kernel
theorem dX6_mixedShare_23 : decode cX6_mixedShare 23 = .ok (.athrow, 1) := by decide +kernel
theorem dX6_mixedShare_24 : decode cX6_mixedShare 24 = .ok (.aload_n 0, 1) := by decide +kernel
theorem dX6_mixedShare_25 : decode cX6_mixedShare 25 = .ok (.getfield 10, 3) := by decide +kernel
theorem dX6_mixedShare_28 : decode cX6_mixedShare 28 = .ok (.invokevirtual 220, 3) := by decide +kernel
theorem dX6_mixedShare_31 : decode cX6_mixedShare 31 = .ok (.i2f, 1) := by decide +kernel
theorem dX6_mixedShare_32 : decode cX6_mixedShare 32 = .ok (.iload_n 1, 1) := by decide +kernel
theorem dX6_mixedShare_33 : decode cX6_mixedShare 33 = .ok (.i2f, 1) := by decide +kernel
theorem dX6_mixedShare_34 : decode cX6_mixedShare 34 = .ok (.fdiv, 1) := by decide +kernel
theorem dX6_mixedShare_35 : decode cX6_mixedShare 35 = .ok (.freturn, 1) := by decide +kernel
theorem dX6_isConsistent_0 : decode cX6_isConsistent 0 = .ok (.aload_n 0, 1) := by decide +kernel
theorem dX6_isConsistent_1 : decode cX6_isConsistent 1 = .ok (.getfield 10, 3) := by decide +kernel
theorem dX6_isConsistent_4 : decode cX6_isConsistent 4 = .ok (.invokevirtual 319, 3) := by decide +kernel
theorem dX6_isConsistent_7 : decode cX6_isConsistent 7 = .ok (.ifCond .eq 56, 3) := by decide +kernel
theorem dX6_isConsistent_10 : decode cX6_isConsistent 10 = .ok (.aload_n 0, 1) := by decide +kernel
theorem dX6_isConsistent_11 : decode cX6_isConsistent 11 = .ok (.getfield 36, 3) := by decide +kernel
theorem dX6_isConsistent_14 : decode cX6_isConsistent 14 = .ok (.aload_n 0, 1) := by decide +kernel
theorem dX6_isConsistent_15 : decode cX6_isConsistent 15 = .ok (.getfield 10, 3) := by decide +kernel
theorem dX6_isConsistent_18 : decode cX6_isConsistent 18 = .ok (.invokevirtual 206, 3) := by decide +kernel
theorem dX6_isConsistent_21 : decode cX6_isConsistent 21 = .ok (.aload_n 0, 1) := by decide +kernel
theorem dX6_isConsistent_22 : decode cX6_isConsistent 22 = .ok (.getfield 36, 3) := by decide +kernel
theorem dX6_isConsistent_25 : decode cX6_isConsistent 25 = .ok (.aload_n 0, 1) := by decide +kernel
theorem dX6_isConsistent_26 : decode cX6_isConsistent 26 = .ok (.getfield 10, 3) := by decide +kernel
theorem dX6_isConsistent_29 : decode cX6_isConsistent 29 = .ok (.invokevirtual 210, 3) := by decide +kernel
theorem dX6_isConsistent_32 : decode cX6_isConsistent 32 = .ok (.if_icmp .ne 31, 3) := by decide +kernel
theorem dX6_isConsistent_35 : decode cX6_isConsistent 35 = .ok (.aload_n 0, 1) := by decide +kernel
theorem dX6_isConsistent_36 : decode cX6_isConsistent 36 = .ok (.getfield 10, 3) := by decide +kernel
theorem dX6_isConsistent_39 : decode cX6_isConsistent 39 = .ok (.invokevirtual 220, 3) := by decide +kernel
theorem dX6_isConsistent_42 : decode cX6_isConsistent 42 = .ok (.aload_n 0, 1) := by decide +kernel
theorem dX6_isConsistent_43 : decode cX6_isConsistent 43 = .ok (.getfield 10, 3) := by decide +kernel
theorem dX6_isConsistent_46 : decode cX6_isConsistent 46 = .ok (.invokevirtual 224, 3) := by decide +kernel
theorem dX6_isConsistent_49 : decode cX6_isConsistent 49 = .ok (.if_icmp .ne 14, 3) := by decide +kernel
theorem dX6_isConsistent_52 : decode cX6_isConsistent 52 = .ok (.aload_n 0, 1) := by decide +kernel
theorem dX6_isConsistent_53 : decode cX6_isConsistent 53 = .ok (.invokevirtual 322, 3) := by decide +kernel
theorem dX6_isConsistent_56 : decode cX6_isConsistent 56 = .ok (.ifCond .eq 7, 3) := by decide +kernel
theorem dX6_isConsistent_59 : decode cX6_isConsistent 59 = .ok (.iconst 1, 1) := by decide +kernel
theorem dX6_isConsistent_60 : decode cX6_isConsistent 60 = .ok (.goto 4, 3) := by decide +kernel
theorem dX6_isConsistent_63 : decode cX6_isConsistent 63 = .ok (.iconst 0, 1) := by decide +kernel
theorem dX6_isConsistent_64 : decode cX6_isConsistent 64 = .ok (.ireturn, 1) := by decide +kernel
theorem dX6_undo_0 : decode cX6_undo 0 = .ok (.aload_n 0, 1) := by decide +kernel
theorem dX6_undo_1 : decode cX6_undo 1 = .ok (.getfield 29, 3) := by decide +kernel
theorem dX6_undo_4 : decode cX6_undo 4 = .ok (.getfield 325, 3) := by decide +kernel
theorem dX6_undo_7 : decode cX6_undo 7 = .ok (.iconst 1, 1) := by decide +kernel
theorem dX6_undo_8 : decode cX6_undo 8 = .ok (.if_icmp .ge 14, 3) := by decide +kernel
theorem dX6_undo_11 : decode cX6_undo 11 = .ok (.new 255, 3) := by decide +kernel
theorem dX6_undo_14 : decode cX6_undo 14 = .ok (.dup, 1) := by decide +kernel
theorem dX6_undo_15 : decode cX6_undo 15 = .ok (.ldc_w 326, 3) := by decide +kernel
theorem dX6_undo_18 : decode cX6_undo 18 = .ok (.invokespecial 259, 3) := by decide +kernel
theorem dX6_undo_21 : decode cX6_undo 21 = .ok (.athrow, 1) := by decide +kernel
theorem dX6_undo_22 : decode cX6_undo 22 = .ok (.aload_n 0, 1) := by decide +kernel
theorem dX6_undo_23 : decode cX6_undo 23 = .ok (.getfield 29, 3) := by decide +kernel
theorem dX6_undo_26 : decode cX6_undo 26 = .ok (.aload_n 0, 1) := by decide +kernel
theorem dX6_undo_27 : decode cX6_undo 27 = .ok (.getfield 10, 3) := by decide +kernel
theorem dX6_undo_30 : decode cX6_undo 30 = .ok (.invokevirtual 328, 3) := by decide +kernel
theorem dX6_undo_33 : decode cX6_undo 33 = .ok (.aload_n 0, 1) := by decide +kernel
theorem dX6_undo_34 : decode cX6_undo 34 = .ok (.getfield 29, 3) := by decide +kernel
theorem dX6_undo_37 : decode cX6_undo 37 = .ok (.getfield 325, 3) := by decide +kernel
theorem dX6_undo_40 : decode cX6_undo 40 = .ok (.ireturn, 1) := by decide +kernel
theorem dX6_save_0 : decode cX6_save 0 = .ok (.aload_n 0, 1) := by decide +kernel
theorem dX6_save_1 : decode cX6_save 1 = .ok (.getfield 19, 3) := by decide +kernel
theorem dX6_save_4 : decode cX6_save 4 = .ok (.aload_n 0, 1) := by decide +kernel
theorem dX6_save_5 : decode cX6_save 5 = .ok (.getfield 10, 3) := by decide +kernel
theorem dX6_save_8 : decode cX6_save 8 = .ok (.invokevirtual 174, 3) := by decide +kernel
theorem dX6_save_11 : decode cX6_save 11 = .ok (.aload_n 0, 1) := by decide +kernel
theorem dX6_save_12 : decode cX6_save 12 = .ok (.iconst 1, 1) := by decide +kernel
theorem dX6_save_13 : decode cX6_save 13 = .ok (.putfield 22, 3) := by decide +kernel
theorem dX6_save_16 : decode cX6_save 16 = .ok (.aload_n 0, 1) := by decide +kernel
theorem dX6_save_17 : decode cX6_save 17 = .ok (.getfield 10, 3) := by decide +kernel
theorem dX6_save_20 : decode cX6_save 20 = .ok (.getfield 82, 3) := by decide +kernel
theorem dX6_save_23 : decode cX6_save 23 = .ok (.ireturn, 1) := by decide +kernel
theorem dX6_restore_0 : decode cX6_restore 0 = .ok (.aload_n 0, 1) := by decide +kernel
theorem dX6_restore_1 : decode cX6_restore 1 = .ok (.getfield 22, 3) := by decide +kernel
theorem dX6_restore_4 : decode cX6_restore 4 = .ok (.ifCond .ne 14, 3) := by decide +kernel
theorem dX6_restore_7 : decode cX6_restore 7 = .ok (.new 255, 3) := by decide +kernel
theorem dX6_restore_10 : decode cX6_restore 10 = .ok (.dup, 1) := by decide +kernel
theorem dX6_restore_11 : decode cX6_restore 11 = .ok (.ldc_w 331, 3) := by decide +kernel
theorem dX6_restore_14 : decode cX6_restore 14 = .ok (.invokespecial 259, 3) := by decide +kernel
theorem dX6_restore_17 : decode cX6_restore 17 = .ok (.athrow, 1) := by decide +kernel
theorem dX6_restore_18 : decode cX6_restore 18 = .ok (.aload_n 0, 1) := by decide +kernel
theorem dX6_restore_19 : decode cX6_restore 19 = .ok (.getfield 10, 3) := by decide +kernel
theorem dX6_restore_22 : decode cX6_restore 22 = .ok (.aload_n 0, 1) := by decide +kernel
theorem dX6_restore_23 : decode cX6_restore 23 = .ok (.getfield 19, 3) := by decide +kernel
theorem dX6_restore_26 : decode cX6_restore 26 = .ok (.invokevirtual 174, 3) := by decide +kernel
theorem dX6_restore_29 : decode cX6_restore 29 = .ok (.aload_n 0, 1) := by decide +kernel
theorem dX6_restore_30 : decode cX6_restore 30 = .ok (.getfield 29, 3) := by decide +kernel
theorem dX6_restore_33 : decode cX6_restore 33 = .ok (.invokevirtual 333, 3) := by decide +kernel
theorem dX6_restore_36 : decode cX6_restore 36 = .ok (.aload_n 0, 1) := by decide +kernel
theorem dX6_restore_37 : decode cX6_restore 37 = .ok (.getfield 10, 3) := by decide +kernel
theorem dX6_restore_40 : decode cX6_restore 40 = .ok (.getfield 82, 3) := by decide +kernel
theorem dX6_restore_43 : decode cX6_restore 43 = .ok (.ireturn, 1) := by decide +kernel
theorem dX6_prepare_0 : decode cX6_prepare 0 = .ok (.aload_n 0, 1) := by decide +kernel
theorem dX6_prepare_1 : decode cX6_prepare 1 = .ok (.aload_n 0, 1) := by decide +kernel
theorem dX6_prepare_2 : decode cX6_prepare 2 = .ok (.getfield 10, 3) := by decide +kernel
theorem dX6_prepare_5 : decode cX6_prepare 5 = .ok (.iload_n 1, 1) := by decide +kernel
theorem dX6_prepare_6 : decode cX6_prepare 6 = .ok (.iload_n 2, 1) := by decide +kernel
theorem dX6_prepare_7 : decode cX6_prepare 7 = .ok (.iload_n 3, 1) := by decide +kernel
theorem dX6_prepare_8 : decode cX6_prepare 8 = .ok (.iload 4, 2) := by decide +kernel
theorem dX6_prepare_10 : decode cX6_prepare 10 = .ok (.invokevirtual 280, 3) := by decide +kernel
theorem dX6_prepare_13 : decode cX6_prepare 13 = .ok (.invokestatic 336, 3) := by decide +kernel
theorem dX6_prepare_16 : decode cX6_prepare 16 = .ok (.aload_n 0, 1) := by decide +kernel
theorem dX6_prepare_17 : decode cX6_prepare 17 = .ok (.getfield 29, 3) := by decide +kernel
theorem dX6_prepare_20 : decode cX6_prepare 20 = .ok (.aload_n 0, 1) := by decide +kernel
theorem dX6_prepare_21 : decode cX6_prepare 21 = .ok (.getfield 10, 3) := by decide +kernel
theorem dX6_prepare_24 : decode cX6_prepare 24 = .ok (.invokevirtual 290, 3) := by decide +kernel
theorem dX6_prepare_27 : decode cX6_prepare 27 = .ok (.return_, 1) := by decide +kernel
theorem dX6_hindranceIn_0 : decode cX6_hindranceIn 0 = .ok (.aload_n 1, 1) := by decide +kernel
theorem dX6_hindranceIn_1 : decode cX6_hindranceIn 1 = .ok (.iload_n 2, 1) := by decide +kernel
theorem dX6_hindranceIn_2 : decode cX6_hindranceIn 2 = .ok (.iload_n 3, 1) := by decide +kernel
theorem dX6_hindranceIn_3 : decode cX6_hindranceIn 3 = .ok (.iload 4, 2) := by decide +kernel
theorem dX6_hindranceIn_5 : decode cX6_hindranceIn 5 = .ok (.iload 5, 2) := by decide +kernel
theorem dX6_hindranceIn_7 : decode cX6_hindranceIn 7 = .ok (.invokevirtual 339, 3) := by decide +kernel
theorem dX6_hindranceIn_10 : decode cX6_hindranceIn 10 = .ok (.istore 6, 2) := by decide +kernel
theorem dX6_hindranceIn_12 : decode cX6_hindranceIn 12 = .ok (.iload 6, 2) := by decide +kernel
theorem dX6_hindranceIn_14 : decode cX6_hindranceIn 14 = .ok (.bipush 6, 2) := by decide +kernel
theorem dX6_hindranceIn_16 : decode cX6_hindranceIn 16 = .ok (.if_icmp .ne 14, 3) := by decide +kernel
theorem dX6_hindranceIn_19 : decode cX6_hindranceIn 19 = .ok (.aload_n 0, 1) := by decide +kernel
theorem dX6_hindranceIn_20 : decode cX6_hindranceIn 20 = .ok (.aload_n 1, 1) := by decide +kernel
theorem dX6_hindranceIn_21 : decode cX6_hindranceIn 21 = .ok (.iload_n 2, 1) := by decide +kernel
theorem dX6_hindranceIn_22 : decode cX6_hindranceIn 22 = .ok (.iload_n 3, 1) := by decide +kernel
theorem dX6_hindranceIn_23 : decode cX6_hindranceIn 23 = .ok (.iload 4, 2) := by decide +kernel
theorem dX6_hindranceIn_25 : decode cX6_hindranceIn 25 = .ok (.iload 5, 2) := by decide +kernel
theorem dX6_hindranceIn_27 : decode cX6_hindranceIn 27 = .ok (.invokevirtual 342, 3) := by decide +kernel
theorem dX6_hindranceIn_30 : decode cX6_hindranceIn 30 = .ok (.iload 6, 2) := by decide +kernel
theorem dX6_hindranceIn_32 : decode cX6_hindranceIn 32 = .ok (.ireturn, 1) := by decide +kernel
theorem dX6_keepRefusal_0 : decode cX6_keepRefusal 0 = .ok (.iload_n 2, 1) := by decide +kernel
theorem dX6_keepRefusal_1 : decode cX6_keepRefusal 1 = .ok (.iconst 1, 1) := by decide +kernel
theorem dX6_keepRefusal_2 : decode cX6_keepRefusal 2 = .ok (.if_icmp .ne 7, 3) := by decide +kernel
theorem dX6_keepRefusal_5 : decode cX6_keepRefusal 5 = .ok (.iload_n 3, 1) := by decide +kernel
theorem dX6_keepRefusal_6 : decode cX6_keepRefusal 6 = .ok (.goto 4, 3) := by decide +kernel
theorem dX6_keepRefusal_9 : decode cX6_keepRefusal 9 = .ok (.iconst (-1), 1) := by decide +kernel
theorem dX6_keepRefusal_10 : decode cX6_keepRefusal 10 = .ok (.istore 6, 2) := by decide +kernel
theorem dX6_keepRefusal_12 : decode cX6_keepRefusal 12 = .ok (.iload_n 2, 1) := by decide +kernel
theorem dX6_keepRefusal_13 : decode cX6_keepRefusal 13 = .ok (.iconst 1, 1) := by decide +kernel
theorem dX6_keepRefusal_14 : decode cX6_keepRefusal 14 = .ok (.if_icmp .ne 8, 3) := by decide +kernel
theorem dX6_keepRefusal_17 : decode cX6_keepRefusal 17 = .ok (.iload 4, 2) := by decide +kernel
theorem dX6_keepRefusal_19 : decode cX6_keepRefusal 19 = .ok (.goto 4, 3) := by decide +kernel
theorem dX6_keepRefusal_22 : decode cX6_keepRefusal 22 = .ok (.iload_n 3, 1) := by decide +kernel
theorem dX6_keepRefusal_23 : decode cX6_keepRefusal 23 = .ok (.istore 7, 2) := by decide +kernel
theorem dX6_keepRefusal_25 : decode cX6_keepRefusal 25 = .ok (.iload_n 2, 1) := by decide +kernel
theorem dX6_keepRefusal_26 : decode cX6_keepRefusal 26 = .ok (.iconst 1, 1) := by decide +kernel
theorem dX6_keepRefusal_27 : decode cX6_keepRefusal 27 = .ok (.if_icmp .ne 8, 3) := by decide +kernel
theorem dX6_keepRefusal_30 : decode cX6_keepRefusal 30 = .ok (.iload 5, 2) := by decide +kernel
theorem dX6_keepRefusal_32 : decode cX6_keepRefusal 32 = .ok (.goto 5, 3) := by decide +kernel
theorem dX6_keepRefusal_35 : decode cX6_keepRefusal 35 = .ok (.iload 4, 2) := by decide +kernel
theorem dX6_keepRefusal_37 : decode cX6_keepRefusal 37 = .ok (.istore 8, 2) := by decide +kernel
theorem dX6_keepRefusal_39 : decode cX6_keepRefusal 39 = .ok (.aload_n 1, 1) := by decide +kernel
theorem dX6_keepRefusal_40 : decode cX6_keepRefusal 40 = .ok (.getfield 125, 3) := by decide +kernel
theorem dX6_keepRefusal_43 : decode cX6_keepRefusal 43 = .ok (.iload 7, 2) := by decide +kernel
theorem dX6_keepRefusal_45 : decode cX6_keepRefusal 45 = .ok (.iload 8, 2) := by decide +kernel
theorem dX6_keepRefusal_47 : decode cX6_keepRefusal 47 = .ok (.invokevirtual 136, 3) := by decide +kernel
theorem dX6_keepRefusal_50 : decode cX6_keepRefusal 50 = .ok (.ifCond .eq 22, 3) := by decide +kernel
theorem dX6_keepRefusal_53 : decode cX6_keepRefusal 53 = .ok (.aload_n 0, 1) := by decide +kernel
theorem dX6_keepRefusal_54 : decode cX6_keepRefusal 54 = .ok (.iconst 1, 1) := by decide +kernel
theorem dX6_keepRefusal_55 : decode cX6_keepRefusal 55 = .ok (.putfield 54, 3) := by decide +kernel
theorem dX6_keepRefusal_58 : decode cX6_keepRefusal 58 = .ok (.aload_n 0, 1) := by decide +kernel
theorem dX6_keepRefusal_59 : decode cX6_keepRefusal 59 = .ok (.aload_n 1, 1) := by decide +kernel
theorem dX6_keepRefusal_60 : decode cX6_keepRefusal 60 = .ok (.getfield 125, 3) := by decide +kernel
theorem dX6_keepRefusal_63 : decode cX6_keepRefusal 63 = .ok (.getfield 140, 3) := by decide +kernel
theorem dX6_keepRefusal_66 : decode cX6_keepRefusal 66 = .ok (.putfield 57, 3) := by decide +kernel
theorem dX6_keepRefusal_69 : decode cX6_keepRefusal 69 = .ok (.goto 22, 3) := by decide +kernel
theorem dX6_keepRefusal_72 : decode cX6_keepRefusal 72 = .ok (.aload_n 0, 1) := by decide +kernel
theorem dX6_keepRefusal_73 : decode cX6_keepRefusal 73 = .ok (.iconst 2, 1) := by decide +kernel
theorem dX6_keepRefusal_74 : decode cX6_keepRefusal 74 = .ok (.putfield 54, 3) := by decide +kernel
theorem dX6_keepRefusal_77 : decode cX6_keepRefusal 77 = .ok (.aload_n 0, 1) := by decide +kernel
theorem dX6_keepRefusal_78 : decode cX6_keepRefusal 78 = .ok (.aload_n 1, 1) := by decide +kernel
theorem dX6_keepRefusal_79 : decode cX6_keepRefusal 79 = .ok (.iload 6, 2) := by decide +kernel
theorem dX6_keepRefusal_81 : decode cX6_keepRefusal 81 = .ok (.iload 7, 2) := by decide +kernel
theorem dX6_keepRefusal_83 : decode cX6_keepRefusal 83 = .ok (.iload 8, 2) := by decide +kernel
theorem dX6_keepRefusal_85 : decode cX6_keepRefusal 85 = .ok (.invokevirtual 346, 3) := by decide +kernel
theorem dX6_keepRefusal_88 : decode cX6_keepRefusal 88 = .ok (.putfield 57, 3) := by decide +kernel
theorem dX6_keepRefusal_91 : decode cX6_keepRefusal 91 = .ok (.return_, 1) := by decide +kernel
theorem dX6_throwFor_0 : decode cX6_throwFor 0 = .ok (.iload_n 0, 1) := by decide +kernel
theorem dX6_throwFor_1 : decode cX6_throwFor 1 = .ok (.tableswitch 105 1 6 #[39, 50, 61, 72, 83, 94], 39) := by decide +kernel
theorem dX6_throwFor_40 : decode cX6_throwFor 40 = .ok (.new 301, 3) := by decide +kernel
theorem dX6_throwFor_43 : decode cX6_throwFor 43 = .ok (.dup, 1) := by decide +kernel
theorem dX6_throwFor_44 : decode cX6_throwFor 44 = .ok (.ldc_w 349, 3) := by decide +kernel
theorem dX6_throwFor_47 : decode cX6_throwFor 47 = .ok (.invokespecial 305, 3) := by decide +kernel
theorem dX6_throwFor_50 : decode cX6_throwFor 50 = .ok (.athrow, 1) := by decide +kernel
theorem dX6_throwFor_51 : decode cX6_throwFor 51 = .ok (.new 247, 3) := by decide +kernel
theorem dX6_throwFor_54 : decode cX6_throwFor 54 = .ok (.dup, 1) := by decide +kernel
theorem dX6_throwFor_55 : decode cX6_throwFor 55 = .ok (.ldc_w 351, 3) := by decide +kernel
theorem dX6_throwFor_58 : decode cX6_throwFor 58 = .ok (.invokespecial 251, 3) := by decide +kernel
theorem dX6_throwFor_61 : decode cX6_throwFor 61 = .ok (.athrow, 1) := by decide +kernel
theorem dX6_throwFor_62 : decode cX6_throwFor 62 = .ok (.new 255, 3) := by decide +kernel
theorem dX6_throwFor_65 : decode cX6_throwFor 65 = .ok (.dup, 1) := by decide +kernel
theorem dX6_throwFor_66 : decode cX6_throwFor 66 = .ok (.ldc_w 353, 3) := by decide +kernel
theorem dX6_throwFor_69 : decode cX6_throwFor 69 = .ok (.invokespecial 259, 3) := by decide +kernel
