/-! ===== instructions, one after another ===== -/
theorem dX0_init_0 : decode cX0_init 0 = .ok (.aload_n 0, 1) := by decide +kernel
theorem dX0_init_1 : decode cX0_init 1 = .ok (.invokespecial 3, 3) := by decide +kernel
theorem dX0_init_4 : decode cX0_init 4 = .ok (.aload_n 0, 1) := by decide +kernel
theorem dX0_init_5 : decode cX0_init 5 = .ok (.bipush 12, 2) := by decide +kernel
theorem dX0_init_7 : decode cX0_init 7 = .ok (.newarray .int, 2) := by decide +kernel
theorem dX0_init_9 : decode cX0_init 9 = .ok (.putfield 9, 3) := by decide +kernel
theorem dX0_init_12 : decode cX0_init 12 = .ok (.aload_n 0, 1) := by decide +kernel
theorem dX0_init_13 : decode cX0_init 13 = .ok (.iconst 0, 1) := by decide +kernel
theorem dX0_init_14 : decode cX0_init 14 = .ok (.putfield 15, 3) := by decide +kernel
theorem dX0_init_17 : decode cX0_init 17 = .ok (.return_, 1) := by decide +kernel
theorem dX0_inSky_0 : decode cX0_inSky 0 = .ok (.iload_n 0, 1) := by decide +kernel
theorem dX0_inSky_1 : decode cX0_inSky 1 = .ok (.ifCond .lt 23, 3) := by decide +kernel
theorem dX0_inSky_4 : decode cX0_inSky 4 = .ok (.iload_n 0, 1) := by decide +kernel
theorem dX0_inSky_5 : decode cX0_inSky 5 = .ok (.bipush 12, 2) := by decide +kernel
theorem dX0_inSky_7 : decode cX0_inSky 7 = .ok (.if_icmp .ge 17, 3) := by decide +kernel
theorem dX0_inSky_10 : decode cX0_inSky 10 = .ok (.iload_n 1, 1) := by decide +kernel
theorem dX0_inSky_11 : decode cX0_inSky 11 = .ok (.ifCond .lt 13, 3) := by decide +kernel
theorem dX0_inSky_14 : decode cX0_inSky 14 = .ok (.iload_n 1, 1) := by decide +kernel
theorem dX0_inSky_15 : decode cX0_inSky 15 = .ok (.bipush 12, 2) := by decide +kernel
theorem dX0_inSky_17 : decode cX0_inSky 17 = .ok (.if_icmp .ge 7, 3) := by decide +kernel
theorem dX0_inSky_20 : decode cX0_inSky 20 = .ok (.iconst 1, 1) := by decide +kernel
theorem dX0_inSky_21 : decode cX0_inSky 21 = .ok (.goto 4, 3) := by decide +kernel
theorem dX0_inSky_24 : decode cX0_inSky 24 = .ok (.iconst 0, 1) := by decide +kernel
theorem dX0_inSky_25 : decode cX0_inSky 25 = .ok (.ireturn, 1) := by decide +kernel
theorem dX0_covers_0 : decode cX0_covers 0 = .ok (.iload_n 1, 1) := by decide +kernel
theorem dX0_covers_1 : decode cX0_covers 1 = .ok (.iload_n 2, 1) := by decide +kernel
theorem dX0_covers_2 : decode cX0_covers 2 = .ok (.invokestatic 19, 3) := by decide +kernel
theorem dX0_covers_5 : decode cX0_covers 5 = .ok (.ifCond .eq 20, 3) := by decide +kernel
theorem dX0_covers_8 : decode cX0_covers 8 = .ok (.aload_n 0, 1) := by decide +kernel
theorem dX0_covers_9 : decode cX0_covers 9 = .ok (.getfield 9, 3) := by decide +kernel
theorem dX0_covers_12 : decode cX0_covers 12 = .ok (.iload_n 2, 1) := by decide +kernel
theorem dX0_covers_13 : decode cX0_covers 13 = .ok (.iaload, 1) := by decide +kernel
theorem dX0_covers_14 : decode cX0_covers 14 = .ok (.iconst 1, 1) := by decide +kernel
theorem dX0_covers_15 : decode cX0_covers 15 = .ok (.iload_n 1, 1) := by decide +kernel
theorem dX0_covers_16 : decode cX0_covers 16 = .ok (.ishl, 1) := by decide +kernel
theorem dX0_covers_17 : decode cX0_covers 17 = .ok (.iand, 1) := by decide +kernel
theorem dX0_covers_18 : decode cX0_covers 18 = .ok (.ifCond .eq 7, 3) := by decide +kernel
theorem dX0_covers_21 : decode cX0_covers 21 = .ok (.iconst 1, 1) := by decide +kernel
theorem dX0_covers_22 : decode cX0_covers 22 = .ok (.goto 4, 3) := by decide +kernel
theorem dX0_covers_25 : decode cX0_covers 25 = .ok (.iconst 0, 1) := by decide +kernel
theorem dX0_covers_26 : decode cX0_covers 26 = .ok (.ireturn, 1) := by decide +kernel
theorem dX0_put_0 : decode cX0_put 0 = .ok (.iload_n 1, 1) := by decide +kernel
theorem dX0_put_1 : decode cX0_put 1 = .ok (.iload_n 2, 1) := by decide +kernel
theorem dX0_put_2 : decode cX0_put 2 = .ok (.invokestatic 19, 3) := by decide +kernel
theorem dX0_put_5 : decode cX0_put 5 = .ok (.ifCond .eq 34, 3) := by decide +kernel
theorem dX0_put_8 : decode cX0_put 8 = .ok (.aload_n 0, 1) := by decide +kernel
theorem dX0_put_9 : decode cX0_put 9 = .ok (.iload_n 1, 1) := by decide +kernel
theorem dX0_put_10 : decode cX0_put 10 = .ok (.iload_n 2, 1) := by decide +kernel
theorem dX0_put_11 : decode cX0_put 11 = .ok (.invokevirtual 23, 3) := by decide +kernel
theorem dX0_put_14 : decode cX0_put 14 = .ok (.ifCond .ne 25, 3) := by decide +kernel
theorem dX0_put_17 : decode cX0_put 17 = .ok (.aload_n 0, 1) := by decide +kernel
theorem dX0_put_18 : decode cX0_put 18 = .ok (.getfield 9, 3) := by decide +kernel
theorem dX0_put_21 : decode cX0_put 21 = .ok (.iload_n 2, 1) := by decide +kernel
theorem dX0_put_22 : decode cX0_put 22 = .ok (.dup2, 1) := by decide +kernel
theorem dX0_put_23 : decode cX0_put 23 = .ok (.iaload, 1) := by decide +kernel
theorem dX0_put_24 : decode cX0_put 24 = .ok (.iconst 1, 1) := by decide +kernel
theorem dX0_put_25 : decode cX0_put 25 = .ok (.iload_n 1, 1) := by decide +kernel
theorem dX0_put_26 : decode cX0_put 26 = .ok (.ishl, 1) := by decide +kernel
theorem dX0_put_27 : decode cX0_put 27 = .ok (.ior, 1) := by decide +kernel
theorem dX0_put_28 : decode cX0_put 28 = .ok (.iastore, 1) := by decide +kernel
theorem dX0_put_29 : decode cX0_put 29 = .ok (.aload_n 0, 1) := by decide +kernel
theorem dX0_put_30 : decode cX0_put 30 = .ok (.dup, 1) := by decide +kernel
theorem dX0_put_31 : decode cX0_put 31 = .ok (.getfield 15, 3) := by decide +kernel
theorem dX0_put_34 : decode cX0_put 34 = .ok (.iconst 1, 1) := by decide +kernel
theorem dX0_put_35 : decode cX0_put 35 = .ok (.iadd, 1) := by decide +kernel
theorem dX0_put_36 : decode cX0_put 36 = .ok (.putfield 15, 3) := by decide +kernel
theorem dX0_put_39 : decode cX0_put 39 = .ok (.aload_n 0, 1) := by decide +kernel
theorem dX0_put_40 : decode cX0_put 40 = .ok (.getfield 15, 3) := by decide +kernel
theorem dX0_put_43 : decode cX0_put 43 = .ok (.ireturn, 1) := by decide +kernel
theorem dX0_remove_0 : decode cX0_remove 0 = .ok (.aload_n 0, 1) := by decide +kernel
theorem dX0_remove_1 : decode cX0_remove 1 = .ok (.iload_n 1, 1) := by decide +kernel
theorem dX0_remove_2 : decode cX0_remove 2 = .ok (.iload_n 2, 1) := by decide +kernel
theorem dX0_remove_3 : decode cX0_remove 3 = .ok (.invokevirtual 23, 3) := by decide +kernel
theorem dX0_remove_6 : decode cX0_remove 6 = .ok (.ifCond .eq 27, 3) := by decide +kernel
theorem dX0_remove_9 : decode cX0_remove 9 = .ok (.aload_n 0, 1) := by decide +kernel
theorem dX0_remove_10 : decode cX0_remove 10 = .ok (.getfield 9, 3) := by decide +kernel
theorem dX0_remove_13 : decode cX0_remove 13 = .ok (.iload_n 2, 1) := by decide +kernel
theorem dX0_remove_14 : decode cX0_remove 14 = .ok (.dup2, 1) := by decide +kernel
theorem dX0_remove_15 : decode cX0_remove 15 = .ok (.iaload, 1) := by decide +kernel
theorem dX0_remove_16 : decode cX0_remove 16 = .ok (.iconst 1, 1) := by decide +kernel
theorem dX0_remove_17 : decode cX0_remove 17 = .ok (.iload_n 1, 1) := by decide +kernel
theorem dX0_remove_18 : decode cX0_remove 18 = .ok (.ishl, 1) := by decide +kernel
theorem dX0_remove_19 : decode cX0_remove 19 = .ok (.iconst (-1), 1) := by decide +kernel
theorem dX0_remove_20 : decode cX0_remove 20 = .ok (.ixor, 1) := by decide +kernel
theorem dX0_remove_21 : decode cX0_remove 21 = .ok (.iand, 1) := by decide +kernel
theorem dX0_remove_22 : decode cX0_remove 22 = .ok (.iastore, 1) := by decide +kernel
theorem dX0_remove_23 : decode cX0_remove 23 = .ok (.aload_n 0, 1) := by decide +kernel
theorem dX0_remove_24 : decode cX0_remove 24 = .ok (.dup, 1) := by decide +kernel
theorem dX0_remove_25 : decode cX0_remove 25 = .ok (.getfield 15, 3) := by decide +kernel
theorem dX0_remove_28 : decode cX0_remove 28 = .ok (.iconst 1, 1) := by decide +kernel
theorem dX0_remove_29 : decode cX0_remove 29 = .ok (.isub, 1) := by decide +kernel
theorem dX0_remove_30 : decode cX0_remove 30 = .ok (.putfield 15, 3) := by decide +kernel
theorem dX0_remove_33 : decode cX0_remove 33 = .ok (.aload_n 0, 1) := by decide +kernel
theorem dX0_remove_34 : decode cX0_remove 34 = .ok (.getfield 15, 3) := by decide +kernel
theorem dX0_remove_37 : decode cX0_remove 37 = .ok (.ireturn, 1) := by decide +kernel
theorem dX0_copyFrom_0 : decode cX0_copyFrom 0 = .ok (.aload_n 1, 1) := by decide +kernel
theorem dX0_copyFrom_1 : decode cX0_copyFrom 1 = .ok (.getfield 9, 3) := by decide +kernel
theorem dX0_copyFrom_4 : decode cX0_copyFrom 4 = .ok (.iconst 0, 1) := by decide +kernel
theorem dX0_copyFrom_5 : decode cX0_copyFrom 5 = .ok (.aload_n 0, 1) := by decide +kernel
theorem dX0_copyFrom_6 : decode cX0_copyFrom 6 = .ok (.getfield 9, 3) := by decide +kernel
theorem dX0_copyFrom_9 : decode cX0_copyFrom 9 = .ok (.iconst 0, 1) := by decide +kernel
theorem dX0_copyFrom_10 : decode cX0_copyFrom 10 = .ok (.bipush 12, 2) := by decide +kernel
theorem dX0_copyFrom_12 : decode cX0_copyFrom 12 = .ok (.invokestatic 26, 3) := by decide +kernel
theorem dX0_copyFrom_15 : decode cX0_copyFrom 15 = .ok (.aload_n 0, 1) := by decide +kernel
theorem dX0_copyFrom_16 : decode cX0_copyFrom 16 = .ok (.aload_n 1, 1) := by decide +kernel
theorem dX0_copyFrom_17 : decode cX0_copyFrom 17 = .ok (.getfield 15, 3) := by decide +kernel
theorem dX0_copyFrom_20 : decode cX0_copyFrom 20 = .ok (.putfield 15, 3) := by decide +kernel
theorem dX0_copyFrom_23 : decode cX0_copyFrom 23 = .ok (.return_, 1) := by decide +kernel
theorem dX1_init_0 : decode cX1_init 0 = .ok (.aload_n 0, 1) := by decide +kernel
theorem dX1_init_1 : decode cX1_init 1 = .ok (.invokespecial 3, 3) := by decide +kernel
theorem dX1_init_4 : decode cX1_init 4 = .ok (.aload_n 0, 1) := by decide +kernel
theorem dX1_init_5 : decode cX1_init 5 = .ok (.bipush 60, 2) := by decide +kernel
theorem dX1_init_7 : decode cX1_init 7 = .ok (.newarray .char, 2) := by decide +kernel
theorem dX1_init_9 : decode cX1_init 9 = .ok (.putfield 9, 3) := by decide +kernel
theorem dX1_init_12 : decode cX1_init 12 = .ok (.aload_n 0, 1) := by decide +kernel
theorem dX1_init_13 : decode cX1_init 13 = .ok (.iconst 0, 1) := by decide +kernel
theorem dX1_init_14 : decode cX1_init 14 = .ok (.putfield 15, 3) := by decide +kernel
theorem dX1_init_17 : decode cX1_init 17 = .ok (.aload_n 0, 1) := by decide +kernel
theorem dX1_init_18 : decode cX1_init 18 = .ok (.bipush 10, 2) := by decide +kernel
theorem dX1_init_20 : decode cX1_init 20 = .ok (.newarray .int, 2) := by decide +kernel
theorem dX1_init_22 : decode cX1_init 22 = .ok (.putfield 19, 3) := by decide +kernel
theorem dX1_init_25 : decode cX1_init 25 = .ok (.aload_n 0, 1) := by decide +kernel
theorem dX1_init_26 : decode cX1_init 26 = .ok (.bipush 10, 2) := by decide +kernel
theorem dX1_init_28 : decode cX1_init 28 = .ok (.iconst 3, 1) := by decide +kernel
theorem dX1_init_29 : decode cX1_init 29 = .ok (.multianewarray 23 2, 4) := by decide +kernel
theorem dX1_init_33 : decode cX1_init 33 = .ok (.putfield 25, 3) := by decide +kernel
theorem dX1_init_36 : decode cX1_init 36 = .ok (.aload_n 0, 1) := by decide +kernel
theorem dX1_init_37 : decode cX1_init 37 = .ok (.iconst 0, 1) := by decide +kernel
theorem dX1_init_38 : decode cX1_init 38 = .ok (.putfield 28, 3) := by decide +kernel
theorem dX1_init_41 : decode cX1_init 41 = .ok (.aload_n 0, 1) := by decide +kernel
theorem dX1_init_42 : decode cX1_init 42 = .ok (.iconst 0, 1) := by decide +kernel
theorem dX1_init_43 : decode cX1_init 43 = .ok (.putfield 31, 3) := by decide +kernel
theorem dX1_init_46 : decode cX1_init 46 = .ok (.return_, 1) := by decide +kernel
theorem dX3_init_0 : decode cX3_init 0 = .ok (.aload_n 0, 1) := by decide +kernel
theorem dX3_init_1 : decode cX3_init 1 = .ok (.invokespecial 3, 3) := by decide +kernel
theorem dX3_init_4 : decode cX3_init 4 = .ok (.aload_n 0, 1) := by decide +kernel
theorem dX3_init_5 : decode cX3_init 5 = .ok (.bipush 10, 2) := by decide +kernel
theorem dX3_init_7 : decode cX3_init 7 = .ok (.newarray .int, 2) := by decide +kernel
theorem dX3_init_9 : decode cX3_init 9 = .ok (.putfield 9, 3) := by decide +kernel
theorem dX3_init_12 : decode cX3_init 12 = .ok (.aload_n 0, 1) := by decide +kernel
theorem dX3_init_13 : decode cX3_init 13 = .ok (.bipush 10, 2) := by decide +kernel
theorem dX3_init_15 : decode cX3_init 15 = .ok (.newarray .int, 2) := by decide +kernel
theorem dX3_init_17 : decode cX3_init 17 = .ok (.putfield 15, 3) := by decide +kernel
theorem dX3_init_20 : decode cX3_init 20 = .ok (.return_, 1) := by decide +kernel
theorem dX3_countByGoing_0 : decode cX3_countByGoing 0 = .ok (.aload_n 0, 1) := by decide +kernel
theorem dX3_countByGoing_1 : decode cX3_countByGoing 1 = .ok (.aload_n 1, 1) := by decide +kernel
theorem dX3_countByGoing_2 : decode cX3_countByGoing 2 = .ok (.invokevirtual 18, 3) := by decide +kernel
theorem dX3_countByGoing_5 : decode cX3_countByGoing 5 = .ok (.iconst 0, 1) := by decide +kernel
theorem dX3_countByGoing_6 : decode cX3_countByGoing 6 = .ok (.istore_n 2, 1) := by decide +kernel
theorem dX3_countByGoing_7 : decode cX3_countByGoing 7 = .ok (.iconst 0, 1) := by decide +kernel
theorem dX3_countByGoing_8 : decode cX3_countByGoing 8 = .ok (.istore_n 3, 1) := by decide +kernel
theorem dX3_countByGoing_9 : decode cX3_countByGoing 9 = .ok (.iload_n 3, 1) := by decide +kernel
theorem dX3_countByGoing_10 : decode cX3_countByGoing 10 = .ok (.aload_n 1, 1) := by decide +kernel
theorem dX3_countByGoing_11 : decode cX3_countByGoing 11 = .ok (.getfield 22, 3) := by decide +kernel
theorem dX3_countByGoing_14 : decode cX3_countByGoing 14 = .ok (.if_icmp .ge 27, 3) := by decide +kernel
theorem dX3_countByGoing_17 : decode cX3_countByGoing 17 = .ok (.iload_n 2, 1) := by decide +kernel
theorem dX3_countByGoing_18 : decode cX3_countByGoing 18 = .ok (.aload_n 0, 1) := by decide +kernel
theorem dX3_countByGoing_19 : decode cX3_countByGoing 19 = .ok (.getfield 9, 3) := by decide +kernel
theorem dX3_countByGoing_22 : decode cX3_countByGoing 22 = .ok (.iload_n 3, 1) := by decide +kernel
theorem dX3_countByGoing_23 : decode cX3_countByGoing 23 = .ok (.iaload, 1) := by decide +kernel
theorem dX3_countByGoing_24 : decode cX3_countByGoing 24 = .ok (.iload_n 3, 1) := by decide +kernel
theorem dX3_countByGoing_25 : decode cX3_countByGoing 25 = .ok (.if_icmp .ne 7, 3) := by decide +kernel
theorem dX3_countByGoing_28 : decode cX3_countByGoing 28 = .ok (.iconst 1, 1) := by decide +kernel
theorem dX3_countByGoing_29 : decode cX3_countByGoing 29 = .ok (.goto 4, 3) := by decide +kernel
theorem dX3_countByGoing_32 : decode cX3_countByGoing 32 = .ok (.iconst 0, 1) := by decide +kernel
theorem dX3_countByGoing_33 : decode cX3_countByGoing 33 = .ok (.iadd, 1) := by decide +kernel
theorem dX3_countByGoing_34 : decode cX3_countByGoing 34 = .ok (.istore_n 2, 1) := by decide +kernel
theorem dX3_countByGoing_35 : decode cX3_countByGoing 35 = .ok (.iinc 3 1, 3) := by decide +kernel
theorem dX3_countByGoing_38 : decode cX3_countByGoing 38 = .ok (.goto (-29), 3) := by decide +kernel
theorem dX3_countByGoing_41 : decode cX3_countByGoing 41 = .ok (.iload_n 2, 1) := by decide +kernel
theorem dX3_countByGoing_42 : decode cX3_countByGoing 42 = .ok (.ireturn, 1) := by decide +kernel
theorem dX3_lowestWith_0 : decode cX3_lowestWith 0 = .ok (.aload_n 0, 1) := by decide +kernel
theorem dX3_lowestWith_1 : decode cX3_lowestWith 1 = .ok (.aload_n 1, 1) := by decide +kernel
theorem dX3_lowestWith_2 : decode cX3_lowestWith 2 = .ok (.invokevirtual 18, 3) := by decide +kernel
theorem dX3_lowestWith_5 : decode cX3_lowestWith 5 = .ok (.aload_n 1, 1) := by decide +kernel
theorem dX3_lowestWith_6 : decode cX3_lowestWith 6 = .ok (.iload_n 2, 1) := by decide +kernel
theorem dX3_lowestWith_7 : decode cX3_lowestWith 7 = .ok (.invokevirtual 28, 3) := by decide +kernel
theorem dX3_lowestWith_10 : decode cX3_lowestWith 10 = .ok (.ifCond .eq 12, 3) := by decide +kernel
theorem dX3_lowestWith_13 : decode cX3_lowestWith 13 = .ok (.aload_n 0, 1) := by decide +kernel
theorem dX3_lowestWith_14 : decode cX3_lowestWith 14 = .ok (.getfield 9, 3) := by decide +kernel
theorem dX3_lowestWith_17 : decode cX3_lowestWith 17 = .ok (.iload_n 2, 1) := by decide +kernel
theorem dX3_lowestWith_18 : decode cX3_lowestWith 18 = .ok (.iaload, 1) := by decide +kernel
theorem dX3_lowestWith_19 : decode cX3_lowestWith 19 = .ok (.goto 4, 3) := by decide +kernel
theorem dX3_lowestWith_22 : decode cX3_lowestWith 22 = .ok (.iconst (-1), 1) := by decide +kernel
theorem dX3_lowestWith_23 : decode cX3_lowestWith 23 = .ok (.ireturn, 1) := by decide +kernel
theorem dX3_largest_0 : decode cX3_largest 0 = .ok (.aload_n 0, 1) := by decide +kernel
theorem dX3_largest_1 : decode cX3_largest 1 = .ok (.aload_n 1, 1) := by decide +kernel
theorem dX3_largest_2 : decode cX3_largest 2 = .ok (.invokevirtual 18, 3) := by decide +kernel
theorem dX3_largest_5 : decode cX3_largest 5 = .ok (.iconst 0, 1) := by decide +kernel
theorem dX3_largest_6 : decode cX3_largest 6 = .ok (.istore_n 2, 1) := by decide +kernel
theorem dX3_largest_7 : decode cX3_largest 7 = .ok (.iconst 0, 1) := by decide +kernel
theorem dX3_largest_8 : decode cX3_largest 8 = .ok (.istore_n 3, 1) := by decide +kernel
theorem dX3_largest_9 : decode cX3_largest 9 = .ok (.iload_n 3, 1) := by decide +kernel
theorem dX3_largest_10 : decode cX3_largest 10 = .ok (.aload_n 1, 1) := by decide +kernel
theorem dX3_largest_11 : decode cX3_largest 11 = .ok (.getfield 22, 3) := by decide +kernel
theorem dX3_largest_14 : decode cX3_largest 14 = .ok (.if_icmp .ge 20, 3) := by decide +kernel
theorem dX3_largest_17 : decode cX3_largest 17 = .ok (.iload_n 2, 1) := by decide +kernel
theorem dX3_largest_18 : decode cX3_largest 18 = .ok (.aload_n 0, 1) := by decide +kernel
theorem dX3_largest_19 : decode cX3_largest 19 = .ok (.aload_n 1, 1) := by decide +kernel
theorem dX3_largest_20 : decode cX3_largest 20 = .ok (.iload_n 3, 1) := by decide +kernel
theorem dX3_largest_21 : decode cX3_largest 21 = .ok (.invokevirtual 32, 3) := by decide +kernel
theorem dX3_largest_24 : decode cX3_largest 24 = .ok (.invokestatic 36, 3) := by decide +kernel
theorem dX3_largest_27 : decode cX3_largest 27 = .ok (.istore_n 2, 1) := by decide +kernel
theorem dX3_largest_28 : decode cX3_largest 28 = .ok (.iinc 3 1, 3) := by decide +kernel
theorem dX3_largest_31 : decode cX3_largest 31 = .ok (.goto (-22), 3) := by decide +kernel
theorem dX3_largest_34 : decode cX3_largest 34 = .ok (.iload_n 2, 1) := by decide +kernel
theorem dX3_largest_35 : decode cX3_largest 35 = .ok (.ireturn, 1) := by decide +kernel
theorem dX3_sizeOfGroup_0 : decode cX3_sizeOfGroup 0 = .ok (.iconst 0, 1) := by decide +kernel
theorem dX3_sizeOfGroup_1 : decode cX3_sizeOfGroup 1 = .ok (.istore_n 3, 1) := by decide +kernel
theorem dX3_sizeOfGroup_2 : decode cX3_sizeOfGroup 2 = .ok (.iconst 0, 1) := by decide +kernel
theorem dX3_sizeOfGroup_3 : decode cX3_sizeOfGroup 3 = .ok (.istore 4, 2) := by decide +kernel
theorem dX3_sizeOfGroup_5 : decode cX3_sizeOfGroup 5 = .ok (.iload 4, 2) := by decide +kernel
theorem dX3_sizeOfGroup_7 : decode cX3_sizeOfGroup 7 = .ok (.aload_n 1, 1) := by decide +kernel
theorem dX3_sizeOfGroup_8 : decode cX3_sizeOfGroup 8 = .ok (.getfield 22, 3) := by decide +kernel
theorem dX3_sizeOfGroup_11 : decode cX3_sizeOfGroup 11 = .ok (.if_icmp .ge 28, 3) := by decide +kernel
theorem dX3_sizeOfGroup_14 : decode cX3_sizeOfGroup 14 = .ok (.iload_n 3, 1) := by decide +kernel
theorem dX3_sizeOfGroup_15 : decode cX3_sizeOfGroup 15 = .ok (.aload_n 0, 1) := by decide +kernel
theorem dX3_sizeOfGroup_16 : decode cX3_sizeOfGroup 16 = .ok (.getfield 9, 3) := by decide +kernel
theorem dX3_sizeOfGroup_19 : decode cX3_sizeOfGroup 19 = .ok (.iload 4, 2) := by decide +kernel
theorem dX3_sizeOfGroup_21 : decode cX3_sizeOfGroup 21 = .ok (.iaload, 1) := by decide +kernel
theorem dX3_sizeOfGroup_22 : decode cX3_sizeOfGroup 22 = .ok (.iload_n 2, 1) := by decide +kernel
theorem dX3_sizeOfGroup_23 : decode cX3_sizeOfGroup 23 = .ok (.if_icmp .ne 7, 3) := by decide +kernel
theorem dX3_sizeOfGroup_26 : decode cX3_sizeOfGroup 26 = .ok (.iconst 1, 1) := by decide +kernel
theorem dX3_sizeOfGroup_27 : decode cX3_sizeOfGroup 27 = .ok (.goto 4, 3) := by decide +kernel
theorem dX3_sizeOfGroup_30 : decode cX3_sizeOfGroup 30 = .ok (.iconst 0, 1) := by decide +kernel
theorem dX3_sizeOfGroup_31 : decode cX3_sizeOfGroup 31 = .ok (.iadd, 1) := by decide +kernel
theorem dX3_sizeOfGroup_32 : decode cX3_sizeOfGroup 32 = .ok (.istore_n 3, 1) := by decide +kernel
theorem dX3_sizeOfGroup_33 : decode cX3_sizeOfGroup 33 = .ok (.iinc 4 1, 3) := by decide +kernel
theorem dX3_sizeOfGroup_36 : decode cX3_sizeOfGroup 36 = .ok (.goto (-31), 3) := by decide +kernel
theorem dX3_sizeOfGroup_39 : decode cX3_sizeOfGroup 39 = .ok (.iload_n 3, 1) := by decide +kernel
theorem dX3_sizeOfGroup_40 : decode cX3_sizeOfGroup 40 = .ok (.ireturn, 1) := by decide +kernel
theorem dX3_goThrough_0 : decode cX3_goThrough 0 = .ok (.iconst 0, 1) := by decide +kernel
theorem dX3_goThrough_1 : decode cX3_goThrough 1 = .ok (.istore_n 2, 1) := by decide +kernel
theorem dX3_goThrough_2 : decode cX3_goThrough 2 = .ok (.iload_n 2, 1) := by decide +kernel
theorem dX3_goThrough_3 : decode cX3_goThrough 3 = .ok (.aload_n 1, 1) := by decide +kernel
theorem dX3_goThrough_4 : decode cX3_goThrough 4 = .ok (.getfield 22, 3) := by decide +kernel
theorem dX3_goThrough_7 : decode cX3_goThrough 7 = .ok (.if_icmp .ge 16, 3) := by decide +kernel
theorem dX3_goThrough_10 : decode cX3_goThrough 10 = .ok (.aload_n 0, 1) := by decide +kernel
theorem dX3_goThrough_11 : decode cX3_goThrough 11 = .ok (.getfield 9, 3) := by decide +kernel
theorem dX3_goThrough_14 : decode cX3_goThrough 14 = .ok (.iload_n 2, 1) := by decide +kernel
theorem dX3_goThrough_15 : decode cX3_goThrough 15 = .ok (.iconst (-1), 1) := by decide +kernel
theorem dX3_goThrough_16 : decode cX3_goThrough 16 = .ok (.iastore, 1) := by decide +kernel
theorem dX3_goThrough_17 : decode cX3_goThrough 17 = .ok (.iinc 2 1, 3) := by decide +kernel
theorem dX3_goThrough_20 : decode cX3_goThrough 20 = .ok (.goto (-18), 3) := by decide +kernel
theorem dX3_goThrough_23 : decode cX3_goThrough 23 = .ok (.iconst 0, 1) := by decide +kernel
theorem dX3_goThrough_24 : decode cX3_goThrough 24 = .ok (.istore_n 2, 1) := by decide +kernel
theorem dX3_goThrough_25 : decode cX3_goThrough 25 = .ok (.iload_n 2, 1) := by decide +kernel
theorem dX3_goThrough_26 : decode cX3_goThrough 26 = .ok (.aload_n 1, 1) := by decide +kernel
theorem dX3_goThrough_27 : decode cX3_goThrough 27 = .ok (.getfield 22, 3) := by decide +kernel
theorem dX3_goThrough_30 : decode cX3_goThrough 30 = .ok (.if_icmp .ge 25, 3) := by decide +kernel
theorem dX3_goThrough_33 : decode cX3_goThrough 33 = .ok (.aload_n 0, 1) := by decide +kernel
theorem dX3_goThrough_34 : decode cX3_goThrough 34 = .ok (.getfield 9, 3) := by decide +kernel
theorem dX3_goThrough_37 : decode cX3_goThrough 37 = .ok (.iload_n 2, 1) := by decide +kernel
theorem dX3_goThrough_38 : decode cX3_goThrough 38 = .ok (.iaload, 1) := by decide +kernel
theorem dX3_goThrough_39 : decode cX3_goThrough 39 = .ok (.iconst (-1), 1) := by decide +kernel
theorem dX3_goThrough_40 : decode cX3_goThrough 40 = .ok (.if_icmp .ne 9, 3) := by decide +kernel
theorem dX3_goThrough_43 : decode cX3_goThrough 43 = .ok (.aload_n 0, 1) := by decide +kernel
theorem dX3_goThrough_44 : decode cX3_goThrough 44 = .ok (.aload_n 1, 1) := by decide +kernel
theorem dX3_goThrough_45 : decode cX3_goThrough 45 = .ok (.iload_n 2, 1) := by decide +kernel
theorem dX3_goThrough_46 : decode cX3_goThrough 46 = .ok (.invokevirtual 42, 3) := by decide +kernel
theorem dX3_goThrough_49 : decode cX3_goThrough 49 = .ok (.iinc 2 1, 3) := by decide +kernel
theorem dX3_goThrough_52 : decode cX3_goThrough 52 = .ok (.goto (-27), 3) := by decide +kernel
theorem dX3_goThrough_55 : decode cX3_goThrough 55 = .ok (.return_, 1) := by decide +kernel
theorem dX3_goFrom_0 : decode cX3_goFrom 0 = .ok (.aload_n 0, 1) := by decide +kernel
theorem dX3_goFrom_1 : decode cX3_goFrom 1 = .ok (.getfield 9, 3) := by decide +kernel
theorem dX3_goFrom_4 : decode cX3_goFrom 4 = .ok (.iload_n 2, 1) := by decide +kernel
theorem dX3_goFrom_5 : decode cX3_goFrom 5 = .ok (.iload_n 2, 1) := by decide +kernel
theorem dX3_goFrom_6 : decode cX3_goFrom 6 = .ok (.iastore, 1) := by decide +kernel
theorem dX3_goFrom_7 : decode cX3_goFrom 7 = .ok (.aload_n 0, 1) := by decide +kernel
theorem dX3_goFrom_8 : decode cX3_goFrom 8 = .ok (.getfield 15, 3) := by decide +kernel
theorem dX3_goFrom_11 : decode cX3_goFrom 11 = .ok (.iconst 0, 1) := by decide +kernel
theorem dX3_goFrom_12 : decode cX3_goFrom 12 = .ok (.iload_n 2, 1) := by decide +kernel
theorem dX3_goFrom_13 : decode cX3_goFrom 13 = .ok (.iastore, 1) := by decide +kernel
theorem dX3_goFrom_14 : decode cX3_goFrom 14 = .ok (.iconst 1, 1) := by decide +kernel
theorem dX3_goFrom_15 : decode cX3_goFrom 15 = .ok (.istore_n 3, 1) := by decide +kernel
theorem dX3_goFrom_16 : decode cX3_goFrom 16 = .ok (.iconst 0, 1) := by decide +kernel
theorem dX3_goFrom_17 : decode cX3_goFrom 17 = .ok (.istore 4, 2) := by decide +kernel
theorem dX3_goFrom_19 : decode cX3_goFrom 19 = .ok (.iload 4, 2) := by decide +kernel
theorem dX3_goFrom_21 : decode cX3_goFrom 21 = .ok (.iload_n 3, 1) := by decide +kernel
theorem dX3_goFrom_22 : decode cX3_goFrom 22 = .ok (.if_icmp .ge 79, 3) := by decide +kernel
theorem dX3_goFrom_25 : decode cX3_goFrom 25 = .ok (.iconst 0, 1) := by decide +kernel
theorem dX3_goFrom_26 : decode cX3_goFrom 26 = .ok (.istore 5, 2) := by decide +kernel
theorem dX3_goFrom_28 : decode cX3_goFrom 28 = .ok (.iload 5, 2) := by decide +kernel
theorem dX3_goFrom_30 : decode cX3_goFrom 30 = .ok (.aload_n 1, 1) := by decide +kernel
theorem dX3_goFrom_31 : decode cX3_goFrom 31 = .ok (.getfield 22, 3) := by decide +kernel
theorem dX3_goFrom_34 : decode cX3_goFrom 34 = .ok (.if_icmp .ge 61, 3) := by decide +kernel
theorem dX3_goFrom_37 : decode cX3_goFrom 37 = .ok (.iload_n 3, 1) := by decide +kernel
theorem dX3_goFrom_38 : decode cX3_goFrom 38 = .ok (.bipush 10, 2) := by decide +kernel
theorem dX3_goFrom_40 : decode cX3_goFrom 40 = .ok (.if_icmp .ge 49, 3) := by decide +kernel
theorem dX3_goFrom_43 : decode cX3_goFrom 43 = .ok (.aload_n 0, 1) := by decide +kernel
theorem dX3_goFrom_44 : decode cX3_goFrom 44 = .ok (.getfield 9, 3) := by decide +kernel
theorem dX3_goFrom_47 : decode cX3_goFrom 47 = .ok (.iload 5, 2) := by decide +kernel
theorem dX3_goFrom_49 : decode cX3_goFrom 49 = .ok (.iaload, 1) := by decide +kernel
theorem dX3_goFrom_50 : decode cX3_goFrom 50 = .ok (.iconst (-1), 1) := by decide +kernel
theorem dX3_goFrom_51 : decode cX3_goFrom 51 = .ok (.if_icmp .ne 38, 3) := by decide +kernel
theorem dX3_goFrom_54 : decode cX3_goFrom 54 = .ok (.aload_n 1, 1) := by decide +kernel
theorem dX3_goFrom_55 : decode cX3_goFrom 55 = .ok (.aload_n 0, 1) := by decide +kernel
theorem dX3_goFrom_56 : decode cX3_goFrom 56 = .ok (.getfield 15, 3) := by decide +kernel
theorem dX3_goFrom_59 : decode cX3_goFrom 59 = .ok (.iload 4, 2) := by decide +kernel
theorem dX3_goFrom_61 : decode cX3_goFrom 61 = .ok (.iaload, 1) := by decide +kernel
theorem dX3_goFrom_62 : decode cX3_goFrom 62 = .ok (.iload 5, 2) := by decide +kernel
theorem dX3_goFrom_64 : decode cX3_goFrom 64 = .ok (.invokevirtual 46, 3) := by decide +kernel
theorem dX3_goFrom_67 : decode cX3_goFrom 67 = .ok (.ifCond .eq 22, 3) := by decide +kernel
theorem dX3_goFrom_70 : decode cX3_goFrom 70 = .ok (.aload_n 0, 1) := by decide +kernel
theorem dX3_goFrom_71 : decode cX3_goFrom 71 = .ok (.getfield 9, 3) := by decide +kernel
theorem dX3_goFrom_74 : decode cX3_goFrom 74 = .ok (.iload 5, 2) := by decide +kernel
theorem dX3_goFrom_76 : decode cX3_goFrom 76 = .ok (.iload_n 2, 1) := by decide +kernel
theorem dX3_goFrom_77 : decode cX3_goFrom 77 = .ok (.iastore, 1) := by decide +kernel
theorem dX3_goFrom_78 : decode cX3_goFrom 78 = .ok (.aload_n 0, 1) := by decide +kernel
theorem dX3_goFrom_79 : decode cX3_goFrom 79 = .ok (.getfield 15, 3) := by decide +kernel
theorem dX3_goFrom_82 : decode cX3_goFrom 82 = .ok (.iload_n 3, 1) := by decide +kernel
theorem dX3_goFrom_83 : decode cX3_goFrom 83 = .ok (.iload 5, 2) := by decide +kernel
theorem dX3_goFrom_85 : decode cX3_goFrom 85 = .ok (.iastore, 1) := by decide +kernel
theorem dX3_goFrom_86 : decode cX3_goFrom 86 = .ok (.iinc 3 1, 3) := by decide +kernel
theorem dX3_goFrom_89 : decode cX3_goFrom 89 = .ok (.iinc 5 1, 3) := by decide +kernel
theorem dX3_goFrom_92 : decode cX3_goFrom 92 = .ok (.goto (-64), 3) := by decide +kernel
theorem dX3_goFrom_95 : decode cX3_goFrom 95 = .ok (.iinc 4 1, 3) := by decide +kernel
theorem dX3_goFrom_98 : decode cX3_goFrom 98 = .ok (.goto (-79), 3) := by decide +kernel
theorem dX3_goFrom_101 : decode cX3_goFrom 101 = .ok (.return_, 1) := by decide +kernel
theorem dX3_countByMerging_0 : decode cX3_countByMerging 0 = .ok (.iconst 0, 1) := by decide +kernel
theorem dX3_countByMerging_1 : decode cX3_countByMerging 1 = .ok (.istore_n 2, 1) := by decide +kernel
theorem dX3_countByMerging_2 : decode cX3_countByMerging 2 = .ok (.iload_n 2, 1) := by decide +kernel
theorem dX3_countByMerging_3 : decode cX3_countByMerging 3 = .ok (.aload_n 1, 1) := by decide +kernel
theorem dX3_countByMerging_4 : decode cX3_countByMerging 4 = .ok (.getfield 22, 3) := by decide +kernel
theorem dX3_countByMerging_7 : decode cX3_countByMerging 7 = .ok (.if_icmp .ge 16, 3) := by decide +kernel
theorem dX3_countByMerging_10 : decode cX3_countByMerging 10 = .ok (.aload_n 0, 1) := by decide +kernel
theorem dX3_countByMerging_11 : decode cX3_countByMerging 11 = .ok (.getfield 9, 3) := by decide +kernel
theorem dX3_countByMerging_14 : decode cX3_countByMerging 14 = .ok (.iload_n 2, 1) := by decide +kernel
theorem dX3_countByMerging_15 : decode cX3_countByMerging 15 = .ok (.iload_n 2, 1) := by decide +kernel
theorem dX3_countByMerging_16 : decode cX3_countByMerging 16 = .ok (.iastore, 1) := by decide +kernel
theorem dX3_countByMerging_17 : decode cX3_countByMerging 17 = .ok (.iinc 2 1, 3) := by decide +kernel
theorem dX3_countByMerging_20 : decode cX3_countByMerging 20 = .ok (.goto (-18), 3) := by decide +kernel
theorem dX3_countByMerging_23 : decode cX3_countByMerging 23 = .ok (.aload_n 1, 1) := by decide +kernel
theorem dX3_countByMerging_24 : decode cX3_countByMerging 24 = .ok (.getfield 22, 3) := by decide +kernel
theorem dX3_countByMerging_27 : decode cX3_countByMerging 27 = .ok (.istore_n 2, 1) := by decide +kernel
theorem dX3_countByMerging_28 : decode cX3_countByMerging 28 = .ok (.iconst 0, 1) := by decide +kernel
theorem dX3_countByMerging_29 : decode cX3_countByMerging 29 = .ok (.istore_n 3, 1) := by decide +kernel
theorem dX3_countByMerging_30 : decode cX3_countByMerging 30 = .ok (.iload_n 3, 1) := by decide +kernel
theorem dX3_countByMerging_31 : decode cX3_countByMerging 31 = .ok (.aload_n 1, 1) := by decide +kernel
theorem dX3_countByMerging_32 : decode cX3_countByMerging 32 = .ok (.getfield 22, 3) := by decide +kernel
theorem dX3_countByMerging_35 : decode cX3_countByMerging 35 = .ok (.if_icmp .ge 76, 3) := by decide +kernel
theorem dX3_countByMerging_38 : decode cX3_countByMerging 38 = .ok (.iload_n 3, 1) := by decide +kernel
theorem dX3_countByMerging_39 : decode cX3_countByMerging 39 = .ok (.iconst 1, 1) := by decide +kernel
theorem dX3_countByMerging_40 : decode cX3_countByMerging 40 = .ok (.iadd, 1) := by decide +kernel
theorem dX3_countByMerging_41 : decode cX3_countByMerging 41 = .ok (.istore 4, 2) := by decide +kernel
theorem dX3_countByMerging_43 : decode cX3_countByMerging 43 = .ok (.iload 4, 2) := by decide +kernel
theorem dX3_countByMerging_45 : decode cX3_countByMerging 45 = .ok (.aload_n 1, 1) := by decide +kernel
theorem dX3_countByMerging_46 : decode cX3_countByMerging 46 = .ok (.getfield 22, 3) := by decide +kernel
theorem dX3_countByMerging_49 : decode cX3_countByMerging 49 = .ok (.if_icmp .ge 56, 3) := by decide +kernel
theorem dX3_countByMerging_52 : decode cX3_countByMerging 52 = .ok (.aload_n 0, 1) := by decide +kernel
theorem dX3_countByMerging_53 : decode cX3_countByMerging 53 = .ok (.getfield 9, 3) := by decide +kernel
theorem dX3_countByMerging_56 : decode cX3_countByMerging 56 = .ok (.iload_n 3, 1) := by decide +kernel
theorem dX3_countByMerging_57 : decode cX3_countByMerging 57 = .ok (.iaload, 1) := by decide +kernel
theorem dX3_countByMerging_58 : decode cX3_countByMerging 58 = .ok (.aload_n 0, 1) := by decide +kernel
theorem dX3_countByMerging_59 : decode cX3_countByMerging 59 = .ok (.getfield 9, 3) := by decide +kernel
theorem dX3_countByMerging_62 : decode cX3_countByMerging 62 = .ok (.iload 4, 2) := by decide +kernel
theorem dX3_countByMerging_64 : decode cX3_countByMerging 64 = .ok (.iaload, 1) := by decide +kernel
theorem dX3_countByMerging_65 : decode cX3_countByMerging 65 = .ok (.if_icmp .eq 34, 3) := by decide +kernel
theorem dX3_countByMerging_68 : decode cX3_countByMerging 68 = .ok (.aload_n 1, 1) := by decide +kernel
theorem dX3_countByMerging_69 : decode cX3_countByMerging 69 = .ok (.iload_n 3, 1) := by decide +kernel
theorem dX3_countByMerging_70 : decode cX3_countByMerging 70 = .ok (.iload 4, 2) := by decide +kernel
theorem dX3_countByMerging_72 : decode cX3_countByMerging 72 = .ok (.invokevirtual 46, 3) := by decide +kernel
theorem dX3_countByMerging_75 : decode cX3_countByMerging 75 = .ok (.ifCond .eq 24, 3) := by decide +kernel
theorem dX3_countByMerging_78 : decode cX3_countByMerging 78 = .ok (.aload_n 0, 1) := by decide +kernel
theorem dX3_countByMerging_79 : decode cX3_countByMerging 79 = .ok (.aload_n 1, 1) := by decide +kernel
theorem dX3_countByMerging_80 : decode cX3_countByMerging 80 = .ok (.aload_n 0, 1) := by decide +kernel
theorem dX3_countByMerging_81 : decode cX3_countByMerging 81 = .ok (.getfield 9, 3) := by decide +kernel
theorem dX3_countByMerging_84 : decode cX3_countByMerging 84 = .ok (.iload_n 3, 1) := by decide +kernel
theorem dX3_countByMerging_85 : decode cX3_countByMerging 85 = .ok (.iaload, 1) := by decide +kernel
theorem dX3_countByMerging_86 : decode cX3_countByMerging 86 = .ok (.aload_n 0, 1) := by decide +kernel
theorem dX3_countByMerging_87 : decode cX3_countByMerging 87 = .ok (.getfield 9, 3) := by decide +kernel
theorem dX3_countByMerging_90 : decode cX3_countByMerging 90 = .ok (.iload 4, 2) := by decide +kernel
theorem dX3_countByMerging_92 : decode cX3_countByMerging 92 = .ok (.iaload, 1) := by decide +kernel
theorem dX3_countByMerging_93 : decode cX3_countByMerging 93 = .ok (.invokevirtual 50, 3) := by decide +kernel
theorem dX3_countByMerging_96 : decode cX3_countByMerging 96 = .ok (.iinc 2 (-1), 3) := by decide +kernel
theorem dX3_countByMerging_99 : decode cX3_countByMerging 99 = .ok (.iinc 4 1, 3) := by decide +kernel
theorem dX3_countByMerging_102 : decode cX3_countByMerging 102 = .ok (.goto (-59), 3) := by decide +kernel
theorem dX3_countByMerging_105 : decode cX3_countByMerging 105 = .ok (.iinc 3 1, 3) := by decide +kernel
theorem dX3_countByMerging_108 : decode cX3_countByMerging 108 = .ok (.goto (-78), 3) := by decide +kernel
theorem dX3_countByMerging_111 : decode cX3_countByMerging 111 = .ok (.iload_n 2, 1) := by decide +kernel
theorem dX3_countByMerging_112 : decode cX3_countByMerging 112 = .ok (.ireturn, 1) := by decide +kernel
theorem dX3_merge_0 : decode cX3_merge 0 = .ok (.iconst 0, 1) := by decide +kernel
theorem dX3_merge_1 : decode cX3_merge 1 = .ok (.istore 4, 2) := by decide +kernel
theorem dX3_merge_3 : decode cX3_merge 3 = .ok (.iload 4, 2) := by decide +kernel
theorem dX3_merge_5 : decode cX3_merge 5 = .ok (.aload_n 1, 1) := by decide +kernel
theorem dX3_merge_6 : decode cX3_merge 6 = .ok (.getfield 22, 3) := by decide +kernel
theorem dX3_merge_9 : decode cX3_merge 9 = .ok (.if_icmp .ge 28, 3) := by decide +kernel
theorem dX3_merge_12 : decode cX3_merge 12 = .ok (.aload_n 0, 1) := by decide +kernel
theorem dX3_merge_13 : decode cX3_merge 13 = .ok (.getfield 9, 3) := by decide +kernel
theorem dX3_merge_16 : decode cX3_merge 16 = .ok (.iload 4, 2) := by decide +kernel
theorem dX3_merge_18 : decode cX3_merge 18 = .ok (.iaload, 1) := by decide +kernel
theorem dX3_merge_19 : decode cX3_merge 19 = .ok (.iload_n 3, 1) := by decide +kernel
theorem dX3_merge_20 : decode cX3_merge 20 = .ok (.if_icmp .ne 11, 3) := by decide +kernel
theorem dX3_merge_23 : decode cX3_merge 23 = .ok (.aload_n 0, 1) := by decide +kernel
theorem dX3_merge_24 : decode cX3_merge 24 = .ok (.getfield 9, 3) := by decide +kernel
theorem dX3_merge_27 : decode cX3_merge 27 = .ok (.iload 4, 2) := by decide +kernel
theorem dX3_merge_29 : decode cX3_merge 29 = .ok (.iload_n 2, 1) := by decide +kernel
theorem dX3_merge_30 : decode cX3_merge 30 = .ok (.iastore, 1) := by decide +kernel
theorem dX3_merge_31 : decode cX3_merge 31 = .ok (.iinc 4 1, 3) := by decide +kernel
theorem dX3_merge_34 : decode cX3_merge 34 = .ok (.goto (-31), 3) := by decide +kernel
theorem dX3_merge_37 : decode cX3_merge 37 = .ok (.return_, 1) := by decide +kernel
theorem dX4_init_0 : decode cX4_init 0 = .ok (.aload_n 0, 1) := by decide +kernel
theorem dX4_init_1 : decode cX4_init 1 = .ok (.invokespecial 3, 3) := by decide +kernel
theorem dX4_init_4 : decode cX4_init 4 = .ok (.aload_n 0, 1) := by decide +kernel
theorem dX4_init_5 : decode cX4_init 5 = .ok (.bipush 8, 2) := by decide +kernel
theorem dX4_init_7 : decode cX4_init 7 = .ok (.anewarray 9, 3) := by decide +kernel
theorem dX4_init_10 : decode cX4_init 10 = .ok (.putfield 11, 3) := by decide +kernel
theorem dX4_init_13 : decode cX4_init 13 = .ok (.aload_n 0, 1) := by decide +kernel
theorem dX4_init_14 : decode cX4_init 14 = .ok (.iconst 0, 1) := by decide +kernel
theorem dX4_init_15 : decode cX4_init 15 = .ok (.putfield 17, 3) := by decide +kernel
theorem dX4_init_18 : decode cX4_init 18 = .ok (.aload_n 0, 1) := by decide +kernel
theorem dX4_init_19 : decode cX4_init 19 = .ok (.iconst 0, 1) := by decide +kernel
theorem dX4_init_20 : decode cX4_init 20 = .ok (.putfield 21, 3) := by decide +kernel
theorem dX4_init_23 : decode cX4_init 23 = .ok (.iconst 0, 1) := by decide +kernel
theorem dX4_init_24 : decode cX4_init 24 = .ok (.istore_n 1, 1) := by decide +kernel
theorem dX4_init_25 : decode cX4_init 25 = .ok (.iload_n 1, 1) := by decide +kernel
theorem dX4_init_26 : decode cX4_init 26 = .ok (.bipush 8, 2) := by decide +kernel
theorem dX4_init_28 : decode cX4_init 28 = .ok (.if_icmp .ge 22, 3) := by decide +kernel
theorem dX4_init_31 : decode cX4_init 31 = .ok (.aload_n 0, 1) := by decide +kernel
theorem dX4_init_32 : decode cX4_init 32 = .ok (.getfield 11, 3) := by decide +kernel
theorem dX4_init_35 : decode cX4_init 35 = .ok (.iload_n 1, 1) := by decide +kernel
theorem dX4_init_36 : decode cX4_init 36 = .ok (.new 9, 3) := by decide +kernel
theorem dX4_init_39 : decode cX4_init 39 = .ok (.dup, 1) := by decide +kernel
theorem dX4_init_40 : decode cX4_init 40 = .ok (.invokespecial 24, 3) := by decide +kernel
theorem dX4_init_43 : decode cX4_init 43 = .ok (.aastore, 1) := by decide +kernel
theorem dX4_init_44 : decode cX4_init 44 = .ok (.iinc 1 1, 3) := by decide +kernel
theorem dX4_init_47 : decode cX4_init 47 = .ok (.goto (-22), 3) := by decide +kernel
theorem dX4_init_50 : decode cX4_init 50 = .ok (.return_, 1) := by decide +kernel
theorem dX4_push_0 : decode cX4_push 0 = .ok (.aload_n 0, 1) := by decide +kernel
theorem dX4_push_1 : decode cX4_push 1 = .ok (.getfield 11, 3) := by decide +kernel
theorem dX4_push_4 : decode cX4_push 4 = .ok (.aload_n 0, 1) := by decide +kernel
theorem dX4_push_5 : decode cX4_push 5 = .ok (.getfield 21, 3) := by decide +kernel
theorem dX4_push_8 : decode cX4_push 8 = .ok (.aaload, 1) := by decide +kernel
theorem dX4_push_9 : decode cX4_push 9 = .ok (.astore_n 2, 1) := by decide +kernel
theorem dX4_push_10 : decode cX4_push 10 = .ok (.aload_n 2, 1) := by decide +kernel
theorem dX4_push_11 : decode cX4_push 11 = .ok (.ifnull 8, 3) := by decide +kernel
theorem dX4_push_14 : decode cX4_push 14 = .ok (.aload_n 2, 1) := by decide +kernel
theorem dX4_push_15 : decode cX4_push 15 = .ok (.aload_n 1, 1) := by decide +kernel
theorem dX4_push_16 : decode cX4_push 16 = .ok (.invokevirtual 25, 3) := by decide +kernel
theorem dX4_push_19 : decode cX4_push 19 = .ok (.aload_n 0, 1) := by decide +kernel
theorem dX4_push_20 : decode cX4_push 20 = .ok (.aload_n 0, 1) := by decide +kernel
theorem dX4_push_21 : decode cX4_push 21 = .ok (.getfield 21, 3) := by decide +kernel
theorem dX4_push_24 : decode cX4_push 24 = .ok (.iconst 1, 1) := by decide +kernel
theorem dX4_push_25 : decode cX4_push 25 = .ok (.iadd, 1) := by decide +kernel
theorem dX4_push_26 : decode cX4_push 26 = .ok (.bipush 8, 2) := by decide +kernel
theorem dX4_push_28 : decode cX4_push 28 = .ok (.if_icmp .ge 12, 3) := by decide +kernel
theorem dX4_push_31 : decode cX4_push 31 = .ok (.aload_n 0, 1) := by decide +kernel
theorem dX4_push_32 : decode cX4_push 32 = .ok (.getfield 21, 3) := by decide +kernel
theorem dX4_push_35 : decode cX4_push 35 = .ok (.iconst 1, 1) := by decide +kernel
theorem dX4_push_36 : decode cX4_push 36 = .ok (.iadd, 1) := by decide +kernel
theorem dX4_push_37 : decode cX4_push 37 = .ok (.goto 4, 3) := by decide +kernel
theorem dX4_push_40 : decode cX4_push 40 = .ok (.iconst 0, 1) := by decide +kernel
theorem dX4_push_41 : decode cX4_push 41 = .ok (.putfield 21, 3) := by decide +kernel
theorem dX4_push_44 : decode cX4_push 44 = .ok (.aload_n 0, 1) := by decide +kernel
theorem dX4_push_45 : decode cX4_push 45 = .ok (.aload_n 0, 1) := by decide +kernel
theorem dX4_push_46 : decode cX4_push 46 = .ok (.getfield 17, 3) := by decide +kernel
theorem dX4_push_49 : decode cX4_push 49 = .ok (.iconst 1, 1) := by decide +kernel
theorem dX4_push_50 : decode cX4_push 50 = .ok (.iadd, 1) := by decide +kernel
theorem dX4_push_51 : decode cX4_push 51 = .ok (.bipush 8, 2) := by decide +kernel
theorem dX4_push_53 : decode cX4_push 53 = .ok (.invokestatic 29, 3) := by decide +kernel
theorem dX4_push_56 : decode cX4_push 56 = .ok (.putfield 17, 3) := by decide +kernel
theorem dX4_push_59 : decode cX4_push 59 = .ok (.return_, 1) := by decide +kernel
theorem dX5_init_0 : decode cX5_init 0 = .ok (.aload_n 0, 1) := by decide +kernel
theorem dX5_init_1 : decode cX5_init 1 = .ok (.invokespecial 3, 3) := by decide +kernel
theorem dX5_init_4 : decode cX5_init 4 = .ok (.aload_n 0, 1) := by decide +kernel
theorem dX5_init_5 : decode cX5_init 5 = .ok (.bipush 48, 2) := by decide +kernel
theorem dX5_init_7 : decode cX5_init 7 = .ok (.newarray .long, 2) := by decide +kernel
theorem dX5_init_9 : decode cX5_init 9 = .ok (.putfield 11, 3) := by decide +kernel
theorem dX5_init_12 : decode cX5_init 12 = .ok (.aload_n 0, 1) := by decide +kernel
theorem dX5_init_13 : decode cX5_init 13 = .ok (.iconst 0, 1) := by decide +kernel
theorem dX5_init_14 : decode cX5_init 14 = .ok (.putfield 15, 3) := by decide +kernel
theorem dX5_init_17 : decode cX5_init 17 = .ok (.aload_n 0, 1) := by decide +kernel
theorem dX5_init_18 : decode cX5_init 18 = .ok (.iconst 0, 1) := by decide +kernel
theorem dX5_init_19 : decode cX5_init 19 = .ok (.putfield 19, 3) := by decide +kernel
theorem dX5_init_22 : decode cX5_init 22 = .ok (.return_, 1) := by decide +kernel
theorem dX5_remember_0 : decode cX5_remember 0 = .ok (.aload_n 1, 1) := by decide +kernel
theorem dX5_remember_1 : decode cX5_remember 1 = .ok (.iconst 0, 1) := by decide +kernel
theorem dX5_remember_2 : decode cX5_remember 2 = .ok (.aload_n 0, 1) := by decide +kernel
theorem dX5_remember_3 : decode cX5_remember 3 = .ok (.getfield 11, 3) := by decide +kernel
theorem dX5_remember_6 : decode cX5_remember 6 = .ok (.aload_n 0, 1) := by decide +kernel
theorem dX5_remember_7 : decode cX5_remember 7 = .ok (.getfield 19, 3) := by decide +kernel
theorem dX5_remember_10 : decode cX5_remember 10 = .ok (.iconst 3, 1) := by decide +kernel
theorem dX5_remember_11 : decode cX5_remember 11 = .ok (.imul, 1) := by decide +kernel
theorem dX5_remember_12 : decode cX5_remember 12 = .ok (.iconst 3, 1) := by decide +kernel
theorem dX5_remember_13 : decode cX5_remember 13 = .ok (.invokestatic 22, 3) := by decide +kernel
theorem dX5_remember_16 : decode cX5_remember 16 = .ok (.aload_n 0, 1) := by decide +kernel
theorem dX5_remember_17 : decode cX5_remember 17 = .ok (.aload_n 0, 1) := by decide +kernel
theorem dX5_remember_18 : decode cX5_remember 18 = .ok (.getfield 19, 3) := by decide +kernel
theorem dX5_remember_21 : decode cX5_remember 21 = .ok (.iconst 1, 1) := by decide +kernel
theorem dX5_remember_22 : decode cX5_remember 22 = .ok (.iadd, 1) := by decide +kernel
theorem dX5_remember_23 : decode cX5_remember 23 = .ok (.bipush 16, 2) := by decide +kernel
theorem dX5_remember_25 : decode cX5_remember 25 = .ok (.if_icmp .ge 12, 3) := by decide +kernel
theorem dX5_remember_28 : decode cX5_remember 28 = .ok (.aload_n 0, 1) := by decide +kernel
theorem dX5_remember_29 : decode cX5_remember 29 = .ok (.getfield 19, 3) := by decide +kernel
theorem dX5_remember_32 : decode cX5_remember 32 = .ok (.iconst 1, 1) := by decide +kernel
theorem dX5_remember_33 : decode cX5_remember 33 = .ok (.iadd, 1) := by decide +kernel
theorem dX5_remember_34 : decode cX5_remember 34 = .ok (.goto 4, 3) := by decide +kernel
theorem dX5_remember_37 : decode cX5_remember 37 = .ok (.iconst 0, 1) := by decide +kernel
theorem dX5_remember_38 : decode cX5_remember 38 = .ok (.putfield 19, 3) := by decide +kernel
theorem dX5_remember_41 : decode cX5_remember 41 = .ok (.aload_n 0, 1) := by decide +kernel
theorem dX5_remember_42 : decode cX5_remember 42 = .ok (.aload_n 0, 1) := by decide +kernel
theorem dX5_remember_43 : decode cX5_remember 43 = .ok (.getfield 15, 3) := by decide +kernel
theorem dX5_remember_46 : decode cX5_remember 46 = .ok (.iconst 1, 1) := by decide +kernel
theorem dX5_remember_47 : decode cX5_remember 47 = .ok (.iadd, 1) := by decide +kernel
theorem dX5_remember_48 : decode cX5_remember 48 = .ok (.bipush 16, 2) := by decide +kernel
theorem dX5_remember_50 : decode cX5_remember 50 = .ok (.invokestatic 28, 3) := by decide +kernel
theorem dX5_remember_53 : decode cX5_remember 53 = .ok (.putfield 15, 3) := by decide +kernel
theorem dX5_remember_56 : decode cX5_remember 56 = .ok (.return_, 1) := by decide +kernel
theorem dX5_stepsSince_0 : decode cX5_stepsSince 0 = .ok (.aload_n 0, 1) := by decide +kernel
theorem dX5_stepsSince_1 : decode cX5_stepsSince 1 = .ok (.getfield 19, 3) := by decide +kernel
theorem dX5_stepsSince_4 : decode cX5_stepsSince 4 = .ok (.istore_n 2, 1) := by decide +kernel
theorem dX5_stepsSince_5 : decode cX5_stepsSince 5 = .ok (.iconst 0, 1) := by decide +kernel
theorem dX5_stepsSince_6 : decode cX5_stepsSince 6 = .ok (.istore_n 3, 1) := by decide +kernel
theorem dX5_stepsSince_7 : decode cX5_stepsSince 7 = .ok (.iload_n 3, 1) := by decide +kernel
theorem dX5_stepsSince_8 : decode cX5_stepsSince 8 = .ok (.aload_n 0, 1) := by decide +kernel
theorem dX5_stepsSince_9 : decode cX5_stepsSince 9 = .ok (.getfield 15, 3) := by decide +kernel
theorem dX5_stepsSince_12 : decode cX5_stepsSince 12 = .ok (.if_icmp .ge 34, 3) := by decide +kernel
theorem dX5_stepsSince_15 : decode cX5_stepsSince 15 = .ok (.iload_n 2, 1) := by decide +kernel
theorem dX5_stepsSince_16 : decode cX5_stepsSince 16 = .ok (.ifCond .le 9, 3) := by decide +kernel
theorem dX5_stepsSince_19 : decode cX5_stepsSince 19 = .ok (.iload_n 2, 1) := by decide +kernel
theorem dX5_stepsSince_20 : decode cX5_stepsSince 20 = .ok (.iconst 1, 1) := by decide +kernel
theorem dX5_stepsSince_21 : decode cX5_stepsSince 21 = .ok (.isub, 1) := by decide +kernel
theorem dX5_stepsSince_22 : decode cX5_stepsSince 22 = .ok (.goto 5, 3) := by decide +kernel
theorem dX5_stepsSince_25 : decode cX5_stepsSince 25 = .ok (.bipush 15, 2) := by decide +kernel
theorem dX5_stepsSince_27 : decode cX5_stepsSince 27 = .ok (.istore_n 2, 1) := by decide +kernel
theorem dX5_stepsSince_28 : decode cX5_stepsSince 28 = .ok (.aload_n 0, 1) := by decide +kernel
theorem dX5_stepsSince_29 : decode cX5_stepsSince 29 = .ok (.iload_n 2, 1) := by decide +kernel
theorem dX5_stepsSince_30 : decode cX5_stepsSince 30 = .ok (.aload_n 1, 1) := by decide +kernel
theorem dX5_stepsSince_31 : decode cX5_stepsSince 31 = .ok (.iconst 0, 1) := by decide +kernel
theorem dX5_stepsSince_32 : decode cX5_stepsSince 32 = .ok (.invokevirtual 34, 3) := by decide +kernel
theorem dX5_stepsSince_35 : decode cX5_stepsSince 35 = .ok (.ifCond .eq 5, 3) := by decide +kernel
theorem dX5_stepsSince_38 : decode cX5_stepsSince 38 = .ok (.iload_n 3, 1) := by decide +kernel
theorem dX5_stepsSince_39 : decode cX5_stepsSince 39 = .ok (.ireturn, 1) := by decide +kernel
theorem dX5_stepsSince_40 : decode cX5_stepsSince 40 = .ok (.iinc 3 1, 3) := by decide +kernel
theorem dX5_stepsSince_43 : decode cX5_stepsSince 43 = .ok (.goto (-36), 3) := by decide +kernel
theorem dX5_stepsSince_46 : decode cX5_stepsSince 46 = .ok (.iconst (-1), 1) := by decide +kernel
theorem dX5_stepsSince_47 : decode cX5_stepsSince 47 = .ok (.ireturn, 1) := by decide +kernel
theorem dX5_countDifferent_0 : decode cX5_countDifferent 0 = .ok (.iconst 0, 1) := by decide +kernel
theorem dX5_countDifferent_1 : decode cX5_countDifferent 1 = .ok (.istore_n 1, 1) := by decide +kernel
theorem dX5_countDifferent_2 : decode cX5_countDifferent 2 = .ok (.iconst 0, 1) := by decide +kernel
theorem dX5_countDifferent_3 : decode cX5_countDifferent 3 = .ok (.istore_n 2, 1) := by decide +kernel
theorem dX5_countDifferent_4 : decode cX5_countDifferent 4 = .ok (.iload_n 2, 1) := by decide +kernel
theorem dX5_countDifferent_5 : decode cX5_countDifferent 5 = .ok (.aload_n 0, 1) := by decide +kernel
theorem dX5_countDifferent_6 : decode cX5_countDifferent 6 = .ok (.getfield 15, 3) := by decide +kernel
theorem dX5_countDifferent_9 : decode cX5_countDifferent 9 = .ok (.if_icmp .ge 25, 3) := by decide +kernel
theorem dX5_countDifferent_12 : decode cX5_countDifferent 12 = .ok (.iload_n 1, 1) := by decide +kernel
theorem dX5_countDifferent_13 : decode cX5_countDifferent 13 = .ok (.aload_n 0, 1) := by decide +kernel
theorem dX5_countDifferent_14 : decode cX5_countDifferent 14 = .ok (.iload_n 2, 1) := by decide +kernel
theorem dX5_countDifferent_15 : decode cX5_countDifferent 15 = .ok (.invokevirtual 38, 3) := by decide +kernel
theorem dX5_countDifferent_18 : decode cX5_countDifferent 18 = .ok (.ifCond .eq 7, 3) := by decide +kernel
theorem dX5_countDifferent_21 : decode cX5_countDifferent 21 = .ok (.iconst 0, 1) := by decide +kernel
theorem dX5_countDifferent_22 : decode cX5_countDifferent 22 = .ok (.goto 4, 3) := by decide +kernel
theorem dX5_countDifferent_25 : decode cX5_countDifferent 25 = .ok (.iconst 1, 1) := by decide +kernel
theorem dX5_countDifferent_26 : decode cX5_countDifferent 26 = .ok (.iadd, 1) := by decide +kernel
theorem dX5_countDifferent_27 : decode cX5_countDifferent 27 = .ok (.istore_n 1, 1) := by decide +kernel
theorem dX5_countDifferent_28 : decode cX5_countDifferent 28 = .ok (.iinc 2 1, 3) := by decide +kernel
theorem dX5_countDifferent_31 : decode cX5_countDifferent 31 = .ok (.goto (-27), 3) := by decide +kernel
theorem dX5_countDifferent_34 : decode cX5_countDifferent 34 = .ok (.iload_n 1, 1) := by decide +kernel
theorem dX5_countDifferent_35 : decode cX5_countDifferent 35 = .ok (.ireturn, 1) := by decide +kernel
theorem dX5_standsBefore_0 : decode cX5_standsBefore 0 = .ok (.iconst 0, 1) := by decide +kernel
theorem dX5_standsBefore_1 : decode cX5_standsBefore 1 = .ok (.istore_n 2, 1) := by decide +kernel
theorem dX5_standsBefore_2 : decode cX5_standsBefore 2 = .ok (.iload_n 2, 1) := by decide +kernel
theorem dX5_standsBefore_3 : decode cX5_standsBefore 3 = .ok (.iload_n 1, 1) := by decide +kernel
theorem dX5_standsBefore_4 : decode cX5_standsBefore 4 = .ok (.if_icmp .ge 24, 3) := by decide +kernel
theorem dX5_standsBefore_7 : decode cX5_standsBefore 7 = .ok (.aload_n 0, 1) := by decide +kernel
theorem dX5_standsBefore_8 : decode cX5_standsBefore 8 = .ok (.iload_n 2, 1) := by decide +kernel
theorem dX5_standsBefore_9 : decode cX5_standsBefore 9 = .ok (.aload_n 0, 1) := by decide +kernel
theorem dX5_standsBefore_10 : decode cX5_standsBefore 10 = .ok (.getfield 11, 3) := by decide +kernel
theorem dX5_standsBefore_13 : decode cX5_standsBefore 13 = .ok (.iload_n 1, 1) := by decide +kernel
theorem dX5_standsBefore_14 : decode cX5_standsBefore 14 = .ok (.invokevirtual 34, 3) := by decide +kernel
theorem dX5_standsBefore_17 : decode cX5_standsBefore 17 = .ok (.ifCond .eq 5, 3) := by decide +kernel
theorem dX5_standsBefore_20 : decode cX5_standsBefore 20 = .ok (.iconst 1, 1) := by decide +kernel
theorem dX5_standsBefore_21 : decode cX5_standsBefore 21 = .ok (.ireturn, 1) := by decide +kernel
theorem dX5_standsBefore_22 : decode cX5_standsBefore 22 = .ok (.iinc 2 1, 3) := by decide +kernel
theorem dX5_standsBefore_25 : decode cX5_standsBefore 25 = .ok (.goto (-23), 3) := by decide +kernel
theorem dX5_standsBefore_28 : decode cX5_standsBefore 28 = .ok (.iconst 0, 1) := by decide +kernel
theorem dX5_standsBefore_29 : decode cX5_standsBefore 29 = .ok (.ireturn, 1) := by decide +kernel
theorem dX5_holds_0 : decode cX5_holds 0 = .ok (.iconst 0, 1) := by decide +kernel
theorem dX5_holds_1 : decode cX5_holds 1 = .ok (.istore 4, 2) := by decide +kernel
theorem dX5_holds_3 : decode cX5_holds 3 = .ok (.iload 4, 2) := by decide +kernel
theorem dX5_holds_5 : decode cX5_holds 5 = .ok (.iconst 3, 1) := by decide +kernel
theorem dX5_holds_6 : decode cX5_holds 6 = .ok (.if_icmp .ge 34, 3) := by decide +kernel
theorem dX5_holds_9 : decode cX5_holds 9 = .ok (.aload_n 0, 1) := by decide +kernel
theorem dX5_holds_10 : decode cX5_holds 10 = .ok (.getfield 11, 3) := by decide +kernel
theorem dX5_holds_13 : decode cX5_holds 13 = .ok (.iload_n 1, 1) := by decide +kernel
theorem dX5_holds_14 : decode cX5_holds 14 = .ok (.iconst 3, 1) := by decide +kernel
theorem dX5_holds_15 : decode cX5_holds 15 = .ok (.imul, 1) := by decide +kernel
theorem dX5_holds_16 : decode cX5_holds 16 = .ok (.iload 4, 2) := by decide +kernel
theorem dX5_holds_18 : decode cX5_holds 18 = .ok (.iadd, 1) := by decide +kernel
theorem dX5_holds_19 : decode cX5_holds 19 = .ok (.laload, 1) := by decide +kernel
theorem dX5_holds_20 : decode cX5_holds 20 = .ok (.aload_n 2, 1) := by decide +kernel
theorem dX5_holds_21 : decode cX5_holds 21 = .ok (.iload_n 3, 1) := by decide +kernel
theorem dX5_holds_22 : decode cX5_holds 22 = .ok (.iconst 3, 1) := by decide +kernel
theorem dX5_holds_23 : decode cX5_holds 23 = .ok (.imul, 1) := by decide +kernel
theorem dX5_holds_24 : decode cX5_holds 24 = .ok (.iload 4, 2) := by decide +kernel
theorem dX5_holds_26 : decode cX5_holds 26 = .ok (.iadd, 1) := by decide +kernel
theorem dX5_holds_27 : decode cX5_holds 27 = .ok (.laload, 1) := by decide +kernel
theorem dX5_holds_28 : decode cX5_holds 28 = .ok (.lcmp, 1) := by decide +kernel
theorem dX5_holds_29 : decode cX5_holds 29 = .ok (.ifCond .eq 5, 3) := by decide +kernel
theorem dX5_holds_32 : decode cX5_holds 32 = .ok (.iconst 0, 1) := by decide +kernel
theorem dX5_holds_33 : decode cX5_holds 33 = .ok (.ireturn, 1) := by decide +kernel
theorem dX5_holds_34 : decode cX5_holds 34 = .ok (.iinc 4 1, 3) := by decide +kernel
theorem dX5_holds_37 : decode cX5_holds 37 = .ok (.goto (-34), 3) := by decide +kernel
theorem dX5_holds_40 : decode cX5_holds 40 = .ok (.iconst 1, 1) := by decide +kernel
theorem dX5_holds_41 : decode cX5_holds 41 = .ok (.ireturn, 1) := by decide +kernel
theorem dX5_copyFrom_0 : decode cX5_copyFrom 0 = .ok (.aload_n 1, 1) := by decide +kernel
theorem dX5_copyFrom_1 : decode cX5_copyFrom 1 = .ok (.getfield 11, 3) := by decide +kernel
theorem dX5_copyFrom_4 : decode cX5_copyFrom 4 = .ok (.iconst 0, 1) := by decide +kernel
theorem dX5_copyFrom_5 : decode cX5_copyFrom 5 = .ok (.aload_n 0, 1) := by decide +kernel
theorem dX5_copyFrom_6 : decode cX5_copyFrom 6 = .ok (.getfield 11, 3) := by decide +kernel
theorem dX5_copyFrom_9 : decode cX5_copyFrom 9 = .ok (.iconst 0, 1) := by decide +kernel
theorem dX5_copyFrom_10 : decode cX5_copyFrom 10 = .ok (.bipush 48, 2) := by decide +kernel
theorem dX5_copyFrom_12 : decode cX5_copyFrom 12 = .ok (.invokestatic 22, 3) := by decide +kernel
theorem dX5_copyFrom_15 : decode cX5_copyFrom 15 = .ok (.aload_n 0, 1) := by decide +kernel
theorem dX5_copyFrom_16 : decode cX5_copyFrom 16 = .ok (.aload_n 1, 1) := by decide +kernel
theorem dX5_copyFrom_17 : decode cX5_copyFrom 17 = .ok (.getfield 15, 3) := by decide +kernel
theorem dX5_copyFrom_20 : decode cX5_copyFrom 20 = .ok (.putfield 15, 3) := by decide +kernel
theorem dX5_copyFrom_23 : decode cX5_copyFrom 23 = .ok (.aload_n 0, 1) := by decide +kernel
theorem dX5_copyFrom_24 : decode cX5_copyFrom 24 = .ok (.aload_n 1, 1) := by decide +kernel
theorem dX5_copyFrom_25 : decode cX5_copyFrom 25 = .ok (.getfield 19, 3) := by decide +kernel
theorem dX5_copyFrom_28 : decode cX5_copyFrom 28 = .ok (.putfield 19, 3) := by decide +kernel
theorem dX5_copyFrom_31 : decode cX5_copyFrom 31 = .ok (.return_, 1) := by decide +kernel
