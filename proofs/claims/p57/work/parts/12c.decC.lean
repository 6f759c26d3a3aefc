/-! ===== instructions, one after another ===== -/
theorem dX2_signOf_0 : decode cX2_signOf 0 = .ok (.aload_n 0, 1) := by decide +kernel
theorem dX2_signOf_1 : decode cX2_signOf 1 = .ok (.iload_n 1, 1) := by decide +kernel
theorem dX2_signOf_2 : decode cX2_signOf 2 = .ok (.iload_n 2, 1) := by decide +kernel
theorem dX2_signOf_3 : decode cX2_signOf 3 = .ok (.invokevirtual 119, 3) := by decide +kernel
theorem dX2_signOf_6 : decode cX2_signOf 6 = .ok (.istore_n 3, 1) := by decide +kernel
theorem dX2_signOf_7 : decode cX2_signOf 7 = .ok (.iload_n 3, 1) := by decide +kernel
theorem dX2_signOf_8 : decode cX2_signOf 8 = .ok (.iconst (-1), 1) := by decide +kernel
theorem dX2_signOf_9 : decode cX2_signOf 9 = .ok (.if_icmp .eq 9, 3) := by decide +kernel
theorem dX2_signOf_12 : decode cX2_signOf 12 = .ok (.bipush 48, 2) := by decide +kernel
theorem dX2_signOf_14 : decode cX2_signOf 14 = .ok (.iload_n 3, 1) := by decide +kernel
theorem dX2_signOf_15 : decode cX2_signOf 15 = .ok (.iadd, 1) := by decide +kernel
theorem dX2_signOf_16 : decode cX2_signOf 16 = .ok (.i2c, 1) := by decide +kernel
theorem dX2_signOf_17 : decode cX2_signOf 17 = .ok (.ireturn, 1) := by decide +kernel
theorem dX2_signOf_18 : decode cX2_signOf 18 = .ok (.aload_n 0, 1) := by decide +kernel
theorem dX2_signOf_19 : decode cX2_signOf 19 = .ok (.getfield 31, 3) := by decide +kernel
theorem dX2_signOf_22 : decode cX2_signOf 22 = .ok (.iload_n 1, 1) := by decide +kernel
theorem dX2_signOf_23 : decode cX2_signOf 23 = .ok (.iload_n 2, 1) := by decide +kernel
theorem dX2_signOf_24 : decode cX2_signOf 24 = .ok (.invokevirtual 116, 3) := by decide +kernel
theorem dX2_signOf_27 : decode cX2_signOf 27 = .ok (.ifCond .eq 8, 3) := by decide +kernel
theorem dX2_signOf_30 : decode cX2_signOf 30 = .ok (.bipush 35, 2) := by decide +kernel
theorem dX2_signOf_32 : decode cX2_signOf 32 = .ok (.goto 5, 3) := by decide +kernel
theorem dX2_signOf_35 : decode cX2_signOf 35 = .ok (.bipush 46, 2) := by decide +kernel
theorem dX2_signOf_37 : decode cX2_signOf 37 = .ok (.ireturn, 1) := by decide +kernel
theorem dX2_isApartAndClear_0 : decode cX2_isApartAndClear 0 = .ok (.iconst 0, 1) := by decide +kernel
theorem dX2_isApartAndClear_1 : decode cX2_isApartAndClear 1 = .ok (.istore_n 1, 1) := by decide +kernel
theorem dX2_isApartAndClear_2 : decode cX2_isApartAndClear 2 = .ok (.iload_n 1, 1) := by decide +kernel
theorem dX2_isApartAndClear_3 : decode cX2_isApartAndClear 3 = .ok (.aload_n 0, 1) := by decide +kernel
theorem dX2_isApartAndClear_4 : decode cX2_isApartAndClear 4 = .ok (.getfield 24, 3) := by decide +kernel
theorem dX2_isApartAndClear_7 : decode cX2_isApartAndClear 7 = .ok (.if_icmp .ge 31, 3) := by decide +kernel
theorem dX2_isApartAndClear_10 : decode cX2_isApartAndClear 10 = .ok (.aload_n 0, 1) := by decide +kernel
theorem dX2_isApartAndClear_11 : decode cX2_isApartAndClear 11 = .ok (.iload_n 1, 1) := by decide +kernel
theorem dX2_isApartAndClear_12 : decode cX2_isApartAndClear 12 = .ok (.aload_n 0, 1) := by decide +kernel
theorem dX2_isApartAndClear_13 : decode cX2_isApartAndClear 13 = .ok (.getfield 9, 3) := by decide +kernel
theorem dX2_isApartAndClear_16 : decode cX2_isApartAndClear 16 = .ok (.iload_n 1, 1) := by decide +kernel
theorem dX2_isApartAndClear_17 : decode cX2_isApartAndClear 17 = .ok (.iaload, 1) := by decide +kernel
theorem dX2_isApartAndClear_18 : decode cX2_isApartAndClear 18 = .ok (.aload_n 0, 1) := by decide +kernel
theorem dX2_isApartAndClear_19 : decode cX2_isApartAndClear 19 = .ok (.getfield 15, 3) := by decide +kernel
theorem dX2_isApartAndClear_22 : decode cX2_isApartAndClear 22 = .ok (.iload_n 1, 1) := by decide +kernel
theorem dX2_isApartAndClear_23 : decode cX2_isApartAndClear 23 = .ok (.iaload, 1) := by decide +kernel
theorem dX2_isApartAndClear_24 : decode cX2_isApartAndClear 24 = .ok (.invokevirtual 111, 3) := by decide +kernel
theorem dX2_isApartAndClear_27 : decode cX2_isApartAndClear 27 = .ok (.ifCond .ne 5, 3) := by decide +kernel
theorem dX2_isApartAndClear_30 : decode cX2_isApartAndClear 30 = .ok (.iconst 0, 1) := by decide +kernel
theorem dX2_isApartAndClear_31 : decode cX2_isApartAndClear 31 = .ok (.ireturn, 1) := by decide +kernel
theorem dX2_isApartAndClear_32 : decode cX2_isApartAndClear 32 = .ok (.iinc 1 1, 3) := by decide +kernel
theorem dX2_isApartAndClear_35 : decode cX2_isApartAndClear 35 = .ok (.goto (-33), 3) := by decide +kernel
theorem dX2_isApartAndClear_38 : decode cX2_isApartAndClear 38 = .ok (.iconst 1, 1) := by decide +kernel
theorem dX2_isApartAndClear_39 : decode cX2_isApartAndClear 39 = .ok (.ireturn, 1) := by decide +kernel
theorem dX2_has_0 : decode cX2_has 0 = .ok (.iload_n 1, 1) := by decide +kernel
theorem dX2_has_1 : decode cX2_has 1 = .ok (.ifCond .lt 15, 3) := by decide +kernel
theorem dX2_has_4 : decode cX2_has 4 = .ok (.iload_n 1, 1) := by decide +kernel
theorem dX2_has_5 : decode cX2_has 5 = .ok (.aload_n 0, 1) := by decide +kernel
theorem dX2_has_6 : decode cX2_has 6 = .ok (.getfield 24, 3) := by decide +kernel
theorem dX2_has_9 : decode cX2_has 9 = .ok (.if_icmp .ge 7, 3) := by decide +kernel
theorem dX2_has_12 : decode cX2_has 12 = .ok (.iconst 1, 1) := by decide +kernel
theorem dX2_has_13 : decode cX2_has 13 = .ok (.goto 4, 3) := by decide +kernel
theorem dX2_has_16 : decode cX2_has 16 = .ok (.iconst 0, 1) := by decide +kernel
theorem dX2_has_17 : decode cX2_has 17 = .ok (.ireturn, 1) := by decide +kernel
theorem dX2_distanceFrom_0 : decode cX2_distanceFrom 0 = .ok (.aload_n 0, 1) := by decide +kernel
theorem dX2_distanceFrom_1 : decode cX2_distanceFrom 1 = .ok (.iload_n 1, 1) := by decide +kernel
theorem dX2_distanceFrom_2 : decode cX2_distanceFrom 2 = .ok (.invokevirtual 90, 3) := by decide +kernel
theorem dX2_distanceFrom_5 : decode cX2_distanceFrom 5 = .ok (.ifCond .eq 29, 3) := by decide +kernel
theorem dX2_distanceFrom_8 : decode cX2_distanceFrom 8 = .ok (.aload_n 0, 1) := by decide +kernel
theorem dX2_distanceFrom_9 : decode cX2_distanceFrom 9 = .ok (.getfield 9, 3) := by decide +kernel
theorem dX2_distanceFrom_12 : decode cX2_distanceFrom 12 = .ok (.iload_n 1, 1) := by decide +kernel
theorem dX2_distanceFrom_13 : decode cX2_distanceFrom 13 = .ok (.iaload, 1) := by decide +kernel
theorem dX2_distanceFrom_14 : decode cX2_distanceFrom 14 = .ok (.iload_n 2, 1) := by decide +kernel
theorem dX2_distanceFrom_15 : decode cX2_distanceFrom 15 = .ok (.isub, 1) := by decide +kernel
theorem dX2_distanceFrom_16 : decode cX2_distanceFrom 16 = .ok (.invokestatic 175, 3) := by decide +kernel
theorem dX2_distanceFrom_19 : decode cX2_distanceFrom 19 = .ok (.aload_n 0, 1) := by decide +kernel
theorem dX2_distanceFrom_20 : decode cX2_distanceFrom 20 = .ok (.getfield 15, 3) := by decide +kernel
theorem dX2_distanceFrom_23 : decode cX2_distanceFrom 23 = .ok (.iload_n 1, 1) := by decide +kernel
theorem dX2_distanceFrom_24 : decode cX2_distanceFrom 24 = .ok (.iaload, 1) := by decide +kernel
theorem dX2_distanceFrom_25 : decode cX2_distanceFrom 25 = .ok (.iload_n 3, 1) := by decide +kernel
theorem dX2_distanceFrom_26 : decode cX2_distanceFrom 26 = .ok (.isub, 1) := by decide +kernel
theorem dX2_distanceFrom_27 : decode cX2_distanceFrom 27 = .ok (.invokestatic 175, 3) := by decide +kernel
theorem dX2_distanceFrom_30 : decode cX2_distanceFrom 30 = .ok (.iadd, 1) := by decide +kernel
theorem dX2_distanceFrom_31 : decode cX2_distanceFrom 31 = .ok (.goto 4, 3) := by decide +kernel
theorem dX2_distanceFrom_34 : decode cX2_distanceFrom 34 = .ok (.iconst (-1), 1) := by decide +kernel
theorem dX2_distanceFrom_35 : decode cX2_distanceFrom 35 = .ok (.ireturn, 1) := by decide +kernel
theorem dX2_distanceOf_0 : decode cX2_distanceOf 0 = .ok (.aload_n 0, 1) := by decide +kernel
theorem dX2_distanceOf_1 : decode cX2_distanceOf 1 = .ok (.iload_n 2, 1) := by decide +kernel
theorem dX2_distanceOf_2 : decode cX2_distanceOf 2 = .ok (.invokevirtual 90, 3) := by decide +kernel
theorem dX2_distanceOf_5 : decode cX2_distanceOf 5 = .ok (.ifCond .eq 23, 3) := by decide +kernel
theorem dX2_distanceOf_8 : decode cX2_distanceOf 8 = .ok (.aload_n 0, 1) := by decide +kernel
theorem dX2_distanceOf_9 : decode cX2_distanceOf 9 = .ok (.iload_n 1, 1) := by decide +kernel
theorem dX2_distanceOf_10 : decode cX2_distanceOf 10 = .ok (.aload_n 0, 1) := by decide +kernel
theorem dX2_distanceOf_11 : decode cX2_distanceOf 11 = .ok (.getfield 9, 3) := by decide +kernel
theorem dX2_distanceOf_14 : decode cX2_distanceOf 14 = .ok (.iload_n 2, 1) := by decide +kernel
theorem dX2_distanceOf_15 : decode cX2_distanceOf 15 = .ok (.iaload, 1) := by decide +kernel
theorem dX2_distanceOf_16 : decode cX2_distanceOf 16 = .ok (.aload_n 0, 1) := by decide +kernel
theorem dX2_distanceOf_17 : decode cX2_distanceOf 17 = .ok (.getfield 15, 3) := by decide +kernel
theorem dX2_distanceOf_20 : decode cX2_distanceOf 20 = .ok (.iload_n 2, 1) := by decide +kernel
theorem dX2_distanceOf_21 : decode cX2_distanceOf 21 = .ok (.iaload, 1) := by decide +kernel
theorem dX2_distanceOf_22 : decode cX2_distanceOf 22 = .ok (.invokevirtual 149, 3) := by decide +kernel
theorem dX2_distanceOf_25 : decode cX2_distanceOf 25 = .ok (.goto 4, 3) := by decide +kernel
theorem dX2_distanceOf_28 : decode cX2_distanceOf 28 = .ok (.iconst (-1), 1) := by decide +kernel
theorem dX2_distanceOf_29 : decode cX2_distanceOf 29 = .ok (.ireturn, 1) := by decide +kernel
theorem dX2_nearestOther_0 : decode cX2_nearestOther 0 = .ok (.iconst (-1), 1) := by decide +kernel
theorem dX2_nearestOther_1 : decode cX2_nearestOther 1 = .ok (.istore_n 2, 1) := by decide +kernel
theorem dX2_nearestOther_2 : decode cX2_nearestOther 2 = .ok (.iconst 0, 1) := by decide +kernel
theorem dX2_nearestOther_3 : decode cX2_nearestOther 3 = .ok (.istore_n 3, 1) := by decide +kernel
theorem dX2_nearestOther_4 : decode cX2_nearestOther 4 = .ok (.iload_n 3, 1) := by decide +kernel
theorem dX2_nearestOther_5 : decode cX2_nearestOther 5 = .ok (.aload_n 0, 1) := by decide +kernel
theorem dX2_nearestOther_6 : decode cX2_nearestOther 6 = .ok (.getfield 24, 3) := by decide +kernel
theorem dX2_nearestOther_9 : decode cX2_nearestOther 9 = .ok (.if_icmp .ge 36, 3) := by decide +kernel
theorem dX2_nearestOther_12 : decode cX2_nearestOther 12 = .ok (.iload_n 3, 1) := by decide +kernel
theorem dX2_nearestOther_13 : decode cX2_nearestOther 13 = .ok (.iload_n 1, 1) := by decide +kernel
theorem dX2_nearestOther_14 : decode cX2_nearestOther 14 = .ok (.if_icmp .eq 25, 3) := by decide +kernel
theorem dX2_nearestOther_17 : decode cX2_nearestOther 17 = .ok (.iload_n 2, 1) := by decide +kernel
theorem dX2_nearestOther_18 : decode cX2_nearestOther 18 = .ok (.iconst (-1), 1) := by decide +kernel
theorem dX2_nearestOther_19 : decode cX2_nearestOther 19 = .ok (.if_icmp .eq 18, 3) := by decide +kernel
theorem dX2_nearestOther_22 : decode cX2_nearestOther 22 = .ok (.aload_n 0, 1) := by decide +kernel
theorem dX2_nearestOther_23 : decode cX2_nearestOther 23 = .ok (.iload_n 1, 1) := by decide +kernel
theorem dX2_nearestOther_24 : decode cX2_nearestOther 24 = .ok (.iload_n 3, 1) := by decide +kernel
theorem dX2_nearestOther_25 : decode cX2_nearestOther 25 = .ok (.invokevirtual 183, 3) := by decide +kernel
theorem dX2_nearestOther_28 : decode cX2_nearestOther 28 = .ok (.aload_n 0, 1) := by decide +kernel
theorem dX2_nearestOther_29 : decode cX2_nearestOther 29 = .ok (.iload_n 1, 1) := by decide +kernel
theorem dX2_nearestOther_30 : decode cX2_nearestOther 30 = .ok (.iload_n 2, 1) := by decide +kernel
theorem dX2_nearestOther_31 : decode cX2_nearestOther 31 = .ok (.invokevirtual 183, 3) := by decide +kernel
theorem dX2_nearestOther_34 : decode cX2_nearestOther 34 = .ok (.if_icmp .ge 5, 3) := by decide +kernel
theorem dX2_nearestOther_37 : decode cX2_nearestOther 37 = .ok (.iload_n 3, 1) := by decide +kernel
theorem dX2_nearestOther_38 : decode cX2_nearestOther 38 = .ok (.istore_n 2, 1) := by decide +kernel
theorem dX2_nearestOther_39 : decode cX2_nearestOther 39 = .ok (.iinc 3 1, 3) := by decide +kernel
theorem dX2_nearestOther_42 : decode cX2_nearestOther 42 = .ok (.goto (-38), 3) := by decide +kernel
theorem dX2_nearestOther_45 : decode cX2_nearestOther 45 = .ok (.iload_n 2, 1) := by decide +kernel
theorem dX2_nearestOther_46 : decode cX2_nearestOther 46 = .ok (.ireturn, 1) := by decide +kernel
theorem dX2_basketWithRank_0 : decode cX2_basketWithRank 0 = .ok (.iconst 0, 1) := by decide +kernel
theorem dX2_basketWithRank_1 : decode cX2_basketWithRank 1 = .ok (.istore_n 2, 1) := by decide +kernel
theorem dX2_basketWithRank_2 : decode cX2_basketWithRank 2 = .ok (.iload_n 2, 1) := by decide +kernel
theorem dX2_basketWithRank_3 : decode cX2_basketWithRank 3 = .ok (.aload_n 0, 1) := by decide +kernel
theorem dX2_basketWithRank_4 : decode cX2_basketWithRank 4 = .ok (.getfield 24, 3) := by decide +kernel
theorem dX2_basketWithRank_7 : decode cX2_basketWithRank 7 = .ok (.if_icmp .ge 20, 3) := by decide +kernel
theorem dX2_basketWithRank_10 : decode cX2_basketWithRank 10 = .ok (.aload_n 0, 1) := by decide +kernel
theorem dX2_basketWithRank_11 : decode cX2_basketWithRank 11 = .ok (.iload_n 2, 1) := by decide +kernel
theorem dX2_basketWithRank_12 : decode cX2_basketWithRank 12 = .ok (.invokevirtual 196, 3) := by decide +kernel
theorem dX2_basketWithRank_15 : decode cX2_basketWithRank 15 = .ok (.iload_n 1, 1) := by decide +kernel
theorem dX2_basketWithRank_16 : decode cX2_basketWithRank 16 = .ok (.if_icmp .ne 5, 3) := by decide +kernel
theorem dX2_basketWithRank_19 : decode cX2_basketWithRank 19 = .ok (.iload_n 2, 1) := by decide +kernel
theorem dX2_basketWithRank_20 : decode cX2_basketWithRank 20 = .ok (.ireturn, 1) := by decide +kernel
theorem dX2_basketWithRank_21 : decode cX2_basketWithRank 21 = .ok (.iinc 2 1, 3) := by decide +kernel
theorem dX2_basketWithRank_24 : decode cX2_basketWithRank 24 = .ok (.goto (-22), 3) := by decide +kernel
theorem dX2_basketWithRank_27 : decode cX2_basketWithRank 27 = .ok (.iconst (-1), 1) := by decide +kernel
theorem dX2_basketWithRank_28 : decode cX2_basketWithRank 28 = .ok (.ireturn, 1) := by decide +kernel
theorem dX2_rankOf_0 : decode cX2_rankOf 0 = .ok (.aload_n 0, 1) := by decide +kernel
theorem dX2_rankOf_1 : decode cX2_rankOf 1 = .ok (.iload_n 1, 1) := by decide +kernel
theorem dX2_rankOf_2 : decode cX2_rankOf 2 = .ok (.aload_n 0, 1) := by decide +kernel
theorem dX2_rankOf_3 : decode cX2_rankOf 3 = .ok (.getfield 46, 3) := by decide +kernel
theorem dX2_rankOf_6 : decode cX2_rankOf 6 = .ok (.invokevirtual 183, 3) := by decide +kernel
theorem dX2_rankOf_9 : decode cX2_rankOf 9 = .ok (.istore_n 2, 1) := by decide +kernel
theorem dX2_rankOf_10 : decode cX2_rankOf 10 = .ok (.iconst 0, 1) := by decide +kernel
theorem dX2_rankOf_11 : decode cX2_rankOf 11 = .ok (.istore_n 3, 1) := by decide +kernel
theorem dX2_rankOf_12 : decode cX2_rankOf 12 = .ok (.iconst 0, 1) := by decide +kernel
theorem dX2_rankOf_13 : decode cX2_rankOf 13 = .ok (.istore 4, 2) := by decide +kernel
theorem dX2_rankOf_15 : decode cX2_rankOf 15 = .ok (.iload 4, 2) := by decide +kernel
theorem dX2_rankOf_17 : decode cX2_rankOf 17 = .ok (.aload_n 0, 1) := by decide +kernel
theorem dX2_rankOf_18 : decode cX2_rankOf 18 = .ok (.getfield 24, 3) := by decide +kernel
theorem dX2_rankOf_21 : decode cX2_rankOf 21 = .ok (.if_icmp .ge 42, 3) := by decide +kernel
theorem dX2_rankOf_24 : decode cX2_rankOf 24 = .ok (.aload_n 0, 1) := by decide +kernel
theorem dX2_rankOf_25 : decode cX2_rankOf 25 = .ok (.iload 4, 2) := by decide +kernel
theorem dX2_rankOf_27 : decode cX2_rankOf 27 = .ok (.aload_n 0, 1) := by decide +kernel
theorem dX2_rankOf_28 : decode cX2_rankOf 28 = .ok (.getfield 46, 3) := by decide +kernel
theorem dX2_rankOf_31 : decode cX2_rankOf 31 = .ok (.invokevirtual 183, 3) := by decide +kernel
theorem dX2_rankOf_34 : decode cX2_rankOf 34 = .ok (.istore 5, 2) := by decide +kernel
theorem dX2_rankOf_36 : decode cX2_rankOf 36 = .ok (.iload 5, 2) := by decide +kernel
theorem dX2_rankOf_38 : decode cX2_rankOf 38 = .ok (.iload_n 2, 1) := by decide +kernel
theorem dX2_rankOf_39 : decode cX2_rankOf 39 = .ok (.if_icmp .lt 15, 3) := by decide +kernel
theorem dX2_rankOf_42 : decode cX2_rankOf 42 = .ok (.iload 5, 2) := by decide +kernel
theorem dX2_rankOf_44 : decode cX2_rankOf 44 = .ok (.iload_n 2, 1) := by decide +kernel
theorem dX2_rankOf_45 : decode cX2_rankOf 45 = .ok (.if_icmp .ne 12, 3) := by decide +kernel
theorem dX2_rankOf_48 : decode cX2_rankOf 48 = .ok (.iload 4, 2) := by decide +kernel
theorem dX2_rankOf_50 : decode cX2_rankOf 50 = .ok (.iload_n 1, 1) := by decide +kernel
theorem dX2_rankOf_51 : decode cX2_rankOf 51 = .ok (.if_icmp .ge 6, 3) := by decide +kernel
theorem dX2_rankOf_54 : decode cX2_rankOf 54 = .ok (.iinc 3 1, 3) := by decide +kernel
theorem dX2_rankOf_57 : decode cX2_rankOf 57 = .ok (.iinc 4 1, 3) := by decide +kernel
theorem dX2_rankOf_60 : decode cX2_rankOf 60 = .ok (.goto (-45), 3) := by decide +kernel
theorem dX2_rankOf_63 : decode cX2_rankOf 63 = .ok (.iload_n 3, 1) := by decide +kernel
theorem dX2_rankOf_64 : decode cX2_rankOf 64 = .ok (.ireturn, 1) := by decide +kernel
theorem dX2_sumOfDistancesFromLeader_0 : decode cX2_sumOfDistancesFromLeader 0 = .ok (.iconst 0, 1) := by decide +kernel
theorem dX2_sumOfDistancesFromLeader_1 : decode cX2_sumOfDistancesFromLeader 1 = .ok (.istore_n 1, 1) := by decide +kernel
theorem dX2_sumOfDistancesFromLeader_2 : decode cX2_sumOfDistancesFromLeader 2 = .ok (.iconst 0, 1) := by decide +kernel
theorem dX2_sumOfDistancesFromLeader_3 : decode cX2_sumOfDistancesFromLeader 3 = .ok (.istore_n 2, 1) := by decide +kernel
theorem dX2_sumOfDistancesFromLeader_4 : decode cX2_sumOfDistancesFromLeader 4 = .ok (.iload_n 2, 1) := by decide +kernel
theorem dX2_sumOfDistancesFromLeader_5 : decode cX2_sumOfDistancesFromLeader 5 = .ok (.aload_n 0, 1) := by decide +kernel
theorem dX2_sumOfDistancesFromLeader_6 : decode cX2_sumOfDistancesFromLeader 6 = .ok (.getfield 24, 3) := by decide +kernel
theorem dX2_sumOfDistancesFromLeader_9 : decode cX2_sumOfDistancesFromLeader 9 = .ok (.if_icmp .ge 21, 3) := by decide +kernel
theorem dX2_sumOfDistancesFromLeader_12 : decode cX2_sumOfDistancesFromLeader 12 = .ok (.iload_n 1, 1) := by decide +kernel
theorem dX2_sumOfDistancesFromLeader_13 : decode cX2_sumOfDistancesFromLeader 13 = .ok (.aload_n 0, 1) := by decide +kernel
theorem dX2_sumOfDistancesFromLeader_14 : decode cX2_sumOfDistancesFromLeader 14 = .ok (.iload_n 2, 1) := by decide +kernel
theorem dX2_sumOfDistancesFromLeader_15 : decode cX2_sumOfDistancesFromLeader 15 = .ok (.aload_n 0, 1) := by decide +kernel
theorem dX2_sumOfDistancesFromLeader_16 : decode cX2_sumOfDistancesFromLeader 16 = .ok (.getfield 46, 3) := by decide +kernel
theorem dX2_sumOfDistancesFromLeader_19 : decode cX2_sumOfDistancesFromLeader 19 = .ok (.invokevirtual 183, 3) := by decide +kernel
theorem dX2_sumOfDistancesFromLeader_22 : decode cX2_sumOfDistancesFromLeader 22 = .ok (.iadd, 1) := by decide +kernel
theorem dX2_sumOfDistancesFromLeader_23 : decode cX2_sumOfDistancesFromLeader 23 = .ok (.istore_n 1, 1) := by decide +kernel
theorem dX2_sumOfDistancesFromLeader_24 : decode cX2_sumOfDistancesFromLeader 24 = .ok (.iinc 2 1, 3) := by decide +kernel
theorem dX2_sumOfDistancesFromLeader_27 : decode cX2_sumOfDistancesFromLeader 27 = .ok (.goto (-23), 3) := by decide +kernel
theorem dX2_sumOfDistancesFromLeader_30 : decode cX2_sumOfDistancesFromLeader 30 = .ok (.iload_n 1, 1) := by decide +kernel
theorem dX2_sumOfDistancesFromLeader_31 : decode cX2_sumOfDistancesFromLeader 31 = .ok (.ireturn, 1) := by decide +kernel
theorem dX2_hasTarget_0 : decode cX2_hasTarget 0 = .ok (.aload_n 0, 1) := by decide +kernel
theorem dX2_hasTarget_1 : decode cX2_hasTarget 1 = .ok (.getfield 55, 3) := by decide +kernel
theorem dX2_hasTarget_4 : decode cX2_hasTarget 4 = .ok (.iconst (-1), 1) := by decide +kernel
theorem dX2_hasTarget_5 : decode cX2_hasTarget 5 = .ok (.if_icmp .eq 7, 3) := by decide +kernel
theorem dX2_hasTarget_8 : decode cX2_hasTarget 8 = .ok (.iconst 1, 1) := by decide +kernel
theorem dX2_hasTarget_9 : decode cX2_hasTarget 9 = .ok (.goto 4, 3) := by decide +kernel
theorem dX2_hasTarget_12 : decode cX2_hasTarget 12 = .ok (.iconst 0, 1) := by decide +kernel
theorem dX2_hasTarget_13 : decode cX2_hasTarget 13 = .ok (.ireturn, 1) := by decide +kernel
theorem dX2_leaderIsOnTarget_0 : decode cX2_leaderIsOnTarget 0 = .ok (.aload_n 0, 1) := by decide +kernel
theorem dX2_leaderIsOnTarget_1 : decode cX2_leaderIsOnTarget 1 = .ok (.invokevirtual 165, 3) := by decide +kernel
theorem dX2_leaderIsOnTarget_4 : decode cX2_leaderIsOnTarget 4 = .ok (.ifCond .eq 26, 3) := by decide +kernel
theorem dX2_leaderIsOnTarget_7 : decode cX2_leaderIsOnTarget 7 = .ok (.aload_n 0, 1) := by decide +kernel
theorem dX2_leaderIsOnTarget_8 : decode cX2_leaderIsOnTarget 8 = .ok (.aload_n 0, 1) := by decide +kernel
theorem dX2_leaderIsOnTarget_9 : decode cX2_leaderIsOnTarget 9 = .ok (.getfield 46, 3) := by decide +kernel
theorem dX2_leaderIsOnTarget_12 : decode cX2_leaderIsOnTarget 12 = .ok (.aload_n 0, 1) := by decide +kernel
theorem dX2_leaderIsOnTarget_13 : decode cX2_leaderIsOnTarget 13 = .ok (.getfield 55, 3) := by decide +kernel
theorem dX2_leaderIsOnTarget_16 : decode cX2_leaderIsOnTarget 16 = .ok (.aload_n 0, 1) := by decide +kernel
theorem dX2_leaderIsOnTarget_17 : decode cX2_leaderIsOnTarget 17 = .ok (.getfield 58, 3) := by decide +kernel
theorem dX2_leaderIsOnTarget_20 : decode cX2_leaderIsOnTarget 20 = .ok (.invokevirtual 149, 3) := by decide +kernel
theorem dX2_leaderIsOnTarget_23 : decode cX2_leaderIsOnTarget 23 = .ok (.ifCond .ne 7, 3) := by decide +kernel
theorem dX2_leaderIsOnTarget_26 : decode cX2_leaderIsOnTarget 26 = .ok (.iconst 1, 1) := by decide +kernel
theorem dX2_leaderIsOnTarget_27 : decode cX2_leaderIsOnTarget 27 = .ok (.goto 4, 3) := by decide +kernel
theorem dX2_leaderIsOnTarget_30 : decode cX2_leaderIsOnTarget 30 = .ok (.iconst 0, 1) := by decide +kernel
theorem dX2_leaderIsOnTarget_31 : decode cX2_leaderIsOnTarget 31 = .ok (.ireturn, 1) := by decide +kernel
theorem dX2_leaderByFormula_0 : decode cX2_leaderByFormula 0 = .ok (.aload_n 0, 1) := by decide +kernel
theorem dX2_leaderByFormula_1 : decode cX2_leaderByFormula 1 = .ok (.getfield 24, 3) := by decide +kernel
theorem dX2_leaderByFormula_4 : decode cX2_leaderByFormula 4 = .ok (.iconst 1, 1) := by decide +kernel
theorem dX2_leaderByFormula_5 : decode cX2_leaderByFormula 5 = .ok (.if_icmp .lt 11, 3) := by decide +kernel
theorem dX2_leaderByFormula_8 : decode cX2_leaderByFormula 8 = .ok (.aload_n 0, 1) := by decide +kernel
theorem dX2_leaderByFormula_9 : decode cX2_leaderByFormula 9 = .ok (.getfield 52, 3) := by decide +kernel
theorem dX2_leaderByFormula_12 : decode cX2_leaderByFormula 12 = .ok (.iconst 1, 1) := by decide +kernel
theorem dX2_leaderByFormula_13 : decode cX2_leaderByFormula 13 = .ok (.if_icmp .ge 5, 3) := by decide +kernel
theorem dX2_leaderByFormula_16 : decode cX2_leaderByFormula 16 = .ok (.iconst (-1), 1) := by decide +kernel
theorem dX2_leaderByFormula_17 : decode cX2_leaderByFormula 17 = .ok (.ireturn, 1) := by decide +kernel
theorem dX2_leaderByFormula_18 : decode cX2_leaderByFormula 18 = .ok (.aload_n 0, 1) := by decide +kernel
theorem dX2_leaderByFormula_19 : decode cX2_leaderByFormula 19 = .ok (.getfield 46, 3) := by decide +kernel
theorem dX2_leaderByFormula_22 : decode cX2_leaderByFormula 22 = .ok (.aload_n 0, 1) := by decide +kernel
theorem dX2_leaderByFormula_23 : decode cX2_leaderByFormula 23 = .ok (.getfield 49, 3) := by decide +kernel
theorem dX2_leaderByFormula_26 : decode cX2_leaderByFormula 26 = .ok (.iload_n 1, 1) := by decide +kernel
theorem dX2_leaderByFormula_27 : decode cX2_leaderByFormula 27 = .ok (.iadd, 1) := by decide +kernel
theorem dX2_leaderByFormula_28 : decode cX2_leaderByFormula 28 = .ok (.aload_n 0, 1) := by decide +kernel
theorem dX2_leaderByFormula_29 : decode cX2_leaderByFormula 29 = .ok (.getfield 52, 3) := by decide +kernel
theorem dX2_leaderByFormula_32 : decode cX2_leaderByFormula 32 = .ok (.idiv, 1) := by decide +kernel
theorem dX2_leaderByFormula_33 : decode cX2_leaderByFormula 33 = .ok (.iadd, 1) := by decide +kernel
theorem dX2_leaderByFormula_34 : decode cX2_leaderByFormula 34 = .ok (.aload_n 0, 1) := by decide +kernel
theorem dX2_leaderByFormula_35 : decode cX2_leaderByFormula 35 = .ok (.getfield 24, 3) := by decide +kernel
theorem dX2_leaderByFormula_38 : decode cX2_leaderByFormula 38 = .ok (.irem, 1) := by decide +kernel
theorem dX2_leaderByFormula_39 : decode cX2_leaderByFormula 39 = .ok (.ireturn, 1) := by decide +kernel
theorem dX2_leaderByCounting_0 : decode cX2_leaderByCounting 0 = .ok (.aload_n 0, 1) := by decide +kernel
theorem dX2_leaderByCounting_1 : decode cX2_leaderByCounting 1 = .ok (.getfield 24, 3) := by decide +kernel
theorem dX2_leaderByCounting_4 : decode cX2_leaderByCounting 4 = .ok (.iconst 1, 1) := by decide +kernel
theorem dX2_leaderByCounting_5 : decode cX2_leaderByCounting 5 = .ok (.if_icmp .ge 5, 3) := by decide +kernel
theorem dX2_leaderByCounting_8 : decode cX2_leaderByCounting 8 = .ok (.iconst (-1), 1) := by decide +kernel
theorem dX2_leaderByCounting_9 : decode cX2_leaderByCounting 9 = .ok (.ireturn, 1) := by decide +kernel
theorem dX2_leaderByCounting_10 : decode cX2_leaderByCounting 10 = .ok (.aload_n 0, 1) := by decide +kernel
theorem dX2_leaderByCounting_11 : decode cX2_leaderByCounting 11 = .ok (.getfield 46, 3) := by decide +kernel
theorem dX2_leaderByCounting_14 : decode cX2_leaderByCounting 14 = .ok (.istore_n 2, 1) := by decide +kernel
theorem dX2_leaderByCounting_15 : decode cX2_leaderByCounting 15 = .ok (.aload_n 0, 1) := by decide +kernel
theorem dX2_leaderByCounting_16 : decode cX2_leaderByCounting 16 = .ok (.getfield 49, 3) := by decide +kernel
theorem dX2_leaderByCounting_19 : decode cX2_leaderByCounting 19 = .ok (.istore_n 3, 1) := by decide +kernel
theorem dX2_leaderByCounting_20 : decode cX2_leaderByCounting 20 = .ok (.iconst 0, 1) := by decide +kernel
theorem dX2_leaderByCounting_21 : decode cX2_leaderByCounting 21 = .ok (.istore 4, 2) := by decide +kernel
theorem dX2_leaderByCounting_23 : decode cX2_leaderByCounting 23 = .ok (.iload 4, 2) := by decide +kernel
theorem dX2_leaderByCounting_25 : decode cX2_leaderByCounting 25 = .ok (.iload_n 1, 1) := by decide +kernel
theorem dX2_leaderByCounting_26 : decode cX2_leaderByCounting 26 = .ok (.if_icmp .ge 40, 3) := by decide +kernel
theorem dX2_leaderByCounting_29 : decode cX2_leaderByCounting 29 = .ok (.iinc 3 1, 3) := by decide +kernel
theorem dX2_leaderByCounting_32 : decode cX2_leaderByCounting 32 = .ok (.iload_n 3, 1) := by decide +kernel
theorem dX2_leaderByCounting_33 : decode cX2_leaderByCounting 33 = .ok (.aload_n 0, 1) := by decide +kernel
theorem dX2_leaderByCounting_34 : decode cX2_leaderByCounting 34 = .ok (.getfield 52, 3) := by decide +kernel
theorem dX2_leaderByCounting_37 : decode cX2_leaderByCounting 37 = .ok (.if_icmp .lt 23, 3) := by decide +kernel
theorem dX2_leaderByCounting_40 : decode cX2_leaderByCounting 40 = .ok (.iconst 0, 1) := by decide +kernel
theorem dX2_leaderByCounting_41 : decode cX2_leaderByCounting 41 = .ok (.istore_n 3, 1) := by decide +kernel
theorem dX2_leaderByCounting_42 : decode cX2_leaderByCounting 42 = .ok (.iload_n 2, 1) := by decide +kernel
theorem dX2_leaderByCounting_43 : decode cX2_leaderByCounting 43 = .ok (.iconst 1, 1) := by decide +kernel
theorem dX2_leaderByCounting_44 : decode cX2_leaderByCounting 44 = .ok (.iadd, 1) := by decide +kernel
theorem dX2_leaderByCounting_45 : decode cX2_leaderByCounting 45 = .ok (.aload_n 0, 1) := by decide +kernel
theorem dX2_leaderByCounting_46 : decode cX2_leaderByCounting 46 = .ok (.getfield 24, 3) := by decide +kernel
theorem dX2_leaderByCounting_49 : decode cX2_leaderByCounting 49 = .ok (.if_icmp .ge 9, 3) := by decide +kernel
theorem dX2_leaderByCounting_52 : decode cX2_leaderByCounting 52 = .ok (.iload_n 2, 1) := by decide +kernel
theorem dX2_leaderByCounting_53 : decode cX2_leaderByCounting 53 = .ok (.iconst 1, 1) := by decide +kernel
theorem dX2_leaderByCounting_54 : decode cX2_leaderByCounting 54 = .ok (.iadd, 1) := by decide +kernel
theorem dX2_leaderByCounting_55 : decode cX2_leaderByCounting 55 = .ok (.goto 4, 3) := by decide +kernel
theorem dX2_leaderByCounting_58 : decode cX2_leaderByCounting 58 = .ok (.iconst 0, 1) := by decide +kernel
theorem dX2_leaderByCounting_59 : decode cX2_leaderByCounting 59 = .ok (.istore_n 2, 1) := by decide +kernel
theorem dX2_leaderByCounting_60 : decode cX2_leaderByCounting 60 = .ok (.iinc 4 1, 3) := by decide +kernel
theorem dX2_leaderByCounting_63 : decode cX2_leaderByCounting 63 = .ok (.goto (-40), 3) := by decide +kernel
theorem dX2_leaderByCounting_66 : decode cX2_leaderByCounting 66 = .ok (.iload_n 2, 1) := by decide +kernel
theorem dX2_leaderByCounting_67 : decode cX2_leaderByCounting 67 = .ok (.ireturn, 1) := by decide +kernel
theorem dX2_sumOfMoves_0 : decode cX2_sumOfMoves 0 = .ok (.lconst 0, 1) := by decide +kernel
theorem dX2_sumOfMoves_1 : decode cX2_sumOfMoves 1 = .ok (.lstore_n 1, 1) := by decide +kernel
theorem dX2_sumOfMoves_2 : decode cX2_sumOfMoves 2 = .ok (.iconst 0, 1) := by decide +kernel
theorem dX2_sumOfMoves_3 : decode cX2_sumOfMoves 3 = .ok (.istore_n 3, 1) := by decide +kernel
theorem dX2_sumOfMoves_4 : decode cX2_sumOfMoves 4 = .ok (.iload_n 3, 1) := by decide +kernel
theorem dX2_sumOfMoves_5 : decode cX2_sumOfMoves 5 = .ok (.aload_n 0, 1) := by decide +kernel
theorem dX2_sumOfMoves_6 : decode cX2_sumOfMoves 6 = .ok (.getfield 24, 3) := by decide +kernel
theorem dX2_sumOfMoves_9 : decode cX2_sumOfMoves 9 = .ok (.if_icmp .ge 19, 3) := by decide +kernel
theorem dX2_sumOfMoves_12 : decode cX2_sumOfMoves 12 = .ok (.lload_n 1, 1) := by decide +kernel
theorem dX2_sumOfMoves_13 : decode cX2_sumOfMoves 13 = .ok (.aload_n 0, 1) := by decide +kernel
theorem dX2_sumOfMoves_14 : decode cX2_sumOfMoves 14 = .ok (.getfield 21, 3) := by decide +kernel
theorem dX2_sumOfMoves_17 : decode cX2_sumOfMoves 17 = .ok (.iload_n 3, 1) := by decide +kernel
theorem dX2_sumOfMoves_18 : decode cX2_sumOfMoves 18 = .ok (.iaload, 1) := by decide +kernel
theorem dX2_sumOfMoves_19 : decode cX2_sumOfMoves 19 = .ok (.i2l, 1) := by decide +kernel
theorem dX2_sumOfMoves_20 : decode cX2_sumOfMoves 20 = .ok (.ladd, 1) := by decide +kernel
theorem dX2_sumOfMoves_21 : decode cX2_sumOfMoves 21 = .ok (.lstore_n 1, 1) := by decide +kernel
theorem dX2_sumOfMoves_22 : decode cX2_sumOfMoves 22 = .ok (.iinc 3 1, 3) := by decide +kernel
theorem dX2_sumOfMoves_25 : decode cX2_sumOfMoves 25 = .ok (.goto (-21), 3) := by decide +kernel
theorem dX2_sumOfMoves_28 : decode cX2_sumOfMoves 28 = .ok (.lload_n 1, 1) := by decide +kernel
theorem dX2_sumOfMoves_29 : decode cX2_sumOfMoves 29 = .ok (.lreturn, 1) := by decide +kernel
theorem dX2_linked_0 : decode cX2_linked 0 = .ok (.aload_n 0, 1) := by decide +kernel
theorem dX2_linked_1 : decode cX2_linked 1 = .ok (.iload_n 1, 1) := by decide +kernel
theorem dX2_linked_2 : decode cX2_linked 2 = .ok (.iload_n 2, 1) := by decide +kernel
theorem dX2_linked_3 : decode cX2_linked 3 = .ok (.invokevirtual 183, 3) := by decide +kernel
theorem dX2_linked_6 : decode cX2_linked 6 = .ok (.aload_n 0, 1) := by decide +kernel
theorem dX2_linked_7 : decode cX2_linked 7 = .ok (.getfield 61, 3) := by decide +kernel
theorem dX2_linked_10 : decode cX2_linked 10 = .ok (.if_icmp .gt 7, 3) := by decide +kernel
theorem dX2_linked_13 : decode cX2_linked 13 = .ok (.iconst 1, 1) := by decide +kernel
theorem dX2_linked_14 : decode cX2_linked 14 = .ok (.goto 4, 3) := by decide +kernel
theorem dX2_linked_17 : decode cX2_linked 17 = .ok (.iconst 0, 1) := by decide +kernel
theorem dX2_linked_18 : decode cX2_linked 18 = .ok (.ireturn, 1) := by decide +kernel
theorem dX2_linkedPairs_0 : decode cX2_linkedPairs 0 = .ok (.iconst 0, 1) := by decide +kernel
theorem dX2_linkedPairs_1 : decode cX2_linkedPairs 1 = .ok (.istore_n 1, 1) := by decide +kernel
theorem dX2_linkedPairs_2 : decode cX2_linkedPairs 2 = .ok (.iconst 0, 1) := by decide +kernel
theorem dX2_linkedPairs_3 : decode cX2_linkedPairs 3 = .ok (.istore_n 2, 1) := by decide +kernel
theorem dX2_linkedPairs_4 : decode cX2_linkedPairs 4 = .ok (.iload_n 2, 1) := by decide +kernel
theorem dX2_linkedPairs_5 : decode cX2_linkedPairs 5 = .ok (.aload_n 0, 1) := by decide +kernel
theorem dX2_linkedPairs_6 : decode cX2_linkedPairs 6 = .ok (.getfield 24, 3) := by decide +kernel
theorem dX2_linkedPairs_9 : decode cX2_linkedPairs 9 = .ok (.if_icmp .ge 44, 3) := by decide +kernel
theorem dX2_linkedPairs_12 : decode cX2_linkedPairs 12 = .ok (.iload_n 2, 1) := by decide +kernel
theorem dX2_linkedPairs_13 : decode cX2_linkedPairs 13 = .ok (.iconst 1, 1) := by decide +kernel
theorem dX2_linkedPairs_14 : decode cX2_linkedPairs 14 = .ok (.iadd, 1) := by decide +kernel
theorem dX2_linkedPairs_15 : decode cX2_linkedPairs 15 = .ok (.istore_n 3, 1) := by decide +kernel
theorem dX2_linkedPairs_16 : decode cX2_linkedPairs 16 = .ok (.iload_n 3, 1) := by decide +kernel
theorem dX2_linkedPairs_17 : decode cX2_linkedPairs 17 = .ok (.aload_n 0, 1) := by decide +kernel
theorem dX2_linkedPairs_18 : decode cX2_linkedPairs 18 = .ok (.getfield 24, 3) := by decide +kernel
theorem dX2_linkedPairs_21 : decode cX2_linkedPairs 21 = .ok (.if_icmp .ge 26, 3) := by decide +kernel
theorem dX2_linkedPairs_24 : decode cX2_linkedPairs 24 = .ok (.iload_n 1, 1) := by decide +kernel
theorem dX2_linkedPairs_25 : decode cX2_linkedPairs 25 = .ok (.aload_n 0, 1) := by decide +kernel
theorem dX2_linkedPairs_26 : decode cX2_linkedPairs 26 = .ok (.iload_n 2, 1) := by decide +kernel
theorem dX2_linkedPairs_27 : decode cX2_linkedPairs 27 = .ok (.iload_n 3, 1) := by decide +kernel
theorem dX2_linkedPairs_28 : decode cX2_linkedPairs 28 = .ok (.invokevirtual 199, 3) := by decide +kernel
theorem dX2_linkedPairs_31 : decode cX2_linkedPairs 31 = .ok (.ifCond .eq 7, 3) := by decide +kernel
theorem dX2_linkedPairs_34 : decode cX2_linkedPairs 34 = .ok (.iconst 1, 1) := by decide +kernel
theorem dX2_linkedPairs_35 : decode cX2_linkedPairs 35 = .ok (.goto 4, 3) := by decide +kernel
theorem dX2_linkedPairs_38 : decode cX2_linkedPairs 38 = .ok (.iconst 0, 1) := by decide +kernel
theorem dX2_linkedPairs_39 : decode cX2_linkedPairs 39 = .ok (.iadd, 1) := by decide +kernel
theorem dX2_linkedPairs_40 : decode cX2_linkedPairs 40 = .ok (.istore_n 1, 1) := by decide +kernel
theorem dX2_linkedPairs_41 : decode cX2_linkedPairs 41 = .ok (.iinc 3 1, 3) := by decide +kernel
theorem dX2_linkedPairs_44 : decode cX2_linkedPairs 44 = .ok (.goto (-28), 3) := by decide +kernel
theorem dX2_linkedPairs_47 : decode cX2_linkedPairs 47 = .ok (.iinc 2 1, 3) := by decide +kernel
theorem dX2_linkedPairs_50 : decode cX2_linkedPairs 50 = .ok (.goto (-46), 3) := by decide +kernel
theorem dX2_linkedPairs_53 : decode cX2_linkedPairs 53 = .ok (.iload_n 1, 1) := by decide +kernel
theorem dX2_linkedPairs_54 : decode cX2_linkedPairs 54 = .ok (.ireturn, 1) := by decide +kernel
theorem dX2_mixedByComparing_0 : decode cX2_mixedByComparing 0 = .ok (.iconst 0, 1) := by decide +kernel
theorem dX2_mixedByComparing_1 : decode cX2_mixedByComparing 1 = .ok (.istore_n 1, 1) := by decide +kernel
theorem dX2_mixedByComparing_2 : decode cX2_mixedByComparing 2 = .ok (.iconst 0, 1) := by decide +kernel
theorem dX2_mixedByComparing_3 : decode cX2_mixedByComparing 3 = .ok (.istore_n 2, 1) := by decide +kernel
theorem dX2_mixedByComparing_4 : decode cX2_mixedByComparing 4 = .ok (.iload_n 2, 1) := by decide +kernel
theorem dX2_mixedByComparing_5 : decode cX2_mixedByComparing 5 = .ok (.aload_n 0, 1) := by decide +kernel
theorem dX2_mixedByComparing_6 : decode cX2_mixedByComparing 6 = .ok (.getfield 24, 3) := by decide +kernel
theorem dX2_mixedByComparing_9 : decode cX2_mixedByComparing 9 = .ok (.if_icmp .ge 59, 3) := by decide +kernel
theorem dX2_mixedByComparing_12 : decode cX2_mixedByComparing 12 = .ok (.iload_n 2, 1) := by decide +kernel
theorem dX2_mixedByComparing_13 : decode cX2_mixedByComparing 13 = .ok (.iconst 1, 1) := by decide +kernel
theorem dX2_mixedByComparing_14 : decode cX2_mixedByComparing 14 = .ok (.iadd, 1) := by decide +kernel
theorem dX2_mixedByComparing_15 : decode cX2_mixedByComparing 15 = .ok (.istore_n 3, 1) := by decide +kernel
theorem dX2_mixedByComparing_16 : decode cX2_mixedByComparing 16 = .ok (.iload_n 3, 1) := by decide +kernel
theorem dX2_mixedByComparing_17 : decode cX2_mixedByComparing 17 = .ok (.aload_n 0, 1) := by decide +kernel
theorem dX2_mixedByComparing_18 : decode cX2_mixedByComparing 18 = .ok (.getfield 24, 3) := by decide +kernel
theorem dX2_mixedByComparing_21 : decode cX2_mixedByComparing 21 = .ok (.if_icmp .ge 41, 3) := by decide +kernel
theorem dX2_mixedByComparing_24 : decode cX2_mixedByComparing 24 = .ok (.iload_n 1, 1) := by decide +kernel
theorem dX2_mixedByComparing_25 : decode cX2_mixedByComparing 25 = .ok (.aload_n 0, 1) := by decide +kernel
theorem dX2_mixedByComparing_26 : decode cX2_mixedByComparing 26 = .ok (.getfield 18, 3) := by decide +kernel
theorem dX2_mixedByComparing_29 : decode cX2_mixedByComparing 29 = .ok (.iload_n 2, 1) := by decide +kernel
theorem dX2_mixedByComparing_30 : decode cX2_mixedByComparing 30 = .ok (.iaload, 1) := by decide +kernel
theorem dX2_mixedByComparing_31 : decode cX2_mixedByComparing 31 = .ok (.aload_n 0, 1) := by decide +kernel
theorem dX2_mixedByComparing_32 : decode cX2_mixedByComparing 32 = .ok (.getfield 18, 3) := by decide +kernel
theorem dX2_mixedByComparing_35 : decode cX2_mixedByComparing 35 = .ok (.iload_n 3, 1) := by decide +kernel
theorem dX2_mixedByComparing_36 : decode cX2_mixedByComparing 36 = .ok (.iaload, 1) := by decide +kernel
theorem dX2_mixedByComparing_37 : decode cX2_mixedByComparing 37 = .ok (.if_icmp .eq 16, 3) := by decide +kernel
theorem dX2_mixedByComparing_40 : decode cX2_mixedByComparing 40 = .ok (.aload_n 0, 1) := by decide +kernel
theorem dX2_mixedByComparing_41 : decode cX2_mixedByComparing 41 = .ok (.iload_n 2, 1) := by decide +kernel
theorem dX2_mixedByComparing_42 : decode cX2_mixedByComparing 42 = .ok (.iload_n 3, 1) := by decide +kernel
theorem dX2_mixedByComparing_43 : decode cX2_mixedByComparing 43 = .ok (.invokevirtual 199, 3) := by decide +kernel
theorem dX2_mixedByComparing_46 : decode cX2_mixedByComparing 46 = .ok (.ifCond .eq 7, 3) := by decide +kernel
theorem dX2_mixedByComparing_49 : decode cX2_mixedByComparing 49 = .ok (.iconst 1, 1) := by decide +kernel
theorem dX2_mixedByComparing_50 : decode cX2_mixedByComparing 50 = .ok (.goto 4, 3) := by decide +kernel
theorem dX2_mixedByComparing_53 : decode cX2_mixedByComparing 53 = .ok (.iconst 0, 1) := by decide +kernel
theorem dX2_mixedByComparing_54 : decode cX2_mixedByComparing 54 = .ok (.iadd, 1) := by decide +kernel
theorem dX2_mixedByComparing_55 : decode cX2_mixedByComparing 55 = .ok (.istore_n 1, 1) := by decide +kernel
theorem dX2_mixedByComparing_56 : decode cX2_mixedByComparing 56 = .ok (.iinc 3 1, 3) := by decide +kernel
theorem dX2_mixedByComparing_59 : decode cX2_mixedByComparing 59 = .ok (.goto (-43), 3) := by decide +kernel
theorem dX2_mixedByComparing_62 : decode cX2_mixedByComparing 62 = .ok (.iinc 2 1, 3) := by decide +kernel
theorem dX2_mixedByComparing_65 : decode cX2_mixedByComparing 65 = .ok (.goto (-61), 3) := by decide +kernel
theorem dX2_mixedByComparing_68 : decode cX2_mixedByComparing 68 = .ok (.iload_n 1, 1) := by decide +kernel
theorem dX2_mixedByComparing_69 : decode cX2_mixedByComparing 69 = .ok (.ireturn, 1) := by decide +kernel
theorem dX2_mixedByHandles_0 : decode cX2_mixedByHandles 0 = .ok (.aload_n 0, 1) := by decide +kernel
theorem dX2_mixedByHandles_1 : decode cX2_mixedByHandles 1 = .ok (.invokevirtual 202, 3) := by decide +kernel
theorem dX2_mixedByHandles_4 : decode cX2_mixedByHandles 4 = .ok (.istore_n 1, 1) := by decide +kernel
theorem dX2_mixedByHandles_5 : decode cX2_mixedByHandles 5 = .ok (.iconst 0, 1) := by decide +kernel
theorem dX2_mixedByHandles_6 : decode cX2_mixedByHandles 6 = .ok (.istore_n 2, 1) := by decide +kernel
theorem dX2_mixedByHandles_7 : decode cX2_mixedByHandles 7 = .ok (.iload_n 2, 1) := by decide +kernel
theorem dX2_mixedByHandles_8 : decode cX2_mixedByHandles 8 = .ok (.iconst 3, 1) := by decide +kernel
theorem dX2_mixedByHandles_9 : decode cX2_mixedByHandles 9 = .ok (.if_icmp .ge 17, 3) := by decide +kernel
theorem dX2_mixedByHandles_12 : decode cX2_mixedByHandles 12 = .ok (.iload_n 1, 1) := by decide +kernel
theorem dX2_mixedByHandles_13 : decode cX2_mixedByHandles 13 = .ok (.aload_n 0, 1) := by decide +kernel
theorem dX2_mixedByHandles_14 : decode cX2_mixedByHandles 14 = .ok (.iload_n 2, 1) := by decide +kernel
theorem dX2_mixedByHandles_15 : decode cX2_mixedByHandles 15 = .ok (.invokevirtual 205, 3) := by decide +kernel
theorem dX2_mixedByHandles_18 : decode cX2_mixedByHandles 18 = .ok (.isub, 1) := by decide +kernel
theorem dX2_mixedByHandles_19 : decode cX2_mixedByHandles 19 = .ok (.istore_n 1, 1) := by decide +kernel
theorem dX2_mixedByHandles_20 : decode cX2_mixedByHandles 20 = .ok (.iinc 2 1, 3) := by decide +kernel
theorem dX2_mixedByHandles_23 : decode cX2_mixedByHandles 23 = .ok (.goto (-16), 3) := by decide +kernel
theorem dX2_mixedByHandles_26 : decode cX2_mixedByHandles 26 = .ok (.iload_n 1, 1) := by decide +kernel
theorem dX2_mixedByHandles_27 : decode cX2_mixedByHandles 27 = .ok (.ireturn, 1) := by decide +kernel
theorem dX2_linkedPairsOfHandle_0 : decode cX2_linkedPairsOfHandle 0 = .ok (.iconst 0, 1) := by decide +kernel
theorem dX2_linkedPairsOfHandle_1 : decode cX2_linkedPairsOfHandle 1 = .ok (.istore_n 2, 1) := by decide +kernel
theorem dX2_linkedPairsOfHandle_2 : decode cX2_linkedPairsOfHandle 2 = .ok (.iconst 0, 1) := by decide +kernel
theorem dX2_linkedPairsOfHandle_3 : decode cX2_linkedPairsOfHandle 3 = .ok (.istore_n 3, 1) := by decide +kernel
theorem dX2_linkedPairsOfHandle_4 : decode cX2_linkedPairsOfHandle 4 = .ok (.iload_n 3, 1) := by decide +kernel
theorem dX2_linkedPairsOfHandle_5 : decode cX2_linkedPairsOfHandle 5 = .ok (.aload_n 0, 1) := by decide +kernel
theorem dX2_linkedPairsOfHandle_6 : decode cX2_linkedPairsOfHandle 6 = .ok (.getfield 24, 3) := by decide +kernel
theorem dX2_linkedPairsOfHandle_9 : decode cX2_linkedPairsOfHandle 9 = .ok (.if_icmp .ge 68, 3) := by decide +kernel
theorem dX2_linkedPairsOfHandle_12 : decode cX2_linkedPairsOfHandle 12 = .ok (.iload_n 3, 1) := by decide +kernel
theorem dX2_linkedPairsOfHandle_13 : decode cX2_linkedPairsOfHandle 13 = .ok (.iconst 1, 1) := by decide +kernel
theorem dX2_linkedPairsOfHandle_14 : decode cX2_linkedPairsOfHandle 14 = .ok (.iadd, 1) := by decide +kernel
theorem dX2_linkedPairsOfHandle_15 : decode cX2_linkedPairsOfHandle 15 = .ok (.istore 4, 2) := by decide +kernel
theorem dX2_linkedPairsOfHandle_17 : decode cX2_linkedPairsOfHandle 17 = .ok (.iload 4, 2) := by decide +kernel
theorem dX2_linkedPairsOfHandle_19 : decode cX2_linkedPairsOfHandle 19 = .ok (.aload_n 0, 1) := by decide +kernel
theorem dX2_linkedPairsOfHandle_20 : decode cX2_linkedPairsOfHandle 20 = .ok (.getfield 24, 3) := by decide +kernel
theorem dX2_linkedPairsOfHandle_23 : decode cX2_linkedPairsOfHandle 23 = .ok (.if_icmp .ge 48, 3) := by decide +kernel
theorem dX2_linkedPairsOfHandle_26 : decode cX2_linkedPairsOfHandle 26 = .ok (.aload_n 0, 1) := by decide +kernel
theorem dX2_linkedPairsOfHandle_27 : decode cX2_linkedPairsOfHandle 27 = .ok (.getfield 18, 3) := by decide +kernel
theorem dX2_linkedPairsOfHandle_30 : decode cX2_linkedPairsOfHandle 30 = .ok (.iload_n 3, 1) := by decide +kernel
theorem dX2_linkedPairsOfHandle_31 : decode cX2_linkedPairsOfHandle 31 = .ok (.iaload, 1) := by decide +kernel
theorem dX2_linkedPairsOfHandle_32 : decode cX2_linkedPairsOfHandle 32 = .ok (.iload_n 1, 1) := by decide +kernel
theorem dX2_linkedPairsOfHandle_33 : decode cX2_linkedPairsOfHandle 33 = .ok (.if_icmp .ne 38, 3) := by decide +kernel
theorem dX2_linkedPairsOfHandle_36 : decode cX2_linkedPairsOfHandle 36 = .ok (.iload_n 2, 1) := by decide +kernel
theorem dX2_linkedPairsOfHandle_37 : decode cX2_linkedPairsOfHandle 37 = .ok (.aload_n 0, 1) := by decide +kernel
theorem dX2_linkedPairsOfHandle_38 : decode cX2_linkedPairsOfHandle 38 = .ok (.getfield 18, 3) := by decide +kernel
theorem dX2_linkedPairsOfHandle_41 : decode cX2_linkedPairsOfHandle 41 = .ok (.iload 4, 2) := by decide +kernel
theorem dX2_linkedPairsOfHandle_43 : decode cX2_linkedPairsOfHandle 43 = .ok (.iaload, 1) := by decide +kernel
theorem dX2_linkedPairsOfHandle_44 : decode cX2_linkedPairsOfHandle 44 = .ok (.iload_n 1, 1) := by decide +kernel
theorem dX2_linkedPairsOfHandle_45 : decode cX2_linkedPairsOfHandle 45 = .ok (.if_icmp .ne 17, 3) := by decide +kernel
theorem dX2_linkedPairsOfHandle_48 : decode cX2_linkedPairsOfHandle 48 = .ok (.aload_n 0, 1) := by decide +kernel
theorem dX2_linkedPairsOfHandle_49 : decode cX2_linkedPairsOfHandle 49 = .ok (.iload_n 3, 1) := by decide +kernel
theorem dX2_linkedPairsOfHandle_50 : decode cX2_linkedPairsOfHandle 50 = .ok (.iload 4, 2) := by decide +kernel
theorem dX2_linkedPairsOfHandle_52 : decode cX2_linkedPairsOfHandle 52 = .ok (.invokevirtual 199, 3) := by decide +kernel
theorem dX2_linkedPairsOfHandle_55 : decode cX2_linkedPairsOfHandle 55 = .ok (.ifCond .eq 7, 3) := by decide +kernel
theorem dX2_linkedPairsOfHandle_58 : decode cX2_linkedPairsOfHandle 58 = .ok (.iconst 1, 1) := by decide +kernel
theorem dX2_linkedPairsOfHandle_59 : decode cX2_linkedPairsOfHandle 59 = .ok (.goto 4, 3) := by decide +kernel
theorem dX2_linkedPairsOfHandle_62 : decode cX2_linkedPairsOfHandle 62 = .ok (.iconst 0, 1) := by decide +kernel
theorem dX2_linkedPairsOfHandle_63 : decode cX2_linkedPairsOfHandle 63 = .ok (.iadd, 1) := by decide +kernel
theorem dX2_linkedPairsOfHandle_64 : decode cX2_linkedPairsOfHandle 64 = .ok (.istore_n 2, 1) := by decide +kernel
theorem dX2_linkedPairsOfHandle_65 : decode cX2_linkedPairsOfHandle 65 = .ok (.iinc 4 1, 3) := by decide +kernel
theorem dX2_linkedPairsOfHandle_68 : decode cX2_linkedPairsOfHandle 68 = .ok (.goto (-51), 3) := by decide +kernel
theorem dX2_linkedPairsOfHandle_71 : decode cX2_linkedPairsOfHandle 71 = .ok (.iinc 3 1, 3) := by decide +kernel
theorem dX2_linkedPairsOfHandle_74 : decode cX2_linkedPairsOfHandle 74 = .ok (.goto (-70), 3) := by decide +kernel
theorem dX2_linkedPairsOfHandle_77 : decode cX2_linkedPairsOfHandle 77 = .ok (.iload_n 2, 1) := by decide +kernel
theorem dX2_linkedPairsOfHandle_78 : decode cX2_linkedPairsOfHandle 78 = .ok (.ireturn, 1) := by decide +kernel
theorem dX2_stepsSincePresentShape_0 : decode cX2_stepsSincePresentShape 0 = .ok (.aload_n 0, 1) := by decide +kernel
theorem dX2_stepsSincePresentShape_1 : decode cX2_stepsSincePresentShape 1 = .ok (.invokevirtual 186, 3) := by decide +kernel
theorem dX2_stepsSincePresentShape_4 : decode cX2_stepsSincePresentShape 4 = .ok (.aload_n 0, 1) := by decide +kernel
theorem dX2_stepsSincePresentShape_5 : decode cX2_stepsSincePresentShape 5 = .ok (.getfield 38, 3) := by decide +kernel
theorem dX2_stepsSincePresentShape_8 : decode cX2_stepsSincePresentShape 8 = .ok (.aload_n 0, 1) := by decide +kernel
theorem dX2_stepsSincePresentShape_9 : decode cX2_stepsSincePresentShape 9 = .ok (.getfield 42, 3) := by decide +kernel
theorem dX2_stepsSincePresentShape_12 : decode cX2_stepsSincePresentShape 12 = .ok (.invokevirtual 208, 3) := by decide +kernel
theorem dX2_stepsSincePresentShape_15 : decode cX2_stepsSincePresentShape 15 = .ok (.ireturn, 1) := by decide +kernel
theorem dX2_drawPresentShape_0 : decode cX2_drawPresentShape 0 = .ok (.bipush 12, 2) := by decide +kernel
theorem dX2_drawPresentShape_2 : decode cX2_drawPresentShape 2 = .ok (.istore_n 1, 1) := by decide +kernel
theorem dX2_drawPresentShape_3 : decode cX2_drawPresentShape 3 = .ok (.bipush 12, 2) := by decide +kernel
theorem dX2_drawPresentShape_5 : decode cX2_drawPresentShape 5 = .ok (.istore_n 2, 1) := by decide +kernel
theorem dX2_drawPresentShape_6 : decode cX2_drawPresentShape 6 = .ok (.iconst 0, 1) := by decide +kernel
theorem dX2_drawPresentShape_7 : decode cX2_drawPresentShape 7 = .ok (.istore_n 3, 1) := by decide +kernel
theorem dX2_drawPresentShape_8 : decode cX2_drawPresentShape 8 = .ok (.iload_n 3, 1) := by decide +kernel
theorem dX2_drawPresentShape_9 : decode cX2_drawPresentShape 9 = .ok (.aload_n 0, 1) := by decide +kernel
theorem dX2_drawPresentShape_10 : decode cX2_drawPresentShape 10 = .ok (.getfield 24, 3) := by decide +kernel
theorem dX2_drawPresentShape_13 : decode cX2_drawPresentShape 13 = .ok (.if_icmp .ge 31, 3) := by decide +kernel
theorem dX2_drawPresentShape_16 : decode cX2_drawPresentShape 16 = .ok (.iload_n 1, 1) := by decide +kernel
theorem dX2_drawPresentShape_17 : decode cX2_drawPresentShape 17 = .ok (.aload_n 0, 1) := by decide +kernel
theorem dX2_drawPresentShape_18 : decode cX2_drawPresentShape 18 = .ok (.getfield 9, 3) := by decide +kernel
theorem dX2_drawPresentShape_21 : decode cX2_drawPresentShape 21 = .ok (.iload_n 3, 1) := by decide +kernel
theorem dX2_drawPresentShape_22 : decode cX2_drawPresentShape 22 = .ok (.iaload, 1) := by decide +kernel
theorem dX2_drawPresentShape_23 : decode cX2_drawPresentShape 23 = .ok (.invokestatic 212, 3) := by decide +kernel
theorem dX2_drawPresentShape_26 : decode cX2_drawPresentShape 26 = .ok (.istore_n 1, 1) := by decide +kernel
theorem dX2_drawPresentShape_27 : decode cX2_drawPresentShape 27 = .ok (.iload_n 2, 1) := by decide +kernel
theorem dX2_drawPresentShape_28 : decode cX2_drawPresentShape 28 = .ok (.aload_n 0, 1) := by decide +kernel
theorem dX2_drawPresentShape_29 : decode cX2_drawPresentShape 29 = .ok (.getfield 15, 3) := by decide +kernel
theorem dX2_drawPresentShape_32 : decode cX2_drawPresentShape 32 = .ok (.iload_n 3, 1) := by decide +kernel
theorem dX2_drawPresentShape_33 : decode cX2_drawPresentShape 33 = .ok (.iaload, 1) := by decide +kernel
theorem dX2_drawPresentShape_34 : decode cX2_drawPresentShape 34 = .ok (.invokestatic 212, 3) := by decide +kernel
theorem dX2_drawPresentShape_37 : decode cX2_drawPresentShape 37 = .ok (.istore_n 2, 1) := by decide +kernel
theorem dX2_drawPresentShape_38 : decode cX2_drawPresentShape 38 = .ok (.iinc 3 1, 3) := by decide +kernel
theorem dX2_drawPresentShape_41 : decode cX2_drawPresentShape 41 = .ok (.goto (-33), 3) := by decide +kernel
theorem dX2_drawPresentShape_44 : decode cX2_drawPresentShape 44 = .ok (.iconst 0, 1) := by decide +kernel
theorem dX2_drawPresentShape_45 : decode cX2_drawPresentShape 45 = .ok (.istore_n 3, 1) := by decide +kernel
theorem dX2_drawPresentShape_46 : decode cX2_drawPresentShape 46 = .ok (.iload_n 3, 1) := by decide +kernel
theorem dX2_drawPresentShape_47 : decode cX2_drawPresentShape 47 = .ok (.iconst 3, 1) := by decide +kernel
theorem dX2_drawPresentShape_48 : decode cX2_drawPresentShape 48 = .ok (.if_icmp .ge 16, 3) := by decide +kernel
theorem dX2_drawPresentShape_51 : decode cX2_drawPresentShape 51 = .ok (.aload_n 0, 1) := by decide +kernel
theorem dX2_drawPresentShape_52 : decode cX2_drawPresentShape 52 = .ok (.getfield 42, 3) := by decide +kernel
theorem dX2_drawPresentShape_55 : decode cX2_drawPresentShape 55 = .ok (.iload_n 3, 1) := by decide +kernel
theorem dX2_drawPresentShape_56 : decode cX2_drawPresentShape 56 = .ok (.lconst 0, 1) := by decide +kernel
theorem dX2_drawPresentShape_57 : decode cX2_drawPresentShape 57 = .ok (.lastore, 1) := by decide +kernel
theorem dX2_drawPresentShape_58 : decode cX2_drawPresentShape 58 = .ok (.iinc 3 1, 3) := by decide +kernel
theorem dX2_drawPresentShape_61 : decode cX2_drawPresentShape 61 = .ok (.goto (-15), 3) := by decide +kernel
theorem dX2_drawPresentShape_64 : decode cX2_drawPresentShape 64 = .ok (.iconst 0, 1) := by decide +kernel
theorem dX2_drawPresentShape_65 : decode cX2_drawPresentShape 65 = .ok (.istore_n 3, 1) := by decide +kernel
theorem dX2_drawPresentShape_66 : decode cX2_drawPresentShape 66 = .ok (.iload_n 3, 1) := by decide +kernel
theorem dX2_drawPresentShape_67 : decode cX2_drawPresentShape 67 = .ok (.aload_n 0, 1) := by decide +kernel
theorem dX2_drawPresentShape_68 : decode cX2_drawPresentShape 68 = .ok (.getfield 24, 3) := by decide +kernel
theorem dX2_drawPresentShape_71 : decode cX2_drawPresentShape 71 = .ok (.if_icmp .ge 68, 3) := by decide +kernel
theorem dX2_drawPresentShape_74 : decode cX2_drawPresentShape 74 = .ok (.aload_n 0, 1) := by decide +kernel
theorem dX2_drawPresentShape_75 : decode cX2_drawPresentShape 75 = .ok (.getfield 15, 3) := by decide +kernel
theorem dX2_drawPresentShape_78 : decode cX2_drawPresentShape 78 = .ok (.iload_n 3, 1) := by decide +kernel
theorem dX2_drawPresentShape_79 : decode cX2_drawPresentShape 79 = .ok (.iaload, 1) := by decide +kernel
theorem dX2_drawPresentShape_80 : decode cX2_drawPresentShape 80 = .ok (.iload_n 2, 1) := by decide +kernel
theorem dX2_drawPresentShape_81 : decode cX2_drawPresentShape 81 = .ok (.isub, 1) := by decide +kernel
theorem dX2_drawPresentShape_82 : decode cX2_drawPresentShape 82 = .ok (.istore 4, 2) := by decide +kernel
theorem dX2_drawPresentShape_84 : decode cX2_drawPresentShape 84 = .ok (.iload 4, 2) := by decide +kernel
theorem dX2_drawPresentShape_86 : decode cX2_drawPresentShape 86 = .ok (.iconst 4, 1) := by decide +kernel
theorem dX2_drawPresentShape_87 : decode cX2_drawPresentShape 87 = .ok (.idiv, 1) := by decide +kernel
theorem dX2_drawPresentShape_88 : decode cX2_drawPresentShape 88 = .ok (.istore 5, 2) := by decide +kernel
theorem dX2_drawPresentShape_90 : decode cX2_drawPresentShape 90 = .ok (.iload 4, 2) := by decide +kernel
theorem dX2_drawPresentShape_92 : decode cX2_drawPresentShape 92 = .ok (.iconst 4, 1) := by decide +kernel
theorem dX2_drawPresentShape_93 : decode cX2_drawPresentShape 93 = .ok (.irem, 1) := by decide +kernel
theorem dX2_drawPresentShape_94 : decode cX2_drawPresentShape 94 = .ok (.bipush 12, 2) := by decide +kernel
theorem dX2_drawPresentShape_96 : decode cX2_drawPresentShape 96 = .ok (.imul, 1) := by decide +kernel
theorem dX2_drawPresentShape_97 : decode cX2_drawPresentShape 97 = .ok (.aload_n 0, 1) := by decide +kernel
theorem dX2_drawPresentShape_98 : decode cX2_drawPresentShape 98 = .ok (.getfield 9, 3) := by decide +kernel
theorem dX2_drawPresentShape_101 : decode cX2_drawPresentShape 101 = .ok (.iload_n 3, 1) := by decide +kernel
theorem dX2_drawPresentShape_102 : decode cX2_drawPresentShape 102 = .ok (.iaload, 1) := by decide +kernel
theorem dX2_drawPresentShape_103 : decode cX2_drawPresentShape 103 = .ok (.iadd, 1) := by decide +kernel
theorem dX2_drawPresentShape_104 : decode cX2_drawPresentShape 104 = .ok (.iload_n 1, 1) := by decide +kernel
theorem dX2_drawPresentShape_105 : decode cX2_drawPresentShape 105 = .ok (.isub, 1) := by decide +kernel
theorem dX2_drawPresentShape_106 : decode cX2_drawPresentShape 106 = .ok (.istore 6, 2) := by decide +kernel
theorem dX2_drawPresentShape_108 : decode cX2_drawPresentShape 108 = .ok (.iload 5, 2) := by decide +kernel
theorem dX2_drawPresentShape_110 : decode cX2_drawPresentShape 110 = .ok (.ifCond .lt 23, 3) := by decide +kernel
theorem dX2_drawPresentShape_113 : decode cX2_drawPresentShape 113 = .ok (.iload 5, 2) := by decide +kernel
theorem dX2_drawPresentShape_115 : decode cX2_drawPresentShape 115 = .ok (.iconst 3, 1) := by decide +kernel
theorem dX2_drawPresentShape_116 : decode cX2_drawPresentShape 116 = .ok (.if_icmp .ge 17, 3) := by decide +kernel
theorem dX2_drawPresentShape_119 : decode cX2_drawPresentShape 119 = .ok (.aload_n 0, 1) := by decide +kernel
theorem dX2_drawPresentShape_120 : decode cX2_drawPresentShape 120 = .ok (.getfield 42, 3) := by decide +kernel
theorem dX2_drawPresentShape_123 : decode cX2_drawPresentShape 123 = .ok (.iload 5, 2) := by decide +kernel
theorem dX2_drawPresentShape_125 : decode cX2_drawPresentShape 125 = .ok (.dup2, 1) := by decide +kernel
theorem dX2_drawPresentShape_126 : decode cX2_drawPresentShape 126 = .ok (.laload, 1) := by decide +kernel
theorem dX2_drawPresentShape_127 : decode cX2_drawPresentShape 127 = .ok (.lconst 1, 1) := by decide +kernel
theorem dX2_drawPresentShape_128 : decode cX2_drawPresentShape 128 = .ok (.iload 6, 2) := by decide +kernel
theorem dX2_drawPresentShape_130 : decode cX2_drawPresentShape 130 = .ok (.lshl, 1) := by decide +kernel
theorem dX2_drawPresentShape_131 : decode cX2_drawPresentShape 131 = .ok (.lor, 1) := by decide +kernel
theorem dX2_drawPresentShape_132 : decode cX2_drawPresentShape 132 = .ok (.lastore, 1) := by decide +kernel
theorem dX2_drawPresentShape_133 : decode cX2_drawPresentShape 133 = .ok (.iinc 3 1, 3) := by decide +kernel
theorem dX2_drawPresentShape_136 : decode cX2_drawPresentShape 136 = .ok (.goto (-70), 3) := by decide +kernel
theorem dX2_drawPresentShape_139 : decode cX2_drawPresentShape 139 = .ok (.return_, 1) := by decide +kernel
theorem dX6_init_0 : decode cX6_init 0 = .ok (.aload_n 0, 1) := by decide +kernel
theorem dX6_init_1 : decode cX6_init 1 = .ok (.invokespecial 1, 3) := by decide +kernel
theorem dX6_init_4 : decode cX6_init 4 = .ok (.aload_n 0, 1) := by decide +kernel
theorem dX6_init_5 : decode cX6_init 5 = .ok (.new 7, 3) := by decide +kernel
theorem dX6_init_8 : decode cX6_init 8 = .ok (.dup, 1) := by decide +kernel
theorem dX6_init_9 : decode cX6_init 9 = .ok (.invokespecial 9, 3) := by decide +kernel
theorem dX6_init_12 : decode cX6_init 12 = .ok (.putfield 10, 3) := by decide +kernel
theorem dX6_init_15 : decode cX6_init 15 = .ok (.aload_n 0, 1) := by decide +kernel
theorem dX6_init_16 : decode cX6_init 16 = .ok (.new 7, 3) := by decide +kernel
theorem dX6_init_19 : decode cX6_init 19 = .ok (.dup, 1) := by decide +kernel
theorem dX6_init_20 : decode cX6_init 20 = .ok (.invokespecial 9, 3) := by decide +kernel
theorem dX6_init_23 : decode cX6_init 23 = .ok (.putfield 16, 3) := by decide +kernel
theorem dX6_init_26 : decode cX6_init 26 = .ok (.aload_n 0, 1) := by decide +kernel
theorem dX6_init_27 : decode cX6_init 27 = .ok (.new 7, 3) := by decide +kernel
theorem dX6_init_30 : decode cX6_init 30 = .ok (.dup, 1) := by decide +kernel
theorem dX6_init_31 : decode cX6_init 31 = .ok (.invokespecial 9, 3) := by decide +kernel
theorem dX6_init_34 : decode cX6_init 34 = .ok (.putfield 19, 3) := by decide +kernel
theorem dX6_init_37 : decode cX6_init 37 = .ok (.aload_n 0, 1) := by decide +kernel
theorem dX6_init_38 : decode cX6_init 38 = .ok (.iconst 0, 1) := by decide +kernel
theorem dX6_init_39 : decode cX6_init 39 = .ok (.putfield 22, 3) := by decide +kernel
theorem dX6_init_42 : decode cX6_init 42 = .ok (.aload_n 0, 1) := by decide +kernel
theorem dX6_init_43 : decode cX6_init 43 = .ok (.new 26, 3) := by decide +kernel
theorem dX6_init_46 : decode cX6_init 46 = .ok (.dup, 1) := by decide +kernel
theorem dX6_init_47 : decode cX6_init 47 = .ok (.invokespecial 28, 3) := by decide +kernel
theorem dX6_init_50 : decode cX6_init 50 = .ok (.putfield 29, 3) := by decide +kernel
theorem dX6_init_53 : decode cX6_init 53 = .ok (.aload_n 0, 1) := by decide +kernel
theorem dX6_init_54 : decode cX6_init 54 = .ok (.new 33, 3) := by decide +kernel
theorem dX6_init_57 : decode cX6_init 57 = .ok (.dup, 1) := by decide +kernel
theorem dX6_init_58 : decode cX6_init 58 = .ok (.invokespecial 35, 3) := by decide +kernel
theorem dX6_init_61 : decode cX6_init 61 = .ok (.putfield 36, 3) := by decide +kernel
theorem dX6_init_64 : decode cX6_init 64 = .ok (.aload_n 0, 1) := by decide +kernel
theorem dX6_init_65 : decode cX6_init 65 = .ok (.new 40, 3) := by decide +kernel
theorem dX6_init_68 : decode cX6_init 68 = .ok (.dup, 1) := by decide +kernel
theorem dX6_init_69 : decode cX6_init 69 = .ok (.invokespecial 42, 3) := by decide +kernel
theorem dX6_init_72 : decode cX6_init 72 = .ok (.putfield 43, 3) := by decide +kernel
theorem dX6_init_75 : decode cX6_init 75 = .ok (.aload_n 0, 1) := by decide +kernel
theorem dX6_init_76 : decode cX6_init 76 = .ok (.iconst (-1), 1) := by decide +kernel
theorem dX6_init_77 : decode cX6_init 77 = .ok (.putfield 47, 3) := by decide +kernel
theorem dX6_init_80 : decode cX6_init 80 = .ok (.aload_n 0, 1) := by decide +kernel
theorem dX6_init_81 : decode cX6_init 81 = .ok (.iconst (-1), 1) := by decide +kernel
theorem dX6_init_82 : decode cX6_init 82 = .ok (.putfield 51, 3) := by decide +kernel
theorem dX6_init_85 : decode cX6_init 85 = .ok (.aload_n 0, 1) := by decide +kernel
theorem dX6_init_86 : decode cX6_init 86 = .ok (.iconst (-1), 1) := by decide +kernel
theorem dX6_init_87 : decode cX6_init 87 = .ok (.putfield 54, 3) := by decide +kernel
theorem dX6_init_90 : decode cX6_init 90 = .ok (.aload_n 0, 1) := by decide +kernel
theorem dX6_init_91 : decode cX6_init 91 = .ok (.iconst (-1), 1) := by decide +kernel
theorem dX6_init_92 : decode cX6_init 92 = .ok (.putfield 57, 3) := by decide +kernel
theorem dX6_init_95 : decode cX6_init 95 = .ok (.aload_n 0, 1) := by decide +kernel
theorem dX6_init_96 : decode cX6_init 96 = .ok (.bipush 12, 2) := by decide +kernel
theorem dX6_init_98 : decode cX6_init 98 = .ok (.newarray .char, 2) := by decide +kernel
theorem dX6_init_100 : decode cX6_init 100 = .ok (.putfield 60, 3) := by decide +kernel
theorem dX6_init_103 : decode cX6_init 103 = .ok (.aload_n 0, 1) := by decide +kernel
theorem dX6_init_104 : decode cX6_init 104 = .ok (.iconst 0, 1) := by decide +kernel
theorem dX6_init_105 : decode cX6_init 105 = .ok (.putfield 64, 3) := by decide +kernel
theorem dX6_init_108 : decode cX6_init 108 = .ok (.return_, 1) := by decide +kernel
theorem dX6_addBasket_0 : decode cX6_addBasket 0 = .ok (.aload_n 0, 1) := by decide +kernel
theorem dX6_addBasket_1 : decode cX6_addBasket 1 = .ok (.iconst 0, 1) := by decide +kernel
theorem dX6_addBasket_2 : decode cX6_addBasket 2 = .ok (.iload_n 1, 1) := by decide +kernel
theorem dX6_addBasket_3 : decode cX6_addBasket 3 = .ok (.iload_n 2, 1) := by decide +kernel
theorem dX6_addBasket_4 : decode cX6_addBasket 4 = .ok (.iload_n 3, 1) := by decide +kernel
theorem dX6_addBasket_5 : decode cX6_addBasket 5 = .ok (.invokevirtual 67, 3) := by decide +kernel
theorem dX6_addBasket_8 : decode cX6_addBasket 8 = .ok (.aload_n 0, 1) := by decide +kernel
theorem dX6_addBasket_9 : decode cX6_addBasket 9 = .ok (.getfield 10, 3) := by decide +kernel
theorem dX6_addBasket_12 : decode cX6_addBasket 12 = .ok (.iload_n 1, 1) := by decide +kernel
theorem dX6_addBasket_13 : decode cX6_addBasket 13 = .ok (.iload_n 2, 1) := by decide +kernel
theorem dX6_addBasket_14 : decode cX6_addBasket 14 = .ok (.iload_n 3, 1) := by decide +kernel
theorem dX6_addBasket_15 : decode cX6_addBasket 15 = .ok (.invokevirtual 71, 3) := by decide +kernel
theorem dX6_addBasket_18 : decode cX6_addBasket 18 = .ok (.ireturn, 1) := by decide +kernel
theorem dX6_jump_0 : decode cX6_jump 0 = .ok (.aload_n 0, 1) := by decide +kernel
theorem dX6_jump_1 : decode cX6_jump 1 = .ok (.iconst 1, 1) := by decide +kernel
theorem dX6_jump_2 : decode cX6_jump 2 = .ok (.iload_n 1, 1) := by decide +kernel
theorem dX6_jump_3 : decode cX6_jump 3 = .ok (.iload_n 2, 1) := by decide +kernel
theorem dX6_jump_4 : decode cX6_jump 4 = .ok (.iload_n 3, 1) := by decide +kernel
theorem dX6_jump_5 : decode cX6_jump 5 = .ok (.invokevirtual 67, 3) := by decide +kernel
theorem dX6_jump_8 : decode cX6_jump 8 = .ok (.aload_n 0, 1) := by decide +kernel
theorem dX6_jump_9 : decode cX6_jump 9 = .ok (.getfield 10, 3) := by decide +kernel
theorem dX6_jump_12 : decode cX6_jump 12 = .ok (.iload_n 1, 1) := by decide +kernel
theorem dX6_jump_13 : decode cX6_jump 13 = .ok (.iload_n 2, 1) := by decide +kernel
theorem dX6_jump_14 : decode cX6_jump 14 = .ok (.iload_n 3, 1) := by decide +kernel
theorem dX6_jump_15 : decode cX6_jump 15 = .ok (.invokevirtual 75, 3) := by decide +kernel
theorem dX6_jump_18 : decode cX6_jump 18 = .ok (.ireturn, 1) := by decide +kernel
theorem dX6_setHandle_0 : decode cX6_setHandle 0 = .ok (.aload_n 0, 1) := by decide +kernel
theorem dX6_setHandle_1 : decode cX6_setHandle 1 = .ok (.iconst 2, 1) := by decide +kernel
theorem dX6_setHandle_2 : decode cX6_setHandle 2 = .ok (.iload_n 1, 1) := by decide +kernel
theorem dX6_setHandle_3 : decode cX6_setHandle 3 = .ok (.iload_n 2, 1) := by decide +kernel
theorem dX6_setHandle_4 : decode cX6_setHandle 4 = .ok (.iconst 0, 1) := by decide +kernel
theorem dX6_setHandle_5 : decode cX6_setHandle 5 = .ok (.invokevirtual 67, 3) := by decide +kernel
theorem dX6_setHandle_8 : decode cX6_setHandle 8 = .ok (.aload_n 0, 1) := by decide +kernel
theorem dX6_setHandle_9 : decode cX6_setHandle 9 = .ok (.getfield 10, 3) := by decide +kernel
theorem dX6_setHandle_12 : decode cX6_setHandle 12 = .ok (.iload_n 1, 1) := by decide +kernel
theorem dX6_setHandle_13 : decode cX6_setHandle 13 = .ok (.iload_n 2, 1) := by decide +kernel
theorem dX6_setHandle_14 : decode cX6_setHandle 14 = .ok (.invokevirtual 78, 3) := by decide +kernel
theorem dX6_setHandle_17 : decode cX6_setHandle 17 = .ok (.ireturn, 1) := by decide +kernel
theorem dX6_basketCount_0 : decode cX6_basketCount 0 = .ok (.aload_n 0, 1) := by decide +kernel
theorem dX6_basketCount_1 : decode cX6_basketCount 1 = .ok (.getfield 10, 3) := by decide +kernel
theorem dX6_basketCount_4 : decode cX6_basketCount 4 = .ok (.getfield 82, 3) := by decide +kernel
theorem dX6_basketCount_7 : decode cX6_basketCount 7 = .ok (.ireturn, 1) := by decide +kernel
theorem dX6_xOf_0 : decode cX6_xOf 0 = .ok (.aload_n 0, 1) := by decide +kernel
theorem dX6_xOf_1 : decode cX6_xOf 1 = .ok (.iload_n 1, 1) := by decide +kernel
theorem dX6_xOf_2 : decode cX6_xOf 2 = .ok (.invokevirtual 85, 3) := by decide +kernel
theorem dX6_xOf_5 : decode cX6_xOf 5 = .ok (.aload_n 0, 1) := by decide +kernel
theorem dX6_xOf_6 : decode cX6_xOf 6 = .ok (.getfield 10, 3) := by decide +kernel
theorem dX6_xOf_9 : decode cX6_xOf 9 = .ok (.getfield 89, 3) := by decide +kernel
theorem dX6_xOf_12 : decode cX6_xOf 12 = .ok (.iload_n 1, 1) := by decide +kernel
theorem dX6_xOf_13 : decode cX6_xOf 13 = .ok (.iaload, 1) := by decide +kernel
theorem dX6_xOf_14 : decode cX6_xOf 14 = .ok (.ireturn, 1) := by decide +kernel
theorem dX6_yOf_0 : decode cX6_yOf 0 = .ok (.aload_n 0, 1) := by decide +kernel
theorem dX6_yOf_1 : decode cX6_yOf 1 = .ok (.iload_n 1, 1) := by decide +kernel
theorem dX6_yOf_2 : decode cX6_yOf 2 = .ok (.invokevirtual 85, 3) := by decide +kernel
theorem dX6_yOf_5 : decode cX6_yOf 5 = .ok (.aload_n 0, 1) := by decide +kernel
theorem dX6_yOf_6 : decode cX6_yOf 6 = .ok (.getfield 10, 3) := by decide +kernel
theorem dX6_yOf_9 : decode cX6_yOf 9 = .ok (.getfield 93, 3) := by decide +kernel
theorem dX6_yOf_12 : decode cX6_yOf 12 = .ok (.iload_n 1, 1) := by decide +kernel
theorem dX6_yOf_13 : decode cX6_yOf 13 = .ok (.iaload, 1) := by decide +kernel
theorem dX6_yOf_14 : decode cX6_yOf 14 = .ok (.ireturn, 1) := by decide +kernel
theorem dX6_handleOf_0 : decode cX6_handleOf 0 = .ok (.aload_n 0, 1) := by decide +kernel
theorem dX6_handleOf_1 : decode cX6_handleOf 1 = .ok (.iload_n 1, 1) := by decide +kernel
theorem dX6_handleOf_2 : decode cX6_handleOf 2 = .ok (.invokevirtual 85, 3) := by decide +kernel
theorem dX6_handleOf_5 : decode cX6_handleOf 5 = .ok (.aload_n 0, 1) := by decide +kernel
theorem dX6_handleOf_6 : decode cX6_handleOf 6 = .ok (.getfield 10, 3) := by decide +kernel
theorem dX6_handleOf_9 : decode cX6_handleOf 9 = .ok (.getfield 96, 3) := by decide +kernel
theorem dX6_handleOf_12 : decode cX6_handleOf 12 = .ok (.iload_n 1, 1) := by decide +kernel
theorem dX6_handleOf_13 : decode cX6_handleOf 13 = .ok (.iaload, 1) := by decide +kernel
theorem dX6_handleOf_14 : decode cX6_handleOf 14 = .ok (.ireturn, 1) := by decide +kernel
theorem dX6_basketAt_0 : decode cX6_basketAt 0 = .ok (.aload_n 0, 1) := by decide +kernel
theorem dX6_basketAt_1 : decode cX6_basketAt 1 = .ok (.iload_n 1, 1) := by decide +kernel
theorem dX6_basketAt_2 : decode cX6_basketAt 2 = .ok (.iload_n 2, 1) := by decide +kernel
theorem dX6_basketAt_3 : decode cX6_basketAt 3 = .ok (.invokevirtual 99, 3) := by decide +kernel
theorem dX6_basketAt_6 : decode cX6_basketAt 6 = .ok (.aload_n 0, 1) := by decide +kernel
theorem dX6_basketAt_7 : decode cX6_basketAt 7 = .ok (.getfield 10, 3) := by decide +kernel
theorem dX6_basketAt_10 : decode cX6_basketAt 10 = .ok (.iload_n 1, 1) := by decide +kernel
theorem dX6_basketAt_11 : decode cX6_basketAt 11 = .ok (.iload_n 2, 1) := by decide +kernel
theorem dX6_basketAt_12 : decode cX6_basketAt 12 = .ok (.invokevirtual 103, 3) := by decide +kernel
theorem dX6_basketAt_15 : decode cX6_basketAt 15 = .ok (.istore_n 3, 1) := by decide +kernel
theorem dX6_basketAt_16 : decode cX6_basketAt 16 = .ok (.iload_n 3, 1) := by decide +kernel
theorem dX6_basketAt_17 : decode cX6_basketAt 17 = .ok (.iconst (-1), 1) := by decide +kernel
theorem dX6_basketAt_18 : decode cX6_basketAt 18 = .ok (.if_icmp .ne 13, 3) := by decide +kernel
theorem dX6_basketAt_21 : decode cX6_basketAt 21 = .ok (.new 106, 3) := by decide +kernel
theorem dX6_basketAt_24 : decode cX6_basketAt 24 = .ok (.dup, 1) := by decide +kernel
theorem dX6_basketAt_25 : decode cX6_basketAt 25 = .ok (.ldc 108, 2) := by decide +kernel
theorem dX6_basketAt_27 : decode cX6_basketAt 27 = .ok (.invokespecial 110, 3) := by decide +kernel
theorem dX6_basketAt_30 : decode cX6_basketAt 30 = .ok (.athrow, 1) := by decide +kernel
theorem dX6_basketAt_31 : decode cX6_basketAt 31 = .ok (.iload_n 3, 1) := by decide +kernel
theorem dX6_basketAt_32 : decode cX6_basketAt 32 = .ok (.ireturn, 1) := by decide +kernel
theorem dX6_distance_0 : decode cX6_distance 0 = .ok (.aload_n 0, 1) := by decide +kernel
theorem dX6_distance_1 : decode cX6_distance 1 = .ok (.iload_n 1, 1) := by decide +kernel
theorem dX6_distance_2 : decode cX6_distance 2 = .ok (.invokevirtual 85, 3) := by decide +kernel
theorem dX6_distance_5 : decode cX6_distance 5 = .ok (.aload_n 0, 1) := by decide +kernel
theorem dX6_distance_6 : decode cX6_distance 6 = .ok (.iload_n 2, 1) := by decide +kernel
theorem dX6_distance_7 : decode cX6_distance 7 = .ok (.invokevirtual 85, 3) := by decide +kernel
theorem dX6_distance_10 : decode cX6_distance 10 = .ok (.aload_n 0, 1) := by decide +kernel
theorem dX6_distance_11 : decode cX6_distance 11 = .ok (.getfield 10, 3) := by decide +kernel
theorem dX6_distance_14 : decode cX6_distance 14 = .ok (.iload_n 1, 1) := by decide +kernel
theorem dX6_distance_15 : decode cX6_distance 15 = .ok (.iload_n 2, 1) := by decide +kernel
theorem dX6_distance_16 : decode cX6_distance 16 = .ok (.invokevirtual 113, 3) := by decide +kernel
theorem dX6_distance_19 : decode cX6_distance 19 = .ok (.ireturn, 1) := by decide +kernel
theorem dX6_nearestTo_0 : decode cX6_nearestTo 0 = .ok (.aload_n 0, 1) := by decide +kernel
theorem dX6_nearestTo_1 : decode cX6_nearestTo 1 = .ok (.iload_n 1, 1) := by decide +kernel
theorem dX6_nearestTo_2 : decode cX6_nearestTo 2 = .ok (.invokevirtual 85, 3) := by decide +kernel
theorem dX6_nearestTo_5 : decode cX6_nearestTo 5 = .ok (.aload_n 0, 1) := by decide +kernel
theorem dX6_nearestTo_6 : decode cX6_nearestTo 6 = .ok (.getfield 10, 3) := by decide +kernel
theorem dX6_nearestTo_9 : decode cX6_nearestTo 9 = .ok (.iload_n 1, 1) := by decide +kernel
theorem dX6_nearestTo_10 : decode cX6_nearestTo 10 = .ok (.invokevirtual 116, 3) := by decide +kernel
theorem dX6_nearestTo_13 : decode cX6_nearestTo 13 = .ok (.istore_n 2, 1) := by decide +kernel
theorem dX6_nearestTo_14 : decode cX6_nearestTo 14 = .ok (.iload_n 2, 1) := by decide +kernel
theorem dX6_nearestTo_15 : decode cX6_nearestTo 15 = .ok (.iconst (-1), 1) := by decide +kernel
theorem dX6_nearestTo_16 : decode cX6_nearestTo 16 = .ok (.if_icmp .ne 13, 3) := by decide +kernel
theorem dX6_nearestTo_19 : decode cX6_nearestTo 19 = .ok (.new 106, 3) := by decide +kernel
theorem dX6_nearestTo_22 : decode cX6_nearestTo 22 = .ok (.dup, 1) := by decide +kernel
theorem dX6_nearestTo_23 : decode cX6_nearestTo 23 = .ok (.ldc 120, 2) := by decide +kernel
theorem dX6_nearestTo_25 : decode cX6_nearestTo 25 = .ok (.invokespecial 110, 3) := by decide +kernel
theorem dX6_nearestTo_28 : decode cX6_nearestTo 28 = .ok (.athrow, 1) := by decide +kernel
theorem dX6_nearestTo_29 : decode cX6_nearestTo 29 = .ok (.iload_n 2, 1) := by decide +kernel
theorem dX6_nearestTo_30 : decode cX6_nearestTo 30 = .ok (.ireturn, 1) := by decide +kernel
theorem dX6_addCloud_0 : decode cX6_addCloud 0 = .ok (.aload_n 0, 1) := by decide +kernel
theorem dX6_addCloud_1 : decode cX6_addCloud 1 = .ok (.iconst 3, 1) := by decide +kernel
theorem dX6_addCloud_2 : decode cX6_addCloud 2 = .ok (.iload_n 1, 1) := by decide +kernel
theorem dX6_addCloud_3 : decode cX6_addCloud 3 = .ok (.iload_n 2, 1) := by decide +kernel
theorem dX6_addCloud_4 : decode cX6_addCloud 4 = .ok (.iconst 0, 1) := by decide +kernel
theorem dX6_addCloud_5 : decode cX6_addCloud 5 = .ok (.invokevirtual 67, 3) := by decide +kernel
theorem dX6_addCloud_8 : decode cX6_addCloud 8 = .ok (.aload_n 0, 1) := by decide +kernel
theorem dX6_addCloud_9 : decode cX6_addCloud 9 = .ok (.getfield 10, 3) := by decide +kernel
theorem dX6_addCloud_12 : decode cX6_addCloud 12 = .ok (.getfield 125, 3) := by decide +kernel
theorem dX6_addCloud_15 : decode cX6_addCloud 15 = .ok (.iload_n 1, 1) := by decide +kernel
theorem dX6_addCloud_16 : decode cX6_addCloud 16 = .ok (.iload_n 2, 1) := by decide +kernel
theorem dX6_addCloud_17 : decode cX6_addCloud 17 = .ok (.invokevirtual 129, 3) := by decide +kernel
theorem dX6_addCloud_20 : decode cX6_addCloud 20 = .ok (.ireturn, 1) := by decide +kernel
theorem dX6_removeCloud_0 : decode cX6_removeCloud 0 = .ok (.aload_n 0, 1) := by decide +kernel
theorem dX6_removeCloud_1 : decode cX6_removeCloud 1 = .ok (.iconst 4, 1) := by decide +kernel
theorem dX6_removeCloud_2 : decode cX6_removeCloud 2 = .ok (.iload_n 1, 1) := by decide +kernel
theorem dX6_removeCloud_3 : decode cX6_removeCloud 3 = .ok (.iload_n 2, 1) := by decide +kernel
theorem dX6_removeCloud_4 : decode cX6_removeCloud 4 = .ok (.iconst 0, 1) := by decide +kernel
theorem dX6_removeCloud_5 : decode cX6_removeCloud 5 = .ok (.invokevirtual 67, 3) := by decide +kernel
theorem dX6_removeCloud_8 : decode cX6_removeCloud 8 = .ok (.aload_n 0, 1) := by decide +kernel
theorem dX6_removeCloud_9 : decode cX6_removeCloud 9 = .ok (.getfield 10, 3) := by decide +kernel
theorem dX6_removeCloud_12 : decode cX6_removeCloud 12 = .ok (.getfield 125, 3) := by decide +kernel
theorem dX6_removeCloud_15 : decode cX6_removeCloud 15 = .ok (.iload_n 1, 1) := by decide +kernel
theorem dX6_removeCloud_16 : decode cX6_removeCloud 16 = .ok (.iload_n 2, 1) := by decide +kernel
theorem dX6_removeCloud_17 : decode cX6_removeCloud 17 = .ok (.invokevirtual 133, 3) := by decide +kernel
theorem dX6_removeCloud_20 : decode cX6_removeCloud 20 = .ok (.ireturn, 1) := by decide +kernel
theorem dX6_isCloud_0 : decode cX6_isCloud 0 = .ok (.aload_n 0, 1) := by decide +kernel
theorem dX6_isCloud_1 : decode cX6_isCloud 1 = .ok (.iload_n 1, 1) := by decide +kernel
theorem dX6_isCloud_2 : decode cX6_isCloud 2 = .ok (.iload_n 2, 1) := by decide +kernel
theorem dX6_isCloud_3 : decode cX6_isCloud 3 = .ok (.invokevirtual 99, 3) := by decide +kernel
theorem dX6_isCloud_6 : decode cX6_isCloud 6 = .ok (.aload_n 0, 1) := by decide +kernel
theorem dX6_isCloud_7 : decode cX6_isCloud 7 = .ok (.getfield 10, 3) := by decide +kernel
theorem dX6_isCloud_10 : decode cX6_isCloud 10 = .ok (.getfield 125, 3) := by decide +kernel
theorem dX6_isCloud_13 : decode cX6_isCloud 13 = .ok (.iload_n 1, 1) := by decide +kernel
theorem dX6_isCloud_14 : decode cX6_isCloud 14 = .ok (.iload_n 2, 1) := by decide +kernel
theorem dX6_isCloud_15 : decode cX6_isCloud 15 = .ok (.invokevirtual 136, 3) := by decide +kernel
theorem dX6_isCloud_18 : decode cX6_isCloud 18 = .ok (.ireturn, 1) := by decide +kernel
theorem dX6_cloudCount_0 : decode cX6_cloudCount 0 = .ok (.aload_n 0, 1) := by decide +kernel
theorem dX6_cloudCount_1 : decode cX6_cloudCount 1 = .ok (.getfield 10, 3) := by decide +kernel
theorem dX6_cloudCount_4 : decode cX6_cloudCount 4 = .ok (.getfield 125, 3) := by decide +kernel
theorem dX6_cloudCount_7 : decode cX6_cloudCount 7 = .ok (.getfield 140, 3) := by decide +kernel
theorem dX6_cloudCount_10 : decode cX6_cloudCount 10 = .ok (.ireturn, 1) := by decide +kernel
theorem dX6_setTurnLength_0 : decode cX6_setTurnLength 0 = .ok (.aload_n 0, 1) := by decide +kernel
theorem dX6_setTurnLength_1 : decode cX6_setTurnLength 1 = .ok (.iconst 5, 1) := by decide +kernel
theorem dX6_setTurnLength_2 : decode cX6_setTurnLength 2 = .ok (.iload_n 1, 1) := by decide +kernel
theorem dX6_setTurnLength_3 : decode cX6_setTurnLength 3 = .ok (.iconst 0, 1) := by decide +kernel
theorem dX6_setTurnLength_4 : decode cX6_setTurnLength 4 = .ok (.iconst 0, 1) := by decide +kernel
theorem dX6_setTurnLength_5 : decode cX6_setTurnLength 5 = .ok (.invokevirtual 67, 3) := by decide +kernel
theorem dX6_setTurnLength_8 : decode cX6_setTurnLength 8 = .ok (.aload_n 0, 1) := by decide +kernel
theorem dX6_setTurnLength_9 : decode cX6_setTurnLength 9 = .ok (.getfield 10, 3) := by decide +kernel
theorem dX6_setTurnLength_12 : decode cX6_setTurnLength 12 = .ok (.iload_n 1, 1) := by decide +kernel
theorem dX6_setTurnLength_13 : decode cX6_setTurnLength 13 = .ok (.invokevirtual 141, 3) := by decide +kernel
theorem dX6_setTurnLength_16 : decode cX6_setTurnLength 16 = .ok (.ireturn, 1) := by decide +kernel
theorem dX6_leader_0 : decode cX6_leader 0 = .ok (.aload_n 0, 1) := by decide +kernel
theorem dX6_leader_1 : decode cX6_leader 1 = .ok (.invokevirtual 147, 3) := by decide +kernel
theorem dX6_leader_4 : decode cX6_leader 4 = .ok (.aload_n 0, 1) := by decide +kernel
theorem dX6_leader_5 : decode cX6_leader 5 = .ok (.getfield 10, 3) := by decide +kernel
theorem dX6_leader_8 : decode cX6_leader 8 = .ok (.getfield 150, 3) := by decide +kernel
theorem dX6_leader_11 : decode cX6_leader 11 = .ok (.ireturn, 1) := by decide +kernel
theorem dX6_leaderAfter_0 : decode cX6_leaderAfter 0 = .ok (.aload_n 0, 1) := by decide +kernel
theorem dX6_leaderAfter_1 : decode cX6_leaderAfter 1 = .ok (.iload_n 1, 1) := by decide +kernel
theorem dX6_leaderAfter_2 : decode cX6_leaderAfter 2 = .ok (.invokevirtual 153, 3) := by decide +kernel
theorem dX6_leaderAfter_5 : decode cX6_leaderAfter 5 = .ok (.aload_n 0, 1) := by decide +kernel
theorem dX6_leaderAfter_6 : decode cX6_leaderAfter 6 = .ok (.invokevirtual 147, 3) := by decide +kernel
theorem dX6_leaderAfter_9 : decode cX6_leaderAfter 9 = .ok (.aload_n 0, 1) := by decide +kernel
theorem dX6_leaderAfter_10 : decode cX6_leaderAfter 10 = .ok (.getfield 10, 3) := by decide +kernel
theorem dX6_leaderAfter_13 : decode cX6_leaderAfter 13 = .ok (.iload_n 1, 1) := by decide +kernel
theorem dX6_leaderAfter_14 : decode cX6_leaderAfter 14 = .ok (.invokevirtual 156, 3) := by decide +kernel
theorem dX6_leaderAfter_17 : decode cX6_leaderAfter 17 = .ok (.ireturn, 1) := by decide +kernel
theorem dX6_leaderAfterByCounting_0 : decode cX6_leaderAfterByCounting 0 = .ok (.aload_n 0, 1) := by decide +kernel
theorem dX6_leaderAfterByCounting_1 : decode cX6_leaderAfterByCounting 1 = .ok (.iload_n 1, 1) := by decide +kernel
theorem dX6_leaderAfterByCounting_2 : decode cX6_leaderAfterByCounting 2 = .ok (.invokevirtual 153, 3) := by decide +kernel
theorem dX6_leaderAfterByCounting_5 : decode cX6_leaderAfterByCounting 5 = .ok (.aload_n 0, 1) := by decide +kernel
theorem dX6_leaderAfterByCounting_6 : decode cX6_leaderAfterByCounting 6 = .ok (.invokevirtual 147, 3) := by decide +kernel
theorem dX6_leaderAfterByCounting_9 : decode cX6_leaderAfterByCounting 9 = .ok (.aload_n 0, 1) := by decide +kernel
theorem dX6_leaderAfterByCounting_10 : decode cX6_leaderAfterByCounting 10 = .ok (.getfield 10, 3) := by decide +kernel
theorem dX6_leaderAfterByCounting_13 : decode cX6_leaderAfterByCounting 13 = .ok (.iload_n 1, 1) := by decide +kernel
theorem dX6_leaderAfterByCounting_14 : decode cX6_leaderAfterByCounting 14 = .ok (.invokevirtual 159, 3) := by decide +kernel
theorem dX6_leaderAfterByCounting_17 : decode cX6_leaderAfterByCounting 17 = .ok (.ireturn, 1) := by decide +kernel
theorem dX6_setTarget_0 : decode cX6_setTarget 0 = .ok (.aload_n 0, 1) := by decide +kernel
theorem dX6_setTarget_1 : decode cX6_setTarget 1 = .ok (.bipush 6, 2) := by decide +kernel
theorem dX6_setTarget_3 : decode cX6_setTarget 3 = .ok (.iload_n 1, 1) := by decide +kernel
theorem dX6_setTarget_4 : decode cX6_setTarget 4 = .ok (.iload_n 2, 1) := by decide +kernel
theorem dX6_setTarget_5 : decode cX6_setTarget 5 = .ok (.iconst 0, 1) := by decide +kernel
theorem dX6_setTarget_6 : decode cX6_setTarget 6 = .ok (.invokevirtual 67, 3) := by decide +kernel
theorem dX6_setTarget_9 : decode cX6_setTarget 9 = .ok (.aload_n 0, 1) := by decide +kernel
theorem dX6_setTarget_10 : decode cX6_setTarget 10 = .ok (.getfield 10, 3) := by decide +kernel
theorem dX6_setTarget_13 : decode cX6_setTarget 13 = .ok (.iload_n 1, 1) := by decide +kernel
theorem dX6_setTarget_14 : decode cX6_setTarget 14 = .ok (.iload_n 2, 1) := by decide +kernel
theorem dX6_setTarget_15 : decode cX6_setTarget 15 = .ok (.invokevirtual 162, 3) := by decide +kernel
theorem dX6_setTarget_18 : decode cX6_setTarget 18 = .ok (.ireturn, 1) := by decide +kernel
theorem dX6_setKeep_0 : decode cX6_setKeep 0 = .ok (.aload_n 0, 1) := by decide +kernel
theorem dX6_setKeep_1 : decode cX6_setKeep 1 = .ok (.bipush 7, 2) := by decide +kernel
theorem dX6_setKeep_3 : decode cX6_setKeep 3 = .ok (.iload_n 1, 1) := by decide +kernel
theorem dX6_setKeep_4 : decode cX6_setKeep 4 = .ok (.iconst 0, 1) := by decide +kernel
theorem dX6_setKeep_5 : decode cX6_setKeep 5 = .ok (.iconst 0, 1) := by decide +kernel
theorem dX6_setKeep_6 : decode cX6_setKeep 6 = .ok (.invokevirtual 67, 3) := by decide +kernel
theorem dX6_setKeep_9 : decode cX6_setKeep 9 = .ok (.aload_n 0, 1) := by decide +kernel
theorem dX6_setKeep_10 : decode cX6_setKeep 10 = .ok (.getfield 10, 3) := by decide +kernel
theorem dX6_setKeep_13 : decode cX6_setKeep 13 = .ok (.iload_n 1, 1) := by decide +kernel
theorem dX6_setKeep_14 : decode cX6_setKeep 14 = .ok (.invokevirtual 187, 3) := by decide +kernel
theorem dX6_setKeep_17 : decode cX6_setKeep 17 = .ok (.ireturn, 1) := by decide +kernel
theorem dX6_keep_0 : decode cX6_keep 0 = .ok (.aload_n 0, 1) := by decide +kernel
theorem dX6_keep_1 : decode cX6_keep 1 = .ok (.getfield 10, 3) := by decide +kernel
theorem dX6_keep_4 : decode cX6_keep 4 = .ok (.getfield 190, 3) := by decide +kernel
theorem dX6_keep_7 : decode cX6_keep 7 = .ok (.ireturn, 1) := by decide +kernel
theorem dX6_advance_0 : decode cX6_advance 0 = .ok (.aload_n 0, 1) := by decide +kernel
theorem dX6_advance_1 : decode cX6_advance 1 = .ok (.bipush 8, 2) := by decide +kernel
theorem dX6_advance_3 : decode cX6_advance 3 = .ok (.iload_n 1, 1) := by decide +kernel
theorem dX6_advance_4 : decode cX6_advance 4 = .ok (.iconst 0, 1) := by decide +kernel
theorem dX6_advance_5 : decode cX6_advance 5 = .ok (.iconst 0, 1) := by decide +kernel
theorem dX6_advance_6 : decode cX6_advance 6 = .ok (.invokevirtual 67, 3) := by decide +kernel
theorem dX6_advance_9 : decode cX6_advance 9 = .ok (.aload_n 0, 1) := by decide +kernel
theorem dX6_advance_10 : decode cX6_advance 10 = .ok (.getfield 10, 3) := by decide +kernel
theorem dX6_advance_13 : decode cX6_advance 13 = .ok (.iload_n 1, 1) := by decide +kernel
theorem dX6_advance_14 : decode cX6_advance 14 = .ok (.invokevirtual 182, 3) := by decide +kernel
theorem dX6_advance_17 : decode cX6_advance 17 = .ok (.ireturn, 1) := by decide +kernel
theorem dX6_stepCount_0 : decode cX6_stepCount 0 = .ok (.aload_n 0, 1) := by decide +kernel
theorem dX6_stepCount_1 : decode cX6_stepCount 1 = .ok (.getfield 10, 3) := by decide +kernel
theorem dX6_stepCount_4 : decode cX6_stepCount 4 = .ok (.getfield 193, 3) := by decide +kernel
theorem dX6_stepCount_7 : decode cX6_stepCount 7 = .ok (.ireturn, 1) := by decide +kernel
theorem dX6_movesOf_0 : decode cX6_movesOf 0 = .ok (.aload_n 0, 1) := by decide +kernel
theorem dX6_movesOf_1 : decode cX6_movesOf 1 = .ok (.iload_n 1, 1) := by decide +kernel
theorem dX6_movesOf_2 : decode cX6_movesOf 2 = .ok (.invokevirtual 85, 3) := by decide +kernel
theorem dX6_movesOf_5 : decode cX6_movesOf 5 = .ok (.aload_n 0, 1) := by decide +kernel
theorem dX6_movesOf_6 : decode cX6_movesOf 6 = .ok (.getfield 10, 3) := by decide +kernel
theorem dX6_movesOf_9 : decode cX6_movesOf 9 = .ok (.getfield 196, 3) := by decide +kernel
theorem dX6_movesOf_12 : decode cX6_movesOf 12 = .ok (.iload_n 1, 1) := by decide +kernel
theorem dX6_movesOf_13 : decode cX6_movesOf 13 = .ok (.iaload, 1) := by decide +kernel
theorem dX6_movesOf_14 : decode cX6_movesOf 14 = .ok (.ireturn, 1) := by decide +kernel
theorem dX6_moveTotal_0 : decode cX6_moveTotal 0 = .ok (.aload_n 0, 1) := by decide +kernel
theorem dX6_moveTotal_1 : decode cX6_moveTotal 1 = .ok (.getfield 10, 3) := by decide +kernel
theorem dX6_moveTotal_4 : decode cX6_moveTotal 4 = .ok (.invokevirtual 199, 3) := by decide +kernel
theorem dX6_moveTotal_7 : decode cX6_moveTotal 7 = .ok (.lreturn, 1) := by decide +kernel
theorem dX6_formationCount_0 : decode cX6_formationCount 0 = .ok (.aload_n 0, 1) := by decide +kernel
theorem dX6_formationCount_1 : decode cX6_formationCount 1 = .ok (.getfield 36, 3) := by decide +kernel
theorem dX6_formationCount_4 : decode cX6_formationCount 4 = .ok (.aload_n 0, 1) := by decide +kernel
theorem dX6_formationCount_5 : decode cX6_formationCount 5 = .ok (.getfield 10, 3) := by decide +kernel
theorem dX6_formationCount_8 : decode cX6_formationCount 8 = .ok (.invokevirtual 206, 3) := by decide +kernel
theorem dX6_formationCount_11 : decode cX6_formationCount 11 = .ok (.ireturn, 1) := by decide +kernel
theorem dX6_formationCountByMerging_0 : decode cX6_formationCountByMerging 0 = .ok (.aload_n 0, 1) := by decide +kernel
theorem dX6_formationCountByMerging_1 : decode cX6_formationCountByMerging 1 = .ok (.getfield 36, 3) := by decide +kernel
theorem dX6_formationCountByMerging_4 : decode cX6_formationCountByMerging 4 = .ok (.aload_n 0, 1) := by decide +kernel
theorem dX6_formationCountByMerging_5 : decode cX6_formationCountByMerging 5 = .ok (.getfield 10, 3) := by decide +kernel
theorem dX6_formationCountByMerging_8 : decode cX6_formationCountByMerging 8 = .ok (.invokevirtual 210, 3) := by decide +kernel
theorem dX6_formationCountByMerging_11 : decode cX6_formationCountByMerging 11 = .ok (.ireturn, 1) := by decide +kernel
theorem dX6_largestFormation_0 : decode cX6_largestFormation 0 = .ok (.aload_n 0, 1) := by decide +kernel
theorem dX6_largestFormation_1 : decode cX6_largestFormation 1 = .ok (.getfield 36, 3) := by decide +kernel
theorem dX6_largestFormation_4 : decode cX6_largestFormation 4 = .ok (.aload_n 0, 1) := by decide +kernel
theorem dX6_largestFormation_5 : decode cX6_largestFormation 5 = .ok (.getfield 10, 3) := by decide +kernel
theorem dX6_largestFormation_8 : decode cX6_largestFormation 8 = .ok (.invokevirtual 213, 3) := by decide +kernel
theorem dX6_largestFormation_11 : decode cX6_largestFormation 11 = .ok (.ireturn, 1) := by decide +kernel
theorem dX6_formationOf_0 : decode cX6_formationOf 0 = .ok (.aload_n 0, 1) := by decide +kernel
theorem dX6_formationOf_1 : decode cX6_formationOf 1 = .ok (.iload_n 1, 1) := by decide +kernel
theorem dX6_formationOf_2 : decode cX6_formationOf 2 = .ok (.invokevirtual 85, 3) := by decide +kernel
theorem dX6_formationOf_5 : decode cX6_formationOf 5 = .ok (.aload_n 0, 1) := by decide +kernel
theorem dX6_formationOf_6 : decode cX6_formationOf 6 = .ok (.getfield 36, 3) := by decide +kernel
theorem dX6_formationOf_9 : decode cX6_formationOf 9 = .ok (.aload_n 0, 1) := by decide +kernel
theorem dX6_formationOf_10 : decode cX6_formationOf 10 = .ok (.getfield 10, 3) := by decide +kernel
theorem dX6_formationOf_13 : decode cX6_formationOf 13 = .ok (.iload_n 1, 1) := by decide +kernel
theorem dX6_formationOf_14 : decode cX6_formationOf 14 = .ok (.invokevirtual 216, 3) := by decide +kernel
theorem dX6_formationOf_17 : decode cX6_formationOf 17 = .ok (.ireturn, 1) := by decide +kernel
theorem dX6_mixedPairs_0 : decode cX6_mixedPairs 0 = .ok (.aload_n 0, 1) := by decide +kernel
theorem dX6_mixedPairs_1 : decode cX6_mixedPairs 1 = .ok (.getfield 10, 3) := by decide +kernel
theorem dX6_mixedPairs_4 : decode cX6_mixedPairs 4 = .ok (.invokevirtual 220, 3) := by decide +kernel
theorem dX6_mixedPairs_7 : decode cX6_mixedPairs 7 = .ok (.ireturn, 1) := by decide +kernel
theorem dX6_mixedPairsByHandles_0 : decode cX6_mixedPairsByHandles 0 = .ok (.aload_n 0, 1) := by decide +kernel
theorem dX6_mixedPairsByHandles_1 : decode cX6_mixedPairsByHandles 1 = .ok (.getfield 10, 3) := by decide +kernel
theorem dX6_mixedPairsByHandles_4 : decode cX6_mixedPairsByHandles 4 = .ok (.invokevirtual 224, 3) := by decide +kernel
theorem dX6_mixedPairsByHandles_7 : decode cX6_mixedPairsByHandles 7 = .ok (.ireturn, 1) := by decide +kernel
theorem dX6_shapeCount_0 : decode cX6_shapeCount 0 = .ok (.aload_n 0, 1) := by decide +kernel
theorem dX6_shapeCount_1 : decode cX6_shapeCount 1 = .ok (.getfield 10, 3) := by decide +kernel
theorem dX6_shapeCount_4 : decode cX6_shapeCount 4 = .ok (.getfield 227, 3) := by decide +kernel
theorem dX6_shapeCount_7 : decode cX6_shapeCount 7 = .ok (.getfield 231, 3) := by decide +kernel
theorem dX6_shapeCount_10 : decode cX6_shapeCount 10 = .ok (.ireturn, 1) := by decide +kernel
theorem dX6_differentShapes_0 : decode cX6_differentShapes 0 = .ok (.aload_n 0, 1) := by decide +kernel
theorem dX6_differentShapes_1 : decode cX6_differentShapes 1 = .ok (.getfield 10, 3) := by decide +kernel
theorem dX6_differentShapes_4 : decode cX6_differentShapes 4 = .ok (.getfield 227, 3) := by decide +kernel
theorem dX6_differentShapes_7 : decode cX6_differentShapes 7 = .ok (.invokevirtual 234, 3) := by decide +kernel
theorem dX6_differentShapes_10 : decode cX6_differentShapes 10 = .ok (.ireturn, 1) := by decide +kernel
theorem dX6_stepsSinceShape_0 : decode cX6_stepsSinceShape 0 = .ok (.aload_n 0, 1) := by decide +kernel
theorem dX6_stepsSinceShape_1 : decode cX6_stepsSinceShape 1 = .ok (.getfield 10, 3) := by decide +kernel
theorem dX6_stepsSinceShape_4 : decode cX6_stepsSinceShape 4 = .ok (.invokevirtual 237, 3) := by decide +kernel
theorem dX6_stepsSinceShape_7 : decode cX6_stepsSinceShape 7 = .ok (.istore_n 1, 1) := by decide +kernel
theorem dX6_stepsSinceShape_8 : decode cX6_stepsSinceShape 8 = .ok (.iload_n 1, 1) := by decide +kernel
theorem dX6_stepsSinceShape_9 : decode cX6_stepsSinceShape 9 = .ok (.iconst (-1), 1) := by decide +kernel
theorem dX6_stepsSinceShape_10 : decode cX6_stepsSinceShape 10 = .ok (.if_icmp .ne 13, 3) := by decide +kernel
theorem dX6_stepsSinceShape_13 : decode cX6_stepsSinceShape 13 = .ok (.new 106, 3) := by decide +kernel
theorem dX6_stepsSinceShape_16 : decode cX6_stepsSinceShape 16 = .ok (.dup, 1) := by decide +kernel
theorem dX6_stepsSinceShape_17 : decode cX6_stepsSinceShape 17 = .ok (.ldc 240, 2) := by decide +kernel
theorem dX6_stepsSinceShape_19 : decode cX6_stepsSinceShape 19 = .ok (.invokespecial 110, 3) := by decide +kernel
theorem dX6_stepsSinceShape_22 : decode cX6_stepsSinceShape 22 = .ok (.athrow, 1) := by decide +kernel
theorem dX6_stepsSinceShape_23 : decode cX6_stepsSinceShape 23 = .ok (.iload_n 1, 1) := by decide +kernel
theorem dX6_stepsSinceShape_24 : decode cX6_stepsSinceShape 24 = .ok (.ireturn, 1) := by decide +kernel
theorem dX6_basketAtRank_0 : decode cX6_basketAtRank 0 = .ok (.aload_n 0, 1) := by decide +kernel
theorem dX6_basketAtRank_1 : decode cX6_basketAtRank 1 = .ok (.getfield 10, 3) := by decide +kernel
theorem dX6_basketAtRank_4 : decode cX6_basketAtRank 4 = .ok (.iload_n 1, 1) := by decide +kernel
theorem dX6_basketAtRank_5 : decode cX6_basketAtRank 5 = .ok (.invokevirtual 242, 3) := by decide +kernel
theorem dX6_basketAtRank_8 : decode cX6_basketAtRank 8 = .ok (.istore_n 2, 1) := by decide +kernel
theorem dX6_basketAtRank_9 : decode cX6_basketAtRank 9 = .ok (.iload_n 2, 1) := by decide +kernel
theorem dX6_basketAtRank_10 : decode cX6_basketAtRank 10 = .ok (.iconst (-1), 1) := by decide +kernel
theorem dX6_basketAtRank_11 : decode cX6_basketAtRank 11 = .ok (.if_icmp .ne 13, 3) := by decide +kernel
theorem dX6_basketAtRank_14 : decode cX6_basketAtRank 14 = .ok (.new 106, 3) := by decide +kernel
theorem dX6_basketAtRank_17 : decode cX6_basketAtRank 17 = .ok (.dup, 1) := by decide +kernel
theorem dX6_basketAtRank_18 : decode cX6_basketAtRank 18 = .ok (.ldc 245, 2) := by decide +kernel
theorem dX6_basketAtRank_20 : decode cX6_basketAtRank 20 = .ok (.invokespecial 110, 3) := by decide +kernel
theorem dX6_basketAtRank_23 : decode cX6_basketAtRank 23 = .ok (.athrow, 1) := by decide +kernel
theorem dX6_basketAtRank_24 : decode cX6_basketAtRank 24 = .ok (.iload_n 2, 1) := by decide +kernel
theorem dX6_basketAtRank_25 : decode cX6_basketAtRank 25 = .ok (.ireturn, 1) := by decide +kernel
theorem dX6_describeRow_0 : decode cX6_describeRow 0 = .ok (.aload_n 0, 1) := by decide +kernel
theorem dX6_describeRow_1 : decode cX6_describeRow 1 = .ok (.iconst 0, 1) := by decide +kernel
theorem dX6_describeRow_2 : decode cX6_describeRow 2 = .ok (.iload_n 1, 1) := by decide +kernel
theorem dX6_describeRow_3 : decode cX6_describeRow 3 = .ok (.invokevirtual 99, 3) := by decide +kernel
theorem dX6_describeRow_6 : decode cX6_describeRow 6 = .ok (.iconst 0, 1) := by decide +kernel
theorem dX6_describeRow_7 : decode cX6_describeRow 7 = .ok (.istore_n 2, 1) := by decide +kernel
theorem dX6_describeRow_8 : decode cX6_describeRow 8 = .ok (.iload_n 2, 1) := by decide +kernel
theorem dX6_describeRow_9 : decode cX6_describeRow 9 = .ok (.bipush 12, 2) := by decide +kernel
theorem dX6_describeRow_11 : decode cX6_describeRow 11 = .ok (.if_icmp .ge 24, 3) := by decide +kernel
theorem dX6_describeRow_14 : decode cX6_describeRow 14 = .ok (.aload_n 0, 1) := by decide +kernel
theorem dX6_describeRow_15 : decode cX6_describeRow 15 = .ok (.getfield 60, 3) := by decide +kernel
theorem dX6_describeRow_18 : decode cX6_describeRow 18 = .ok (.iload_n 2, 1) := by decide +kernel
theorem dX6_describeRow_19 : decode cX6_describeRow 19 = .ok (.aload_n 0, 1) := by decide +kernel
theorem dX6_describeRow_20 : decode cX6_describeRow 20 = .ok (.getfield 10, 3) := by decide +kernel
theorem dX6_describeRow_23 : decode cX6_describeRow 23 = .ok (.iload_n 2, 1) := by decide +kernel
theorem dX6_describeRow_24 : decode cX6_describeRow 24 = .ok (.iload_n 1, 1) := by decide +kernel
theorem dX6_describeRow_25 : decode cX6_describeRow 25 = .ok (.invokevirtual 297, 3) := by decide +kernel
theorem dX6_describeRow_28 : decode cX6_describeRow 28 = .ok (.castore, 1) := by decide +kernel
theorem dX6_describeRow_29 : decode cX6_describeRow 29 = .ok (.iinc 2 1, 3) := by decide +kernel
theorem dX6_describeRow_32 : decode cX6_describeRow 32 = .ok (.goto (-24), 3) := by decide +kernel
theorem dX6_describeRow_35 : decode cX6_describeRow 35 = .ok (.aload_n 0, 1) := by decide +kernel
theorem dX6_describeRow_36 : decode cX6_describeRow 36 = .ok (.bipush 12, 2) := by decide +kernel
theorem dX6_describeRow_38 : decode cX6_describeRow 38 = .ok (.putfield 64, 3) := by decide +kernel
theorem dX6_describeRow_41 : decode cX6_describeRow 41 = .ok (.aload_n 0, 1) := by decide +kernel
theorem dX6_describeRow_42 : decode cX6_describeRow 42 = .ok (.getfield 64, 3) := by decide +kernel
theorem dX6_describeRow_45 : decode cX6_describeRow 45 = .ok (.ireturn, 1) := by decide +kernel
theorem dX6_lineAt_0 : decode cX6_lineAt 0 = .ok (.iload_n 1, 1) := by decide +kernel
theorem dX6_lineAt_1 : decode cX6_lineAt 1 = .ok (.ifCond .lt 11, 3) := by decide +kernel
theorem dX6_lineAt_4 : decode cX6_lineAt 4 = .ok (.iload_n 1, 1) := by decide +kernel
theorem dX6_lineAt_5 : decode cX6_lineAt 5 = .ok (.aload_n 0, 1) := by decide +kernel
theorem dX6_lineAt_6 : decode cX6_lineAt 6 = .ok (.getfield 64, 3) := by decide +kernel
theorem dX6_lineAt_9 : decode cX6_lineAt 9 = .ok (.if_icmp .lt 14, 3) := by decide +kernel
theorem dX6_lineAt_12 : decode cX6_lineAt 12 = .ok (.new 301, 3) := by decide +kernel
theorem dX6_lineAt_15 : decode cX6_lineAt 15 = .ok (.dup, 1) := by decide +kernel
theorem dX6_lineAt_16 : decode cX6_lineAt 16 = .ok (.ldc_w 303, 3) := by decide +kernel
theorem dX6_lineAt_19 : decode cX6_lineAt 19 = .ok (.invokespecial 305, 3) := by decide +kernel
theorem dX6_lineAt_22 : decode cX6_lineAt 22 = .ok (.athrow, 1) := by decide +kernel
theorem dX6_lineAt_23 : decode cX6_lineAt 23 = .ok (.aload_n 0, 1) := by decide +kernel
theorem dX6_lineAt_24 : decode cX6_lineAt 24 = .ok (.getfield 60, 3) := by decide +kernel
theorem dX6_lineAt_27 : decode cX6_lineAt 27 = .ok (.iload_n 1, 1) := by decide +kernel
theorem dX6_lineAt_28 : decode cX6_lineAt 28 = .ok (.caload, 1) := by decide +kernel
theorem dX6_lineAt_29 : decode cX6_lineAt 29 = .ok (.ireturn, 1) := by decide +kernel
theorem dX6_meanDistance_0 : decode cX6_meanDistance 0 = .ok (.aload_n 0, 1) := by decide +kernel
theorem dX6_meanDistance_1 : decode cX6_meanDistance 1 = .ok (.getfield 10, 3) := by decide +kernel
theorem dX6_meanDistance_4 : decode cX6_meanDistance 4 = .ok (.getfield 82, 3) := by decide +kernel
theorem dX6_meanDistance_7 : decode cX6_meanDistance 7 = .ok (.iconst 1, 1) := by decide +kernel
theorem dX6_meanDistance_8 : decode cX6_meanDistance 8 = .ok (.isub, 1) := by decide +kernel
theorem dX6_meanDistance_9 : decode cX6_meanDistance 9 = .ok (.istore_n 1, 1) := by decide +kernel
theorem dX6_meanDistance_10 : decode cX6_meanDistance 10 = .ok (.iload_n 1, 1) := by decide +kernel
theorem dX6_meanDistance_11 : decode cX6_meanDistance 11 = .ok (.iconst 1, 1) := by decide +kernel
theorem dX6_meanDistance_12 : decode cX6_meanDistance 12 = .ok (.if_icmp .ge 14, 3) := by decide +kernel
theorem dX6_meanDistance_15 : decode cX6_meanDistance 15 = .ok (.new 306, 3) := by decide +kernel
theorem dX6_meanDistance_18 : decode cX6_meanDistance 18 = .ok (.dup, 1) := by decide +kernel
theorem dX6_meanDistance_19 : decode cX6_meanDistance 19 = .ok (.ldc_w 308, 3) := by decide +kernel
theorem dX6_meanDistance_22 : decode cX6_meanDistance 22 = .ok (.invokespecial 310, 3) := by decide +kernel
theorem dX6_meanDistance_25 : decode cX6_meanDistance 25 = .ok (.athrow, 1) := by decide +kernel
theorem dX6_meanDistance_26 : decode cX6_meanDistance 26 = .ok (.aload_n 0, 1) := by decide +kernel
theorem dX6_meanDistance_27 : decode cX6_meanDistance 27 = .ok (.getfield 10, 3) := by decide +kernel
theorem dX6_meanDistance_30 : decode cX6_meanDistance 30 = .ok (.invokevirtual 311, 3) := by decide +kernel
theorem dX6_meanDistance_33 : decode cX6_meanDistance 33 = .ok (.i2d, 1) := by decide +kernel
theorem dX6_meanDistance_34 : decode cX6_meanDistance 34 = .ok (.iload_n 1, 1) := by decide +kernel
theorem dX6_meanDistance_35 : decode cX6_meanDistance 35 = .ok (.i2d, 1) := by decide +kernel
theorem dX6_meanDistance_36 : decode cX6_meanDistance 36 = .ok (.ddiv, 1) := by decide +kernel
theorem dX6_meanDistance_37 : decode cX6_meanDistance 37 = .ok (.dreturn, 1) := by decide +kernel
theorem dX6_mixedShare_0 : decode cX6_mixedShare 0 = .ok (.aload_n 0, 1) := by decide +kernel
theorem dX6_mixedShare_1 : decode cX6_mixedShare 1 = .ok (.getfield 10, 3) := by decide +kernel
theorem dX6_mixedShare_4 : decode cX6_mixedShare 4 = .ok (.invokevirtual 314, 3) := by decide +kernel
theorem dX6_mixedShare_7 : decode cX6_mixedShare 7 = .ok (.istore_n 1, 1) := by decide +kernel
theorem dX6_mixedShare_8 : decode cX6_mixedShare 8 = .ok (.iload_n 1, 1) := by decide +kernel
theorem dX6_mixedShare_9 : decode cX6_mixedShare 9 = .ok (.iconst 1, 1) := by decide +kernel
theorem dX6_mixedShare_10 : decode cX6_mixedShare 10 = .ok (.if_icmp .ge 14, 3) := by decide +kernel
theorem dX6_mixedShare_13 : decode cX6_mixedShare 13 = .ok (.new 306, 3) := by decide +kernel
theorem dX6_mixedShare_16 : decode cX6_mixedShare 16 = .ok (.dup, 1) := by decide +kernel
theorem dX6_mixedShare_17 : decode cX6_mixedShare 17 = .ok (.ldc_w 317, 3) := by decide +kernel
theorem dX6_mixedShare_20 : decode cX6_mixedShare 20 = .ok (.invokespecial 310, 3) := by decide +kernel
theorem dX6_mixedShare_23 : decode cX6_mixedShare 23 = .ok (.athrow, 1) := by decide +kernel
theorem dX6_mixedShare_24 : decode cX6_mixedShare 24 = .ok (.aload_n 0, 1) := by decide +kernel
theorem dX6_mixedShare_25 : decode cX6_mixedShare 25 = .ok (.getfield 10, 3) := by decide +kernel
theorem dX6_mixedShare_28 : decode cX6_mixedShare 28 = .ok (.invokevirtual 220, 3) := by decide +kernel
theorem dX6_mixedShare_31 : decode cX6_mixedShare 31 = .ok (.i2f, 1) := by decide +kernel
theorem dX6_mixedShare_32 : decode cX6_mixedShare 32 = .ok (.iload_n 1, 1) := by decide +kernel
theorem dX6_mixedShare_33 : decode cX6_mixedShare 33 = .ok (.i2f, 1) := by decide +kernel
theorem dX6_mixedShare_34 : decode cX6_mixedShare 34 = .ok (.fdiv, 1) := by decide +kernel
theorem dX6_mixedShare_35 : decode cX6_mixedShare 35 = .ok (.freturn, 1) := by decide +kernel
theorem dX6_isConsistent_0 : decode cX6_isConsistent 0 = .ok (.aload_n 0, 1) := by decide +kernel
theorem dX6_isConsistent_1 : decode cX6_isConsistent 1 = .ok (.getfield 10, 3) := by decide +kernel
theorem dX6_isConsistent_4 : decode cX6_isConsistent 4 = .ok (.invokevirtual 319, 3) := by decide +kernel
theorem dX6_isConsistent_7 : decode cX6_isConsistent 7 = .ok (.ifCond .eq 56, 3) := by decide +kernel
theorem dX6_isConsistent_10 : decode cX6_isConsistent 10 = .ok (.aload_n 0, 1) := by decide +kernel
theorem dX6_isConsistent_11 : decode cX6_isConsistent 11 = .ok (.getfield 36, 3) := by decide +kernel
theorem dX6_isConsistent_14 : decode cX6_isConsistent 14 = .ok (.aload_n 0, 1) := by decide +kernel
theorem dX6_isConsistent_15 : decode cX6_isConsistent 15 = .ok (.getfield 10, 3) := by decide +kernel
theorem dX6_isConsistent_18 : decode cX6_isConsistent 18 = .ok (.invokevirtual 206, 3) := by decide +kernel
theorem dX6_isConsistent_21 : decode cX6_isConsistent 21 = .ok (.aload_n 0, 1) := by decide +kernel
theorem dX6_isConsistent_22 : decode cX6_isConsistent 22 = .ok (.getfield 36, 3) := by decide +kernel
theorem dX6_isConsistent_25 : decode cX6_isConsistent 25 = .ok (.aload_n 0, 1) := by decide +kernel
theorem dX6_isConsistent_26 : decode cX6_isConsistent 26 = .ok (.getfield 10, 3) := by decide +kernel
theorem dX6_isConsistent_29 : decode cX6_isConsistent 29 = .ok (.invokevirtual 210, 3) := by decide +kernel
theorem dX6_isConsistent_32 : decode cX6_isConsistent 32 = .ok (.if_icmp .ne 31, 3) := by decide +kernel
theorem dX6_isConsistent_35 : decode cX6_isConsistent 35 = .ok (.aload_n 0, 1) := by decide +kernel
theorem dX6_isConsistent_36 : decode cX6_isConsistent 36 = .ok (.getfield 10, 3) := by decide +kernel
theorem dX6_isConsistent_39 : decode cX6_isConsistent 39 = .ok (.invokevirtual 220, 3) := by decide +kernel
theorem dX6_isConsistent_42 : decode cX6_isConsistent 42 = .ok (.aload_n 0, 1) := by decide +kernel
theorem dX6_isConsistent_43 : decode cX6_isConsistent 43 = .ok (.getfield 10, 3) := by decide +kernel
theorem dX6_isConsistent_46 : decode cX6_isConsistent 46 = .ok (.invokevirtual 224, 3) := by decide +kernel
theorem dX6_isConsistent_49 : decode cX6_isConsistent 49 = .ok (.if_icmp .ne 14, 3) := by decide +kernel
theorem dX6_isConsistent_52 : decode cX6_isConsistent 52 = .ok (.aload_n 0, 1) := by decide +kernel
theorem dX6_isConsistent_53 : decode cX6_isConsistent 53 = .ok (.invokevirtual 322, 3) := by decide +kernel
theorem dX6_isConsistent_56 : decode cX6_isConsistent 56 = .ok (.ifCond .eq 7, 3) := by decide +kernel
theorem dX6_isConsistent_59 : decode cX6_isConsistent 59 = .ok (.iconst 1, 1) := by decide +kernel
theorem dX6_isConsistent_60 : decode cX6_isConsistent 60 = .ok (.goto 4, 3) := by decide +kernel
theorem dX6_isConsistent_63 : decode cX6_isConsistent 63 = .ok (.iconst 0, 1) := by decide +kernel
theorem dX6_isConsistent_64 : decode cX6_isConsistent 64 = .ok (.ireturn, 1) := by decide +kernel
theorem dX6_prepare_0 : decode cX6_prepare 0 = .ok (.aload_n 0, 1) := by decide +kernel
theorem dX6_prepare_1 : decode cX6_prepare 1 = .ok (.aload_n 0, 1) := by decide +kernel
theorem dX6_prepare_2 : decode cX6_prepare 2 = .ok (.getfield 10, 3) := by decide +kernel
theorem dX6_prepare_5 : decode cX6_prepare 5 = .ok (.iload_n 1, 1) := by decide +kernel
theorem dX6_prepare_6 : decode cX6_prepare 6 = .ok (.iload_n 2, 1) := by decide +kernel
theorem dX6_prepare_7 : decode cX6_prepare 7 = .ok (.iload_n 3, 1) := by decide +kernel
theorem dX6_prepare_8 : decode cX6_prepare 8 = .ok (.iload 4, 2) := by decide +kernel
theorem dX6_prepare_10 : decode cX6_prepare 10 = .ok (.invokevirtual 280, 3) := by decide +kernel
theorem dX6_prepare_13 : decode cX6_prepare 13 = .ok (.invokestatic 336, 3) := by decide +kernel
theorem dX6_prepare_16 : decode cX6_prepare 16 = .ok (.aload_n 0, 1) := by decide +kernel
theorem dX6_prepare_17 : decode cX6_prepare 17 = .ok (.getfield 29, 3) := by decide +kernel
theorem dX6_prepare_20 : decode cX6_prepare 20 = .ok (.aload_n 0, 1) := by decide +kernel
theorem dX6_prepare_21 : decode cX6_prepare 21 = .ok (.getfield 10, 3) := by decide +kernel
theorem dX6_prepare_24 : decode cX6_prepare 24 = .ok (.invokevirtual 290, 3) := by decide +kernel
theorem dX6_prepare_27 : decode cX6_prepare 27 = .ok (.return_, 1) := by decide +kernel
theorem dX6_hindranceIn_0 : decode cX6_hindranceIn 0 = .ok (.aload_n 1, 1) := by decide +kernel
theorem dX6_hindranceIn_1 : decode cX6_hindranceIn 1 = .ok (.iload_n 2, 1) := by decide +kernel
theorem dX6_hindranceIn_2 : decode cX6_hindranceIn 2 = .ok (.iload_n 3, 1) := by decide +kernel
theorem dX6_hindranceIn_3 : decode cX6_hindranceIn 3 = .ok (.iload 4, 2) := by decide +kernel
theorem dX6_hindranceIn_5 : decode cX6_hindranceIn 5 = .ok (.iload 5, 2) := by decide +kernel
theorem dX6_hindranceIn_7 : decode cX6_hindranceIn 7 = .ok (.invokevirtual 339, 3) := by decide +kernel
theorem dX6_hindranceIn_10 : decode cX6_hindranceIn 10 = .ok (.istore 6, 2) := by decide +kernel
theorem dX6_hindranceIn_12 : decode cX6_hindranceIn 12 = .ok (.iload 6, 2) := by decide +kernel
theorem dX6_hindranceIn_14 : decode cX6_hindranceIn 14 = .ok (.bipush 6, 2) := by decide +kernel
theorem dX6_hindranceIn_16 : decode cX6_hindranceIn 16 = .ok (.if_icmp .ne 14, 3) := by decide +kernel
theorem dX6_hindranceIn_19 : decode cX6_hindranceIn 19 = .ok (.aload_n 0, 1) := by decide +kernel
theorem dX6_hindranceIn_20 : decode cX6_hindranceIn 20 = .ok (.aload_n 1, 1) := by decide +kernel
theorem dX6_hindranceIn_21 : decode cX6_hindranceIn 21 = .ok (.iload_n 2, 1) := by decide +kernel
theorem dX6_hindranceIn_22 : decode cX6_hindranceIn 22 = .ok (.iload_n 3, 1) := by decide +kernel
theorem dX6_hindranceIn_23 : decode cX6_hindranceIn 23 = .ok (.iload 4, 2) := by decide +kernel
theorem dX6_hindranceIn_25 : decode cX6_hindranceIn 25 = .ok (.iload 5, 2) := by decide +kernel
theorem dX6_hindranceIn_27 : decode cX6_hindranceIn 27 = .ok (.invokevirtual 342, 3) := by decide +kernel
theorem dX6_hindranceIn_30 : decode cX6_hindranceIn 30 = .ok (.iload 6, 2) := by decide +kernel
theorem dX6_hindranceIn_32 : decode cX6_hindranceIn 32 = .ok (.ireturn, 1) := by decide +kernel
theorem dX6_keepRefusal_0 : decode cX6_keepRefusal 0 = .ok (.iload_n 2, 1) := by decide +kernel
theorem dX6_keepRefusal_1 : decode cX6_keepRefusal 1 = .ok (.iconst 1, 1) := by decide +kernel
theorem dX6_keepRefusal_2 : decode cX6_keepRefusal 2 = .ok (.if_icmp .ne 7, 3) := by decide +kernel
theorem dX6_keepRefusal_5 : decode cX6_keepRefusal 5 = .ok (.iload_n 3, 1) := by decide +kernel
theorem dX6_keepRefusal_6 : decode cX6_keepRefusal 6 = .ok (.goto 4, 3) := by decide +kernel
theorem dX6_keepRefusal_9 : decode cX6_keepRefusal 9 = .ok (.iconst (-1), 1) := by decide +kernel
theorem dX6_keepRefusal_10 : decode cX6_keepRefusal 10 = .ok (.istore 6, 2) := by decide +kernel
theorem dX6_keepRefusal_12 : decode cX6_keepRefusal 12 = .ok (.iload_n 2, 1) := by decide +kernel
theorem dX6_keepRefusal_13 : decode cX6_keepRefusal 13 = .ok (.iconst 1, 1) := by decide +kernel
theorem dX6_keepRefusal_14 : decode cX6_keepRefusal 14 = .ok (.if_icmp .ne 8, 3) := by decide +kernel
theorem dX6_keepRefusal_17 : decode cX6_keepRefusal 17 = .ok (.iload 4, 2) := by decide +kernel
theorem dX6_keepRefusal_19 : decode cX6_keepRefusal 19 = .ok (.goto 4, 3) := by decide +kernel
theorem dX6_keepRefusal_22 : decode cX6_keepRefusal 22 = .ok (.iload_n 3, 1) := by decide +kernel
theorem dX6_keepRefusal_23 : decode cX6_keepRefusal 23 = .ok (.istore 7, 2) := by decide +kernel
theorem dX6_keepRefusal_25 : decode cX6_keepRefusal 25 = .ok (.iload_n 2, 1) := by decide +kernel
theorem dX6_keepRefusal_26 : decode cX6_keepRefusal 26 = .ok (.iconst 1, 1) := by decide +kernel
theorem dX6_keepRefusal_27 : decode cX6_keepRefusal 27 = .ok (.if_icmp .ne 8, 3) := by decide +kernel
theorem dX6_keepRefusal_30 : decode cX6_keepRefusal 30 = .ok (.iload 5, 2) := by decide +kernel
theorem dX6_keepRefusal_32 : decode cX6_keepRefusal 32 = .ok (.goto 5, 3) := by decide +kernel
theorem dX6_keepRefusal_35 : decode cX6_keepRefusal 35 = .ok (.iload 4, 2) := by decide +kernel
theorem dX6_keepRefusal_37 : decode cX6_keepRefusal 37 = .ok (.istore 8, 2) := by decide +kernel
theorem dX6_keepRefusal_39 : decode cX6_keepRefusal 39 = .ok (.aload_n 1, 1) := by decide +kernel
theorem dX6_keepRefusal_40 : decode cX6_keepRefusal 40 = .ok (.getfield 125, 3) := by decide +kernel
theorem dX6_keepRefusal_43 : decode cX6_keepRefusal 43 = .ok (.iload 7, 2) := by decide +kernel
theorem dX6_keepRefusal_45 : decode cX6_keepRefusal 45 = .ok (.iload 8, 2) := by decide +kernel
theorem dX6_keepRefusal_47 : decode cX6_keepRefusal 47 = .ok (.invokevirtual 136, 3) := by decide +kernel
theorem dX6_keepRefusal_50 : decode cX6_keepRefusal 50 = .ok (.ifCond .eq 22, 3) := by decide +kernel
theorem dX6_keepRefusal_53 : decode cX6_keepRefusal 53 = .ok (.aload_n 0, 1) := by decide +kernel
theorem dX6_keepRefusal_54 : decode cX6_keepRefusal 54 = .ok (.iconst 1, 1) := by decide +kernel
theorem dX6_keepRefusal_55 : decode cX6_keepRefusal 55 = .ok (.putfield 54, 3) := by decide +kernel
theorem dX6_keepRefusal_58 : decode cX6_keepRefusal 58 = .ok (.aload_n 0, 1) := by decide +kernel
theorem dX6_keepRefusal_59 : decode cX6_keepRefusal 59 = .ok (.aload_n 1, 1) := by decide +kernel
theorem dX6_keepRefusal_60 : decode cX6_keepRefusal 60 = .ok (.getfield 125, 3) := by decide +kernel
theorem dX6_keepRefusal_63 : decode cX6_keepRefusal 63 = .ok (.getfield 140, 3) := by decide +kernel
theorem dX6_keepRefusal_66 : decode cX6_keepRefusal 66 = .ok (.putfield 57, 3) := by decide +kernel
theorem dX6_keepRefusal_69 : decode cX6_keepRefusal 69 = .ok (.goto 22, 3) := by decide +kernel
theorem dX6_keepRefusal_72 : decode cX6_keepRefusal 72 = .ok (.aload_n 0, 1) := by decide +kernel
theorem dX6_keepRefusal_73 : decode cX6_keepRefusal 73 = .ok (.iconst 2, 1) := by decide +kernel
theorem dX6_keepRefusal_74 : decode cX6_keepRefusal 74 = .ok (.putfield 54, 3) := by decide +kernel
theorem dX6_keepRefusal_77 : decode cX6_keepRefusal 77 = .ok (.aload_n 0, 1) := by decide +kernel
theorem dX6_keepRefusal_78 : decode cX6_keepRefusal 78 = .ok (.aload_n 1, 1) := by decide +kernel
theorem dX6_keepRefusal_79 : decode cX6_keepRefusal 79 = .ok (.iload 6, 2) := by decide +kernel
theorem dX6_keepRefusal_81 : decode cX6_keepRefusal 81 = .ok (.iload 7, 2) := by decide +kernel
theorem dX6_keepRefusal_83 : decode cX6_keepRefusal 83 = .ok (.iload 8, 2) := by decide +kernel
theorem dX6_keepRefusal_85 : decode cX6_keepRefusal 85 = .ok (.invokevirtual 346, 3) := by decide +kernel
theorem dX6_keepRefusal_88 : decode cX6_keepRefusal 88 = .ok (.putfield 57, 3) := by decide +kernel
theorem dX6_keepRefusal_91 : decode cX6_keepRefusal 91 = .ok (.return_, 1) := by decide +kernel
theorem dX6_throwFor_0 : decode cX6_throwFor 0 = .ok (.iload_n 0, 1) := by decide +kernel
theorem dX6_throwFor_1 : decode cX6_throwFor 1 = .ok (.tableswitch 105 1 6 #[39, 50, 61, 72, 83, 94], 39) := by decide +kernel
theorem dX6_throwFor_40 : decode cX6_throwFor 40 = .ok (.new 301, 3) := by decide +kernel
theorem dX6_throwFor_43 : decode cX6_throwFor 43 = .ok (.dup, 1) := by decide +kernel
theorem dX6_throwFor_44 : decode cX6_throwFor 44 = .ok (.ldc_w 349, 3) := by decide +kernel
theorem dX6_throwFor_47 : decode cX6_throwFor 47 = .ok (.invokespecial 305, 3) := by decide +kernel
theorem dX6_throwFor_50 : decode cX6_throwFor 50 = .ok (.athrow, 1) := by decide +kernel
theorem dX6_throwFor_51 : decode cX6_throwFor 51 = .ok (.new 247, 3) := by decide +kernel
theorem dX6_throwFor_54 : decode cX6_throwFor 54 = .ok (.dup, 1) := by decide +kernel
theorem dX6_throwFor_55 : decode cX6_throwFor 55 = .ok (.ldc_w 351, 3) := by decide +kernel
theorem dX6_throwFor_58 : decode cX6_throwFor 58 = .ok (.invokespecial 251, 3) := by decide +kernel
theorem dX6_throwFor_61 : decode cX6_throwFor 61 = .ok (.athrow, 1) := by decide +kernel
theorem dX6_throwFor_62 : decode cX6_throwFor 62 = .ok (.new 255, 3) := by decide +kernel
theorem dX6_throwFor_65 : decode cX6_throwFor 65 = .ok (.dup, 1) := by decide +kernel
theorem dX6_throwFor_66 : decode cX6_throwFor 66 = .ok (.ldc_w 353, 3) := by decide +kernel
theorem dX6_throwFor_69 : decode cX6_throwFor 69 = .ok (.invokespecial 259, 3) := by decide +kernel
theorem dX6_throwFor_72 : decode cX6_throwFor 72 = .ok (.athrow, 1) := by decide +kernel
theorem dX6_throwFor_73 : decode cX6_throwFor 73 = .ok (.new 106, 3) := by decide +kernel
theorem dX6_throwFor_76 : decode cX6_throwFor 76 = .ok (.dup, 1) := by decide +kernel
theorem dX6_throwFor_77 : decode cX6_throwFor 77 = .ok (.ldc_w 355, 3) := by decide +kernel
theorem dX6_throwFor_80 : decode cX6_throwFor 80 = .ok (.invokespecial 110, 3) := by decide +kernel
theorem dX6_throwFor_83 : decode cX6_throwFor 83 = .ok (.athrow, 1) := by decide +kernel
theorem dX6_throwFor_84 : decode cX6_throwFor 84 = .ok (.new 357, 3) := by decide +kernel
theorem dX6_throwFor_87 : decode cX6_throwFor 87 = .ok (.dup, 1) := by decide +kernel
theorem dX6_throwFor_88 : decode cX6_throwFor 88 = .ok (.ldc_w 359, 3) := by decide +kernel
theorem dX6_throwFor_91 : decode cX6_throwFor 91 = .ok (.invokespecial 361, 3) := by decide +kernel
theorem dX6_throwFor_94 : decode cX6_throwFor 94 = .ok (.athrow, 1) := by decide +kernel
theorem dX6_throwFor_95 : decode cX6_throwFor 95 = .ok (.new 357, 3) := by decide +kernel
theorem dX6_throwFor_98 : decode cX6_throwFor 98 = .ok (.dup, 1) := by decide +kernel
theorem dX6_throwFor_99 : decode cX6_throwFor 99 = .ok (.ldc_w 362, 3) := by decide +kernel
theorem dX6_throwFor_102 : decode cX6_throwFor 102 = .ok (.invokespecial 361, 3) := by decide +kernel
theorem dX6_throwFor_105 : decode cX6_throwFor 105 = .ok (.athrow, 1) := by decide +kernel
theorem dX6_throwFor_106 : decode cX6_throwFor 106 = .ok (.return_, 1) := by decide +kernel
theorem dX6_demandBasket_0 : decode cX6_demandBasket 0 = .ok (.aload_n 0, 1) := by decide +kernel
theorem dX6_demandBasket_1 : decode cX6_demandBasket 1 = .ok (.getfield 10, 3) := by decide +kernel
theorem dX6_demandBasket_4 : decode cX6_demandBasket 4 = .ok (.iload_n 1, 1) := by decide +kernel
theorem dX6_demandBasket_5 : decode cX6_demandBasket 5 = .ok (.invokevirtual 364, 3) := by decide +kernel
theorem dX6_demandBasket_8 : decode cX6_demandBasket 8 = .ok (.ifCond .ne 14, 3) := by decide +kernel
theorem dX6_demandBasket_11 : decode cX6_demandBasket 11 = .ok (.new 301, 3) := by decide +kernel
theorem dX6_demandBasket_14 : decode cX6_demandBasket 14 = .ok (.dup, 1) := by decide +kernel
theorem dX6_demandBasket_15 : decode cX6_demandBasket 15 = .ok (.ldc_w 349, 3) := by decide +kernel
theorem dX6_demandBasket_18 : decode cX6_demandBasket 18 = .ok (.invokespecial 305, 3) := by decide +kernel
theorem dX6_demandBasket_21 : decode cX6_demandBasket 21 = .ok (.athrow, 1) := by decide +kernel
theorem dX6_demandBasket_22 : decode cX6_demandBasket 22 = .ok (.return_, 1) := by decide +kernel
theorem dX6_demandAnyBasket_0 : decode cX6_demandAnyBasket 0 = .ok (.aload_n 0, 1) := by decide +kernel
theorem dX6_demandAnyBasket_1 : decode cX6_demandAnyBasket 1 = .ok (.getfield 10, 3) := by decide +kernel
theorem dX6_demandAnyBasket_4 : decode cX6_demandAnyBasket 4 = .ok (.getfield 82, 3) := by decide +kernel
theorem dX6_demandAnyBasket_7 : decode cX6_demandAnyBasket 7 = .ok (.iconst 1, 1) := by decide +kernel
theorem dX6_demandAnyBasket_8 : decode cX6_demandAnyBasket 8 = .ok (.if_icmp .ge 14, 3) := by decide +kernel
theorem dX6_demandAnyBasket_11 : decode cX6_demandAnyBasket 11 = .ok (.new 106, 3) := by decide +kernel
theorem dX6_demandAnyBasket_14 : decode cX6_demandAnyBasket 14 = .ok (.dup, 1) := by decide +kernel
theorem dX6_demandAnyBasket_15 : decode cX6_demandAnyBasket 15 = .ok (.ldc_w 368, 3) := by decide +kernel
theorem dX6_demandAnyBasket_18 : decode cX6_demandAnyBasket 18 = .ok (.invokespecial 110, 3) := by decide +kernel
theorem dX6_demandAnyBasket_21 : decode cX6_demandAnyBasket 21 = .ok (.athrow, 1) := by decide +kernel
theorem dX6_demandAnyBasket_22 : decode cX6_demandAnyBasket 22 = .ok (.return_, 1) := by decide +kernel
theorem dX6_demandCell_0 : decode cX6_demandCell 0 = .ok (.iload_n 1, 1) := by decide +kernel
theorem dX6_demandCell_1 : decode cX6_demandCell 1 = .ok (.iload_n 2, 1) := by decide +kernel
theorem dX6_demandCell_2 : decode cX6_demandCell 2 = .ok (.invokestatic 370, 3) := by decide +kernel
theorem dX6_demandCell_5 : decode cX6_demandCell 5 = .ok (.ifCond .ne 14, 3) := by decide +kernel
theorem dX6_demandCell_8 : decode cX6_demandCell 8 = .ok (.new 247, 3) := by decide +kernel
theorem dX6_demandCell_11 : decode cX6_demandCell 11 = .ok (.dup, 1) := by decide +kernel
theorem dX6_demandCell_12 : decode cX6_demandCell 12 = .ok (.ldc_w 373, 3) := by decide +kernel
theorem dX6_demandCell_15 : decode cX6_demandCell 15 = .ok (.invokespecial 251, 3) := by decide +kernel
theorem dX6_demandCell_18 : decode cX6_demandCell 18 = .ok (.athrow, 1) := by decide +kernel
theorem dX6_demandCell_19 : decode cX6_demandCell 19 = .ok (.return_, 1) := by decide +kernel
theorem dX6_demandStepsAhead_0 : decode cX6_demandStepsAhead 0 = .ok (.iload_n 1, 1) := by decide +kernel
theorem dX6_demandStepsAhead_1 : decode cX6_demandStepsAhead 1 = .ok (.ifCond .lt 9, 3) := by decide +kernel
theorem dX6_demandStepsAhead_4 : decode cX6_demandStepsAhead 4 = .ok (.iload_n 1, 1) := by decide +kernel
theorem dX6_demandStepsAhead_5 : decode cX6_demandStepsAhead 5 = .ok (.bipush 99, 2) := by decide +kernel
theorem dX6_demandStepsAhead_7 : decode cX6_demandStepsAhead 7 = .ok (.if_icmp .le 14, 3) := by decide +kernel
theorem dX6_demandStepsAhead_10 : decode cX6_demandStepsAhead 10 = .ok (.new 247, 3) := by decide +kernel
theorem dX6_demandStepsAhead_13 : decode cX6_demandStepsAhead 13 = .ok (.dup, 1) := by decide +kernel
theorem dX6_demandStepsAhead_14 : decode cX6_demandStepsAhead 14 = .ok (.ldc_w 375, 3) := by decide +kernel
theorem dX6_demandStepsAhead_17 : decode cX6_demandStepsAhead 17 = .ok (.invokespecial 251, 3) := by decide +kernel
theorem dX6_demandStepsAhead_20 : decode cX6_demandStepsAhead 20 = .ok (.athrow, 1) := by decide +kernel
theorem dX6_demandStepsAhead_21 : decode cX6_demandStepsAhead 21 = .ok (.return_, 1) := by decide +kernel
theorem dX6_leadersAgree_0 : decode cX6_leadersAgree 0 = .ok (.iconst 0, 1) := by decide +kernel
theorem dX6_leadersAgree_1 : decode cX6_leadersAgree 1 = .ok (.istore_n 1, 1) := by decide +kernel
theorem dX6_leadersAgree_2 : decode cX6_leadersAgree 2 = .ok (.iload_n 1, 1) := by decide +kernel
theorem dX6_leadersAgree_3 : decode cX6_leadersAgree 3 = .ok (.bipush 20, 2) := by decide +kernel
theorem dX6_leadersAgree_5 : decode cX6_leadersAgree 5 = .ok (.if_icmp .gt 30, 3) := by decide +kernel
theorem dX6_leadersAgree_8 : decode cX6_leadersAgree 8 = .ok (.aload_n 0, 1) := by decide +kernel
theorem dX6_leadersAgree_9 : decode cX6_leadersAgree 9 = .ok (.getfield 10, 3) := by decide +kernel
theorem dX6_leadersAgree_12 : decode cX6_leadersAgree 12 = .ok (.iload_n 1, 1) := by decide +kernel
theorem dX6_leadersAgree_13 : decode cX6_leadersAgree 13 = .ok (.invokevirtual 156, 3) := by decide +kernel
theorem dX6_leadersAgree_16 : decode cX6_leadersAgree 16 = .ok (.aload_n 0, 1) := by decide +kernel
theorem dX6_leadersAgree_17 : decode cX6_leadersAgree 17 = .ok (.getfield 10, 3) := by decide +kernel
theorem dX6_leadersAgree_20 : decode cX6_leadersAgree 20 = .ok (.iload_n 1, 1) := by decide +kernel
theorem dX6_leadersAgree_21 : decode cX6_leadersAgree 21 = .ok (.invokevirtual 159, 3) := by decide +kernel
theorem dX6_leadersAgree_24 : decode cX6_leadersAgree 24 = .ok (.if_icmp .eq 5, 3) := by decide +kernel
theorem dX6_leadersAgree_27 : decode cX6_leadersAgree 27 = .ok (.iconst 0, 1) := by decide +kernel
theorem dX6_leadersAgree_28 : decode cX6_leadersAgree 28 = .ok (.ireturn, 1) := by decide +kernel
theorem dX6_leadersAgree_29 : decode cX6_leadersAgree 29 = .ok (.iinc 1 1, 3) := by decide +kernel
theorem dX6_leadersAgree_32 : decode cX6_leadersAgree 32 = .ok (.goto (-30), 3) := by decide +kernel
theorem dX6_leadersAgree_35 : decode cX6_leadersAgree 35 = .ok (.iconst 1, 1) := by decide +kernel
theorem dX6_leadersAgree_36 : decode cX6_leadersAgree 36 = .ok (.ireturn, 1) := by decide +kernel
