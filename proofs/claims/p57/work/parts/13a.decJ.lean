/-! ===== instructions, one after another ===== -/
theorem dJ4_init_da8c8_0 : decode cJ4_init_da8c8 0 = .ok (.aload_n 0, 1) := by decide +kernel
theorem dJ4_init_da8c8_1 : decode cJ4_init_da8c8 1 = .ok (.bipush 16, 2) := by decide +kernel
theorem dJ4_init_da8c8_3 : decode cJ4_init_da8c8 3 = .ok (.invokespecial 1, 3) := by decide +kernel
theorem dJ4_init_da8c8_6 : decode cJ4_init_da8c8 6 = .ok (.return_, 1) := by decide +kernel
theorem dJ5_init_d00df_0 : decode cJ5_init_d00df 0 = .ok (.aload_n 0, 1) := by decide +kernel
theorem dJ5_init_d00df_1 : decode cJ5_init_d00df 1 = .ok (.invokespecial 3, 3) := by decide +kernel
theorem dJ5_init_d00df_4 : decode cJ5_init_d00df 4 = .ok (.getstatic 18, 3) := by decide +kernel
theorem dJ5_init_d00df_7 : decode cJ5_init_d00df 7 = .ok (.ifCond .eq 18, 3) := by decide +kernel
theorem dJ5_init_d00df_10 : decode cJ5_init_d00df 10 = .ok (.aload_n 0, 1) := by decide +kernel
theorem dJ5_init_d00df_11 : decode cJ5_init_d00df 11 = .ok (.iload_n 1, 1) := by decide +kernel
theorem dJ5_init_d00df_12 : decode cJ5_init_d00df 12 = .ok (.newarray .byte, 2) := by decide +kernel
theorem dJ5_init_d00df_14 : decode cJ5_init_d00df 14 = .ok (.putfield 15, 3) := by decide +kernel
theorem dJ5_init_d00df_17 : decode cJ5_init_d00df 17 = .ok (.aload_n 0, 1) := by decide +kernel
theorem dJ5_init_d00df_18 : decode cJ5_init_d00df 18 = .ok (.iconst 0, 1) := by decide +kernel
theorem dJ5_init_d00df_19 : decode cJ5_init_d00df 19 = .ok (.putfield 22, 3) := by decide +kernel
theorem dJ5_init_d00df_22 : decode cJ5_init_d00df 22 = .ok (.goto 16, 3) := by decide +kernel
theorem dJ5_init_d00df_25 : decode cJ5_init_d00df 25 = .ok (.aload_n 0, 1) := by decide +kernel
theorem dJ5_init_d00df_26 : decode cJ5_init_d00df 26 = .ok (.iload_n 1, 1) := by decide +kernel
theorem dJ5_init_d00df_27 : decode cJ5_init_d00df 27 = .ok (.invokestatic 26, 3) := by decide +kernel
theorem dJ5_init_d00df_30 : decode cJ5_init_d00df 30 = .ok (.putfield 15, 3) := by decide +kernel
theorem dJ5_init_d00df_33 : decode cJ5_init_d00df 33 = .ok (.aload_n 0, 1) := by decide +kernel
theorem dJ5_init_d00df_34 : decode cJ5_init_d00df 34 = .ok (.iconst 1, 1) := by decide +kernel
theorem dJ5_init_d00df_35 : decode cJ5_init_d00df 35 = .ok (.putfield 22, 3) := by decide +kernel
theorem dJ5_init_d00df_38 : decode cJ5_init_d00df 38 = .ok (.return_, 1) := by decide +kernel
theorem dJ4_append_15ec4_0 : decode cJ4_append_15ec4 0 = .ok (.aload_n 0, 1) := by decide +kernel
theorem dJ4_append_15ec4_1 : decode cJ4_append_15ec4 1 = .ok (.aload_n 1, 1) := by decide +kernel
theorem dJ4_append_15ec4_2 : decode cJ4_append_15ec4 2 = .ok (.invokespecial 29, 3) := by decide +kernel
theorem dJ4_append_15ec4_5 : decode cJ4_append_15ec4 5 = .ok (.pop, 1) := by decide +kernel
theorem dJ4_append_15ec4_6 : decode cJ4_append_15ec4 6 = .ok (.aload_n 0, 1) := by decide +kernel
theorem dJ4_append_15ec4_7 : decode cJ4_append_15ec4 7 = .ok (.areturn, 1) := by decide +kernel
theorem dJ5_append_cf1ce_0 : decode cJ5_append_cf1ce 0 = .ok (.aload_n 1, 1) := by decide +kernel
theorem dJ5_append_cf1ce_1 : decode cJ5_append_cf1ce 1 = .ok (.ifnonnull 8, 3) := by decide +kernel
theorem dJ5_append_cf1ce_4 : decode cJ5_append_cf1ce 4 = .ok (.aload_n 0, 1) := by decide +kernel
theorem dJ5_append_cf1ce_5 : decode cJ5_append_cf1ce 5 = .ok (.invokevirtual 204, 3) := by decide +kernel
theorem dJ5_append_cf1ce_8 : decode cJ5_append_cf1ce 8 = .ok (.areturn, 1) := by decide +kernel
theorem dJ5_append_cf1ce_9 : decode cJ5_append_cf1ce 9 = .ok (.aload_n 1, 1) := by decide +kernel
theorem dJ5_append_cf1ce_10 : decode cJ5_append_cf1ce 10 = .ok (.invokevirtual 32, 3) := by decide +kernel
theorem dJ5_append_cf1ce_13 : decode cJ5_append_cf1ce 13 = .ok (.istore_n 2, 1) := by decide +kernel
theorem dJ5_append_cf1ce_14 : decode cJ5_append_cf1ce 14 = .ok (.aload_n 0, 1) := by decide +kernel
theorem dJ5_append_cf1ce_15 : decode cJ5_append_cf1ce 15 = .ok (.aload_n 0, 1) := by decide +kernel
theorem dJ5_append_cf1ce_16 : decode cJ5_append_cf1ce 16 = .ok (.getfield 79, 3) := by decide +kernel
theorem dJ5_append_cf1ce_19 : decode cJ5_append_cf1ce 19 = .ok (.iload_n 2, 1) := by decide +kernel
theorem dJ5_append_cf1ce_20 : decode cJ5_append_cf1ce 20 = .ok (.iadd, 1) := by decide +kernel
theorem dJ5_append_cf1ce_21 : decode cJ5_append_cf1ce 21 = .ok (.invokevirtual 100, 3) := by decide +kernel
theorem dJ5_append_cf1ce_24 : decode cJ5_append_cf1ce 24 = .ok (.aload_n 0, 1) := by decide +kernel
theorem dJ5_append_cf1ce_25 : decode cJ5_append_cf1ce 25 = .ok (.aload_n 0, 1) := by decide +kernel
theorem dJ5_append_cf1ce_26 : decode cJ5_append_cf1ce 26 = .ok (.getfield 79, 3) := by decide +kernel
theorem dJ5_append_cf1ce_29 : decode cJ5_append_cf1ce 29 = .ok (.aload_n 1, 1) := by decide +kernel
theorem dJ5_append_cf1ce_30 : decode cJ5_append_cf1ce 30 = .ok (.invokevirtual 208, 3) := by decide +kernel
theorem dJ5_append_cf1ce_33 : decode cJ5_append_cf1ce 33 = .ok (.aload_n 0, 1) := by decide +kernel
theorem dJ5_append_cf1ce_34 : decode cJ5_append_cf1ce 34 = .ok (.dup, 1) := by decide +kernel
theorem dJ5_append_cf1ce_35 : decode cJ5_append_cf1ce 35 = .ok (.getfield 79, 3) := by decide +kernel
theorem dJ5_append_cf1ce_38 : decode cJ5_append_cf1ce 38 = .ok (.iload_n 2, 1) := by decide +kernel
theorem dJ5_append_cf1ce_39 : decode cJ5_append_cf1ce 39 = .ok (.iadd, 1) := by decide +kernel
theorem dJ5_append_cf1ce_40 : decode cJ5_append_cf1ce 40 = .ok (.putfield 79, 3) := by decide +kernel
theorem dJ5_append_cf1ce_43 : decode cJ5_append_cf1ce 43 = .ok (.aload_n 0, 1) := by decide +kernel
theorem dJ5_append_cf1ce_44 : decode cJ5_append_cf1ce 44 = .ok (.areturn, 1) := by decide +kernel
theorem dJ5_ensureCapacityInternal_d00df_0 : decode cJ5_ensureCapacityInternal_d00df 0 = .ok (.aload_n 0, 1) := by decide +kernel
theorem dJ5_ensureCapacityInternal_d00df_1 : decode cJ5_ensureCapacityInternal_d00df 1 = .ok (.getfield 15, 3) := by decide +kernel
theorem dJ5_ensureCapacityInternal_d00df_4 : decode cJ5_ensureCapacityInternal_d00df 4 = .ok (.arraylength, 1) := by decide +kernel
theorem dJ5_ensureCapacityInternal_d00df_5 : decode cJ5_ensureCapacityInternal_d00df 5 = .ok (.aload_n 0, 1) := by decide +kernel
theorem dJ5_ensureCapacityInternal_d00df_6 : decode cJ5_ensureCapacityInternal_d00df 6 = .ok (.getfield 22, 3) := by decide +kernel
theorem dJ5_ensureCapacityInternal_d00df_9 : decode cJ5_ensureCapacityInternal_d00df 9 = .ok (.ishr, 1) := by decide +kernel
theorem dJ5_ensureCapacityInternal_d00df_10 : decode cJ5_ensureCapacityInternal_d00df 10 = .ok (.istore_n 2, 1) := by decide +kernel
theorem dJ5_ensureCapacityInternal_d00df_11 : decode cJ5_ensureCapacityInternal_d00df 11 = .ok (.iload_n 1, 1) := by decide +kernel
theorem dJ5_ensureCapacityInternal_d00df_12 : decode cJ5_ensureCapacityInternal_d00df 12 = .ok (.iload_n 2, 1) := by decide +kernel
theorem dJ5_ensureCapacityInternal_d00df_13 : decode cJ5_ensureCapacityInternal_d00df 13 = .ok (.isub, 1) := by decide +kernel
theorem dJ5_ensureCapacityInternal_d00df_14 : decode cJ5_ensureCapacityInternal_d00df 14 = .ok (.ifCond .le 24, 3) := by decide +kernel
theorem dJ5_ensureCapacityInternal_d00df_17 : decode cJ5_ensureCapacityInternal_d00df 17 = .ok (.aload_n 0, 1) := by decide +kernel
theorem dJ5_ensureCapacityInternal_d00df_18 : decode cJ5_ensureCapacityInternal_d00df 18 = .ok (.aload_n 0, 1) := by decide +kernel
theorem dJ5_ensureCapacityInternal_d00df_19 : decode cJ5_ensureCapacityInternal_d00df 19 = .ok (.getfield 15, 3) := by decide +kernel
theorem dJ5_ensureCapacityInternal_d00df_22 : decode cJ5_ensureCapacityInternal_d00df 22 = .ok (.aload_n 0, 1) := by decide +kernel
theorem dJ5_ensureCapacityInternal_d00df_23 : decode cJ5_ensureCapacityInternal_d00df 23 = .ok (.iload_n 1, 1) := by decide +kernel
theorem dJ5_ensureCapacityInternal_d00df_24 : decode cJ5_ensureCapacityInternal_d00df 24 = .ok (.invokevirtual 104, 3) := by decide +kernel
theorem dJ5_ensureCapacityInternal_d00df_27 : decode cJ5_ensureCapacityInternal_d00df 27 = .ok (.aload_n 0, 1) := by decide +kernel
theorem dJ5_ensureCapacityInternal_d00df_28 : decode cJ5_ensureCapacityInternal_d00df 28 = .ok (.getfield 22, 3) := by decide +kernel
theorem dJ5_ensureCapacityInternal_d00df_31 : decode cJ5_ensureCapacityInternal_d00df 31 = .ok (.ishl, 1) := by decide +kernel
theorem dJ5_ensureCapacityInternal_d00df_32 : decode cJ5_ensureCapacityInternal_d00df 32 = .ok (.invokestatic 108, 3) := by decide +kernel
theorem dJ5_ensureCapacityInternal_d00df_35 : decode cJ5_ensureCapacityInternal_d00df 35 = .ok (.putfield 15, 3) := by decide +kernel
theorem dJ5_ensureCapacityInternal_d00df_38 : decode cJ5_ensureCapacityInternal_d00df 38 = .ok (.return_, 1) := by decide +kernel
theorem dJ5_putStringAt_47b60_0 : decode cJ5_putStringAt_47b60 0 = .ok (.aload_n 0, 1) := by decide +kernel
theorem dJ5_putStringAt_47b60_1 : decode cJ5_putStringAt_47b60 1 = .ok (.aload_n 2, 1) := by decide +kernel
theorem dJ5_putStringAt_47b60_2 : decode cJ5_putStringAt_47b60 2 = .ok (.invokevirtual 397, 3) := by decide +kernel
theorem dJ5_putStringAt_47b60_5 : decode cJ5_putStringAt_47b60 5 = .ok (.aload_n 2, 1) := by decide +kernel
theorem dJ5_putStringAt_47b60_6 : decode cJ5_putStringAt_47b60 6 = .ok (.aload_n 0, 1) := by decide +kernel
theorem dJ5_putStringAt_47b60_7 : decode cJ5_putStringAt_47b60 7 = .ok (.getfield 15, 3) := by decide +kernel
theorem dJ5_putStringAt_47b60_10 : decode cJ5_putStringAt_47b60 10 = .ok (.iload_n 1, 1) := by decide +kernel
theorem dJ5_putStringAt_47b60_11 : decode cJ5_putStringAt_47b60 11 = .ok (.aload_n 0, 1) := by decide +kernel
theorem dJ5_putStringAt_47b60_12 : decode cJ5_putStringAt_47b60 12 = .ok (.getfield 22, 3) := by decide +kernel
theorem dJ5_putStringAt_47b60_15 : decode cJ5_putStringAt_47b60 15 = .ok (.invokevirtual 399, 3) := by decide +kernel
theorem dJ5_putStringAt_47b60_18 : decode cJ5_putStringAt_47b60 18 = .ok (.return_, 1) := by decide +kernel
theorem dJ5_inflateIfNeededFor_a7421_0 : decode cJ5_inflateIfNeededFor_a7421 0 = .ok (.getstatic 18, 3) := by decide +kernel
theorem dJ5_inflateIfNeededFor_a7421_3 : decode cJ5_inflateIfNeededFor_a7421 3 = .ok (.ifCond .eq 18, 3) := by decide +kernel
theorem dJ5_inflateIfNeededFor_a7421_6 : decode cJ5_inflateIfNeededFor_a7421 6 = .ok (.aload_n 0, 1) := by decide +kernel
theorem dJ5_inflateIfNeededFor_a7421_7 : decode cJ5_inflateIfNeededFor_a7421 7 = .ok (.getfield 22, 3) := by decide +kernel
theorem dJ5_inflateIfNeededFor_a7421_10 : decode cJ5_inflateIfNeededFor_a7421 10 = .ok (.aload_n 1, 1) := by decide +kernel
theorem dJ5_inflateIfNeededFor_a7421_11 : decode cJ5_inflateIfNeededFor_a7421 11 = .ok (.invokevirtual 40, 3) := by decide +kernel
theorem dJ5_inflateIfNeededFor_a7421_14 : decode cJ5_inflateIfNeededFor_a7421 14 = .ok (.if_icmp .eq 7, 3) := by decide +kernel
theorem dJ5_inflateIfNeededFor_a7421_17 : decode cJ5_inflateIfNeededFor_a7421 17 = .ok (.aload_n 0, 1) := by decide +kernel
theorem dJ5_inflateIfNeededFor_a7421_18 : decode cJ5_inflateIfNeededFor_a7421 18 = .ok (.invokevirtual 195, 3) := by decide +kernel
theorem dJ5_inflateIfNeededFor_a7421_21 : decode cJ5_inflateIfNeededFor_a7421 21 = .ok (.return_, 1) := by decide +kernel
theorem dJ5_isLatin1_aae02_0 : decode cJ5_isLatin1_aae02 0 = .ok (.getstatic 18, 3) := by decide +kernel
theorem dJ5_isLatin1_aae02_3 : decode cJ5_isLatin1_aae02 3 = .ok (.ifCond .eq 14, 3) := by decide +kernel
theorem dJ5_isLatin1_aae02_6 : decode cJ5_isLatin1_aae02 6 = .ok (.aload_n 0, 1) := by decide +kernel
theorem dJ5_isLatin1_aae02_7 : decode cJ5_isLatin1_aae02 7 = .ok (.getfield 22, 3) := by decide +kernel
theorem dJ5_isLatin1_aae02_10 : decode cJ5_isLatin1_aae02 10 = .ok (.ifCond .ne 7, 3) := by decide +kernel
theorem dJ5_isLatin1_aae02_13 : decode cJ5_isLatin1_aae02 13 = .ok (.iconst 1, 1) := by decide +kernel
theorem dJ5_isLatin1_aae02_14 : decode cJ5_isLatin1_aae02 14 = .ok (.goto 4, 3) := by decide +kernel
theorem dJ5_isLatin1_aae02_17 : decode cJ5_isLatin1_aae02 17 = .ok (.iconst 0, 1) := by decide +kernel
theorem dJ5_isLatin1_aae02_18 : decode cJ5_isLatin1_aae02 18 = .ok (.ireturn, 1) := by decide +kernel
theorem dJ0_length_8abf5_0 : decode cJ0_length_8abf5 0 = .ok (.aload_n 0, 1) := by decide +kernel
theorem dJ0_length_8abf5_1 : decode cJ0_length_8abf5 1 = .ok (.getfield 9, 3) := by decide +kernel
theorem dJ0_length_8abf5_4 : decode cJ0_length_8abf5 4 = .ok (.arraylength, 1) := by decide +kernel
theorem dJ0_length_8abf5_5 : decode cJ0_length_8abf5 5 = .ok (.aload_n 0, 1) := by decide +kernel
theorem dJ0_length_8abf5_6 : decode cJ0_length_8abf5 6 = .ok (.invokevirtual 335, 3) := by decide +kernel
theorem dJ0_length_8abf5_9 : decode cJ0_length_8abf5 9 = .ok (.ishr, 1) := by decide +kernel
theorem dJ0_length_8abf5_10 : decode cJ0_length_8abf5 10 = .ok (.ireturn, 1) := by decide +kernel
theorem dJ0_coder_7d493_0 : decode cJ0_coder_7d493 0 = .ok (.getstatic 38, 3) := by decide +kernel
theorem dJ0_coder_7d493_3 : decode cJ0_coder_7d493 3 = .ok (.ifCond .eq 10, 3) := by decide +kernel
theorem dJ0_coder_7d493_6 : decode cJ0_coder_7d493 6 = .ok (.aload_n 0, 1) := by decide +kernel
theorem dJ0_coder_7d493_7 : decode cJ0_coder_7d493 7 = .ok (.getfield 15, 3) := by decide +kernel
theorem dJ0_coder_7d493_10 : decode cJ0_coder_7d493 10 = .ok (.goto 4, 3) := by decide +kernel
theorem dJ0_coder_7d493_13 : decode cJ0_coder_7d493 13 = .ok (.iconst 1, 1) := by decide +kernel
theorem dJ0_coder_7d493_14 : decode cJ0_coder_7d493 14 = .ok (.ireturn, 1) := by decide +kernel
theorem dJ0_getBytes_840e7_0 : decode cJ0_getBytes_840e7 0 = .ok (.aload_n 0, 1) := by decide +kernel
theorem dJ0_getBytes_840e7_1 : decode cJ0_getBytes_840e7 1 = .ok (.invokevirtual 335, 3) := by decide +kernel
theorem dJ0_getBytes_840e7_4 : decode cJ0_getBytes_840e7 4 = .ok (.iload_n 3, 1) := by decide +kernel
theorem dJ0_getBytes_840e7_5 : decode cJ0_getBytes_840e7 5 = .ok (.if_icmp .ne 23, 3) := by decide +kernel
theorem dJ0_getBytes_840e7_8 : decode cJ0_getBytes_840e7 8 = .ok (.aload_n 0, 1) := by decide +kernel
theorem dJ0_getBytes_840e7_9 : decode cJ0_getBytes_840e7 9 = .ok (.getfield 9, 3) := by decide +kernel
theorem dJ0_getBytes_840e7_12 : decode cJ0_getBytes_840e7 12 = .ok (.iconst 0, 1) := by decide +kernel
theorem dJ0_getBytes_840e7_13 : decode cJ0_getBytes_840e7 13 = .ok (.aload_n 1, 1) := by decide +kernel
theorem dJ0_getBytes_840e7_14 : decode cJ0_getBytes_840e7 14 = .ok (.iload_n 2, 1) := by decide +kernel
theorem dJ0_getBytes_840e7_15 : decode cJ0_getBytes_840e7 15 = .ok (.iload_n 3, 1) := by decide +kernel
theorem dJ0_getBytes_840e7_16 : decode cJ0_getBytes_840e7 16 = .ok (.ishl, 1) := by decide +kernel
theorem dJ0_getBytes_840e7_17 : decode cJ0_getBytes_840e7 17 = .ok (.aload_n 0, 1) := by decide +kernel
theorem dJ0_getBytes_840e7_18 : decode cJ0_getBytes_840e7 18 = .ok (.getfield 9, 3) := by decide +kernel
theorem dJ0_getBytes_840e7_21 : decode cJ0_getBytes_840e7 21 = .ok (.arraylength, 1) := by decide +kernel
theorem dJ0_getBytes_840e7_22 : decode cJ0_getBytes_840e7 22 = .ok (.invokestatic 212, 3) := by decide +kernel
theorem dJ0_getBytes_840e7_25 : decode cJ0_getBytes_840e7 25 = .ok (.goto 18, 3) := by decide +kernel
theorem dJ0_getBytes_840e7_28 : decode cJ0_getBytes_840e7 28 = .ok (.aload_n 0, 1) := by decide +kernel
theorem dJ0_getBytes_840e7_29 : decode cJ0_getBytes_840e7 29 = .ok (.getfield 9, 3) := by decide +kernel
theorem dJ0_getBytes_840e7_32 : decode cJ0_getBytes_840e7 32 = .ok (.iconst 0, 1) := by decide +kernel
theorem dJ0_getBytes_840e7_33 : decode cJ0_getBytes_840e7 33 = .ok (.aload_n 1, 1) := by decide +kernel
theorem dJ0_getBytes_840e7_34 : decode cJ0_getBytes_840e7 34 = .ok (.iload_n 2, 1) := by decide +kernel
theorem dJ0_getBytes_840e7_35 : decode cJ0_getBytes_840e7 35 = .ok (.aload_n 0, 1) := by decide +kernel
theorem dJ0_getBytes_840e7_36 : decode cJ0_getBytes_840e7 36 = .ok (.getfield 9, 3) := by decide +kernel
theorem dJ0_getBytes_840e7_39 : decode cJ0_getBytes_840e7 39 = .ok (.arraylength, 1) := by decide +kernel
theorem dJ0_getBytes_840e7_40 : decode cJ0_getBytes_840e7 40 = .ok (.invokestatic 106, 3) := by decide +kernel
theorem dJ0_getBytes_840e7_43 : decode cJ0_getBytes_840e7 43 = .ok (.return_, 1) := by decide +kernel
theorem dJ4_append_bf812_0 : decode cJ4_append_bf812 0 = .ok (.aload_n 0, 1) := by decide +kernel
theorem dJ4_append_bf812_1 : decode cJ4_append_bf812 1 = .ok (.iload_n 1, 1) := by decide +kernel
theorem dJ4_append_bf812_2 : decode cJ4_append_bf812 2 = .ok (.invokespecial 53, 3) := by decide +kernel
theorem dJ4_append_bf812_5 : decode cJ4_append_bf812 5 = .ok (.pop, 1) := by decide +kernel
theorem dJ4_append_bf812_6 : decode cJ4_append_bf812 6 = .ok (.aload_n 0, 1) := by decide +kernel
theorem dJ4_append_bf812_7 : decode cJ4_append_bf812 7 = .ok (.areturn, 1) := by decide +kernel
theorem dJ5_append_c97b9_0 : decode cJ5_append_c97b9 0 = .ok (.aload_n 0, 1) := by decide +kernel
theorem dJ5_append_c97b9_1 : decode cJ5_append_c97b9 1 = .ok (.getfield 79, 3) := by decide +kernel
theorem dJ5_append_c97b9_4 : decode cJ5_append_c97b9 4 = .ok (.istore_n 2, 1) := by decide +kernel
theorem dJ5_append_c97b9_5 : decode cJ5_append_c97b9 5 = .ok (.iload_n 2, 1) := by decide +kernel
theorem dJ5_append_c97b9_6 : decode cJ5_append_c97b9 6 = .ok (.iload_n 1, 1) := by decide +kernel
theorem dJ5_append_c97b9_7 : decode cJ5_append_c97b9 7 = .ok (.invokestatic 245, 3) := by decide +kernel
theorem dJ5_append_c97b9_10 : decode cJ5_append_c97b9 10 = .ok (.iadd, 1) := by decide +kernel
theorem dJ5_append_c97b9_11 : decode cJ5_append_c97b9 11 = .ok (.istore_n 3, 1) := by decide +kernel
theorem dJ5_append_c97b9_12 : decode cJ5_append_c97b9 12 = .ok (.aload_n 0, 1) := by decide +kernel
theorem dJ5_append_c97b9_13 : decode cJ5_append_c97b9 13 = .ok (.iload_n 3, 1) := by decide +kernel
theorem dJ5_append_c97b9_14 : decode cJ5_append_c97b9 14 = .ok (.invokevirtual 100, 3) := by decide +kernel
theorem dJ5_append_c97b9_17 : decode cJ5_append_c97b9 17 = .ok (.aload_n 0, 1) := by decide +kernel
theorem dJ5_append_c97b9_18 : decode cJ5_append_c97b9 18 = .ok (.invokevirtual 83, 3) := by decide +kernel
theorem dJ5_append_c97b9_21 : decode cJ5_append_c97b9 21 = .ok (.ifCond .eq 16, 3) := by decide +kernel
theorem dJ5_append_c97b9_24 : decode cJ5_append_c97b9 24 = .ok (.iload_n 1, 1) := by decide +kernel
theorem dJ5_append_c97b9_25 : decode cJ5_append_c97b9 25 = .ok (.iload_n 3, 1) := by decide +kernel
theorem dJ5_append_c97b9_26 : decode cJ5_append_c97b9 26 = .ok (.aload_n 0, 1) := by decide +kernel
theorem dJ5_append_c97b9_27 : decode cJ5_append_c97b9 27 = .ok (.getfield 15, 3) := by decide +kernel
theorem dJ5_append_c97b9_30 : decode cJ5_append_c97b9 30 = .ok (.invokestatic 248, 3) := by decide +kernel
theorem dJ5_append_c97b9_33 : decode cJ5_append_c97b9 33 = .ok (.pop, 1) := by decide +kernel
theorem dJ5_append_c97b9_34 : decode cJ5_append_c97b9 34 = .ok (.goto 14, 3) := by decide +kernel
theorem dJ5_append_c97b9_37 : decode cJ5_append_c97b9 37 = .ok (.iload_n 1, 1) := by decide +kernel
theorem dJ5_append_c97b9_38 : decode cJ5_append_c97b9 38 = .ok (.iload_n 2, 1) := by decide +kernel
theorem dJ5_append_c97b9_39 : decode cJ5_append_c97b9 39 = .ok (.iload_n 3, 1) := by decide +kernel
theorem dJ5_append_c97b9_40 : decode cJ5_append_c97b9 40 = .ok (.aload_n 0, 1) := by decide +kernel
theorem dJ5_append_c97b9_41 : decode cJ5_append_c97b9 41 = .ok (.getfield 15, 3) := by decide +kernel
theorem dJ5_append_c97b9_44 : decode cJ5_append_c97b9 44 = .ok (.invokestatic 251, 3) := by decide +kernel
theorem dJ5_append_c97b9_47 : decode cJ5_append_c97b9 47 = .ok (.pop, 1) := by decide +kernel
theorem dJ5_append_c97b9_48 : decode cJ5_append_c97b9 48 = .ok (.aload_n 0, 1) := by decide +kernel
theorem dJ5_append_c97b9_49 : decode cJ5_append_c97b9 49 = .ok (.iload_n 3, 1) := by decide +kernel
theorem dJ5_append_c97b9_50 : decode cJ5_append_c97b9 50 = .ok (.putfield 79, 3) := by decide +kernel
theorem dJ5_append_c97b9_53 : decode cJ5_append_c97b9 53 = .ok (.aload_n 0, 1) := by decide +kernel
theorem dJ5_append_c97b9_54 : decode cJ5_append_c97b9 54 = .ok (.areturn, 1) := by decide +kernel
theorem dJ6_stringSize_0f7a4_0 : decode cJ6_stringSize_0f7a4 0 = .ok (.iconst 1, 1) := by decide +kernel
theorem dJ6_stringSize_0f7a4_1 : decode cJ6_stringSize_0f7a4 1 = .ok (.istore_n 1, 1) := by decide +kernel
theorem dJ6_stringSize_0f7a4_2 : decode cJ6_stringSize_0f7a4 2 = .ok (.iload_n 0, 1) := by decide +kernel
theorem dJ6_stringSize_0f7a4_3 : decode cJ6_stringSize_0f7a4 3 = .ok (.ifCond .lt 8, 3) := by decide +kernel
theorem dJ6_stringSize_0f7a4_6 : decode cJ6_stringSize_0f7a4 6 = .ok (.iconst 0, 1) := by decide +kernel
theorem dJ6_stringSize_0f7a4_7 : decode cJ6_stringSize_0f7a4 7 = .ok (.istore_n 1, 1) := by decide +kernel
theorem dJ6_stringSize_0f7a4_8 : decode cJ6_stringSize_0f7a4 8 = .ok (.iload_n 0, 1) := by decide +kernel
theorem dJ6_stringSize_0f7a4_9 : decode cJ6_stringSize_0f7a4 9 = .ok (.ineg, 1) := by decide +kernel
theorem dJ6_stringSize_0f7a4_10 : decode cJ6_stringSize_0f7a4 10 = .ok (.istore_n 0, 1) := by decide +kernel
theorem dJ6_stringSize_0f7a4_11 : decode cJ6_stringSize_0f7a4 11 = .ok (.bipush (-10), 2) := by decide +kernel
theorem dJ6_stringSize_0f7a4_13 : decode cJ6_stringSize_0f7a4 13 = .ok (.istore_n 2, 1) := by decide +kernel
theorem dJ6_stringSize_0f7a4_14 : decode cJ6_stringSize_0f7a4 14 = .ok (.iconst 1, 1) := by decide +kernel
theorem dJ6_stringSize_0f7a4_15 : decode cJ6_stringSize_0f7a4 15 = .ok (.istore_n 3, 1) := by decide +kernel
theorem dJ6_stringSize_0f7a4_16 : decode cJ6_stringSize_0f7a4 16 = .ok (.iload_n 3, 1) := by decide +kernel
theorem dJ6_stringSize_0f7a4_17 : decode cJ6_stringSize_0f7a4 17 = .ok (.bipush 10, 2) := by decide +kernel
theorem dJ6_stringSize_0f7a4_19 : decode cJ6_stringSize_0f7a4 19 = .ok (.if_icmp .ge 23, 3) := by decide +kernel
theorem dJ6_stringSize_0f7a4_22 : decode cJ6_stringSize_0f7a4 22 = .ok (.iload_n 0, 1) := by decide +kernel
theorem dJ6_stringSize_0f7a4_23 : decode cJ6_stringSize_0f7a4 23 = .ok (.iload_n 2, 1) := by decide +kernel
theorem dJ6_stringSize_0f7a4_24 : decode cJ6_stringSize_0f7a4 24 = .ok (.if_icmp .le 7, 3) := by decide +kernel
theorem dJ6_stringSize_0f7a4_27 : decode cJ6_stringSize_0f7a4 27 = .ok (.iload_n 3, 1) := by decide +kernel
theorem dJ6_stringSize_0f7a4_28 : decode cJ6_stringSize_0f7a4 28 = .ok (.iload_n 1, 1) := by decide +kernel
theorem dJ6_stringSize_0f7a4_29 : decode cJ6_stringSize_0f7a4 29 = .ok (.iadd, 1) := by decide +kernel
theorem dJ6_stringSize_0f7a4_30 : decode cJ6_stringSize_0f7a4 30 = .ok (.ireturn, 1) := by decide +kernel
theorem dJ6_stringSize_0f7a4_31 : decode cJ6_stringSize_0f7a4 31 = .ok (.bipush 10, 2) := by decide +kernel
theorem dJ6_stringSize_0f7a4_33 : decode cJ6_stringSize_0f7a4 33 = .ok (.iload_n 2, 1) := by decide +kernel
theorem dJ6_stringSize_0f7a4_34 : decode cJ6_stringSize_0f7a4 34 = .ok (.imul, 1) := by decide +kernel
theorem dJ6_stringSize_0f7a4_35 : decode cJ6_stringSize_0f7a4 35 = .ok (.istore_n 2, 1) := by decide +kernel
theorem dJ6_stringSize_0f7a4_36 : decode cJ6_stringSize_0f7a4 36 = .ok (.iinc 3 1, 3) := by decide +kernel
theorem dJ6_stringSize_0f7a4_39 : decode cJ6_stringSize_0f7a4 39 = .ok (.goto (-23), 3) := by decide +kernel
theorem dJ6_stringSize_0f7a4_42 : decode cJ6_stringSize_0f7a4 42 = .ok (.bipush 10, 2) := by decide +kernel
theorem dJ6_stringSize_0f7a4_44 : decode cJ6_stringSize_0f7a4 44 = .ok (.iload_n 1, 1) := by decide +kernel
theorem dJ6_stringSize_0f7a4_45 : decode cJ6_stringSize_0f7a4 45 = .ok (.iadd, 1) := by decide +kernel
theorem dJ6_stringSize_0f7a4_46 : decode cJ6_stringSize_0f7a4 46 = .ok (.ireturn, 1) := by decide +kernel
theorem dJ6_getChars_ba4f3_0 : decode cJ6_getChars_ba4f3 0 = .ok (.iload_n 1, 1) := by decide +kernel
theorem dJ6_getChars_ba4f3_1 : decode cJ6_getChars_ba4f3 1 = .ok (.istore 5, 2) := by decide +kernel
theorem dJ6_getChars_ba4f3_3 : decode cJ6_getChars_ba4f3 3 = .ok (.iload_n 0, 1) := by decide +kernel
theorem dJ6_getChars_ba4f3_4 : decode cJ6_getChars_ba4f3 4 = .ok (.ifCond .ge 7, 3) := by decide +kernel
theorem dJ6_getChars_ba4f3_7 : decode cJ6_getChars_ba4f3 7 = .ok (.iconst 1, 1) := by decide +kernel
theorem dJ6_getChars_ba4f3_8 : decode cJ6_getChars_ba4f3 8 = .ok (.goto 4, 3) := by decide +kernel
theorem dJ6_getChars_ba4f3_11 : decode cJ6_getChars_ba4f3 11 = .ok (.iconst 0, 1) := by decide +kernel
theorem dJ6_getChars_ba4f3_12 : decode cJ6_getChars_ba4f3 12 = .ok (.istore 6, 2) := by decide +kernel
theorem dJ6_getChars_ba4f3_14 : decode cJ6_getChars_ba4f3 14 = .ok (.iload 6, 2) := by decide +kernel
theorem dJ6_getChars_ba4f3_16 : decode cJ6_getChars_ba4f3 16 = .ok (.ifCond .ne 6, 3) := by decide +kernel
theorem dJ6_getChars_ba4f3_19 : decode cJ6_getChars_ba4f3 19 = .ok (.iload_n 0, 1) := by decide +kernel
theorem dJ6_getChars_ba4f3_20 : decode cJ6_getChars_ba4f3 20 = .ok (.ineg, 1) := by decide +kernel
theorem dJ6_getChars_ba4f3_21 : decode cJ6_getChars_ba4f3 21 = .ok (.istore_n 0, 1) := by decide +kernel
theorem dJ6_getChars_ba4f3_22 : decode cJ6_getChars_ba4f3 22 = .ok (.iload_n 0, 1) := by decide +kernel
theorem dJ6_getChars_ba4f3_23 : decode cJ6_getChars_ba4f3 23 = .ok (.bipush (-100), 2) := by decide +kernel
theorem dJ6_getChars_ba4f3_25 : decode cJ6_getChars_ba4f3 25 = .ok (.if_icmp .gt 47, 3) := by decide +kernel
theorem dJ6_getChars_ba4f3_28 : decode cJ6_getChars_ba4f3 28 = .ok (.iload_n 0, 1) := by decide +kernel
theorem dJ6_getChars_ba4f3_29 : decode cJ6_getChars_ba4f3 29 = .ok (.bipush 100, 2) := by decide +kernel
theorem dJ6_getChars_ba4f3_31 : decode cJ6_getChars_ba4f3 31 = .ok (.idiv, 1) := by decide +kernel
theorem dJ6_getChars_ba4f3_32 : decode cJ6_getChars_ba4f3 32 = .ok (.istore_n 3, 1) := by decide +kernel
theorem dJ6_getChars_ba4f3_33 : decode cJ6_getChars_ba4f3 33 = .ok (.iload_n 3, 1) := by decide +kernel
theorem dJ6_getChars_ba4f3_34 : decode cJ6_getChars_ba4f3 34 = .ok (.bipush 100, 2) := by decide +kernel
theorem dJ6_getChars_ba4f3_36 : decode cJ6_getChars_ba4f3 36 = .ok (.imul, 1) := by decide +kernel
theorem dJ6_getChars_ba4f3_37 : decode cJ6_getChars_ba4f3 37 = .ok (.iload_n 0, 1) := by decide +kernel
theorem dJ6_getChars_ba4f3_38 : decode cJ6_getChars_ba4f3 38 = .ok (.isub, 1) := by decide +kernel
theorem dJ6_getChars_ba4f3_39 : decode cJ6_getChars_ba4f3 39 = .ok (.istore 4, 2) := by decide +kernel
theorem dJ6_getChars_ba4f3_41 : decode cJ6_getChars_ba4f3 41 = .ok (.iload_n 3, 1) := by decide +kernel
theorem dJ6_getChars_ba4f3_42 : decode cJ6_getChars_ba4f3 42 = .ok (.istore_n 0, 1) := by decide +kernel
theorem dJ6_getChars_ba4f3_43 : decode cJ6_getChars_ba4f3 43 = .ok (.aload_n 2, 1) := by decide +kernel
theorem dJ6_getChars_ba4f3_44 : decode cJ6_getChars_ba4f3 44 = .ok (.iinc 5 (-1), 3) := by decide +kernel
theorem dJ6_getChars_ba4f3_47 : decode cJ6_getChars_ba4f3 47 = .ok (.iload 5, 2) := by decide +kernel
theorem dJ6_getChars_ba4f3_49 : decode cJ6_getChars_ba4f3 49 = .ok (.getstatic 83, 3) := by decide +kernel
theorem dJ6_getChars_ba4f3_52 : decode cJ6_getChars_ba4f3 52 = .ok (.iload 4, 2) := by decide +kernel
theorem dJ6_getChars_ba4f3_54 : decode cJ6_getChars_ba4f3 54 = .ok (.baload, 1) := by decide +kernel
theorem dJ6_getChars_ba4f3_55 : decode cJ6_getChars_ba4f3 55 = .ok (.bastore, 1) := by decide +kernel
theorem dJ6_getChars_ba4f3_56 : decode cJ6_getChars_ba4f3 56 = .ok (.aload_n 2, 1) := by decide +kernel
theorem dJ6_getChars_ba4f3_57 : decode cJ6_getChars_ba4f3 57 = .ok (.iinc 5 (-1), 3) := by decide +kernel
theorem dJ6_getChars_ba4f3_60 : decode cJ6_getChars_ba4f3 60 = .ok (.iload 5, 2) := by decide +kernel
theorem dJ6_getChars_ba4f3_62 : decode cJ6_getChars_ba4f3 62 = .ok (.getstatic 87, 3) := by decide +kernel
theorem dJ6_getChars_ba4f3_65 : decode cJ6_getChars_ba4f3 65 = .ok (.iload 4, 2) := by decide +kernel
theorem dJ6_getChars_ba4f3_67 : decode cJ6_getChars_ba4f3 67 = .ok (.baload, 1) := by decide +kernel
theorem dJ6_getChars_ba4f3_68 : decode cJ6_getChars_ba4f3 68 = .ok (.bastore, 1) := by decide +kernel
theorem dJ6_getChars_ba4f3_69 : decode cJ6_getChars_ba4f3 69 = .ok (.goto (-47), 3) := by decide +kernel
theorem dJ6_getChars_ba4f3_72 : decode cJ6_getChars_ba4f3 72 = .ok (.aload_n 2, 1) := by decide +kernel
theorem dJ6_getChars_ba4f3_73 : decode cJ6_getChars_ba4f3 73 = .ok (.iinc 5 (-1), 3) := by decide +kernel
theorem dJ6_getChars_ba4f3_76 : decode cJ6_getChars_ba4f3 76 = .ok (.iload 5, 2) := by decide +kernel
theorem dJ6_getChars_ba4f3_78 : decode cJ6_getChars_ba4f3 78 = .ok (.getstatic 83, 3) := by decide +kernel
theorem dJ6_getChars_ba4f3_81 : decode cJ6_getChars_ba4f3 81 = .ok (.iload_n 0, 1) := by decide +kernel
theorem dJ6_getChars_ba4f3_82 : decode cJ6_getChars_ba4f3 82 = .ok (.ineg, 1) := by decide +kernel
theorem dJ6_getChars_ba4f3_83 : decode cJ6_getChars_ba4f3 83 = .ok (.baload, 1) := by decide +kernel
theorem dJ6_getChars_ba4f3_84 : decode cJ6_getChars_ba4f3 84 = .ok (.bastore, 1) := by decide +kernel
theorem dJ6_getChars_ba4f3_85 : decode cJ6_getChars_ba4f3 85 = .ok (.iload_n 0, 1) := by decide +kernel
theorem dJ6_getChars_ba4f3_86 : decode cJ6_getChars_ba4f3 86 = .ok (.bipush (-9), 2) := by decide +kernel
theorem dJ6_getChars_ba4f3_88 : decode cJ6_getChars_ba4f3 88 = .ok (.if_icmp .ge 16, 3) := by decide +kernel
theorem dJ6_getChars_ba4f3_91 : decode cJ6_getChars_ba4f3 91 = .ok (.aload_n 2, 1) := by decide +kernel
theorem dJ6_getChars_ba4f3_92 : decode cJ6_getChars_ba4f3 92 = .ok (.iinc 5 (-1), 3) := by decide +kernel
theorem dJ6_getChars_ba4f3_95 : decode cJ6_getChars_ba4f3 95 = .ok (.iload 5, 2) := by decide +kernel
theorem dJ6_getChars_ba4f3_97 : decode cJ6_getChars_ba4f3 97 = .ok (.getstatic 87, 3) := by decide +kernel
theorem dJ6_getChars_ba4f3_100 : decode cJ6_getChars_ba4f3 100 = .ok (.iload_n 0, 1) := by decide +kernel
theorem dJ6_getChars_ba4f3_101 : decode cJ6_getChars_ba4f3 101 = .ok (.ineg, 1) := by decide +kernel
theorem dJ6_getChars_ba4f3_102 : decode cJ6_getChars_ba4f3 102 = .ok (.baload, 1) := by decide +kernel
theorem dJ6_getChars_ba4f3_103 : decode cJ6_getChars_ba4f3 103 = .ok (.bastore, 1) := by decide +kernel
theorem dJ6_getChars_ba4f3_104 : decode cJ6_getChars_ba4f3 104 = .ok (.iload 6, 2) := by decide +kernel
theorem dJ6_getChars_ba4f3_106 : decode cJ6_getChars_ba4f3 106 = .ok (.ifCond .eq 12, 3) := by decide +kernel
theorem dJ6_getChars_ba4f3_109 : decode cJ6_getChars_ba4f3 109 = .ok (.aload_n 2, 1) := by decide +kernel
theorem dJ6_getChars_ba4f3_110 : decode cJ6_getChars_ba4f3 110 = .ok (.iinc 5 (-1), 3) := by decide +kernel
theorem dJ6_getChars_ba4f3_113 : decode cJ6_getChars_ba4f3 113 = .ok (.iload 5, 2) := by decide +kernel
theorem dJ6_getChars_ba4f3_115 : decode cJ6_getChars_ba4f3 115 = .ok (.bipush 45, 2) := by decide +kernel
theorem dJ6_getChars_ba4f3_117 : decode cJ6_getChars_ba4f3 117 = .ok (.bastore, 1) := by decide +kernel
theorem dJ6_getChars_ba4f3_118 : decode cJ6_getChars_ba4f3 118 = .ok (.iload 5, 2) := by decide +kernel
theorem dJ6_getChars_ba4f3_120 : decode cJ6_getChars_ba4f3 120 = .ok (.ireturn, 1) := by decide +kernel
theorem dJ4_toString_0e30d_0 : decode cJ4_toString_0e30d 0 = .ok (.new 18, 3) := by decide +kernel
theorem dJ4_toString_0e30d_3 : decode cJ4_toString_0e30d 3 = .ok (.dup, 1) := by decide +kernel
theorem dJ4_toString_0e30d_4 : decode cJ4_toString_0e30d 4 = .ok (.aload_n 0, 1) := by decide +kernel
theorem dJ4_toString_0e30d_5 : decode cJ4_toString_0e30d 5 = .ok (.invokespecial 137, 3) := by decide +kernel
theorem dJ4_toString_0e30d_8 : decode cJ4_toString_0e30d 8 = .ok (.areturn, 1) := by decide +kernel
theorem dJ0_init_81219_0 : decode cJ0_init_81219 0 = .ok (.aload_n 0, 1) := by decide +kernel
theorem dJ0_init_81219_1 : decode cJ0_init_81219 1 = .ok (.aload_n 1, 1) := by decide +kernel
theorem dJ0_init_81219_2 : decode cJ0_init_81219 2 = .ok (.aconst_null, 1) := by decide +kernel
theorem dJ0_init_81219_3 : decode cJ0_init_81219 3 = .ok (.invokespecial 489, 3) := by decide +kernel
theorem dJ0_init_81219_6 : decode cJ0_init_81219 6 = .ok (.return_, 1) := by decide +kernel
theorem dJ0_init_db425_0 : decode cJ0_init_db425 0 = .ok (.aload_n 0, 1) := by decide +kernel
theorem dJ0_init_db425_1 : decode cJ0_init_db425 1 = .ok (.invokespecial 1, 3) := by decide +kernel
theorem dJ0_init_db425_4 : decode cJ0_init_db425 4 = .ok (.aload_n 1, 1) := by decide +kernel
theorem dJ0_init_db425_5 : decode cJ0_init_db425 5 = .ok (.invokevirtual 552, 3) := by decide +kernel
theorem dJ0_init_db425_8 : decode cJ0_init_db425 8 = .ok (.astore_n 3, 1) := by decide +kernel
theorem dJ0_init_db425_9 : decode cJ0_init_db425 9 = .ok (.aload_n 1, 1) := by decide +kernel
theorem dJ0_init_db425_10 : decode cJ0_init_db425 10 = .ok (.invokevirtual 549, 3) := by decide +kernel
theorem dJ0_init_db425_13 : decode cJ0_init_db425 13 = .ok (.istore 4, 2) := by decide +kernel
theorem dJ0_init_db425_15 : decode cJ0_init_db425 15 = .ok (.aload_n 1, 1) := by decide +kernel
theorem dJ0_init_db425_16 : decode cJ0_init_db425 16 = .ok (.invokevirtual 1047, 3) := by decide +kernel
theorem dJ0_init_db425_19 : decode cJ0_init_db425 19 = .ok (.ifCond .eq 22, 3) := by decide +kernel
theorem dJ0_init_db425_22 : decode cJ0_init_db425 22 = .ok (.aload_n 0, 1) := by decide +kernel
theorem dJ0_init_db425_23 : decode cJ0_init_db425 23 = .ok (.iconst 0, 1) := by decide +kernel
theorem dJ0_init_db425_24 : decode cJ0_init_db425 24 = .ok (.putfield 15, 3) := by decide +kernel
theorem dJ0_init_db425_27 : decode cJ0_init_db425 27 = .ok (.aload_n 0, 1) := by decide +kernel
theorem dJ0_init_db425_28 : decode cJ0_init_db425 28 = .ok (.aload_n 3, 1) := by decide +kernel
theorem dJ0_init_db425_29 : decode cJ0_init_db425 29 = .ok (.iconst 0, 1) := by decide +kernel
theorem dJ0_init_db425_30 : decode cJ0_init_db425 30 = .ok (.iload 4, 2) := by decide +kernel
theorem dJ0_init_db425_32 : decode cJ0_init_db425 32 = .ok (.invokestatic 54, 3) := by decide +kernel
theorem dJ0_init_db425_35 : decode cJ0_init_db425 35 = .ok (.putfield 9, 3) := by decide +kernel
theorem dJ0_init_db425_38 : decode cJ0_init_db425 38 = .ok (.goto 59, 3) := by decide +kernel
theorem dJ0_init_db425_41 : decode cJ0_init_db425 41 = .ok (.getstatic 38, 3) := by decide +kernel
theorem dJ0_init_db425_44 : decode cJ0_init_db425 44 = .ok (.ifCond .eq 35, 3) := by decide +kernel
theorem dJ0_init_db425_47 : decode cJ0_init_db425 47 = .ok (.aload_n 1, 1) := by decide +kernel
theorem dJ0_init_db425_48 : decode cJ0_init_db425 48 = .ok (.getfield 1048, 3) := by decide +kernel
theorem dJ0_init_db425_51 : decode cJ0_init_db425 51 = .ok (.ifCond .eq 28, 3) := by decide +kernel
theorem dJ0_init_db425_54 : decode cJ0_init_db425 54 = .ok (.aload_n 0, 1) := by decide +kernel
theorem dJ0_init_db425_55 : decode cJ0_init_db425 55 = .ok (.aload_n 3, 1) := by decide +kernel
theorem dJ0_init_db425_56 : decode cJ0_init_db425 56 = .ok (.iconst 0, 1) := by decide +kernel
theorem dJ0_init_db425_57 : decode cJ0_init_db425 57 = .ok (.iload 4, 2) := by decide +kernel
theorem dJ0_init_db425_59 : decode cJ0_init_db425 59 = .ok (.invokestatic 1051, 3) := by decide +kernel
theorem dJ0_init_db425_62 : decode cJ0_init_db425 62 = .ok (.putfield 9, 3) := by decide +kernel
theorem dJ0_init_db425_65 : decode cJ0_init_db425 65 = .ok (.aload_n 0, 1) := by decide +kernel
theorem dJ0_init_db425_66 : decode cJ0_init_db425 66 = .ok (.aload_n 0, 1) := by decide +kernel
theorem dJ0_init_db425_67 : decode cJ0_init_db425 67 = .ok (.getfield 9, 3) := by decide +kernel
theorem dJ0_init_db425_70 : decode cJ0_init_db425 70 = .ok (.iload 4, 2) := by decide +kernel
theorem dJ0_init_db425_72 : decode cJ0_init_db425 72 = .ok (.invokestatic 47, 3) := by decide +kernel
theorem dJ0_init_db425_75 : decode cJ0_init_db425 75 = .ok (.putfield 15, 3) := by decide +kernel
theorem dJ0_init_db425_78 : decode cJ0_init_db425 78 = .ok (.return_, 1) := by decide +kernel
theorem dJ0_init_db425_79 : decode cJ0_init_db425 79 = .ok (.aload_n 0, 1) := by decide +kernel
theorem dJ0_init_db425_80 : decode cJ0_init_db425 80 = .ok (.iconst 1, 1) := by decide +kernel
theorem dJ0_init_db425_81 : decode cJ0_init_db425 81 = .ok (.putfield 15, 3) := by decide +kernel
theorem dJ0_init_db425_84 : decode cJ0_init_db425 84 = .ok (.aload_n 0, 1) := by decide +kernel
theorem dJ0_init_db425_85 : decode cJ0_init_db425 85 = .ok (.aload_n 3, 1) := by decide +kernel
theorem dJ0_init_db425_86 : decode cJ0_init_db425 86 = .ok (.iconst 0, 1) := by decide +kernel
theorem dJ0_init_db425_87 : decode cJ0_init_db425 87 = .ok (.iload 4, 2) := by decide +kernel
theorem dJ0_init_db425_89 : decode cJ0_init_db425 89 = .ok (.iconst 1, 1) := by decide +kernel
theorem dJ0_init_db425_90 : decode cJ0_init_db425 90 = .ok (.ishl, 1) := by decide +kernel
theorem dJ0_init_db425_91 : decode cJ0_init_db425 91 = .ok (.invokestatic 54, 3) := by decide +kernel
theorem dJ0_init_db425_94 : decode cJ0_init_db425 94 = .ok (.putfield 9, 3) := by decide +kernel
theorem dJ0_init_db425_97 : decode cJ0_init_db425 97 = .ok (.return_, 1) := by decide +kernel
theorem dJ5_getValue_6d5f1_0 : decode cJ5_getValue_6d5f1 0 = .ok (.aload_n 0, 1) := by decide +kernel
theorem dJ5_getValue_6d5f1_1 : decode cJ5_getValue_6d5f1 1 = .ok (.getfield 15, 3) := by decide +kernel
theorem dJ5_getValue_6d5f1_4 : decode cJ5_getValue_6d5f1 4 = .ok (.areturn, 1) := by decide +kernel
theorem dJ4_length_8abf5_0 : decode cJ4_length_8abf5 0 = .ok (.aload_n 0, 1) := by decide +kernel
theorem dJ4_length_8abf5_1 : decode cJ4_length_8abf5 1 = .ok (.invokespecial 343, 3) := by decide +kernel
theorem dJ4_length_8abf5_4 : decode cJ4_length_8abf5 4 = .ok (.ireturn, 1) := by decide +kernel
theorem dJ5_length_8abf5_0 : decode cJ5_length_8abf5 0 = .ok (.aload_n 0, 1) := by decide +kernel
theorem dJ5_length_8abf5_1 : decode cJ5_length_8abf5 1 = .ok (.getfield 79, 3) := by decide +kernel
theorem dJ5_length_8abf5_4 : decode cJ5_length_8abf5 4 = .ok (.ireturn, 1) := by decide +kernel
theorem dJ7_copyOfRange_39247_0 : decode cJ7_copyOfRange_39247 0 = .ok (.iload_n 1, 1) := by decide +kernel
theorem dJ7_copyOfRange_39247_1 : decode cJ7_copyOfRange_39247 1 = .ok (.ifCond .ne 9, 3) := by decide +kernel
theorem dJ7_copyOfRange_39247_4 : decode cJ7_copyOfRange_39247 4 = .ok (.iload_n 2, 1) := by decide +kernel
theorem dJ7_copyOfRange_39247_5 : decode cJ7_copyOfRange_39247 5 = .ok (.aload_n 0, 1) := by decide +kernel
theorem dJ7_copyOfRange_39247_6 : decode cJ7_copyOfRange_39247 6 = .ok (.arraylength, 1) := by decide +kernel
theorem dJ7_copyOfRange_39247_7 : decode cJ7_copyOfRange_39247 7 = .ok (.if_icmp .eq 10, 3) := by decide +kernel
theorem dJ7_copyOfRange_39247_10 : decode cJ7_copyOfRange_39247 10 = .ok (.aload_n 0, 1) := by decide +kernel
theorem dJ7_copyOfRange_39247_11 : decode cJ7_copyOfRange_39247 11 = .ok (.iload_n 1, 1) := by decide +kernel
theorem dJ7_copyOfRange_39247_12 : decode cJ7_copyOfRange_39247 12 = .ok (.iload_n 2, 1) := by decide +kernel
theorem dJ7_copyOfRange_39247_13 : decode cJ7_copyOfRange_39247 13 = .ok (.invokestatic 339, 3) := by decide +kernel
theorem dJ7_copyOfRange_39247_16 : decode cJ7_copyOfRange_39247 16 = .ok (.areturn, 1) := by decide +kernel
theorem dJ7_copyOfRange_39247_17 : decode cJ7_copyOfRange_39247 17 = .ok (.aload_n 0, 1) := by decide +kernel
theorem dJ7_copyOfRange_39247_18 : decode cJ7_copyOfRange_39247 18 = .ok (.invokevirtual 310, 3) := by decide +kernel
theorem dJ7_copyOfRange_39247_21 : decode cJ7_copyOfRange_39247 21 = .ok (.checkcast 311, 3) := by decide +kernel
theorem dJ7_copyOfRange_39247_24 : decode cJ7_copyOfRange_39247 24 = .ok (.areturn, 1) := by decide +kernel
theorem dJ7_copyOfRangeByte_39247_0 : decode cJ7_copyOfRangeByte_39247 0 = .ok (.iload_n 1, 1) := by decide +kernel
theorem dJ7_copyOfRangeByte_39247_1 : decode cJ7_copyOfRangeByte_39247 1 = .ok (.iload_n 2, 1) := by decide +kernel
theorem dJ7_copyOfRangeByte_39247_2 : decode cJ7_copyOfRangeByte_39247 2 = .ok (.invokestatic 343, 3) := by decide +kernel
theorem dJ7_copyOfRangeByte_39247_5 : decode cJ7_copyOfRangeByte_39247 5 = .ok (.iload_n 2, 1) := by decide +kernel
theorem dJ7_copyOfRangeByte_39247_6 : decode cJ7_copyOfRangeByte_39247 6 = .ok (.iload_n 1, 1) := by decide +kernel
theorem dJ7_copyOfRangeByte_39247_7 : decode cJ7_copyOfRangeByte_39247 7 = .ok (.isub, 1) := by decide +kernel
theorem dJ7_copyOfRangeByte_39247_8 : decode cJ7_copyOfRangeByte_39247 8 = .ok (.istore_n 3, 1) := by decide +kernel
theorem dJ7_copyOfRangeByte_39247_9 : decode cJ7_copyOfRangeByte_39247 9 = .ok (.iload_n 3, 1) := by decide +kernel
theorem dJ7_copyOfRangeByte_39247_10 : decode cJ7_copyOfRangeByte_39247 10 = .ok (.newarray .byte, 2) := by decide +kernel
theorem dJ7_copyOfRangeByte_39247_12 : decode cJ7_copyOfRangeByte_39247 12 = .ok (.astore 4, 2) := by decide +kernel
theorem dJ7_copyOfRangeByte_39247_14 : decode cJ7_copyOfRangeByte_39247 14 = .ok (.aload_n 0, 1) := by decide +kernel
theorem dJ7_copyOfRangeByte_39247_15 : decode cJ7_copyOfRangeByte_39247 15 = .ok (.iload_n 1, 1) := by decide +kernel
theorem dJ7_copyOfRangeByte_39247_16 : decode cJ7_copyOfRangeByte_39247 16 = .ok (.aload 4, 2) := by decide +kernel
theorem dJ7_copyOfRangeByte_39247_18 : decode cJ7_copyOfRangeByte_39247 18 = .ok (.iconst 0, 1) := by decide +kernel
theorem dJ7_copyOfRangeByte_39247_19 : decode cJ7_copyOfRangeByte_39247 19 = .ok (.aload_n 0, 1) := by decide +kernel
theorem dJ7_copyOfRangeByte_39247_20 : decode cJ7_copyOfRangeByte_39247 20 = .ok (.arraylength, 1) := by decide +kernel
theorem dJ7_copyOfRangeByte_39247_21 : decode cJ7_copyOfRangeByte_39247 21 = .ok (.iload_n 1, 1) := by decide +kernel
theorem dJ7_copyOfRangeByte_39247_22 : decode cJ7_copyOfRangeByte_39247 22 = .ok (.isub, 1) := by decide +kernel
theorem dJ7_copyOfRangeByte_39247_23 : decode cJ7_copyOfRangeByte_39247 23 = .ok (.iload_n 3, 1) := by decide +kernel
theorem dJ7_copyOfRangeByte_39247_24 : decode cJ7_copyOfRangeByte_39247 24 = .ok (.invokestatic 304, 3) := by decide +kernel
theorem dJ7_copyOfRangeByte_39247_27 : decode cJ7_copyOfRangeByte_39247 27 = .ok (.invokestatic 150, 3) := by decide +kernel
theorem dJ7_copyOfRangeByte_39247_30 : decode cJ7_copyOfRangeByte_39247 30 = .ok (.aload 4, 2) := by decide +kernel
theorem dJ7_copyOfRangeByte_39247_32 : decode cJ7_copyOfRangeByte_39247 32 = .ok (.areturn, 1) := by decide +kernel
theorem dJ7_checkLength_df160_0 : decode cJ7_checkLength_df160 0 = .ok (.iload_n 1, 1) := by decide +kernel
theorem dJ7_checkLength_df160_1 : decode cJ7_checkLength_df160 1 = .ok (.iload_n 0, 1) := by decide +kernel
theorem dJ7_checkLength_df160_2 : decode cJ7_checkLength_df160 2 = .ok (.if_icmp .ge 35, 3) := by decide +kernel
theorem dJ7_checkLength_df160_5 : decode cJ7_checkLength_df160 5 = .ok (.new 43, 3) := by decide +kernel
theorem dJ7_checkLength_df160_8 : decode cJ7_checkLength_df160 8 = .ok (.dup, 1) := by decide +kernel
theorem dJ7_checkLength_df160_9 : decode cJ7_checkLength_df160 9 = .ok (.new 45, 3) := by decide +kernel
theorem dJ7_checkLength_df160_12 : decode cJ7_checkLength_df160 12 = .ok (.dup, 1) := by decide +kernel
theorem dJ7_checkLength_df160_13 : decode cJ7_checkLength_df160 13 = .ok (.invokespecial 47, 3) := by decide +kernel
theorem dJ7_checkLength_df160_16 : decode cJ7_checkLength_df160 16 = .ok (.iload_n 0, 1) := by decide +kernel
theorem dJ7_checkLength_df160_17 : decode cJ7_checkLength_df160 17 = .ok (.invokevirtual 54, 3) := by decide +kernel
theorem dJ7_checkLength_df160_20 : decode cJ7_checkLength_df160 20 = .ok (.ldc_w 337, 3) := by decide +kernel
theorem dJ7_checkLength_df160_23 : decode cJ7_checkLength_df160 23 = .ok (.invokevirtual 50, 3) := by decide +kernel
theorem dJ7_checkLength_df160_26 : decode cJ7_checkLength_df160 26 = .ok (.iload_n 1, 1) := by decide +kernel
theorem dJ7_checkLength_df160_27 : decode cJ7_checkLength_df160 27 = .ok (.invokevirtual 54, 3) := by decide +kernel
theorem dJ7_checkLength_df160_30 : decode cJ7_checkLength_df160 30 = .ok (.invokevirtual 61, 3) := by decide +kernel
theorem dJ7_checkLength_df160_33 : decode cJ7_checkLength_df160 33 = .ok (.invokespecial 65, 3) := by decide +kernel
theorem dJ7_checkLength_df160_36 : decode cJ7_checkLength_df160 36 = .ok (.athrow, 1) := by decide +kernel
theorem dJ7_checkLength_df160_37 : decode cJ7_checkLength_df160 37 = .ok (.return_, 1) := by decide +kernel
theorem dJ0_charAt_5068e_0 : decode cJ0_charAt_5068e 0 = .ok (.aload_n 0, 1) := by decide +kernel
theorem dJ0_charAt_5068e_1 : decode cJ0_charAt_5068e 1 = .ok (.invokevirtual 492, 3) := by decide +kernel
theorem dJ0_charAt_5068e_4 : decode cJ0_charAt_5068e 4 = .ok (.ifCond .eq 12, 3) := by decide +kernel
theorem dJ0_charAt_5068e_7 : decode cJ0_charAt_5068e 7 = .ok (.aload_n 0, 1) := by decide +kernel
theorem dJ0_charAt_5068e_8 : decode cJ0_charAt_5068e 8 = .ok (.getfield 9, 3) := by decide +kernel
theorem dJ0_charAt_5068e_11 : decode cJ0_charAt_5068e 11 = .ok (.iload_n 1, 1) := by decide +kernel
theorem dJ0_charAt_5068e_12 : decode cJ0_charAt_5068e 12 = .ok (.invokestatic 495, 3) := by decide +kernel
theorem dJ0_charAt_5068e_15 : decode cJ0_charAt_5068e 15 = .ok (.ireturn, 1) := by decide +kernel
theorem dJ0_charAt_5068e_16 : decode cJ0_charAt_5068e 16 = .ok (.aload_n 0, 1) := by decide +kernel
theorem dJ0_charAt_5068e_17 : decode cJ0_charAt_5068e 17 = .ok (.getfield 9, 3) := by decide +kernel
theorem dJ0_charAt_5068e_20 : decode cJ0_charAt_5068e 20 = .ok (.iload_n 1, 1) := by decide +kernel
theorem dJ0_charAt_5068e_21 : decode cJ0_charAt_5068e 21 = .ok (.invokestatic 498, 3) := by decide +kernel
theorem dJ0_charAt_5068e_24 : decode cJ0_charAt_5068e 24 = .ok (.ireturn, 1) := by decide +kernel
theorem dJ0_isLatin1_aae02_0 : decode cJ0_isLatin1_aae02 0 = .ok (.getstatic 38, 3) := by decide +kernel
theorem dJ0_isLatin1_aae02_3 : decode cJ0_isLatin1_aae02 3 = .ok (.ifCond .eq 14, 3) := by decide +kernel
theorem dJ0_isLatin1_aae02_6 : decode cJ0_isLatin1_aae02 6 = .ok (.aload_n 0, 1) := by decide +kernel
theorem dJ0_isLatin1_aae02_7 : decode cJ0_isLatin1_aae02 7 = .ok (.getfield 15, 3) := by decide +kernel
theorem dJ0_isLatin1_aae02_10 : decode cJ0_isLatin1_aae02 10 = .ok (.ifCond .ne 7, 3) := by decide +kernel
theorem dJ0_isLatin1_aae02_13 : decode cJ0_isLatin1_aae02 13 = .ok (.iconst 1, 1) := by decide +kernel
theorem dJ0_isLatin1_aae02_14 : decode cJ0_isLatin1_aae02 14 = .ok (.goto 4, 3) := by decide +kernel
theorem dJ0_isLatin1_aae02_17 : decode cJ0_isLatin1_aae02 17 = .ok (.iconst 0, 1) := by decide +kernel
theorem dJ0_isLatin1_aae02_18 : decode cJ0_isLatin1_aae02 18 = .ok (.ireturn, 1) := by decide +kernel
theorem dJ1_charAt_3b067_0 : decode cJ1_charAt_3b067 0 = .ok (.iload_n 1, 1) := by decide +kernel
theorem dJ1_charAt_3b067_1 : decode cJ1_charAt_3b067 1 = .ok (.aload_n 0, 1) := by decide +kernel
theorem dJ1_charAt_3b067_2 : decode cJ1_charAt_3b067 2 = .ok (.arraylength, 1) := by decide +kernel
theorem dJ1_charAt_3b067_3 : decode cJ1_charAt_3b067 3 = .ok (.invokestatic 9, 3) := by decide +kernel
theorem dJ1_charAt_3b067_6 : decode cJ1_charAt_3b067 6 = .ok (.aload_n 0, 1) := by decide +kernel
theorem dJ1_charAt_3b067_7 : decode cJ1_charAt_3b067 7 = .ok (.iload_n 1, 1) := by decide +kernel
theorem dJ1_charAt_3b067_8 : decode cJ1_charAt_3b067 8 = .ok (.baload, 1) := by decide +kernel
theorem dJ1_charAt_3b067_9 : decode cJ1_charAt_3b067 9 = .ok (.sipush 255, 3) := by decide +kernel
theorem dJ1_charAt_3b067_12 : decode cJ1_charAt_3b067 12 = .ok (.iand, 1) := by decide +kernel
theorem dJ1_charAt_3b067_13 : decode cJ1_charAt_3b067 13 = .ok (.i2c, 1) := by decide +kernel
theorem dJ1_charAt_3b067_14 : decode cJ1_charAt_3b067 14 = .ok (.ireturn, 1) := by decide +kernel
theorem dJ0_checkIndex_df160_0 : decode cJ0_checkIndex_df160 0 = .ok (.iload_n 0, 1) := by decide +kernel
theorem dJ0_checkIndex_df160_1 : decode cJ0_checkIndex_df160 1 = .ok (.iload_n 1, 1) := by decide +kernel
theorem dJ0_checkIndex_df160_2 : decode cJ0_checkIndex_df160 2 = .ok (.getstatic 1053, 3) := by decide +kernel
theorem dJ0_checkIndex_df160_5 : decode cJ0_checkIndex_df160 5 = .ok (.invokestatic 1059, 3) := by decide +kernel
theorem dJ0_checkIndex_df160_8 : decode cJ0_checkIndex_df160 8 = .ok (.pop, 1) := by decide +kernel
theorem dJ0_checkIndex_df160_9 : decode cJ0_checkIndex_df160 9 = .ok (.return_, 1) := by decide +kernel
theorem dJ3_checkIndex_8e157_0 : decode cJ3_checkIndex_8e157 0 = .ok (.iload_n 0, 1) := by decide +kernel
theorem dJ3_checkIndex_8e157_1 : decode cJ3_checkIndex_8e157 1 = .ok (.ifCond .lt 8, 3) := by decide +kernel
theorem dJ3_checkIndex_8e157_4 : decode cJ3_checkIndex_8e157 4 = .ok (.iload_n 0, 1) := by decide +kernel
theorem dJ3_checkIndex_8e157_5 : decode cJ3_checkIndex_8e157 5 = .ok (.iload_n 1, 1) := by decide +kernel
theorem dJ3_checkIndex_8e157_6 : decode cJ3_checkIndex_8e157 6 = .ok (.if_icmp .lt 10, 3) := by decide +kernel
theorem dJ3_checkIndex_8e157_9 : decode cJ3_checkIndex_8e157 9 = .ok (.aload_n 2, 1) := by decide +kernel
theorem dJ3_checkIndex_8e157_10 : decode cJ3_checkIndex_8e157 10 = .ok (.iload_n 0, 1) := by decide +kernel
theorem dJ3_checkIndex_8e157_11 : decode cJ3_checkIndex_8e157 11 = .ok (.iload_n 1, 1) := by decide +kernel
theorem dJ3_checkIndex_8e157_12 : decode cJ3_checkIndex_8e157 12 = .ok (.invokestatic 95, 3) := by decide +kernel
theorem dJ3_checkIndex_8e157_15 : decode cJ3_checkIndex_8e157 15 = .ok (.athrow, 1) := by decide +kernel
theorem dJ3_checkIndex_8e157_16 : decode cJ3_checkIndex_8e157 16 = .ok (.iload_n 0, 1) := by decide +kernel
theorem dJ3_checkIndex_8e157_17 : decode cJ3_checkIndex_8e157 17 = .ok (.ireturn, 1) := by decide +kernel
theorem dL_cell_0 : decode cL_cell 0 = .ok (.iload_n 1, 1) := by decide +kernel
theorem dL_cell_1 : decode cL_cell 1 = .ok (.aload_n 0, 1) := by decide +kernel
theorem dL_cell_2 : decode cL_cell 2 = .ok (.arraylength, 1) := by decide +kernel
theorem dL_cell_3 : decode cL_cell 3 = .ok (.if_icmp .ge 9, 3) := by decide +kernel
theorem dL_cell_6 : decode cL_cell 6 = .ok (.aload_n 0, 1) := by decide +kernel
theorem dL_cell_7 : decode cL_cell 7 = .ok (.iload_n 1, 1) := by decide +kernel
theorem dL_cell_8 : decode cL_cell 8 = .ok (.iaload, 1) := by decide +kernel
theorem dL_cell_9 : decode cL_cell 9 = .ok (.goto 11, 3) := by decide +kernel
theorem dL_cell_12 : decode cL_cell 12 = .ok (.sipush 7919, 3) := by decide +kernel
theorem dL_cell_15 : decode cL_cell 15 = .ok (.iload_n 1, 1) := by decide +kernel
theorem dL_cell_16 : decode cL_cell 16 = .ok (.imul, 1) := by decide +kernel
theorem dL_cell_17 : decode cL_cell 17 = .ok (.bipush 12, 2) := by decide +kernel
theorem dL_cell_19 : decode cL_cell 19 = .ok (.iadd, 1) := by decide +kernel
theorem dL_cell_20 : decode cL_cell 20 = .ok (.ireturn, 1) := by decide +kernel
theorem dL_some_0 : decode cL_some 0 = .ok (.aload_n 0, 1) := by decide +kernel
theorem dL_some_1 : decode cL_some 1 = .ok (.iload_n 1, 1) := by decide +kernel
theorem dL_some_2 : decode cL_some 2 = .ok (.invokestatic 7, 3) := by decide +kernel
theorem dL_some_5 : decode cL_some 5 = .ok (.iconst 3, 1) := by decide +kernel
theorem dL_some_6 : decode cL_some 6 = .ok (.iushr, 1) := by decide +kernel
theorem dL_some_7 : decode cL_some 7 = .ok (.iload_n 2, 1) := by decide +kernel
theorem dL_some_8 : decode cL_some 8 = .ok (.irem, 1) := by decide +kernel
theorem dL_some_9 : decode cL_some 9 = .ok (.ireturn, 1) := by decide +kernel
theorem dL_addBasket_0 : decode cL_addBasket 0 = .ok (.aload_n 0, 1) := by decide +kernel
theorem dL_addBasket_1 : decode cL_addBasket 1 = .ok (.iload_n 1, 1) := by decide +kernel
theorem dL_addBasket_2 : decode cL_addBasket 2 = .ok (.iload_n 2, 1) := by decide +kernel
theorem dL_addBasket_3 : decode cL_addBasket 3 = .ok (.iload_n 3, 1) := by decide +kernel
theorem dL_addBasket_4 : decode cL_addBasket 4 = .ok (.invokevirtual 13, 3) := by decide +kernel
theorem dL_addBasket_7 : decode cL_addBasket 7 = .ok (.ireturn, 1) := by decide +kernel
theorem dL_addBasket_8 : decode cL_addBasket 8 = .ok (.astore 4, 2) := by decide +kernel
theorem dL_addBasket_10 : decode cL_addBasket 10 = .ok (.sipush (-20000), 3) := by decide +kernel
theorem dL_addBasket_13 : decode cL_addBasket 13 = .ok (.ireturn, 1) := by decide +kernel
theorem dL_addBasket_14 : decode cL_addBasket 14 = .ok (.astore 4, 2) := by decide +kernel
theorem dL_addBasket_16 : decode cL_addBasket 16 = .ok (.sipush (-10000), 3) := by decide +kernel
theorem dL_addBasket_19 : decode cL_addBasket 19 = .ok (.ireturn, 1) := by decide +kernel
theorem dL_addBasket_20 : decode cL_addBasket 20 = .ok (.astore 4, 2) := by decide +kernel
theorem dL_addBasket_22 : decode cL_addBasket 22 = .ok (.sipush (-15000), 3) := by decide +kernel
theorem dL_addBasket_25 : decode cL_addBasket 25 = .ok (.ireturn, 1) := by decide +kernel
theorem dL_jump_0 : decode cL_jump 0 = .ok (.aload_n 0, 1) := by decide +kernel
theorem dL_jump_1 : decode cL_jump 1 = .ok (.iload_n 1, 1) := by decide +kernel
theorem dL_jump_2 : decode cL_jump 2 = .ok (.iload_n 2, 1) := by decide +kernel
theorem dL_jump_3 : decode cL_jump 3 = .ok (.iload_n 3, 1) := by decide +kernel
theorem dL_jump_4 : decode cL_jump 4 = .ok (.invokevirtual 25, 3) := by decide +kernel
theorem dL_jump_7 : decode cL_jump 7 = .ok (.ireturn, 1) := by decide +kernel
theorem dL_jump_8 : decode cL_jump 8 = .ok (.astore 4, 2) := by decide +kernel
theorem dL_jump_10 : decode cL_jump 10 = .ok (.sipush (-25000), 3) := by decide +kernel
theorem dL_jump_13 : decode cL_jump 13 = .ok (.ireturn, 1) := by decide +kernel
theorem dL_jump_14 : decode cL_jump 14 = .ok (.astore 4, 2) := by decide +kernel
theorem dL_jump_16 : decode cL_jump 16 = .ok (.sipush (-20000), 3) := by decide +kernel
theorem dL_jump_19 : decode cL_jump 19 = .ok (.ireturn, 1) := by decide +kernel
theorem dL_jump_20 : decode cL_jump 20 = .ok (.astore 4, 2) := by decide +kernel
theorem dL_jump_22 : decode cL_jump 22 = .ok (.sipush (-15000), 3) := by decide +kernel
theorem dL_jump_25 : decode cL_jump 25 = .ok (.ireturn, 1) := by decide +kernel
theorem dL_setHandle_0 : decode cL_setHandle 0 = .ok (.aload_n 0, 1) := by decide +kernel
theorem dL_setHandle_1 : decode cL_setHandle 1 = .ok (.iload_n 1, 1) := by decide +kernel
theorem dL_setHandle_2 : decode cL_setHandle 2 = .ok (.iload_n 2, 1) := by decide +kernel
theorem dL_setHandle_3 : decode cL_setHandle 3 = .ok (.invokevirtual 30, 3) := by decide +kernel
theorem dL_setHandle_6 : decode cL_setHandle 6 = .ok (.ireturn, 1) := by decide +kernel
theorem dL_setHandle_7 : decode cL_setHandle 7 = .ok (.astore_n 3, 1) := by decide +kernel
theorem dL_setHandle_8 : decode cL_setHandle 8 = .ok (.sipush (-25000), 3) := by decide +kernel
theorem dL_setHandle_11 : decode cL_setHandle 11 = .ok (.ireturn, 1) := by decide +kernel
theorem dL_setHandle_12 : decode cL_setHandle 12 = .ok (.astore_n 3, 1) := by decide +kernel
theorem dL_setHandle_13 : decode cL_setHandle 13 = .ok (.sipush (-20000), 3) := by decide +kernel
theorem dL_setHandle_16 : decode cL_setHandle 16 = .ok (.ireturn, 1) := by decide +kernel
theorem dL_basketAt_0 : decode cL_basketAt 0 = .ok (.aload_n 0, 1) := by decide +kernel
theorem dL_basketAt_1 : decode cL_basketAt 1 = .ok (.iload_n 1, 1) := by decide +kernel
theorem dL_basketAt_2 : decode cL_basketAt 2 = .ok (.iload_n 2, 1) := by decide +kernel
theorem dL_basketAt_3 : decode cL_basketAt 3 = .ok (.invokevirtual 34, 3) := by decide +kernel
theorem dL_basketAt_6 : decode cL_basketAt 6 = .ok (.ireturn, 1) := by decide +kernel
theorem dL_basketAt_7 : decode cL_basketAt 7 = .ok (.astore_n 3, 1) := by decide +kernel
theorem dL_basketAt_8 : decode cL_basketAt 8 = .ok (.sipush (-20000), 3) := by decide +kernel
theorem dL_basketAt_11 : decode cL_basketAt 11 = .ok (.ireturn, 1) := by decide +kernel
theorem dL_basketAt_12 : decode cL_basketAt 12 = .ok (.astore_n 3, 1) := by decide +kernel
theorem dL_basketAt_13 : decode cL_basketAt 13 = .ok (.sipush (-30000), 3) := by decide +kernel
theorem dL_basketAt_16 : decode cL_basketAt 16 = .ok (.ireturn, 1) := by decide +kernel
theorem dL_nearestTo_0 : decode cL_nearestTo 0 = .ok (.aload_n 0, 1) := by decide +kernel
theorem dL_nearestTo_1 : decode cL_nearestTo 1 = .ok (.iload_n 1, 1) := by decide +kernel
theorem dL_nearestTo_2 : decode cL_nearestTo 2 = .ok (.invokevirtual 39, 3) := by decide +kernel
theorem dL_nearestTo_5 : decode cL_nearestTo 5 = .ok (.ireturn, 1) := by decide +kernel
theorem dL_nearestTo_6 : decode cL_nearestTo 6 = .ok (.astore_n 2, 1) := by decide +kernel
theorem dL_nearestTo_7 : decode cL_nearestTo 7 = .ok (.sipush (-25000), 3) := by decide +kernel
theorem dL_nearestTo_10 : decode cL_nearestTo 10 = .ok (.ireturn, 1) := by decide +kernel
theorem dL_nearestTo_11 : decode cL_nearestTo 11 = .ok (.astore_n 2, 1) := by decide +kernel
theorem dL_nearestTo_12 : decode cL_nearestTo 12 = .ok (.sipush (-30000), 3) := by decide +kernel
theorem dL_nearestTo_15 : decode cL_nearestTo 15 = .ok (.ireturn, 1) := by decide +kernel
theorem dL_addCloud_0 : decode cL_addCloud 0 = .ok (.aload_n 0, 1) := by decide +kernel
theorem dL_addCloud_1 : decode cL_addCloud 1 = .ok (.iload_n 1, 1) := by decide +kernel
theorem dL_addCloud_2 : decode cL_addCloud 2 = .ok (.iload_n 2, 1) := by decide +kernel
theorem dL_addCloud_3 : decode cL_addCloud 3 = .ok (.invokevirtual 43, 3) := by decide +kernel
theorem dL_addCloud_6 : decode cL_addCloud 6 = .ok (.ireturn, 1) := by decide +kernel
theorem dL_addCloud_7 : decode cL_addCloud 7 = .ok (.astore_n 3, 1) := by decide +kernel
theorem dL_addCloud_8 : decode cL_addCloud 8 = .ok (.sipush (-20000), 3) := by decide +kernel
theorem dL_addCloud_11 : decode cL_addCloud 11 = .ok (.ireturn, 1) := by decide +kernel
theorem dL_addCloud_12 : decode cL_addCloud 12 = .ok (.astore_n 3, 1) := by decide +kernel
theorem dL_addCloud_13 : decode cL_addCloud 13 = .ok (.sipush (-10000), 3) := by decide +kernel
theorem dL_addCloud_16 : decode cL_addCloud 16 = .ok (.ireturn, 1) := by decide +kernel
theorem dL_addCloud_17 : decode cL_addCloud 17 = .ok (.astore_n 3, 1) := by decide +kernel
theorem dL_addCloud_18 : decode cL_addCloud 18 = .ok (.sipush (-15000), 3) := by decide +kernel
theorem dL_addCloud_21 : decode cL_addCloud 21 = .ok (.ireturn, 1) := by decide +kernel
theorem dL_removeCloud_0 : decode cL_removeCloud 0 = .ok (.aload_n 0, 1) := by decide +kernel
theorem dL_removeCloud_1 : decode cL_removeCloud 1 = .ok (.iload_n 1, 1) := by decide +kernel
theorem dL_removeCloud_2 : decode cL_removeCloud 2 = .ok (.iload_n 2, 1) := by decide +kernel
theorem dL_removeCloud_3 : decode cL_removeCloud 3 = .ok (.invokevirtual 46, 3) := by decide +kernel
theorem dL_removeCloud_6 : decode cL_removeCloud 6 = .ok (.ireturn, 1) := by decide +kernel
theorem dL_removeCloud_7 : decode cL_removeCloud 7 = .ok (.astore_n 3, 1) := by decide +kernel
theorem dL_removeCloud_8 : decode cL_removeCloud 8 = .ok (.sipush (-20000), 3) := by decide +kernel
theorem dL_removeCloud_11 : decode cL_removeCloud 11 = .ok (.ireturn, 1) := by decide +kernel
theorem dL_removeCloud_12 : decode cL_removeCloud 12 = .ok (.astore_n 3, 1) := by decide +kernel
theorem dL_removeCloud_13 : decode cL_removeCloud 13 = .ok (.sipush (-30000), 3) := by decide +kernel
theorem dL_removeCloud_16 : decode cL_removeCloud 16 = .ok (.ireturn, 1) := by decide +kernel
theorem dL_setTurnLength_0 : decode cL_setTurnLength 0 = .ok (.aload_n 0, 1) := by decide +kernel
theorem dL_setTurnLength_1 : decode cL_setTurnLength 1 = .ok (.iload_n 1, 1) := by decide +kernel
theorem dL_setTurnLength_2 : decode cL_setTurnLength 2 = .ok (.invokevirtual 49, 3) := by decide +kernel
theorem dL_setTurnLength_5 : decode cL_setTurnLength 5 = .ok (.ireturn, 1) := by decide +kernel
theorem dL_setTurnLength_6 : decode cL_setTurnLength 6 = .ok (.astore_n 2, 1) := by decide +kernel
theorem dL_setTurnLength_7 : decode cL_setTurnLength 7 = .ok (.sipush (-20000), 3) := by decide +kernel
theorem dL_setTurnLength_10 : decode cL_setTurnLength 10 = .ok (.ireturn, 1) := by decide +kernel
theorem dL_leaderAfter_0 : decode cL_leaderAfter 0 = .ok (.aload_n 0, 1) := by decide +kernel
theorem dL_leaderAfter_1 : decode cL_leaderAfter 1 = .ok (.iload_n 1, 1) := by decide +kernel
theorem dL_leaderAfter_2 : decode cL_leaderAfter 2 = .ok (.invokevirtual 52, 3) := by decide +kernel
theorem dL_leaderAfter_5 : decode cL_leaderAfter 5 = .ok (.ireturn, 1) := by decide +kernel
theorem dL_leaderAfter_6 : decode cL_leaderAfter 6 = .ok (.astore_n 2, 1) := by decide +kernel
theorem dL_leaderAfter_7 : decode cL_leaderAfter 7 = .ok (.sipush (-20000), 3) := by decide +kernel
theorem dL_leaderAfter_10 : decode cL_leaderAfter 10 = .ok (.ireturn, 1) := by decide +kernel
theorem dL_leaderAfter_11 : decode cL_leaderAfter 11 = .ok (.astore_n 2, 1) := by decide +kernel
theorem dL_leaderAfter_12 : decode cL_leaderAfter 12 = .ok (.sipush (-30000), 3) := by decide +kernel
theorem dL_leaderAfter_15 : decode cL_leaderAfter 15 = .ok (.ireturn, 1) := by decide +kernel
theorem dL_leaderAfterByCounting_0 : decode cL_leaderAfterByCounting 0 = .ok (.aload_n 0, 1) := by decide +kernel
theorem dL_leaderAfterByCounting_1 : decode cL_leaderAfterByCounting 1 = .ok (.iload_n 1, 1) := by decide +kernel
theorem dL_leaderAfterByCounting_2 : decode cL_leaderAfterByCounting 2 = .ok (.invokevirtual 55, 3) := by decide +kernel
theorem dL_leaderAfterByCounting_5 : decode cL_leaderAfterByCounting 5 = .ok (.ireturn, 1) := by decide +kernel
theorem dL_leaderAfterByCounting_6 : decode cL_leaderAfterByCounting 6 = .ok (.astore_n 2, 1) := by decide +kernel
theorem dL_leaderAfterByCounting_7 : decode cL_leaderAfterByCounting 7 = .ok (.sipush (-20000), 3) := by decide +kernel
theorem dL_leaderAfterByCounting_10 : decode cL_leaderAfterByCounting 10 = .ok (.ireturn, 1) := by decide +kernel
theorem dL_leaderAfterByCounting_11 : decode cL_leaderAfterByCounting 11 = .ok (.astore_n 2, 1) := by decide +kernel
theorem dL_leaderAfterByCounting_12 : decode cL_leaderAfterByCounting 12 = .ok (.sipush (-30000), 3) := by decide +kernel
theorem dL_leaderAfterByCounting_15 : decode cL_leaderAfterByCounting 15 = .ok (.ireturn, 1) := by decide +kernel
theorem dL_setTarget_0 : decode cL_setTarget 0 = .ok (.aload_n 0, 1) := by decide +kernel
theorem dL_setTarget_1 : decode cL_setTarget 1 = .ok (.iload_n 1, 1) := by decide +kernel
theorem dL_setTarget_2 : decode cL_setTarget 2 = .ok (.iload_n 2, 1) := by decide +kernel
theorem dL_setTarget_3 : decode cL_setTarget 3 = .ok (.invokevirtual 58, 3) := by decide +kernel
theorem dL_setTarget_6 : decode cL_setTarget 6 = .ok (.ireturn, 1) := by decide +kernel
theorem dL_setTarget_7 : decode cL_setTarget 7 = .ok (.astore_n 3, 1) := by decide +kernel
theorem dL_setTarget_8 : decode cL_setTarget 8 = .ok (.sipush (-20000), 3) := by decide +kernel
theorem dL_setTarget_11 : decode cL_setTarget 11 = .ok (.ireturn, 1) := by decide +kernel
theorem dL_setTarget_12 : decode cL_setTarget 12 = .ok (.astore_n 3, 1) := by decide +kernel
theorem dL_setTarget_13 : decode cL_setTarget 13 = .ok (.sipush (-30000), 3) := by decide +kernel
theorem dL_setTarget_16 : decode cL_setTarget 16 = .ok (.ireturn, 1) := by decide +kernel
theorem dL_setKeep_0 : decode cL_setKeep 0 = .ok (.aload_n 0, 1) := by decide +kernel
theorem dL_setKeep_1 : decode cL_setKeep 1 = .ok (.iload_n 1, 1) := by decide +kernel
theorem dL_setKeep_2 : decode cL_setKeep 2 = .ok (.invokevirtual 61, 3) := by decide +kernel
theorem dL_setKeep_5 : decode cL_setKeep 5 = .ok (.ireturn, 1) := by decide +kernel
theorem dL_setKeep_6 : decode cL_setKeep 6 = .ok (.astore_n 2, 1) := by decide +kernel
theorem dL_setKeep_7 : decode cL_setKeep 7 = .ok (.sipush (-20000), 3) := by decide +kernel
theorem dL_setKeep_10 : decode cL_setKeep 10 = .ok (.ireturn, 1) := by decide +kernel
theorem dL_advance_0 : decode cL_advance 0 = .ok (.aload_n 0, 1) := by decide +kernel
theorem dL_advance_1 : decode cL_advance 1 = .ok (.iload_n 1, 1) := by decide +kernel
theorem dL_advance_2 : decode cL_advance 2 = .ok (.invokevirtual 64, 3) := by decide +kernel
theorem dL_advance_5 : decode cL_advance 5 = .ok (.ireturn, 1) := by decide +kernel
theorem dL_advance_6 : decode cL_advance 6 = .ok (.astore_n 2, 1) := by decide +kernel
theorem dL_advance_7 : decode cL_advance 7 = .ok (.sipush (-20000), 3) := by decide +kernel
theorem dL_advance_10 : decode cL_advance 10 = .ok (.ireturn, 1) := by decide +kernel
theorem dL_stepsSinceShape_0 : decode cL_stepsSinceShape 0 = .ok (.aload_n 0, 1) := by decide +kernel
theorem dL_stepsSinceShape_1 : decode cL_stepsSinceShape 1 = .ok (.invokevirtual 67, 3) := by decide +kernel
theorem dL_stepsSinceShape_4 : decode cL_stepsSinceShape 4 = .ok (.ireturn, 1) := by decide +kernel
theorem dL_stepsSinceShape_5 : decode cL_stepsSinceShape 5 = .ok (.astore_n 1, 1) := by decide +kernel
theorem dL_stepsSinceShape_6 : decode cL_stepsSinceShape 6 = .ok (.sipush (-30000), 3) := by decide +kernel
theorem dL_stepsSinceShape_9 : decode cL_stepsSinceShape 9 = .ok (.ireturn, 1) := by decide +kernel
theorem dL_basketAtRank_0 : decode cL_basketAtRank 0 = .ok (.aload_n 0, 1) := by decide +kernel
theorem dL_basketAtRank_1 : decode cL_basketAtRank 1 = .ok (.iload_n 1, 1) := by decide +kernel
theorem dL_basketAtRank_2 : decode cL_basketAtRank 2 = .ok (.invokevirtual 71, 3) := by decide +kernel
theorem dL_basketAtRank_5 : decode cL_basketAtRank 5 = .ok (.ireturn, 1) := by decide +kernel
theorem dL_basketAtRank_6 : decode cL_basketAtRank 6 = .ok (.astore_n 2, 1) := by decide +kernel
theorem dL_basketAtRank_7 : decode cL_basketAtRank 7 = .ok (.sipush (-30000), 3) := by decide +kernel
theorem dL_basketAtRank_10 : decode cL_basketAtRank 10 = .ok (.ireturn, 1) := by decide +kernel
theorem dL_build_0 : decode cL_build 0 = .ok (.iconst 0, 1) := by decide +kernel
theorem dL_build_1 : decode cL_build 1 = .ok (.istore_n 2, 1) := by decide +kernel
theorem dL_build_2 : decode cL_build 2 = .ok (.iconst 0, 1) := by decide +kernel
theorem dL_build_3 : decode cL_build 3 = .ok (.istore_n 3, 1) := by decide +kernel
theorem dL_build_4 : decode cL_build 4 = .ok (.iload_n 3, 1) := by decide +kernel
theorem dL_build_5 : decode cL_build 5 = .ok (.bipush 6, 2) := by decide +kernel
theorem dL_build_7 : decode cL_build 7 = .ok (.if_icmp .ge 40, 3) := by decide +kernel
theorem dL_build_10 : decode cL_build 10 = .ok (.aload_n 0, 1) := by decide +kernel
theorem dL_build_11 : decode cL_build 11 = .ok (.aload_n 1, 1) := by decide +kernel
theorem dL_build_12 : decode cL_build 12 = .ok (.iload_n 3, 1) := by decide +kernel
theorem dL_build_13 : decode cL_build 13 = .ok (.bipush 12, 2) := by decide +kernel
theorem dL_build_15 : decode cL_build 15 = .ok (.invokestatic 74, 3) := by decide +kernel
theorem dL_build_18 : decode cL_build 18 = .ok (.aload_n 1, 1) := by decide +kernel
theorem dL_build_19 : decode cL_build 19 = .ok (.bipush 8, 2) := by decide +kernel
theorem dL_build_21 : decode cL_build 21 = .ok (.iload_n 3, 1) := by decide +kernel
theorem dL_build_22 : decode cL_build 22 = .ok (.iadd, 1) := by decide +kernel
theorem dL_build_23 : decode cL_build 23 = .ok (.bipush 12, 2) := by decide +kernel
theorem dL_build_25 : decode cL_build 25 = .ok (.invokestatic 74, 3) := by decide +kernel
theorem dL_build_28 : decode cL_build 28 = .ok (.aload_n 1, 1) := by decide +kernel
theorem dL_build_29 : decode cL_build 29 = .ok (.bipush 16, 2) := by decide +kernel
theorem dL_build_31 : decode cL_build 31 = .ok (.iload_n 3, 1) := by decide +kernel
theorem dL_build_32 : decode cL_build 32 = .ok (.iadd, 1) := by decide +kernel
theorem dL_build_33 : decode cL_build 33 = .ok (.iconst 3, 1) := by decide +kernel
theorem dL_build_34 : decode cL_build 34 = .ok (.invokestatic 74, 3) := by decide +kernel
theorem dL_build_37 : decode cL_build 37 = .ok (.invokestatic 78, 3) := by decide +kernel
theorem dL_build_40 : decode cL_build 40 = .ok (.istore_n 2, 1) := by decide +kernel
theorem dL_build_41 : decode cL_build 41 = .ok (.iinc 3 1, 3) := by decide +kernel
theorem dL_build_44 : decode cL_build 44 = .ok (.goto (-40), 3) := by decide +kernel
theorem dL_build_47 : decode cL_build 47 = .ok (.iconst 0, 1) := by decide +kernel
theorem dL_build_48 : decode cL_build 48 = .ok (.istore_n 3, 1) := by decide +kernel
theorem dL_build_49 : decode cL_build 49 = .ok (.iload_n 3, 1) := by decide +kernel
theorem dL_build_50 : decode cL_build 50 = .ok (.iconst 4, 1) := by decide +kernel
theorem dL_build_51 : decode cL_build 51 = .ok (.if_icmp .ge 34, 3) := by decide +kernel
theorem dL_build_54 : decode cL_build 54 = .ok (.aload_n 0, 1) := by decide +kernel
theorem dL_build_55 : decode cL_build 55 = .ok (.aload_n 1, 1) := by decide +kernel
theorem dL_build_56 : decode cL_build 56 = .ok (.bipush 24, 2) := by decide +kernel
theorem dL_build_58 : decode cL_build 58 = .ok (.iload_n 3, 1) := by decide +kernel
theorem dL_build_59 : decode cL_build 59 = .ok (.iadd, 1) := by decide +kernel
theorem dL_build_60 : decode cL_build 60 = .ok (.bipush 12, 2) := by decide +kernel
theorem dL_build_62 : decode cL_build 62 = .ok (.invokestatic 74, 3) := by decide +kernel
theorem dL_build_65 : decode cL_build 65 = .ok (.aload_n 1, 1) := by decide +kernel
theorem dL_build_66 : decode cL_build 66 = .ok (.bipush 28, 2) := by decide +kernel
theorem dL_build_68 : decode cL_build 68 = .ok (.iload_n 3, 1) := by decide +kernel
theorem dL_build_69 : decode cL_build 69 = .ok (.iadd, 1) := by decide +kernel
theorem dL_build_70 : decode cL_build 70 = .ok (.bipush 12, 2) := by decide +kernel
theorem dL_build_72 : decode cL_build 72 = .ok (.invokestatic 74, 3) := by decide +kernel
theorem dL_build_75 : decode cL_build 75 = .ok (.invokestatic 81, 3) := by decide +kernel
theorem dL_build_78 : decode cL_build 78 = .ok (.istore_n 2, 1) := by decide +kernel
theorem dL_build_79 : decode cL_build 79 = .ok (.iinc 3 1, 3) := by decide +kernel
theorem dL_build_82 : decode cL_build 82 = .ok (.goto (-33), 3) := by decide +kernel
theorem dL_build_85 : decode cL_build 85 = .ok (.aload_n 0, 1) := by decide +kernel
theorem dL_build_86 : decode cL_build 86 = .ok (.aload_n 1, 1) := by decide +kernel
theorem dL_build_87 : decode cL_build 87 = .ok (.bipush 32, 2) := by decide +kernel
theorem dL_build_89 : decode cL_build 89 = .ok (.bipush 12, 2) := by decide +kernel
theorem dL_build_91 : decode cL_build 91 = .ok (.invokestatic 74, 3) := by decide +kernel
theorem dL_build_94 : decode cL_build 94 = .ok (.aload_n 1, 1) := by decide +kernel
theorem dL_build_95 : decode cL_build 95 = .ok (.bipush 33, 2) := by decide +kernel
theorem dL_build_97 : decode cL_build 97 = .ok (.bipush 12, 2) := by decide +kernel
theorem dL_build_99 : decode cL_build 99 = .ok (.invokestatic 74, 3) := by decide +kernel
theorem dL_build_102 : decode cL_build 102 = .ok (.invokestatic 84, 3) := by decide +kernel
theorem dL_build_105 : decode cL_build 105 = .ok (.istore_n 2, 1) := by decide +kernel
theorem dL_build_106 : decode cL_build 106 = .ok (.iconst 0, 1) := by decide +kernel
theorem dL_build_107 : decode cL_build 107 = .ok (.istore_n 3, 1) := by decide +kernel
theorem dL_build_108 : decode cL_build 108 = .ok (.iload_n 3, 1) := by decide +kernel
theorem dL_build_109 : decode cL_build 109 = .ok (.bipush 12, 2) := by decide +kernel
theorem dL_build_111 : decode cL_build 111 = .ok (.if_icmp .ge 20, 3) := by decide +kernel
theorem dL_build_114 : decode cL_build 114 = .ok (.aload_n 0, 1) := by decide +kernel
theorem dL_build_115 : decode cL_build 115 = .ok (.aload_n 1, 1) := by decide +kernel
theorem dL_build_116 : decode cL_build 116 = .ok (.bipush 34, 2) := by decide +kernel
theorem dL_build_118 : decode cL_build 118 = .ok (.iconst 4, 1) := by decide +kernel
theorem dL_build_119 : decode cL_build 119 = .ok (.iload_n 3, 1) := by decide +kernel
theorem dL_build_120 : decode cL_build 120 = .ok (.imul, 1) := by decide +kernel
theorem dL_build_121 : decode cL_build 121 = .ok (.iadd, 1) := by decide +kernel
theorem dL_build_122 : decode cL_build 122 = .ok (.invokestatic 86, 3) := by decide +kernel
theorem dL_build_125 : decode cL_build 125 = .ok (.iinc 3 1, 3) := by decide +kernel
theorem dL_build_128 : decode cL_build 128 = .ok (.goto (-20), 3) := by decide +kernel
theorem dL_build_131 : decode cL_build 131 = .ok (.return_, 1) := by decide +kernel
theorem dL_acts_0 : decode cL_acts 0 = .ok (.aload_n 1, 1) := by decide +kernel
theorem dL_acts_1 : decode cL_acts 1 = .ok (.iload_n 2, 1) := by decide +kernel
theorem dL_acts_2 : decode cL_acts 2 = .ok (.iconst 1, 1) := by decide +kernel
theorem dL_acts_3 : decode cL_acts 3 = .ok (.iadd, 1) := by decide +kernel
theorem dL_acts_4 : decode cL_acts 4 = .ok (.bipush 12, 2) := by decide +kernel
theorem dL_acts_6 : decode cL_acts 6 = .ok (.invokestatic 74, 3) := by decide +kernel
theorem dL_acts_9 : decode cL_acts 9 = .ok (.istore_n 3, 1) := by decide +kernel
theorem dL_acts_10 : decode cL_acts 10 = .ok (.aload_n 1, 1) := by decide +kernel
theorem dL_acts_11 : decode cL_acts 11 = .ok (.iload_n 2, 1) := by decide +kernel
theorem dL_acts_12 : decode cL_acts 12 = .ok (.iconst 2, 1) := by decide +kernel
theorem dL_acts_13 : decode cL_acts 13 = .ok (.iadd, 1) := by decide +kernel
theorem dL_acts_14 : decode cL_acts 14 = .ok (.bipush 12, 2) := by decide +kernel
theorem dL_acts_16 : decode cL_acts 16 = .ok (.invokestatic 74, 3) := by decide +kernel
theorem dL_acts_19 : decode cL_acts 19 = .ok (.istore 4, 2) := by decide +kernel
theorem dL_acts_21 : decode cL_acts 21 = .ok (.aload_n 1, 1) := by decide +kernel
theorem dL_acts_22 : decode cL_acts 22 = .ok (.iload_n 2, 1) := by decide +kernel
theorem dL_acts_23 : decode cL_acts 23 = .ok (.iconst 3, 1) := by decide +kernel
theorem dL_acts_24 : decode cL_acts 24 = .ok (.iadd, 1) := by decide +kernel
theorem dL_acts_25 : decode cL_acts 25 = .ok (.bipush 30, 2) := by decide +kernel
theorem dL_acts_27 : decode cL_acts 27 = .ok (.invokestatic 74, 3) := by decide +kernel
theorem dL_acts_30 : decode cL_acts 30 = .ok (.istore 5, 2) := by decide +kernel
theorem dL_acts_32 : decode cL_acts 32 = .ok (.aload_n 0, 1) := by decide +kernel
theorem dL_acts_33 : decode cL_acts 33 = .ok (.invokevirtual 90, 3) := by decide +kernel
theorem dL_acts_36 : decode cL_acts 36 = .ok (.istore 6, 2) := by decide +kernel
theorem dL_acts_38 : decode cL_acts 38 = .ok (.aload_n 1, 1) := by decide +kernel
theorem dL_acts_39 : decode cL_acts 39 = .ok (.iload_n 2, 1) := by decide +kernel
theorem dL_acts_40 : decode cL_acts 40 = .ok (.bipush 14, 2) := by decide +kernel
theorem dL_acts_42 : decode cL_acts 42 = .ok (.invokestatic 74, 3) := by decide +kernel
theorem dL_acts_45 : decode cL_acts 45 = .ok (.tableswitch 183 0 9 #[55, 82, 82, 99, 116, 128, 140, 156, 156, 168], 55) := by decide +kernel
theorem dL_acts_100 : decode cL_acts 100 = .ok (.iload 6, 2) := by decide +kernel
theorem dL_acts_102 : decode cL_acts 102 = .ok (.bipush 9, 2) := by decide +kernel
theorem dL_acts_104 : decode cL_acts 104 = .ok (.if_icmp .ge 17, 3) := by decide +kernel
theorem dL_acts_107 : decode cL_acts 107 = .ok (.aload_n 0, 1) := by decide +kernel
theorem dL_acts_108 : decode cL_acts 108 = .ok (.iload_n 3, 1) := by decide +kernel
theorem dL_acts_109 : decode cL_acts 109 = .ok (.iload 4, 2) := by decide +kernel
theorem dL_acts_111 : decode cL_acts 111 = .ok (.iload 5, 2) := by decide +kernel
theorem dL_acts_113 : decode cL_acts 113 = .ok (.iconst 3, 1) := by decide +kernel
theorem dL_acts_114 : decode cL_acts 114 = .ok (.irem, 1) := by decide +kernel
theorem dL_acts_115 : decode cL_acts 115 = .ok (.invokestatic 78, 3) := by decide +kernel
theorem dL_acts_118 : decode cL_acts 118 = .ok (.goto 4, 3) := by decide +kernel
theorem dL_acts_121 : decode cL_acts 121 = .ok (.iconst 0, 1) := by decide +kernel
theorem dL_acts_122 : decode cL_acts 122 = .ok (.istore 7, 2) := by decide +kernel
theorem dL_acts_124 : decode cL_acts 124 = .ok (.goto 117, 3) := by decide +kernel
theorem dL_acts_127 : decode cL_acts 127 = .ok (.aload_n 0, 1) := by decide +kernel
theorem dL_acts_128 : decode cL_acts 128 = .ok (.iload 5, 2) := by decide +kernel
theorem dL_acts_130 : decode cL_acts 130 = .ok (.iload 6, 2) := by decide +kernel
theorem dL_acts_132 : decode cL_acts 132 = .ok (.irem, 1) := by decide +kernel
theorem dL_acts_133 : decode cL_acts 133 = .ok (.iload_n 3, 1) := by decide +kernel
theorem dL_acts_134 : decode cL_acts 134 = .ok (.iload 4, 2) := by decide +kernel
theorem dL_acts_136 : decode cL_acts 136 = .ok (.invokestatic 93, 3) := by decide +kernel
theorem dL_acts_139 : decode cL_acts 139 = .ok (.istore 7, 2) := by decide +kernel
theorem dL_acts_141 : decode cL_acts 141 = .ok (.goto 100, 3) := by decide +kernel
theorem dL_acts_144 : decode cL_acts 144 = .ok (.aload_n 0, 1) := by decide +kernel
theorem dL_acts_145 : decode cL_acts 145 = .ok (.iload 5, 2) := by decide +kernel
theorem dL_acts_147 : decode cL_acts 147 = .ok (.iload 6, 2) := by decide +kernel
theorem dL_acts_149 : decode cL_acts 149 = .ok (.irem, 1) := by decide +kernel
theorem dL_acts_150 : decode cL_acts 150 = .ok (.iload_n 3, 1) := by decide +kernel
theorem dL_acts_151 : decode cL_acts 151 = .ok (.iconst 3, 1) := by decide +kernel
theorem dL_acts_152 : decode cL_acts 152 = .ok (.irem, 1) := by decide +kernel
theorem dL_acts_153 : decode cL_acts 153 = .ok (.invokestatic 95, 3) := by decide +kernel
theorem dL_acts_156 : decode cL_acts 156 = .ok (.istore 7, 2) := by decide +kernel
theorem dL_acts_158 : decode cL_acts 158 = .ok (.goto 83, 3) := by decide +kernel
theorem dL_acts_161 : decode cL_acts 161 = .ok (.aload_n 0, 1) := by decide +kernel
theorem dL_acts_162 : decode cL_acts 162 = .ok (.iload_n 3, 1) := by decide +kernel
theorem dL_acts_163 : decode cL_acts 163 = .ok (.iload 4, 2) := by decide +kernel
theorem dL_acts_165 : decode cL_acts 165 = .ok (.invokestatic 81, 3) := by decide +kernel
theorem dL_acts_168 : decode cL_acts 168 = .ok (.istore 7, 2) := by decide +kernel
theorem dL_acts_170 : decode cL_acts 170 = .ok (.goto 71, 3) := by decide +kernel
theorem dL_acts_173 : decode cL_acts 173 = .ok (.aload_n 0, 1) := by decide +kernel
theorem dL_acts_174 : decode cL_acts 174 = .ok (.iload_n 3, 1) := by decide +kernel
theorem dL_acts_175 : decode cL_acts 175 = .ok (.iload 4, 2) := by decide +kernel
theorem dL_acts_177 : decode cL_acts 177 = .ok (.invokestatic 97, 3) := by decide +kernel
theorem dL_acts_180 : decode cL_acts 180 = .ok (.istore 7, 2) := by decide +kernel
theorem dL_acts_182 : decode cL_acts 182 = .ok (.goto 59, 3) := by decide +kernel
theorem dL_acts_185 : decode cL_acts 185 = .ok (.aload_n 0, 1) := by decide +kernel
theorem dL_acts_186 : decode cL_acts 186 = .ok (.iconst 2, 1) := by decide +kernel
theorem dL_acts_187 : decode cL_acts 187 = .ok (.iload 5, 2) := by decide +kernel
theorem dL_acts_189 : decode cL_acts 189 = .ok (.bipush 8, 2) := by decide +kernel
theorem dL_acts_191 : decode cL_acts 191 = .ok (.irem, 1) := by decide +kernel
theorem dL_acts_192 : decode cL_acts 192 = .ok (.iadd, 1) := by decide +kernel
theorem dL_acts_193 : decode cL_acts 193 = .ok (.invokestatic 99, 3) := by decide +kernel
theorem dL_acts_196 : decode cL_acts 196 = .ok (.istore 7, 2) := by decide +kernel
theorem dL_acts_198 : decode cL_acts 198 = .ok (.goto 43, 3) := by decide +kernel
theorem dL_acts_201 : decode cL_acts 201 = .ok (.aload_n 0, 1) := by decide +kernel
theorem dL_acts_202 : decode cL_acts 202 = .ok (.iload_n 3, 1) := by decide +kernel
theorem dL_acts_203 : decode cL_acts 203 = .ok (.iload 4, 2) := by decide +kernel
theorem dL_acts_205 : decode cL_acts 205 = .ok (.invokestatic 84, 3) := by decide +kernel
theorem dL_acts_208 : decode cL_acts 208 = .ok (.istore 7, 2) := by decide +kernel
theorem dL_acts_210 : decode cL_acts 210 = .ok (.goto 31, 3) := by decide +kernel
theorem dL_acts_213 : decode cL_acts 213 = .ok (.aload_n 0, 1) := by decide +kernel
theorem dL_acts_214 : decode cL_acts 214 = .ok (.iconst 2, 1) := by decide +kernel
theorem dL_acts_215 : decode cL_acts 215 = .ok (.iload 5, 2) := by decide +kernel
theorem dL_acts_217 : decode cL_acts 217 = .ok (.iconst 5, 1) := by decide +kernel
theorem dL_acts_218 : decode cL_acts 218 = .ok (.irem, 1) := by decide +kernel
theorem dL_acts_219 : decode cL_acts 219 = .ok (.iadd, 1) := by decide +kernel
theorem dL_acts_220 : decode cL_acts 220 = .ok (.invokestatic 102, 3) := by decide +kernel
theorem dL_acts_223 : decode cL_acts 223 = .ok (.istore 7, 2) := by decide +kernel
theorem dL_acts_225 : decode cL_acts 225 = .ok (.goto 16, 3) := by decide +kernel
theorem dL_acts_228 : decode cL_acts 228 = .ok (.aload_n 0, 1) := by decide +kernel
theorem dL_acts_229 : decode cL_acts 229 = .ok (.iconst 1, 1) := by decide +kernel
theorem dL_acts_230 : decode cL_acts 230 = .ok (.iload 5, 2) := by decide +kernel
theorem dL_acts_232 : decode cL_acts 232 = .ok (.bipush 6, 2) := by decide +kernel
theorem dL_acts_234 : decode cL_acts 234 = .ok (.irem, 1) := by decide +kernel
theorem dL_acts_235 : decode cL_acts 235 = .ok (.iadd, 1) := by decide +kernel
theorem dL_acts_236 : decode cL_acts 236 = .ok (.invokestatic 104, 3) := by decide +kernel
theorem dL_acts_239 : decode cL_acts 239 = .ok (.istore 7, 2) := by decide +kernel
theorem dL_acts_241 : decode cL_acts 241 = .ok (.return_, 1) := by decide +kernel
theorem dL_isLine_0 : decode cL_isLine 0 = .ok (.iload_n 1, 1) := by decide +kernel
theorem dL_isLine_1 : decode cL_isLine 1 = .ok (.aload_n 2, 1) := by decide +kernel
theorem dL_isLine_2 : decode cL_isLine 2 = .ok (.invokevirtual 106, 3) := by decide +kernel
theorem dL_isLine_5 : decode cL_isLine 5 = .ok (.if_icmp .eq 5, 3) := by decide +kernel
theorem dL_isLine_8 : decode cL_isLine 8 = .ok (.iconst 0, 1) := by decide +kernel
theorem dL_isLine_9 : decode cL_isLine 9 = .ok (.ireturn, 1) := by decide +kernel
theorem dL_isLine_10 : decode cL_isLine 10 = .ok (.iconst 0, 1) := by decide +kernel
theorem dL_isLine_11 : decode cL_isLine 11 = .ok (.istore_n 3, 1) := by decide +kernel
theorem dL_isLine_12 : decode cL_isLine 12 = .ok (.iload_n 3, 1) := by decide +kernel
theorem dL_isLine_13 : decode cL_isLine 13 = .ok (.iload_n 1, 1) := by decide +kernel
theorem dL_isLine_14 : decode cL_isLine 14 = .ok (.if_icmp .ge 24, 3) := by decide +kernel
theorem dL_isLine_17 : decode cL_isLine 17 = .ok (.aload_n 0, 1) := by decide +kernel
theorem dL_isLine_18 : decode cL_isLine 18 = .ok (.iload_n 3, 1) := by decide +kernel
theorem dL_isLine_19 : decode cL_isLine 19 = .ok (.invokevirtual 111, 3) := by decide +kernel
theorem dL_isLine_22 : decode cL_isLine 22 = .ok (.aload_n 2, 1) := by decide +kernel
theorem dL_isLine_23 : decode cL_isLine 23 = .ok (.iload_n 3, 1) := by decide +kernel
theorem dL_isLine_24 : decode cL_isLine 24 = .ok (.invokevirtual 115, 3) := by decide +kernel
theorem dL_isLine_27 : decode cL_isLine 27 = .ok (.if_icmp .eq 5, 3) := by decide +kernel
theorem dL_isLine_30 : decode cL_isLine 30 = .ok (.iconst 0, 1) := by decide +kernel
theorem dL_isLine_31 : decode cL_isLine 31 = .ok (.ireturn, 1) := by decide +kernel
theorem dL_isLine_32 : decode cL_isLine 32 = .ok (.iinc 3 1, 3) := by decide +kernel
theorem dL_isLine_35 : decode cL_isLine 35 = .ok (.goto (-23), 3) := by decide +kernel
theorem dL_isLine_38 : decode cL_isLine 38 = .ok (.iconst 1, 1) := by decide +kernel
theorem dL_isLine_39 : decode cL_isLine 39 = .ok (.ireturn, 1) := by decide +kernel
