/-! ===== instructions of the wrappers ===== -/
theorem dL_addBasket_0 : decode cL_addBasket 0 = .ok (.aload 4, 2) := by decide +kernel
theorem dL_addBasket_2 : decode cL_addBasket 2 = .ok (.iconst 0, 1) := by decide +kernel
theorem dL_addBasket_3 : decode cL_addBasket 3 = .ok (.aload_n 0, 1) := by decide +kernel
theorem dL_addBasket_4 : decode cL_addBasket 4 = .ok (.iload_n 1, 1) := by decide +kernel
theorem dL_addBasket_5 : decode cL_addBasket 5 = .ok (.iload_n 2, 1) := by decide +kernel
theorem dL_addBasket_6 : decode cL_addBasket 6 = .ok (.iload_n 3, 1) := by decide +kernel
theorem dL_addBasket_7 : decode cL_addBasket 7 = .ok (.invokevirtual 7, 3) := by decide +kernel
theorem dL_addBasket_10 : decode cL_addBasket 10 = .ok (.i2l, 1) := by decide +kernel
theorem dL_addBasket_11 : decode cL_addBasket 11 = .ok (.lastore, 1) := by decide +kernel
theorem dL_addBasket_12 : decode cL_addBasket 12 = .ok (.goto 15, 3) := by decide +kernel
theorem dL_addBasket_15 : decode cL_addBasket 15 = .ok (.astore 5, 2) := by decide +kernel
theorem dL_addBasket_17 : decode cL_addBasket 17 = .ok (.iconst 1, 1) := by decide +kernel
theorem dL_addBasket_18 : decode cL_addBasket 18 = .ok (.ireturn, 1) := by decide +kernel
theorem dL_addBasket_19 : decode cL_addBasket 19 = .ok (.astore 5, 2) := by decide +kernel
theorem dL_addBasket_21 : decode cL_addBasket 21 = .ok (.iconst 2, 1) := by decide +kernel
theorem dL_addBasket_22 : decode cL_addBasket 22 = .ok (.ireturn, 1) := by decide +kernel
theorem dL_addBasket_23 : decode cL_addBasket 23 = .ok (.astore 5, 2) := by decide +kernel
theorem dL_addBasket_25 : decode cL_addBasket 25 = .ok (.iconst 3, 1) := by decide +kernel
theorem dL_addBasket_26 : decode cL_addBasket 26 = .ok (.ireturn, 1) := by decide +kernel
theorem dL_addBasket_27 : decode cL_addBasket 27 = .ok (.iconst 0, 1) := by decide +kernel
theorem dL_addBasket_28 : decode cL_addBasket 28 = .ok (.ireturn, 1) := by decide +kernel
theorem dL_jump_0 : decode cL_jump 0 = .ok (.aload 4, 2) := by decide +kernel
theorem dL_jump_2 : decode cL_jump 2 = .ok (.iconst 0, 1) := by decide +kernel
theorem dL_jump_3 : decode cL_jump 3 = .ok (.aload_n 0, 1) := by decide +kernel
theorem dL_jump_4 : decode cL_jump 4 = .ok (.iload_n 1, 1) := by decide +kernel
theorem dL_jump_5 : decode cL_jump 5 = .ok (.iload_n 2, 1) := by decide +kernel
theorem dL_jump_6 : decode cL_jump 6 = .ok (.iload_n 3, 1) := by decide +kernel
theorem dL_jump_7 : decode cL_jump 7 = .ok (.invokevirtual 19, 3) := by decide +kernel
theorem dL_jump_10 : decode cL_jump 10 = .ok (.i2l, 1) := by decide +kernel
theorem dL_jump_11 : decode cL_jump 11 = .ok (.lastore, 1) := by decide +kernel
theorem dL_jump_12 : decode cL_jump 12 = .ok (.goto 15, 3) := by decide +kernel
theorem dL_jump_15 : decode cL_jump 15 = .ok (.astore 5, 2) := by decide +kernel
theorem dL_jump_17 : decode cL_jump 17 = .ok (.iconst 1, 1) := by decide +kernel
theorem dL_jump_18 : decode cL_jump 18 = .ok (.ireturn, 1) := by decide +kernel
theorem dL_jump_19 : decode cL_jump 19 = .ok (.astore 5, 2) := by decide +kernel
theorem dL_jump_21 : decode cL_jump 21 = .ok (.iconst 2, 1) := by decide +kernel
theorem dL_jump_22 : decode cL_jump 22 = .ok (.ireturn, 1) := by decide +kernel
theorem dL_jump_23 : decode cL_jump 23 = .ok (.astore 5, 2) := by decide +kernel
theorem dL_jump_25 : decode cL_jump 25 = .ok (.iconst 3, 1) := by decide +kernel
theorem dL_jump_26 : decode cL_jump 26 = .ok (.ireturn, 1) := by decide +kernel
theorem dL_jump_27 : decode cL_jump 27 = .ok (.iconst 0, 1) := by decide +kernel
theorem dL_jump_28 : decode cL_jump 28 = .ok (.ireturn, 1) := by decide +kernel
theorem dL_setHandle_0 : decode cL_setHandle 0 = .ok (.aload_n 3, 1) := by decide +kernel
theorem dL_setHandle_1 : decode cL_setHandle 1 = .ok (.iconst 0, 1) := by decide +kernel
theorem dL_setHandle_2 : decode cL_setHandle 2 = .ok (.aload_n 0, 1) := by decide +kernel
theorem dL_setHandle_3 : decode cL_setHandle 3 = .ok (.iload_n 1, 1) := by decide +kernel
theorem dL_setHandle_4 : decode cL_setHandle 4 = .ok (.iload_n 2, 1) := by decide +kernel
theorem dL_setHandle_5 : decode cL_setHandle 5 = .ok (.invokevirtual 24, 3) := by decide +kernel
theorem dL_setHandle_8 : decode cL_setHandle 8 = .ok (.i2l, 1) := by decide +kernel
theorem dL_setHandle_9 : decode cL_setHandle 9 = .ok (.lastore, 1) := by decide +kernel
theorem dL_setHandle_10 : decode cL_setHandle 10 = .ok (.goto 11, 3) := by decide +kernel
theorem dL_setHandle_13 : decode cL_setHandle 13 = .ok (.astore 4, 2) := by decide +kernel
theorem dL_setHandle_15 : decode cL_setHandle 15 = .ok (.iconst 1, 1) := by decide +kernel
theorem dL_setHandle_16 : decode cL_setHandle 16 = .ok (.ireturn, 1) := by decide +kernel
theorem dL_setHandle_17 : decode cL_setHandle 17 = .ok (.astore 4, 2) := by decide +kernel
theorem dL_setHandle_19 : decode cL_setHandle 19 = .ok (.iconst 2, 1) := by decide +kernel
theorem dL_setHandle_20 : decode cL_setHandle 20 = .ok (.ireturn, 1) := by decide +kernel
theorem dL_setHandle_21 : decode cL_setHandle 21 = .ok (.iconst 0, 1) := by decide +kernel
theorem dL_setHandle_22 : decode cL_setHandle 22 = .ok (.ireturn, 1) := by decide +kernel
theorem dL_xOf_0 : decode cL_xOf 0 = .ok (.aload_n 2, 1) := by decide +kernel
theorem dL_xOf_1 : decode cL_xOf 1 = .ok (.iconst 0, 1) := by decide +kernel
theorem dL_xOf_2 : decode cL_xOf 2 = .ok (.aload_n 0, 1) := by decide +kernel
theorem dL_xOf_3 : decode cL_xOf 3 = .ok (.iload_n 1, 1) := by decide +kernel
theorem dL_xOf_4 : decode cL_xOf 4 = .ok (.invokevirtual 28, 3) := by decide +kernel
theorem dL_xOf_7 : decode cL_xOf 7 = .ok (.i2l, 1) := by decide +kernel
theorem dL_xOf_8 : decode cL_xOf 8 = .ok (.lastore, 1) := by decide +kernel
theorem dL_xOf_9 : decode cL_xOf 9 = .ok (.goto 6, 3) := by decide +kernel
theorem dL_xOf_12 : decode cL_xOf 12 = .ok (.astore_n 3, 1) := by decide +kernel
theorem dL_xOf_13 : decode cL_xOf 13 = .ok (.iconst 1, 1) := by decide +kernel
theorem dL_xOf_14 : decode cL_xOf 14 = .ok (.ireturn, 1) := by decide +kernel
theorem dL_xOf_15 : decode cL_xOf 15 = .ok (.iconst 0, 1) := by decide +kernel
theorem dL_xOf_16 : decode cL_xOf 16 = .ok (.ireturn, 1) := by decide +kernel
theorem dL_yOf_0 : decode cL_yOf 0 = .ok (.aload_n 2, 1) := by decide +kernel
theorem dL_yOf_1 : decode cL_yOf 1 = .ok (.iconst 0, 1) := by decide +kernel
theorem dL_yOf_2 : decode cL_yOf 2 = .ok (.aload_n 0, 1) := by decide +kernel
theorem dL_yOf_3 : decode cL_yOf 3 = .ok (.iload_n 1, 1) := by decide +kernel
theorem dL_yOf_4 : decode cL_yOf 4 = .ok (.invokevirtual 32, 3) := by decide +kernel
theorem dL_yOf_7 : decode cL_yOf 7 = .ok (.i2l, 1) := by decide +kernel
theorem dL_yOf_8 : decode cL_yOf 8 = .ok (.lastore, 1) := by decide +kernel
theorem dL_yOf_9 : decode cL_yOf 9 = .ok (.goto 6, 3) := by decide +kernel
theorem dL_yOf_12 : decode cL_yOf 12 = .ok (.astore_n 3, 1) := by decide +kernel
theorem dL_yOf_13 : decode cL_yOf 13 = .ok (.iconst 1, 1) := by decide +kernel
theorem dL_yOf_14 : decode cL_yOf 14 = .ok (.ireturn, 1) := by decide +kernel
theorem dL_yOf_15 : decode cL_yOf 15 = .ok (.iconst 0, 1) := by decide +kernel
theorem dL_yOf_16 : decode cL_yOf 16 = .ok (.ireturn, 1) := by decide +kernel
theorem dL_handleOf_0 : decode cL_handleOf 0 = .ok (.aload_n 2, 1) := by decide +kernel
theorem dL_handleOf_1 : decode cL_handleOf 1 = .ok (.iconst 0, 1) := by decide +kernel
theorem dL_handleOf_2 : decode cL_handleOf 2 = .ok (.aload_n 0, 1) := by decide +kernel
theorem dL_handleOf_3 : decode cL_handleOf 3 = .ok (.iload_n 1, 1) := by decide +kernel
theorem dL_handleOf_4 : decode cL_handleOf 4 = .ok (.invokevirtual 35, 3) := by decide +kernel
theorem dL_handleOf_7 : decode cL_handleOf 7 = .ok (.i2l, 1) := by decide +kernel
theorem dL_handleOf_8 : decode cL_handleOf 8 = .ok (.lastore, 1) := by decide +kernel
theorem dL_handleOf_9 : decode cL_handleOf 9 = .ok (.goto 6, 3) := by decide +kernel
theorem dL_handleOf_12 : decode cL_handleOf 12 = .ok (.astore_n 3, 1) := by decide +kernel
theorem dL_handleOf_13 : decode cL_handleOf 13 = .ok (.iconst 1, 1) := by decide +kernel
theorem dL_handleOf_14 : decode cL_handleOf 14 = .ok (.ireturn, 1) := by decide +kernel
theorem dL_handleOf_15 : decode cL_handleOf 15 = .ok (.iconst 0, 1) := by decide +kernel
theorem dL_handleOf_16 : decode cL_handleOf 16 = .ok (.ireturn, 1) := by decide +kernel
theorem dL_basketAt_0 : decode cL_basketAt 0 = .ok (.aload_n 3, 1) := by decide +kernel
theorem dL_basketAt_1 : decode cL_basketAt 1 = .ok (.iconst 0, 1) := by decide +kernel
theorem dL_basketAt_2 : decode cL_basketAt 2 = .ok (.aload_n 0, 1) := by decide +kernel
theorem dL_basketAt_3 : decode cL_basketAt 3 = .ok (.iload_n 1, 1) := by decide +kernel
theorem dL_basketAt_4 : decode cL_basketAt 4 = .ok (.iload_n 2, 1) := by decide +kernel
theorem dL_basketAt_5 : decode cL_basketAt 5 = .ok (.invokevirtual 38, 3) := by decide +kernel
theorem dL_basketAt_8 : decode cL_basketAt 8 = .ok (.i2l, 1) := by decide +kernel
theorem dL_basketAt_9 : decode cL_basketAt 9 = .ok (.lastore, 1) := by decide +kernel
theorem dL_basketAt_10 : decode cL_basketAt 10 = .ok (.goto 11, 3) := by decide +kernel
theorem dL_basketAt_13 : decode cL_basketAt 13 = .ok (.astore 4, 2) := by decide +kernel
theorem dL_basketAt_15 : decode cL_basketAt 15 = .ok (.iconst 1, 1) := by decide +kernel
theorem dL_basketAt_16 : decode cL_basketAt 16 = .ok (.ireturn, 1) := by decide +kernel
theorem dL_basketAt_17 : decode cL_basketAt 17 = .ok (.astore 4, 2) := by decide +kernel
theorem dL_basketAt_19 : decode cL_basketAt 19 = .ok (.iconst 2, 1) := by decide +kernel
theorem dL_basketAt_20 : decode cL_basketAt 20 = .ok (.ireturn, 1) := by decide +kernel
theorem dL_basketAt_21 : decode cL_basketAt 21 = .ok (.iconst 0, 1) := by decide +kernel
theorem dL_basketAt_22 : decode cL_basketAt 22 = .ok (.ireturn, 1) := by decide +kernel
theorem dL_distance_0 : decode cL_distance 0 = .ok (.aload_n 3, 1) := by decide +kernel
theorem dL_distance_1 : decode cL_distance 1 = .ok (.iconst 0, 1) := by decide +kernel
theorem dL_distance_2 : decode cL_distance 2 = .ok (.aload_n 0, 1) := by decide +kernel
theorem dL_distance_3 : decode cL_distance 3 = .ok (.iload_n 1, 1) := by decide +kernel
theorem dL_distance_4 : decode cL_distance 4 = .ok (.iload_n 2, 1) := by decide +kernel
theorem dL_distance_5 : decode cL_distance 5 = .ok (.invokevirtual 43, 3) := by decide +kernel
theorem dL_distance_8 : decode cL_distance 8 = .ok (.i2l, 1) := by decide +kernel
theorem dL_distance_9 : decode cL_distance 9 = .ok (.lastore, 1) := by decide +kernel
theorem dL_distance_10 : decode cL_distance 10 = .ok (.goto 7, 3) := by decide +kernel
theorem dL_distance_13 : decode cL_distance 13 = .ok (.astore 4, 2) := by decide +kernel
theorem dL_distance_15 : decode cL_distance 15 = .ok (.iconst 1, 1) := by decide +kernel
theorem dL_distance_16 : decode cL_distance 16 = .ok (.ireturn, 1) := by decide +kernel
theorem dL_distance_17 : decode cL_distance 17 = .ok (.iconst 0, 1) := by decide +kernel
theorem dL_distance_18 : decode cL_distance 18 = .ok (.ireturn, 1) := by decide +kernel
theorem dL_nearestTo_0 : decode cL_nearestTo 0 = .ok (.aload_n 2, 1) := by decide +kernel
theorem dL_nearestTo_1 : decode cL_nearestTo 1 = .ok (.iconst 0, 1) := by decide +kernel
theorem dL_nearestTo_2 : decode cL_nearestTo 2 = .ok (.aload_n 0, 1) := by decide +kernel
theorem dL_nearestTo_3 : decode cL_nearestTo 3 = .ok (.iload_n 1, 1) := by decide +kernel
theorem dL_nearestTo_4 : decode cL_nearestTo 4 = .ok (.invokevirtual 46, 3) := by decide +kernel
theorem dL_nearestTo_7 : decode cL_nearestTo 7 = .ok (.i2l, 1) := by decide +kernel
theorem dL_nearestTo_8 : decode cL_nearestTo 8 = .ok (.lastore, 1) := by decide +kernel
theorem dL_nearestTo_9 : decode cL_nearestTo 9 = .ok (.goto 9, 3) := by decide +kernel
theorem dL_nearestTo_12 : decode cL_nearestTo 12 = .ok (.astore_n 3, 1) := by decide +kernel
theorem dL_nearestTo_13 : decode cL_nearestTo 13 = .ok (.iconst 1, 1) := by decide +kernel
theorem dL_nearestTo_14 : decode cL_nearestTo 14 = .ok (.ireturn, 1) := by decide +kernel
theorem dL_nearestTo_15 : decode cL_nearestTo 15 = .ok (.astore_n 3, 1) := by decide +kernel
theorem dL_nearestTo_16 : decode cL_nearestTo 16 = .ok (.iconst 2, 1) := by decide +kernel
theorem dL_nearestTo_17 : decode cL_nearestTo 17 = .ok (.ireturn, 1) := by decide +kernel
theorem dL_nearestTo_18 : decode cL_nearestTo 18 = .ok (.iconst 0, 1) := by decide +kernel
theorem dL_nearestTo_19 : decode cL_nearestTo 19 = .ok (.ireturn, 1) := by decide +kernel
theorem dL_refusalReason_0 : decode cL_refusalReason 0 = .ok (.aload_n 1, 1) := by decide +kernel
theorem dL_refusalReason_1 : decode cL_refusalReason 1 = .ok (.iconst 0, 1) := by decide +kernel
theorem dL_refusalReason_2 : decode cL_refusalReason 2 = .ok (.aload_n 0, 1) := by decide +kernel
theorem dL_refusalReason_3 : decode cL_refusalReason 3 = .ok (.invokevirtual 49, 3) := by decide +kernel
theorem dL_refusalReason_6 : decode cL_refusalReason 6 = .ok (.i2l, 1) := by decide +kernel
theorem dL_refusalReason_7 : decode cL_refusalReason 7 = .ok (.lastore, 1) := by decide +kernel
theorem dL_refusalReason_8 : decode cL_refusalReason 8 = .ok (.goto 6, 3) := by decide +kernel
theorem dL_refusalReason_11 : decode cL_refusalReason 11 = .ok (.astore_n 2, 1) := by decide +kernel
theorem dL_refusalReason_12 : decode cL_refusalReason 12 = .ok (.iconst 1, 1) := by decide +kernel
theorem dL_refusalReason_13 : decode cL_refusalReason 13 = .ok (.ireturn, 1) := by decide +kernel
theorem dL_refusalReason_14 : decode cL_refusalReason 14 = .ok (.iconst 0, 1) := by decide +kernel
theorem dL_refusalReason_15 : decode cL_refusalReason 15 = .ok (.ireturn, 1) := by decide +kernel
theorem dL_refusalDetail_0 : decode cL_refusalDetail 0 = .ok (.aload_n 1, 1) := by decide +kernel
theorem dL_refusalDetail_1 : decode cL_refusalDetail 1 = .ok (.iconst 0, 1) := by decide +kernel
theorem dL_refusalDetail_2 : decode cL_refusalDetail 2 = .ok (.aload_n 0, 1) := by decide +kernel
theorem dL_refusalDetail_3 : decode cL_refusalDetail 3 = .ok (.invokevirtual 53, 3) := by decide +kernel
theorem dL_refusalDetail_6 : decode cL_refusalDetail 6 = .ok (.i2l, 1) := by decide +kernel
theorem dL_refusalDetail_7 : decode cL_refusalDetail 7 = .ok (.lastore, 1) := by decide +kernel
theorem dL_refusalDetail_8 : decode cL_refusalDetail 8 = .ok (.goto 6, 3) := by decide +kernel
theorem dL_refusalDetail_11 : decode cL_refusalDetail 11 = .ok (.astore_n 2, 1) := by decide +kernel
theorem dL_refusalDetail_12 : decode cL_refusalDetail 12 = .ok (.iconst 1, 1) := by decide +kernel
theorem dL_refusalDetail_13 : decode cL_refusalDetail 13 = .ok (.ireturn, 1) := by decide +kernel
theorem dL_refusalDetail_14 : decode cL_refusalDetail 14 = .ok (.iconst 0, 1) := by decide +kernel
theorem dL_refusalDetail_15 : decode cL_refusalDetail 15 = .ok (.ireturn, 1) := by decide +kernel
theorem dL_addCloud_0 : decode cL_addCloud 0 = .ok (.aload_n 3, 1) := by decide +kernel
theorem dL_addCloud_1 : decode cL_addCloud 1 = .ok (.iconst 0, 1) := by decide +kernel
theorem dL_addCloud_2 : decode cL_addCloud 2 = .ok (.aload_n 0, 1) := by decide +kernel
theorem dL_addCloud_3 : decode cL_addCloud 3 = .ok (.iload_n 1, 1) := by decide +kernel
theorem dL_addCloud_4 : decode cL_addCloud 4 = .ok (.iload_n 2, 1) := by decide +kernel
theorem dL_addCloud_5 : decode cL_addCloud 5 = .ok (.invokevirtual 56, 3) := by decide +kernel
theorem dL_addCloud_8 : decode cL_addCloud 8 = .ok (.i2l, 1) := by decide +kernel
theorem dL_addCloud_9 : decode cL_addCloud 9 = .ok (.lastore, 1) := by decide +kernel
theorem dL_addCloud_10 : decode cL_addCloud 10 = .ok (.goto 15, 3) := by decide +kernel
theorem dL_addCloud_13 : decode cL_addCloud 13 = .ok (.astore 4, 2) := by decide +kernel
theorem dL_addCloud_15 : decode cL_addCloud 15 = .ok (.iconst 1, 1) := by decide +kernel
theorem dL_addCloud_16 : decode cL_addCloud 16 = .ok (.ireturn, 1) := by decide +kernel
theorem dL_addCloud_17 : decode cL_addCloud 17 = .ok (.astore 4, 2) := by decide +kernel
theorem dL_addCloud_19 : decode cL_addCloud 19 = .ok (.iconst 2, 1) := by decide +kernel
theorem dL_addCloud_20 : decode cL_addCloud 20 = .ok (.ireturn, 1) := by decide +kernel
theorem dL_addCloud_21 : decode cL_addCloud 21 = .ok (.astore 4, 2) := by decide +kernel
theorem dL_addCloud_23 : decode cL_addCloud 23 = .ok (.iconst 3, 1) := by decide +kernel
theorem dL_addCloud_24 : decode cL_addCloud 24 = .ok (.ireturn, 1) := by decide +kernel
theorem dL_addCloud_25 : decode cL_addCloud 25 = .ok (.iconst 0, 1) := by decide +kernel
theorem dL_addCloud_26 : decode cL_addCloud 26 = .ok (.ireturn, 1) := by decide +kernel
theorem dL_removeCloud_0 : decode cL_removeCloud 0 = .ok (.aload_n 3, 1) := by decide +kernel
theorem dL_removeCloud_1 : decode cL_removeCloud 1 = .ok (.iconst 0, 1) := by decide +kernel
theorem dL_removeCloud_2 : decode cL_removeCloud 2 = .ok (.aload_n 0, 1) := by decide +kernel
theorem dL_removeCloud_3 : decode cL_removeCloud 3 = .ok (.iload_n 1, 1) := by decide +kernel
theorem dL_removeCloud_4 : decode cL_removeCloud 4 = .ok (.iload_n 2, 1) := by decide +kernel
theorem dL_removeCloud_5 : decode cL_removeCloud 5 = .ok (.invokevirtual 59, 3) := by decide +kernel
theorem dL_removeCloud_8 : decode cL_removeCloud 8 = .ok (.i2l, 1) := by decide +kernel
theorem dL_removeCloud_9 : decode cL_removeCloud 9 = .ok (.lastore, 1) := by decide +kernel
theorem dL_removeCloud_10 : decode cL_removeCloud 10 = .ok (.goto 11, 3) := by decide +kernel
theorem dL_removeCloud_13 : decode cL_removeCloud 13 = .ok (.astore 4, 2) := by decide +kernel
theorem dL_removeCloud_15 : decode cL_removeCloud 15 = .ok (.iconst 1, 1) := by decide +kernel
theorem dL_removeCloud_16 : decode cL_removeCloud 16 = .ok (.ireturn, 1) := by decide +kernel
theorem dL_removeCloud_17 : decode cL_removeCloud 17 = .ok (.astore 4, 2) := by decide +kernel
theorem dL_removeCloud_19 : decode cL_removeCloud 19 = .ok (.iconst 2, 1) := by decide +kernel
theorem dL_removeCloud_20 : decode cL_removeCloud 20 = .ok (.ireturn, 1) := by decide +kernel
theorem dL_removeCloud_21 : decode cL_removeCloud 21 = .ok (.iconst 0, 1) := by decide +kernel
theorem dL_removeCloud_22 : decode cL_removeCloud 22 = .ok (.ireturn, 1) := by decide +kernel
theorem dL_isCloud_0 : decode cL_isCloud 0 = .ok (.aload_n 3, 1) := by decide +kernel
theorem dL_isCloud_1 : decode cL_isCloud 1 = .ok (.iconst 0, 1) := by decide +kernel
theorem dL_isCloud_2 : decode cL_isCloud 2 = .ok (.aload_n 0, 1) := by decide +kernel
theorem dL_isCloud_3 : decode cL_isCloud 3 = .ok (.iload_n 1, 1) := by decide +kernel
theorem dL_isCloud_4 : decode cL_isCloud 4 = .ok (.iload_n 2, 1) := by decide +kernel
theorem dL_isCloud_5 : decode cL_isCloud 5 = .ok (.invokevirtual 62, 3) := by decide +kernel
theorem dL_isCloud_8 : decode cL_isCloud 8 = .ok (.ifCond .eq 7, 3) := by decide +kernel
theorem dL_isCloud_11 : decode cL_isCloud 11 = .ok (.lconst 1, 1) := by decide +kernel
theorem dL_isCloud_12 : decode cL_isCloud 12 = .ok (.goto 4, 3) := by decide +kernel
theorem dL_isCloud_15 : decode cL_isCloud 15 = .ok (.lconst 0, 1) := by decide +kernel
theorem dL_isCloud_16 : decode cL_isCloud 16 = .ok (.lastore, 1) := by decide +kernel
theorem dL_isCloud_17 : decode cL_isCloud 17 = .ok (.goto 7, 3) := by decide +kernel
theorem dL_isCloud_20 : decode cL_isCloud 20 = .ok (.astore 4, 2) := by decide +kernel
theorem dL_isCloud_22 : decode cL_isCloud 22 = .ok (.iconst 1, 1) := by decide +kernel
theorem dL_isCloud_23 : decode cL_isCloud 23 = .ok (.ireturn, 1) := by decide +kernel
theorem dL_isCloud_24 : decode cL_isCloud 24 = .ok (.iconst 0, 1) := by decide +kernel
theorem dL_isCloud_25 : decode cL_isCloud 25 = .ok (.ireturn, 1) := by decide +kernel
theorem dL_setTurnLength_0 : decode cL_setTurnLength 0 = .ok (.aload_n 2, 1) := by decide +kernel
theorem dL_setTurnLength_1 : decode cL_setTurnLength 1 = .ok (.iconst 0, 1) := by decide +kernel
theorem dL_setTurnLength_2 : decode cL_setTurnLength 2 = .ok (.aload_n 0, 1) := by decide +kernel
theorem dL_setTurnLength_3 : decode cL_setTurnLength 3 = .ok (.iload_n 1, 1) := by decide +kernel
theorem dL_setTurnLength_4 : decode cL_setTurnLength 4 = .ok (.invokevirtual 66, 3) := by decide +kernel
theorem dL_setTurnLength_7 : decode cL_setTurnLength 7 = .ok (.i2l, 1) := by decide +kernel
theorem dL_setTurnLength_8 : decode cL_setTurnLength 8 = .ok (.lastore, 1) := by decide +kernel
theorem dL_setTurnLength_9 : decode cL_setTurnLength 9 = .ok (.goto 6, 3) := by decide +kernel
theorem dL_setTurnLength_12 : decode cL_setTurnLength 12 = .ok (.astore_n 3, 1) := by decide +kernel
theorem dL_setTurnLength_13 : decode cL_setTurnLength 13 = .ok (.iconst 1, 1) := by decide +kernel
theorem dL_setTurnLength_14 : decode cL_setTurnLength 14 = .ok (.ireturn, 1) := by decide +kernel
theorem dL_setTurnLength_15 : decode cL_setTurnLength 15 = .ok (.iconst 0, 1) := by decide +kernel
theorem dL_setTurnLength_16 : decode cL_setTurnLength 16 = .ok (.ireturn, 1) := by decide +kernel
theorem dL_leader_0 : decode cL_leader 0 = .ok (.aload_n 1, 1) := by decide +kernel
theorem dL_leader_1 : decode cL_leader 1 = .ok (.iconst 0, 1) := by decide +kernel
theorem dL_leader_2 : decode cL_leader 2 = .ok (.aload_n 0, 1) := by decide +kernel
theorem dL_leader_3 : decode cL_leader 3 = .ok (.invokevirtual 69, 3) := by decide +kernel
theorem dL_leader_6 : decode cL_leader 6 = .ok (.i2l, 1) := by decide +kernel
theorem dL_leader_7 : decode cL_leader 7 = .ok (.lastore, 1) := by decide +kernel
theorem dL_leader_8 : decode cL_leader 8 = .ok (.goto 6, 3) := by decide +kernel
theorem dL_leader_11 : decode cL_leader 11 = .ok (.astore_n 2, 1) := by decide +kernel
theorem dL_leader_12 : decode cL_leader 12 = .ok (.iconst 1, 1) := by decide +kernel
theorem dL_leader_13 : decode cL_leader 13 = .ok (.ireturn, 1) := by decide +kernel
theorem dL_leader_14 : decode cL_leader 14 = .ok (.iconst 0, 1) := by decide +kernel
theorem dL_leader_15 : decode cL_leader 15 = .ok (.ireturn, 1) := by decide +kernel
theorem dL_leaderAfter_0 : decode cL_leaderAfter 0 = .ok (.aload_n 2, 1) := by decide +kernel
theorem dL_leaderAfter_1 : decode cL_leaderAfter 1 = .ok (.iconst 0, 1) := by decide +kernel
theorem dL_leaderAfter_2 : decode cL_leaderAfter 2 = .ok (.aload_n 0, 1) := by decide +kernel
theorem dL_leaderAfter_3 : decode cL_leaderAfter 3 = .ok (.iload_n 1, 1) := by decide +kernel
theorem dL_leaderAfter_4 : decode cL_leaderAfter 4 = .ok (.invokevirtual 72, 3) := by decide +kernel
theorem dL_leaderAfter_7 : decode cL_leaderAfter 7 = .ok (.i2l, 1) := by decide +kernel
theorem dL_leaderAfter_8 : decode cL_leaderAfter 8 = .ok (.lastore, 1) := by decide +kernel
theorem dL_leaderAfter_9 : decode cL_leaderAfter 9 = .ok (.goto 9, 3) := by decide +kernel
theorem dL_leaderAfter_12 : decode cL_leaderAfter 12 = .ok (.astore_n 3, 1) := by decide +kernel
theorem dL_leaderAfter_13 : decode cL_leaderAfter 13 = .ok (.iconst 1, 1) := by decide +kernel
theorem dL_leaderAfter_14 : decode cL_leaderAfter 14 = .ok (.ireturn, 1) := by decide +kernel
theorem dL_leaderAfter_15 : decode cL_leaderAfter 15 = .ok (.astore_n 3, 1) := by decide +kernel
theorem dL_leaderAfter_16 : decode cL_leaderAfter 16 = .ok (.iconst 2, 1) := by decide +kernel
theorem dL_leaderAfter_17 : decode cL_leaderAfter 17 = .ok (.ireturn, 1) := by decide +kernel
theorem dL_leaderAfter_18 : decode cL_leaderAfter 18 = .ok (.iconst 0, 1) := by decide +kernel
theorem dL_leaderAfter_19 : decode cL_leaderAfter 19 = .ok (.ireturn, 1) := by decide +kernel
theorem dL_leaderAfterByCounting_0 : decode cL_leaderAfterByCounting 0 = .ok (.aload_n 2, 1) := by decide +kernel
theorem dL_leaderAfterByCounting_1 : decode cL_leaderAfterByCounting 1 = .ok (.iconst 0, 1) := by decide +kernel
theorem dL_leaderAfterByCounting_2 : decode cL_leaderAfterByCounting 2 = .ok (.aload_n 0, 1) := by decide +kernel
theorem dL_leaderAfterByCounting_3 : decode cL_leaderAfterByCounting 3 = .ok (.iload_n 1, 1) := by decide +kernel
theorem dL_leaderAfterByCounting_4 : decode cL_leaderAfterByCounting 4 = .ok (.invokevirtual 75, 3) := by decide +kernel
theorem dL_leaderAfterByCounting_7 : decode cL_leaderAfterByCounting 7 = .ok (.i2l, 1) := by decide +kernel
theorem dL_leaderAfterByCounting_8 : decode cL_leaderAfterByCounting 8 = .ok (.lastore, 1) := by decide +kernel
theorem dL_leaderAfterByCounting_9 : decode cL_leaderAfterByCounting 9 = .ok (.goto 9, 3) := by decide +kernel
theorem dL_leaderAfterByCounting_12 : decode cL_leaderAfterByCounting 12 = .ok (.astore_n 3, 1) := by decide +kernel
theorem dL_leaderAfterByCounting_13 : decode cL_leaderAfterByCounting 13 = .ok (.iconst 1, 1) := by decide +kernel
theorem dL_leaderAfterByCounting_14 : decode cL_leaderAfterByCounting 14 = .ok (.ireturn, 1) := by decide +kernel
theorem dL_leaderAfterByCounting_15 : decode cL_leaderAfterByCounting 15 = .ok (.astore_n 3, 1) := by decide +kernel
theorem dL_leaderAfterByCounting_16 : decode cL_leaderAfterByCounting 16 = .ok (.iconst 2, 1) := by decide +kernel
theorem dL_leaderAfterByCounting_17 : decode cL_leaderAfterByCounting 17 = .ok (.ireturn, 1) := by decide +kernel
theorem dL_leaderAfterByCounting_18 : decode cL_leaderAfterByCounting 18 = .ok (.iconst 0, 1) := by decide +kernel
theorem dL_leaderAfterByCounting_19 : decode cL_leaderAfterByCounting 19 = .ok (.ireturn, 1) := by decide +kernel
theorem dL_setTarget_0 : decode cL_setTarget 0 = .ok (.aload_n 3, 1) := by decide +kernel
theorem dL_setTarget_1 : decode cL_setTarget 1 = .ok (.iconst 0, 1) := by decide +kernel
theorem dL_setTarget_2 : decode cL_setTarget 2 = .ok (.aload_n 0, 1) := by decide +kernel
theorem dL_setTarget_3 : decode cL_setTarget 3 = .ok (.iload_n 1, 1) := by decide +kernel
theorem dL_setTarget_4 : decode cL_setTarget 4 = .ok (.iload_n 2, 1) := by decide +kernel
theorem dL_setTarget_5 : decode cL_setTarget 5 = .ok (.invokevirtual 78, 3) := by decide +kernel
theorem dL_setTarget_8 : decode cL_setTarget 8 = .ok (.i2l, 1) := by decide +kernel
theorem dL_setTarget_9 : decode cL_setTarget 9 = .ok (.lastore, 1) := by decide +kernel
theorem dL_setTarget_10 : decode cL_setTarget 10 = .ok (.goto 11, 3) := by decide +kernel
theorem dL_setTarget_13 : decode cL_setTarget 13 = .ok (.astore 4, 2) := by decide +kernel
theorem dL_setTarget_15 : decode cL_setTarget 15 = .ok (.iconst 1, 1) := by decide +kernel
theorem dL_setTarget_16 : decode cL_setTarget 16 = .ok (.ireturn, 1) := by decide +kernel
theorem dL_setTarget_17 : decode cL_setTarget 17 = .ok (.astore 4, 2) := by decide +kernel
theorem dL_setTarget_19 : decode cL_setTarget 19 = .ok (.iconst 2, 1) := by decide +kernel
theorem dL_setTarget_20 : decode cL_setTarget 20 = .ok (.ireturn, 1) := by decide +kernel
theorem dL_setTarget_21 : decode cL_setTarget 21 = .ok (.iconst 0, 1) := by decide +kernel
theorem dL_setTarget_22 : decode cL_setTarget 22 = .ok (.ireturn, 1) := by decide +kernel
theorem dL_targetX_0 : decode cL_targetX 0 = .ok (.aload_n 1, 1) := by decide +kernel
theorem dL_targetX_1 : decode cL_targetX 1 = .ok (.iconst 0, 1) := by decide +kernel
theorem dL_targetX_2 : decode cL_targetX 2 = .ok (.aload_n 0, 1) := by decide +kernel
theorem dL_targetX_3 : decode cL_targetX 3 = .ok (.invokevirtual 81, 3) := by decide +kernel
theorem dL_targetX_6 : decode cL_targetX 6 = .ok (.i2l, 1) := by decide +kernel
theorem dL_targetX_7 : decode cL_targetX 7 = .ok (.lastore, 1) := by decide +kernel
theorem dL_targetX_8 : decode cL_targetX 8 = .ok (.goto 6, 3) := by decide +kernel
theorem dL_targetX_11 : decode cL_targetX 11 = .ok (.astore_n 2, 1) := by decide +kernel
theorem dL_targetX_12 : decode cL_targetX 12 = .ok (.iconst 1, 1) := by decide +kernel
theorem dL_targetX_13 : decode cL_targetX 13 = .ok (.ireturn, 1) := by decide +kernel
theorem dL_targetX_14 : decode cL_targetX 14 = .ok (.iconst 0, 1) := by decide +kernel
theorem dL_targetX_15 : decode cL_targetX 15 = .ok (.ireturn, 1) := by decide +kernel
theorem dL_targetY_0 : decode cL_targetY 0 = .ok (.aload_n 1, 1) := by decide +kernel
theorem dL_targetY_1 : decode cL_targetY 1 = .ok (.iconst 0, 1) := by decide +kernel
theorem dL_targetY_2 : decode cL_targetY 2 = .ok (.aload_n 0, 1) := by decide +kernel
theorem dL_targetY_3 : decode cL_targetY 3 = .ok (.invokevirtual 84, 3) := by decide +kernel
theorem dL_targetY_6 : decode cL_targetY 6 = .ok (.i2l, 1) := by decide +kernel
theorem dL_targetY_7 : decode cL_targetY 7 = .ok (.lastore, 1) := by decide +kernel
theorem dL_targetY_8 : decode cL_targetY 8 = .ok (.goto 6, 3) := by decide +kernel
theorem dL_targetY_11 : decode cL_targetY 11 = .ok (.astore_n 2, 1) := by decide +kernel
theorem dL_targetY_12 : decode cL_targetY 12 = .ok (.iconst 1, 1) := by decide +kernel
theorem dL_targetY_13 : decode cL_targetY 13 = .ok (.ireturn, 1) := by decide +kernel
theorem dL_targetY_14 : decode cL_targetY 14 = .ok (.iconst 0, 1) := by decide +kernel
theorem dL_targetY_15 : decode cL_targetY 15 = .ok (.ireturn, 1) := by decide +kernel
theorem dL_stepsToTarget_0 : decode cL_stepsToTarget 0 = .ok (.aload_n 1, 1) := by decide +kernel
theorem dL_stepsToTarget_1 : decode cL_stepsToTarget 1 = .ok (.iconst 0, 1) := by decide +kernel
theorem dL_stepsToTarget_2 : decode cL_stepsToTarget 2 = .ok (.aload_n 0, 1) := by decide +kernel
theorem dL_stepsToTarget_3 : decode cL_stepsToTarget 3 = .ok (.invokevirtual 87, 3) := by decide +kernel
theorem dL_stepsToTarget_6 : decode cL_stepsToTarget 6 = .ok (.i2l, 1) := by decide +kernel
theorem dL_stepsToTarget_7 : decode cL_stepsToTarget 7 = .ok (.lastore, 1) := by decide +kernel
theorem dL_stepsToTarget_8 : decode cL_stepsToTarget 8 = .ok (.goto 6, 3) := by decide +kernel
theorem dL_stepsToTarget_11 : decode cL_stepsToTarget 11 = .ok (.astore_n 2, 1) := by decide +kernel
theorem dL_stepsToTarget_12 : decode cL_stepsToTarget 12 = .ok (.iconst 1, 1) := by decide +kernel
theorem dL_stepsToTarget_13 : decode cL_stepsToTarget 13 = .ok (.ireturn, 1) := by decide +kernel
theorem dL_stepsToTarget_14 : decode cL_stepsToTarget 14 = .ok (.iconst 0, 1) := by decide +kernel
theorem dL_stepsToTarget_15 : decode cL_stepsToTarget 15 = .ok (.ireturn, 1) := by decide +kernel
theorem dL_setKeep_0 : decode cL_setKeep 0 = .ok (.aload_n 2, 1) := by decide +kernel
theorem dL_setKeep_1 : decode cL_setKeep 1 = .ok (.iconst 0, 1) := by decide +kernel
theorem dL_setKeep_2 : decode cL_setKeep 2 = .ok (.aload_n 0, 1) := by decide +kernel
theorem dL_setKeep_3 : decode cL_setKeep 3 = .ok (.iload_n 1, 1) := by decide +kernel
theorem dL_setKeep_4 : decode cL_setKeep 4 = .ok (.invokevirtual 90, 3) := by decide +kernel
theorem dL_setKeep_7 : decode cL_setKeep 7 = .ok (.i2l, 1) := by decide +kernel
theorem dL_setKeep_8 : decode cL_setKeep 8 = .ok (.lastore, 1) := by decide +kernel
theorem dL_setKeep_9 : decode cL_setKeep 9 = .ok (.goto 6, 3) := by decide +kernel
theorem dL_setKeep_12 : decode cL_setKeep 12 = .ok (.astore_n 3, 1) := by decide +kernel
theorem dL_setKeep_13 : decode cL_setKeep 13 = .ok (.iconst 1, 1) := by decide +kernel
theorem dL_setKeep_14 : decode cL_setKeep 14 = .ok (.ireturn, 1) := by decide +kernel
theorem dL_setKeep_15 : decode cL_setKeep 15 = .ok (.iconst 0, 1) := by decide +kernel
theorem dL_setKeep_16 : decode cL_setKeep 16 = .ok (.ireturn, 1) := by decide +kernel
theorem dL_advance_0 : decode cL_advance 0 = .ok (.aload_n 2, 1) := by decide +kernel
theorem dL_advance_1 : decode cL_advance 1 = .ok (.iconst 0, 1) := by decide +kernel
theorem dL_advance_2 : decode cL_advance 2 = .ok (.aload_n 0, 1) := by decide +kernel
theorem dL_advance_3 : decode cL_advance 3 = .ok (.iload_n 1, 1) := by decide +kernel
theorem dL_advance_4 : decode cL_advance 4 = .ok (.invokevirtual 93, 3) := by decide +kernel
theorem dL_advance_7 : decode cL_advance 7 = .ok (.i2l, 1) := by decide +kernel
theorem dL_advance_8 : decode cL_advance 8 = .ok (.lastore, 1) := by decide +kernel
theorem dL_advance_9 : decode cL_advance 9 = .ok (.goto 6, 3) := by decide +kernel
theorem dL_advance_12 : decode cL_advance 12 = .ok (.astore_n 3, 1) := by decide +kernel
theorem dL_advance_13 : decode cL_advance 13 = .ok (.iconst 1, 1) := by decide +kernel
theorem dL_advance_14 : decode cL_advance 14 = .ok (.ireturn, 1) := by decide +kernel
theorem dL_advance_15 : decode cL_advance 15 = .ok (.iconst 0, 1) := by decide +kernel
theorem dL_advance_16 : decode cL_advance 16 = .ok (.ireturn, 1) := by decide +kernel
theorem dL_movesOf_0 : decode cL_movesOf 0 = .ok (.aload_n 2, 1) := by decide +kernel
theorem dL_movesOf_1 : decode cL_movesOf 1 = .ok (.iconst 0, 1) := by decide +kernel
theorem dL_movesOf_2 : decode cL_movesOf 2 = .ok (.aload_n 0, 1) := by decide +kernel
theorem dL_movesOf_3 : decode cL_movesOf 3 = .ok (.iload_n 1, 1) := by decide +kernel
theorem dL_movesOf_4 : decode cL_movesOf 4 = .ok (.invokevirtual 96, 3) := by decide +kernel
theorem dL_movesOf_7 : decode cL_movesOf 7 = .ok (.i2l, 1) := by decide +kernel
theorem dL_movesOf_8 : decode cL_movesOf 8 = .ok (.lastore, 1) := by decide +kernel
theorem dL_movesOf_9 : decode cL_movesOf 9 = .ok (.goto 6, 3) := by decide +kernel
theorem dL_movesOf_12 : decode cL_movesOf 12 = .ok (.astore_n 3, 1) := by decide +kernel
theorem dL_movesOf_13 : decode cL_movesOf 13 = .ok (.iconst 1, 1) := by decide +kernel
theorem dL_movesOf_14 : decode cL_movesOf 14 = .ok (.ireturn, 1) := by decide +kernel
theorem dL_movesOf_15 : decode cL_movesOf 15 = .ok (.iconst 0, 1) := by decide +kernel
theorem dL_movesOf_16 : decode cL_movesOf 16 = .ok (.ireturn, 1) := by decide +kernel
theorem dL_formationOf_0 : decode cL_formationOf 0 = .ok (.aload_n 2, 1) := by decide +kernel
theorem dL_formationOf_1 : decode cL_formationOf 1 = .ok (.iconst 0, 1) := by decide +kernel
theorem dL_formationOf_2 : decode cL_formationOf 2 = .ok (.aload_n 0, 1) := by decide +kernel
theorem dL_formationOf_3 : decode cL_formationOf 3 = .ok (.iload_n 1, 1) := by decide +kernel
theorem dL_formationOf_4 : decode cL_formationOf 4 = .ok (.invokevirtual 99, 3) := by decide +kernel
theorem dL_formationOf_7 : decode cL_formationOf 7 = .ok (.i2l, 1) := by decide +kernel
theorem dL_formationOf_8 : decode cL_formationOf 8 = .ok (.lastore, 1) := by decide +kernel
theorem dL_formationOf_9 : decode cL_formationOf 9 = .ok (.goto 6, 3) := by decide +kernel
theorem dL_formationOf_12 : decode cL_formationOf 12 = .ok (.astore_n 3, 1) := by decide +kernel
theorem dL_formationOf_13 : decode cL_formationOf 13 = .ok (.iconst 1, 1) := by decide +kernel
theorem dL_formationOf_14 : decode cL_formationOf 14 = .ok (.ireturn, 1) := by decide +kernel
theorem dL_formationOf_15 : decode cL_formationOf 15 = .ok (.iconst 0, 1) := by decide +kernel
theorem dL_formationOf_16 : decode cL_formationOf 16 = .ok (.ireturn, 1) := by decide +kernel
theorem dL_stepsSinceShape_0 : decode cL_stepsSinceShape 0 = .ok (.aload_n 1, 1) := by decide +kernel
theorem dL_stepsSinceShape_1 : decode cL_stepsSinceShape 1 = .ok (.iconst 0, 1) := by decide +kernel
theorem dL_stepsSinceShape_2 : decode cL_stepsSinceShape 2 = .ok (.aload_n 0, 1) := by decide +kernel
theorem dL_stepsSinceShape_3 : decode cL_stepsSinceShape 3 = .ok (.invokevirtual 102, 3) := by decide +kernel
theorem dL_stepsSinceShape_6 : decode cL_stepsSinceShape 6 = .ok (.i2l, 1) := by decide +kernel
theorem dL_stepsSinceShape_7 : decode cL_stepsSinceShape 7 = .ok (.lastore, 1) := by decide +kernel
theorem dL_stepsSinceShape_8 : decode cL_stepsSinceShape 8 = .ok (.goto 6, 3) := by decide +kernel
theorem dL_stepsSinceShape_11 : decode cL_stepsSinceShape 11 = .ok (.astore_n 2, 1) := by decide +kernel
theorem dL_stepsSinceShape_12 : decode cL_stepsSinceShape 12 = .ok (.iconst 1, 1) := by decide +kernel
theorem dL_stepsSinceShape_13 : decode cL_stepsSinceShape 13 = .ok (.ireturn, 1) := by decide +kernel
theorem dL_stepsSinceShape_14 : decode cL_stepsSinceShape 14 = .ok (.iconst 0, 1) := by decide +kernel
theorem dL_stepsSinceShape_15 : decode cL_stepsSinceShape 15 = .ok (.ireturn, 1) := by decide +kernel
theorem dL_basketAtRank_0 : decode cL_basketAtRank 0 = .ok (.aload_n 2, 1) := by decide +kernel
theorem dL_basketAtRank_1 : decode cL_basketAtRank 1 = .ok (.iconst 0, 1) := by decide +kernel
theorem dL_basketAtRank_2 : decode cL_basketAtRank 2 = .ok (.aload_n 0, 1) := by decide +kernel
theorem dL_basketAtRank_3 : decode cL_basketAtRank 3 = .ok (.iload_n 1, 1) := by decide +kernel
theorem dL_basketAtRank_4 : decode cL_basketAtRank 4 = .ok (.invokevirtual 105, 3) := by decide +kernel
theorem dL_basketAtRank_7 : decode cL_basketAtRank 7 = .ok (.i2l, 1) := by decide +kernel
theorem dL_basketAtRank_8 : decode cL_basketAtRank 8 = .ok (.lastore, 1) := by decide +kernel
theorem dL_basketAtRank_9 : decode cL_basketAtRank 9 = .ok (.goto 6, 3) := by decide +kernel
theorem dL_basketAtRank_12 : decode cL_basketAtRank 12 = .ok (.astore_n 3, 1) := by decide +kernel
theorem dL_basketAtRank_13 : decode cL_basketAtRank 13 = .ok (.iconst 1, 1) := by decide +kernel
theorem dL_basketAtRank_14 : decode cL_basketAtRank 14 = .ok (.ireturn, 1) := by decide +kernel
theorem dL_basketAtRank_15 : decode cL_basketAtRank 15 = .ok (.iconst 0, 1) := by decide +kernel
theorem dL_basketAtRank_16 : decode cL_basketAtRank 16 = .ok (.ireturn, 1) := by decide +kernel
theorem dL_append_0 : decode cL_append 0 = .ok (.aload_n 2, 1) := by decide +kernel
theorem dL_append_1 : decode cL_append 1 = .ok (.iconst 0, 1) := by decide +kernel
theorem dL_append_2 : decode cL_append 2 = .ok (.aload_n 0, 1) := by decide +kernel
theorem dL_append_3 : decode cL_append 3 = .ok (.iload_n 1, 1) := by decide +kernel
theorem dL_append_4 : decode cL_append 4 = .ok (.invokevirtual 108, 3) := by decide +kernel
theorem dL_append_7 : decode cL_append 7 = .ok (.i2l, 1) := by decide +kernel
theorem dL_append_8 : decode cL_append 8 = .ok (.lastore, 1) := by decide +kernel
theorem dL_append_9 : decode cL_append 9 = .ok (.goto 9, 3) := by decide +kernel
theorem dL_append_12 : decode cL_append 12 = .ok (.astore_n 3, 1) := by decide +kernel
theorem dL_append_13 : decode cL_append 13 = .ok (.iconst 1, 1) := by decide +kernel
theorem dL_append_14 : decode cL_append 14 = .ok (.ireturn, 1) := by decide +kernel
theorem dL_append_15 : decode cL_append 15 = .ok (.astore_n 3, 1) := by decide +kernel
theorem dL_append_16 : decode cL_append 16 = .ok (.iconst 2, 1) := by decide +kernel
theorem dL_append_17 : decode cL_append 17 = .ok (.ireturn, 1) := by decide +kernel
theorem dL_append_18 : decode cL_append 18 = .ok (.iconst 0, 1) := by decide +kernel
theorem dL_append_19 : decode cL_append 19 = .ok (.ireturn, 1) := by decide +kernel
theorem dL_run_0 : decode cL_run 0 = .ok (.aload_n 1, 1) := by decide +kernel
theorem dL_run_1 : decode cL_run 1 = .ok (.iconst 0, 1) := by decide +kernel
theorem dL_run_2 : decode cL_run 2 = .ok (.aload_n 0, 1) := by decide +kernel
theorem dL_run_3 : decode cL_run 3 = .ok (.invokevirtual 112, 3) := by decide +kernel
theorem dL_run_6 : decode cL_run 6 = .ok (.i2l, 1) := by decide +kernel
theorem dL_run_7 : decode cL_run 7 = .ok (.lastore, 1) := by decide +kernel
theorem dL_run_8 : decode cL_run 8 = .ok (.goto 9, 3) := by decide +kernel
theorem dL_run_11 : decode cL_run 11 = .ok (.astore_n 2, 1) := by decide +kernel
theorem dL_run_12 : decode cL_run 12 = .ok (.iconst 1, 1) := by decide +kernel
theorem dL_run_13 : decode cL_run 13 = .ok (.ireturn, 1) := by decide +kernel
theorem dL_run_14 : decode cL_run 14 = .ok (.astore_n 2, 1) := by decide +kernel
theorem dL_run_15 : decode cL_run 15 = .ok (.iconst 2, 1) := by decide +kernel
theorem dL_run_16 : decode cL_run 16 = .ok (.ireturn, 1) := by decide +kernel
theorem dL_run_17 : decode cL_run 17 = .ok (.iconst 0, 1) := by decide +kernel
theorem dL_run_18 : decode cL_run 18 = .ok (.ireturn, 1) := by decide +kernel
theorem dL_errorPosition_0 : decode cL_errorPosition 0 = .ok (.aload_n 1, 1) := by decide +kernel
theorem dL_errorPosition_1 : decode cL_errorPosition 1 = .ok (.iconst 0, 1) := by decide +kernel
theorem dL_errorPosition_2 : decode cL_errorPosition 2 = .ok (.aload_n 0, 1) := by decide +kernel
theorem dL_errorPosition_3 : decode cL_errorPosition 3 = .ok (.invokevirtual 115, 3) := by decide +kernel
theorem dL_errorPosition_6 : decode cL_errorPosition 6 = .ok (.i2l, 1) := by decide +kernel
theorem dL_errorPosition_7 : decode cL_errorPosition 7 = .ok (.lastore, 1) := by decide +kernel
theorem dL_errorPosition_8 : decode cL_errorPosition 8 = .ok (.goto 6, 3) := by decide +kernel
theorem dL_errorPosition_11 : decode cL_errorPosition 11 = .ok (.astore_n 2, 1) := by decide +kernel
theorem dL_errorPosition_12 : decode cL_errorPosition 12 = .ok (.iconst 1, 1) := by decide +kernel
theorem dL_errorPosition_13 : decode cL_errorPosition 13 = .ok (.ireturn, 1) := by decide +kernel
theorem dL_errorPosition_14 : decode cL_errorPosition 14 = .ok (.iconst 0, 1) := by decide +kernel
theorem dL_errorPosition_15 : decode cL_errorPosition 15 = .ok (.ireturn, 1) := by decide +kernel
theorem dL_failedCommand_0 : decode cL_failedCommand 0 = .ok (.aload_n 1, 1) := by decide +kernel
theorem dL_failedCommand_1 : decode cL_failedCommand 1 = .ok (.iconst 0, 1) := by decide +kernel
theorem dL_failedCommand_2 : decode cL_failedCommand 2 = .ok (.aload_n 0, 1) := by decide +kernel
theorem dL_failedCommand_3 : decode cL_failedCommand 3 = .ok (.invokevirtual 118, 3) := by decide +kernel
theorem dL_failedCommand_6 : decode cL_failedCommand 6 = .ok (.i2l, 1) := by decide +kernel
theorem dL_failedCommand_7 : decode cL_failedCommand 7 = .ok (.lastore, 1) := by decide +kernel
theorem dL_failedCommand_8 : decode cL_failedCommand 8 = .ok (.goto 6, 3) := by decide +kernel
theorem dL_failedCommand_11 : decode cL_failedCommand 11 = .ok (.astore_n 2, 1) := by decide +kernel
theorem dL_failedCommand_12 : decode cL_failedCommand 12 = .ok (.iconst 1, 1) := by decide +kernel
theorem dL_failedCommand_13 : decode cL_failedCommand 13 = .ok (.ireturn, 1) := by decide +kernel
theorem dL_failedCommand_14 : decode cL_failedCommand 14 = .ok (.iconst 0, 1) := by decide +kernel
theorem dL_failedCommand_15 : decode cL_failedCommand 15 = .ok (.ireturn, 1) := by decide +kernel
theorem dL_describeRow_0 : decode cL_describeRow 0 = .ok (.aload_n 2, 1) := by decide +kernel
theorem dL_describeRow_1 : decode cL_describeRow 1 = .ok (.iconst 0, 1) := by decide +kernel
theorem dL_describeRow_2 : decode cL_describeRow 2 = .ok (.aload_n 0, 1) := by decide +kernel
theorem dL_describeRow_3 : decode cL_describeRow 3 = .ok (.iload_n 1, 1) := by decide +kernel
theorem dL_describeRow_4 : decode cL_describeRow 4 = .ok (.invokevirtual 121, 3) := by decide +kernel
theorem dL_describeRow_7 : decode cL_describeRow 7 = .ok (.i2l, 1) := by decide +kernel
theorem dL_describeRow_8 : decode cL_describeRow 8 = .ok (.lastore, 1) := by decide +kernel
theorem dL_describeRow_9 : decode cL_describeRow 9 = .ok (.goto 6, 3) := by decide +kernel
theorem dL_describeRow_12 : decode cL_describeRow 12 = .ok (.astore_n 3, 1) := by decide +kernel
theorem dL_describeRow_13 : decode cL_describeRow 13 = .ok (.iconst 1, 1) := by decide +kernel
theorem dL_describeRow_14 : decode cL_describeRow 14 = .ok (.ireturn, 1) := by decide +kernel
theorem dL_describeRow_15 : decode cL_describeRow 15 = .ok (.iconst 0, 1) := by decide +kernel
theorem dL_describeRow_16 : decode cL_describeRow 16 = .ok (.ireturn, 1) := by decide +kernel
theorem dL_lineAt_0 : decode cL_lineAt 0 = .ok (.aload_n 2, 1) := by decide +kernel
theorem dL_lineAt_1 : decode cL_lineAt 1 = .ok (.iconst 0, 1) := by decide +kernel
theorem dL_lineAt_2 : decode cL_lineAt 2 = .ok (.aload_n 0, 1) := by decide +kernel
theorem dL_lineAt_3 : decode cL_lineAt 3 = .ok (.iload_n 1, 1) := by decide +kernel
theorem dL_lineAt_4 : decode cL_lineAt 4 = .ok (.invokevirtual 124, 3) := by decide +kernel
theorem dL_lineAt_7 : decode cL_lineAt 7 = .ok (.i2l, 1) := by decide +kernel
theorem dL_lineAt_8 : decode cL_lineAt 8 = .ok (.lastore, 1) := by decide +kernel
theorem dL_lineAt_9 : decode cL_lineAt 9 = .ok (.goto 6, 3) := by decide +kernel
theorem dL_lineAt_12 : decode cL_lineAt 12 = .ok (.astore_n 3, 1) := by decide +kernel
theorem dL_lineAt_13 : decode cL_lineAt 13 = .ok (.iconst 1, 1) := by decide +kernel
theorem dL_lineAt_14 : decode cL_lineAt 14 = .ok (.ireturn, 1) := by decide +kernel
theorem dL_lineAt_15 : decode cL_lineAt 15 = .ok (.iconst 0, 1) := by decide +kernel
theorem dL_lineAt_16 : decode cL_lineAt 16 = .ok (.ireturn, 1) := by decide +kernel
theorem dL_meanDistance_0 : decode cL_meanDistance 0 = .ok (.aload_n 1, 1) := by decide +kernel
theorem dL_meanDistance_1 : decode cL_meanDistance 1 = .ok (.iconst 0, 1) := by decide +kernel
theorem dL_meanDistance_2 : decode cL_meanDistance 2 = .ok (.aload_n 0, 1) := by decide +kernel
theorem dL_meanDistance_3 : decode cL_meanDistance 3 = .ok (.invokevirtual 128, 3) := by decide +kernel
theorem dL_meanDistance_6 : decode cL_meanDistance 6 = .ok (.dastore, 1) := by decide +kernel
theorem dL_meanDistance_7 : decode cL_meanDistance 7 = .ok (.goto 6, 3) := by decide +kernel
theorem dL_meanDistance_10 : decode cL_meanDistance 10 = .ok (.astore_n 2, 1) := by decide +kernel
theorem dL_meanDistance_11 : decode cL_meanDistance 11 = .ok (.iconst 1, 1) := by decide +kernel
theorem dL_meanDistance_12 : decode cL_meanDistance 12 = .ok (.ireturn, 1) := by decide +kernel
theorem dL_meanDistance_13 : decode cL_meanDistance 13 = .ok (.iconst 0, 1) := by decide +kernel
theorem dL_meanDistance_14 : decode cL_meanDistance 14 = .ok (.ireturn, 1) := by decide +kernel
theorem dL_mixedShare_0 : decode cL_mixedShare 0 = .ok (.aload_n 1, 1) := by decide +kernel
theorem dL_mixedShare_1 : decode cL_mixedShare 1 = .ok (.iconst 0, 1) := by decide +kernel
theorem dL_mixedShare_2 : decode cL_mixedShare 2 = .ok (.aload_n 0, 1) := by decide +kernel
theorem dL_mixedShare_3 : decode cL_mixedShare 3 = .ok (.invokevirtual 134, 3) := by decide +kernel
theorem dL_mixedShare_6 : decode cL_mixedShare 6 = .ok (.f2d, 1) := by decide +kernel
theorem dL_mixedShare_7 : decode cL_mixedShare 7 = .ok (.dastore, 1) := by decide +kernel
theorem dL_mixedShare_8 : decode cL_mixedShare 8 = .ok (.goto 6, 3) := by decide +kernel
theorem dL_mixedShare_11 : decode cL_mixedShare 11 = .ok (.astore_n 2, 1) := by decide +kernel
theorem dL_mixedShare_12 : decode cL_mixedShare 12 = .ok (.iconst 1, 1) := by decide +kernel
theorem dL_mixedShare_13 : decode cL_mixedShare 13 = .ok (.ireturn, 1) := by decide +kernel
theorem dL_mixedShare_14 : decode cL_mixedShare 14 = .ok (.iconst 0, 1) := by decide +kernel
theorem dL_mixedShare_15 : decode cL_mixedShare 15 = .ok (.ireturn, 1) := by decide +kernel
theorem dL_undo_0 : decode cL_undo 0 = .ok (.aload_n 1, 1) := by decide +kernel
theorem dL_undo_1 : decode cL_undo 1 = .ok (.iconst 0, 1) := by decide +kernel
theorem dL_undo_2 : decode cL_undo 2 = .ok (.aload_n 0, 1) := by decide +kernel
theorem dL_undo_3 : decode cL_undo 3 = .ok (.invokevirtual 138, 3) := by decide +kernel
theorem dL_undo_6 : decode cL_undo 6 = .ok (.i2l, 1) := by decide +kernel
theorem dL_undo_7 : decode cL_undo 7 = .ok (.lastore, 1) := by decide +kernel
theorem dL_undo_8 : decode cL_undo 8 = .ok (.goto 6, 3) := by decide +kernel
theorem dL_undo_11 : decode cL_undo 11 = .ok (.astore_n 2, 1) := by decide +kernel
theorem dL_undo_12 : decode cL_undo 12 = .ok (.iconst 1, 1) := by decide +kernel
theorem dL_undo_13 : decode cL_undo 13 = .ok (.ireturn, 1) := by decide +kernel
theorem dL_undo_14 : decode cL_undo 14 = .ok (.iconst 0, 1) := by decide +kernel
theorem dL_undo_15 : decode cL_undo 15 = .ok (.ireturn, 1) := by decide +kernel
theorem dL_restore_0 : decode cL_restore 0 = .ok (.aload_n 1, 1) := by decide +kernel
theorem dL_restore_1 : decode cL_restore 1 = .ok (.iconst 0, 1) := by decide +kernel
theorem dL_restore_2 : decode cL_restore 2 = .ok (.aload_n 0, 1) := by decide +kernel
theorem dL_restore_3 : decode cL_restore 3 = .ok (.invokevirtual 141, 3) := by decide +kernel
theorem dL_restore_6 : decode cL_restore 6 = .ok (.i2l, 1) := by decide +kernel
theorem dL_restore_7 : decode cL_restore 7 = .ok (.lastore, 1) := by decide +kernel
theorem dL_restore_8 : decode cL_restore 8 = .ok (.goto 6, 3) := by decide +kernel
theorem dL_restore_11 : decode cL_restore 11 = .ok (.astore_n 2, 1) := by decide +kernel
theorem dL_restore_12 : decode cL_restore 12 = .ok (.iconst 1, 1) := by decide +kernel
theorem dL_restore_13 : decode cL_restore 13 = .ok (.ireturn, 1) := by decide +kernel
theorem dL_restore_14 : decode cL_restore 14 = .ok (.iconst 0, 1) := by decide +kernel
theorem dL_restore_15 : decode cL_restore 15 = .ok (.ireturn, 1) := by decide +kernel
