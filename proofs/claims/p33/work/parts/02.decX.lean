theorem dX0_init_0 : decode cX0_init 0 = .ok (.aload_n 0, 1) := by decide +kernel
theorem dX0_init_1 : decode cX0_init 1 = .ok (.invokespecial 3, 3) := by decide +kernel
theorem dX0_init_4 : decode cX0_init 4 = .ok (.aload_n 0, 1) := by decide +kernel
theorem dX0_init_5 : decode cX0_init 5 = .ok (.iload_n 1, 1) := by decide +kernel
theorem dX0_init_6 : decode cX0_init 6 = .ok (.putfield 9, 3) := by decide +kernel
theorem dX0_init_9 : decode cX0_init 9 = .ok (.aload_n 0, 1) := by decide +kernel
theorem dX0_init_10 : decode cX0_init 10 = .ok (.aload_n 2, 1) := by decide +kernel
theorem dX0_init_11 : decode cX0_init 11 = .ok (.putfield 15, 3) := by decide +kernel
theorem dX0_init_14 : decode cX0_init 14 = .ok (.aload_n 0, 1) := by decide +kernel
theorem dX0_init_15 : decode cX0_init 15 = .ok (.aload_n 2, 1) := by decide +kernel
theorem dX0_init_16 : decode cX0_init 16 = .ok (.getfield 19, 3) := by decide +kernel
theorem dX0_init_19 : decode cX0_init 19 = .ok (.putfield 25, 3) := by decide +kernel
theorem dX0_init_22 : decode cX0_init 22 = .ok (.aload_n 0, 1) := by decide +kernel
theorem dX0_init_23 : decode cX0_init 23 = .ok (.iload_n 3, 1) := by decide +kernel
theorem dX0_init_24 : decode cX0_init 24 = .ok (.putfield 26, 3) := by decide +kernel
theorem dX0_init_27 : decode cX0_init 27 = .ok (.aload_n 0, 1) := by decide +kernel
theorem dX0_init_28 : decode cX0_init 28 = .ok (.aload 4, 2) := by decide +kernel
theorem dX0_init_30 : decode cX0_init 30 = .ok (.putfield 29, 3) := by decide +kernel
theorem dX0_init_33 : decode cX0_init 33 = .ok (.aload_n 0, 1) := by decide +kernel
theorem dX0_init_34 : decode cX0_init 34 = .ok (.iload 5, 2) := by decide +kernel
theorem dX0_init_36 : decode cX0_init 36 = .ok (.putfield 33, 3) := by decide +kernel
theorem dX0_init_39 : decode cX0_init 39 = .ok (.aload_n 0, 1) := by decide +kernel
theorem dX0_init_40 : decode cX0_init 40 = .ok (.aload_n 2, 1) := by decide +kernel
theorem dX0_init_41 : decode cX0_init 41 = .ok (.getfield 36, 3) := by decide +kernel
theorem dX0_init_44 : decode cX0_init 44 = .ok (.putfield 39, 3) := by decide +kernel
theorem dX0_init_47 : decode cX0_init 47 = .ok (.return_, 1) := by decide +kernel
theorem dX0_isForState_0 : decode cX0_isForState 0 = .ok (.aload_n 0, 1) := by decide +kernel
theorem dX0_isForState_1 : decode cX0_isForState 1 = .ok (.getfield 15, 3) := by decide +kernel
theorem dX0_isForState_4 : decode cX0_isForState 4 = .ok (.aload_n 1, 1) := by decide +kernel
theorem dX0_isForState_5 : decode cX0_isForState 5 = .ok (.if_acmp .ne 18, 3) := by decide +kernel
theorem dX0_isForState_8 : decode cX0_isForState 8 = .ok (.aload_n 0, 1) := by decide +kernel
theorem dX0_isForState_9 : decode cX0_isForState 9 = .ok (.getfield 25, 3) := by decide +kernel
theorem dX0_isForState_12 : decode cX0_isForState 12 = .ok (.aload_n 2, 1) := by decide +kernel
theorem dX0_isForState_13 : decode cX0_isForState 13 = .ok (.invokevirtual 42, 3) := by decide +kernel
theorem dX0_isForState_16 : decode cX0_isForState 16 = .ok (.ifCond .ne 7, 3) := by decide +kernel
theorem dX0_isForState_19 : decode cX0_isForState 19 = .ok (.iconst 1, 1) := by decide +kernel
theorem dX0_isForState_20 : decode cX0_isForState 20 = .ok (.goto 4, 3) := by decide +kernel
theorem dX0_isForState_23 : decode cX0_isForState 23 = .ok (.iconst 0, 1) := by decide +kernel
theorem dX0_isForState_24 : decode cX0_isForState 24 = .ok (.ireturn, 1) := by decide +kernel
theorem dX0_ageAt_0 : decode cX0_ageAt 0 = .ok (.iload_n 1, 1) := by decide +kernel
theorem dX0_ageAt_1 : decode cX0_ageAt 1 = .ok (.aload_n 0, 1) := by decide +kernel
theorem dX0_ageAt_2 : decode cX0_ageAt 2 = .ok (.getfield 33, 3) := by decide +kernel
theorem dX0_ageAt_5 : decode cX0_ageAt 5 = .ok (.isub, 1) := by decide +kernel
theorem dX0_ageAt_6 : decode cX0_ageAt 6 = .ok (.iconst 2, 1) := by decide +kernel
theorem dX0_ageAt_7 : decode cX0_ageAt 7 = .ok (.aload_n 0, 1) := by decide +kernel
theorem dX0_ageAt_8 : decode cX0_ageAt 8 = .ok (.getfield 15, 3) := by decide +kernel
theorem dX0_ageAt_11 : decode cX0_ageAt 11 = .ok (.getfield 36, 3) := by decide +kernel
theorem dX0_ageAt_14 : decode cX0_ageAt 14 = .ok (.aload_n 0, 1) := by decide +kernel
theorem dX0_ageAt_15 : decode cX0_ageAt 15 = .ok (.getfield 39, 3) := by decide +kernel
theorem dX0_ageAt_18 : decode cX0_ageAt 18 = .ok (.isub, 1) := by decide +kernel
theorem dX0_ageAt_19 : decode cX0_ageAt 19 = .ok (.imul, 1) := by decide +kernel
theorem dX0_ageAt_20 : decode cX0_ageAt 20 = .ok (.iadd, 1) := by decide +kernel
theorem dX0_ageAt_21 : decode cX0_ageAt 21 = .ok (.ireturn, 1) := by decide +kernel
theorem dX1_init_0 : decode cX1_init 0 = .ok (.aload_n 0, 1) := by decide +kernel
theorem dX1_init_1 : decode cX1_init 1 = .ok (.invokespecial 1, 3) := by decide +kernel
theorem dX1_init_4 : decode cX1_init 4 = .ok (.aload_n 0, 1) := by decide +kernel
theorem dX1_init_5 : decode cX1_init 5 = .ok (.iload_n 1, 1) := by decide +kernel
theorem dX1_init_6 : decode cX1_init 6 = .ok (.putfield 7, 3) := by decide +kernel
theorem dX1_init_9 : decode cX1_init 9 = .ok (.aload_n 0, 1) := by decide +kernel
theorem dX1_init_10 : decode cX1_init 10 = .ok (.aload_n 2, 1) := by decide +kernel
theorem dX1_init_11 : decode cX1_init 11 = .ok (.putfield 13, 3) := by decide +kernel
theorem dX1_init_14 : decode cX1_init 14 = .ok (.aload_n 0, 1) := by decide +kernel
theorem dX1_init_15 : decode cX1_init 15 = .ok (.aload_n 3, 1) := by decide +kernel
theorem dX1_init_16 : decode cX1_init 16 = .ok (.putfield 17, 3) := by decide +kernel
theorem dX1_init_19 : decode cX1_init 19 = .ok (.aload_n 0, 1) := by decide +kernel
theorem dX1_init_20 : decode cX1_init 20 = .ok (.iload 4, 2) := by decide +kernel
theorem dX1_init_22 : decode cX1_init 22 = .ok (.putfield 21, 3) := by decide +kernel
theorem dX1_init_25 : decode cX1_init 25 = .ok (.aload_n 0, 1) := by decide +kernel
theorem dX1_init_26 : decode cX1_init 26 = .ok (.iload 5, 2) := by decide +kernel
theorem dX1_init_28 : decode cX1_init 28 = .ok (.putfield 24, 3) := by decide +kernel
theorem dX1_init_31 : decode cX1_init 31 = .ok (.aload_n 0, 1) := by decide +kernel
theorem dX1_init_32 : decode cX1_init 32 = .ok (.iconst 0, 1) := by decide +kernel
theorem dX1_init_33 : decode cX1_init 33 = .ok (.putfield 27, 3) := by decide +kernel
theorem dX1_init_36 : decode cX1_init 36 = .ok (.return_, 1) := by decide +kernel
theorem dX1_standsFor_0 : decode cX1_standsFor 0 = .ok (.aload_n 0, 1) := by decide +kernel
theorem dX1_standsFor_1 : decode cX1_standsFor 1 = .ok (.getfield 27, 3) := by decide +kernel
theorem dX1_standsFor_4 : decode cX1_standsFor 4 = .ok (.ifCond .ne 15, 3) := by decide +kernel
theorem dX1_standsFor_7 : decode cX1_standsFor 7 = .ok (.aload_n 0, 1) := by decide +kernel
theorem dX1_standsFor_8 : decode cX1_standsFor 8 = .ok (.getfield 13, 3) := by decide +kernel
theorem dX1_standsFor_11 : decode cX1_standsFor 11 = .ok (.aload_n 1, 1) := by decide +kernel
theorem dX1_standsFor_12 : decode cX1_standsFor 12 = .ok (.if_acmp .ne 7, 3) := by decide +kernel
theorem dX1_standsFor_15 : decode cX1_standsFor 15 = .ok (.iconst 1, 1) := by decide +kernel
theorem dX1_standsFor_16 : decode cX1_standsFor 16 = .ok (.goto 4, 3) := by decide +kernel
theorem dX1_standsFor_19 : decode cX1_standsFor 19 = .ok (.iconst 0, 1) := by decide +kernel
theorem dX1_standsFor_20 : decode cX1_standsFor 20 = .ok (.ireturn, 1) := by decide +kernel
theorem dX1_isTooNear_0 : decode cX1_isTooNear 0 = .ok (.aload_n 0, 1) := by decide +kernel
theorem dX1_isTooNear_1 : decode cX1_isTooNear 1 = .ok (.getfield 17, 3) := by decide +kernel
theorem dX1_isTooNear_4 : decode cX1_isTooNear 4 = .ok (.aload_n 1, 1) := by decide +kernel
theorem dX1_isTooNear_5 : decode cX1_isTooNear 5 = .ok (.invokevirtual 31, 3) := by decide +kernel
theorem dX1_isTooNear_8 : decode cX1_isTooNear 8 = .ok (.istore 4, 2) := by decide +kernel
theorem dX1_isTooNear_10 : decode cX1_isTooNear 10 = .ok (.aload_n 0, 1) := by decide +kernel
theorem dX1_isTooNear_11 : decode cX1_isTooNear 11 = .ok (.getfield 24, 3) := by decide +kernel
theorem dX1_isTooNear_14 : decode cX1_isTooNear 14 = .ok (.iload_n 2, 1) := by decide +kernel
theorem dX1_isTooNear_15 : decode cX1_isTooNear 15 = .ok (.invokestatic 37, 3) := by decide +kernel
theorem dX1_isTooNear_18 : decode cX1_isTooNear 18 = .ok (.iload 4, 2) := by decide +kernel
theorem dX1_isTooNear_20 : decode cX1_isTooNear 20 = .ok (.i2l, 1) := by decide +kernel
theorem dX1_isTooNear_21 : decode cX1_isTooNear 21 = .ok (.lcmp, 1) := by decide +kernel
theorem dX1_isTooNear_22 : decode cX1_isTooNear 22 = .ok (.ifCond .ge 22, 3) := by decide +kernel
theorem dX1_isTooNear_25 : decode cX1_isTooNear 25 = .ok (.iload_n 3, 1) := by decide +kernel
theorem dX1_isTooNear_26 : decode cX1_isTooNear 26 = .ok (.aload_n 0, 1) := by decide +kernel
theorem dX1_isTooNear_27 : decode cX1_isTooNear 27 = .ok (.getfield 21, 3) := by decide +kernel
theorem dX1_isTooNear_30 : decode cX1_isTooNear 30 = .ok (.invokestatic 37, 3) := by decide +kernel
theorem dX1_isTooNear_33 : decode cX1_isTooNear 33 = .ok (.iload 4, 2) := by decide +kernel
theorem dX1_isTooNear_35 : decode cX1_isTooNear 35 = .ok (.i2l, 1) := by decide +kernel
theorem dX1_isTooNear_36 : decode cX1_isTooNear 36 = .ok (.lcmp, 1) := by decide +kernel
theorem dX1_isTooNear_37 : decode cX1_isTooNear 37 = .ok (.ifCond .ge 7, 3) := by decide +kernel
theorem dX1_isTooNear_40 : decode cX1_isTooNear 40 = .ok (.iconst 1, 1) := by decide +kernel
theorem dX1_isTooNear_41 : decode cX1_isTooNear 41 = .ok (.goto 4, 3) := by decide +kernel
theorem dX1_isTooNear_44 : decode cX1_isTooNear 44 = .ok (.iconst 0, 1) := by decide +kernel
theorem dX1_isTooNear_45 : decode cX1_isTooNear 45 = .ok (.ireturn, 1) := by decide +kernel
theorem dX1_hoursBetween_0 : decode cX1_hoursBetween 0 = .ok (.iload_n 1, 1) := by decide +kernel
theorem dX1_hoursBetween_1 : decode cX1_hoursBetween 1 = .ok (.i2l, 1) := by decide +kernel
theorem dX1_hoursBetween_2 : decode cX1_hoursBetween 2 = .ok (.iload_n 0, 1) := by decide +kernel
theorem dX1_hoursBetween_3 : decode cX1_hoursBetween 3 = .ok (.i2l, 1) := by decide +kernel
theorem dX1_hoursBetween_4 : decode cX1_hoursBetween 4 = .ok (.lsub, 1) := by decide +kernel
theorem dX1_hoursBetween_5 : decode cX1_hoursBetween 5 = .ok (.lconst 1, 1) := by decide +kernel
theorem dX1_hoursBetween_6 : decode cX1_hoursBetween 6 = .ok (.lsub, 1) := by decide +kernel
theorem dX1_hoursBetween_7 : decode cX1_hoursBetween 7 = .ok (.lreturn, 1) := by decide +kernel
theorem dX2_init_0 : decode cX2_init 0 = .ok (.aload_n 0, 1) := by decide +kernel
theorem dX2_init_1 : decode cX2_init 1 = .ok (.invokespecial 3, 3) := by decide +kernel
theorem dX2_init_4 : decode cX2_init 4 = .ok (.aload_n 0, 1) := by decide +kernel
theorem dX2_init_5 : decode cX2_init 5 = .ok (.aload_n 1, 1) := by decide +kernel
theorem dX2_init_6 : decode cX2_init 6 = .ok (.putfield 9, 3) := by decide +kernel
theorem dX2_init_9 : decode cX2_init 9 = .ok (.aload_n 0, 1) := by decide +kernel
theorem dX2_init_10 : decode cX2_init 10 = .ok (.aload_n 1, 1) := by decide +kernel
theorem dX2_init_11 : decode cX2_init 11 = .ok (.getfield 15, 3) := by decide +kernel
theorem dX2_init_14 : decode cX2_init 14 = .ok (.invokestatic 21, 3) := by decide +kernel
theorem dX2_init_17 : decode cX2_init 17 = .ok (.putfield 25, 3) := by decide +kernel
theorem dX2_init_20 : decode cX2_init 20 = .ok (.aload_n 0, 1) := by decide +kernel
theorem dX2_init_21 : decode cX2_init 21 = .ok (.bipush 6, 2) := by decide +kernel
theorem dX2_init_23 : decode cX2_init 23 = .ok (.newarray .int, 2) := by decide +kernel
theorem dX2_init_25 : decode cX2_init 25 = .ok (.putfield 29, 3) := by decide +kernel
theorem dX2_init_28 : decode cX2_init 28 = .ok (.aload_n 0, 1) := by decide +kernel
theorem dX2_init_29 : decode cX2_init 29 = .ok (.iconst 0, 1) := by decide +kernel
theorem dX2_init_30 : decode cX2_init 30 = .ok (.putfield 32, 3) := by decide +kernel
theorem dX2_init_33 : decode cX2_init 33 = .ok (.return_, 1) := by decide +kernel
theorem dX2_tapsUndoing_0 : decode cX2_tapsUndoing 0 = .ok (.bipush 6, 2) := by decide +kernel
theorem dX2_tapsUndoing_2 : decode cX2_tapsUndoing 2 = .ok (.newarray .long, 2) := by decide +kernel
theorem dX2_tapsUndoing_4 : decode cX2_tapsUndoing 4 = .ok (.astore_n 1, 1) := by decide +kernel
theorem dX2_tapsUndoing_5 : decode cX2_tapsUndoing 5 = .ok (.aload_n 1, 1) := by decide +kernel
theorem dX2_tapsUndoing_6 : decode cX2_tapsUndoing 6 = .ok (.iconst 0, 1) := by decide +kernel
theorem dX2_tapsUndoing_7 : decode cX2_tapsUndoing 7 = .ok (.aload_n 0, 1) := by decide +kernel
theorem dX2_tapsUndoing_8 : decode cX2_tapsUndoing 8 = .ok (.iconst 0, 1) := by decide +kernel
theorem dX2_tapsUndoing_9 : decode cX2_tapsUndoing 9 = .ok (.iaload, 1) := by decide +kernel
theorem dX2_tapsUndoing_10 : decode cX2_tapsUndoing 10 = .ok (.i2l, 1) := by decide +kernel
theorem dX2_tapsUndoing_11 : decode cX2_tapsUndoing 11 = .ok (.lastore, 1) := by decide +kernel
theorem dX2_tapsUndoing_12 : decode cX2_tapsUndoing 12 = .ok (.iconst 1, 1) := by decide +kernel
theorem dX2_tapsUndoing_13 : decode cX2_tapsUndoing 13 = .ok (.istore_n 2, 1) := by decide +kernel
theorem dX2_tapsUndoing_14 : decode cX2_tapsUndoing 14 = .ok (.iload_n 2, 1) := by decide +kernel
theorem dX2_tapsUndoing_15 : decode cX2_tapsUndoing 15 = .ok (.bipush 6, 2) := by decide +kernel
theorem dX2_tapsUndoing_17 : decode cX2_tapsUndoing 17 = .ok (.if_icmp .ge 57, 3) := by decide +kernel
theorem dX2_tapsUndoing_20 : decode cX2_tapsUndoing 20 = .ok (.lconst 0, 1) := by decide +kernel
theorem dX2_tapsUndoing_21 : decode cX2_tapsUndoing 21 = .ok (.lstore_n 3, 1) := by decide +kernel
theorem dX2_tapsUndoing_22 : decode cX2_tapsUndoing 22 = .ok (.iconst 1, 1) := by decide +kernel
theorem dX2_tapsUndoing_23 : decode cX2_tapsUndoing 23 = .ok (.istore 5, 2) := by decide +kernel
theorem dX2_tapsUndoing_25 : decode cX2_tapsUndoing 25 = .ok (.iload 5, 2) := by decide +kernel
theorem dX2_tapsUndoing_27 : decode cX2_tapsUndoing 27 = .ok (.iconst 4, 1) := by decide +kernel
theorem dX2_tapsUndoing_28 : decode cX2_tapsUndoing 28 = .ok (.if_icmp .ge 30, 3) := by decide +kernel
theorem dX2_tapsUndoing_31 : decode cX2_tapsUndoing 31 = .ok (.iload 5, 2) := by decide +kernel
theorem dX2_tapsUndoing_33 : decode cX2_tapsUndoing 33 = .ok (.iload_n 2, 1) := by decide +kernel
theorem dX2_tapsUndoing_34 : decode cX2_tapsUndoing 34 = .ok (.if_icmp .gt 24, 3) := by decide +kernel
theorem dX2_tapsUndoing_37 : decode cX2_tapsUndoing 37 = .ok (.lload_n 3, 1) := by decide +kernel
theorem dX2_tapsUndoing_38 : decode cX2_tapsUndoing 38 = .ok (.aload_n 0, 1) := by decide +kernel
theorem dX2_tapsUndoing_39 : decode cX2_tapsUndoing 39 = .ok (.iload 5, 2) := by decide +kernel
theorem dX2_tapsUndoing_41 : decode cX2_tapsUndoing 41 = .ok (.iaload, 1) := by decide +kernel
theorem dX2_tapsUndoing_42 : decode cX2_tapsUndoing 42 = .ok (.i2l, 1) := by decide +kernel
theorem dX2_tapsUndoing_43 : decode cX2_tapsUndoing 43 = .ok (.aload_n 1, 1) := by decide +kernel
theorem dX2_tapsUndoing_44 : decode cX2_tapsUndoing 44 = .ok (.iload_n 2, 1) := by decide +kernel
theorem dX2_tapsUndoing_45 : decode cX2_tapsUndoing 45 = .ok (.iload 5, 2) := by decide +kernel
theorem dX2_tapsUndoing_47 : decode cX2_tapsUndoing 47 = .ok (.isub, 1) := by decide +kernel
theorem dX2_tapsUndoing_48 : decode cX2_tapsUndoing 48 = .ok (.laload, 1) := by decide +kernel
theorem dX2_tapsUndoing_49 : decode cX2_tapsUndoing 49 = .ok (.lmul, 1) := by decide +kernel
theorem dX2_tapsUndoing_50 : decode cX2_tapsUndoing 50 = .ok (.ladd, 1) := by decide +kernel
theorem dX2_tapsUndoing_51 : decode cX2_tapsUndoing 51 = .ok (.lstore_n 3, 1) := by decide +kernel
theorem dX2_tapsUndoing_52 : decode cX2_tapsUndoing 52 = .ok (.iinc 5 1, 3) := by decide +kernel
theorem dX2_tapsUndoing_55 : decode cX2_tapsUndoing 55 = .ok (.goto (-30), 3) := by decide +kernel
theorem dX2_tapsUndoing_58 : decode cX2_tapsUndoing 58 = .ok (.aload_n 1, 1) := by decide +kernel
theorem dX2_tapsUndoing_59 : decode cX2_tapsUndoing 59 = .ok (.iload_n 2, 1) := by decide +kernel
theorem dX2_tapsUndoing_60 : decode cX2_tapsUndoing 60 = .ok (.aload_n 0, 1) := by decide +kernel
theorem dX2_tapsUndoing_61 : decode cX2_tapsUndoing 61 = .ok (.iconst 0, 1) := by decide +kernel
theorem dX2_tapsUndoing_62 : decode cX2_tapsUndoing 62 = .ok (.iaload, 1) := by decide +kernel
theorem dX2_tapsUndoing_63 : decode cX2_tapsUndoing 63 = .ok (.ineg, 1) := by decide +kernel
theorem dX2_tapsUndoing_64 : decode cX2_tapsUndoing 64 = .ok (.i2l, 1) := by decide +kernel
theorem dX2_tapsUndoing_65 : decode cX2_tapsUndoing 65 = .ok (.lload_n 3, 1) := by decide +kernel
theorem dX2_tapsUndoing_66 : decode cX2_tapsUndoing 66 = .ok (.lmul, 1) := by decide +kernel
theorem dX2_tapsUndoing_67 : decode cX2_tapsUndoing 67 = .ok (.lastore, 1) := by decide +kernel
theorem dX2_tapsUndoing_68 : decode cX2_tapsUndoing 68 = .ok (.iinc 2 1, 3) := by decide +kernel
theorem dX2_tapsUndoing_71 : decode cX2_tapsUndoing 71 = .ok (.goto (-57), 3) := by decide +kernel
theorem dX2_tapsUndoing_74 : decode cX2_tapsUndoing 74 = .ok (.aload_n 1, 1) := by decide +kernel
theorem dX2_tapsUndoing_75 : decode cX2_tapsUndoing 75 = .ok (.areturn, 1) := by decide +kernel
theorem dX2_getInput_0 : decode cX2_getInput 0 = .ok (.iconst 5, 1) := by decide +kernel
theorem dX2_getInput_1 : decode cX2_getInput 1 = .ok (.istore_n 2, 1) := by decide +kernel
theorem dX2_getInput_2 : decode cX2_getInput 2 = .ok (.iload_n 2, 1) := by decide +kernel
theorem dX2_getInput_3 : decode cX2_getInput 3 = .ok (.ifCond .le 23, 3) := by decide +kernel
theorem dX2_getInput_6 : decode cX2_getInput 6 = .ok (.aload_n 0, 1) := by decide +kernel
theorem dX2_getInput_7 : decode cX2_getInput 7 = .ok (.getfield 29, 3) := by decide +kernel
theorem dX2_getInput_10 : decode cX2_getInput 10 = .ok (.iload_n 2, 1) := by decide +kernel
theorem dX2_getInput_11 : decode cX2_getInput 11 = .ok (.aload_n 0, 1) := by decide +kernel
theorem dX2_getInput_12 : decode cX2_getInput 12 = .ok (.getfield 29, 3) := by decide +kernel
theorem dX2_getInput_15 : decode cX2_getInput 15 = .ok (.iload_n 2, 1) := by decide +kernel
theorem dX2_getInput_16 : decode cX2_getInput 16 = .ok (.iconst 1, 1) := by decide +kernel
theorem dX2_getInput_17 : decode cX2_getInput 17 = .ok (.isub, 1) := by decide +kernel
theorem dX2_getInput_18 : decode cX2_getInput 18 = .ok (.iaload, 1) := by decide +kernel
theorem dX2_getInput_19 : decode cX2_getInput 19 = .ok (.iastore, 1) := by decide +kernel
theorem dX2_getInput_20 : decode cX2_getInput 20 = .ok (.iinc 2 (-1), 3) := by decide +kernel
theorem dX2_getInput_23 : decode cX2_getInput 23 = .ok (.goto (-21), 3) := by decide +kernel
theorem dX2_getInput_26 : decode cX2_getInput 26 = .ok (.aload_n 0, 1) := by decide +kernel
theorem dX2_getInput_27 : decode cX2_getInput 27 = .ok (.getfield 29, 3) := by decide +kernel
theorem dX2_getInput_30 : decode cX2_getInput 30 = .ok (.iconst 0, 1) := by decide +kernel
theorem dX2_getInput_31 : decode cX2_getInput 31 = .ok (.iload_n 1, 1) := by decide +kernel
theorem dX2_getInput_32 : decode cX2_getInput 32 = .ok (.iastore, 1) := by decide +kernel
theorem dX2_getInput_33 : decode cX2_getInput 33 = .ok (.aload_n 0, 1) := by decide +kernel
theorem dX2_getInput_34 : decode cX2_getInput 34 = .ok (.dup, 1) := by decide +kernel
theorem dX2_getInput_35 : decode cX2_getInput 35 = .ok (.getfield 32, 3) := by decide +kernel
theorem dX2_getInput_38 : decode cX2_getInput 38 = .ok (.iconst 1, 1) := by decide +kernel
theorem dX2_getInput_39 : decode cX2_getInput 39 = .ok (.iadd, 1) := by decide +kernel
theorem dX2_getInput_40 : decode cX2_getInput 40 = .ok (.putfield 32, 3) := by decide +kernel
theorem dX2_getInput_43 : decode cX2_getInput 43 = .ok (.return_, 1) := by decide +kernel
theorem dX2_given_0 : decode cX2_given 0 = .ok (.lconst 0, 1) := by decide +kernel
theorem dX2_given_1 : decode cX2_given 1 = .ok (.lstore_n 1, 1) := by decide +kernel
theorem dX2_given_2 : decode cX2_given 2 = .ok (.iconst 0, 1) := by decide +kernel
theorem dX2_given_3 : decode cX2_given 3 = .ok (.istore_n 3, 1) := by decide +kernel
theorem dX2_given_4 : decode cX2_given 4 = .ok (.iload_n 3, 1) := by decide +kernel
theorem dX2_given_5 : decode cX2_given 5 = .ok (.bipush 6, 2) := by decide +kernel
theorem dX2_given_7 : decode cX2_given 7 = .ok (.if_icmp .ge 26, 3) := by decide +kernel
theorem dX2_given_10 : decode cX2_given 10 = .ok (.lload_n 1, 1) := by decide +kernel
theorem dX2_given_11 : decode cX2_given 11 = .ok (.aload_n 0, 1) := by decide +kernel
theorem dX2_given_12 : decode cX2_given 12 = .ok (.getfield 25, 3) := by decide +kernel
theorem dX2_given_15 : decode cX2_given 15 = .ok (.iload_n 3, 1) := by decide +kernel
theorem dX2_given_16 : decode cX2_given 16 = .ok (.laload, 1) := by decide +kernel
theorem dX2_given_17 : decode cX2_given 17 = .ok (.aload_n 0, 1) := by decide +kernel
theorem dX2_given_18 : decode cX2_given 18 = .ok (.getfield 29, 3) := by decide +kernel
theorem dX2_given_21 : decode cX2_given 21 = .ok (.iload_n 3, 1) := by decide +kernel
theorem dX2_given_22 : decode cX2_given 22 = .ok (.iaload, 1) := by decide +kernel
theorem dX2_given_23 : decode cX2_given 23 = .ok (.i2l, 1) := by decide +kernel
theorem dX2_given_24 : decode cX2_given 24 = .ok (.lmul, 1) := by decide +kernel
theorem dX2_given_25 : decode cX2_given 25 = .ok (.ladd, 1) := by decide +kernel
theorem dX2_given_26 : decode cX2_given 26 = .ok (.lstore_n 1, 1) := by decide +kernel
theorem dX2_given_27 : decode cX2_given 27 = .ok (.iinc 3 1, 3) := by decide +kernel
theorem dX2_given_30 : decode cX2_given 30 = .ok (.goto (-26), 3) := by decide +kernel
theorem dX2_given_33 : decode cX2_given 33 = .ok (.lload_n 1, 1) := by decide +kernel
theorem dX2_given_34 : decode cX2_given 34 = .ok (.lreturn, 1) := by decide +kernel
theorem dX2_rowSample_0 : decode cX2_rowSample 0 = .ok (.lconst 0, 1) := by decide +kernel
theorem dX2_rowSample_1 : decode cX2_rowSample 1 = .ok (.lstore_n 3, 1) := by decide +kernel
theorem dX2_rowSample_2 : decode cX2_rowSample 2 = .ok (.iconst 0, 1) := by decide +kernel
theorem dX2_rowSample_3 : decode cX2_rowSample 3 = .ok (.istore 5, 2) := by decide +kernel
theorem dX2_rowSample_5 : decode cX2_rowSample 5 = .ok (.iload 5, 2) := by decide +kernel
theorem dX2_rowSample_7 : decode cX2_rowSample 7 = .ok (.iconst 4, 1) := by decide +kernel
theorem dX2_rowSample_8 : decode cX2_rowSample 8 = .ok (.if_icmp .ge 36, 3) := by decide +kernel
theorem dX2_rowSample_11 : decode cX2_rowSample 11 = .ok (.iload 5, 2) := by decide +kernel
theorem dX2_rowSample_13 : decode cX2_rowSample 13 = .ok (.iload_n 2, 1) := by decide +kernel
theorem dX2_rowSample_14 : decode cX2_rowSample 14 = .ok (.if_icmp .gt 30, 3) := by decide +kernel
theorem dX2_rowSample_17 : decode cX2_rowSample 17 = .ok (.lload_n 3, 1) := by decide +kernel
theorem dX2_rowSample_18 : decode cX2_rowSample 18 = .ok (.aload_n 1, 1) := by decide +kernel
theorem dX2_rowSample_19 : decode cX2_rowSample 19 = .ok (.getfield 15, 3) := by decide +kernel
theorem dX2_rowSample_22 : decode cX2_rowSample 22 = .ok (.iload 5, 2) := by decide +kernel
theorem dX2_rowSample_24 : decode cX2_rowSample 24 = .ok (.iaload, 1) := by decide +kernel
theorem dX2_rowSample_25 : decode cX2_rowSample 25 = .ok (.i2l, 1) := by decide +kernel
theorem dX2_rowSample_26 : decode cX2_rowSample 26 = .ok (.aload_n 0, 1) := by decide +kernel
theorem dX2_rowSample_27 : decode cX2_rowSample 27 = .ok (.getfield 25, 3) := by decide +kernel
theorem dX2_rowSample_30 : decode cX2_rowSample 30 = .ok (.iload_n 2, 1) := by decide +kernel
theorem dX2_rowSample_31 : decode cX2_rowSample 31 = .ok (.iload 5, 2) := by decide +kernel
theorem dX2_rowSample_33 : decode cX2_rowSample 33 = .ok (.isub, 1) := by decide +kernel
theorem dX2_rowSample_34 : decode cX2_rowSample 34 = .ok (.laload, 1) := by decide +kernel
theorem dX2_rowSample_35 : decode cX2_rowSample 35 = .ok (.lmul, 1) := by decide +kernel
theorem dX2_rowSample_36 : decode cX2_rowSample 36 = .ok (.ladd, 1) := by decide +kernel
theorem dX2_rowSample_37 : decode cX2_rowSample 37 = .ok (.lstore_n 3, 1) := by decide +kernel
theorem dX2_rowSample_38 : decode cX2_rowSample 38 = .ok (.iinc 5 1, 3) := by decide +kernel
theorem dX2_rowSample_41 : decode cX2_rowSample 41 = .ok (.goto (-36), 3) := by decide +kernel
theorem dX2_rowSample_44 : decode cX2_rowSample 44 = .ok (.lload_n 3, 1) := by decide +kernel
theorem dX2_rowSample_45 : decode cX2_rowSample 45 = .ok (.lreturn, 1) := by decide +kernel
theorem dX2_rightSamplesWith_0 : decode cX2_rightSamplesWith 0 = .ok (.iconst 0, 1) := by decide +kernel
theorem dX2_rightSamplesWith_1 : decode cX2_rightSamplesWith 1 = .ok (.istore_n 2, 1) := by decide +kernel
theorem dX2_rightSamplesWith_2 : decode cX2_rightSamplesWith 2 = .ok (.iload_n 2, 1) := by decide +kernel
theorem dX2_rightSamplesWith_3 : decode cX2_rightSamplesWith 3 = .ok (.bipush 6, 2) := by decide +kernel
theorem dX2_rightSamplesWith_5 : decode cX2_rightSamplesWith 5 = .ok (.if_icmp .ge 29, 3) := by decide +kernel
theorem dX2_rightSamplesWith_8 : decode cX2_rightSamplesWith 8 = .ok (.aload_n 0, 1) := by decide +kernel
theorem dX2_rightSamplesWith_9 : decode cX2_rightSamplesWith 9 = .ok (.aload_n 1, 1) := by decide +kernel
theorem dX2_rightSamplesWith_10 : decode cX2_rightSamplesWith 10 = .ok (.iload_n 2, 1) := by decide +kernel
theorem dX2_rightSamplesWith_11 : decode cX2_rightSamplesWith 11 = .ok (.invokevirtual 36, 3) := by decide +kernel
theorem dX2_rightSamplesWith_14 : decode cX2_rightSamplesWith 14 = .ok (.iload_n 2, 1) := by decide +kernel
theorem dX2_rightSamplesWith_15 : decode cX2_rightSamplesWith 15 = .ok (.ifCond .ne 7, 3) := by decide +kernel
theorem dX2_rightSamplesWith_18 : decode cX2_rightSamplesWith 18 = .ok (.iconst 1, 1) := by decide +kernel
theorem dX2_rightSamplesWith_19 : decode cX2_rightSamplesWith 19 = .ok (.goto 4, 3) := by decide +kernel
theorem dX2_rightSamplesWith_22 : decode cX2_rightSamplesWith 22 = .ok (.iconst 0, 1) := by decide +kernel
theorem dX2_rightSamplesWith_23 : decode cX2_rightSamplesWith 23 = .ok (.i2l, 1) := by decide +kernel
theorem dX2_rightSamplesWith_24 : decode cX2_rightSamplesWith 24 = .ok (.lcmp, 1) := by decide +kernel
theorem dX2_rightSamplesWith_25 : decode cX2_rightSamplesWith 25 = .ok (.ifCond .ne 9, 3) := by decide +kernel
theorem dX2_rightSamplesWith_28 : decode cX2_rightSamplesWith 28 = .ok (.iinc 2 1, 3) := by decide +kernel
theorem dX2_rightSamplesWith_31 : decode cX2_rightSamplesWith 31 = .ok (.goto (-29), 3) := by decide +kernel
theorem dX2_rightSamplesWith_34 : decode cX2_rightSamplesWith 34 = .ok (.iload_n 2, 1) := by decide +kernel
theorem dX2_rightSamplesWith_35 : decode cX2_rightSamplesWith 35 = .ok (.ireturn, 1) := by decide +kernel
theorem dX3_init_0 : decode cX3_init 0 = .ok (.aload_n 0, 1) := by decide +kernel
theorem dX3_init_1 : decode cX3_init 1 = .ok (.invokespecial 1, 3) := by decide +kernel
theorem dX3_init_4 : decode cX3_init 4 = .ok (.aload_n 0, 1) := by decide +kernel
theorem dX3_init_5 : decode cX3_init 5 = .ok (.aload_n 1, 1) := by decide +kernel
theorem dX3_init_6 : decode cX3_init 6 = .ok (.putfield 7, 3) := by decide +kernel
theorem dX3_init_9 : decode cX3_init 9 = .ok (.aload_n 0, 1) := by decide +kernel
theorem dX3_init_10 : decode cX3_init 10 = .ok (.iconst 0, 1) := by decide +kernel
theorem dX3_init_11 : decode cX3_init 11 = .ok (.putfield 13, 3) := by decide +kernel
theorem dX3_init_14 : decode cX3_init 14 = .ok (.return_, 1) := by decide +kernel
theorem dX3_take_0 : decode cX3_take 0 = .ok (.aload_n 0, 1) := by decide +kernel
theorem dX3_take_1 : decode cX3_take 1 = .ok (.getfield 7, 3) := by decide +kernel
theorem dX3_take_4 : decode cX3_take 4 = .ok (.aload_n 1, 1) := by decide +kernel
theorem dX3_take_5 : decode cX3_take 5 = .ok (.invokevirtual 17, 3) := by decide +kernel
theorem dX3_take_8 : decode cX3_take 8 = .ok (.istore_n 2, 1) := by decide +kernel
theorem dX3_take_9 : decode cX3_take 9 = .ok (.aload_n 0, 1) := by decide +kernel
theorem dX3_take_10 : decode cX3_take 10 = .ok (.aload_n 1, 1) := by decide +kernel
theorem dX3_take_11 : decode cX3_take 11 = .ok (.putfield 7, 3) := by decide +kernel
theorem dX3_take_14 : decode cX3_take 14 = .ok (.aload_n 0, 1) := by decide +kernel
theorem dX3_take_15 : decode cX3_take 15 = .ok (.dup, 1) := by decide +kernel
theorem dX3_take_16 : decode cX3_take 16 = .ok (.getfield 13, 3) := by decide +kernel
theorem dX3_take_19 : decode cX3_take 19 = .ok (.iload_n 2, 1) := by decide +kernel
theorem dX3_take_20 : decode cX3_take 20 = .ok (.iadd, 1) := by decide +kernel
theorem dX3_take_21 : decode cX3_take 21 = .ok (.putfield 13, 3) := by decide +kernel
theorem dX3_take_24 : decode cX3_take 24 = .ok (.iload_n 2, 1) := by decide +kernel
theorem dX3_take_25 : decode cX3_take 25 = .ok (.ireturn, 1) := by decide +kernel
theorem dX4_init_0 : decode cX4_init 0 = .ok (.aload_n 0, 1) := by decide +kernel
theorem dX4_init_1 : decode cX4_init 1 = .ok (.invokespecial 1, 3) := by decide +kernel
theorem dX4_init_4 : decode cX4_init 4 = .ok (.aload_n 0, 1) := by decide +kernel
theorem dX4_init_5 : decode cX4_init 5 = .ok (.iload_n 1, 1) := by decide +kernel
theorem dX4_init_6 : decode cX4_init 6 = .ok (.putfield 7, 3) := by decide +kernel
theorem dX4_init_9 : decode cX4_init 9 = .ok (.aload_n 0, 1) := by decide +kernel
theorem dX4_init_10 : decode cX4_init 10 = .ok (.iload_n 2, 1) := by decide +kernel
theorem dX4_init_11 : decode cX4_init 11 = .ok (.putfield 13, 3) := by decide +kernel
theorem dX4_init_14 : decode cX4_init 14 = .ok (.aload_n 0, 1) := by decide +kernel
theorem dX4_init_15 : decode cX4_init 15 = .ok (.iload_n 3, 1) := by decide +kernel
theorem dX4_init_16 : decode cX4_init 16 = .ok (.putfield 16, 3) := by decide +kernel
theorem dX4_init_19 : decode cX4_init 19 = .ok (.return_, 1) := by decide +kernel
theorem dX4_partsUnlike_0 : decode cX4_partsUnlike 0 = .ok (.iconst 0, 1) := by decide +kernel
theorem dX4_partsUnlike_1 : decode cX4_partsUnlike 1 = .ok (.istore_n 2, 1) := by decide +kernel
theorem dX4_partsUnlike_2 : decode cX4_partsUnlike 2 = .ok (.aload_n 0, 1) := by decide +kernel
theorem dX4_partsUnlike_3 : decode cX4_partsUnlike 3 = .ok (.getfield 7, 3) := by decide +kernel
theorem dX4_partsUnlike_6 : decode cX4_partsUnlike 6 = .ok (.aload_n 1, 1) := by decide +kernel
theorem dX4_partsUnlike_7 : decode cX4_partsUnlike 7 = .ok (.getfield 7, 3) := by decide +kernel
theorem dX4_partsUnlike_10 : decode cX4_partsUnlike 10 = .ok (.if_icmp .eq 6, 3) := by decide +kernel
theorem dX4_partsUnlike_13 : decode cX4_partsUnlike 13 = .ok (.iinc 2 1, 3) := by decide +kernel
theorem dX4_partsUnlike_16 : decode cX4_partsUnlike 16 = .ok (.aload_n 0, 1) := by decide +kernel
theorem dX4_partsUnlike_17 : decode cX4_partsUnlike 17 = .ok (.getfield 13, 3) := by decide +kernel
theorem dX4_partsUnlike_20 : decode cX4_partsUnlike 20 = .ok (.aload_n 1, 1) := by decide +kernel
theorem dX4_partsUnlike_21 : decode cX4_partsUnlike 21 = .ok (.getfield 13, 3) := by decide +kernel
theorem dX4_partsUnlike_24 : decode cX4_partsUnlike 24 = .ok (.if_icmp .eq 6, 3) := by decide +kernel
theorem dX4_partsUnlike_27 : decode cX4_partsUnlike 27 = .ok (.iinc 2 1, 3) := by decide +kernel
theorem dX4_partsUnlike_30 : decode cX4_partsUnlike 30 = .ok (.aload_n 0, 1) := by decide +kernel
theorem dX4_partsUnlike_31 : decode cX4_partsUnlike 31 = .ok (.getfield 16, 3) := by decide +kernel
theorem dX4_partsUnlike_34 : decode cX4_partsUnlike 34 = .ok (.aload_n 1, 1) := by decide +kernel
theorem dX4_partsUnlike_35 : decode cX4_partsUnlike 35 = .ok (.getfield 16, 3) := by decide +kernel
theorem dX4_partsUnlike_38 : decode cX4_partsUnlike 38 = .ok (.if_icmp .eq 6, 3) := by decide +kernel
theorem dX4_partsUnlike_41 : decode cX4_partsUnlike 41 = .ok (.iinc 2 1, 3) := by decide +kernel
theorem dX4_partsUnlike_44 : decode cX4_partsUnlike 44 = .ok (.iload_n 2, 1) := by decide +kernel
theorem dX4_partsUnlike_45 : decode cX4_partsUnlike 45 = .ok (.ireturn, 1) := by decide +kernel
theorem dX5_init_0 : decode cX5_init 0 = .ok (.aload_n 0, 1) := by decide +kernel
theorem dX5_init_1 : decode cX5_init 1 = .ok (.invokespecial 1, 3) := by decide +kernel
theorem dX5_init_4 : decode cX5_init 4 = .ok (.aload_n 0, 1) := by decide +kernel
theorem dX5_init_5 : decode cX5_init 5 = .ok (.new 7, 3) := by decide +kernel
theorem dX5_init_8 : decode cX5_init 8 = .ok (.dup, 1) := by decide +kernel
theorem dX5_init_9 : decode cX5_init 9 = .ok (.invokespecial 9, 3) := by decide +kernel
theorem dX5_init_12 : decode cX5_init 12 = .ok (.putfield 10, 3) := by decide +kernel
theorem dX5_init_15 : decode cX5_init 15 = .ok (.aload_n 0, 1) := by decide +kernel
theorem dX5_init_16 : decode cX5_init 16 = .ok (.new 7, 3) := by decide +kernel
theorem dX5_init_19 : decode cX5_init 19 = .ok (.dup, 1) := by decide +kernel
theorem dX5_init_20 : decode cX5_init 20 = .ok (.invokespecial 9, 3) := by decide +kernel
theorem dX5_init_23 : decode cX5_init 23 = .ok (.putfield 16, 3) := by decide +kernel
theorem dX5_init_26 : decode cX5_init 26 = .ok (.aload_n 0, 1) := by decide +kernel
theorem dX5_init_27 : decode cX5_init 27 = .ok (.new 7, 3) := by decide +kernel
theorem dX5_init_30 : decode cX5_init 30 = .ok (.dup, 1) := by decide +kernel
theorem dX5_init_31 : decode cX5_init 31 = .ok (.invokespecial 9, 3) := by decide +kernel
theorem dX5_init_34 : decode cX5_init 34 = .ok (.putfield 19, 3) := by decide +kernel
theorem dX5_init_37 : decode cX5_init 37 = .ok (.aload_n 0, 1) := by decide +kernel
theorem dX5_init_38 : decode cX5_init 38 = .ok (.new 7, 3) := by decide +kernel
theorem dX5_init_41 : decode cX5_init 41 = .ok (.dup, 1) := by decide +kernel
theorem dX5_init_42 : decode cX5_init 42 = .ok (.invokespecial 9, 3) := by decide +kernel
theorem dX5_init_45 : decode cX5_init 45 = .ok (.putfield 22, 3) := by decide +kernel
theorem dX5_init_48 : decode cX5_init 48 = .ok (.aload_n 0, 1) := by decide +kernel
theorem dX5_init_49 : decode cX5_init 49 = .ok (.iconst 0, 1) := by decide +kernel
theorem dX5_init_50 : decode cX5_init 50 = .ok (.putfield 25, 3) := by decide +kernel
theorem dX5_init_53 : decode cX5_init 53 = .ok (.aload_n 0, 1) := by decide +kernel
theorem dX5_init_54 : decode cX5_init 54 = .ok (.bipush 24, 2) := by decide +kernel
theorem dX5_init_56 : decode cX5_init 56 = .ok (.putfield 29, 3) := by decide +kernel
theorem dX5_init_59 : decode cX5_init 59 = .ok (.return_, 1) := by decide +kernel
theorem dX5_addRoom_0 : decode cX5_addRoom 0 = .ok (.aload_n 0, 1) := by decide +kernel
theorem dX5_addRoom_1 : decode cX5_addRoom 1 = .ok (.getfield 10, 3) := by decide +kernel
theorem dX5_addRoom_4 : decode cX5_addRoom 4 = .ok (.invokevirtual 32, 3) := by decide +kernel
theorem dX5_addRoom_7 : decode cX5_addRoom 7 = .ok (.istore_n 1, 1) := by decide +kernel
theorem dX5_addRoom_8 : decode cX5_addRoom 8 = .ok (.iload_n 1, 1) := by decide +kernel
theorem dX5_addRoom_9 : decode cX5_addRoom 9 = .ok (.iconst 4, 1) := by decide +kernel
theorem dX5_addRoom_10 : decode cX5_addRoom 10 = .ok (.if_icmp .lt 13, 3) := by decide +kernel
theorem dX5_addRoom_13 : decode cX5_addRoom 13 = .ok (.new 36, 3) := by decide +kernel
theorem dX5_addRoom_16 : decode cX5_addRoom 16 = .ok (.dup, 1) := by decide +kernel
theorem dX5_addRoom_17 : decode cX5_addRoom 17 = .ok (.ldc 38, 2) := by decide +kernel
theorem dX5_addRoom_19 : decode cX5_addRoom 19 = .ok (.invokespecial 40, 3) := by decide +kernel
theorem dX5_addRoom_22 : decode cX5_addRoom 22 = .ok (.athrow, 1) := by decide +kernel
theorem dX5_addRoom_23 : decode cX5_addRoom 23 = .ok (.aload_n 0, 1) := by decide +kernel
theorem dX5_addRoom_24 : decode cX5_addRoom 24 = .ok (.getfield 10, 3) := by decide +kernel
theorem dX5_addRoom_27 : decode cX5_addRoom 27 = .ok (.new 43, 3) := by decide +kernel
theorem dX5_addRoom_30 : decode cX5_addRoom 30 = .ok (.dup, 1) := by decide +kernel
theorem dX5_addRoom_31 : decode cX5_addRoom 31 = .ok (.new 45, 3) := by decide +kernel
theorem dX5_addRoom_34 : decode cX5_addRoom 34 = .ok (.dup, 1) := by decide +kernel
theorem dX5_addRoom_35 : decode cX5_addRoom 35 = .ok (.iconst 0, 1) := by decide +kernel
theorem dX5_addRoom_36 : decode cX5_addRoom 36 = .ok (.iconst 0, 1) := by decide +kernel
theorem dX5_addRoom_37 : decode cX5_addRoom 37 = .ok (.iconst 0, 1) := by decide +kernel
theorem dX5_addRoom_38 : decode cX5_addRoom 38 = .ok (.invokespecial 47, 3) := by decide +kernel
theorem dX5_addRoom_41 : decode cX5_addRoom 41 = .ok (.invokespecial 50, 3) := by decide +kernel
theorem dX5_addRoom_44 : decode cX5_addRoom 44 = .ok (.invokevirtual 53, 3) := by decide +kernel
theorem dX5_addRoom_47 : decode cX5_addRoom 47 = .ok (.pop, 1) := by decide +kernel
theorem dX5_addRoom_48 : decode cX5_addRoom 48 = .ok (.iload_n 1, 1) := by decide +kernel
theorem dX5_addRoom_49 : decode cX5_addRoom 49 = .ok (.ireturn, 1) := by decide +kernel
theorem dX5_setState_0 : decode cX5_setState 0 = .ok (.aload_n 0, 1) := by decide +kernel
theorem dX5_setState_1 : decode cX5_setState 1 = .ok (.iload_n 1, 1) := by decide +kernel
theorem dX5_setState_2 : decode cX5_setState 2 = .ok (.invokevirtual 57, 3) := by decide +kernel
theorem dX5_setState_5 : decode cX5_setState 5 = .ok (.astore 5, 2) := by decide +kernel
theorem dX5_setState_7 : decode cX5_setState 7 = .ok (.aload 5, 2) := by decide +kernel
theorem dX5_setState_9 : decode cX5_setState 9 = .ok (.iload_n 2, 1) := by decide +kernel
theorem dX5_setState_10 : decode cX5_setState 10 = .ok (.iload_n 3, 1) := by decide +kernel
theorem dX5_setState_11 : decode cX5_setState 11 = .ok (.iload 4, 2) := by decide +kernel
theorem dX5_setState_13 : decode cX5_setState 13 = .ok (.invokestatic 61, 3) := by decide +kernel
theorem dX5_setState_16 : decode cX5_setState 16 = .ok (.invokevirtual 65, 3) := by decide +kernel
theorem dX5_setState_19 : decode cX5_setState 19 = .ok (.ireturn, 1) := by decide +kernel
theorem dX5_curtains_0 : decode cX5_curtains 0 = .ok (.aload_n 0, 1) := by decide +kernel
theorem dX5_curtains_1 : decode cX5_curtains 1 = .ok (.iload_n 1, 1) := by decide +kernel
theorem dX5_curtains_2 : decode cX5_curtains 2 = .ok (.invokevirtual 57, 3) := by decide +kernel
theorem dX5_curtains_5 : decode cX5_curtains 5 = .ok (.getfield 69, 3) := by decide +kernel
theorem dX5_curtains_8 : decode cX5_curtains 8 = .ok (.getfield 73, 3) := by decide +kernel
theorem dX5_curtains_11 : decode cX5_curtains 11 = .ok (.ireturn, 1) := by decide +kernel
theorem dX5_seats_0 : decode cX5_seats 0 = .ok (.aload_n 0, 1) := by decide +kernel
theorem dX5_seats_1 : decode cX5_seats 1 = .ok (.iload_n 1, 1) := by decide +kernel
theorem dX5_seats_2 : decode cX5_seats 2 = .ok (.invokevirtual 57, 3) := by decide +kernel
theorem dX5_seats_5 : decode cX5_seats 5 = .ok (.getfield 69, 3) := by decide +kernel
theorem dX5_seats_8 : decode cX5_seats 8 = .ok (.getfield 76, 3) := by decide +kernel
theorem dX5_seats_11 : decode cX5_seats 11 = .ok (.ireturn, 1) := by decide +kernel
theorem dX5_areOpen_0 : decode cX5_areOpen 0 = .ok (.aload_n 0, 1) := by decide +kernel
theorem dX5_areOpen_1 : decode cX5_areOpen 1 = .ok (.iload_n 1, 1) := by decide +kernel
theorem dX5_areOpen_2 : decode cX5_areOpen 2 = .ok (.invokevirtual 57, 3) := by decide +kernel
theorem dX5_areOpen_5 : decode cX5_areOpen 5 = .ok (.getfield 69, 3) := by decide +kernel
theorem dX5_areOpen_8 : decode cX5_areOpen 8 = .ok (.getfield 79, 3) := by decide +kernel
theorem dX5_areOpen_11 : decode cX5_areOpen 11 = .ok (.ireturn, 1) := by decide +kernel
theorem dX5_changes_0 : decode cX5_changes 0 = .ok (.aload_n 0, 1) := by decide +kernel
theorem dX5_changes_1 : decode cX5_changes 1 = .ok (.iload_n 1, 1) := by decide +kernel
theorem dX5_changes_2 : decode cX5_changes 2 = .ok (.invokevirtual 57, 3) := by decide +kernel
theorem dX5_changes_5 : decode cX5_changes 5 = .ok (.getfield 83, 3) := by decide +kernel
theorem dX5_changes_8 : decode cX5_changes 8 = .ok (.ireturn, 1) := by decide +kernel
theorem dX5_measure_0 : decode cX5_measure 0 = .ok (.aload_n 0, 1) := by decide +kernel
theorem dX5_measure_1 : decode cX5_measure 1 = .ok (.iload_n 1, 1) := by decide +kernel
theorem dX5_measure_2 : decode cX5_measure 2 = .ok (.invokevirtual 57, 3) := by decide +kernel
theorem dX5_measure_5 : decode cX5_measure 5 = .ok (.astore 7, 2) := by decide +kernel
theorem dX5_measure_7 : decode cX5_measure 7 = .ok (.iload_n 2, 1) := by decide +kernel
theorem dX5_measure_8 : decode cX5_measure 8 = .ok (.invokestatic 86, 3) := by decide +kernel
theorem dX5_measure_11 : decode cX5_measure 11 = .ok (.iload_n 3, 1) := by decide +kernel
theorem dX5_measure_12 : decode cX5_measure 12 = .ok (.iconst 1, 1) := by decide +kernel
theorem dX5_measure_13 : decode cX5_measure 13 = .ok (.if_icmp .eq 18, 3) := by decide +kernel
theorem dX5_measure_16 : decode cX5_measure 16 = .ok (.iload_n 3, 1) := by decide +kernel
theorem dX5_measure_17 : decode cX5_measure 17 = .ok (.iconst (-1), 1) := by decide +kernel
theorem dX5_measure_18 : decode cX5_measure 18 = .ok (.if_icmp .eq 13, 3) := by decide +kernel
theorem dX5_measure_21 : decode cX5_measure 21 = .ok (.new 90, 3) := by decide +kernel
theorem dX5_measure_24 : decode cX5_measure 24 = .ok (.dup, 1) := by decide +kernel
theorem dX5_measure_25 : decode cX5_measure 25 = .ok (.ldc 92, 2) := by decide +kernel
theorem dX5_measure_27 : decode cX5_measure 27 = .ok (.invokespecial 94, 3) := by decide +kernel
theorem dX5_measure_30 : decode cX5_measure 30 = .ok (.athrow, 1) := by decide +kernel
theorem dX5_measure_31 : decode cX5_measure 31 = .ok (.iload 4, 2) := by decide +kernel
theorem dX5_measure_33 : decode cX5_measure 33 = .ok (.invokestatic 95, 3) := by decide +kernel
theorem dX5_measure_36 : decode cX5_measure 36 = .ok (.iload 5, 2) := by decide +kernel
theorem dX5_measure_38 : decode cX5_measure 38 = .ok (.invokestatic 95, 3) := by decide +kernel
theorem dX5_measure_41 : decode cX5_measure 41 = .ok (.iload 6, 2) := by decide +kernel
theorem dX5_measure_43 : decode cX5_measure 43 = .ok (.invokestatic 95, 3) := by decide +kernel
theorem dX5_measure_46 : decode cX5_measure 46 = .ok (.aload_n 0, 1) := by decide +kernel
theorem dX5_measure_47 : decode cX5_measure 47 = .ok (.getfield 16, 3) := by decide +kernel
theorem dX5_measure_50 : decode cX5_measure 50 = .ok (.invokevirtual 32, 3) := by decide +kernel
theorem dX5_measure_53 : decode cX5_measure 53 = .ok (.istore 8, 2) := by decide +kernel
theorem dX5_measure_55 : decode cX5_measure 55 = .ok (.iload 8, 2) := by decide +kernel
theorem dX5_measure_57 : decode cX5_measure 57 = .ok (.bipush 40, 2) := by decide +kernel
theorem dX5_measure_59 : decode cX5_measure 59 = .ok (.if_icmp .lt 13, 3) := by decide +kernel
theorem dX5_measure_62 : decode cX5_measure 62 = .ok (.new 36, 3) := by decide +kernel
theorem dX5_measure_65 : decode cX5_measure 65 = .ok (.dup, 1) := by decide +kernel
theorem dX5_measure_66 : decode cX5_measure 66 = .ok (.ldc 98, 2) := by decide +kernel
theorem dX5_measure_68 : decode cX5_measure 68 = .ok (.invokespecial 40, 3) := by decide +kernel
theorem dX5_measure_71 : decode cX5_measure 71 = .ok (.athrow, 1) := by decide +kernel
theorem dX5_measure_72 : decode cX5_measure 72 = .ok (.iconst 4, 1) := by decide +kernel
theorem dX5_measure_73 : decode cX5_measure 73 = .ok (.newarray .int, 2) := by decide +kernel
theorem dX5_measure_75 : decode cX5_measure 75 = .ok (.dup, 1) := by decide +kernel
theorem dX5_measure_76 : decode cX5_measure 76 = .ok (.iconst 0, 1) := by decide +kernel
theorem dX5_measure_77 : decode cX5_measure 77 = .ok (.iload_n 3, 1) := by decide +kernel
theorem dX5_measure_78 : decode cX5_measure 78 = .ok (.iastore, 1) := by decide +kernel
theorem dX5_measure_79 : decode cX5_measure 79 = .ok (.dup, 1) := by decide +kernel
theorem dX5_measure_80 : decode cX5_measure 80 = .ok (.iconst 1, 1) := by decide +kernel
theorem dX5_measure_81 : decode cX5_measure 81 = .ok (.iload 4, 2) := by decide +kernel
theorem dX5_measure_83 : decode cX5_measure 83 = .ok (.iastore, 1) := by decide +kernel
theorem dX5_measure_84 : decode cX5_measure 84 = .ok (.dup, 1) := by decide +kernel
theorem dX5_measure_85 : decode cX5_measure 85 = .ok (.iconst 2, 1) := by decide +kernel
theorem dX5_measure_86 : decode cX5_measure 86 = .ok (.iload 5, 2) := by decide +kernel
theorem dX5_measure_88 : decode cX5_measure 88 = .ok (.iastore, 1) := by decide +kernel
theorem dX5_measure_89 : decode cX5_measure 89 = .ok (.dup, 1) := by decide +kernel
theorem dX5_measure_90 : decode cX5_measure 90 = .ok (.iconst 3, 1) := by decide +kernel
theorem dX5_measure_91 : decode cX5_measure 91 = .ok (.iload 6, 2) := by decide +kernel
theorem dX5_measure_93 : decode cX5_measure 93 = .ok (.iastore, 1) := by decide +kernel
theorem dX5_measure_94 : decode cX5_measure 94 = .ok (.astore 9, 2) := by decide +kernel
theorem dX5_measure_96 : decode cX5_measure 96 = .ok (.aload_n 0, 1) := by decide +kernel
theorem dX5_measure_97 : decode cX5_measure 97 = .ok (.getfield 16, 3) := by decide +kernel
theorem dX5_measure_100 : decode cX5_measure 100 = .ok (.new 100, 3) := by decide +kernel
theorem dX5_measure_103 : decode cX5_measure 103 = .ok (.dup, 1) := by decide +kernel
theorem dX5_measure_104 : decode cX5_measure 104 = .ok (.iload 8, 2) := by decide +kernel
theorem dX5_measure_106 : decode cX5_measure 106 = .ok (.aload 7, 2) := by decide +kernel
theorem dX5_measure_108 : decode cX5_measure 108 = .ok (.iload_n 2, 1) := by decide +kernel
theorem dX5_measure_109 : decode cX5_measure 109 = .ok (.aload 9, 2) := by decide +kernel
theorem dX5_measure_111 : decode cX5_measure 111 = .ok (.aload_n 0, 1) := by decide +kernel
theorem dX5_measure_112 : decode cX5_measure 112 = .ok (.getfield 25, 3) := by decide +kernel
theorem dX5_measure_115 : decode cX5_measure 115 = .ok (.invokespecial 102, 3) := by decide +kernel
theorem dX5_measure_118 : decode cX5_measure 118 = .ok (.invokevirtual 53, 3) := by decide +kernel
theorem dX5_measure_121 : decode cX5_measure 121 = .ok (.pop, 1) := by decide +kernel
theorem dX5_measure_122 : decode cX5_measure 122 = .ok (.iload 8, 2) := by decide +kernel
theorem dX5_measure_124 : decode cX5_measure 124 = .ok (.ireturn, 1) := by decide +kernel
theorem dX5_sample_0 : decode cX5_sample 0 = .ok (.aload_n 0, 1) := by decide +kernel
theorem dX5_sample_1 : decode cX5_sample 1 = .ok (.iload_n 1, 1) := by decide +kernel
theorem dX5_sample_2 : decode cX5_sample 2 = .ok (.invokevirtual 105, 3) := by decide +kernel
theorem dX5_sample_5 : decode cX5_sample 5 = .ok (.astore_n 3, 1) := by decide +kernel
theorem dX5_sample_6 : decode cX5_sample 6 = .ok (.iload_n 2, 1) := by decide +kernel
theorem dX5_sample_7 : decode cX5_sample 7 = .ok (.ifCond .lt 8, 3) := by decide +kernel
theorem dX5_sample_10 : decode cX5_sample 10 = .ok (.iload_n 2, 1) := by decide +kernel
theorem dX5_sample_11 : decode cX5_sample 11 = .ok (.iconst 4, 1) := by decide +kernel
theorem dX5_sample_12 : decode cX5_sample 12 = .ok (.if_icmp .lt 13, 3) := by decide +kernel
theorem dX5_sample_15 : decode cX5_sample 15 = .ok (.new 109, 3) := by decide +kernel
theorem dX5_sample_18 : decode cX5_sample 18 = .ok (.dup, 1) := by decide +kernel
theorem dX5_sample_19 : decode cX5_sample 19 = .ok (.ldc 111, 2) := by decide +kernel
theorem dX5_sample_21 : decode cX5_sample 21 = .ok (.invokespecial 113, 3) := by decide +kernel
theorem dX5_sample_24 : decode cX5_sample 24 = .ok (.athrow, 1) := by decide +kernel
theorem dX5_sample_25 : decode cX5_sample 25 = .ok (.aload_n 3, 1) := by decide +kernel
theorem dX5_sample_26 : decode cX5_sample 26 = .ok (.getfield 114, 3) := by decide +kernel
theorem dX5_sample_29 : decode cX5_sample 29 = .ok (.iload_n 2, 1) := by decide +kernel
theorem dX5_sample_30 : decode cX5_sample 30 = .ok (.iaload, 1) := by decide +kernel
theorem dX5_sample_31 : decode cX5_sample 31 = .ok (.ireturn, 1) := by decide +kernel
theorem dX5_age_0 : decode cX5_age 0 = .ok (.aload_n 0, 1) := by decide +kernel
theorem dX5_age_1 : decode cX5_age 1 = .ok (.iload_n 1, 1) := by decide +kernel
theorem dX5_age_2 : decode cX5_age 2 = .ok (.invokevirtual 105, 3) := by decide +kernel
theorem dX5_age_5 : decode cX5_age 5 = .ok (.aload_n 0, 1) := by decide +kernel
theorem dX5_age_6 : decode cX5_age 6 = .ok (.getfield 25, 3) := by decide +kernel
theorem dX5_age_9 : decode cX5_age 9 = .ok (.invokevirtual 118, 3) := by decide +kernel
theorem dX5_age_12 : decode cX5_age 12 = .ok (.ireturn, 1) := by decide +kernel
theorem dX5_latest_0 : decode cX5_latest 0 = .ok (.aload_n 0, 1) := by decide +kernel
theorem dX5_latest_1 : decode cX5_latest 1 = .ok (.iload_n 1, 1) := by decide +kernel
theorem dX5_latest_2 : decode cX5_latest 2 = .ok (.invokevirtual 57, 3) := by decide +kernel
theorem dX5_latest_5 : decode cX5_latest 5 = .ok (.astore 6, 2) := by decide +kernel
theorem dX5_latest_7 : decode cX5_latest 7 = .ok (.iload_n 2, 1) := by decide +kernel
theorem dX5_latest_8 : decode cX5_latest 8 = .ok (.invokestatic 86, 3) := by decide +kernel
theorem dX5_latest_11 : decode cX5_latest 11 = .ok (.aload_n 0, 1) := by decide +kernel
theorem dX5_latest_12 : decode cX5_latest 12 = .ok (.aload 6, 2) := by decide +kernel
theorem dX5_latest_14 : decode cX5_latest 14 = .ok (.iload_n 2, 1) := by decide +kernel
theorem dX5_latest_15 : decode cX5_latest 15 = .ok (.iload_n 3, 1) := by decide +kernel
theorem dX5_latest_16 : decode cX5_latest 16 = .ok (.iload 4, 2) := by decide +kernel
theorem dX5_latest_18 : decode cX5_latest 18 = .ok (.iload 5, 2) := by decide +kernel
theorem dX5_latest_20 : decode cX5_latest 20 = .ok (.invokestatic 61, 3) := by decide +kernel
theorem dX5_latest_23 : decode cX5_latest 23 = .ok (.invokevirtual 122, 3) := by decide +kernel
theorem dX5_latest_26 : decode cX5_latest 26 = .ok (.astore 7, 2) := by decide +kernel
theorem dX5_latest_28 : decode cX5_latest 28 = .ok (.aload 7, 2) := by decide +kernel
theorem dX5_latest_30 : decode cX5_latest 30 = .ok (.ifnonnull 13, 3) := by decide +kernel
theorem dX5_latest_33 : decode cX5_latest 33 = .ok (.new 109, 3) := by decide +kernel
theorem dX5_latest_36 : decode cX5_latest 36 = .ok (.dup, 1) := by decide +kernel
theorem dX5_latest_37 : decode cX5_latest 37 = .ok (.ldc 126, 2) := by decide +kernel
theorem dX5_latest_39 : decode cX5_latest 39 = .ok (.invokespecial 113, 3) := by decide +kernel
theorem dX5_latest_42 : decode cX5_latest 42 = .ok (.athrow, 1) := by decide +kernel
theorem dX5_latest_43 : decode cX5_latest 43 = .ok (.aload 7, 2) := by decide +kernel
theorem dX5_latest_45 : decode cX5_latest 45 = .ok (.getfield 128, 3) := by decide +kernel
theorem dX5_latest_48 : decode cX5_latest 48 = .ok (.ireturn, 1) := by decide +kernel
theorem dX5_statesMeasured_0 : decode cX5_statesMeasured 0 = .ok (.aload_n 0, 1) := by decide +kernel
theorem dX5_statesMeasured_1 : decode cX5_statesMeasured 1 = .ok (.iload_n 1, 1) := by decide +kernel
theorem dX5_statesMeasured_2 : decode cX5_statesMeasured 2 = .ok (.invokevirtual 57, 3) := by decide +kernel
theorem dX5_statesMeasured_5 : decode cX5_statesMeasured 5 = .ok (.astore_n 2, 1) := by decide +kernel
theorem dX5_statesMeasured_6 : decode cX5_statesMeasured 6 = .ok (.iconst 0, 1) := by decide +kernel
theorem dX5_statesMeasured_7 : decode cX5_statesMeasured 7 = .ok (.istore_n 3, 1) := by decide +kernel
theorem dX5_statesMeasured_8 : decode cX5_statesMeasured 8 = .ok (.iconst 0, 1) := by decide +kernel
theorem dX5_statesMeasured_9 : decode cX5_statesMeasured 9 = .ok (.istore 4, 2) := by decide +kernel
theorem dX5_statesMeasured_11 : decode cX5_statesMeasured 11 = .ok (.iload 4, 2) := by decide +kernel
theorem dX5_statesMeasured_13 : decode cX5_statesMeasured 13 = .ok (.aload_n 0, 1) := by decide +kernel
theorem dX5_statesMeasured_14 : decode cX5_statesMeasured 14 = .ok (.getfield 16, 3) := by decide +kernel
theorem dX5_statesMeasured_17 : decode cX5_statesMeasured 17 = .ok (.invokevirtual 32, 3) := by decide +kernel
theorem dX5_statesMeasured_20 : decode cX5_statesMeasured 20 = .ok (.if_icmp .ge 44, 3) := by decide +kernel
theorem dX5_statesMeasured_23 : decode cX5_statesMeasured 23 = .ok (.aload_n 0, 1) := by decide +kernel
theorem dX5_statesMeasured_24 : decode cX5_statesMeasured 24 = .ok (.getfield 16, 3) := by decide +kernel
theorem dX5_statesMeasured_27 : decode cX5_statesMeasured 27 = .ok (.iload 4, 2) := by decide +kernel
theorem dX5_statesMeasured_29 : decode cX5_statesMeasured 29 = .ok (.invokevirtual 131, 3) := by decide +kernel
theorem dX5_statesMeasured_32 : decode cX5_statesMeasured 32 = .ok (.checkcast 100, 3) := by decide +kernel
theorem dX5_statesMeasured_35 : decode cX5_statesMeasured 35 = .ok (.astore 5, 2) := by decide +kernel
theorem dX5_statesMeasured_37 : decode cX5_statesMeasured 37 = .ok (.aload 5, 2) := by decide +kernel
theorem dX5_statesMeasured_39 : decode cX5_statesMeasured 39 = .ok (.getfield 135, 3) := by decide +kernel
theorem dX5_statesMeasured_42 : decode cX5_statesMeasured 42 = .ok (.aload_n 2, 1) := by decide +kernel
theorem dX5_statesMeasured_43 : decode cX5_statesMeasured 43 = .ok (.if_acmp .ne 15, 3) := by decide +kernel
theorem dX5_statesMeasured_46 : decode cX5_statesMeasured 46 = .ok (.aload_n 0, 1) := by decide +kernel
theorem dX5_statesMeasured_47 : decode cX5_statesMeasured 47 = .ok (.aload 5, 2) := by decide +kernel
theorem dX5_statesMeasured_49 : decode cX5_statesMeasured 49 = .ok (.invokevirtual 139, 3) := by decide +kernel
theorem dX5_statesMeasured_52 : decode cX5_statesMeasured 52 = .ok (.ifCond .eq 6, 3) := by decide +kernel
theorem dX5_statesMeasured_55 : decode cX5_statesMeasured 55 = .ok (.iinc 3 1, 3) := by decide +kernel
theorem dX5_statesMeasured_58 : decode cX5_statesMeasured 58 = .ok (.iinc 4 1, 3) := by decide +kernel
theorem dX5_statesMeasured_61 : decode cX5_statesMeasured 61 = .ok (.goto (-50), 3) := by decide +kernel
theorem dX5_statesMeasured_64 : decode cX5_statesMeasured 64 = .ok (.iload_n 3, 1) := by decide +kernel
theorem dX5_statesMeasured_65 : decode cX5_statesMeasured 65 = .ok (.ireturn, 1) := by decide +kernel
theorem dX5_answers_0 : decode cX5_answers 0 = .ok (.aload_n 0, 1) := by decide +kernel
theorem dX5_answers_1 : decode cX5_answers 1 = .ok (.getfield 16, 3) := by decide +kernel
theorem dX5_answers_4 : decode cX5_answers 4 = .ok (.invokevirtual 32, 3) := by decide +kernel
theorem dX5_answers_7 : decode cX5_answers 7 = .ok (.ireturn, 1) := by decide +kernel
theorem dX5_makeFilter_0 : decode cX5_makeFilter 0 = .ok (.aload_n 0, 1) := by decide +kernel
theorem dX5_makeFilter_1 : decode cX5_makeFilter 1 = .ok (.iload_n 1, 1) := by decide +kernel
theorem dX5_makeFilter_2 : decode cX5_makeFilter 2 = .ok (.invokevirtual 105, 3) := by decide +kernel
theorem dX5_makeFilter_5 : decode cX5_makeFilter 5 = .ok (.astore_n 2, 1) := by decide +kernel
theorem dX5_makeFilter_6 : decode cX5_makeFilter 6 = .ok (.aload_n 0, 1) := by decide +kernel
theorem dX5_makeFilter_7 : decode cX5_makeFilter 7 = .ok (.getfield 19, 3) := by decide +kernel
theorem dX5_makeFilter_10 : decode cX5_makeFilter 10 = .ok (.invokevirtual 32, 3) := by decide +kernel
theorem dX5_makeFilter_13 : decode cX5_makeFilter 13 = .ok (.istore_n 3, 1) := by decide +kernel
theorem dX5_makeFilter_14 : decode cX5_makeFilter 14 = .ok (.iload_n 3, 1) := by decide +kernel
theorem dX5_makeFilter_15 : decode cX5_makeFilter 15 = .ok (.bipush 20, 2) := by decide +kernel
theorem dX5_makeFilter_17 : decode cX5_makeFilter 17 = .ok (.if_icmp .lt 13, 3) := by decide +kernel
theorem dX5_makeFilter_20 : decode cX5_makeFilter 20 = .ok (.new 36, 3) := by decide +kernel
theorem dX5_makeFilter_23 : decode cX5_makeFilter 23 = .ok (.dup, 1) := by decide +kernel
theorem dX5_makeFilter_24 : decode cX5_makeFilter 24 = .ok (.ldc 143, 2) := by decide +kernel
theorem dX5_makeFilter_26 : decode cX5_makeFilter 26 = .ok (.invokespecial 40, 3) := by decide +kernel
theorem dX5_makeFilter_29 : decode cX5_makeFilter 29 = .ok (.athrow, 1) := by decide +kernel
theorem dX5_makeFilter_30 : decode cX5_makeFilter 30 = .ok (.aload_n 0, 1) := by decide +kernel
theorem dX5_makeFilter_31 : decode cX5_makeFilter 31 = .ok (.getfield 19, 3) := by decide +kernel
theorem dX5_makeFilter_34 : decode cX5_makeFilter 34 = .ok (.new 145, 3) := by decide +kernel
theorem dX5_makeFilter_37 : decode cX5_makeFilter 37 = .ok (.dup, 1) := by decide +kernel
theorem dX5_makeFilter_38 : decode cX5_makeFilter 38 = .ok (.aload_n 2, 1) := by decide +kernel
theorem dX5_makeFilter_39 : decode cX5_makeFilter 39 = .ok (.invokespecial 147, 3) := by decide +kernel
theorem dX5_makeFilter_42 : decode cX5_makeFilter 42 = .ok (.invokevirtual 53, 3) := by decide +kernel
theorem dX5_makeFilter_45 : decode cX5_makeFilter 45 = .ok (.pop, 1) := by decide +kernel
theorem dX5_makeFilter_46 : decode cX5_makeFilter 46 = .ok (.iload_n 3, 1) := by decide +kernel
theorem dX5_makeFilter_47 : decode cX5_makeFilter 47 = .ok (.ireturn, 1) := by decide +kernel
theorem dX5_answerOf_0 : decode cX5_answerOf 0 = .ok (.aload_n 0, 1) := by decide +kernel
theorem dX5_answerOf_1 : decode cX5_answerOf 1 = .ok (.iload_n 1, 1) := by decide +kernel
theorem dX5_answerOf_2 : decode cX5_answerOf 2 = .ok (.invokevirtual 150, 3) := by decide +kernel
theorem dX5_answerOf_5 : decode cX5_answerOf 5 = .ok (.getfield 154, 3) := by decide +kernel
theorem dX5_answerOf_8 : decode cX5_answerOf 8 = .ok (.getfield 128, 3) := by decide +kernel
theorem dX5_answerOf_11 : decode cX5_answerOf 11 = .ok (.ireturn, 1) := by decide +kernel
theorem dX5_tap_0 : decode cX5_tap 0 = .ok (.aload_n 0, 1) := by decide +kernel
theorem dX5_tap_1 : decode cX5_tap 1 = .ok (.iload_n 1, 1) := by decide +kernel
theorem dX5_tap_2 : decode cX5_tap 2 = .ok (.invokevirtual 150, 3) := by decide +kernel
theorem dX5_tap_5 : decode cX5_tap 5 = .ok (.astore_n 3, 1) := by decide +kernel
theorem dX5_tap_6 : decode cX5_tap 6 = .ok (.iload_n 2, 1) := by decide +kernel
theorem dX5_tap_7 : decode cX5_tap 7 = .ok (.ifCond .lt 9, 3) := by decide +kernel
theorem dX5_tap_10 : decode cX5_tap 10 = .ok (.iload_n 2, 1) := by decide +kernel
theorem dX5_tap_11 : decode cX5_tap 11 = .ok (.bipush 6, 2) := by decide +kernel
theorem dX5_tap_13 : decode cX5_tap 13 = .ok (.if_icmp .lt 13, 3) := by decide +kernel
theorem dX5_tap_16 : decode cX5_tap 16 = .ok (.new 109, 3) := by decide +kernel
theorem dX5_tap_19 : decode cX5_tap 19 = .ok (.dup, 1) := by decide +kernel
theorem dX5_tap_20 : decode cX5_tap 20 = .ok (.ldc 158, 2) := by decide +kernel
theorem dX5_tap_22 : decode cX5_tap 22 = .ok (.invokespecial 113, 3) := by decide +kernel
theorem dX5_tap_25 : decode cX5_tap 25 = .ok (.athrow, 1) := by decide +kernel
theorem dX5_tap_26 : decode cX5_tap 26 = .ok (.aload_n 3, 1) := by decide +kernel
theorem dX5_tap_27 : decode cX5_tap 27 = .ok (.getfield 160, 3) := by decide +kernel
theorem dX5_tap_30 : decode cX5_tap 30 = .ok (.iload_n 2, 1) := by decide +kernel
theorem dX5_tap_31 : decode cX5_tap 31 = .ok (.laload, 1) := by decide +kernel
theorem dX5_tap_32 : decode cX5_tap 32 = .ok (.lreturn, 1) := by decide +kernel
theorem dX5_bar_0 : decode cX5_bar 0 = .ok (.aload_n 0, 1) := by decide +kernel
theorem dX5_bar_1 : decode cX5_bar 1 = .ok (.aload_n 0, 1) := by decide +kernel
theorem dX5_bar_2 : decode cX5_bar 2 = .ok (.iload_n 1, 1) := by decide +kernel
theorem dX5_bar_3 : decode cX5_bar 3 = .ok (.invokevirtual 150, 3) := by decide +kernel
theorem dX5_bar_6 : decode cX5_bar 6 = .ok (.invokevirtual 164, 3) := by decide +kernel
theorem dX5_bar_9 : decode cX5_bar 9 = .ok (.ireturn, 1) := by decide +kernel
theorem dX5_use_0 : decode cX5_use 0 = .ok (.aload_n 0, 1) := by decide +kernel
theorem dX5_use_1 : decode cX5_use 1 = .ok (.iload_n 1, 1) := by decide +kernel
theorem dX5_use_2 : decode cX5_use 2 = .ok (.invokevirtual 150, 3) := by decide +kernel
theorem dX5_use_5 : decode cX5_use 5 = .ok (.astore_n 3, 1) := by decide +kernel
theorem dX5_use_6 : decode cX5_use 6 = .ok (.iload_n 2, 1) := by decide +kernel
theorem dX5_use_7 : decode cX5_use 7 = .ok (.sipush (-999), 3) := by decide +kernel
theorem dX5_use_10 : decode cX5_use 10 = .ok (.if_icmp .lt 10, 3) := by decide +kernel
theorem dX5_use_13 : decode cX5_use 13 = .ok (.iload_n 2, 1) := by decide +kernel
theorem dX5_use_14 : decode cX5_use 14 = .ok (.sipush 999, 3) := by decide +kernel
theorem dX5_use_17 : decode cX5_use 17 = .ok (.if_icmp .le 13, 3) := by decide +kernel
theorem dX5_use_20 : decode cX5_use 20 = .ok (.new 90, 3) := by decide +kernel
theorem dX5_use_23 : decode cX5_use 23 = .ok (.dup, 1) := by decide +kernel
theorem dX5_use_24 : decode cX5_use 24 = .ok (.ldc 168, 2) := by decide +kernel
theorem dX5_use_26 : decode cX5_use 26 = .ok (.invokespecial 94, 3) := by decide +kernel
theorem dX5_use_29 : decode cX5_use 29 = .ok (.athrow, 1) := by decide +kernel
theorem dX5_use_30 : decode cX5_use 30 = .ok (.aload_n 0, 1) := by decide +kernel
theorem dX5_use_31 : decode cX5_use 31 = .ok (.aload_n 3, 1) := by decide +kernel
theorem dX5_use_32 : decode cX5_use 32 = .ok (.invokevirtual 164, 3) := by decide +kernel
theorem dX5_use_35 : decode cX5_use 35 = .ok (.bipush 45, 2) := by decide +kernel
theorem dX5_use_37 : decode cX5_use 37 = .ok (.if_icmp .eq 13, 3) := by decide +kernel
theorem dX5_use_40 : decode cX5_use 40 = .ok (.new 170, 3) := by decide +kernel
theorem dX5_use_43 : decode cX5_use 43 = .ok (.dup, 1) := by decide +kernel
theorem dX5_use_44 : decode cX5_use 44 = .ok (.ldc 172, 2) := by decide +kernel
theorem dX5_use_46 : decode cX5_use 46 = .ok (.invokespecial 174, 3) := by decide +kernel
theorem dX5_use_49 : decode cX5_use 49 = .ok (.athrow, 1) := by decide +kernel
theorem dX5_use_50 : decode cX5_use 50 = .ok (.aload_n 3, 1) := by decide +kernel
theorem dX5_use_51 : decode cX5_use 51 = .ok (.iload_n 2, 1) := by decide +kernel
theorem dX5_use_52 : decode cX5_use 52 = .ok (.invokevirtual 175, 3) := by decide +kernel
theorem dX5_use_55 : decode cX5_use 55 = .ok (.aload_n 3, 1) := by decide +kernel
theorem dX5_use_56 : decode cX5_use 56 = .ok (.invokevirtual 178, 3) := by decide +kernel
theorem dX5_use_59 : decode cX5_use 59 = .ok (.lreturn, 1) := by decide +kernel
theorem dX5_inputs_0 : decode cX5_inputs 0 = .ok (.aload_n 0, 1) := by decide +kernel
theorem dX5_inputs_1 : decode cX5_inputs 1 = .ok (.iload_n 1, 1) := by decide +kernel
theorem dX5_inputs_2 : decode cX5_inputs 2 = .ok (.invokevirtual 150, 3) := by decide +kernel
theorem dX5_inputs_5 : decode cX5_inputs 5 = .ok (.getfield 182, 3) := by decide +kernel
theorem dX5_inputs_8 : decode cX5_inputs 8 = .ok (.ireturn, 1) := by decide +kernel
theorem dX5_product_0 : decode cX5_product 0 = .ok (.aload_n 0, 1) := by decide +kernel
theorem dX5_product_1 : decode cX5_product 1 = .ok (.iload_n 1, 1) := by decide +kernel
theorem dX5_product_2 : decode cX5_product 2 = .ok (.invokevirtual 150, 3) := by decide +kernel
theorem dX5_product_5 : decode cX5_product 5 = .ok (.astore 4, 2) := by decide +kernel
theorem dX5_product_7 : decode cX5_product 7 = .ok (.aload_n 0, 1) := by decide +kernel
theorem dX5_product_8 : decode cX5_product 8 = .ok (.iload_n 2, 1) := by decide +kernel
theorem dX5_product_9 : decode cX5_product 9 = .ok (.invokevirtual 105, 3) := by decide +kernel
theorem dX5_product_12 : decode cX5_product 12 = .ok (.astore 5, 2) := by decide +kernel
theorem dX5_product_14 : decode cX5_product 14 = .ok (.iload_n 3, 1) := by decide +kernel
theorem dX5_product_15 : decode cX5_product 15 = .ok (.ifCond .lt 9, 3) := by decide +kernel
theorem dX5_product_18 : decode cX5_product 18 = .ok (.iload_n 3, 1) := by decide +kernel
theorem dX5_product_19 : decode cX5_product 19 = .ok (.bipush 6, 2) := by decide +kernel
theorem dX5_product_21 : decode cX5_product 21 = .ok (.if_icmp .lt 13, 3) := by decide +kernel
theorem dX5_product_24 : decode cX5_product 24 = .ok (.new 109, 3) := by decide +kernel
theorem dX5_product_27 : decode cX5_product 27 = .ok (.dup, 1) := by decide +kernel
theorem dX5_product_28 : decode cX5_product 28 = .ok (.ldc 185, 2) := by decide +kernel
theorem dX5_product_30 : decode cX5_product 30 = .ok (.invokespecial 113, 3) := by decide +kernel
theorem dX5_product_33 : decode cX5_product 33 = .ok (.athrow, 1) := by decide +kernel
theorem dX5_product_34 : decode cX5_product 34 = .ok (.aload 4, 2) := by decide +kernel
theorem dX5_product_36 : decode cX5_product 36 = .ok (.aload 5, 2) := by decide +kernel
theorem dX5_product_38 : decode cX5_product 38 = .ok (.iload_n 3, 1) := by decide +kernel
theorem dX5_product_39 : decode cX5_product 39 = .ok (.invokevirtual 187, 3) := by decide +kernel
theorem dX5_product_42 : decode cX5_product 42 = .ok (.lreturn, 1) := by decide +kernel
theorem dX5_rightSamples_0 : decode cX5_rightSamples 0 = .ok (.aload_n 0, 1) := by decide +kernel
theorem dX5_rightSamples_1 : decode cX5_rightSamples 1 = .ok (.iload_n 1, 1) := by decide +kernel
theorem dX5_rightSamples_2 : decode cX5_rightSamples 2 = .ok (.invokevirtual 150, 3) := by decide +kernel
theorem dX5_rightSamples_5 : decode cX5_rightSamples 5 = .ok (.astore_n 3, 1) := by decide +kernel
theorem dX5_rightSamples_6 : decode cX5_rightSamples 6 = .ok (.aload_n 3, 1) := by decide +kernel
theorem dX5_rightSamples_7 : decode cX5_rightSamples 7 = .ok (.aload_n 0, 1) := by decide +kernel
theorem dX5_rightSamples_8 : decode cX5_rightSamples 8 = .ok (.iload_n 2, 1) := by decide +kernel
theorem dX5_rightSamples_9 : decode cX5_rightSamples 9 = .ok (.invokevirtual 105, 3) := by decide +kernel
theorem dX5_rightSamples_12 : decode cX5_rightSamples 12 = .ok (.invokevirtual 191, 3) := by decide +kernel
theorem dX5_rightSamples_15 : decode cX5_rightSamples 15 = .ok (.ireturn, 1) := by decide +kernel
theorem dX5_isChecked_0 : decode cX5_isChecked 0 = .ok (.aload_n 0, 1) := by decide +kernel
theorem dX5_isChecked_1 : decode cX5_isChecked 1 = .ok (.iload_n 1, 1) := by decide +kernel
theorem dX5_isChecked_2 : decode cX5_isChecked 2 = .ok (.invokevirtual 150, 3) := by decide +kernel
theorem dX5_isChecked_5 : decode cX5_isChecked 5 = .ok (.astore_n 2, 1) := by decide +kernel
theorem dX5_isChecked_6 : decode cX5_isChecked 6 = .ok (.aload_n 2, 1) := by decide +kernel
theorem dX5_isChecked_7 : decode cX5_isChecked 7 = .ok (.aload_n 2, 1) := by decide +kernel
theorem dX5_isChecked_8 : decode cX5_isChecked 8 = .ok (.getfield 154, 3) := by decide +kernel
theorem dX5_isChecked_11 : decode cX5_isChecked 11 = .ok (.invokevirtual 191, 3) := by decide +kernel
theorem dX5_isChecked_14 : decode cX5_isChecked 14 = .ok (.bipush 6, 2) := by decide +kernel
theorem dX5_isChecked_16 : decode cX5_isChecked 16 = .ok (.if_icmp .ne 7, 3) := by decide +kernel
theorem dX5_isChecked_19 : decode cX5_isChecked 19 = .ok (.iconst 1, 1) := by decide +kernel
theorem dX5_isChecked_20 : decode cX5_isChecked 20 = .ok (.goto 4, 3) := by decide +kernel
theorem dX5_isChecked_23 : decode cX5_isChecked 23 = .ok (.iconst 0, 1) := by decide +kernel
theorem dX5_isChecked_24 : decode cX5_isChecked 24 = .ok (.ireturn, 1) := by decide +kernel
theorem dX5_setLimit_0 : decode cX5_setLimit 0 = .ok (.iload_n 1, 1) := by decide +kernel
theorem dX5_setLimit_1 : decode cX5_setLimit 1 = .ok (.ifCond .lt 10, 3) := by decide +kernel
theorem dX5_setLimit_4 : decode cX5_setLimit 4 = .ok (.iload_n 1, 1) := by decide +kernel
theorem dX5_setLimit_5 : decode cX5_setLimit 5 = .ok (.sipush 999, 3) := by decide +kernel
theorem dX5_setLimit_8 : decode cX5_setLimit 8 = .ok (.if_icmp .le 13, 3) := by decide +kernel
theorem dX5_setLimit_11 : decode cX5_setLimit 11 = .ok (.new 90, 3) := by decide +kernel
theorem dX5_setLimit_14 : decode cX5_setLimit 14 = .ok (.dup, 1) := by decide +kernel
theorem dX5_setLimit_15 : decode cX5_setLimit 15 = .ok (.ldc 195, 2) := by decide +kernel
theorem dX5_setLimit_17 : decode cX5_setLimit 17 = .ok (.invokespecial 94, 3) := by decide +kernel
theorem dX5_setLimit_20 : decode cX5_setLimit 20 = .ok (.athrow, 1) := by decide +kernel
theorem dX5_setLimit_21 : decode cX5_setLimit 21 = .ok (.aload_n 0, 1) := by decide +kernel
theorem dX5_setLimit_22 : decode cX5_setLimit 22 = .ok (.getfield 29, 3) := by decide +kernel
theorem dX5_setLimit_25 : decode cX5_setLimit 25 = .ok (.istore_n 2, 1) := by decide +kernel
theorem dX5_setLimit_26 : decode cX5_setLimit 26 = .ok (.aload_n 0, 1) := by decide +kernel
theorem dX5_setLimit_27 : decode cX5_setLimit 27 = .ok (.iload_n 1, 1) := by decide +kernel
theorem dX5_setLimit_28 : decode cX5_setLimit 28 = .ok (.putfield 29, 3) := by decide +kernel
theorem dX5_setLimit_31 : decode cX5_setLimit 31 = .ok (.iload_n 2, 1) := by decide +kernel
theorem dX5_setLimit_32 : decode cX5_setLimit 32 = .ok (.ireturn, 1) := by decide +kernel
theorem dX5_usable_0 : decode cX5_usable 0 = .ok (.iconst 0, 1) := by decide +kernel
theorem dX5_usable_1 : decode cX5_usable 1 = .ok (.istore_n 1, 1) := by decide +kernel
theorem dX5_usable_2 : decode cX5_usable 2 = .ok (.iconst 0, 1) := by decide +kernel
theorem dX5_usable_3 : decode cX5_usable 3 = .ok (.istore_n 2, 1) := by decide +kernel
theorem dX5_usable_4 : decode cX5_usable 4 = .ok (.iload_n 2, 1) := by decide +kernel
theorem dX5_usable_5 : decode cX5_usable 5 = .ok (.aload_n 0, 1) := by decide +kernel
theorem dX5_usable_6 : decode cX5_usable 6 = .ok (.getfield 19, 3) := by decide +kernel
theorem dX5_usable_9 : decode cX5_usable 9 = .ok (.invokevirtual 32, 3) := by decide +kernel
theorem dX5_usable_12 : decode cX5_usable 12 = .ok (.if_icmp .ge 32, 3) := by decide +kernel
theorem dX5_usable_15 : decode cX5_usable 15 = .ok (.aload_n 0, 1) := by decide +kernel
theorem dX5_usable_16 : decode cX5_usable 16 = .ok (.aload_n 0, 1) := by decide +kernel
theorem dX5_usable_17 : decode cX5_usable 17 = .ok (.getfield 19, 3) := by decide +kernel
theorem dX5_usable_20 : decode cX5_usable 20 = .ok (.iload_n 2, 1) := by decide +kernel
theorem dX5_usable_21 : decode cX5_usable 21 = .ok (.invokevirtual 131, 3) := by decide +kernel
theorem dX5_usable_24 : decode cX5_usable 24 = .ok (.checkcast 145, 3) := by decide +kernel
theorem dX5_usable_27 : decode cX5_usable 27 = .ok (.invokevirtual 164, 3) := by decide +kernel
theorem dX5_usable_30 : decode cX5_usable 30 = .ok (.bipush 45, 2) := by decide +kernel
theorem dX5_usable_32 : decode cX5_usable 32 = .ok (.if_icmp .ne 6, 3) := by decide +kernel
theorem dX5_usable_35 : decode cX5_usable 35 = .ok (.iinc 1 1, 3) := by decide +kernel
theorem dX5_usable_38 : decode cX5_usable 38 = .ok (.iinc 2 1, 3) := by decide +kernel
theorem dX5_usable_41 : decode cX5_usable 41 = .ok (.goto (-37), 3) := by decide +kernel
theorem dX5_usable_44 : decode cX5_usable 44 = .ok (.iload_n 1, 1) := by decide +kernel
theorem dX5_usable_45 : decode cX5_usable 45 = .ok (.ireturn, 1) := by decide +kernel
theorem dX5_book_0 : decode cX5_book 0 = .ok (.aload_n 0, 1) := by decide +kernel
theorem dX5_book_1 : decode cX5_book 1 = .ok (.iload_n 1, 1) := by decide +kernel
theorem dX5_book_2 : decode cX5_book 2 = .ok (.invokevirtual 57, 3) := by decide +kernel
theorem dX5_book_5 : decode cX5_book 5 = .ok (.astore 7, 2) := by decide +kernel
theorem dX5_book_7 : decode cX5_book 7 = .ok (.iload_n 2, 1) := by decide +kernel
theorem dX5_book_8 : decode cX5_book 8 = .ok (.iload_n 3, 1) := by decide +kernel
theorem dX5_book_9 : decode cX5_book 9 = .ok (.iload 4, 2) := by decide +kernel
theorem dX5_book_11 : decode cX5_book 11 = .ok (.invokestatic 61, 3) := by decide +kernel
theorem dX5_book_14 : decode cX5_book 14 = .ok (.astore 8, 2) := by decide +kernel
theorem dX5_book_16 : decode cX5_book 16 = .ok (.iload 5, 2) := by decide +kernel
theorem dX5_book_18 : decode cX5_book 18 = .ok (.aload_n 0, 1) := by decide +kernel
theorem dX5_book_19 : decode cX5_book 19 = .ok (.getfield 25, 3) := by decide +kernel
theorem dX5_book_22 : decode cX5_book 22 = .ok (.if_icmp .le 18, 3) := by decide +kernel
theorem dX5_book_25 : decode cX5_book 25 = .ok (.iload 6, 2) := by decide +kernel
theorem dX5_book_27 : decode cX5_book 27 = .ok (.iload 5, 2) := by decide +kernel
theorem dX5_book_29 : decode cX5_book 29 = .ok (.if_icmp .lt 11, 3) := by decide +kernel
theorem dX5_book_32 : decode cX5_book 32 = .ok (.iload 6, 2) := by decide +kernel
theorem dX5_book_34 : decode cX5_book 34 = .ok (.sipush 9999, 3) := by decide +kernel
theorem dX5_book_37 : decode cX5_book 37 = .ok (.if_icmp .le 13, 3) := by decide +kernel
theorem dX5_book_40 : decode cX5_book 40 = .ok (.new 90, 3) := by decide +kernel
theorem dX5_book_43 : decode cX5_book 43 = .ok (.dup, 1) := by decide +kernel
theorem dX5_book_44 : decode cX5_book 44 = .ok (.ldc 197, 2) := by decide +kernel
theorem dX5_book_46 : decode cX5_book 46 = .ok (.invokespecial 94, 3) := by decide +kernel
theorem dX5_book_49 : decode cX5_book 49 = .ok (.athrow, 1) := by decide +kernel
theorem dX5_book_50 : decode cX5_book 50 = .ok (.aload_n 0, 1) := by decide +kernel
theorem dX5_book_51 : decode cX5_book 51 = .ok (.aload 7, 2) := by decide +kernel
theorem dX5_book_53 : decode cX5_book 53 = .ok (.aload 8, 2) := by decide +kernel
theorem dX5_book_55 : decode cX5_book 55 = .ok (.iload 5, 2) := by decide +kernel
theorem dX5_book_57 : decode cX5_book 57 = .ok (.iload 6, 2) := by decide +kernel
theorem dX5_book_59 : decode cX5_book 59 = .ok (.invokevirtual 199, 3) := by decide +kernel
theorem dX5_book_62 : decode cX5_book 62 = .ok (.ifnull 13, 3) := by decide +kernel
theorem dX5_book_65 : decode cX5_book 65 = .ok (.new 170, 3) := by decide +kernel
theorem dX5_book_68 : decode cX5_book 68 = .ok (.dup, 1) := by decide +kernel
theorem dX5_book_69 : decode cX5_book 69 = .ok (.ldc 203, 2) := by decide +kernel
theorem dX5_book_71 : decode cX5_book 71 = .ok (.invokespecial 174, 3) := by decide +kernel
theorem dX5_book_74 : decode cX5_book 74 = .ok (.athrow, 1) := by decide +kernel
theorem dX5_book_75 : decode cX5_book 75 = .ok (.aload_n 0, 1) := by decide +kernel
theorem dX5_book_76 : decode cX5_book 76 = .ok (.getfield 22, 3) := by decide +kernel
theorem dX5_book_79 : decode cX5_book 79 = .ok (.invokevirtual 32, 3) := by decide +kernel
theorem dX5_book_82 : decode cX5_book 82 = .ok (.istore 9, 2) := by decide +kernel
theorem dX5_book_84 : decode cX5_book 84 = .ok (.iload 9, 2) := by decide +kernel
theorem dX5_book_86 : decode cX5_book 86 = .ok (.bipush 16, 2) := by decide +kernel
theorem dX5_book_88 : decode cX5_book 88 = .ok (.if_icmp .lt 13, 3) := by decide +kernel
theorem dX5_book_91 : decode cX5_book 91 = .ok (.new 36, 3) := by decide +kernel
theorem dX5_book_94 : decode cX5_book 94 = .ok (.dup, 1) := by decide +kernel
theorem dX5_book_95 : decode cX5_book 95 = .ok (.ldc 205, 2) := by decide +kernel
theorem dX5_book_97 : decode cX5_book 97 = .ok (.invokespecial 40, 3) := by decide +kernel
theorem dX5_book_100 : decode cX5_book 100 = .ok (.athrow, 1) := by decide +kernel
theorem dX5_book_101 : decode cX5_book 101 = .ok (.aload_n 0, 1) := by decide +kernel
theorem dX5_book_102 : decode cX5_book 102 = .ok (.getfield 22, 3) := by decide +kernel
theorem dX5_book_105 : decode cX5_book 105 = .ok (.new 207, 3) := by decide +kernel
theorem dX5_book_108 : decode cX5_book 108 = .ok (.dup, 1) := by decide +kernel
theorem dX5_book_109 : decode cX5_book 109 = .ok (.iload 9, 2) := by decide +kernel
theorem dX5_book_111 : decode cX5_book 111 = .ok (.aload 7, 2) := by decide +kernel
theorem dX5_book_113 : decode cX5_book 113 = .ok (.aload 8, 2) := by decide +kernel
theorem dX5_book_115 : decode cX5_book 115 = .ok (.iload 5, 2) := by decide +kernel
theorem dX5_book_117 : decode cX5_book 117 = .ok (.iload 6, 2) := by decide +kernel
theorem dX5_book_119 : decode cX5_book 119 = .ok (.invokespecial 209, 3) := by decide +kernel
theorem dX5_book_122 : decode cX5_book 122 = .ok (.invokevirtual 53, 3) := by decide +kernel
theorem dX5_book_125 : decode cX5_book 125 = .ok (.pop, 1) := by decide +kernel
theorem dX5_book_126 : decode cX5_book 126 = .ok (.iload 9, 2) := by decide +kernel
theorem dX5_book_128 : decode cX5_book 128 = .ok (.ireturn, 1) := by decide +kernel
theorem dX5_clash_0 : decode cX5_clash 0 = .ok (.aload_n 0, 1) := by decide +kernel
theorem dX5_clash_1 : decode cX5_clash 1 = .ok (.iload_n 1, 1) := by decide +kernel
theorem dX5_clash_2 : decode cX5_clash 2 = .ok (.invokevirtual 57, 3) := by decide +kernel
theorem dX5_clash_5 : decode cX5_clash 5 = .ok (.astore 7, 2) := by decide +kernel
theorem dX5_clash_7 : decode cX5_clash 7 = .ok (.iload_n 2, 1) := by decide +kernel
theorem dX5_clash_8 : decode cX5_clash 8 = .ok (.iload_n 3, 1) := by decide +kernel
theorem dX5_clash_9 : decode cX5_clash 9 = .ok (.iload 4, 2) := by decide +kernel
theorem dX5_clash_11 : decode cX5_clash 11 = .ok (.invokestatic 61, 3) := by decide +kernel
theorem dX5_clash_14 : decode cX5_clash 14 = .ok (.astore 8, 2) := by decide +kernel
theorem dX5_clash_16 : decode cX5_clash 16 = .ok (.iload 6, 2) := by decide +kernel
theorem dX5_clash_18 : decode cX5_clash 18 = .ok (.iload 5, 2) := by decide +kernel
theorem dX5_clash_20 : decode cX5_clash 20 = .ok (.if_icmp .ge 13, 3) := by decide +kernel
theorem dX5_clash_23 : decode cX5_clash 23 = .ok (.new 90, 3) := by decide +kernel
theorem dX5_clash_26 : decode cX5_clash 26 = .ok (.dup, 1) := by decide +kernel
theorem dX5_clash_27 : decode cX5_clash 27 = .ok (.ldc 212, 2) := by decide +kernel
theorem dX5_clash_29 : decode cX5_clash 29 = .ok (.invokespecial 94, 3) := by decide +kernel
theorem dX5_clash_32 : decode cX5_clash 32 = .ok (.athrow, 1) := by decide +kernel
theorem dX5_clash_33 : decode cX5_clash 33 = .ok (.aload_n 0, 1) := by decide +kernel
theorem dX5_clash_34 : decode cX5_clash 34 = .ok (.aload 7, 2) := by decide +kernel
theorem dX5_clash_36 : decode cX5_clash 36 = .ok (.aload 8, 2) := by decide +kernel
theorem dX5_clash_38 : decode cX5_clash 38 = .ok (.iload 5, 2) := by decide +kernel
theorem dX5_clash_40 : decode cX5_clash 40 = .ok (.iload 6, 2) := by decide +kernel
theorem dX5_clash_42 : decode cX5_clash 42 = .ok (.invokevirtual 199, 3) := by decide +kernel
theorem dX5_clash_45 : decode cX5_clash 45 = .ok (.astore 9, 2) := by decide +kernel
theorem dX5_clash_47 : decode cX5_clash 47 = .ok (.aload 9, 2) := by decide +kernel
theorem dX5_clash_49 : decode cX5_clash 49 = .ok (.ifnonnull 13, 3) := by decide +kernel
theorem dX5_clash_52 : decode cX5_clash 52 = .ok (.new 109, 3) := by decide +kernel
theorem dX5_clash_55 : decode cX5_clash 55 = .ok (.dup, 1) := by decide +kernel
theorem dX5_clash_56 : decode cX5_clash 56 = .ok (.ldc 214, 2) := by decide +kernel
theorem dX5_clash_58 : decode cX5_clash 58 = .ok (.invokespecial 113, 3) := by decide +kernel
theorem dX5_clash_61 : decode cX5_clash 61 = .ok (.athrow, 1) := by decide +kernel
theorem dX5_clash_62 : decode cX5_clash 62 = .ok (.aload 9, 2) := by decide +kernel
theorem dX5_clash_64 : decode cX5_clash 64 = .ok (.getfield 216, 3) := by decide +kernel
theorem dX5_clash_67 : decode cX5_clash 67 = .ok (.ireturn, 1) := by decide +kernel
theorem dX5_cancel_0 : decode cX5_cancel 0 = .ok (.iload_n 1, 1) := by decide +kernel
theorem dX5_cancel_1 : decode cX5_cancel 1 = .ok (.ifCond .lt 14, 3) := by decide +kernel
theorem dX5_cancel_4 : decode cX5_cancel 4 = .ok (.iload_n 1, 1) := by decide +kernel
theorem dX5_cancel_5 : decode cX5_cancel 5 = .ok (.aload_n 0, 1) := by decide +kernel
theorem dX5_cancel_6 : decode cX5_cancel 6 = .ok (.getfield 22, 3) := by decide +kernel
theorem dX5_cancel_9 : decode cX5_cancel 9 = .ok (.invokevirtual 32, 3) := by decide +kernel
theorem dX5_cancel_12 : decode cX5_cancel 12 = .ok (.if_icmp .lt 13, 3) := by decide +kernel
theorem dX5_cancel_15 : decode cX5_cancel 15 = .ok (.new 217, 3) := by decide +kernel
theorem dX5_cancel_18 : decode cX5_cancel 18 = .ok (.dup, 1) := by decide +kernel
theorem dX5_cancel_19 : decode cX5_cancel 19 = .ok (.ldc 219, 2) := by decide +kernel
theorem dX5_cancel_21 : decode cX5_cancel 21 = .ok (.invokespecial 221, 3) := by decide +kernel
theorem dX5_cancel_24 : decode cX5_cancel 24 = .ok (.athrow, 1) := by decide +kernel
theorem dX5_cancel_25 : decode cX5_cancel 25 = .ok (.aload_n 0, 1) := by decide +kernel
theorem dX5_cancel_26 : decode cX5_cancel 26 = .ok (.getfield 22, 3) := by decide +kernel
theorem dX5_cancel_29 : decode cX5_cancel 29 = .ok (.iload_n 1, 1) := by decide +kernel
theorem dX5_cancel_30 : decode cX5_cancel 30 = .ok (.invokevirtual 131, 3) := by decide +kernel
theorem dX5_cancel_33 : decode cX5_cancel 33 = .ok (.checkcast 207, 3) := by decide +kernel
theorem dX5_cancel_36 : decode cX5_cancel 36 = .ok (.astore_n 2, 1) := by decide +kernel
theorem dX5_cancel_37 : decode cX5_cancel 37 = .ok (.aload_n 2, 1) := by decide +kernel
theorem dX5_cancel_38 : decode cX5_cancel 38 = .ok (.getfield 222, 3) := by decide +kernel
theorem dX5_cancel_41 : decode cX5_cancel 41 = .ok (.ifCond .ne 14, 3) := by decide +kernel
theorem dX5_cancel_44 : decode cX5_cancel 44 = .ok (.aload_n 2, 1) := by decide +kernel
theorem dX5_cancel_45 : decode cX5_cancel 45 = .ok (.getfield 225, 3) := by decide +kernel
theorem dX5_cancel_48 : decode cX5_cancel 48 = .ok (.aload_n 0, 1) := by decide +kernel
theorem dX5_cancel_49 : decode cX5_cancel 49 = .ok (.getfield 25, 3) := by decide +kernel
theorem dX5_cancel_52 : decode cX5_cancel 52 = .ok (.if_icmp .gt 13, 3) := by decide +kernel
theorem dX5_cancel_55 : decode cX5_cancel 55 = .ok (.new 36, 3) := by decide +kernel
theorem dX5_cancel_58 : decode cX5_cancel 58 = .ok (.dup, 1) := by decide +kernel
theorem dX5_cancel_59 : decode cX5_cancel 59 = .ok (.ldc 228, 2) := by decide +kernel
theorem dX5_cancel_61 : decode cX5_cancel 61 = .ok (.invokespecial 40, 3) := by decide +kernel
theorem dX5_cancel_64 : decode cX5_cancel 64 = .ok (.athrow, 1) := by decide +kernel
theorem dX5_cancel_65 : decode cX5_cancel 65 = .ok (.aload_n 2, 1) := by decide +kernel
theorem dX5_cancel_66 : decode cX5_cancel 66 = .ok (.iconst 1, 1) := by decide +kernel
theorem dX5_cancel_67 : decode cX5_cancel 67 = .ok (.putfield 222, 3) := by decide +kernel
theorem dX5_cancel_70 : decode cX5_cancel 70 = .ok (.aload_n 0, 1) := by decide +kernel
theorem dX5_cancel_71 : decode cX5_cancel 71 = .ok (.invokevirtual 230, 3) := by decide +kernel
theorem dX5_cancel_74 : decode cX5_cancel 74 = .ok (.ireturn, 1) := by decide +kernel
theorem dX5_pass_0 : decode cX5_pass 0 = .ok (.iload_n 1, 1) := by decide +kernel
theorem dX5_pass_1 : decode cX5_pass 1 = .ok (.iconst 1, 1) := by decide +kernel
theorem dX5_pass_2 : decode cX5_pass 2 = .ok (.if_icmp .lt 21, 3) := by decide +kernel
theorem dX5_pass_5 : decode cX5_pass 5 = .ok (.iload_n 1, 1) := by decide +kernel
theorem dX5_pass_6 : decode cX5_pass 6 = .ok (.bipush 48, 2) := by decide +kernel
theorem dX5_pass_8 : decode cX5_pass 8 = .ok (.if_icmp .gt 15, 3) := by decide +kernel
theorem dX5_pass_11 : decode cX5_pass 11 = .ok (.aload_n 0, 1) := by decide +kernel
theorem dX5_pass_12 : decode cX5_pass 12 = .ok (.getfield 25, 3) := by decide +kernel
theorem dX5_pass_15 : decode cX5_pass 15 = .ok (.iload_n 1, 1) := by decide +kernel
theorem dX5_pass_16 : decode cX5_pass 16 = .ok (.iadd, 1) := by decide +kernel
theorem dX5_pass_17 : decode cX5_pass 17 = .ok (.sipush 9999, 3) := by decide +kernel
theorem dX5_pass_20 : decode cX5_pass 20 = .ok (.if_icmp .le 13, 3) := by decide +kernel
theorem dX5_pass_23 : decode cX5_pass 23 = .ok (.new 90, 3) := by decide +kernel
theorem dX5_pass_26 : decode cX5_pass 26 = .ok (.dup, 1) := by decide +kernel
theorem dX5_pass_27 : decode cX5_pass 27 = .ok (.ldc 233, 2) := by decide +kernel
theorem dX5_pass_29 : decode cX5_pass 29 = .ok (.invokespecial 94, 3) := by decide +kernel
theorem dX5_pass_32 : decode cX5_pass 32 = .ok (.athrow, 1) := by decide +kernel
theorem dX5_pass_33 : decode cX5_pass 33 = .ok (.iconst 0, 1) := by decide +kernel
theorem dX5_pass_34 : decode cX5_pass 34 = .ok (.istore_n 2, 1) := by decide +kernel
theorem dX5_pass_35 : decode cX5_pass 35 = .ok (.iconst 0, 1) := by decide +kernel
theorem dX5_pass_36 : decode cX5_pass 36 = .ok (.istore_n 3, 1) := by decide +kernel
theorem dX5_pass_37 : decode cX5_pass 37 = .ok (.iload_n 3, 1) := by decide +kernel
theorem dX5_pass_38 : decode cX5_pass 38 = .ok (.iload_n 1, 1) := by decide +kernel
theorem dX5_pass_39 : decode cX5_pass 39 = .ok (.if_icmp .ge 26, 3) := by decide +kernel
theorem dX5_pass_42 : decode cX5_pass 42 = .ok (.aload_n 0, 1) := by decide +kernel
theorem dX5_pass_43 : decode cX5_pass 43 = .ok (.dup, 1) := by decide +kernel
theorem dX5_pass_44 : decode cX5_pass 44 = .ok (.getfield 25, 3) := by decide +kernel
theorem dX5_pass_47 : decode cX5_pass 47 = .ok (.iconst 1, 1) := by decide +kernel
theorem dX5_pass_48 : decode cX5_pass 48 = .ok (.iadd, 1) := by decide +kernel
theorem dX5_pass_49 : decode cX5_pass 49 = .ok (.putfield 25, 3) := by decide +kernel
theorem dX5_pass_52 : decode cX5_pass 52 = .ok (.iload_n 2, 1) := by decide +kernel
theorem dX5_pass_53 : decode cX5_pass 53 = .ok (.aload_n 0, 1) := by decide +kernel
theorem dX5_pass_54 : decode cX5_pass 54 = .ok (.invokevirtual 235, 3) := by decide +kernel
theorem dX5_pass_57 : decode cX5_pass 57 = .ok (.iadd, 1) := by decide +kernel
theorem dX5_pass_58 : decode cX5_pass 58 = .ok (.istore_n 2, 1) := by decide +kernel
theorem dX5_pass_59 : decode cX5_pass 59 = .ok (.iinc 3 1, 3) := by decide +kernel
theorem dX5_pass_62 : decode cX5_pass 62 = .ok (.goto (-25), 3) := by decide +kernel
theorem dX5_pass_65 : decode cX5_pass 65 = .ok (.iload_n 2, 1) := by decide +kernel
theorem dX5_pass_66 : decode cX5_pass 66 = .ok (.ireturn, 1) := by decide +kernel
theorem dX5_hour_0 : decode cX5_hour 0 = .ok (.aload_n 0, 1) := by decide +kernel
theorem dX5_hour_1 : decode cX5_hour 1 = .ok (.getfield 25, 3) := by decide +kernel
theorem dX5_hour_4 : decode cX5_hour 4 = .ok (.ireturn, 1) := by decide +kernel
theorem dX5_nextBooking_0 : decode cX5_nextBooking 0 = .ok (.aload_n 0, 1) := by decide +kernel
theorem dX5_nextBooking_1 : decode cX5_nextBooking 1 = .ok (.iload_n 1, 1) := by decide +kernel
theorem dX5_nextBooking_2 : decode cX5_nextBooking 2 = .ok (.invokevirtual 57, 3) := by decide +kernel
theorem dX5_nextBooking_5 : decode cX5_nextBooking 5 = .ok (.astore_n 2, 1) := by decide +kernel
theorem dX5_nextBooking_6 : decode cX5_nextBooking 6 = .ok (.aconst_null, 1) := by decide +kernel
theorem dX5_nextBooking_7 : decode cX5_nextBooking 7 = .ok (.astore_n 3, 1) := by decide +kernel
theorem dX5_nextBooking_8 : decode cX5_nextBooking 8 = .ok (.iconst 0, 1) := by decide +kernel
theorem dX5_nextBooking_9 : decode cX5_nextBooking 9 = .ok (.istore 4, 2) := by decide +kernel
theorem dX5_nextBooking_11 : decode cX5_nextBooking 11 = .ok (.iload 4, 2) := by decide +kernel
theorem dX5_nextBooking_13 : decode cX5_nextBooking 13 = .ok (.aload_n 0, 1) := by decide +kernel
theorem dX5_nextBooking_14 : decode cX5_nextBooking 14 = .ok (.getfield 22, 3) := by decide +kernel
theorem dX5_nextBooking_17 : decode cX5_nextBooking 17 = .ok (.invokevirtual 32, 3) := by decide +kernel
theorem dX5_nextBooking_20 : decode cX5_nextBooking 20 = .ok (.if_icmp .ge 63, 3) := by decide +kernel
theorem dX5_nextBooking_23 : decode cX5_nextBooking 23 = .ok (.aload_n 0, 1) := by decide +kernel
theorem dX5_nextBooking_24 : decode cX5_nextBooking 24 = .ok (.getfield 22, 3) := by decide +kernel
theorem dX5_nextBooking_27 : decode cX5_nextBooking 27 = .ok (.iload 4, 2) := by decide +kernel
theorem dX5_nextBooking_29 : decode cX5_nextBooking 29 = .ok (.invokevirtual 131, 3) := by decide +kernel
theorem dX5_nextBooking_32 : decode cX5_nextBooking 32 = .ok (.checkcast 207, 3) := by decide +kernel
theorem dX5_nextBooking_35 : decode cX5_nextBooking 35 = .ok (.astore 5, 2) := by decide +kernel
theorem dX5_nextBooking_37 : decode cX5_nextBooking 37 = .ok (.aload 5, 2) := by decide +kernel
theorem dX5_nextBooking_39 : decode cX5_nextBooking 39 = .ok (.aload_n 2, 1) := by decide +kernel
theorem dX5_nextBooking_40 : decode cX5_nextBooking 40 = .ok (.invokevirtual 238, 3) := by decide +kernel
theorem dX5_nextBooking_43 : decode cX5_nextBooking 43 = .ok (.ifCond .eq 34, 3) := by decide +kernel
theorem dX5_nextBooking_46 : decode cX5_nextBooking 46 = .ok (.aload 5, 2) := by decide +kernel
theorem dX5_nextBooking_48 : decode cX5_nextBooking 48 = .ok (.getfield 225, 3) := by decide +kernel
theorem dX5_nextBooking_51 : decode cX5_nextBooking 51 = .ok (.aload_n 0, 1) := by decide +kernel
theorem dX5_nextBooking_52 : decode cX5_nextBooking 52 = .ok (.getfield 25, 3) := by decide +kernel
theorem dX5_nextBooking_55 : decode cX5_nextBooking 55 = .ok (.if_icmp .le 22, 3) := by decide +kernel
theorem dX5_nextBooking_58 : decode cX5_nextBooking 58 = .ok (.aload_n 3, 1) := by decide +kernel
theorem dX5_nextBooking_59 : decode cX5_nextBooking 59 = .ok (.ifnull 15, 3) := by decide +kernel
theorem dX5_nextBooking_62 : decode cX5_nextBooking 62 = .ok (.aload 5, 2) := by decide +kernel
theorem dX5_nextBooking_64 : decode cX5_nextBooking 64 = .ok (.getfield 225, 3) := by decide +kernel
theorem dX5_nextBooking_67 : decode cX5_nextBooking 67 = .ok (.aload_n 3, 1) := by decide +kernel
theorem dX5_nextBooking_68 : decode cX5_nextBooking 68 = .ok (.getfield 225, 3) := by decide +kernel
theorem dX5_nextBooking_71 : decode cX5_nextBooking 71 = .ok (.if_icmp .ge 6, 3) := by decide +kernel
theorem dX5_nextBooking_74 : decode cX5_nextBooking 74 = .ok (.aload 5, 2) := by decide +kernel
theorem dX5_nextBooking_76 : decode cX5_nextBooking 76 = .ok (.astore_n 3, 1) := by decide +kernel
theorem dX5_nextBooking_77 : decode cX5_nextBooking 77 = .ok (.iinc 4 1, 3) := by decide +kernel
theorem dX5_nextBooking_80 : decode cX5_nextBooking 80 = .ok (.goto (-69), 3) := by decide +kernel
theorem dX5_nextBooking_83 : decode cX5_nextBooking 83 = .ok (.aload_n 3, 1) := by decide +kernel
theorem dX5_nextBooking_84 : decode cX5_nextBooking 84 = .ok (.ifnonnull 13, 3) := by decide +kernel
theorem dX5_nextBooking_87 : decode cX5_nextBooking 87 = .ok (.new 109, 3) := by decide +kernel
theorem dX5_nextBooking_90 : decode cX5_nextBooking 90 = .ok (.dup, 1) := by decide +kernel
theorem dX5_nextBooking_91 : decode cX5_nextBooking 91 = .ok (.ldc 242, 2) := by decide +kernel
theorem dX5_nextBooking_93 : decode cX5_nextBooking 93 = .ok (.invokespecial 113, 3) := by decide +kernel
theorem dX5_nextBooking_96 : decode cX5_nextBooking 96 = .ok (.athrow, 1) := by decide +kernel
theorem dX5_nextBooking_97 : decode cX5_nextBooking 97 = .ok (.aload_n 3, 1) := by decide +kernel
theorem dX5_nextBooking_98 : decode cX5_nextBooking 98 = .ok (.getfield 216, 3) := by decide +kernel
theorem dX5_nextBooking_101 : decode cX5_nextBooking 101 = .ok (.ireturn, 1) := by decide +kernel
theorem dX5_usableShare_0 : decode cX5_usableShare 0 = .ok (.aload_n 0, 1) := by decide +kernel
theorem dX5_usableShare_1 : decode cX5_usableShare 1 = .ok (.getfield 19, 3) := by decide +kernel
theorem dX5_usableShare_4 : decode cX5_usableShare 4 = .ok (.invokevirtual 32, 3) := by decide +kernel
theorem dX5_usableShare_7 : decode cX5_usableShare 7 = .ok (.istore_n 1, 1) := by decide +kernel
theorem dX5_usableShare_8 : decode cX5_usableShare 8 = .ok (.iload_n 1, 1) := by decide +kernel
theorem dX5_usableShare_9 : decode cX5_usableShare 9 = .ok (.ifCond .ne 13, 3) := by decide +kernel
theorem dX5_usableShare_12 : decode cX5_usableShare 12 = .ok (.new 109, 3) := by decide +kernel
theorem dX5_usableShare_15 : decode cX5_usableShare 15 = .ok (.dup, 1) := by decide +kernel
theorem dX5_usableShare_16 : decode cX5_usableShare 16 = .ok (.ldc 244, 2) := by decide +kernel
theorem dX5_usableShare_18 : decode cX5_usableShare 18 = .ok (.invokespecial 113, 3) := by decide +kernel
theorem dX5_usableShare_21 : decode cX5_usableShare 21 = .ok (.athrow, 1) := by decide +kernel
theorem dX5_usableShare_22 : decode cX5_usableShare 22 = .ok (.aload_n 0, 1) := by decide +kernel
theorem dX5_usableShare_23 : decode cX5_usableShare 23 = .ok (.invokevirtual 246, 3) := by decide +kernel
theorem dX5_usableShare_26 : decode cX5_usableShare 26 = .ok (.i2f, 1) := by decide +kernel
theorem dX5_usableShare_27 : decode cX5_usableShare 27 = .ok (.iload_n 1, 1) := by decide +kernel
theorem dX5_usableShare_28 : decode cX5_usableShare 28 = .ok (.i2f, 1) := by decide +kernel
theorem dX5_usableShare_29 : decode cX5_usableShare 29 = .ok (.fdiv, 1) := by decide +kernel
theorem dX5_usableShare_30 : decode cX5_usableShare 30 = .ok (.freturn, 1) := by decide +kernel
theorem dX5_roomAt_0 : decode cX5_roomAt 0 = .ok (.iload_n 1, 1) := by decide +kernel
theorem dX5_roomAt_1 : decode cX5_roomAt 1 = .ok (.ifCond .lt 14, 3) := by decide +kernel
theorem dX5_roomAt_4 : decode cX5_roomAt 4 = .ok (.iload_n 1, 1) := by decide +kernel
theorem dX5_roomAt_5 : decode cX5_roomAt 5 = .ok (.aload_n 0, 1) := by decide +kernel
theorem dX5_roomAt_6 : decode cX5_roomAt 6 = .ok (.getfield 10, 3) := by decide +kernel
theorem dX5_roomAt_9 : decode cX5_roomAt 9 = .ok (.invokevirtual 32, 3) := by decide +kernel
theorem dX5_roomAt_12 : decode cX5_roomAt 12 = .ok (.if_icmp .lt 13, 3) := by decide +kernel
theorem dX5_roomAt_15 : decode cX5_roomAt 15 = .ok (.new 217, 3) := by decide +kernel
theorem dX5_roomAt_18 : decode cX5_roomAt 18 = .ok (.dup, 1) := by decide +kernel
theorem dX5_roomAt_19 : decode cX5_roomAt 19 = .ok (.ldc 249, 2) := by decide +kernel
theorem dX5_roomAt_21 : decode cX5_roomAt 21 = .ok (.invokespecial 221, 3) := by decide +kernel
theorem dX5_roomAt_24 : decode cX5_roomAt 24 = .ok (.athrow, 1) := by decide +kernel
theorem dX5_roomAt_25 : decode cX5_roomAt 25 = .ok (.aload_n 0, 1) := by decide +kernel
theorem dX5_roomAt_26 : decode cX5_roomAt 26 = .ok (.getfield 10, 3) := by decide +kernel
theorem dX5_roomAt_29 : decode cX5_roomAt 29 = .ok (.iload_n 1, 1) := by decide +kernel
theorem dX5_roomAt_30 : decode cX5_roomAt 30 = .ok (.invokevirtual 131, 3) := by decide +kernel
theorem dX5_roomAt_33 : decode cX5_roomAt 33 = .ok (.checkcast 43, 3) := by decide +kernel
theorem dX5_roomAt_36 : decode cX5_roomAt 36 = .ok (.areturn, 1) := by decide +kernel
theorem dX5_answerAt_0 : decode cX5_answerAt 0 = .ok (.iload_n 1, 1) := by decide +kernel
theorem dX5_answerAt_1 : decode cX5_answerAt 1 = .ok (.ifCond .lt 14, 3) := by decide +kernel
theorem dX5_answerAt_4 : decode cX5_answerAt 4 = .ok (.iload_n 1, 1) := by decide +kernel
theorem dX5_answerAt_5 : decode cX5_answerAt 5 = .ok (.aload_n 0, 1) := by decide +kernel
theorem dX5_answerAt_6 : decode cX5_answerAt 6 = .ok (.getfield 16, 3) := by decide +kernel
theorem dX5_answerAt_9 : decode cX5_answerAt 9 = .ok (.invokevirtual 32, 3) := by decide +kernel
theorem dX5_answerAt_12 : decode cX5_answerAt 12 = .ok (.if_icmp .lt 13, 3) := by decide +kernel
theorem dX5_answerAt_15 : decode cX5_answerAt 15 = .ok (.new 217, 3) := by decide +kernel
theorem dX5_answerAt_18 : decode cX5_answerAt 18 = .ok (.dup, 1) := by decide +kernel
theorem dX5_answerAt_19 : decode cX5_answerAt 19 = .ok (.ldc 126, 2) := by decide +kernel
theorem dX5_answerAt_21 : decode cX5_answerAt 21 = .ok (.invokespecial 221, 3) := by decide +kernel
theorem dX5_answerAt_24 : decode cX5_answerAt 24 = .ok (.athrow, 1) := by decide +kernel
theorem dX5_answerAt_25 : decode cX5_answerAt 25 = .ok (.aload_n 0, 1) := by decide +kernel
theorem dX5_answerAt_26 : decode cX5_answerAt 26 = .ok (.getfield 16, 3) := by decide +kernel
theorem dX5_answerAt_29 : decode cX5_answerAt 29 = .ok (.iload_n 1, 1) := by decide +kernel
theorem dX5_answerAt_30 : decode cX5_answerAt 30 = .ok (.invokevirtual 131, 3) := by decide +kernel
theorem dX5_answerAt_33 : decode cX5_answerAt 33 = .ok (.checkcast 100, 3) := by decide +kernel
theorem dX5_answerAt_36 : decode cX5_answerAt 36 = .ok (.areturn, 1) := by decide +kernel
theorem dX5_filterAt_0 : decode cX5_filterAt 0 = .ok (.iload_n 1, 1) := by decide +kernel
theorem dX5_filterAt_1 : decode cX5_filterAt 1 = .ok (.ifCond .lt 14, 3) := by decide +kernel
theorem dX5_filterAt_4 : decode cX5_filterAt 4 = .ok (.iload_n 1, 1) := by decide +kernel
theorem dX5_filterAt_5 : decode cX5_filterAt 5 = .ok (.aload_n 0, 1) := by decide +kernel
theorem dX5_filterAt_6 : decode cX5_filterAt 6 = .ok (.getfield 19, 3) := by decide +kernel
theorem dX5_filterAt_9 : decode cX5_filterAt 9 = .ok (.invokevirtual 32, 3) := by decide +kernel
theorem dX5_filterAt_12 : decode cX5_filterAt 12 = .ok (.if_icmp .lt 13, 3) := by decide +kernel
theorem dX5_filterAt_15 : decode cX5_filterAt 15 = .ok (.new 217, 3) := by decide +kernel
theorem dX5_filterAt_18 : decode cX5_filterAt 18 = .ok (.dup, 1) := by decide +kernel
theorem dX5_filterAt_19 : decode cX5_filterAt 19 = .ok (.ldc 251, 2) := by decide +kernel
theorem dX5_filterAt_21 : decode cX5_filterAt 21 = .ok (.invokespecial 221, 3) := by decide +kernel
theorem dX5_filterAt_24 : decode cX5_filterAt 24 = .ok (.athrow, 1) := by decide +kernel
theorem dX5_filterAt_25 : decode cX5_filterAt 25 = .ok (.aload_n 0, 1) := by decide +kernel
theorem dX5_filterAt_26 : decode cX5_filterAt 26 = .ok (.getfield 19, 3) := by decide +kernel
theorem dX5_filterAt_29 : decode cX5_filterAt 29 = .ok (.iload_n 1, 1) := by decide +kernel
theorem dX5_filterAt_30 : decode cX5_filterAt 30 = .ok (.invokevirtual 131, 3) := by decide +kernel
theorem dX5_filterAt_33 : decode cX5_filterAt 33 = .ok (.checkcast 145, 3) := by decide +kernel
theorem dX5_filterAt_36 : decode cX5_filterAt 36 = .ok (.areturn, 1) := by decide +kernel
theorem dX5_stateOf_0 : decode cX5_stateOf 0 = .ok (.iload_n 0, 1) := by decide +kernel
theorem dX5_stateOf_1 : decode cX5_stateOf 1 = .ok (.ifCond .lt 18, 3) := by decide +kernel
theorem dX5_stateOf_4 : decode cX5_stateOf 4 = .ok (.iload_n 0, 1) := by decide +kernel
theorem dX5_stateOf_5 : decode cX5_stateOf 5 = .ok (.iconst 3, 1) := by decide +kernel
theorem dX5_stateOf_6 : decode cX5_stateOf 6 = .ok (.if_icmp .gt 13, 3) := by decide +kernel
theorem dX5_stateOf_9 : decode cX5_stateOf 9 = .ok (.iload_n 1, 1) := by decide +kernel
theorem dX5_stateOf_10 : decode cX5_stateOf 10 = .ok (.ifCond .lt 9, 3) := by decide +kernel
theorem dX5_stateOf_13 : decode cX5_stateOf 13 = .ok (.iload_n 1, 1) := by decide +kernel
theorem dX5_stateOf_14 : decode cX5_stateOf 14 = .ok (.bipush 9, 2) := by decide +kernel
theorem dX5_stateOf_16 : decode cX5_stateOf 16 = .ok (.if_icmp .le 13, 3) := by decide +kernel
theorem dX5_stateOf_19 : decode cX5_stateOf 19 = .ok (.new 90, 3) := by decide +kernel
theorem dX5_stateOf_22 : decode cX5_stateOf 22 = .ok (.dup, 1) := by decide +kernel
theorem dX5_stateOf_23 : decode cX5_stateOf 23 = .ok (.ldc 253, 2) := by decide +kernel
theorem dX5_stateOf_25 : decode cX5_stateOf 25 = .ok (.invokespecial 94, 3) := by decide +kernel
theorem dX5_stateOf_28 : decode cX5_stateOf 28 = .ok (.athrow, 1) := by decide +kernel
theorem dX5_stateOf_29 : decode cX5_stateOf 29 = .ok (.new 45, 3) := by decide +kernel
theorem dX5_stateOf_32 : decode cX5_stateOf 32 = .ok (.dup, 1) := by decide +kernel
theorem dX5_stateOf_33 : decode cX5_stateOf 33 = .ok (.iload_n 0, 1) := by decide +kernel
theorem dX5_stateOf_34 : decode cX5_stateOf 34 = .ok (.iload_n 1, 1) := by decide +kernel
theorem dX5_stateOf_35 : decode cX5_stateOf 35 = .ok (.iload_n 2, 1) := by decide +kernel
theorem dX5_stateOf_36 : decode cX5_stateOf 36 = .ok (.invokespecial 47, 3) := by decide +kernel
theorem dX5_stateOf_39 : decode cX5_stateOf 39 = .ok (.areturn, 1) := by decide +kernel
theorem dX5_checkPlace_0 : decode cX5_checkPlace 0 = .ok (.iload_n 0, 1) := by decide +kernel
theorem dX5_checkPlace_1 : decode cX5_checkPlace 1 = .ok (.ifCond .lt 9, 3) := by decide +kernel
theorem dX5_checkPlace_4 : decode cX5_checkPlace 4 = .ok (.iload_n 0, 1) := by decide +kernel
theorem dX5_checkPlace_5 : decode cX5_checkPlace 5 = .ok (.bipush 9, 2) := by decide +kernel
theorem dX5_checkPlace_7 : decode cX5_checkPlace 7 = .ok (.if_icmp .le 13, 3) := by decide +kernel
theorem dX5_checkPlace_10 : decode cX5_checkPlace 10 = .ok (.new 90, 3) := by decide +kernel
theorem dX5_checkPlace_13 : decode cX5_checkPlace 13 = .ok (.dup, 1) := by decide +kernel
theorem dX5_checkPlace_14 : decode cX5_checkPlace 14 = .ok (.ldc 255, 2) := by decide +kernel
theorem dX5_checkPlace_16 : decode cX5_checkPlace 16 = .ok (.invokespecial 94, 3) := by decide +kernel
theorem dX5_checkPlace_19 : decode cX5_checkPlace 19 = .ok (.athrow, 1) := by decide +kernel
theorem dX5_checkPlace_20 : decode cX5_checkPlace 20 = .ok (.return_, 1) := by decide +kernel
theorem dX5_checkSample_0 : decode cX5_checkSample 0 = .ok (.iload_n 0, 1) := by decide +kernel
theorem dX5_checkSample_1 : decode cX5_checkSample 1 = .ok (.bipush (-9), 2) := by decide +kernel
theorem dX5_checkSample_3 : decode cX5_checkSample 3 = .ok (.if_icmp .lt 9, 3) := by decide +kernel
theorem dX5_checkSample_6 : decode cX5_checkSample 6 = .ok (.iload_n 0, 1) := by decide +kernel
theorem dX5_checkSample_7 : decode cX5_checkSample 7 = .ok (.bipush 9, 2) := by decide +kernel
theorem dX5_checkSample_9 : decode cX5_checkSample 9 = .ok (.if_icmp .le 14, 3) := by decide +kernel
theorem dX5_checkSample_12 : decode cX5_checkSample 12 = .ok (.new 90, 3) := by decide +kernel
theorem dX5_checkSample_15 : decode cX5_checkSample 15 = .ok (.dup, 1) := by decide +kernel
theorem dX5_checkSample_16 : decode cX5_checkSample 16 = .ok (.ldc_w 257, 3) := by decide +kernel
theorem dX5_checkSample_19 : decode cX5_checkSample 19 = .ok (.invokespecial 94, 3) := by decide +kernel
theorem dX5_checkSample_22 : decode cX5_checkSample 22 = .ok (.athrow, 1) := by decide +kernel
theorem dX5_checkSample_23 : decode cX5_checkSample 23 = .ok (.return_, 1) := by decide +kernel
theorem dX5_newestAnswer_0 : decode cX5_newestAnswer 0 = .ok (.aload_n 0, 1) := by decide +kernel
theorem dX5_newestAnswer_1 : decode cX5_newestAnswer 1 = .ok (.getfield 16, 3) := by decide +kernel
theorem dX5_newestAnswer_4 : decode cX5_newestAnswer 4 = .ok (.invokevirtual 32, 3) := by decide +kernel
theorem dX5_newestAnswer_7 : decode cX5_newestAnswer 7 = .ok (.iconst 1, 1) := by decide +kernel
theorem dX5_newestAnswer_8 : decode cX5_newestAnswer 8 = .ok (.isub, 1) := by decide +kernel
theorem dX5_newestAnswer_9 : decode cX5_newestAnswer 9 = .ok (.istore 4, 2) := by decide +kernel
theorem dX5_newestAnswer_11 : decode cX5_newestAnswer 11 = .ok (.iload 4, 2) := by decide +kernel
theorem dX5_newestAnswer_13 : decode cX5_newestAnswer 13 = .ok (.ifCond .lt 45, 3) := by decide +kernel
theorem dX5_newestAnswer_16 : decode cX5_newestAnswer 16 = .ok (.aload_n 0, 1) := by decide +kernel
theorem dX5_newestAnswer_17 : decode cX5_newestAnswer 17 = .ok (.getfield 16, 3) := by decide +kernel
theorem dX5_newestAnswer_20 : decode cX5_newestAnswer 20 = .ok (.iload 4, 2) := by decide +kernel
theorem dX5_newestAnswer_22 : decode cX5_newestAnswer 22 = .ok (.invokevirtual 131, 3) := by decide +kernel
theorem dX5_newestAnswer_25 : decode cX5_newestAnswer 25 = .ok (.checkcast 100, 3) := by decide +kernel
theorem dX5_newestAnswer_28 : decode cX5_newestAnswer 28 = .ok (.astore 5, 2) := by decide +kernel
theorem dX5_newestAnswer_30 : decode cX5_newestAnswer 30 = .ok (.aload 5, 2) := by decide +kernel
theorem dX5_newestAnswer_32 : decode cX5_newestAnswer 32 = .ok (.getfield 259, 3) := by decide +kernel
theorem dX5_newestAnswer_35 : decode cX5_newestAnswer 35 = .ok (.iload_n 2, 1) := by decide +kernel
theorem dX5_newestAnswer_36 : decode cX5_newestAnswer 36 = .ok (.if_icmp .ne 16, 3) := by decide +kernel
theorem dX5_newestAnswer_39 : decode cX5_newestAnswer 39 = .ok (.aload 5, 2) := by decide +kernel
theorem dX5_newestAnswer_41 : decode cX5_newestAnswer 41 = .ok (.aload_n 1, 1) := by decide +kernel
theorem dX5_newestAnswer_42 : decode cX5_newestAnswer 42 = .ok (.aload_n 3, 1) := by decide +kernel
theorem dX5_newestAnswer_43 : decode cX5_newestAnswer 43 = .ok (.invokevirtual 262, 3) := by decide +kernel
theorem dX5_newestAnswer_46 : decode cX5_newestAnswer 46 = .ok (.ifCond .eq 6, 3) := by decide +kernel
theorem dX5_newestAnswer_49 : decode cX5_newestAnswer 49 = .ok (.aload 5, 2) := by decide +kernel
theorem dX5_newestAnswer_51 : decode cX5_newestAnswer 51 = .ok (.areturn, 1) := by decide +kernel
theorem dX5_newestAnswer_52 : decode cX5_newestAnswer 52 = .ok (.iinc 4 (-1), 3) := by decide +kernel
theorem dX5_newestAnswer_55 : decode cX5_newestAnswer 55 = .ok (.goto (-44), 3) := by decide +kernel
theorem dX5_newestAnswer_58 : decode cX5_newestAnswer 58 = .ok (.aconst_null, 1) := by decide +kernel
theorem dX5_newestAnswer_59 : decode cX5_newestAnswer 59 = .ok (.areturn, 1) := by decide +kernel
theorem dX5_isFirstOfItsState_0 : decode cX5_isFirstOfItsState 0 = .ok (.iconst 0, 1) := by decide +kernel
theorem dX5_isFirstOfItsState_1 : decode cX5_isFirstOfItsState 1 = .ok (.istore_n 2, 1) := by decide +kernel
theorem dX5_isFirstOfItsState_2 : decode cX5_isFirstOfItsState 2 = .ok (.iload_n 2, 1) := by decide +kernel
theorem dX5_isFirstOfItsState_3 : decode cX5_isFirstOfItsState 3 = .ok (.aload_n 0, 1) := by decide +kernel
theorem dX5_isFirstOfItsState_4 : decode cX5_isFirstOfItsState 4 = .ok (.getfield 16, 3) := by decide +kernel
theorem dX5_isFirstOfItsState_7 : decode cX5_isFirstOfItsState 7 = .ok (.invokevirtual 32, 3) := by decide +kernel
theorem dX5_isFirstOfItsState_10 : decode cX5_isFirstOfItsState 10 = .ok (.if_icmp .ge 53, 3) := by decide +kernel
theorem dX5_isFirstOfItsState_13 : decode cX5_isFirstOfItsState 13 = .ok (.aload_n 0, 1) := by decide +kernel
theorem dX5_isFirstOfItsState_14 : decode cX5_isFirstOfItsState 14 = .ok (.getfield 16, 3) := by decide +kernel
theorem dX5_isFirstOfItsState_17 : decode cX5_isFirstOfItsState 17 = .ok (.iload_n 2, 1) := by decide +kernel
theorem dX5_isFirstOfItsState_18 : decode cX5_isFirstOfItsState 18 = .ok (.invokevirtual 131, 3) := by decide +kernel
theorem dX5_isFirstOfItsState_21 : decode cX5_isFirstOfItsState 21 = .ok (.checkcast 100, 3) := by decide +kernel
theorem dX5_isFirstOfItsState_24 : decode cX5_isFirstOfItsState 24 = .ok (.astore_n 3, 1) := by decide +kernel
theorem dX5_isFirstOfItsState_25 : decode cX5_isFirstOfItsState 25 = .ok (.aload_n 3, 1) := by decide +kernel
theorem dX5_isFirstOfItsState_26 : decode cX5_isFirstOfItsState 26 = .ok (.aload_n 1, 1) := by decide +kernel
theorem dX5_isFirstOfItsState_27 : decode cX5_isFirstOfItsState 27 = .ok (.getfield 135, 3) := by decide +kernel
theorem dX5_isFirstOfItsState_30 : decode cX5_isFirstOfItsState 30 = .ok (.aload_n 1, 1) := by decide +kernel
theorem dX5_isFirstOfItsState_31 : decode cX5_isFirstOfItsState 31 = .ok (.getfield 266, 3) := by decide +kernel
theorem dX5_isFirstOfItsState_34 : decode cX5_isFirstOfItsState 34 = .ok (.invokevirtual 262, 3) := by decide +kernel
theorem dX5_isFirstOfItsState_37 : decode cX5_isFirstOfItsState 37 = .ok (.ifCond .eq 20, 3) := by decide +kernel
theorem dX5_isFirstOfItsState_40 : decode cX5_isFirstOfItsState 40 = .ok (.aload_n 3, 1) := by decide +kernel
theorem dX5_isFirstOfItsState_41 : decode cX5_isFirstOfItsState 41 = .ok (.getfield 128, 3) := by decide +kernel
theorem dX5_isFirstOfItsState_44 : decode cX5_isFirstOfItsState 44 = .ok (.aload_n 1, 1) := by decide +kernel
theorem dX5_isFirstOfItsState_45 : decode cX5_isFirstOfItsState 45 = .ok (.getfield 128, 3) := by decide +kernel
theorem dX5_isFirstOfItsState_48 : decode cX5_isFirstOfItsState 48 = .ok (.if_icmp .ne 7, 3) := by decide +kernel
theorem dX5_isFirstOfItsState_51 : decode cX5_isFirstOfItsState 51 = .ok (.iconst 1, 1) := by decide +kernel
theorem dX5_isFirstOfItsState_52 : decode cX5_isFirstOfItsState 52 = .ok (.goto 4, 3) := by decide +kernel
theorem dX5_isFirstOfItsState_55 : decode cX5_isFirstOfItsState 55 = .ok (.iconst 0, 1) := by decide +kernel
theorem dX5_isFirstOfItsState_56 : decode cX5_isFirstOfItsState 56 = .ok (.ireturn, 1) := by decide +kernel
theorem dX5_isFirstOfItsState_57 : decode cX5_isFirstOfItsState 57 = .ok (.iinc 2 1, 3) := by decide +kernel
theorem dX5_isFirstOfItsState_60 : decode cX5_isFirstOfItsState 60 = .ok (.goto (-58), 3) := by decide +kernel
theorem dX5_isFirstOfItsState_63 : decode cX5_isFirstOfItsState 63 = .ok (.iconst 0, 1) := by decide +kernel
theorem dX5_isFirstOfItsState_64 : decode cX5_isFirstOfItsState 64 = .ok (.ireturn, 1) := by decide +kernel
theorem dX5_firstBar_0 : decode cX5_firstBar 0 = .ok (.aload_n 1, 1) := by decide +kernel
theorem dX5_firstBar_1 : decode cX5_firstBar 1 = .ok (.getfield 154, 3) := by decide +kernel
theorem dX5_firstBar_4 : decode cX5_firstBar 4 = .ok (.astore_n 2, 1) := by decide +kernel
theorem dX5_firstBar_5 : decode cX5_firstBar 5 = .ok (.aload_n 2, 1) := by decide +kernel
theorem dX5_firstBar_6 : decode cX5_firstBar 6 = .ok (.getfield 135, 3) := by decide +kernel
theorem dX5_firstBar_9 : decode cX5_firstBar 9 = .ok (.getfield 69, 3) := by decide +kernel
theorem dX5_firstBar_12 : decode cX5_firstBar 12 = .ok (.aload_n 2, 1) := by decide +kernel
theorem dX5_firstBar_13 : decode cX5_firstBar 13 = .ok (.getfield 266, 3) := by decide +kernel
theorem dX5_firstBar_16 : decode cX5_firstBar 16 = .ok (.invokevirtual 267, 3) := by decide +kernel
theorem dX5_firstBar_19 : decode cX5_firstBar 19 = .ok (.ifCond .le 6, 3) := by decide +kernel
theorem dX5_firstBar_22 : decode cX5_firstBar 22 = .ok (.bipush 115, 2) := by decide +kernel
theorem dX5_firstBar_24 : decode cX5_firstBar 24 = .ok (.ireturn, 1) := by decide +kernel
theorem dX5_firstBar_25 : decode cX5_firstBar 25 = .ok (.aload_n 0, 1) := by decide +kernel
theorem dX5_firstBar_26 : decode cX5_firstBar 26 = .ok (.aload_n 2, 1) := by decide +kernel
theorem dX5_firstBar_27 : decode cX5_firstBar 27 = .ok (.getfield 135, 3) := by decide +kernel
theorem dX5_firstBar_30 : decode cX5_firstBar 30 = .ok (.aload_n 2, 1) := by decide +kernel
theorem dX5_firstBar_31 : decode cX5_firstBar 31 = .ok (.getfield 259, 3) := by decide +kernel
theorem dX5_firstBar_34 : decode cX5_firstBar 34 = .ok (.aload_n 2, 1) := by decide +kernel
theorem dX5_firstBar_35 : decode cX5_firstBar 35 = .ok (.getfield 266, 3) := by decide +kernel
theorem dX5_firstBar_38 : decode cX5_firstBar 38 = .ok (.invokevirtual 122, 3) := by decide +kernel
theorem dX5_firstBar_41 : decode cX5_firstBar 41 = .ok (.aload_n 2, 1) := by decide +kernel
theorem dX5_firstBar_42 : decode cX5_firstBar 42 = .ok (.if_acmp .eq 6, 3) := by decide +kernel
theorem dX5_firstBar_45 : decode cX5_firstBar 45 = .ok (.bipush 108, 2) := by decide +kernel
theorem dX5_firstBar_47 : decode cX5_firstBar 47 = .ok (.ireturn, 1) := by decide +kernel
theorem dX5_firstBar_48 : decode cX5_firstBar 48 = .ok (.aload_n 2, 1) := by decide +kernel
theorem dX5_firstBar_49 : decode cX5_firstBar 49 = .ok (.aload_n 0, 1) := by decide +kernel
theorem dX5_firstBar_50 : decode cX5_firstBar 50 = .ok (.getfield 25, 3) := by decide +kernel
theorem dX5_firstBar_53 : decode cX5_firstBar 53 = .ok (.invokevirtual 118, 3) := by decide +kernel
theorem dX5_firstBar_56 : decode cX5_firstBar 56 = .ok (.aload_n 0, 1) := by decide +kernel
theorem dX5_firstBar_57 : decode cX5_firstBar 57 = .ok (.getfield 29, 3) := by decide +kernel
theorem dX5_firstBar_60 : decode cX5_firstBar 60 = .ok (.if_icmp .le 6, 3) := by decide +kernel
theorem dX5_firstBar_63 : decode cX5_firstBar 63 = .ok (.bipush 111, 2) := by decide +kernel
theorem dX5_firstBar_65 : decode cX5_firstBar 65 = .ok (.ireturn, 1) := by decide +kernel
theorem dX5_firstBar_66 : decode cX5_firstBar 66 = .ok (.bipush 45, 2) := by decide +kernel
theorem dX5_firstBar_68 : decode cX5_firstBar 68 = .ok (.ireturn, 1) := by decide +kernel
theorem dX5_firstClash_0 : decode cX5_firstClash 0 = .ok (.iconst 0, 1) := by decide +kernel
theorem dX5_firstClash_1 : decode cX5_firstClash 1 = .ok (.istore 5, 2) := by decide +kernel
theorem dX5_firstClash_3 : decode cX5_firstClash 3 = .ok (.iload 5, 2) := by decide +kernel
theorem dX5_firstClash_5 : decode cX5_firstClash 5 = .ok (.aload_n 0, 1) := by decide +kernel
theorem dX5_firstClash_6 : decode cX5_firstClash 6 = .ok (.getfield 22, 3) := by decide +kernel
theorem dX5_firstClash_9 : decode cX5_firstClash 9 = .ok (.invokevirtual 32, 3) := by decide +kernel
theorem dX5_firstClash_12 : decode cX5_firstClash 12 = .ok (.if_icmp .ge 47, 3) := by decide +kernel
theorem dX5_firstClash_15 : decode cX5_firstClash 15 = .ok (.aload_n 0, 1) := by decide +kernel
theorem dX5_firstClash_16 : decode cX5_firstClash 16 = .ok (.getfield 22, 3) := by decide +kernel
theorem dX5_firstClash_19 : decode cX5_firstClash 19 = .ok (.iload 5, 2) := by decide +kernel
theorem dX5_firstClash_21 : decode cX5_firstClash 21 = .ok (.invokevirtual 131, 3) := by decide +kernel
theorem dX5_firstClash_24 : decode cX5_firstClash 24 = .ok (.checkcast 207, 3) := by decide +kernel
theorem dX5_firstClash_27 : decode cX5_firstClash 27 = .ok (.astore 6, 2) := by decide +kernel
theorem dX5_firstClash_29 : decode cX5_firstClash 29 = .ok (.aload 6, 2) := by decide +kernel
theorem dX5_firstClash_31 : decode cX5_firstClash 31 = .ok (.aload_n 1, 1) := by decide +kernel
theorem dX5_firstClash_32 : decode cX5_firstClash 32 = .ok (.invokevirtual 238, 3) := by decide +kernel
theorem dX5_firstClash_35 : decode cX5_firstClash 35 = .ok (.ifCond .eq 18, 3) := by decide +kernel
theorem dX5_firstClash_38 : decode cX5_firstClash 38 = .ok (.aload 6, 2) := by decide +kernel
theorem dX5_firstClash_40 : decode cX5_firstClash 40 = .ok (.aload_n 2, 1) := by decide +kernel
theorem dX5_firstClash_41 : decode cX5_firstClash 41 = .ok (.iload_n 3, 1) := by decide +kernel
theorem dX5_firstClash_42 : decode cX5_firstClash 42 = .ok (.iload 4, 2) := by decide +kernel
theorem dX5_firstClash_44 : decode cX5_firstClash 44 = .ok (.invokevirtual 270, 3) := by decide +kernel
theorem dX5_firstClash_47 : decode cX5_firstClash 47 = .ok (.ifCond .eq 6, 3) := by decide +kernel
theorem dX5_firstClash_50 : decode cX5_firstClash 50 = .ok (.aload 6, 2) := by decide +kernel
theorem dX5_firstClash_52 : decode cX5_firstClash 52 = .ok (.areturn, 1) := by decide +kernel
theorem dX5_firstClash_53 : decode cX5_firstClash 53 = .ok (.iinc 5 1, 3) := by decide +kernel
theorem dX5_firstClash_56 : decode cX5_firstClash 56 = .ok (.goto (-53), 3) := by decide +kernel
theorem dX5_firstClash_59 : decode cX5_firstClash 59 = .ok (.aconst_null, 1) := by decide +kernel
theorem dX5_firstClash_60 : decode cX5_firstClash 60 = .ok (.areturn, 1) := by decide +kernel
theorem dX5_standingBookings_0 : decode cX5_standingBookings 0 = .ok (.iconst 0, 1) := by decide +kernel
theorem dX5_standingBookings_1 : decode cX5_standingBookings 1 = .ok (.istore_n 1, 1) := by decide +kernel
theorem dX5_standingBookings_2 : decode cX5_standingBookings 2 = .ok (.iconst 0, 1) := by decide +kernel
theorem dX5_standingBookings_3 : decode cX5_standingBookings 3 = .ok (.istore_n 2, 1) := by decide +kernel
theorem dX5_standingBookings_4 : decode cX5_standingBookings 4 = .ok (.iload_n 2, 1) := by decide +kernel
theorem dX5_standingBookings_5 : decode cX5_standingBookings 5 = .ok (.aload_n 0, 1) := by decide +kernel
theorem dX5_standingBookings_6 : decode cX5_standingBookings 6 = .ok (.getfield 22, 3) := by decide +kernel
theorem dX5_standingBookings_9 : decode cX5_standingBookings 9 = .ok (.invokevirtual 32, 3) := by decide +kernel
theorem dX5_standingBookings_12 : decode cX5_standingBookings 12 = .ok (.if_icmp .ge 29, 3) := by decide +kernel
theorem dX5_standingBookings_15 : decode cX5_standingBookings 15 = .ok (.aload_n 0, 1) := by decide +kernel
theorem dX5_standingBookings_16 : decode cX5_standingBookings 16 = .ok (.getfield 22, 3) := by decide +kernel
theorem dX5_standingBookings_19 : decode cX5_standingBookings 19 = .ok (.iload_n 2, 1) := by decide +kernel
theorem dX5_standingBookings_20 : decode cX5_standingBookings 20 = .ok (.invokevirtual 131, 3) := by decide +kernel
theorem dX5_standingBookings_23 : decode cX5_standingBookings 23 = .ok (.checkcast 207, 3) := by decide +kernel
theorem dX5_standingBookings_26 : decode cX5_standingBookings 26 = .ok (.getfield 222, 3) := by decide +kernel
theorem dX5_standingBookings_29 : decode cX5_standingBookings 29 = .ok (.ifCond .ne 6, 3) := by decide +kernel
theorem dX5_standingBookings_32 : decode cX5_standingBookings 32 = .ok (.iinc 1 1, 3) := by decide +kernel
theorem dX5_standingBookings_35 : decode cX5_standingBookings 35 = .ok (.iinc 2 1, 3) := by decide +kernel
theorem dX5_standingBookings_38 : decode cX5_standingBookings 38 = .ok (.goto (-34), 3) := by decide +kernel
theorem dX5_standingBookings_41 : decode cX5_standingBookings 41 = .ok (.iload_n 1, 1) := by decide +kernel
theorem dX5_standingBookings_42 : decode cX5_standingBookings 42 = .ok (.ireturn, 1) := by decide +kernel
theorem dX5_beginBookings_0 : decode cX5_beginBookings 0 = .ok (.iconst 0, 1) := by decide +kernel
theorem dX5_beginBookings_1 : decode cX5_beginBookings 1 = .ok (.istore_n 1, 1) := by decide +kernel
theorem dX5_beginBookings_2 : decode cX5_beginBookings 2 = .ok (.iconst 0, 1) := by decide +kernel
theorem dX5_beginBookings_3 : decode cX5_beginBookings 3 = .ok (.istore_n 2, 1) := by decide +kernel
theorem dX5_beginBookings_4 : decode cX5_beginBookings 4 = .ok (.iload_n 2, 1) := by decide +kernel
theorem dX5_beginBookings_5 : decode cX5_beginBookings 5 = .ok (.aload_n 0, 1) := by decide +kernel
theorem dX5_beginBookings_6 : decode cX5_beginBookings 6 = .ok (.getfield 22, 3) := by decide +kernel
theorem dX5_beginBookings_9 : decode cX5_beginBookings 9 = .ok (.invokevirtual 32, 3) := by decide +kernel
theorem dX5_beginBookings_12 : decode cX5_beginBookings 12 = .ok (.if_icmp .ge 54, 3) := by decide +kernel
theorem dX5_beginBookings_15 : decode cX5_beginBookings 15 = .ok (.aload_n 0, 1) := by decide +kernel
theorem dX5_beginBookings_16 : decode cX5_beginBookings 16 = .ok (.getfield 22, 3) := by decide +kernel
theorem dX5_beginBookings_19 : decode cX5_beginBookings 19 = .ok (.iload_n 2, 1) := by decide +kernel
theorem dX5_beginBookings_20 : decode cX5_beginBookings 20 = .ok (.invokevirtual 131, 3) := by decide +kernel
theorem dX5_beginBookings_23 : decode cX5_beginBookings 23 = .ok (.checkcast 207, 3) := by decide +kernel
theorem dX5_beginBookings_26 : decode cX5_beginBookings 26 = .ok (.astore_n 3, 1) := by decide +kernel
theorem dX5_beginBookings_27 : decode cX5_beginBookings 27 = .ok (.aload_n 3, 1) := by decide +kernel
theorem dX5_beginBookings_28 : decode cX5_beginBookings 28 = .ok (.getfield 222, 3) := by decide +kernel
theorem dX5_beginBookings_31 : decode cX5_beginBookings 31 = .ok (.ifCond .ne 29, 3) := by decide +kernel
theorem dX5_beginBookings_34 : decode cX5_beginBookings 34 = .ok (.aload_n 3, 1) := by decide +kernel
theorem dX5_beginBookings_35 : decode cX5_beginBookings 35 = .ok (.getfield 225, 3) := by decide +kernel
theorem dX5_beginBookings_38 : decode cX5_beginBookings 38 = .ok (.aload_n 0, 1) := by decide +kernel
theorem dX5_beginBookings_39 : decode cX5_beginBookings 39 = .ok (.getfield 25, 3) := by decide +kernel
theorem dX5_beginBookings_42 : decode cX5_beginBookings 42 = .ok (.if_icmp .ne 18, 3) := by decide +kernel
theorem dX5_beginBookings_45 : decode cX5_beginBookings 45 = .ok (.aload_n 3, 1) := by decide +kernel
theorem dX5_beginBookings_46 : decode cX5_beginBookings 46 = .ok (.getfield 274, 3) := by decide +kernel
theorem dX5_beginBookings_49 : decode cX5_beginBookings 49 = .ok (.aload_n 3, 1) := by decide +kernel
theorem dX5_beginBookings_50 : decode cX5_beginBookings 50 = .ok (.getfield 275, 3) := by decide +kernel
theorem dX5_beginBookings_53 : decode cX5_beginBookings 53 = .ok (.invokevirtual 65, 3) := by decide +kernel
theorem dX5_beginBookings_56 : decode cX5_beginBookings 56 = .ok (.pop, 1) := by decide +kernel
theorem dX5_beginBookings_57 : decode cX5_beginBookings 57 = .ok (.iinc 1 1, 3) := by decide +kernel
theorem dX5_beginBookings_60 : decode cX5_beginBookings 60 = .ok (.iinc 2 1, 3) := by decide +kernel
theorem dX5_beginBookings_63 : decode cX5_beginBookings 63 = .ok (.goto (-59), 3) := by decide +kernel
theorem dX5_beginBookings_66 : decode cX5_beginBookings 66 = .ok (.iload_n 1, 1) := by decide +kernel
theorem dX5_beginBookings_67 : decode cX5_beginBookings 67 = .ok (.ireturn, 1) := by decide +kernel
theorem dJ9_abs_0f7a4_0 : decode cJ9_abs_0f7a4 0 = .ok (.iload_n 0, 1) := by decide +kernel
theorem dJ9_abs_0f7a4_1 : decode cJ9_abs_0f7a4 1 = .ok (.ifCond .ge 8, 3) := by decide +kernel
theorem dJ9_abs_0f7a4_4 : decode cJ9_abs_0f7a4 4 = .ok (.iload_n 0, 1) := by decide +kernel
theorem dJ9_abs_0f7a4_5 : decode cJ9_abs_0f7a4 5 = .ok (.ineg, 1) := by decide +kernel
theorem dJ9_abs_0f7a4_6 : decode cJ9_abs_0f7a4 6 = .ok (.goto 4, 3) := by decide +kernel
theorem dJ9_abs_0f7a4_9 : decode cJ9_abs_0f7a4 9 = .ok (.iload_n 0, 1) := by decide +kernel
theorem dJ9_abs_0f7a4_10 : decode cJ9_abs_0f7a4 10 = .ok (.ireturn, 1) := by decide +kernel
theorem dJ9_max_7cf53_0 : decode cJ9_max_7cf53 0 = .ok (.iload_n 0, 1) := by decide +kernel
theorem dJ9_max_7cf53_1 : decode cJ9_max_7cf53 1 = .ok (.iload_n 1, 1) := by decide +kernel
theorem dJ9_max_7cf53_2 : decode cJ9_max_7cf53 2 = .ok (.if_icmp .lt 7, 3) := by decide +kernel
theorem dJ9_max_7cf53_5 : decode cJ9_max_7cf53 5 = .ok (.iload_n 0, 1) := by decide +kernel
theorem dJ9_max_7cf53_6 : decode cJ9_max_7cf53 6 = .ok (.goto 4, 3) := by decide +kernel
theorem dJ9_max_7cf53_9 : decode cJ9_max_7cf53 9 = .ok (.iload_n 1, 1) := by decide +kernel
theorem dJ9_max_7cf53_10 : decode cJ9_max_7cf53 10 = .ok (.ireturn, 1) := by decide +kernel
theorem dJ9_min_7cf53_0 : decode cJ9_min_7cf53 0 = .ok (.iload_n 0, 1) := by decide +kernel
theorem dJ9_min_7cf53_1 : decode cJ9_min_7cf53 1 = .ok (.iload_n 1, 1) := by decide +kernel
theorem dJ9_min_7cf53_2 : decode cJ9_min_7cf53 2 = .ok (.if_icmp .gt 7, 3) := by decide +kernel
theorem dJ9_min_7cf53_5 : decode cJ9_min_7cf53 5 = .ok (.iload_n 0, 1) := by decide +kernel
theorem dJ9_min_7cf53_6 : decode cJ9_min_7cf53 6 = .ok (.goto 4, 3) := by decide +kernel
theorem dJ9_min_7cf53_9 : decode cJ9_min_7cf53 9 = .ok (.iload_n 1, 1) := by decide +kernel
theorem dJ9_min_7cf53_10 : decode cJ9_min_7cf53 10 = .ok (.ireturn, 1) := by decide +kernel
theorem dJxa1e45_init_da8c8_0 : decode cJxa1e45_init_da8c8 0 = .ok (.aload_n 0, 1) := by decide +kernel
theorem dJxa1e45_init_da8c8_1 : decode cJxa1e45_init_da8c8 1 = .ok (.invokespecial 1, 3) := by decide +kernel
theorem dJxa1e45_init_da8c8_4 : decode cJxa1e45_init_da8c8 4 = .ok (.return_, 1) := by decide +kernel
theorem dJxc12de_init_da8c8_0 : decode cJxc12de_init_da8c8 0 = .ok (.aload_n 0, 1) := by decide +kernel
theorem dJxc12de_init_da8c8_1 : decode cJxc12de_init_da8c8 1 = .ok (.invokespecial 1, 3) := by decide +kernel
theorem dJxc12de_init_da8c8_4 : decode cJxc12de_init_da8c8 4 = .ok (.aload_n 0, 1) := by decide +kernel
theorem dJxc12de_init_da8c8_5 : decode cJxc12de_init_da8c8 5 = .ok (.iconst 0, 1) := by decide +kernel
theorem dJxc12de_init_da8c8_6 : decode cJxc12de_init_da8c8 6 = .ok (.putfield 7, 3) := by decide +kernel
theorem dJxc12de_init_da8c8_9 : decode cJxc12de_init_da8c8 9 = .ok (.return_, 1) := by decide +kernel
theorem dJx4a65c_init_da8c8_0 : decode cJx4a65c_init_da8c8 0 = .ok (.aload_n 0, 1) := by decide +kernel
theorem dJx4a65c_init_da8c8_1 : decode cJx4a65c_init_da8c8 1 = .ok (.invokespecial 1, 3) := by decide +kernel
theorem dJx4a65c_init_da8c8_4 : decode cJx4a65c_init_da8c8 4 = .ok (.aload_n 0, 1) := by decide +kernel
theorem dJx4a65c_init_da8c8_5 : decode cJx4a65c_init_da8c8 5 = .ok (.getstatic 39, 3) := by decide +kernel
theorem dJx4a65c_init_da8c8_8 : decode cJx4a65c_init_da8c8 8 = .ok (.putfield 9, 3) := by decide +kernel
theorem dJx4a65c_init_da8c8_11 : decode cJx4a65c_init_da8c8 11 = .ok (.return_, 1) := by decide +kernel
theorem dJx4a65c_grow_92f84_0 : decode cJx4a65c_grow_92f84 0 = .ok (.aload_n 0, 1) := by decide +kernel
theorem dJx4a65c_grow_92f84_1 : decode cJx4a65c_grow_92f84 1 = .ok (.getfield 9, 3) := by decide +kernel
theorem dJx4a65c_grow_92f84_4 : decode cJx4a65c_grow_92f84 4 = .ok (.arraylength, 1) := by decide +kernel
theorem dJx4a65c_grow_92f84_5 : decode cJx4a65c_grow_92f84 5 = .ok (.istore_n 2, 1) := by decide +kernel
theorem dJx4a65c_grow_92f84_6 : decode cJx4a65c_grow_92f84 6 = .ok (.iload_n 2, 1) := by decide +kernel
theorem dJx4a65c_grow_92f84_7 : decode cJx4a65c_grow_92f84 7 = .ok (.ifCond .gt 13, 3) := by decide +kernel
theorem dJx4a65c_grow_92f84_10 : decode cJx4a65c_grow_92f84 10 = .ok (.aload_n 0, 1) := by decide +kernel
theorem dJx4a65c_grow_92f84_11 : decode cJx4a65c_grow_92f84 11 = .ok (.getfield 9, 3) := by decide +kernel
theorem dJx4a65c_grow_92f84_14 : decode cJx4a65c_grow_92f84 14 = .ok (.getstatic 39, 3) := by decide +kernel
theorem dJx4a65c_grow_92f84_17 : decode cJx4a65c_grow_92f84 17 = .ok (.if_acmp .eq 28, 3) := by decide +kernel
theorem dJx4a65c_grow_92f84_20 : decode cJx4a65c_grow_92f84 20 = .ok (.iload_n 2, 1) := by decide +kernel
theorem dJx4a65c_grow_92f84_21 : decode cJx4a65c_grow_92f84 21 = .ok (.iload_n 1, 1) := by decide +kernel
theorem dJx4a65c_grow_92f84_22 : decode cJx4a65c_grow_92f84 22 = .ok (.iload_n 2, 1) := by decide +kernel
theorem dJx4a65c_grow_92f84_23 : decode cJx4a65c_grow_92f84 23 = .ok (.isub, 1) := by decide +kernel
theorem dJx4a65c_grow_92f84_24 : decode cJx4a65c_grow_92f84 24 = .ok (.iload_n 2, 1) := by decide +kernel
theorem dJx4a65c_grow_92f84_25 : decode cJx4a65c_grow_92f84 25 = .ok (.iconst 1, 1) := by decide +kernel
theorem dJx4a65c_grow_92f84_26 : decode cJx4a65c_grow_92f84 26 = .ok (.ishr, 1) := by decide +kernel
theorem dJx4a65c_grow_92f84_27 : decode cJx4a65c_grow_92f84 27 = .ok (.invokestatic 73, 3) := by decide +kernel
theorem dJx4a65c_grow_92f84_30 : decode cJx4a65c_grow_92f84 30 = .ok (.istore_n 3, 1) := by decide +kernel
theorem dJx4a65c_grow_92f84_31 : decode cJx4a65c_grow_92f84 31 = .ok (.aload_n 0, 1) := by decide +kernel
theorem dJx4a65c_grow_92f84_32 : decode cJx4a65c_grow_92f84 32 = .ok (.aload_n 0, 1) := by decide +kernel
theorem dJx4a65c_grow_92f84_33 : decode cJx4a65c_grow_92f84 33 = .ok (.getfield 9, 3) := by decide +kernel
theorem dJx4a65c_grow_92f84_36 : decode cJx4a65c_grow_92f84 36 = .ok (.iload_n 3, 1) := by decide +kernel
theorem dJx4a65c_grow_92f84_37 : decode cJx4a65c_grow_92f84 37 = .ok (.invokestatic 66, 3) := by decide +kernel
theorem dJx4a65c_grow_92f84_40 : decode cJx4a65c_grow_92f84 40 = .ok (.dup_x1, 1) := by decide +kernel
theorem dJx4a65c_grow_92f84_41 : decode cJx4a65c_grow_92f84 41 = .ok (.putfield 9, 3) := by decide +kernel
theorem dJx4a65c_grow_92f84_44 : decode cJx4a65c_grow_92f84 44 = .ok (.areturn, 1) := by decide +kernel
theorem dJx4a65c_grow_92f84_45 : decode cJx4a65c_grow_92f84 45 = .ok (.aload_n 0, 1) := by decide +kernel
theorem dJx4a65c_grow_92f84_46 : decode cJx4a65c_grow_92f84 46 = .ok (.bipush 10, 2) := by decide +kernel
theorem dJx4a65c_grow_92f84_48 : decode cJx4a65c_grow_92f84 48 = .ok (.iload_n 1, 1) := by decide +kernel
theorem dJx4a65c_grow_92f84_49 : decode cJx4a65c_grow_92f84 49 = .ok (.invokestatic 79, 3) := by decide +kernel
theorem dJx4a65c_grow_92f84_52 : decode cJx4a65c_grow_92f84 52 = .ok (.anewarray 7, 3) := by decide +kernel
theorem dJx4a65c_grow_92f84_55 : decode cJx4a65c_grow_92f84 55 = .ok (.dup_x1, 1) := by decide +kernel
theorem dJx4a65c_grow_92f84_56 : decode cJx4a65c_grow_92f84 56 = .ok (.putfield 9, 3) := by decide +kernel
theorem dJx4a65c_grow_92f84_59 : decode cJx4a65c_grow_92f84 59 = .ok (.areturn, 1) := by decide +kernel
theorem dJx4a65c_grow_d5877_0 : decode cJx4a65c_grow_d5877 0 = .ok (.aload_n 0, 1) := by decide +kernel
theorem dJx4a65c_grow_d5877_1 : decode cJx4a65c_grow_d5877 1 = .ok (.aload_n 0, 1) := by decide +kernel
theorem dJx4a65c_grow_d5877_2 : decode cJx4a65c_grow_d5877 2 = .ok (.getfield 48, 3) := by decide +kernel
theorem dJx4a65c_grow_d5877_5 : decode cJx4a65c_grow_d5877 5 = .ok (.iconst 1, 1) := by decide +kernel
theorem dJx4a65c_grow_d5877_6 : decode cJx4a65c_grow_d5877 6 = .ok (.iadd, 1) := by decide +kernel
theorem dJx4a65c_grow_d5877_7 : decode cJx4a65c_grow_d5877 7 = .ok (.invokevirtual 69, 3) := by decide +kernel
theorem dJx4a65c_grow_d5877_10 : decode cJx4a65c_grow_d5877 10 = .ok (.areturn, 1) := by decide +kernel
theorem dJx4a65c_size_8abf5_0 : decode cJx4a65c_size_8abf5 0 = .ok (.aload_n 0, 1) := by decide +kernel
theorem dJx4a65c_size_8abf5_1 : decode cJx4a65c_size_8abf5 1 = .ok (.getfield 48, 3) := by decide +kernel
theorem dJx4a65c_size_8abf5_4 : decode cJx4a65c_size_8abf5 4 = .ok (.ireturn, 1) := by decide +kernel
theorem dJx4a65c_elementData_915e3_0 : decode cJx4a65c_elementData_915e3 0 = .ok (.aload_n 0, 1) := by decide +kernel
theorem dJx4a65c_elementData_915e3_1 : decode cJx4a65c_elementData_915e3 1 = .ok (.getfield 9, 3) := by decide +kernel
theorem dJx4a65c_elementData_915e3_4 : decode cJx4a65c_elementData_915e3 4 = .ok (.iload_n 1, 1) := by decide +kernel
theorem dJx4a65c_elementData_915e3_5 : decode cJx4a65c_elementData_915e3 5 = .ok (.aaload, 1) := by decide +kernel
theorem dJx4a65c_elementData_915e3_6 : decode cJx4a65c_elementData_915e3 6 = .ok (.areturn, 1) := by decide +kernel
theorem dJx4a65c_get_915e3_0 : decode cJx4a65c_get_915e3 0 = .ok (.iload_n 1, 1) := by decide +kernel
theorem dJx4a65c_get_915e3_1 : decode cJx4a65c_get_915e3 1 = .ok (.aload_n 0, 1) := by decide +kernel
theorem dJx4a65c_get_915e3_2 : decode cJx4a65c_get_915e3 2 = .ok (.getfield 48, 3) := by decide +kernel
theorem dJx4a65c_get_915e3_5 : decode cJx4a65c_get_915e3 5 = .ok (.invokestatic 118, 3) := by decide +kernel
theorem dJx4a65c_get_915e3_8 : decode cJx4a65c_get_915e3 8 = .ok (.pop, 1) := by decide +kernel
theorem dJx4a65c_get_915e3_9 : decode cJx4a65c_get_915e3 9 = .ok (.aload_n 0, 1) := by decide +kernel
theorem dJx4a65c_get_915e3_10 : decode cJx4a65c_get_915e3 10 = .ok (.iload_n 1, 1) := by decide +kernel
theorem dJx4a65c_get_915e3_11 : decode cJx4a65c_get_915e3 11 = .ok (.invokevirtual 123, 3) := by decide +kernel
theorem dJx4a65c_get_915e3_14 : decode cJx4a65c_get_915e3 14 = .ok (.areturn, 1) := by decide +kernel
theorem dJx4a65c_add_72be8_0 : decode cJx4a65c_add_72be8 0 = .ok (.iload_n 3, 1) := by decide +kernel
theorem dJx4a65c_add_72be8_1 : decode cJx4a65c_add_72be8 1 = .ok (.aload_n 2, 1) := by decide +kernel
theorem dJx4a65c_add_72be8_2 : decode cJx4a65c_add_72be8 2 = .ok (.arraylength, 1) := by decide +kernel
theorem dJx4a65c_add_72be8_3 : decode cJx4a65c_add_72be8 3 = .ok (.if_icmp .ne 8, 3) := by decide +kernel
theorem dJx4a65c_add_72be8_6 : decode cJx4a65c_add_72be8 6 = .ok (.aload_n 0, 1) := by decide +kernel
theorem dJx4a65c_add_72be8_7 : decode cJx4a65c_add_72be8 7 = .ok (.invokevirtual 129, 3) := by decide +kernel
theorem dJx4a65c_add_72be8_10 : decode cJx4a65c_add_72be8 10 = .ok (.astore_n 2, 1) := by decide +kernel
theorem dJx4a65c_add_72be8_11 : decode cJx4a65c_add_72be8 11 = .ok (.aload_n 2, 1) := by decide +kernel
theorem dJx4a65c_add_72be8_12 : decode cJx4a65c_add_72be8 12 = .ok (.iload_n 3, 1) := by decide +kernel
theorem dJx4a65c_add_72be8_13 : decode cJx4a65c_add_72be8 13 = .ok (.aload_n 1, 1) := by decide +kernel
theorem dJx4a65c_add_72be8_14 : decode cJx4a65c_add_72be8 14 = .ok (.aastore, 1) := by decide +kernel
theorem dJx4a65c_add_72be8_15 : decode cJx4a65c_add_72be8 15 = .ok (.aload_n 0, 1) := by decide +kernel
theorem dJx4a65c_add_72be8_16 : decode cJx4a65c_add_72be8 16 = .ok (.iload_n 3, 1) := by decide +kernel
theorem dJx4a65c_add_72be8_17 : decode cJx4a65c_add_72be8 17 = .ok (.iconst 1, 1) := by decide +kernel
theorem dJx4a65c_add_72be8_18 : decode cJx4a65c_add_72be8 18 = .ok (.iadd, 1) := by decide +kernel
theorem dJx4a65c_add_72be8_19 : decode cJx4a65c_add_72be8 19 = .ok (.putfield 48, 3) := by decide +kernel
theorem dJx4a65c_add_72be8_22 : decode cJx4a65c_add_72be8 22 = .ok (.return_, 1) := by decide +kernel
theorem dJx4a65c_add_9ea2d_0 : decode cJx4a65c_add_9ea2d 0 = .ok (.aload_n 0, 1) := by decide +kernel
theorem dJx4a65c_add_9ea2d_1 : decode cJx4a65c_add_9ea2d 1 = .ok (.dup, 1) := by decide +kernel
theorem dJx4a65c_add_9ea2d_2 : decode cJx4a65c_add_9ea2d 2 = .ok (.getfield 63, 3) := by decide +kernel
theorem dJx4a65c_add_9ea2d_5 : decode cJx4a65c_add_9ea2d 5 = .ok (.iconst 1, 1) := by decide +kernel
theorem dJx4a65c_add_9ea2d_6 : decode cJx4a65c_add_9ea2d 6 = .ok (.iadd, 1) := by decide +kernel
theorem dJx4a65c_add_9ea2d_7 : decode cJx4a65c_add_9ea2d 7 = .ok (.putfield 63, 3) := by decide +kernel
theorem dJx4a65c_add_9ea2d_10 : decode cJx4a65c_add_9ea2d 10 = .ok (.aload_n 0, 1) := by decide +kernel
theorem dJx4a65c_add_9ea2d_11 : decode cJx4a65c_add_9ea2d 11 = .ok (.aload_n 1, 1) := by decide +kernel
theorem dJx4a65c_add_9ea2d_12 : decode cJx4a65c_add_9ea2d 12 = .ok (.aload_n 0, 1) := by decide +kernel
theorem dJx4a65c_add_9ea2d_13 : decode cJx4a65c_add_9ea2d 13 = .ok (.getfield 9, 3) := by decide +kernel
theorem dJx4a65c_add_9ea2d_16 : decode cJx4a65c_add_9ea2d 16 = .ok (.aload_n 0, 1) := by decide +kernel
theorem dJx4a65c_add_9ea2d_17 : decode cJx4a65c_add_9ea2d 17 = .ok (.getfield 48, 3) := by decide +kernel
theorem dJx4a65c_add_9ea2d_20 : decode cJx4a65c_add_9ea2d 20 = .ok (.invokevirtual 131, 3) := by decide +kernel
theorem dJx4a65c_add_9ea2d_23 : decode cJx4a65c_add_9ea2d 23 = .ok (.iconst 1, 1) := by decide +kernel
theorem dJx4a65c_add_9ea2d_24 : decode cJx4a65c_add_9ea2d 24 = .ok (.ireturn, 1) := by decide +kernel
theorem dJ7_copyOf_1904c_0 : decode cJ7_copyOf_1904c 0 = .ok (.aload_n 0, 1) := by decide +kernel
theorem dJ7_copyOf_1904c_1 : decode cJ7_copyOf_1904c 1 = .ok (.iload_n 1, 1) := by decide +kernel
theorem dJ7_copyOf_1904c_2 : decode cJ7_copyOf_1904c 2 = .ok (.aload_n 0, 1) := by decide +kernel
theorem dJ7_copyOf_1904c_3 : decode cJ7_copyOf_1904c 3 = .ok (.invokevirtual 86, 3) := by decide +kernel
theorem dJ7_copyOf_1904c_6 : decode cJ7_copyOf_1904c 6 = .ok (.invokestatic 300, 3) := by decide +kernel
theorem dJ7_copyOf_1904c_9 : decode cJ7_copyOf_1904c 9 = .ok (.areturn, 1) := by decide +kernel
theorem dJ7_copyOf_6403c_0 : decode cJ7_copyOf_6403c 0 = .ok (.aload_n 2, 1) := by decide +kernel
theorem dJ7_copyOf_6403c_1 : decode cJ7_copyOf_6403c 1 = .ok (.ldc 110, 2) := by decide +kernel
theorem dJ7_copyOf_6403c_3 : decode cJ7_copyOf_6403c 3 = .ok (.if_acmp .ne 10, 3) := by decide +kernel
theorem dJ7_copyOf_6403c_6 : decode cJ7_copyOf_6403c 6 = .ok (.iload_n 1, 1) := by decide +kernel
theorem dJ7_copyOf_6403c_7 : decode cJ7_copyOf_6403c 7 = .ok (.anewarray 2, 3) := by decide +kernel
theorem dJ7_copyOf_6403c_10 : decode cJ7_copyOf_6403c 10 = .ok (.goto 14, 3) := by decide +kernel
theorem dJ7_copyOf_6403c_13 : decode cJ7_copyOf_6403c 13 = .ok (.aload_n 2, 1) := by decide +kernel
theorem dJ7_copyOf_6403c_14 : decode cJ7_copyOf_6403c 14 = .ok (.invokevirtual 90, 3) := by decide +kernel
theorem dJ7_copyOf_6403c_17 : decode cJ7_copyOf_6403c 17 = .ok (.iload_n 1, 1) := by decide +kernel
theorem dJ7_copyOf_6403c_18 : decode cJ7_copyOf_6403c 18 = .ok (.invokestatic 95, 3) := by decide +kernel
theorem dJ7_copyOf_6403c_21 : decode cJ7_copyOf_6403c 21 = .ok (.checkcast 110, 3) := by decide +kernel
theorem dJ7_copyOf_6403c_24 : decode cJ7_copyOf_6403c 24 = .ok (.astore_n 3, 1) := by decide +kernel
theorem dJ7_copyOf_6403c_25 : decode cJ7_copyOf_6403c 25 = .ok (.aload_n 0, 1) := by decide +kernel
theorem dJ7_copyOf_6403c_26 : decode cJ7_copyOf_6403c 26 = .ok (.iconst 0, 1) := by decide +kernel
theorem dJ7_copyOf_6403c_27 : decode cJ7_copyOf_6403c 27 = .ok (.aload_n 3, 1) := by decide +kernel
theorem dJ7_copyOf_6403c_28 : decode cJ7_copyOf_6403c 28 = .ok (.iconst 0, 1) := by decide +kernel
theorem dJ7_copyOf_6403c_29 : decode cJ7_copyOf_6403c 29 = .ok (.aload_n 0, 1) := by decide +kernel
theorem dJ7_copyOf_6403c_30 : decode cJ7_copyOf_6403c 30 = .ok (.arraylength, 1) := by decide +kernel
theorem dJ7_copyOf_6403c_31 : decode cJ7_copyOf_6403c 31 = .ok (.iload_n 1, 1) := by decide +kernel
theorem dJ7_copyOf_6403c_32 : decode cJ7_copyOf_6403c 32 = .ok (.invokestatic 304, 3) := by decide +kernel
theorem dJ7_copyOf_6403c_35 : decode cJ7_copyOf_6403c 35 = .ok (.invokestatic 150, 3) := by decide +kernel
theorem dJ7_copyOf_6403c_38 : decode cJ7_copyOf_6403c 38 = .ok (.aload_n 3, 1) := by decide +kernel
theorem dJ7_copyOf_6403c_39 : decode cJ7_copyOf_6403c 39 = .ok (.areturn, 1) := by decide +kernel
theorem dJ15_checkIndex_7cf53_0 : decode cJ15_checkIndex_7cf53 0 = .ok (.iload_n 0, 1) := by decide +kernel
theorem dJ15_checkIndex_7cf53_1 : decode cJ15_checkIndex_7cf53 1 = .ok (.iload_n 1, 1) := by decide +kernel
theorem dJ15_checkIndex_7cf53_2 : decode cJ15_checkIndex_7cf53 2 = .ok (.aconst_null, 1) := by decide +kernel
theorem dJ15_checkIndex_7cf53_3 : decode cJ15_checkIndex_7cf53 3 = .ok (.invokestatic 105, 3) := by decide +kernel
theorem dJ15_checkIndex_7cf53_6 : decode cJ15_checkIndex_7cf53 6 = .ok (.ireturn, 1) := by decide +kernel
theorem dJ8_newLength_cabcc_0 : decode cJ8_newLength_cabcc 0 = .ok (.iload_n 0, 1) := by decide +kernel
theorem dJ8_newLength_cabcc_1 : decode cJ8_newLength_cabcc 1 = .ok (.iload_n 1, 1) := by decide +kernel
theorem dJ8_newLength_cabcc_2 : decode cJ8_newLength_cabcc 2 = .ok (.iload_n 2, 1) := by decide +kernel
theorem dJ8_newLength_cabcc_3 : decode cJ8_newLength_cabcc 3 = .ok (.invokestatic 194, 3) := by decide +kernel
theorem dJ8_newLength_cabcc_6 : decode cJ8_newLength_cabcc 6 = .ok (.iadd, 1) := by decide +kernel
theorem dJ8_newLength_cabcc_7 : decode cJ8_newLength_cabcc 7 = .ok (.istore_n 3, 1) := by decide +kernel
theorem dJ8_newLength_cabcc_8 : decode cJ8_newLength_cabcc 8 = .ok (.iconst 0, 1) := by decide +kernel
theorem dJ8_newLength_cabcc_9 : decode cJ8_newLength_cabcc 9 = .ok (.iload_n 3, 1) := by decide +kernel
theorem dJ8_newLength_cabcc_10 : decode cJ8_newLength_cabcc 10 = .ok (.if_icmp .ge 11, 3) := by decide +kernel
theorem dJ8_newLength_cabcc_13 : decode cJ8_newLength_cabcc 13 = .ok (.iload_n 3, 1) := by decide +kernel
theorem dJ8_newLength_cabcc_14 : decode cJ8_newLength_cabcc 14 = .ok (.ldc 200, 2) := by decide +kernel
theorem dJ8_newLength_cabcc_16 : decode cJ8_newLength_cabcc 16 = .ok (.if_icmp .gt 5, 3) := by decide +kernel
theorem dJ8_newLength_cabcc_19 : decode cJ8_newLength_cabcc 19 = .ok (.iload_n 3, 1) := by decide +kernel
theorem dJ8_newLength_cabcc_20 : decode cJ8_newLength_cabcc 20 = .ok (.ireturn, 1) := by decide +kernel
theorem dJ8_newLength_cabcc_21 : decode cJ8_newLength_cabcc 21 = .ok (.iload_n 0, 1) := by decide +kernel
theorem dJ8_newLength_cabcc_22 : decode cJ8_newLength_cabcc 22 = .ok (.iload_n 1, 1) := by decide +kernel
theorem dJ8_newLength_cabcc_23 : decode cJ8_newLength_cabcc 23 = .ok (.invokestatic 201, 3) := by decide +kernel
theorem dJ8_newLength_cabcc_26 : decode cJ8_newLength_cabcc 26 = .ok (.ireturn, 1) := by decide +kernel
theorem dJ8_hugeLength_7cf53_0 : decode cJ8_hugeLength_7cf53 0 = .ok (.iload_n 0, 1) := by decide +kernel
theorem dJ8_hugeLength_7cf53_1 : decode cJ8_hugeLength_7cf53 1 = .ok (.iload_n 1, 1) := by decide +kernel
theorem dJ8_hugeLength_7cf53_2 : decode cJ8_hugeLength_7cf53 2 = .ok (.iadd, 1) := by decide +kernel
theorem dJ8_hugeLength_7cf53_3 : decode cJ8_hugeLength_7cf53 3 = .ok (.istore_n 2, 1) := by decide +kernel
theorem dJ8_hugeLength_7cf53_4 : decode cJ8_hugeLength_7cf53 4 = .ok (.iload_n 2, 1) := by decide +kernel
theorem dJ8_hugeLength_7cf53_5 : decode cJ8_hugeLength_7cf53 5 = .ok (.ifCond .ge 44, 3) := by decide +kernel
theorem dJ8_hugeLength_7cf53_8 : decode cJ8_hugeLength_7cf53 8 = .ok (.new 204, 3) := by decide +kernel
theorem dJ8_hugeLength_7cf53_11 : decode cJ8_hugeLength_7cf53 11 = .ok (.dup, 1) := by decide +kernel
theorem dJ8_hugeLength_7cf53_12 : decode cJ8_hugeLength_7cf53 12 = .ok (.new 89, 3) := by decide +kernel
theorem dJ8_hugeLength_7cf53_15 : decode cJ8_hugeLength_7cf53 15 = .ok (.dup, 1) := by decide +kernel
theorem dJ8_hugeLength_7cf53_16 : decode cJ8_hugeLength_7cf53 16 = .ok (.invokespecial 91, 3) := by decide +kernel
theorem dJ8_hugeLength_7cf53_19 : decode cJ8_hugeLength_7cf53 19 = .ok (.ldc 206, 2) := by decide +kernel
theorem dJ8_hugeLength_7cf53_21 : decode cJ8_hugeLength_7cf53 21 = .ok (.invokevirtual 94, 3) := by decide +kernel
theorem dJ8_hugeLength_7cf53_24 : decode cJ8_hugeLength_7cf53 24 = .ok (.iload_n 0, 1) := by decide +kernel
theorem dJ8_hugeLength_7cf53_25 : decode cJ8_hugeLength_7cf53 25 = .ok (.invokevirtual 98, 3) := by decide +kernel
theorem dJ8_hugeLength_7cf53_28 : decode cJ8_hugeLength_7cf53 28 = .ok (.ldc 208, 2) := by decide +kernel
theorem dJ8_hugeLength_7cf53_30 : decode cJ8_hugeLength_7cf53 30 = .ok (.invokevirtual 94, 3) := by decide +kernel
theorem dJ8_hugeLength_7cf53_33 : decode cJ8_hugeLength_7cf53 33 = .ok (.iload_n 1, 1) := by decide +kernel
theorem dJ8_hugeLength_7cf53_34 : decode cJ8_hugeLength_7cf53 34 = .ok (.invokevirtual 98, 3) := by decide +kernel
theorem dJ8_hugeLength_7cf53_37 : decode cJ8_hugeLength_7cf53 37 = .ok (.ldc 210, 2) := by decide +kernel
theorem dJ8_hugeLength_7cf53_39 : decode cJ8_hugeLength_7cf53 39 = .ok (.invokevirtual 94, 3) := by decide +kernel
theorem dJ8_hugeLength_7cf53_42 : decode cJ8_hugeLength_7cf53 42 = .ok (.invokevirtual 101, 3) := by decide +kernel
theorem dJ8_hugeLength_7cf53_45 : decode cJ8_hugeLength_7cf53 45 = .ok (.invokespecial 212, 3) := by decide +kernel
theorem dJ8_hugeLength_7cf53_48 : decode cJ8_hugeLength_7cf53 48 = .ok (.athrow, 1) := by decide +kernel
theorem dJ8_hugeLength_7cf53_49 : decode cJ8_hugeLength_7cf53 49 = .ok (.iload_n 2, 1) := by decide +kernel
theorem dJ8_hugeLength_7cf53_50 : decode cJ8_hugeLength_7cf53 50 = .ok (.ldc 200, 2) := by decide +kernel
theorem dJ8_hugeLength_7cf53_52 : decode cJ8_hugeLength_7cf53 52 = .ok (.if_icmp .gt 6, 3) := by decide +kernel
theorem dJ8_hugeLength_7cf53_55 : decode cJ8_hugeLength_7cf53 55 = .ok (.ldc 200, 2) := by decide +kernel
theorem dJ8_hugeLength_7cf53_57 : decode cJ8_hugeLength_7cf53 57 = .ok (.ireturn, 1) := by decide +kernel
theorem dJ8_hugeLength_7cf53_58 : decode cJ8_hugeLength_7cf53 58 = .ok (.iload_n 2, 1) := by decide +kernel
theorem dJ8_hugeLength_7cf53_59 : decode cJ8_hugeLength_7cf53 59 = .ok (.ireturn, 1) := by decide +kernel
theorem dJ3_checkIndex_8e157_0 : decode cJ3_checkIndex_8e157 0 = .ok (.iload_n 0, 1) := by decide +kernel
theorem dJ3_checkIndex_8e157_1 : decode cJ3_checkIndex_8e157 1 = .ok (.ifCond .lt 8, 3) := by decide +kernel
theorem dJ3_checkIndex_8e157_4 : decode cJ3_checkIndex_8e157 4 = .ok (.iload_n 0, 1) := by decide +kernel
theorem dJ3_checkIndex_8e157_5 : decode cJ3_checkIndex_8e157 5 = .ok (.iload_n 1, 1) := by decide +kernel
theorem dJ3_checkIndex_8e157_6 : decode cJ3_checkIndex_8e157 6 = .ok (.if_icmp .lt 10, 3) := by decide +kernel
theorem dJ3_checkIndex_8e157_9 : decode cJ3_checkIndex_8e157 9 = .ok (.aload_n 2, 1) := by decide +kernel
theorem dJ3_checkIndex_8e157_10 : decode cJ3_checkIndex_8e157 10 = .ok (.iload_n 0, 1) := by decide +kernel
theorem dJ3_checkIndex_8e157_11 : decode cJ3_checkIndex_8e157 11 = .ok (.iload_n 1, 1) := by decide +kernel
theorem dJ3_checkIndex_8e157_12 : decode cJ3_checkIndex_8e157 12 = .ok (.invokestatic 95, 3) := by decide +kernel
theorem dJ3_checkIndex_8e157_15 : decode cJ3_checkIndex_8e157 15 = .ok (.athrow, 1) := by decide +kernel
theorem dJ3_checkIndex_8e157_16 : decode cJ3_checkIndex_8e157 16 = .ok (.iload_n 0, 1) := by decide +kernel
theorem dJ3_checkIndex_8e157_17 : decode cJ3_checkIndex_8e157 17 = .ok (.ireturn, 1) := by decide +kernel
