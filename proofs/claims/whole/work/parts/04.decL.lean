theorem dL_addRoom_0 : decode cL_addRoom 0 = .ok (.aload_n 1, 1) := by decide +kernel
theorem dL_addRoom_1 : decode cL_addRoom 1 = .ok (.iconst 0, 1) := by decide +kernel
theorem dL_addRoom_2 : decode cL_addRoom 2 = .ok (.aload_n 0, 1) := by decide +kernel
theorem dL_addRoom_3 : decode cL_addRoom 3 = .ok (.invokevirtual 7, 3) := by decide +kernel
theorem dL_addRoom_6 : decode cL_addRoom 6 = .ok (.i2l, 1) := by decide +kernel
theorem dL_addRoom_7 : decode cL_addRoom 7 = .ok (.lastore, 1) := by decide +kernel
theorem dL_addRoom_8 : decode cL_addRoom 8 = .ok (.goto 6, 3) := by decide +kernel
theorem dL_addRoom_11 : decode cL_addRoom 11 = .ok (.astore_n 2, 1) := by decide +kernel
theorem dL_addRoom_12 : decode cL_addRoom 12 = .ok (.iconst 1, 1) := by decide +kernel
theorem dL_addRoom_13 : decode cL_addRoom 13 = .ok (.ireturn, 1) := by decide +kernel
theorem dL_addRoom_14 : decode cL_addRoom 14 = .ok (.iconst 0, 1) := by decide +kernel
theorem dL_addRoom_15 : decode cL_addRoom 15 = .ok (.ireturn, 1) := by decide +kernel
theorem dL_setState_0 : decode cL_setState 0 = .ok (.aload 5, 2) := by decide +kernel
theorem dL_setState_2 : decode cL_setState 2 = .ok (.iconst 0, 1) := by decide +kernel
theorem dL_setState_3 : decode cL_setState 3 = .ok (.aload_n 0, 1) := by decide +kernel
theorem dL_setState_4 : decode cL_setState 4 = .ok (.iload_n 1, 1) := by decide +kernel
theorem dL_setState_5 : decode cL_setState 5 = .ok (.iload_n 2, 1) := by decide +kernel
theorem dL_setState_6 : decode cL_setState 6 = .ok (.iload_n 3, 1) := by decide +kernel
theorem dL_setState_7 : decode cL_setState 7 = .ok (.iload 4, 2) := by decide +kernel
theorem dL_setState_9 : decode cL_setState 9 = .ok (.invokevirtual 15, 3) := by decide +kernel
theorem dL_setState_12 : decode cL_setState 12 = .ok (.i2l, 1) := by decide +kernel
theorem dL_setState_13 : decode cL_setState 13 = .ok (.lastore, 1) := by decide +kernel
theorem dL_setState_14 : decode cL_setState 14 = .ok (.goto 11, 3) := by decide +kernel
theorem dL_setState_17 : decode cL_setState 17 = .ok (.astore 6, 2) := by decide +kernel
theorem dL_setState_19 : decode cL_setState 19 = .ok (.iconst 1, 1) := by decide +kernel
theorem dL_setState_20 : decode cL_setState 20 = .ok (.ireturn, 1) := by decide +kernel
theorem dL_setState_21 : decode cL_setState 21 = .ok (.astore 6, 2) := by decide +kernel
theorem dL_setState_23 : decode cL_setState 23 = .ok (.iconst 2, 1) := by decide +kernel
theorem dL_setState_24 : decode cL_setState 24 = .ok (.ireturn, 1) := by decide +kernel
theorem dL_setState_25 : decode cL_setState 25 = .ok (.iconst 0, 1) := by decide +kernel
theorem dL_setState_26 : decode cL_setState 26 = .ok (.ireturn, 1) := by decide +kernel
theorem dL_curtains_0 : decode cL_curtains 0 = .ok (.aload_n 2, 1) := by decide +kernel
theorem dL_curtains_1 : decode cL_curtains 1 = .ok (.iconst 0, 1) := by decide +kernel
theorem dL_curtains_2 : decode cL_curtains 2 = .ok (.aload_n 0, 1) := by decide +kernel
theorem dL_curtains_3 : decode cL_curtains 3 = .ok (.iload_n 1, 1) := by decide +kernel
theorem dL_curtains_4 : decode cL_curtains 4 = .ok (.invokevirtual 23, 3) := by decide +kernel
theorem dL_curtains_7 : decode cL_curtains 7 = .ok (.i2l, 1) := by decide +kernel
theorem dL_curtains_8 : decode cL_curtains 8 = .ok (.lastore, 1) := by decide +kernel
theorem dL_curtains_9 : decode cL_curtains 9 = .ok (.goto 6, 3) := by decide +kernel
theorem dL_curtains_12 : decode cL_curtains 12 = .ok (.astore_n 3, 1) := by decide +kernel
theorem dL_curtains_13 : decode cL_curtains 13 = .ok (.iconst 1, 1) := by decide +kernel
theorem dL_curtains_14 : decode cL_curtains 14 = .ok (.ireturn, 1) := by decide +kernel
theorem dL_curtains_15 : decode cL_curtains 15 = .ok (.iconst 0, 1) := by decide +kernel
theorem dL_curtains_16 : decode cL_curtains 16 = .ok (.ireturn, 1) := by decide +kernel
theorem dL_seats_0 : decode cL_seats 0 = .ok (.aload_n 2, 1) := by decide +kernel
theorem dL_seats_1 : decode cL_seats 1 = .ok (.iconst 0, 1) := by decide +kernel
theorem dL_seats_2 : decode cL_seats 2 = .ok (.aload_n 0, 1) := by decide +kernel
theorem dL_seats_3 : decode cL_seats 3 = .ok (.iload_n 1, 1) := by decide +kernel
theorem dL_seats_4 : decode cL_seats 4 = .ok (.invokevirtual 27, 3) := by decide +kernel
theorem dL_seats_7 : decode cL_seats 7 = .ok (.i2l, 1) := by decide +kernel
theorem dL_seats_8 : decode cL_seats 8 = .ok (.lastore, 1) := by decide +kernel
theorem dL_seats_9 : decode cL_seats 9 = .ok (.goto 6, 3) := by decide +kernel
theorem dL_seats_12 : decode cL_seats 12 = .ok (.astore_n 3, 1) := by decide +kernel
theorem dL_seats_13 : decode cL_seats 13 = .ok (.iconst 1, 1) := by decide +kernel
theorem dL_seats_14 : decode cL_seats 14 = .ok (.ireturn, 1) := by decide +kernel
theorem dL_seats_15 : decode cL_seats 15 = .ok (.iconst 0, 1) := by decide +kernel
theorem dL_seats_16 : decode cL_seats 16 = .ok (.ireturn, 1) := by decide +kernel
theorem dL_areOpen_0 : decode cL_areOpen 0 = .ok (.aload_n 2, 1) := by decide +kernel
theorem dL_areOpen_1 : decode cL_areOpen 1 = .ok (.iconst 0, 1) := by decide +kernel
theorem dL_areOpen_2 : decode cL_areOpen 2 = .ok (.aload_n 0, 1) := by decide +kernel
theorem dL_areOpen_3 : decode cL_areOpen 3 = .ok (.iload_n 1, 1) := by decide +kernel
theorem dL_areOpen_4 : decode cL_areOpen 4 = .ok (.invokevirtual 30, 3) := by decide +kernel
theorem dL_areOpen_7 : decode cL_areOpen 7 = .ok (.ifCond .eq 7, 3) := by decide +kernel
theorem dL_areOpen_10 : decode cL_areOpen 10 = .ok (.lconst 1, 1) := by decide +kernel
theorem dL_areOpen_11 : decode cL_areOpen 11 = .ok (.goto 4, 3) := by decide +kernel
theorem dL_areOpen_14 : decode cL_areOpen 14 = .ok (.lconst 0, 1) := by decide +kernel
theorem dL_areOpen_15 : decode cL_areOpen 15 = .ok (.lastore, 1) := by decide +kernel
theorem dL_areOpen_16 : decode cL_areOpen 16 = .ok (.goto 6, 3) := by decide +kernel
theorem dL_areOpen_19 : decode cL_areOpen 19 = .ok (.astore_n 3, 1) := by decide +kernel
theorem dL_areOpen_20 : decode cL_areOpen 20 = .ok (.iconst 1, 1) := by decide +kernel
theorem dL_areOpen_21 : decode cL_areOpen 21 = .ok (.ireturn, 1) := by decide +kernel
theorem dL_areOpen_22 : decode cL_areOpen 22 = .ok (.iconst 0, 1) := by decide +kernel
theorem dL_areOpen_23 : decode cL_areOpen 23 = .ok (.ireturn, 1) := by decide +kernel
theorem dL_changes_0 : decode cL_changes 0 = .ok (.aload_n 2, 1) := by decide +kernel
theorem dL_changes_1 : decode cL_changes 1 = .ok (.iconst 0, 1) := by decide +kernel
theorem dL_changes_2 : decode cL_changes 2 = .ok (.aload_n 0, 1) := by decide +kernel
theorem dL_changes_3 : decode cL_changes 3 = .ok (.iload_n 1, 1) := by decide +kernel
theorem dL_changes_4 : decode cL_changes 4 = .ok (.invokevirtual 34, 3) := by decide +kernel
theorem dL_changes_7 : decode cL_changes 7 = .ok (.i2l, 1) := by decide +kernel
theorem dL_changes_8 : decode cL_changes 8 = .ok (.lastore, 1) := by decide +kernel
theorem dL_changes_9 : decode cL_changes 9 = .ok (.goto 6, 3) := by decide +kernel
theorem dL_changes_12 : decode cL_changes 12 = .ok (.astore_n 3, 1) := by decide +kernel
theorem dL_changes_13 : decode cL_changes 13 = .ok (.iconst 1, 1) := by decide +kernel
theorem dL_changes_14 : decode cL_changes 14 = .ok (.ireturn, 1) := by decide +kernel
theorem dL_changes_15 : decode cL_changes 15 = .ok (.iconst 0, 1) := by decide +kernel
theorem dL_changes_16 : decode cL_changes 16 = .ok (.ireturn, 1) := by decide +kernel
theorem dL_measure_0 : decode cL_measure 0 = .ok (.aload 7, 2) := by decide +kernel
theorem dL_measure_2 : decode cL_measure 2 = .ok (.iconst 0, 1) := by decide +kernel
theorem dL_measure_3 : decode cL_measure 3 = .ok (.aload_n 0, 1) := by decide +kernel
theorem dL_measure_4 : decode cL_measure 4 = .ok (.iload_n 1, 1) := by decide +kernel
theorem dL_measure_5 : decode cL_measure 5 = .ok (.iload_n 2, 1) := by decide +kernel
theorem dL_measure_6 : decode cL_measure 6 = .ok (.iload_n 3, 1) := by decide +kernel
theorem dL_measure_7 : decode cL_measure 7 = .ok (.iload 4, 2) := by decide +kernel
theorem dL_measure_9 : decode cL_measure 9 = .ok (.iload 5, 2) := by decide +kernel
theorem dL_measure_11 : decode cL_measure 11 = .ok (.iload 6, 2) := by decide +kernel
theorem dL_measure_13 : decode cL_measure 13 = .ok (.invokevirtual 37, 3) := by decide +kernel
theorem dL_measure_16 : decode cL_measure 16 = .ok (.i2l, 1) := by decide +kernel
theorem dL_measure_17 : decode cL_measure 17 = .ok (.lastore, 1) := by decide +kernel
theorem dL_measure_18 : decode cL_measure 18 = .ok (.goto 15, 3) := by decide +kernel
theorem dL_measure_21 : decode cL_measure 21 = .ok (.astore 8, 2) := by decide +kernel
theorem dL_measure_23 : decode cL_measure 23 = .ok (.iconst 1, 1) := by decide +kernel
theorem dL_measure_24 : decode cL_measure 24 = .ok (.ireturn, 1) := by decide +kernel
theorem dL_measure_25 : decode cL_measure 25 = .ok (.astore 8, 2) := by decide +kernel
theorem dL_measure_27 : decode cL_measure 27 = .ok (.iconst 2, 1) := by decide +kernel
theorem dL_measure_28 : decode cL_measure 28 = .ok (.ireturn, 1) := by decide +kernel
theorem dL_measure_29 : decode cL_measure 29 = .ok (.astore 8, 2) := by decide +kernel
theorem dL_measure_31 : decode cL_measure 31 = .ok (.iconst 3, 1) := by decide +kernel
theorem dL_measure_32 : decode cL_measure 32 = .ok (.ireturn, 1) := by decide +kernel
theorem dL_measure_33 : decode cL_measure 33 = .ok (.iconst 0, 1) := by decide +kernel
theorem dL_measure_34 : decode cL_measure 34 = .ok (.ireturn, 1) := by decide +kernel
theorem dL_sample_0 : decode cL_sample 0 = .ok (.aload_n 3, 1) := by decide +kernel
theorem dL_sample_1 : decode cL_sample 1 = .ok (.iconst 0, 1) := by decide +kernel
theorem dL_sample_2 : decode cL_sample 2 = .ok (.aload_n 0, 1) := by decide +kernel
theorem dL_sample_3 : decode cL_sample 3 = .ok (.iload_n 1, 1) := by decide +kernel
theorem dL_sample_4 : decode cL_sample 4 = .ok (.iload_n 2, 1) := by decide +kernel
theorem dL_sample_5 : decode cL_sample 5 = .ok (.invokevirtual 41, 3) := by decide +kernel
theorem dL_sample_8 : decode cL_sample 8 = .ok (.i2l, 1) := by decide +kernel
theorem dL_sample_9 : decode cL_sample 9 = .ok (.lastore, 1) := by decide +kernel
theorem dL_sample_10 : decode cL_sample 10 = .ok (.goto 11, 3) := by decide +kernel
theorem dL_sample_13 : decode cL_sample 13 = .ok (.astore 4, 2) := by decide +kernel
theorem dL_sample_15 : decode cL_sample 15 = .ok (.iconst 1, 1) := by decide +kernel
theorem dL_sample_16 : decode cL_sample 16 = .ok (.ireturn, 1) := by decide +kernel
theorem dL_sample_17 : decode cL_sample 17 = .ok (.astore 4, 2) := by decide +kernel
theorem dL_sample_19 : decode cL_sample 19 = .ok (.iconst 2, 1) := by decide +kernel
theorem dL_sample_20 : decode cL_sample 20 = .ok (.ireturn, 1) := by decide +kernel
theorem dL_sample_21 : decode cL_sample 21 = .ok (.iconst 0, 1) := by decide +kernel
theorem dL_sample_22 : decode cL_sample 22 = .ok (.ireturn, 1) := by decide +kernel
theorem dL_age_0 : decode cL_age 0 = .ok (.aload_n 2, 1) := by decide +kernel
theorem dL_age_1 : decode cL_age 1 = .ok (.iconst 0, 1) := by decide +kernel
theorem dL_age_2 : decode cL_age 2 = .ok (.aload_n 0, 1) := by decide +kernel
theorem dL_age_3 : decode cL_age 3 = .ok (.iload_n 1, 1) := by decide +kernel
theorem dL_age_4 : decode cL_age 4 = .ok (.invokevirtual 47, 3) := by decide +kernel
theorem dL_age_7 : decode cL_age 7 = .ok (.i2l, 1) := by decide +kernel
theorem dL_age_8 : decode cL_age 8 = .ok (.lastore, 1) := by decide +kernel
theorem dL_age_9 : decode cL_age 9 = .ok (.goto 6, 3) := by decide +kernel
theorem dL_age_12 : decode cL_age 12 = .ok (.astore_n 3, 1) := by decide +kernel
theorem dL_age_13 : decode cL_age 13 = .ok (.iconst 1, 1) := by decide +kernel
theorem dL_age_14 : decode cL_age 14 = .ok (.ireturn, 1) := by decide +kernel
theorem dL_age_15 : decode cL_age 15 = .ok (.iconst 0, 1) := by decide +kernel
theorem dL_age_16 : decode cL_age 16 = .ok (.ireturn, 1) := by decide +kernel
theorem dL_latest_0 : decode cL_latest 0 = .ok (.aload 6, 2) := by decide +kernel
theorem dL_latest_2 : decode cL_latest 2 = .ok (.iconst 0, 1) := by decide +kernel
theorem dL_latest_3 : decode cL_latest 3 = .ok (.aload_n 0, 1) := by decide +kernel
theorem dL_latest_4 : decode cL_latest 4 = .ok (.iload_n 1, 1) := by decide +kernel
theorem dL_latest_5 : decode cL_latest 5 = .ok (.iload_n 2, 1) := by decide +kernel
theorem dL_latest_6 : decode cL_latest 6 = .ok (.iload_n 3, 1) := by decide +kernel
theorem dL_latest_7 : decode cL_latest 7 = .ok (.iload 4, 2) := by decide +kernel
theorem dL_latest_9 : decode cL_latest 9 = .ok (.iload 5, 2) := by decide +kernel
theorem dL_latest_11 : decode cL_latest 11 = .ok (.invokevirtual 50, 3) := by decide +kernel
theorem dL_latest_14 : decode cL_latest 14 = .ok (.i2l, 1) := by decide +kernel
theorem dL_latest_15 : decode cL_latest 15 = .ok (.lastore, 1) := by decide +kernel
theorem dL_latest_16 : decode cL_latest 16 = .ok (.goto 15, 3) := by decide +kernel
theorem dL_latest_19 : decode cL_latest 19 = .ok (.astore 7, 2) := by decide +kernel
theorem dL_latest_21 : decode cL_latest 21 = .ok (.iconst 1, 1) := by decide +kernel
theorem dL_latest_22 : decode cL_latest 22 = .ok (.ireturn, 1) := by decide +kernel
theorem dL_latest_23 : decode cL_latest 23 = .ok (.astore 7, 2) := by decide +kernel
theorem dL_latest_25 : decode cL_latest 25 = .ok (.iconst 2, 1) := by decide +kernel
theorem dL_latest_26 : decode cL_latest 26 = .ok (.ireturn, 1) := by decide +kernel
theorem dL_latest_27 : decode cL_latest 27 = .ok (.astore 7, 2) := by decide +kernel
theorem dL_latest_29 : decode cL_latest 29 = .ok (.iconst 3, 1) := by decide +kernel
theorem dL_latest_30 : decode cL_latest 30 = .ok (.ireturn, 1) := by decide +kernel
theorem dL_latest_31 : decode cL_latest 31 = .ok (.iconst 0, 1) := by decide +kernel
theorem dL_latest_32 : decode cL_latest 32 = .ok (.ireturn, 1) := by decide +kernel
theorem dL_statesMeasured_0 : decode cL_statesMeasured 0 = .ok (.aload_n 2, 1) := by decide +kernel
theorem dL_statesMeasured_1 : decode cL_statesMeasured 1 = .ok (.iconst 0, 1) := by decide +kernel
theorem dL_statesMeasured_2 : decode cL_statesMeasured 2 = .ok (.aload_n 0, 1) := by decide +kernel
theorem dL_statesMeasured_3 : decode cL_statesMeasured 3 = .ok (.iload_n 1, 1) := by decide +kernel
theorem dL_statesMeasured_4 : decode cL_statesMeasured 4 = .ok (.invokevirtual 54, 3) := by decide +kernel
theorem dL_statesMeasured_7 : decode cL_statesMeasured 7 = .ok (.i2l, 1) := by decide +kernel
theorem dL_statesMeasured_8 : decode cL_statesMeasured 8 = .ok (.lastore, 1) := by decide +kernel
theorem dL_statesMeasured_9 : decode cL_statesMeasured 9 = .ok (.goto 6, 3) := by decide +kernel
theorem dL_statesMeasured_12 : decode cL_statesMeasured 12 = .ok (.astore_n 3, 1) := by decide +kernel
theorem dL_statesMeasured_13 : decode cL_statesMeasured 13 = .ok (.iconst 1, 1) := by decide +kernel
theorem dL_statesMeasured_14 : decode cL_statesMeasured 14 = .ok (.ireturn, 1) := by decide +kernel
theorem dL_statesMeasured_15 : decode cL_statesMeasured 15 = .ok (.iconst 0, 1) := by decide +kernel
theorem dL_statesMeasured_16 : decode cL_statesMeasured 16 = .ok (.ireturn, 1) := by decide +kernel
theorem dL_makeFilter_0 : decode cL_makeFilter 0 = .ok (.aload_n 2, 1) := by decide +kernel
theorem dL_makeFilter_1 : decode cL_makeFilter 1 = .ok (.iconst 0, 1) := by decide +kernel
theorem dL_makeFilter_2 : decode cL_makeFilter 2 = .ok (.aload_n 0, 1) := by decide +kernel
theorem dL_makeFilter_3 : decode cL_makeFilter 3 = .ok (.iload_n 1, 1) := by decide +kernel
theorem dL_makeFilter_4 : decode cL_makeFilter 4 = .ok (.invokevirtual 57, 3) := by decide +kernel
theorem dL_makeFilter_7 : decode cL_makeFilter 7 = .ok (.i2l, 1) := by decide +kernel
theorem dL_makeFilter_8 : decode cL_makeFilter 8 = .ok (.lastore, 1) := by decide +kernel
theorem dL_makeFilter_9 : decode cL_makeFilter 9 = .ok (.goto 9, 3) := by decide +kernel
theorem dL_makeFilter_12 : decode cL_makeFilter 12 = .ok (.astore_n 3, 1) := by decide +kernel
theorem dL_makeFilter_13 : decode cL_makeFilter 13 = .ok (.iconst 1, 1) := by decide +kernel
theorem dL_makeFilter_14 : decode cL_makeFilter 14 = .ok (.ireturn, 1) := by decide +kernel
theorem dL_makeFilter_15 : decode cL_makeFilter 15 = .ok (.astore_n 3, 1) := by decide +kernel
theorem dL_makeFilter_16 : decode cL_makeFilter 16 = .ok (.iconst 2, 1) := by decide +kernel
theorem dL_makeFilter_17 : decode cL_makeFilter 17 = .ok (.ireturn, 1) := by decide +kernel
theorem dL_makeFilter_18 : decode cL_makeFilter 18 = .ok (.iconst 0, 1) := by decide +kernel
theorem dL_makeFilter_19 : decode cL_makeFilter 19 = .ok (.ireturn, 1) := by decide +kernel
theorem dL_answerOf_0 : decode cL_answerOf 0 = .ok (.aload_n 2, 1) := by decide +kernel
theorem dL_answerOf_1 : decode cL_answerOf 1 = .ok (.iconst 0, 1) := by decide +kernel
theorem dL_answerOf_2 : decode cL_answerOf 2 = .ok (.aload_n 0, 1) := by decide +kernel
theorem dL_answerOf_3 : decode cL_answerOf 3 = .ok (.iload_n 1, 1) := by decide +kernel
theorem dL_answerOf_4 : decode cL_answerOf 4 = .ok (.invokevirtual 60, 3) := by decide +kernel
theorem dL_answerOf_7 : decode cL_answerOf 7 = .ok (.i2l, 1) := by decide +kernel
theorem dL_answerOf_8 : decode cL_answerOf 8 = .ok (.lastore, 1) := by decide +kernel
theorem dL_answerOf_9 : decode cL_answerOf 9 = .ok (.goto 6, 3) := by decide +kernel
theorem dL_answerOf_12 : decode cL_answerOf 12 = .ok (.astore_n 3, 1) := by decide +kernel
theorem dL_answerOf_13 : decode cL_answerOf 13 = .ok (.iconst 1, 1) := by decide +kernel
theorem dL_answerOf_14 : decode cL_answerOf 14 = .ok (.ireturn, 1) := by decide +kernel
theorem dL_answerOf_15 : decode cL_answerOf 15 = .ok (.iconst 0, 1) := by decide +kernel
theorem dL_answerOf_16 : decode cL_answerOf 16 = .ok (.ireturn, 1) := by decide +kernel
theorem dL_tap_0 : decode cL_tap 0 = .ok (.aload_n 3, 1) := by decide +kernel
theorem dL_tap_1 : decode cL_tap 1 = .ok (.iconst 0, 1) := by decide +kernel
theorem dL_tap_2 : decode cL_tap 2 = .ok (.aload_n 0, 1) := by decide +kernel
theorem dL_tap_3 : decode cL_tap 3 = .ok (.iload_n 1, 1) := by decide +kernel
theorem dL_tap_4 : decode cL_tap 4 = .ok (.iload_n 2, 1) := by decide +kernel
theorem dL_tap_5 : decode cL_tap 5 = .ok (.invokevirtual 63, 3) := by decide +kernel
theorem dL_tap_8 : decode cL_tap 8 = .ok (.lastore, 1) := by decide +kernel
theorem dL_tap_9 : decode cL_tap 9 = .ok (.goto 11, 3) := by decide +kernel
theorem dL_tap_12 : decode cL_tap 12 = .ok (.astore 4, 2) := by decide +kernel
theorem dL_tap_14 : decode cL_tap 14 = .ok (.iconst 1, 1) := by decide +kernel
theorem dL_tap_15 : decode cL_tap 15 = .ok (.ireturn, 1) := by decide +kernel
theorem dL_tap_16 : decode cL_tap 16 = .ok (.astore 4, 2) := by decide +kernel
theorem dL_tap_18 : decode cL_tap 18 = .ok (.iconst 2, 1) := by decide +kernel
theorem dL_tap_19 : decode cL_tap 19 = .ok (.ireturn, 1) := by decide +kernel
theorem dL_tap_20 : decode cL_tap 20 = .ok (.iconst 0, 1) := by decide +kernel
theorem dL_tap_21 : decode cL_tap 21 = .ok (.ireturn, 1) := by decide +kernel
theorem dL_bar_0 : decode cL_bar 0 = .ok (.aload_n 2, 1) := by decide +kernel
theorem dL_bar_1 : decode cL_bar 1 = .ok (.iconst 0, 1) := by decide +kernel
theorem dL_bar_2 : decode cL_bar 2 = .ok (.aload_n 0, 1) := by decide +kernel
theorem dL_bar_3 : decode cL_bar 3 = .ok (.iload_n 1, 1) := by decide +kernel
theorem dL_bar_4 : decode cL_bar 4 = .ok (.invokevirtual 67, 3) := by decide +kernel
theorem dL_bar_7 : decode cL_bar 7 = .ok (.i2l, 1) := by decide +kernel
theorem dL_bar_8 : decode cL_bar 8 = .ok (.lastore, 1) := by decide +kernel
theorem dL_bar_9 : decode cL_bar 9 = .ok (.goto 6, 3) := by decide +kernel
theorem dL_bar_12 : decode cL_bar 12 = .ok (.astore_n 3, 1) := by decide +kernel
theorem dL_bar_13 : decode cL_bar 13 = .ok (.iconst 1, 1) := by decide +kernel
theorem dL_bar_14 : decode cL_bar 14 = .ok (.ireturn, 1) := by decide +kernel
theorem dL_bar_15 : decode cL_bar 15 = .ok (.iconst 0, 1) := by decide +kernel
theorem dL_bar_16 : decode cL_bar 16 = .ok (.ireturn, 1) := by decide +kernel
theorem dL_use_0 : decode cL_use 0 = .ok (.aload_n 3, 1) := by decide +kernel
theorem dL_use_1 : decode cL_use 1 = .ok (.iconst 0, 1) := by decide +kernel
theorem dL_use_2 : decode cL_use 2 = .ok (.aload_n 0, 1) := by decide +kernel
theorem dL_use_3 : decode cL_use 3 = .ok (.iload_n 1, 1) := by decide +kernel
theorem dL_use_4 : decode cL_use 4 = .ok (.iload_n 2, 1) := by decide +kernel
theorem dL_use_5 : decode cL_use 5 = .ok (.invokevirtual 71, 3) := by decide +kernel
theorem dL_use_8 : decode cL_use 8 = .ok (.lastore, 1) := by decide +kernel
theorem dL_use_9 : decode cL_use 9 = .ok (.goto 15, 3) := by decide +kernel
theorem dL_use_12 : decode cL_use 12 = .ok (.astore 4, 2) := by decide +kernel
theorem dL_use_14 : decode cL_use 14 = .ok (.iconst 1, 1) := by decide +kernel
theorem dL_use_15 : decode cL_use 15 = .ok (.ireturn, 1) := by decide +kernel
theorem dL_use_16 : decode cL_use 16 = .ok (.astore 4, 2) := by decide +kernel
theorem dL_use_18 : decode cL_use 18 = .ok (.iconst 2, 1) := by decide +kernel
theorem dL_use_19 : decode cL_use 19 = .ok (.ireturn, 1) := by decide +kernel
theorem dL_use_20 : decode cL_use 20 = .ok (.astore 4, 2) := by decide +kernel
theorem dL_use_22 : decode cL_use 22 = .ok (.iconst 3, 1) := by decide +kernel
theorem dL_use_23 : decode cL_use 23 = .ok (.ireturn, 1) := by decide +kernel
theorem dL_use_24 : decode cL_use 24 = .ok (.iconst 0, 1) := by decide +kernel
theorem dL_use_25 : decode cL_use 25 = .ok (.ireturn, 1) := by decide +kernel
theorem dL_inputs_0 : decode cL_inputs 0 = .ok (.aload_n 2, 1) := by decide +kernel
theorem dL_inputs_1 : decode cL_inputs 1 = .ok (.iconst 0, 1) := by decide +kernel
theorem dL_inputs_2 : decode cL_inputs 2 = .ok (.aload_n 0, 1) := by decide +kernel
theorem dL_inputs_3 : decode cL_inputs 3 = .ok (.iload_n 1, 1) := by decide +kernel
theorem dL_inputs_4 : decode cL_inputs 4 = .ok (.invokevirtual 76, 3) := by decide +kernel
theorem dL_inputs_7 : decode cL_inputs 7 = .ok (.i2l, 1) := by decide +kernel
theorem dL_inputs_8 : decode cL_inputs 8 = .ok (.lastore, 1) := by decide +kernel
theorem dL_inputs_9 : decode cL_inputs 9 = .ok (.goto 6, 3) := by decide +kernel
theorem dL_inputs_12 : decode cL_inputs 12 = .ok (.astore_n 3, 1) := by decide +kernel
theorem dL_inputs_13 : decode cL_inputs 13 = .ok (.iconst 1, 1) := by decide +kernel
theorem dL_inputs_14 : decode cL_inputs 14 = .ok (.ireturn, 1) := by decide +kernel
theorem dL_inputs_15 : decode cL_inputs 15 = .ok (.iconst 0, 1) := by decide +kernel
theorem dL_inputs_16 : decode cL_inputs 16 = .ok (.ireturn, 1) := by decide +kernel
theorem dL_product_0 : decode cL_product 0 = .ok (.aload 4, 2) := by decide +kernel
theorem dL_product_2 : decode cL_product 2 = .ok (.iconst 0, 1) := by decide +kernel
theorem dL_product_3 : decode cL_product 3 = .ok (.aload_n 0, 1) := by decide +kernel
theorem dL_product_4 : decode cL_product 4 = .ok (.iload_n 1, 1) := by decide +kernel
theorem dL_product_5 : decode cL_product 5 = .ok (.iload_n 2, 1) := by decide +kernel
theorem dL_product_6 : decode cL_product 6 = .ok (.iload_n 3, 1) := by decide +kernel
theorem dL_product_7 : decode cL_product 7 = .ok (.invokevirtual 79, 3) := by decide +kernel
theorem dL_product_10 : decode cL_product 10 = .ok (.lastore, 1) := by decide +kernel
theorem dL_product_11 : decode cL_product 11 = .ok (.goto 11, 3) := by decide +kernel
theorem dL_product_14 : decode cL_product 14 = .ok (.astore 5, 2) := by decide +kernel
theorem dL_product_16 : decode cL_product 16 = .ok (.iconst 1, 1) := by decide +kernel
theorem dL_product_17 : decode cL_product 17 = .ok (.ireturn, 1) := by decide +kernel
theorem dL_product_18 : decode cL_product 18 = .ok (.astore 5, 2) := by decide +kernel
theorem dL_product_20 : decode cL_product 20 = .ok (.iconst 2, 1) := by decide +kernel
theorem dL_product_21 : decode cL_product 21 = .ok (.ireturn, 1) := by decide +kernel
theorem dL_product_22 : decode cL_product 22 = .ok (.iconst 0, 1) := by decide +kernel
theorem dL_product_23 : decode cL_product 23 = .ok (.ireturn, 1) := by decide +kernel
theorem dL_rightSamples_0 : decode cL_rightSamples 0 = .ok (.aload_n 3, 1) := by decide +kernel
theorem dL_rightSamples_1 : decode cL_rightSamples 1 = .ok (.iconst 0, 1) := by decide +kernel
theorem dL_rightSamples_2 : decode cL_rightSamples 2 = .ok (.aload_n 0, 1) := by decide +kernel
theorem dL_rightSamples_3 : decode cL_rightSamples 3 = .ok (.iload_n 1, 1) := by decide +kernel
theorem dL_rightSamples_4 : decode cL_rightSamples 4 = .ok (.iload_n 2, 1) := by decide +kernel
theorem dL_rightSamples_5 : decode cL_rightSamples 5 = .ok (.invokevirtual 83, 3) := by decide +kernel
theorem dL_rightSamples_8 : decode cL_rightSamples 8 = .ok (.i2l, 1) := by decide +kernel
theorem dL_rightSamples_9 : decode cL_rightSamples 9 = .ok (.lastore, 1) := by decide +kernel
theorem dL_rightSamples_10 : decode cL_rightSamples 10 = .ok (.goto 7, 3) := by decide +kernel
theorem dL_rightSamples_13 : decode cL_rightSamples 13 = .ok (.astore 4, 2) := by decide +kernel
theorem dL_rightSamples_15 : decode cL_rightSamples 15 = .ok (.iconst 1, 1) := by decide +kernel
theorem dL_rightSamples_16 : decode cL_rightSamples 16 = .ok (.ireturn, 1) := by decide +kernel
theorem dL_rightSamples_17 : decode cL_rightSamples 17 = .ok (.iconst 0, 1) := by decide +kernel
theorem dL_rightSamples_18 : decode cL_rightSamples 18 = .ok (.ireturn, 1) := by decide +kernel
theorem dL_isChecked_0 : decode cL_isChecked 0 = .ok (.aload_n 2, 1) := by decide +kernel
theorem dL_isChecked_1 : decode cL_isChecked 1 = .ok (.iconst 0, 1) := by decide +kernel
theorem dL_isChecked_2 : decode cL_isChecked 2 = .ok (.aload_n 0, 1) := by decide +kernel
theorem dL_isChecked_3 : decode cL_isChecked 3 = .ok (.iload_n 1, 1) := by decide +kernel
theorem dL_isChecked_4 : decode cL_isChecked 4 = .ok (.invokevirtual 86, 3) := by decide +kernel
theorem dL_isChecked_7 : decode cL_isChecked 7 = .ok (.ifCond .eq 7, 3) := by decide +kernel
theorem dL_isChecked_10 : decode cL_isChecked 10 = .ok (.lconst 1, 1) := by decide +kernel
theorem dL_isChecked_11 : decode cL_isChecked 11 = .ok (.goto 4, 3) := by decide +kernel
theorem dL_isChecked_14 : decode cL_isChecked 14 = .ok (.lconst 0, 1) := by decide +kernel
theorem dL_isChecked_15 : decode cL_isChecked 15 = .ok (.lastore, 1) := by decide +kernel
theorem dL_isChecked_16 : decode cL_isChecked 16 = .ok (.goto 6, 3) := by decide +kernel
theorem dL_isChecked_19 : decode cL_isChecked 19 = .ok (.astore_n 3, 1) := by decide +kernel
theorem dL_isChecked_20 : decode cL_isChecked 20 = .ok (.iconst 1, 1) := by decide +kernel
theorem dL_isChecked_21 : decode cL_isChecked 21 = .ok (.ireturn, 1) := by decide +kernel
theorem dL_isChecked_22 : decode cL_isChecked 22 = .ok (.iconst 0, 1) := by decide +kernel
theorem dL_isChecked_23 : decode cL_isChecked 23 = .ok (.ireturn, 1) := by decide +kernel
theorem dL_setLimit_0 : decode cL_setLimit 0 = .ok (.aload_n 2, 1) := by decide +kernel
theorem dL_setLimit_1 : decode cL_setLimit 1 = .ok (.iconst 0, 1) := by decide +kernel
theorem dL_setLimit_2 : decode cL_setLimit 2 = .ok (.aload_n 0, 1) := by decide +kernel
theorem dL_setLimit_3 : decode cL_setLimit 3 = .ok (.iload_n 1, 1) := by decide +kernel
theorem dL_setLimit_4 : decode cL_setLimit 4 = .ok (.invokevirtual 89, 3) := by decide +kernel
theorem dL_setLimit_7 : decode cL_setLimit 7 = .ok (.i2l, 1) := by decide +kernel
theorem dL_setLimit_8 : decode cL_setLimit 8 = .ok (.lastore, 1) := by decide +kernel
theorem dL_setLimit_9 : decode cL_setLimit 9 = .ok (.goto 6, 3) := by decide +kernel
theorem dL_setLimit_12 : decode cL_setLimit 12 = .ok (.astore_n 3, 1) := by decide +kernel
theorem dL_setLimit_13 : decode cL_setLimit 13 = .ok (.iconst 1, 1) := by decide +kernel
theorem dL_setLimit_14 : decode cL_setLimit 14 = .ok (.ireturn, 1) := by decide +kernel
theorem dL_setLimit_15 : decode cL_setLimit 15 = .ok (.iconst 0, 1) := by decide +kernel
theorem dL_setLimit_16 : decode cL_setLimit 16 = .ok (.ireturn, 1) := by decide +kernel
theorem dL_book_0 : decode cL_book 0 = .ok (.aload 7, 2) := by decide +kernel
theorem dL_book_2 : decode cL_book 2 = .ok (.iconst 0, 1) := by decide +kernel
theorem dL_book_3 : decode cL_book 3 = .ok (.aload_n 0, 1) := by decide +kernel
theorem dL_book_4 : decode cL_book 4 = .ok (.iload_n 1, 1) := by decide +kernel
theorem dL_book_5 : decode cL_book 5 = .ok (.iload_n 2, 1) := by decide +kernel
theorem dL_book_6 : decode cL_book 6 = .ok (.iload_n 3, 1) := by decide +kernel
theorem dL_book_7 : decode cL_book 7 = .ok (.iload 4, 2) := by decide +kernel
theorem dL_book_9 : decode cL_book 9 = .ok (.iload 5, 2) := by decide +kernel
theorem dL_book_11 : decode cL_book 11 = .ok (.iload 6, 2) := by decide +kernel
theorem dL_book_13 : decode cL_book 13 = .ok (.invokevirtual 92, 3) := by decide +kernel
theorem dL_book_16 : decode cL_book 16 = .ok (.i2l, 1) := by decide +kernel
theorem dL_book_17 : decode cL_book 17 = .ok (.lastore, 1) := by decide +kernel
theorem dL_book_18 : decode cL_book 18 = .ok (.goto 19, 3) := by decide +kernel
theorem dL_book_21 : decode cL_book 21 = .ok (.astore 8, 2) := by decide +kernel
theorem dL_book_23 : decode cL_book 23 = .ok (.iconst 1, 1) := by decide +kernel
theorem dL_book_24 : decode cL_book 24 = .ok (.ireturn, 1) := by decide +kernel
theorem dL_book_25 : decode cL_book 25 = .ok (.astore 8, 2) := by decide +kernel
theorem dL_book_27 : decode cL_book 27 = .ok (.iconst 2, 1) := by decide +kernel
theorem dL_book_28 : decode cL_book 28 = .ok (.ireturn, 1) := by decide +kernel
theorem dL_book_29 : decode cL_book 29 = .ok (.astore 8, 2) := by decide +kernel
theorem dL_book_31 : decode cL_book 31 = .ok (.iconst 3, 1) := by decide +kernel
theorem dL_book_32 : decode cL_book 32 = .ok (.ireturn, 1) := by decide +kernel
theorem dL_book_33 : decode cL_book 33 = .ok (.astore 8, 2) := by decide +kernel
theorem dL_book_35 : decode cL_book 35 = .ok (.iconst 4, 1) := by decide +kernel
theorem dL_book_36 : decode cL_book 36 = .ok (.ireturn, 1) := by decide +kernel
theorem dL_book_37 : decode cL_book 37 = .ok (.iconst 0, 1) := by decide +kernel
theorem dL_book_38 : decode cL_book 38 = .ok (.ireturn, 1) := by decide +kernel
theorem dL_clash_0 : decode cL_clash 0 = .ok (.aload 7, 2) := by decide +kernel
theorem dL_clash_2 : decode cL_clash 2 = .ok (.iconst 0, 1) := by decide +kernel
theorem dL_clash_3 : decode cL_clash 3 = .ok (.aload_n 0, 1) := by decide +kernel
theorem dL_clash_4 : decode cL_clash 4 = .ok (.iload_n 1, 1) := by decide +kernel
theorem dL_clash_5 : decode cL_clash 5 = .ok (.iload_n 2, 1) := by decide +kernel
theorem dL_clash_6 : decode cL_clash 6 = .ok (.iload_n 3, 1) := by decide +kernel
theorem dL_clash_7 : decode cL_clash 7 = .ok (.iload 4, 2) := by decide +kernel
theorem dL_clash_9 : decode cL_clash 9 = .ok (.iload 5, 2) := by decide +kernel
theorem dL_clash_11 : decode cL_clash 11 = .ok (.iload 6, 2) := by decide +kernel
theorem dL_clash_13 : decode cL_clash 13 = .ok (.invokevirtual 96, 3) := by decide +kernel
theorem dL_clash_16 : decode cL_clash 16 = .ok (.i2l, 1) := by decide +kernel
theorem dL_clash_17 : decode cL_clash 17 = .ok (.lastore, 1) := by decide +kernel
theorem dL_clash_18 : decode cL_clash 18 = .ok (.goto 15, 3) := by decide +kernel
theorem dL_clash_21 : decode cL_clash 21 = .ok (.astore 8, 2) := by decide +kernel
theorem dL_clash_23 : decode cL_clash 23 = .ok (.iconst 1, 1) := by decide +kernel
theorem dL_clash_24 : decode cL_clash 24 = .ok (.ireturn, 1) := by decide +kernel
theorem dL_clash_25 : decode cL_clash 25 = .ok (.astore 8, 2) := by decide +kernel
theorem dL_clash_27 : decode cL_clash 27 = .ok (.iconst 2, 1) := by decide +kernel
theorem dL_clash_28 : decode cL_clash 28 = .ok (.ireturn, 1) := by decide +kernel
theorem dL_clash_29 : decode cL_clash 29 = .ok (.astore 8, 2) := by decide +kernel
theorem dL_clash_31 : decode cL_clash 31 = .ok (.iconst 3, 1) := by decide +kernel
theorem dL_clash_32 : decode cL_clash 32 = .ok (.ireturn, 1) := by decide +kernel
theorem dL_clash_33 : decode cL_clash 33 = .ok (.iconst 0, 1) := by decide +kernel
theorem dL_clash_34 : decode cL_clash 34 = .ok (.ireturn, 1) := by decide +kernel
theorem dL_cancel_0 : decode cL_cancel 0 = .ok (.aload_n 2, 1) := by decide +kernel
theorem dL_cancel_1 : decode cL_cancel 1 = .ok (.iconst 0, 1) := by decide +kernel
theorem dL_cancel_2 : decode cL_cancel 2 = .ok (.aload_n 0, 1) := by decide +kernel
theorem dL_cancel_3 : decode cL_cancel 3 = .ok (.iload_n 1, 1) := by decide +kernel
theorem dL_cancel_4 : decode cL_cancel 4 = .ok (.invokevirtual 99, 3) := by decide +kernel
theorem dL_cancel_7 : decode cL_cancel 7 = .ok (.i2l, 1) := by decide +kernel
theorem dL_cancel_8 : decode cL_cancel 8 = .ok (.lastore, 1) := by decide +kernel
theorem dL_cancel_9 : decode cL_cancel 9 = .ok (.goto 9, 3) := by decide +kernel
theorem dL_cancel_12 : decode cL_cancel 12 = .ok (.astore_n 3, 1) := by decide +kernel
theorem dL_cancel_13 : decode cL_cancel 13 = .ok (.iconst 1, 1) := by decide +kernel
theorem dL_cancel_14 : decode cL_cancel 14 = .ok (.ireturn, 1) := by decide +kernel
theorem dL_cancel_15 : decode cL_cancel 15 = .ok (.astore_n 3, 1) := by decide +kernel
theorem dL_cancel_16 : decode cL_cancel 16 = .ok (.iconst 2, 1) := by decide +kernel
theorem dL_cancel_17 : decode cL_cancel 17 = .ok (.ireturn, 1) := by decide +kernel
theorem dL_cancel_18 : decode cL_cancel 18 = .ok (.iconst 0, 1) := by decide +kernel
theorem dL_cancel_19 : decode cL_cancel 19 = .ok (.ireturn, 1) := by decide +kernel
theorem dL_pass_0 : decode cL_pass 0 = .ok (.aload_n 2, 1) := by decide +kernel
theorem dL_pass_1 : decode cL_pass 1 = .ok (.iconst 0, 1) := by decide +kernel
theorem dL_pass_2 : decode cL_pass 2 = .ok (.aload_n 0, 1) := by decide +kernel
theorem dL_pass_3 : decode cL_pass 3 = .ok (.iload_n 1, 1) := by decide +kernel
theorem dL_pass_4 : decode cL_pass 4 = .ok (.invokevirtual 102, 3) := by decide +kernel
theorem dL_pass_7 : decode cL_pass 7 = .ok (.i2l, 1) := by decide +kernel
theorem dL_pass_8 : decode cL_pass 8 = .ok (.lastore, 1) := by decide +kernel
theorem dL_pass_9 : decode cL_pass 9 = .ok (.goto 6, 3) := by decide +kernel
theorem dL_pass_12 : decode cL_pass 12 = .ok (.astore_n 3, 1) := by decide +kernel
theorem dL_pass_13 : decode cL_pass 13 = .ok (.iconst 1, 1) := by decide +kernel
theorem dL_pass_14 : decode cL_pass 14 = .ok (.ireturn, 1) := by decide +kernel
theorem dL_pass_15 : decode cL_pass 15 = .ok (.iconst 0, 1) := by decide +kernel
theorem dL_pass_16 : decode cL_pass 16 = .ok (.ireturn, 1) := by decide +kernel
theorem dL_nextBooking_0 : decode cL_nextBooking 0 = .ok (.aload_n 2, 1) := by decide +kernel
theorem dL_nextBooking_1 : decode cL_nextBooking 1 = .ok (.iconst 0, 1) := by decide +kernel
theorem dL_nextBooking_2 : decode cL_nextBooking 2 = .ok (.aload_n 0, 1) := by decide +kernel
theorem dL_nextBooking_3 : decode cL_nextBooking 3 = .ok (.iload_n 1, 1) := by decide +kernel
theorem dL_nextBooking_4 : decode cL_nextBooking 4 = .ok (.invokevirtual 105, 3) := by decide +kernel
theorem dL_nextBooking_7 : decode cL_nextBooking 7 = .ok (.i2l, 1) := by decide +kernel
theorem dL_nextBooking_8 : decode cL_nextBooking 8 = .ok (.lastore, 1) := by decide +kernel
theorem dL_nextBooking_9 : decode cL_nextBooking 9 = .ok (.goto 9, 3) := by decide +kernel
theorem dL_nextBooking_12 : decode cL_nextBooking 12 = .ok (.astore_n 3, 1) := by decide +kernel
theorem dL_nextBooking_13 : decode cL_nextBooking 13 = .ok (.iconst 1, 1) := by decide +kernel
theorem dL_nextBooking_14 : decode cL_nextBooking 14 = .ok (.ireturn, 1) := by decide +kernel
theorem dL_nextBooking_15 : decode cL_nextBooking 15 = .ok (.astore_n 3, 1) := by decide +kernel
theorem dL_nextBooking_16 : decode cL_nextBooking 16 = .ok (.iconst 2, 1) := by decide +kernel
theorem dL_nextBooking_17 : decode cL_nextBooking 17 = .ok (.ireturn, 1) := by decide +kernel
theorem dL_nextBooking_18 : decode cL_nextBooking 18 = .ok (.iconst 0, 1) := by decide +kernel
theorem dL_nextBooking_19 : decode cL_nextBooking 19 = .ok (.ireturn, 1) := by decide +kernel
theorem dL_usableShare_0 : decode cL_usableShare 0 = .ok (.aload_n 1, 1) := by decide +kernel
theorem dL_usableShare_1 : decode cL_usableShare 1 = .ok (.iconst 0, 1) := by decide +kernel
theorem dL_usableShare_2 : decode cL_usableShare 2 = .ok (.aload_n 0, 1) := by decide +kernel
theorem dL_usableShare_3 : decode cL_usableShare 3 = .ok (.invokevirtual 108, 3) := by decide +kernel
theorem dL_usableShare_6 : decode cL_usableShare 6 = .ok (.f2d, 1) := by decide +kernel
theorem dL_usableShare_7 : decode cL_usableShare 7 = .ok (.dastore, 1) := by decide +kernel
theorem dL_usableShare_8 : decode cL_usableShare 8 = .ok (.goto 6, 3) := by decide +kernel
theorem dL_usableShare_11 : decode cL_usableShare 11 = .ok (.astore_n 2, 1) := by decide +kernel
theorem dL_usableShare_12 : decode cL_usableShare 12 = .ok (.iconst 1, 1) := by decide +kernel
theorem dL_usableShare_13 : decode cL_usableShare 13 = .ok (.ireturn, 1) := by decide +kernel
theorem dL_usableShare_14 : decode cL_usableShare 14 = .ok (.iconst 0, 1) := by decide +kernel
theorem dL_usableShare_15 : decode cL_usableShare 15 = .ok (.ireturn, 1) := by decide +kernel
