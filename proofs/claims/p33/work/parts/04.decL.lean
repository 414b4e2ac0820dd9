theorem dL_cell_0 : decode cL_cell 0 = .ok (.iload_n 1, 1) := by decide +kernel
theorem dL_cell_1 : decode cL_cell 1 = .ok (.aload_n 0, 1) := by decide +kernel
theorem dL_cell_2 : decode cL_cell 2 = .ok (.arraylength, 1) := by decide +kernel
theorem dL_cell_3 : decode cL_cell 3 = .ok (.if_icmp .ge 9, 3) := by decide +kernel
theorem dL_cell_6 : decode cL_cell 6 = .ok (.aload_n 0, 1) := by decide +kernel
theorem dL_cell_7 : decode cL_cell 7 = .ok (.iload_n 1, 1) := by decide +kernel
theorem dL_cell_8 : decode cL_cell 8 = .ok (.iaload, 1) := by decide +kernel
theorem dL_cell_9 : decode cL_cell 9 = .ok (.goto 11, 3) := by decide +kernel
theorem dL_cell_12 : decode cL_cell 12 = .ok (.sipush 7919, 3) := by decide +kernel
theorem dL_cell_15 : decode cL_cell 15 = .ok (.iload_n 1, 1) := by decide +kernel
theorem dL_cell_16 : decode cL_cell 16 = .ok (.imul, 1) := by decide +kernel
theorem dL_cell_17 : decode cL_cell 17 = .ok (.bipush 12, 2) := by decide +kernel
theorem dL_cell_19 : decode cL_cell 19 = .ok (.iadd, 1) := by decide +kernel
theorem dL_cell_20 : decode cL_cell 20 = .ok (.ireturn, 1) := by decide +kernel
theorem dL_some_0 : decode cL_some 0 = .ok (.aload_n 0, 1) := by decide +kernel
theorem dL_some_1 : decode cL_some 1 = .ok (.iload_n 1, 1) := by decide +kernel
theorem dL_some_2 : decode cL_some 2 = .ok (.invokestatic 7, 3) := by decide +kernel
theorem dL_some_5 : decode cL_some 5 = .ok (.iconst 3, 1) := by decide +kernel
theorem dL_some_6 : decode cL_some 6 = .ok (.iushr, 1) := by decide +kernel
theorem dL_some_7 : decode cL_some 7 = .ok (.iload_n 2, 1) := by decide +kernel
theorem dL_some_8 : decode cL_some 8 = .ok (.irem, 1) := by decide +kernel
theorem dL_some_9 : decode cL_some 9 = .ok (.ireturn, 1) := by decide +kernel
theorem dL_addRoom_0 : decode cL_addRoom 0 = .ok (.aload_n 0, 1) := by decide +kernel
theorem dL_addRoom_1 : decode cL_addRoom 1 = .ok (.invokevirtual 13, 3) := by decide +kernel
theorem dL_addRoom_4 : decode cL_addRoom 4 = .ok (.ireturn, 1) := by decide +kernel
theorem dL_addRoom_5 : decode cL_addRoom 5 = .ok (.astore_n 1, 1) := by decide +kernel
theorem dL_addRoom_6 : decode cL_addRoom 6 = .ok (.ldc 21, 2) := by decide +kernel
theorem dL_addRoom_8 : decode cL_addRoom 8 = .ok (.ireturn, 1) := by decide +kernel
theorem dL_setState_0 : decode cL_setState 0 = .ok (.aload_n 0, 1) := by decide +kernel
theorem dL_setState_1 : decode cL_setState 1 = .ok (.iload_n 1, 1) := by decide +kernel
theorem dL_setState_2 : decode cL_setState 2 = .ok (.iload_n 2, 1) := by decide +kernel
theorem dL_setState_3 : decode cL_setState 3 = .ok (.iload_n 3, 1) := by decide +kernel
theorem dL_setState_4 : decode cL_setState 4 = .ok (.iload 4, 2) := by decide +kernel
theorem dL_setState_6 : decode cL_setState 6 = .ok (.invokevirtual 22, 3) := by decide +kernel
theorem dL_setState_9 : decode cL_setState 9 = .ok (.ireturn, 1) := by decide +kernel
theorem dL_setState_10 : decode cL_setState 10 = .ok (.astore 5, 2) := by decide +kernel
theorem dL_setState_12 : decode cL_setState 12 = .ok (.ldc 28, 2) := by decide +kernel
theorem dL_setState_14 : decode cL_setState 14 = .ok (.ireturn, 1) := by decide +kernel
theorem dL_setState_15 : decode cL_setState 15 = .ok (.astore 5, 2) := by decide +kernel
theorem dL_setState_17 : decode cL_setState 17 = .ok (.ldc 31, 2) := by decide +kernel
theorem dL_setState_19 : decode cL_setState 19 = .ok (.ireturn, 1) := by decide +kernel
theorem dL_measure_0 : decode cL_measure 0 = .ok (.aload_n 0, 1) := by decide +kernel
theorem dL_measure_1 : decode cL_measure 1 = .ok (.iload_n 1, 1) := by decide +kernel
theorem dL_measure_2 : decode cL_measure 2 = .ok (.iload_n 2, 1) := by decide +kernel
theorem dL_measure_3 : decode cL_measure 3 = .ok (.iload_n 3, 1) := by decide +kernel
theorem dL_measure_4 : decode cL_measure 4 = .ok (.iload 4, 2) := by decide +kernel
theorem dL_measure_6 : decode cL_measure 6 = .ok (.iload 5, 2) := by decide +kernel
theorem dL_measure_8 : decode cL_measure 8 = .ok (.iload 6, 2) := by decide +kernel
theorem dL_measure_10 : decode cL_measure 10 = .ok (.invokevirtual 36, 3) := by decide +kernel
theorem dL_measure_13 : decode cL_measure 13 = .ok (.ireturn, 1) := by decide +kernel
theorem dL_measure_14 : decode cL_measure 14 = .ok (.astore 7, 2) := by decide +kernel
theorem dL_measure_16 : decode cL_measure 16 = .ok (.ldc 28, 2) := by decide +kernel
theorem dL_measure_18 : decode cL_measure 18 = .ok (.ireturn, 1) := by decide +kernel
theorem dL_measure_19 : decode cL_measure 19 = .ok (.astore 7, 2) := by decide +kernel
theorem dL_measure_21 : decode cL_measure 21 = .ok (.ldc 31, 2) := by decide +kernel
theorem dL_measure_23 : decode cL_measure 23 = .ok (.ireturn, 1) := by decide +kernel
theorem dL_measure_24 : decode cL_measure 24 = .ok (.astore 7, 2) := by decide +kernel
theorem dL_measure_26 : decode cL_measure 26 = .ok (.ldc 21, 2) := by decide +kernel
theorem dL_measure_28 : decode cL_measure 28 = .ok (.ireturn, 1) := by decide +kernel
theorem dL_sample_0 : decode cL_sample 0 = .ok (.aload_n 0, 1) := by decide +kernel
theorem dL_sample_1 : decode cL_sample 1 = .ok (.iload_n 1, 1) := by decide +kernel
theorem dL_sample_2 : decode cL_sample 2 = .ok (.iload_n 2, 1) := by decide +kernel
theorem dL_sample_3 : decode cL_sample 3 = .ok (.invokevirtual 40, 3) := by decide +kernel
theorem dL_sample_6 : decode cL_sample 6 = .ok (.ireturn, 1) := by decide +kernel
theorem dL_sample_7 : decode cL_sample 7 = .ok (.astore_n 3, 1) := by decide +kernel
theorem dL_sample_8 : decode cL_sample 8 = .ok (.ldc 28, 2) := by decide +kernel
theorem dL_sample_10 : decode cL_sample 10 = .ok (.ireturn, 1) := by decide +kernel
theorem dL_sample_11 : decode cL_sample 11 = .ok (.astore_n 3, 1) := by decide +kernel
theorem dL_sample_12 : decode cL_sample 12 = .ok (.ldc 46, 2) := by decide +kernel
theorem dL_sample_14 : decode cL_sample 14 = .ok (.ireturn, 1) := by decide +kernel
theorem dL_age_0 : decode cL_age 0 = .ok (.aload_n 0, 1) := by decide +kernel
theorem dL_age_1 : decode cL_age 1 = .ok (.iload_n 1, 1) := by decide +kernel
theorem dL_age_2 : decode cL_age 2 = .ok (.invokevirtual 47, 3) := by decide +kernel
theorem dL_age_5 : decode cL_age 5 = .ok (.ireturn, 1) := by decide +kernel
theorem dL_age_6 : decode cL_age 6 = .ok (.astore_n 2, 1) := by decide +kernel
theorem dL_age_7 : decode cL_age 7 = .ok (.ldc 28, 2) := by decide +kernel
theorem dL_age_9 : decode cL_age 9 = .ok (.ireturn, 1) := by decide +kernel
theorem dL_latest_0 : decode cL_latest 0 = .ok (.aload_n 0, 1) := by decide +kernel
theorem dL_latest_1 : decode cL_latest 1 = .ok (.iload_n 1, 1) := by decide +kernel
theorem dL_latest_2 : decode cL_latest 2 = .ok (.iload_n 2, 1) := by decide +kernel
theorem dL_latest_3 : decode cL_latest 3 = .ok (.iload_n 3, 1) := by decide +kernel
theorem dL_latest_4 : decode cL_latest 4 = .ok (.iload 4, 2) := by decide +kernel
theorem dL_latest_6 : decode cL_latest 6 = .ok (.iload 5, 2) := by decide +kernel
theorem dL_latest_8 : decode cL_latest 8 = .ok (.invokevirtual 50, 3) := by decide +kernel
theorem dL_latest_11 : decode cL_latest 11 = .ok (.ireturn, 1) := by decide +kernel
theorem dL_latest_12 : decode cL_latest 12 = .ok (.astore 6, 2) := by decide +kernel
theorem dL_latest_14 : decode cL_latest 14 = .ok (.ldc 28, 2) := by decide +kernel
theorem dL_latest_16 : decode cL_latest 16 = .ok (.ireturn, 1) := by decide +kernel
theorem dL_latest_17 : decode cL_latest 17 = .ok (.astore 6, 2) := by decide +kernel
theorem dL_latest_19 : decode cL_latest 19 = .ok (.ldc 31, 2) := by decide +kernel
theorem dL_latest_21 : decode cL_latest 21 = .ok (.ireturn, 1) := by decide +kernel
theorem dL_latest_22 : decode cL_latest 22 = .ok (.astore 6, 2) := by decide +kernel
theorem dL_latest_24 : decode cL_latest 24 = .ok (.ldc 46, 2) := by decide +kernel
theorem dL_latest_26 : decode cL_latest 26 = .ok (.ireturn, 1) := by decide +kernel
theorem dL_makeFilter_0 : decode cL_makeFilter 0 = .ok (.aload_n 0, 1) := by decide +kernel
theorem dL_makeFilter_1 : decode cL_makeFilter 1 = .ok (.iload_n 1, 1) := by decide +kernel
theorem dL_makeFilter_2 : decode cL_makeFilter 2 = .ok (.invokevirtual 57, 3) := by decide +kernel
theorem dL_makeFilter_5 : decode cL_makeFilter 5 = .ok (.ireturn, 1) := by decide +kernel
theorem dL_makeFilter_6 : decode cL_makeFilter 6 = .ok (.astore_n 2, 1) := by decide +kernel
theorem dL_makeFilter_7 : decode cL_makeFilter 7 = .ok (.ldc 28, 2) := by decide +kernel
theorem dL_makeFilter_9 : decode cL_makeFilter 9 = .ok (.ireturn, 1) := by decide +kernel
theorem dL_makeFilter_10 : decode cL_makeFilter 10 = .ok (.astore_n 2, 1) := by decide +kernel
theorem dL_makeFilter_11 : decode cL_makeFilter 11 = .ok (.ldc 21, 2) := by decide +kernel
theorem dL_makeFilter_13 : decode cL_makeFilter 13 = .ok (.ireturn, 1) := by decide +kernel
theorem dL_bar_0 : decode cL_bar 0 = .ok (.aload_n 0, 1) := by decide +kernel
theorem dL_bar_1 : decode cL_bar 1 = .ok (.iload_n 1, 1) := by decide +kernel
theorem dL_bar_2 : decode cL_bar 2 = .ok (.invokevirtual 68, 3) := by decide +kernel
theorem dL_bar_5 : decode cL_bar 5 = .ok (.ireturn, 1) := by decide +kernel
theorem dL_bar_6 : decode cL_bar 6 = .ok (.astore_n 2, 1) := by decide +kernel
theorem dL_bar_7 : decode cL_bar 7 = .ok (.ldc 28, 2) := by decide +kernel
theorem dL_bar_9 : decode cL_bar 9 = .ok (.ireturn, 1) := by decide +kernel
theorem dL_use_0 : decode cL_use 0 = .ok (.aload_n 0, 1) := by decide +kernel
theorem dL_use_1 : decode cL_use 1 = .ok (.iload_n 1, 1) := by decide +kernel
theorem dL_use_2 : decode cL_use 2 = .ok (.iload_n 2, 1) := by decide +kernel
theorem dL_use_3 : decode cL_use 3 = .ok (.invokevirtual 72, 3) := by decide +kernel
theorem dL_use_6 : decode cL_use 6 = .ok (.lreturn, 1) := by decide +kernel
theorem dL_use_7 : decode cL_use 7 = .ok (.astore_n 3, 1) := by decide +kernel
theorem dL_use_8 : decode cL_use 8 = .ok (.ldc2_w 64, 3) := by decide +kernel
theorem dL_use_11 : decode cL_use 11 = .ok (.lreturn, 1) := by decide +kernel
theorem dL_use_12 : decode cL_use 12 = .ok (.astore_n 3, 1) := by decide +kernel
theorem dL_use_13 : decode cL_use 13 = .ok (.ldc2_w 75, 3) := by decide +kernel
theorem dL_use_16 : decode cL_use 16 = .ok (.lreturn, 1) := by decide +kernel
theorem dL_use_17 : decode cL_use 17 = .ok (.astore_n 3, 1) := by decide +kernel
theorem dL_use_18 : decode cL_use 18 = .ok (.ldc2_w 79, 3) := by decide +kernel
theorem dL_use_21 : decode cL_use 21 = .ok (.lreturn, 1) := by decide +kernel
theorem dL_setLimit_0 : decode cL_setLimit 0 = .ok (.aload_n 0, 1) := by decide +kernel
theorem dL_setLimit_1 : decode cL_setLimit 1 = .ok (.iload_n 1, 1) := by decide +kernel
theorem dL_setLimit_2 : decode cL_setLimit 2 = .ok (.invokevirtual 91, 3) := by decide +kernel
theorem dL_setLimit_5 : decode cL_setLimit 5 = .ok (.ireturn, 1) := by decide +kernel
theorem dL_setLimit_6 : decode cL_setLimit 6 = .ok (.astore_n 2, 1) := by decide +kernel
theorem dL_setLimit_7 : decode cL_setLimit 7 = .ok (.ldc 31, 2) := by decide +kernel
theorem dL_setLimit_9 : decode cL_setLimit 9 = .ok (.ireturn, 1) := by decide +kernel
theorem dL_book_0 : decode cL_book 0 = .ok (.aload_n 0, 1) := by decide +kernel
theorem dL_book_1 : decode cL_book 1 = .ok (.iload_n 1, 1) := by decide +kernel
theorem dL_book_2 : decode cL_book 2 = .ok (.iload_n 2, 1) := by decide +kernel
theorem dL_book_3 : decode cL_book 3 = .ok (.iload_n 3, 1) := by decide +kernel
theorem dL_book_4 : decode cL_book 4 = .ok (.iload 4, 2) := by decide +kernel
theorem dL_book_6 : decode cL_book 6 = .ok (.iload 5, 2) := by decide +kernel
theorem dL_book_8 : decode cL_book 8 = .ok (.iload 6, 2) := by decide +kernel
theorem dL_book_10 : decode cL_book 10 = .ok (.invokevirtual 94, 3) := by decide +kernel
theorem dL_book_13 : decode cL_book 13 = .ok (.ireturn, 1) := by decide +kernel
theorem dL_book_14 : decode cL_book 14 = .ok (.astore 7, 2) := by decide +kernel
theorem dL_book_16 : decode cL_book 16 = .ok (.ldc 28, 2) := by decide +kernel
theorem dL_book_18 : decode cL_book 18 = .ok (.ireturn, 1) := by decide +kernel
theorem dL_book_19 : decode cL_book 19 = .ok (.astore 7, 2) := by decide +kernel
theorem dL_book_21 : decode cL_book 21 = .ok (.ldc 31, 2) := by decide +kernel
theorem dL_book_23 : decode cL_book 23 = .ok (.ireturn, 1) := by decide +kernel
theorem dL_book_24 : decode cL_book 24 = .ok (.astore 7, 2) := by decide +kernel
theorem dL_book_26 : decode cL_book 26 = .ok (.ldc 98, 2) := by decide +kernel
theorem dL_book_28 : decode cL_book 28 = .ok (.ireturn, 1) := by decide +kernel
theorem dL_book_29 : decode cL_book 29 = .ok (.astore 7, 2) := by decide +kernel
theorem dL_book_31 : decode cL_book 31 = .ok (.ldc 21, 2) := by decide +kernel
theorem dL_book_33 : decode cL_book 33 = .ok (.ireturn, 1) := by decide +kernel
theorem dL_clash_0 : decode cL_clash 0 = .ok (.aload_n 0, 1) := by decide +kernel
theorem dL_clash_1 : decode cL_clash 1 = .ok (.iload_n 1, 1) := by decide +kernel
theorem dL_clash_2 : decode cL_clash 2 = .ok (.iload_n 2, 1) := by decide +kernel
theorem dL_clash_3 : decode cL_clash 3 = .ok (.iload_n 3, 1) := by decide +kernel
theorem dL_clash_4 : decode cL_clash 4 = .ok (.iload 4, 2) := by decide +kernel
theorem dL_clash_6 : decode cL_clash 6 = .ok (.iload 5, 2) := by decide +kernel
theorem dL_clash_8 : decode cL_clash 8 = .ok (.iload 6, 2) := by decide +kernel
theorem dL_clash_10 : decode cL_clash 10 = .ok (.invokevirtual 99, 3) := by decide +kernel
theorem dL_clash_13 : decode cL_clash 13 = .ok (.ireturn, 1) := by decide +kernel
theorem dL_clash_14 : decode cL_clash 14 = .ok (.astore 7, 2) := by decide +kernel
theorem dL_clash_16 : decode cL_clash 16 = .ok (.ldc 28, 2) := by decide +kernel
theorem dL_clash_18 : decode cL_clash 18 = .ok (.ireturn, 1) := by decide +kernel
theorem dL_clash_19 : decode cL_clash 19 = .ok (.astore 7, 2) := by decide +kernel
theorem dL_clash_21 : decode cL_clash 21 = .ok (.ldc 31, 2) := by decide +kernel
theorem dL_clash_23 : decode cL_clash 23 = .ok (.ireturn, 1) := by decide +kernel
theorem dL_clash_24 : decode cL_clash 24 = .ok (.astore 7, 2) := by decide +kernel
theorem dL_clash_26 : decode cL_clash 26 = .ok (.ldc 46, 2) := by decide +kernel
theorem dL_clash_28 : decode cL_clash 28 = .ok (.ireturn, 1) := by decide +kernel
theorem dL_cancel_0 : decode cL_cancel 0 = .ok (.aload_n 0, 1) := by decide +kernel
theorem dL_cancel_1 : decode cL_cancel 1 = .ok (.iload_n 1, 1) := by decide +kernel
theorem dL_cancel_2 : decode cL_cancel 2 = .ok (.invokevirtual 102, 3) := by decide +kernel
theorem dL_cancel_5 : decode cL_cancel 5 = .ok (.ireturn, 1) := by decide +kernel
theorem dL_cancel_6 : decode cL_cancel 6 = .ok (.astore_n 2, 1) := by decide +kernel
theorem dL_cancel_7 : decode cL_cancel 7 = .ok (.ldc 28, 2) := by decide +kernel
theorem dL_cancel_9 : decode cL_cancel 9 = .ok (.ireturn, 1) := by decide +kernel
theorem dL_cancel_10 : decode cL_cancel 10 = .ok (.astore_n 2, 1) := by decide +kernel
theorem dL_cancel_11 : decode cL_cancel 11 = .ok (.ldc 21, 2) := by decide +kernel
theorem dL_cancel_13 : decode cL_cancel 13 = .ok (.ireturn, 1) := by decide +kernel
theorem dL_pass_0 : decode cL_pass 0 = .ok (.aload_n 0, 1) := by decide +kernel
theorem dL_pass_1 : decode cL_pass 1 = .ok (.iload_n 1, 1) := by decide +kernel
theorem dL_pass_2 : decode cL_pass 2 = .ok (.invokevirtual 105, 3) := by decide +kernel
theorem dL_pass_5 : decode cL_pass 5 = .ok (.ireturn, 1) := by decide +kernel
theorem dL_pass_6 : decode cL_pass 6 = .ok (.astore_n 2, 1) := by decide +kernel
theorem dL_pass_7 : decode cL_pass 7 = .ok (.ldc 31, 2) := by decide +kernel
theorem dL_pass_9 : decode cL_pass 9 = .ok (.ireturn, 1) := by decide +kernel
theorem dL_nextBooking_0 : decode cL_nextBooking 0 = .ok (.aload_n 0, 1) := by decide +kernel
theorem dL_nextBooking_1 : decode cL_nextBooking 1 = .ok (.iload_n 1, 1) := by decide +kernel
theorem dL_nextBooking_2 : decode cL_nextBooking 2 = .ok (.invokevirtual 108, 3) := by decide +kernel
theorem dL_nextBooking_5 : decode cL_nextBooking 5 = .ok (.ireturn, 1) := by decide +kernel
theorem dL_nextBooking_6 : decode cL_nextBooking 6 = .ok (.astore_n 2, 1) := by decide +kernel
theorem dL_nextBooking_7 : decode cL_nextBooking 7 = .ok (.ldc 28, 2) := by decide +kernel
theorem dL_nextBooking_9 : decode cL_nextBooking 9 = .ok (.ireturn, 1) := by decide +kernel
theorem dL_nextBooking_10 : decode cL_nextBooking 10 = .ok (.astore_n 2, 1) := by decide +kernel
theorem dL_nextBooking_11 : decode cL_nextBooking 11 = .ok (.ldc 46, 2) := by decide +kernel
theorem dL_nextBooking_13 : decode cL_nextBooking 13 = .ok (.ireturn, 1) := by decide +kernel
theorem dL_isLab_0 : decode cL_isLab 0 = .ok (.iconst 0, 1) := by decide +kernel
theorem dL_isLab_1 : decode cL_isLab 1 = .ok (.istore 4, 2) := by decide +kernel
theorem dL_isLab_3 : decode cL_isLab 3 = .ok (.aload_n 0, 1) := by decide +kernel
theorem dL_isLab_4 : decode cL_isLab 4 = .ok (.invokevirtual 111, 3) := by decide +kernel
theorem dL_isLab_7 : decode cL_isLab 7 = .ok (.istore 5, 2) := by decide +kernel
theorem dL_isLab_9 : decode cL_isLab 9 = .ok (.iconst 0, 1) := by decide +kernel
theorem dL_isLab_10 : decode cL_isLab 10 = .ok (.istore 6, 2) := by decide +kernel
theorem dL_isLab_12 : decode cL_isLab 12 = .ok (.iload 6, 2) := by decide +kernel
theorem dL_isLab_14 : decode cL_isLab 14 = .ok (.iload 5, 2) := by decide +kernel
theorem dL_isLab_16 : decode cL_isLab 16 = .ok (.if_icmp .ge 73, 3) := by decide +kernel
theorem dL_isLab_19 : decode cL_isLab 19 = .ok (.aload_n 0, 1) := by decide +kernel
theorem dL_isLab_20 : decode cL_isLab 20 = .ok (.iload 6, 2) := by decide +kernel
theorem dL_isLab_22 : decode cL_isLab 22 = .ok (.invokevirtual 47, 3) := by decide +kernel
theorem dL_isLab_25 : decode cL_isLab 25 = .ok (.ifCond .lt 56, 3) := by decide +kernel
theorem dL_isLab_28 : decode cL_isLab 28 = .ok (.aload_n 0, 1) := by decide +kernel
theorem dL_isLab_29 : decode cL_isLab 29 = .ok (.iload 6, 2) := by decide +kernel
theorem dL_isLab_31 : decode cL_isLab 31 = .ok (.iconst 0, 1) := by decide +kernel
theorem dL_isLab_32 : decode cL_isLab 32 = .ok (.invokevirtual 40, 3) := by decide +kernel
theorem dL_isLab_35 : decode cL_isLab 35 = .ok (.invokestatic 114, 3) := by decide +kernel
theorem dL_isLab_38 : decode cL_isLab 38 = .ok (.iconst 1, 1) := by decide +kernel
theorem dL_isLab_39 : decode cL_isLab 39 = .ok (.if_icmp .ne 42, 3) := by decide +kernel
theorem dL_isLab_42 : decode cL_isLab 42 = .ok (.iload 6, 2) := by decide +kernel
theorem dL_isLab_44 : decode cL_isLab 44 = .ok (.ifCond .le 25, 3) := by decide +kernel
theorem dL_isLab_47 : decode cL_isLab 47 = .ok (.aload_n 0, 1) := by decide +kernel
theorem dL_isLab_48 : decode cL_isLab 48 = .ok (.iload 6, 2) := by decide +kernel
theorem dL_isLab_50 : decode cL_isLab 50 = .ok (.invokevirtual 47, 3) := by decide +kernel
theorem dL_isLab_53 : decode cL_isLab 53 = .ok (.aload_n 0, 1) := by decide +kernel
theorem dL_isLab_54 : decode cL_isLab 54 = .ok (.iload 6, 2) := by decide +kernel
theorem dL_isLab_56 : decode cL_isLab 56 = .ok (.iconst 1, 1) := by decide +kernel
theorem dL_isLab_57 : decode cL_isLab 57 = .ok (.isub, 1) := by decide +kernel
theorem dL_isLab_58 : decode cL_isLab 58 = .ok (.invokevirtual 47, 3) := by decide +kernel
theorem dL_isLab_61 : decode cL_isLab 61 = .ok (.if_icmp .le 8, 3) := by decide +kernel
theorem dL_isLab_64 : decode cL_isLab 64 = .ok (.iload_n 1, 1) := by decide +kernel
theorem dL_isLab_65 : decode cL_isLab 65 = .ok (.iconst 1, 1) := by decide +kernel
theorem dL_isLab_66 : decode cL_isLab 66 = .ok (.if_icmp .eq 15, 3) := by decide +kernel
theorem dL_isLab_69 : decode cL_isLab 69 = .ok (.aload_n 0, 1) := by decide +kernel
theorem dL_isLab_70 : decode cL_isLab 70 = .ok (.iload 6, 2) := by decide +kernel
theorem dL_isLab_72 : decode cL_isLab 72 = .ok (.iconst 4, 1) := by decide +kernel
theorem dL_isLab_73 : decode cL_isLab 73 = .ok (.invokestatic 119, 3) := by decide +kernel
theorem dL_isLab_76 : decode cL_isLab 76 = .ok (.ldc 46, 2) := by decide +kernel
theorem dL_isLab_78 : decode cL_isLab 78 = .ok (.if_icmp .eq 5, 3) := by decide +kernel
theorem dL_isLab_81 : decode cL_isLab 81 = .ok (.iconst 0, 1) := by decide +kernel
theorem dL_isLab_82 : decode cL_isLab 82 = .ok (.ireturn, 1) := by decide +kernel
theorem dL_isLab_83 : decode cL_isLab 83 = .ok (.iinc 6 1, 3) := by decide +kernel
theorem dL_isLab_86 : decode cL_isLab 86 = .ok (.goto (-74), 3) := by decide +kernel
theorem dL_isLab_89 : decode cL_isLab 89 = .ok (.iconst 0, 1) := by decide +kernel
theorem dL_isLab_90 : decode cL_isLab 90 = .ok (.istore 6, 2) := by decide +kernel
theorem dL_isLab_92 : decode cL_isLab 92 = .ok (.iload 6, 2) := by decide +kernel
theorem dL_isLab_94 : decode cL_isLab 94 = .ok (.iload_n 2, 1) := by decide +kernel
theorem dL_isLab_95 : decode cL_isLab 95 = .ok (.if_icmp .ge 220, 3) := by decide +kernel
theorem dL_isLab_98 : decode cL_isLab 98 = .ok (.aload_n 0, 1) := by decide +kernel
theorem dL_isLab_99 : decode cL_isLab 99 = .ok (.iload 6, 2) := by decide +kernel
theorem dL_isLab_101 : decode cL_isLab 101 = .ok (.invokevirtual 122, 3) := by decide +kernel
theorem dL_isLab_104 : decode cL_isLab 104 = .ok (.istore 7, 2) := by decide +kernel
theorem dL_isLab_106 : decode cL_isLab 106 = .ok (.aload_n 0, 1) := by decide +kernel
theorem dL_isLab_107 : decode cL_isLab 107 = .ok (.iload 6, 2) := by decide +kernel
theorem dL_isLab_109 : decode cL_isLab 109 = .ok (.invokestatic 125, 3) := by decide +kernel
theorem dL_isLab_112 : decode cL_isLab 112 = .ok (.istore 8, 2) := by decide +kernel
theorem dL_isLab_114 : decode cL_isLab 114 = .ok (.aload_n 0, 1) := by decide +kernel
theorem dL_isLab_115 : decode cL_isLab 115 = .ok (.iload 6, 2) := by decide +kernel
theorem dL_isLab_117 : decode cL_isLab 117 = .ok (.invokevirtual 128, 3) := by decide +kernel
theorem dL_isLab_120 : decode cL_isLab 120 = .ok (.ifCond .eq 69, 3) := by decide +kernel
theorem dL_isLab_123 : decode cL_isLab 123 = .ok (.aload_n 0, 1) := by decide +kernel
theorem dL_isLab_124 : decode cL_isLab 124 = .ok (.iload 6, 2) := by decide +kernel
theorem dL_isLab_126 : decode cL_isLab 126 = .ok (.iload 7, 2) := by decide +kernel
theorem dL_isLab_128 : decode cL_isLab 128 = .ok (.invokevirtual 88, 3) := by decide +kernel
theorem dL_isLab_131 : decode cL_isLab 131 = .ok (.bipush 6, 2) := by decide +kernel
theorem dL_isLab_133 : decode cL_isLab 133 = .ok (.if_icmp .ne 56, 3) := by decide +kernel
theorem dL_isLab_136 : decode cL_isLab 136 = .ok (.aload_n 0, 1) := by decide +kernel
theorem dL_isLab_137 : decode cL_isLab 137 = .ok (.iload 6, 2) := by decide +kernel
theorem dL_isLab_139 : decode cL_isLab 139 = .ok (.iconst 0, 1) := by decide +kernel
theorem dL_isLab_140 : decode cL_isLab 140 = .ok (.invokevirtual 60, 3) := by decide +kernel
theorem dL_isLab_143 : decode cL_isLab 143 = .ok (.aload_n 0, 1) := by decide +kernel
theorem dL_isLab_144 : decode cL_isLab 144 = .ok (.iload 7, 2) := by decide +kernel
theorem dL_isLab_146 : decode cL_isLab 146 = .ok (.iconst 0, 1) := by decide +kernel
theorem dL_isLab_147 : decode cL_isLab 147 = .ok (.invokevirtual 40, 3) := by decide +kernel
theorem dL_isLab_150 : decode cL_isLab 150 = .ok (.i2l, 1) := by decide +kernel
theorem dL_isLab_151 : decode cL_isLab 151 = .ok (.lcmp, 1) := by decide +kernel
theorem dL_isLab_152 : decode cL_isLab 152 = .ok (.ifCond .ne 37, 3) := by decide +kernel
theorem dL_isLab_155 : decode cL_isLab 155 = .ok (.iload 8, 2) := by decide +kernel
theorem dL_isLab_157 : decode cL_isLab 157 = .ok (.bipush 45, 2) := by decide +kernel
theorem dL_isLab_159 : decode cL_isLab 159 = .ok (.if_icmp .ne 13, 3) := by decide +kernel
theorem dL_isLab_162 : decode cL_isLab 162 = .ok (.aload_n 0, 1) := by decide +kernel
theorem dL_isLab_163 : decode cL_isLab 163 = .ok (.iload 7, 2) := by decide +kernel
theorem dL_isLab_165 : decode cL_isLab 165 = .ok (.invokevirtual 47, 3) := by decide +kernel
theorem dL_isLab_168 : decode cL_isLab 168 = .ok (.iload_n 3, 1) := by decide +kernel
theorem dL_isLab_169 : decode cL_isLab 169 = .ok (.if_icmp .gt 20, 3) := by decide +kernel
theorem dL_isLab_172 : decode cL_isLab 172 = .ok (.iload 8, 2) := by decide +kernel
theorem dL_isLab_174 : decode cL_isLab 174 = .ok (.bipush 111, 2) := by decide +kernel
theorem dL_isLab_176 : decode cL_isLab 176 = .ok (.if_icmp .ne 15, 3) := by decide +kernel
theorem dL_isLab_179 : decode cL_isLab 179 = .ok (.aload_n 0, 1) := by decide +kernel
theorem dL_isLab_180 : decode cL_isLab 180 = .ok (.iload 7, 2) := by decide +kernel
theorem dL_isLab_182 : decode cL_isLab 182 = .ok (.invokevirtual 47, 3) := by decide +kernel
theorem dL_isLab_185 : decode cL_isLab 185 = .ok (.iload_n 3, 1) := by decide +kernel
theorem dL_isLab_186 : decode cL_isLab 186 = .ok (.if_icmp .gt 5, 3) := by decide +kernel
theorem dL_isLab_189 : decode cL_isLab 189 = .ok (.iconst 0, 1) := by decide +kernel
theorem dL_isLab_190 : decode cL_isLab 190 = .ok (.ireturn, 1) := by decide +kernel
theorem dL_isLab_191 : decode cL_isLab 191 = .ok (.iconst 0, 1) := by decide +kernel
theorem dL_isLab_192 : decode cL_isLab 192 = .ok (.istore 9, 2) := by decide +kernel
theorem dL_isLab_194 : decode cL_isLab 194 = .ok (.iload 9, 2) := by decide +kernel
theorem dL_isLab_196 : decode cL_isLab 196 = .ok (.bipush 6, 2) := by decide +kernel
theorem dL_isLab_198 : decode cL_isLab 198 = .ok (.if_icmp .ge 94, 3) := by decide +kernel
theorem dL_isLab_201 : decode cL_isLab 201 = .ok (.lconst 0, 1) := by decide +kernel
theorem dL_isLab_202 : decode cL_isLab 202 = .ok (.lstore 10, 2) := by decide +kernel
theorem dL_isLab_204 : decode cL_isLab 204 = .ok (.iconst 0, 1) := by decide +kernel
theorem dL_isLab_205 : decode cL_isLab 205 = .ok (.istore 12, 2) := by decide +kernel
theorem dL_isLab_207 : decode cL_isLab 207 = .ok (.iload 12, 2) := by decide +kernel
theorem dL_isLab_209 : decode cL_isLab 209 = .ok (.iconst 4, 1) := by decide +kernel
theorem dL_isLab_210 : decode cL_isLab 210 = .ok (.if_icmp .ge 42, 3) := by decide +kernel
theorem dL_isLab_213 : decode cL_isLab 213 = .ok (.iload 12, 2) := by decide +kernel
theorem dL_isLab_215 : decode cL_isLab 215 = .ok (.iload 9, 2) := by decide +kernel
theorem dL_isLab_217 : decode cL_isLab 217 = .ok (.if_icmp .gt 35, 3) := by decide +kernel
theorem dL_isLab_220 : decode cL_isLab 220 = .ok (.lload 10, 2) := by decide +kernel
theorem dL_isLab_222 : decode cL_isLab 222 = .ok (.aload_n 0, 1) := by decide +kernel
theorem dL_isLab_223 : decode cL_isLab 223 = .ok (.iload 7, 2) := by decide +kernel
theorem dL_isLab_225 : decode cL_isLab 225 = .ok (.iload 12, 2) := by decide +kernel
theorem dL_isLab_227 : decode cL_isLab 227 = .ok (.invokevirtual 40, 3) := by decide +kernel
theorem dL_isLab_230 : decode cL_isLab 230 = .ok (.i2l, 1) := by decide +kernel
theorem dL_isLab_231 : decode cL_isLab 231 = .ok (.aload_n 0, 1) := by decide +kernel
theorem dL_isLab_232 : decode cL_isLab 232 = .ok (.iload 6, 2) := by decide +kernel
theorem dL_isLab_234 : decode cL_isLab 234 = .ok (.iload 9, 2) := by decide +kernel
theorem dL_isLab_236 : decode cL_isLab 236 = .ok (.iload 12, 2) := by decide +kernel
theorem dL_isLab_238 : decode cL_isLab 238 = .ok (.isub, 1) := by decide +kernel
theorem dL_isLab_239 : decode cL_isLab 239 = .ok (.invokevirtual 60, 3) := by decide +kernel
theorem dL_isLab_242 : decode cL_isLab 242 = .ok (.lmul, 1) := by decide +kernel
theorem dL_isLab_243 : decode cL_isLab 243 = .ok (.ladd, 1) := by decide +kernel
theorem dL_isLab_244 : decode cL_isLab 244 = .ok (.lstore 10, 2) := by decide +kernel
theorem dL_isLab_246 : decode cL_isLab 246 = .ok (.iinc 12 1, 3) := by decide +kernel
theorem dL_isLab_249 : decode cL_isLab 249 = .ok (.goto (-42), 3) := by decide +kernel
theorem dL_isLab_252 : decode cL_isLab 252 = .ok (.lload 10, 2) := by decide +kernel
theorem dL_isLab_254 : decode cL_isLab 254 = .ok (.iload 9, 2) := by decide +kernel
theorem dL_isLab_256 : decode cL_isLab 256 = .ok (.ifCond .ne 7, 3) := by decide +kernel
theorem dL_isLab_259 : decode cL_isLab 259 = .ok (.lconst 1, 1) := by decide +kernel
theorem dL_isLab_260 : decode cL_isLab 260 = .ok (.goto 4, 3) := by decide +kernel
theorem dL_isLab_263 : decode cL_isLab 263 = .ok (.lconst 0, 1) := by decide +kernel
theorem dL_isLab_264 : decode cL_isLab 264 = .ok (.lcmp, 1) := by decide +kernel
theorem dL_isLab_265 : decode cL_isLab 265 = .ok (.ifCond .ne 19, 3) := by decide +kernel
theorem dL_isLab_268 : decode cL_isLab 268 = .ok (.aload_n 0, 1) := by decide +kernel
theorem dL_isLab_269 : decode cL_isLab 269 = .ok (.iload 6, 2) := by decide +kernel
theorem dL_isLab_271 : decode cL_isLab 271 = .ok (.iload 7, 2) := by decide +kernel
theorem dL_isLab_273 : decode cL_isLab 273 = .ok (.iload 9, 2) := by decide +kernel
theorem dL_isLab_275 : decode cL_isLab 275 = .ok (.invokevirtual 84, 3) := by decide +kernel
theorem dL_isLab_278 : decode cL_isLab 278 = .ok (.lload 10, 2) := by decide +kernel
theorem dL_isLab_280 : decode cL_isLab 280 = .ok (.lcmp, 1) := by decide +kernel
theorem dL_isLab_281 : decode cL_isLab 281 = .ok (.ifCond .eq 5, 3) := by decide +kernel
theorem dL_isLab_284 : decode cL_isLab 284 = .ok (.iconst 0, 1) := by decide +kernel
theorem dL_isLab_285 : decode cL_isLab 285 = .ok (.ireturn, 1) := by decide +kernel
theorem dL_isLab_286 : decode cL_isLab 286 = .ok (.iinc 9 1, 3) := by decide +kernel
theorem dL_isLab_289 : decode cL_isLab 289 = .ok (.goto (-95), 3) := by decide +kernel
theorem dL_isLab_292 : decode cL_isLab 292 = .ok (.iload 4, 2) := by decide +kernel
theorem dL_isLab_294 : decode cL_isLab 294 = .ok (.iload 8, 2) := by decide +kernel
theorem dL_isLab_296 : decode cL_isLab 296 = .ok (.bipush 45, 2) := by decide +kernel
theorem dL_isLab_298 : decode cL_isLab 298 = .ok (.if_icmp .ne 7, 3) := by decide +kernel
theorem dL_isLab_301 : decode cL_isLab 301 = .ok (.iconst 1, 1) := by decide +kernel
theorem dL_isLab_302 : decode cL_isLab 302 = .ok (.goto 4, 3) := by decide +kernel
theorem dL_isLab_305 : decode cL_isLab 305 = .ok (.iconst 0, 1) := by decide +kernel
theorem dL_isLab_306 : decode cL_isLab 306 = .ok (.iadd, 1) := by decide +kernel
theorem dL_isLab_307 : decode cL_isLab 307 = .ok (.istore 4, 2) := by decide +kernel
theorem dL_isLab_309 : decode cL_isLab 309 = .ok (.iinc 6 1, 3) := by decide +kernel
theorem dL_isLab_312 : decode cL_isLab 312 = .ok (.goto (-220), 3) := by decide +kernel
theorem dL_isLab_315 : decode cL_isLab 315 = .ok (.iconst 0, 1) := by decide +kernel
theorem dL_isLab_316 : decode cL_isLab 316 = .ok (.istore 6, 2) := by decide +kernel
theorem dL_isLab_318 : decode cL_isLab 318 = .ok (.iconst 0, 1) := by decide +kernel
theorem dL_isLab_319 : decode cL_isLab 319 = .ok (.istore 7, 2) := by decide +kernel
theorem dL_isLab_321 : decode cL_isLab 321 = .ok (.iload 7, 2) := by decide +kernel
theorem dL_isLab_323 : decode cL_isLab 323 = .ok (.iload_n 1, 1) := by decide +kernel
theorem dL_isLab_324 : decode cL_isLab 324 = .ok (.if_icmp .ge 52, 3) := by decide +kernel
theorem dL_isLab_327 : decode cL_isLab 327 = .ok (.iload 6, 2) := by decide +kernel
theorem dL_isLab_329 : decode cL_isLab 329 = .ok (.aload_n 0, 1) := by decide +kernel
theorem dL_isLab_330 : decode cL_isLab 330 = .ok (.iload 7, 2) := by decide +kernel
theorem dL_isLab_332 : decode cL_isLab 332 = .ok (.invokevirtual 54, 3) := by decide +kernel
theorem dL_isLab_335 : decode cL_isLab 335 = .ok (.iadd, 1) := by decide +kernel
theorem dL_isLab_336 : decode cL_isLab 336 = .ok (.istore 6, 2) := by decide +kernel
theorem dL_isLab_338 : decode cL_isLab 338 = .ok (.aload_n 0, 1) := by decide +kernel
theorem dL_isLab_339 : decode cL_isLab 339 = .ok (.iload 7, 2) := by decide +kernel
theorem dL_isLab_341 : decode cL_isLab 341 = .ok (.invokevirtual 32, 3) := by decide +kernel
theorem dL_isLab_344 : decode cL_isLab 344 = .ok (.ifCond .lt 24, 3) := by decide +kernel
theorem dL_isLab_347 : decode cL_isLab 347 = .ok (.aload_n 0, 1) := by decide +kernel
theorem dL_isLab_348 : decode cL_isLab 348 = .ok (.iload 7, 2) := by decide +kernel
theorem dL_isLab_350 : decode cL_isLab 350 = .ok (.invokevirtual 132, 3) := by decide +kernel
theorem dL_isLab_353 : decode cL_isLab 353 = .ok (.iconst 3, 1) := by decide +kernel
theorem dL_isLab_354 : decode cL_isLab 354 = .ok (.if_icmp .gt 14, 3) := by decide +kernel
theorem dL_isLab_357 : decode cL_isLab 357 = .ok (.aload_n 0, 1) := by decide +kernel
theorem dL_isLab_358 : decode cL_isLab 358 = .ok (.iload 7, 2) := by decide +kernel
theorem dL_isLab_360 : decode cL_isLab 360 = .ok (.invokevirtual 135, 3) := by decide +kernel
theorem dL_isLab_363 : decode cL_isLab 363 = .ok (.bipush 9, 2) := by decide +kernel
theorem dL_isLab_365 : decode cL_isLab 365 = .ok (.if_icmp .le 5, 3) := by decide +kernel
theorem dL_isLab_368 : decode cL_isLab 368 = .ok (.iconst 0, 1) := by decide +kernel
theorem dL_isLab_369 : decode cL_isLab 369 = .ok (.ireturn, 1) := by decide +kernel
theorem dL_isLab_370 : decode cL_isLab 370 = .ok (.iinc 7 1, 3) := by decide +kernel
theorem dL_isLab_373 : decode cL_isLab 373 = .ok (.goto (-52), 3) := by decide +kernel
theorem dL_isLab_376 : decode cL_isLab 376 = .ok (.aload_n 0, 1) := by decide +kernel
theorem dL_isLab_377 : decode cL_isLab 377 = .ok (.invokevirtual 138, 3) := by decide +kernel
theorem dL_isLab_380 : decode cL_isLab 380 = .ok (.iload 4, 2) := by decide +kernel
theorem dL_isLab_382 : decode cL_isLab 382 = .ok (.if_icmp .ne 76, 3) := by decide +kernel
theorem dL_isLab_385 : decode cL_isLab 385 = .ok (.iload_n 2, 1) := by decide +kernel
theorem dL_isLab_386 : decode cL_isLab 386 = .ok (.ifCond .eq 17, 3) := by decide +kernel
theorem dL_isLab_389 : decode cL_isLab 389 = .ok (.aload_n 0, 1) := by decide +kernel
theorem dL_isLab_390 : decode cL_isLab 390 = .ok (.invokevirtual 141, 3) := by decide +kernel
theorem dL_isLab_393 : decode cL_isLab 393 = .ok (.iload 4, 2) := by decide +kernel
theorem dL_isLab_395 : decode cL_isLab 395 = .ok (.i2f, 1) := by decide +kernel
theorem dL_isLab_396 : decode cL_isLab 396 = .ok (.iload_n 2, 1) := by decide +kernel
theorem dL_isLab_397 : decode cL_isLab 397 = .ok (.i2f, 1) := by decide +kernel
theorem dL_isLab_398 : decode cL_isLab 398 = .ok (.fdiv, 1) := by decide +kernel
theorem dL_isLab_399 : decode cL_isLab 399 = .ok (.fcmp .l, 1) := by decide +kernel
theorem dL_isLab_400 : decode cL_isLab 400 = .ok (.ifCond .ne 58, 3) := by decide +kernel
theorem dL_isLab_403 : decode cL_isLab 403 = .ok (.iload 6, 2) := by decide +kernel
theorem dL_isLab_405 : decode cL_isLab 405 = .ok (.iload 5, 2) := by decide +kernel
theorem dL_isLab_407 : decode cL_isLab 407 = .ok (.if_icmp .gt 51, 3) := by decide +kernel
theorem dL_isLab_410 : decode cL_isLab 410 = .ok (.iload 5, 2) := by decide +kernel
theorem dL_isLab_412 : decode cL_isLab 412 = .ok (.ifCond .ne 7, 3) := by decide +kernel
theorem dL_isLab_415 : decode cL_isLab 415 = .ok (.iconst 1, 1) := by decide +kernel
theorem dL_isLab_416 : decode cL_isLab 416 = .ok (.goto 4, 3) := by decide +kernel
theorem dL_isLab_419 : decode cL_isLab 419 = .ok (.iconst 0, 1) := by decide +kernel
theorem dL_isLab_420 : decode cL_isLab 420 = .ok (.iload 6, 2) := by decide +kernel
theorem dL_isLab_422 : decode cL_isLab 422 = .ok (.ifCond .ne 7, 3) := by decide +kernel
theorem dL_isLab_425 : decode cL_isLab 425 = .ok (.iconst 1, 1) := by decide +kernel
theorem dL_isLab_426 : decode cL_isLab 426 = .ok (.goto 4, 3) := by decide +kernel
theorem dL_isLab_429 : decode cL_isLab 429 = .ok (.iconst 0, 1) := by decide +kernel
theorem dL_isLab_430 : decode cL_isLab 430 = .ok (.if_icmp .ne 28, 3) := by decide +kernel
theorem dL_isLab_433 : decode cL_isLab 433 = .ok (.aload_n 0, 1) := by decide +kernel
theorem dL_isLab_434 : decode cL_isLab 434 = .ok (.iload_n 2, 1) := by decide +kernel
theorem dL_isLab_435 : decode cL_isLab 435 = .ok (.invokestatic 125, 3) := by decide +kernel
theorem dL_isLab_438 : decode cL_isLab 438 = .ok (.ldc 28, 2) := by decide +kernel
theorem dL_isLab_440 : decode cL_isLab 440 = .ok (.if_icmp .ne 18, 3) := by decide +kernel
theorem dL_isLab_443 : decode cL_isLab 443 = .ok (.aload_n 0, 1) := by decide +kernel
theorem dL_isLab_444 : decode cL_isLab 444 = .ok (.iload 5, 2) := by decide +kernel
theorem dL_isLab_446 : decode cL_isLab 446 = .ok (.invokestatic 145, 3) := by decide +kernel
theorem dL_isLab_449 : decode cL_isLab 449 = .ok (.ldc 28, 2) := by decide +kernel
theorem dL_isLab_451 : decode cL_isLab 451 = .ok (.if_icmp .ne 7, 3) := by decide +kernel
theorem dL_isLab_454 : decode cL_isLab 454 = .ok (.iconst 1, 1) := by decide +kernel
theorem dL_isLab_455 : decode cL_isLab 455 = .ok (.goto 4, 3) := by decide +kernel
theorem dL_isLab_458 : decode cL_isLab 458 = .ok (.iconst 0, 1) := by decide +kernel
theorem dL_isLab_459 : decode cL_isLab 459 = .ok (.ireturn, 1) := by decide +kernel
